abbrev M_J15_checkIndex_7cf53 : Mt := (yJ15_checkIndex_7cf53, cJ15_checkIndex_7cf53, 2, (Option.some Jvm.ClassFile.FieldType.int), [])
abbrev M_J3_checkIndex_8e157 : Mt := (yJ3_checkIndex_8e157, cJ3_checkIndex_8e157, 3, (Option.some Jvm.ClassFile.FieldType.int), [])
abbrev M_J7_copyOf_1904c : Mt := (yJ7_copyOf_1904c, cJ7_copyOf_1904c, 2, (Option.some (Jvm.ClassFile.FieldType.array (Jvm.ClassFile.FieldType.object "java/lang/Object"))), [])
abbrev M_J7_copyOf_6403c : Mt := (yJ7_copyOf_6403c, cJ7_copyOf_6403c, 4, (Option.some (Jvm.ClassFile.FieldType.array (Jvm.ClassFile.FieldType.object "java/lang/Object"))), [])
abbrev M_J7_fill_53178 : Mt := (yJ7_fill_53178, cJ7_fill_53178, 4, (Option.none : Option Jvm.ClassFile.FieldType), [])
abbrev M_J8_hugeLength_7cf53 : Mt := (yJ8_hugeLength_7cf53, cJ8_hugeLength_7cf53, 3, (Option.some Jvm.ClassFile.FieldType.int), [])
abbrev M_J8_newLength_cabcc : Mt := (yJ8_newLength_cabcc, cJ8_newLength_cabcc, 4, (Option.some Jvm.ClassFile.FieldType.int), [])
abbrev M_J9_max_7cf53 : Mt := (yJ9_max_7cf53, cJ9_max_7cf53, 2, (Option.some Jvm.ClassFile.FieldType.int), [])
abbrev M_J9_min_7cf53 : Mt := (yJ9_min_7cf53, cJ9_min_7cf53, 2, (Option.some Jvm.ClassFile.FieldType.int), [])
abbrev M_Jx00060_init_a7421 : Mt := (yJx00060_init_a7421, cJx00060_init_a7421, 2, (Option.none : Option Jvm.ClassFile.FieldType), [])
abbrev M_Jx4a65c_add_72be8 : Mt := (yJx4a65c_add_72be8, cJx4a65c_add_72be8, 4, (Option.none : Option Jvm.ClassFile.FieldType), [])
abbrev M_Jx4a65c_add_9ea2d : Mt := (yJx4a65c_add_9ea2d, cJx4a65c_add_9ea2d, 2, (Option.some Jvm.ClassFile.FieldType.boolean), [])
abbrev M_Jx4a65c_clear_da8c8 : Mt := (yJx4a65c_clear_da8c8, cJx4a65c_clear_da8c8, 4, (Option.none : Option Jvm.ClassFile.FieldType), [])
abbrev M_Jx4a65c_elementData_915e3 : Mt := (yJx4a65c_elementData_915e3, cJx4a65c_elementData_915e3, 2, (Option.some (Jvm.ClassFile.FieldType.object "java/lang/Object")), [])
abbrev M_Jx4a65c_fastRemove_b59b0 : Mt := (yJx4a65c_fastRemove_b59b0, cJx4a65c_fastRemove_b59b0, 4, (Option.none : Option Jvm.ClassFile.FieldType), [])
abbrev M_Jx4a65c_get_915e3 : Mt := (yJx4a65c_get_915e3, cJx4a65c_get_915e3, 2, (Option.some (Jvm.ClassFile.FieldType.object "java/lang/Object")), [])
abbrev M_Jx4a65c_grow_92f84 : Mt := (yJx4a65c_grow_92f84, cJx4a65c_grow_92f84, 4, (Option.some (Jvm.ClassFile.FieldType.array (Jvm.ClassFile.FieldType.object "java/lang/Object"))), [])
abbrev M_Jx4a65c_grow_d5877 : Mt := (yJx4a65c_grow_d5877, cJx4a65c_grow_d5877, 1, (Option.some (Jvm.ClassFile.FieldType.array (Jvm.ClassFile.FieldType.object "java/lang/Object"))), [])
abbrev M_Jx4a65c_init_da8c8 : Mt := (yJx4a65c_init_da8c8, cJx4a65c_init_da8c8, 1, (Option.none : Option Jvm.ClassFile.FieldType), [])
abbrev M_Jx4a65c_remove_915e3 : Mt := (yJx4a65c_remove_915e3, cJx4a65c_remove_915e3, 4, (Option.some (Jvm.ClassFile.FieldType.object "java/lang/Object")), [])
abbrev M_Jx4a65c_size_8abf5 : Mt := (yJx4a65c_size_8abf5, cJx4a65c_size_8abf5, 1, (Option.some Jvm.ClassFile.FieldType.int), [])
abbrev M_Jxa1e45_init_da8c8 : Mt := (yJxa1e45_init_da8c8, cJxa1e45_init_da8c8, 1, (Option.none : Option Jvm.ClassFile.FieldType), [])
abbrev M_Jxc12de_init_da8c8 : Mt := (yJxc12de_init_da8c8, cJxc12de_init_da8c8, 1, (Option.none : Option Jvm.ClassFile.FieldType), [])
abbrev M_X0_allNeeds : Mt := (yX0_allNeeds, cX0_allNeeds, 3, (Option.some Jvm.ClassFile.FieldType.int), [])
abbrev M_X0_countIn : Mt := (yX0_countIn, cX0_countIn, 2, (Option.some Jvm.ClassFile.FieldType.int), [])
abbrev M_X0_findSlotsFor : Mt := (yX0_findSlotsFor, cX0_findSlotsFor, 5, (Option.some Jvm.ClassFile.FieldType.int), [])
abbrev M_X0_firstBestRule : Mt := (yX0_firstBestRule, cX0_firstBestRule, 5, (Option.some Jvm.ClassFile.FieldType.int), [])
abbrev M_X0_firstBestSlot : Mt := (yX0_firstBestSlot, cX0_firstBestSlot, 5, (Option.some Jvm.ClassFile.FieldType.int), [])
abbrev M_X0_give : Mt := (yX0_give, cX0_give, 6, (Option.some Jvm.ClassFile.FieldType.boolean), [])
abbrev M_X0_giveAll : Mt := (yX0_giveAll, cX0_giveAll, 1, (Option.some Jvm.ClassFile.FieldType.int), [])
abbrev M_X0_giveFrom : Mt := (yX0_giveFrom, cX0_giveFrom, 4, (Option.some Jvm.ClassFile.FieldType.int), [])
abbrev M_X0_handOn : Mt := (yX0_handOn, cX0_handOn, 6, (Option.none : Option Jvm.ClassFile.FieldType), [])
abbrev M_X0_init : Mt := (yX0_init, cX0_init, 1, (Option.none : Option Jvm.ClassFile.FieldType), [])
abbrev M_X0_isFit : Mt := (yX0_isFit, cX0_isFit, 3, (Option.some Jvm.ClassFile.FieldType.boolean), [])
abbrev M_X0_mostTried : Mt := (yX0_mostTried, cX0_mostTried, 5, (Option.some Jvm.ClassFile.FieldType.int), [])
abbrev M_X0_noteFits : Mt := (yX0_noteFits, cX0_noteFits, 6, (Option.none : Option Jvm.ClassFile.FieldType), [])
abbrev M_X0_open : Mt := (yX0_open, cX0_open, 6, (Option.none : Option Jvm.ClassFile.FieldType), [])
abbrev M_X0_ruleBits : Mt := (yX0_ruleBits, cX0_ruleBits, 4, (Option.some Jvm.ClassFile.FieldType.int), [])
abbrev M_X0_shortRules : Mt := (yX0_shortRules, cX0_shortRules, 4, (Option.some Jvm.ClassFile.FieldType.int), [])
abbrev M_X0_shortRulesByTrial : Mt := (yX0_shortRulesByTrial, cX0_shortRulesByTrial, 4, (Option.some Jvm.ClassFile.FieldType.int), [])
abbrev M_X0_sumOf : Mt := (yX0_sumOf, cX0_sumOf, 4, (Option.some Jvm.ClassFile.FieldType.int), [])
abbrev M_X0_trials : Mt := (yX0_trials, cX0_trials, 1, (Option.some Jvm.ClassFile.FieldType.int), [])
abbrev M_X0_tryAll : Mt := (yX0_tryAll, cX0_tryAll, 2, (Option.some Jvm.ClassFile.FieldType.int), [])
abbrev M_X0_tryCourse : Mt := (yX0_tryCourse, cX0_tryCourse, 4, (Option.none : Option Jvm.ClassFile.FieldType), [])
abbrev M_X10_init : Mt := (yX10_init, cX10_init, 1, (Option.none : Option Jvm.ClassFile.FieldType), [])
abbrev M_X10_put : Mt := (yX10_put, cX10_put, 2, (Option.none : Option Jvm.ClassFile.FieldType), [])
abbrev M_X10_putEntries : Mt := (yX10_putEntries, cX10_putEntries, 5, (Option.none : Option Jvm.ClassFile.FieldType), [])
abbrev M_X10_putNumber : Mt := (yX10_putNumber, cX10_putNumber, 2, (Option.none : Option Jvm.ClassFile.FieldType), [])
abbrev M_X10_write : Mt := (yX10_write, cX10_write, 4, (Option.none : Option Jvm.ClassFile.FieldType), [])
abbrev M_X11_addCourse : Mt := (yX11_addCourse, cX11_addCourse, 3, (Option.some Jvm.ClassFile.FieldType.int), [])
abbrev M_X11_addRule : Mt := (yX11_addRule, cX11_addRule, 4, (Option.some Jvm.ClassFile.FieldType.int), [])
abbrev M_X11_addStudent : Mt := (yX11_addStudent, cX11_addStudent, 2, (Option.some Jvm.ClassFile.FieldType.int), [])
abbrev M_X11_allEarned : Mt := (yX11_allEarned, cX11_allEarned, 4, (Option.some Jvm.ClassFile.FieldType.long), [])
abbrev M_X11_allFormula : Mt := (yX11_allFormula, cX11_allFormula, 4, (Option.some Jvm.ClassFile.FieldType.int), [])
abbrev M_X11_allow : Mt := (yX11_allow, cX11_allow, 5, (Option.some Jvm.ClassFile.FieldType.boolean), [])
abbrev M_X11_anyFormula : Mt := (yX11_anyFormula, cX11_anyFormula, 4, (Option.some Jvm.ClassFile.FieldType.int), [])
abbrev M_X11_attempts : Mt := (yX11_attempts, cX11_attempts, 4, (Option.some Jvm.ClassFile.FieldType.int), [])
abbrev M_X11_auditsAgree : Mt := (yX11_auditsAgree, cX11_auditsAgree, 3, (Option.some Jvm.ClassFile.FieldType.boolean), [])
abbrev M_X11_average : Mt := (yX11_average, cX11_average, 8, (Option.some Jvm.ClassFile.FieldType.double), [])
abbrev M_X11_bestMark : Mt := (yX11_bestMark, cX11_bestMark, 4, (Option.some Jvm.ClassFile.FieldType.int), [])
abbrev M_X11_canBear : Mt := (yX11_canBear, cX11_canBear, 3, (Option.some Jvm.ClassFile.FieldType.boolean), [])
abbrev M_X11_canGraduate : Mt := (yX11_canGraduate, cX11_canGraduate, 3, (Option.some Jvm.ClassFile.FieldType.boolean), [])
abbrev M_X11_canTakeSeat : Mt := (yX11_canTakeSeat, cX11_canTakeSeat, 3, (Option.some Jvm.ClassFile.FieldType.boolean), [])
abbrev M_X11_changeMajor : Mt := (yX11_changeMajor, cX11_changeMajor, 5, (Option.some Jvm.ClassFile.FieldType.int), [])
abbrev M_X11_checkFormulaFits : Mt := (yX11_checkFormulaFits, cX11_checkFormulaFits, 2, (Option.none : Option Jvm.ClassFile.FieldType), [])
abbrev M_X11_checkMajor : Mt := (yX11_checkMajor, cX11_checkMajor, 1, (Option.none : Option Jvm.ClassFile.FieldType), [])
abbrev M_X11_checkMark : Mt := (yX11_checkMark, cX11_checkMark, 1, (Option.none : Option Jvm.ClassFile.FieldType), [])
abbrev M_X11_courseAt : Mt := (yX11_courseAt, cX11_courseAt, 2, (Option.some (Jvm.ClassFile.FieldType.object "Prereqs$Course")), [])
abbrev M_X11_creditsEarned : Mt := (yX11_creditsEarned, cX11_creditsEarned, 4, (Option.some Jvm.ClassFile.FieldType.int), [])
abbrev M_X11_creditsFormula : Mt := (yX11_creditsFormula, cX11_creditsFormula, 2, (Option.some Jvm.ClassFile.FieldType.int), [])
abbrev M_X11_creditsMovedIn : Mt := (yX11_creditsMovedIn, cX11_creditsMovedIn, 4, (Option.some Jvm.ClassFile.FieldType.int), [])
abbrev M_X11_day : Mt := (yX11_day, cX11_day, 1, (Option.some Jvm.ClassFile.FieldType.int), [])
abbrev M_X11_drop : Mt := (yX11_drop, cX11_drop, 6, (Option.some Jvm.ClassFile.FieldType.char), [])
abbrev M_X11_earnedCredits : Mt := (yX11_earnedCredits, cX11_earnedCredits, 2, (Option.some Jvm.ClassFile.FieldType.int), [])
abbrev M_X11_emptyWaitingLists : Mt := (yX11_emptyWaitingLists, cX11_emptyWaitingLists, 2, (Option.none : Option Jvm.ClassFile.FieldType), [])
abbrev M_X11_endTerm : Mt := (yX11_endTerm, cX11_endTerm, 3, (Option.some Jvm.ClassFile.FieldType.int), [])
abbrev M_X11_endWithOthers : Mt := (yX11_endWithOthers, cX11_endWithOthers, 5, (Option.none : Option Jvm.ClassFile.FieldType), [])
abbrev M_X11_enroll : Mt := (yX11_enroll, cX11_enroll, 6, (Option.some Jvm.ClassFile.FieldType.char), [])
abbrev M_X11_enrolled : Mt := (yX11_enrolled, cX11_enrolled, 2, (Option.some Jvm.ClassFile.FieldType.int), [])
abbrev M_X11_fillReason : Mt := (yX11_fillReason, cX11_fillReason, 8, (Option.some Jvm.ClassFile.FieldType.int), [])
abbrev M_X11_firstUnmet : Mt := (yX11_firstUnmet, cX11_firstUnmet, 5, (Option.some Jvm.ClassFile.FieldType.int), [])
abbrev M_X11_formulaAt : Mt := (yX11_formulaAt, cX11_formulaAt, 2, (Option.some (Jvm.ClassFile.FieldType.object "Prereqs$Formula")), [])
abbrev M_X11_freeFor : Mt := (yX11_freeFor, cX11_freeFor, 5, (Option.some Jvm.ClassFile.FieldType.int), [])
abbrev M_X11_freeSeats : Mt := (yX11_freeSeats, cX11_freeSeats, 4, (Option.some Jvm.ClassFile.FieldType.int), [])
abbrev M_X11_giveOutSeats : Mt := (yX11_giveOutSeats, cX11_giveOutSeats, 3, (Option.none : Option Jvm.ClassFile.FieldType), [])
abbrev M_X11_giveSeatIn : Mt := (yX11_giveSeatIn, cX11_giveSeatIn, 4, (Option.some Jvm.ClassFile.FieldType.boolean), [])
abbrev M_X11_holds : Mt := (yX11_holds, cX11_holds, 4, (Option.some Jvm.ClassFile.FieldType.boolean), [])
abbrev M_X11_init : Mt := (yX11_init, cX11_init, 1, (Option.none : Option Jvm.ClassFile.FieldType), [])
abbrev M_X11_isCourseSound : Mt := (yX11_isCourseSound, cX11_isCourseSound, 4, (Option.some Jvm.ClassFile.FieldType.boolean), [])
abbrev M_X11_isEnrolled : Mt := (yX11_isEnrolled, cX11_isEnrolled, 4, (Option.some Jvm.ClassFile.FieldType.boolean), [])
abbrev M_X11_isMet : Mt := (yX11_isMet, cX11_isMet, 3, (Option.some Jvm.ClassFile.FieldType.boolean), [])
abbrev M_X11_isSound : Mt := (yX11_isSound, cX11_isSound, 3, (Option.some Jvm.ClassFile.FieldType.boolean), [])
abbrev M_X11_isWithdrawalDay : Mt := (yX11_isWithdrawalDay, cX11_isWithdrawalDay, 1, (Option.some Jvm.ClassFile.FieldType.boolean), [])
abbrev M_X11_isWithin : Mt := (yX11_isWithin, cX11_isWithin, 3, (Option.some Jvm.ClassFile.FieldType.boolean), [])
abbrev M_X11_keep : Mt := (yX11_keep, cX11_keep, 2, (Option.some Jvm.ClassFile.FieldType.int), [])
abbrev M_X11_lackingByTrial : Mt := (yX11_lackingByTrial, cX11_lackingByTrial, 2, (Option.some Jvm.ClassFile.FieldType.int), [])
abbrev M_X11_lackingRules : Mt := (yX11_lackingRules, cX11_lackingRules, 2, (Option.some Jvm.ClassFile.FieldType.int), [])
abbrev M_X11_letterFor : Mt := (yX11_letterFor, cX11_letterFor, 3, (Option.some Jvm.ClassFile.FieldType.char), [])
abbrev M_X11_lift : Mt := (yX11_lift, cX11_lift, 4, (Option.some Jvm.ClassFile.FieldType.boolean), [])
abbrev M_X11_load : Mt := (yX11_load, cX11_load, 2, (Option.some Jvm.ClassFile.FieldType.int), [])
abbrev M_X11_loadOn : Mt := (yX11_loadOn, cX11_loadOn, 4, (Option.some Jvm.ClassFile.FieldType.int), [])
abbrev M_X11_majorOf : Mt := (yX11_majorOf, cX11_majorOf, 2, (Option.some Jvm.ClassFile.FieldType.int), [])
abbrev M_X11_mark : Mt := (yX11_mark, cX11_mark, 6, (Option.some Jvm.ClassFile.FieldType.boolean), [])
abbrev M_X11_markFormula : Mt := (yX11_markFormula, cX11_markFormula, 3, (Option.some Jvm.ClassFile.FieldType.int), [])
abbrev M_X11_mostMet : Mt := (yX11_mostMet, cX11_mostMet, 2, (Option.some Jvm.ClassFile.FieldType.int), [])
abbrev M_X11_mostMetByTrial : Mt := (yX11_mostMetByTrial, cX11_mostMetByTrial, 2, (Option.some Jvm.ClassFile.FieldType.int), [])
abbrev M_X11_mostMetIf : Mt := (yX11_mostMetIf, cX11_mostMetIf, 2, (Option.some Jvm.ClassFile.FieldType.int), [])
abbrev M_X11_moveIn : Mt := (yX11_moveIn, cX11_moveIn, 6, (Option.some Jvm.ClassFile.FieldType.int), [])
abbrev M_X11_noneFormula : Mt := (yX11_noneFormula, cX11_noneFormula, 3, (Option.some Jvm.ClassFile.FieldType.int), [])
abbrev M_X11_outcome : Mt := (yX11_outcome, cX11_outcome, 4, (Option.some Jvm.ClassFile.FieldType.char), [])
abbrev M_X11_pass : Mt := (yX11_pass, cX11_pass, 3, (Option.some Jvm.ClassFile.FieldType.int), [])
abbrev M_X11_placeOf : Mt := (yX11_placeOf, cX11_placeOf, 5, (Option.some Jvm.ClassFile.FieldType.int), [])
abbrev M_X11_require : Mt := (yX11_require, cX11_require, 5, (Option.some Jvm.ClassFile.FieldType.boolean), [])
abbrev M_X11_requisiteHolds : Mt := (yX11_requisiteHolds, cX11_requisiteHolds, 3, (Option.some Jvm.ClassFile.FieldType.boolean), [])
abbrev M_X11_reserve : Mt := (yX11_reserve, cX11_reserve, 6, (Option.some Jvm.ClassFile.FieldType.int), [])
abbrev M_X11_ruleAt : Mt := (yX11_ruleAt, cX11_ruleAt, 2, (Option.some (Jvm.ClassFile.FieldType.object "Prereqs$Rule")), [])
abbrev M_X11_ruleFor : Mt := (yX11_ruleFor, cX11_ruleFor, 5, (Option.some Jvm.ClassFile.FieldType.int), [])
abbrev M_X11_rulesOf : Mt := (yX11_rulesOf, cX11_rulesOf, 4, (Option.some Jvm.ClassFile.FieldType.int), [])
abbrev M_X11_setDegree : Mt := (yX11_setDegree, cX11_setDegree, 4, (Option.some Jvm.ClassFile.FieldType.int), [])
abbrev M_X11_share : Mt := (yX11_share, cX11_share, 3, (Option.some Jvm.ClassFile.FieldType.float), [])
abbrev M_X11_studentAt : Mt := (yX11_studentAt, cX11_studentAt, 2, (Option.some (Jvm.ClassFile.FieldType.object "Prereqs$Student")), [])
abbrev M_X11_studyOneTerm : Mt := (yX11_studyOneTerm, cX11_studyOneTerm, 5, (Option.none : Option Jvm.ClassFile.FieldType), [])
abbrev M_X11_swap : Mt := (yX11_swap, cX11_swap, 8, (Option.some Jvm.ClassFile.FieldType.int), [])
abbrev M_X11_takersOf : Mt := (yX11_takersOf, cX11_takersOf, 4, (Option.some Jvm.ClassFile.FieldType.int), [])
abbrev M_X11_takersOfMajor : Mt := (yX11_takersOfMajor, cX11_takersOfMajor, 6, (Option.some Jvm.ClassFile.FieldType.int), [])
abbrev M_X11_term : Mt := (yX11_term, cX11_term, 1, (Option.some Jvm.ClassFile.FieldType.int), [])
abbrev M_X11_termsTo : Mt := (yX11_termsTo, cX11_termsTo, 3, (Option.some Jvm.ClassFile.FieldType.int), [])
abbrev M_X11_togetherFormula : Mt := (yX11_togetherFormula, cX11_togetherFormula, 2, (Option.some Jvm.ClassFile.FieldType.int), [])
abbrev M_X11_transcriptAt : Mt := (yX11_transcriptAt, cX11_transcriptAt, 3, (Option.some Jvm.ClassFile.FieldType.char), [])
abbrev M_X11_transcriptLength : Mt := (yX11_transcriptLength, cX11_transcriptLength, 2, (Option.some Jvm.ClassFile.FieldType.int), [])
abbrev M_X11_truthsFor : Mt := (yX11_truthsFor, cX11_truthsFor, 6, (Option.some Jvm.ClassFile.FieldType.long), [])
abbrev M_X11_twoFormula : Mt := (yX11_twoFormula, cX11_twoFormula, 6, (Option.some Jvm.ClassFile.FieldType.int), [])
abbrev M_X11_waiting : Mt := (yX11_waiting, cX11_waiting, 2, (Option.some Jvm.ClassFile.FieldType.int), [])
abbrev M_X11_whyLong : Mt := (yX11_whyLong, cX11_whyLong, 3, (Option.some Jvm.ClassFile.FieldType.int), [])
abbrev M_X11_whyNot : Mt := (yX11_whyNot, cX11_whyNot, 4, (Option.some Jvm.ClassFile.FieldType.int), [])
abbrev M_X12_add : Mt := (yX12_add, cX12_add, 6, (Option.some Jvm.ClassFile.FieldType.int), [])
abbrev M_X12_addCourse : Mt := (yX12_addCourse, cX12_addCourse, 3, (Option.some Jvm.ClassFile.FieldType.int), [])
abbrev M_X12_addRule : Mt := (yX12_addRule, cX12_addRule, 5, (Option.some Jvm.ClassFile.FieldType.int), [])
abbrev M_X12_addStudent : Mt := (yX12_addStudent, cX12_addStudent, 2, (Option.some Jvm.ClassFile.FieldType.int), [])
abbrev M_X12_allEarned : Mt := (yX12_allEarned, cX12_allEarned, 4, (Option.some Jvm.ClassFile.FieldType.long), [])
abbrev M_X12_allFormula : Mt := (yX12_allFormula, cX12_allFormula, 3, (Option.some Jvm.ClassFile.FieldType.int), [])
abbrev M_X12_allow : Mt := (yX12_allow, cX12_allow, 4, (Option.some Jvm.ClassFile.FieldType.boolean), [])
abbrev M_X12_anyFormula : Mt := (yX12_anyFormula, cX12_anyFormula, 3, (Option.some Jvm.ClassFile.FieldType.int), [])
abbrev M_X12_at : Mt := (yX12_at, cX12_at, 2, (Option.some Jvm.ClassFile.FieldType.int), [])
abbrev M_X12_attempts : Mt := (yX12_attempts, cX12_attempts, 3, (Option.some Jvm.ClassFile.FieldType.int), [])
abbrev M_X12_average : Mt := (yX12_average, cX12_average, 6, (Option.some Jvm.ClassFile.FieldType.double), [])
abbrev M_X12_bestMark : Mt := (yX12_bestMark, cX12_bestMark, 4, (Option.some Jvm.ClassFile.FieldType.int), [])
abbrev M_X12_bestOf : Mt := (yX12_bestOf, cX12_bestOf, 6, (Option.some Jvm.ClassFile.FieldType.int), [])
abbrev M_X12_canGive : Mt := (yX12_canGive, cX12_canGive, 4, (Option.some Jvm.ClassFile.FieldType.boolean), [])
abbrev M_X12_canGraduate : Mt := (yX12_canGraduate, cX12_canGraduate, 5, (Option.some Jvm.ClassFile.FieldType.boolean), [])
abbrev M_X12_canTake : Mt := (yX12_canTake, cX12_canTake, 3, (Option.some Jvm.ClassFile.FieldType.boolean), [])
abbrev M_X12_changeMajor : Mt := (yX12_changeMajor, cX12_changeMajor, 4, (Option.some Jvm.ClassFile.FieldType.int), [])
abbrev M_X12_counts : Mt := (yX12_counts, cX12_counts, 4, (Option.some Jvm.ClassFile.FieldType.boolean), [])
abbrev M_X12_creditsFormula : Mt := (yX12_creditsFormula, cX12_creditsFormula, 2, (Option.some Jvm.ClassFile.FieldType.int), [])
abbrev M_X12_creditsOf : Mt := (yX12_creditsOf, cX12_creditsOf, 4, (Option.some Jvm.ClassFile.FieldType.int), [])
abbrev M_X12_day : Mt := (yX12_day, cX12_day, 1, (Option.some Jvm.ClassFile.FieldType.int), [])
abbrev M_X12_depthOver : Mt := (yX12_depthOver, cX12_depthOver, 5, (Option.some Jvm.ClassFile.FieldType.int), [])
abbrev M_X12_drop : Mt := (yX12_drop, cX12_drop, 5, (Option.some Jvm.ClassFile.FieldType.char), [])
abbrev M_X12_earnedCredits : Mt := (yX12_earnedCredits, cX12_earnedCredits, 2, (Option.some Jvm.ClassFile.FieldType.int), [])
abbrev M_X12_earnedOf : Mt := (yX12_earnedOf, cX12_earnedOf, 4, (Option.some Jvm.ClassFile.FieldType.int), [])
abbrev M_X12_endTerm : Mt := (yX12_endTerm, cX12_endTerm, 4, (Option.some Jvm.ClassFile.FieldType.int), [])
abbrev M_X12_ends : Mt := (yX12_ends, cX12_ends, 5, (Option.none : Option Jvm.ClassFile.FieldType), [])
abbrev M_X12_enroll : Mt := (yX12_enroll, cX12_enroll, 4, (Option.some Jvm.ClassFile.FieldType.char), [])
abbrev M_X12_enrollFault : Mt := (yX12_enrollFault, cX12_enrollFault, 3, (Option.some Jvm.ClassFile.FieldType.int), [])
abbrev M_X12_enrolled : Mt := (yX12_enrolled, cX12_enrolled, 2, (Option.some Jvm.ClassFile.FieldType.int), [])
abbrev M_X12_enrolledIn : Mt := (yX12_enrolledIn, cX12_enrolledIn, 4, (Option.some Jvm.ClassFile.FieldType.int), [])
abbrev M_X12_enrolledOf : Mt := (yX12_enrolledOf, cX12_enrolledOf, 5, (Option.some Jvm.ClassFile.FieldType.int), [])
abbrev M_X12_fits : Mt := (yX12_fits, cX12_fits, 3, (Option.some Jvm.ClassFile.FieldType.boolean), [])
abbrev M_X12_freeFor : Mt := (yX12_freeFor, cX12_freeFor, 6, (Option.some Jvm.ClassFile.FieldType.int), [])
abbrev M_X12_freeSeats : Mt := (yX12_freeSeats, cX12_freeSeats, 3, (Option.some Jvm.ClassFile.FieldType.int), [])
abbrev M_X12_givenTo : Mt := (yX12_givenTo, cX12_givenTo, 9, (Option.some Jvm.ClassFile.FieldType.int), [])
abbrev M_X12_givesOne : Mt := (yX12_givesOne, cX12_givesOne, 4, (Option.some Jvm.ClassFile.FieldType.boolean), [])
abbrev M_X12_givesOut : Mt := (yX12_givesOut, cX12_givesOut, 2, (Option.none : Option Jvm.ClassFile.FieldType), [])
abbrev M_X12_goesOn : Mt := (yX12_goesOn, cX12_goesOn, 2, (Option.some Jvm.ClassFile.FieldType.boolean), [])
abbrev M_X12_has : Mt := (yX12_has, cX12_has, 2, (Option.some Jvm.ClassFile.FieldType.boolean), [])
abbrev M_X12_hasPassed : Mt := (yX12_hasPassed, cX12_hasPassed, 3, (Option.some Jvm.ClassFile.FieldType.boolean), [])
abbrev M_X12_holds : Mt := (yX12_holds, cX12_holds, 3, (Option.some Jvm.ClassFile.FieldType.boolean), [])
abbrev M_X12_holdsNow : Mt := (yX12_holdsNow, cX12_holdsNow, 4, (Option.some Jvm.ClassFile.FieldType.boolean), [])
abbrev M_X12_in : Mt := (yX12_in, cX12_in, 3, (Option.some Jvm.ClassFile.FieldType.boolean), [])
abbrev M_X12_init : Mt := (yX12_init, cX12_init, 2, (Option.none : Option Jvm.ClassFile.FieldType), [])
abbrev M_X12_isClosed : Mt := (yX12_isClosed, cX12_isClosed, 3, (Option.some Jvm.ClassFile.FieldType.boolean), [])
abbrev M_X12_isCourse : Mt := (yX12_isCourse, cX12_isCourse, 2, (Option.some Jvm.ClassFile.FieldType.boolean), [])
abbrev M_X12_isEnrolled : Mt := (yX12_isEnrolled, cX12_isEnrolled, 3, (Option.some Jvm.ClassFile.FieldType.boolean), [])
abbrev M_X12_isFormula : Mt := (yX12_isFormula, cX12_isFormula, 2, (Option.some Jvm.ClassFile.FieldType.boolean), [])
abbrev M_X12_isInOrWaits : Mt := (yX12_isInOrWaits, cX12_isInOrWaits, 3, (Option.some Jvm.ClassFile.FieldType.boolean), [])
abbrev M_X12_isSound : Mt := (yX12_isSound, cX12_isSound, 3, (Option.some Jvm.ClassFile.FieldType.boolean), [])
abbrev M_X12_isSoundFor : Mt := (yX12_isSoundFor, cX12_isSoundFor, 4, (Option.some Jvm.ClassFile.FieldType.boolean), [])
abbrev M_X12_isStudent : Mt := (yX12_isStudent, cX12_isStudent, 2, (Option.some Jvm.ClassFile.FieldType.boolean), [])
abbrev M_X12_isTired : Mt := (yX12_isTired, cX12_isTired, 3, (Option.some Jvm.ClassFile.FieldType.boolean), [])
abbrev M_X12_join : Mt := (yX12_join, cX12_join, 5, (Option.some Jvm.ClassFile.FieldType.int), [])
abbrev M_X12_lackingByTrial : Mt := (yX12_lackingByTrial, cX12_lackingByTrial, 2, (Option.some Jvm.ClassFile.FieldType.int), [])
abbrev M_X12_lackingOf : Mt := (yX12_lackingOf, cX12_lackingOf, 5, (Option.some Jvm.ClassFile.FieldType.int), [])
abbrev M_X12_lackingRules : Mt := (yX12_lackingRules, cX12_lackingRules, 2, (Option.some Jvm.ClassFile.FieldType.int), [])
abbrev M_X12_lastMark : Mt := (yX12_lastMark, cX12_lastMark, 6, (Option.some Jvm.ClassFile.FieldType.int), [])
abbrev M_X12_leaves : Mt := (yX12_leaves, cX12_leaves, 4, (Option.none : Option Jvm.ClassFile.FieldType), [])
abbrev M_X12_lift : Mt := (yX12_lift, cX12_lift, 3, (Option.some Jvm.ClassFile.FieldType.boolean), [])
abbrev M_X12_load : Mt := (yX12_load, cX12_load, 2, (Option.some Jvm.ClassFile.FieldType.int), [])
abbrev M_X12_looksAt : Mt := (yX12_looksAt, cX12_looksAt, 4, (Option.none : Option Jvm.ClassFile.FieldType), [])
abbrev M_X12_majorOf : Mt := (yX12_majorOf, cX12_majorOf, 2, (Option.some Jvm.ClassFile.FieldType.int), [])
abbrev M_X12_mark : Mt := (yX12_mark, cX12_mark, 6, (Option.some Jvm.ClassFile.FieldType.boolean), [])
abbrev M_X12_markFormula : Mt := (yX12_markFormula, cX12_markFormula, 3, (Option.some Jvm.ClassFile.FieldType.int), [])
abbrev M_X12_mayTake : Mt := (yX12_mayTake, cX12_mayTake, 3, (Option.some Jvm.ClassFile.FieldType.boolean), [])
abbrev M_X12_mostFrom : Mt := (yX12_mostFrom, cX12_mostFrom, 6, (Option.some Jvm.ClassFile.FieldType.int), [])
abbrev M_X12_mostMet : Mt := (yX12_mostMet, cX12_mostMet, 2, (Option.some Jvm.ClassFile.FieldType.int), [])
abbrev M_X12_mostMetByTrial : Mt := (yX12_mostMetByTrial, cX12_mostMetByTrial, 2, (Option.some Jvm.ClassFile.FieldType.int), [])
abbrev M_X12_mostMetIf : Mt := (yX12_mostMetIf, cX12_mostMetIf, 2, (Option.some Jvm.ClassFile.FieldType.int), [])
abbrev M_X12_mostOf : Mt := (yX12_mostOf, cX12_mostOf, 3, (Option.some Jvm.ClassFile.FieldType.int), [])
abbrev M_X12_moveIn : Mt := (yX12_moveIn, cX12_moveIn, 4, (Option.some Jvm.ClassFile.FieldType.int), [])
abbrev M_X12_noneFormula : Mt := (yX12_noneFormula, cX12_noneFormula, 2, (Option.some Jvm.ClassFile.FieldType.int), [])
abbrev M_X12_of : Mt := (yX12_of, cX12_of, 2, (Option.some Jvm.ClassFile.FieldType.int), [])
abbrev M_X12_outcome : Mt := (yX12_outcome, cX12_outcome, 3, (Option.some Jvm.ClassFile.FieldType.char), [])
abbrev M_X12_pass : Mt := (yX12_pass, cX12_pass, 4, (Option.some Jvm.ClassFile.FieldType.int), [])
abbrev M_X12_placeIn : Mt := (yX12_placeIn, cX12_placeIn, 4, (Option.some Jvm.ClassFile.FieldType.int), [])
abbrev M_X12_placeOf : Mt := (yX12_placeOf, cX12_placeOf, 4, (Option.some Jvm.ClassFile.FieldType.int), [])
abbrev M_X12_reasonOf : Mt := (yX12_reasonOf, cX12_reasonOf, 4, (Option.some Jvm.ClassFile.FieldType.int), [])
abbrev M_X12_require : Mt := (yX12_require, cX12_require, 4, (Option.some Jvm.ClassFile.FieldType.boolean), [])
abbrev M_X12_reserve : Mt := (yX12_reserve, cX12_reserve, 6, (Option.some Jvm.ClassFile.FieldType.int), [])
abbrev M_X12_reservedForOthers : Mt := (yX12_reservedForOthers, cX12_reservedForOthers, 5, (Option.some Jvm.ClassFile.FieldType.int), [])
abbrev M_X12_ruleFor : Mt := (yX12_ruleFor, cX12_ruleFor, 5, (Option.some Jvm.ClassFile.FieldType.int), [])
abbrev M_X12_rulesOf : Mt := (yX12_rulesOf, cX12_rulesOf, 4, (Option.some Jvm.ClassFile.FieldType.int), [])
abbrev M_X12_setDegree : Mt := (yX12_setDegree, cX12_setDegree, 4, (Option.some Jvm.ClassFile.FieldType.int), [])
abbrev M_X12_share : Mt := (yX12_share, cX12_share, 2, (Option.some Jvm.ClassFile.FieldType.float), [])
abbrev M_X12_swap : Mt := (yX12_swap, cX12_swap, 6, (Option.some Jvm.ClassFile.FieldType.int), [])
abbrev M_X12_swapFault : Mt := (yX12_swapFault, cX12_swapFault, 4, (Option.some Jvm.ClassFile.FieldType.int), [])
abbrev M_X12_term : Mt := (yX12_term, cX12_term, 1, (Option.some Jvm.ClassFile.FieldType.int), [])
abbrev M_X12_termsTo : Mt := (yX12_termsTo, cX12_termsTo, 3, (Option.some Jvm.ClassFile.FieldType.int), [])
abbrev M_X12_termsUntil : Mt := (yX12_termsUntil, cX12_termsUntil, 5, (Option.some Jvm.ClassFile.FieldType.int), [])
abbrev M_X12_thrown : Mt := (yX12_thrown, cX12_thrown, 1, (Option.some Jvm.ClassFile.FieldType.int), [])
abbrev M_X12_times : Mt := (yX12_times, cX12_times, 3, (Option.some Jvm.ClassFile.FieldType.int), [])
abbrev M_X12_togetherFormula : Mt := (yX12_togetherFormula, cX12_togetherFormula, 2, (Option.some Jvm.ClassFile.FieldType.int), [])
abbrev M_X12_transcriptAt : Mt := (yX12_transcriptAt, cX12_transcriptAt, 3, (Option.some Jvm.ClassFile.FieldType.char), [])
abbrev M_X12_transcriptLength : Mt := (yX12_transcriptLength, cX12_transcriptLength, 2, (Option.some Jvm.ClassFile.FieldType.int), [])
abbrev M_X12_tries : Mt := (yX12_tries, cX12_tries, 4, (Option.none : Option Jvm.ClassFile.FieldType), [])
abbrev M_X12_twoFormula : Mt := (yX12_twoFormula, cX12_twoFormula, 4, (Option.some Jvm.ClassFile.FieldType.int), [])
abbrev M_X12_waiting : Mt := (yX12_waiting, cX12_waiting, 2, (Option.some Jvm.ClassFile.FieldType.int), [])
abbrev M_X12_whyFault : Mt := (yX12_whyFault, cX12_whyFault, 3, (Option.some Jvm.ClassFile.FieldType.int), [])
abbrev M_X12_whyLong : Mt := (yX12_whyLong, cX12_whyLong, 4, (Option.some Jvm.ClassFile.FieldType.int), [])
abbrev M_X12_whyNot : Mt := (yX12_whyNot, cX12_whyNot, 3, (Option.some Jvm.ClassFile.FieldType.int), [])
abbrev M_X12_wouldBe : Mt := (yX12_wouldBe, cX12_wouldBe, 3, (Option.some Jvm.ClassFile.FieldType.char), [])
abbrev M_X12_writes : Mt := (yX12_writes, cX12_writes, 2, (Option.none : Option Jvm.ClassFile.FieldType), [])
abbrev M_X12_writesAll : Mt := (yX12_writesAll, cX12_writesAll, 3, (Option.none : Option Jvm.ClassFile.FieldType), [])
abbrev M_X12_writesCourse : Mt := (yX12_writesCourse, cX12_writesCourse, 6, (Option.none : Option Jvm.ClassFile.FieldType), [])
abbrev M_X12_writesNumber : Mt := (yX12_writesNumber, cX12_writesNumber, 2, (Option.none : Option Jvm.ClassFile.FieldType), [])
abbrev M_X1_init : Mt := (yX1_init, cX1_init, 6, (Option.none : Option Jvm.ClassFile.FieldType), [])
abbrev M_X1_isTrue : Mt := (yX1_isTrue, cX1_isTrue, 6, (Option.some Jvm.ClassFile.FieldType.boolean), [])
abbrev M_X1_partToBlame : Mt := (yX1_partToBlame, cX1_partToBlame, 3, (Option.some Jvm.ClassFile.FieldType.int), [])
abbrev M_X2_allReserved : Mt := (yX2_allReserved, cX2_allReserved, 3, (Option.some Jvm.ClassFile.FieldType.int), [])
abbrev M_X2_init : Mt := (yX2_init, cX2_init, 4, (Option.none : Option Jvm.ClassFile.FieldType), [])
abbrev M_X2_placeFor : Mt := (yX2_placeFor, cX2_placeFor, 3, (Option.some Jvm.ClassFile.FieldType.int), [])
abbrev M_X2_stopWaiting : Mt := (yX2_stopWaiting, cX2_stopWaiting, 3, (Option.none : Option Jvm.ClassFile.FieldType), [])
abbrev M_X3_init : Mt := (yX3_init, cX3_init, 2, (Option.none : Option Jvm.ClassFile.FieldType), [])
abbrev M_X3_isTrue : Mt := (yX3_isTrue, cX3_isTrue, 5, (Option.some Jvm.ClassFile.FieldType.boolean), [])
abbrev M_X4_init : Mt := (yX4_init, cX4_init, 2, (Option.none : Option Jvm.ClassFile.FieldType), [])
abbrev M_X4_partToBlame : Mt := (yX4_partToBlame, cX4_partToBlame, 3, (Option.some Jvm.ClassFile.FieldType.int), [])
abbrev M_X5_init : Mt := (yX5_init, cX5_init, 3, (Option.none : Option Jvm.ClassFile.FieldType), [])
abbrev M_X5_isTrue : Mt := (yX5_isTrue, cX5_isTrue, 5, (Option.some Jvm.ClassFile.FieldType.boolean), [])
abbrev M_X6_init : Mt := (yX6_init, cX6_init, 3, (Option.none : Option Jvm.ClassFile.FieldType), [])
abbrev M_X6_isTrue : Mt := (yX6_isTrue, cX6_isTrue, 5, (Option.some Jvm.ClassFile.FieldType.boolean), [])
abbrev M_X7_init : Mt := (yX7_init, cX7_init, 4, (Option.none : Option Jvm.ClassFile.FieldType), [])
abbrev M_X8_addAttempt : Mt := (yX8_addAttempt, cX8_addAttempt, 4, (Option.none : Option Jvm.ClassFile.FieldType), [])
abbrev M_X8_closeTerm : Mt := (yX8_closeTerm, cX8_closeTerm, 3, (Option.some Jvm.ClassFile.FieldType.int), [])
abbrev M_X8_forgetRecord : Mt := (yX8_forgetRecord, cX8_forgetRecord, 1, (Option.none : Option Jvm.ClassFile.FieldType), [])
abbrev M_X8_hasPassed : Mt := (yX8_hasPassed, cX8_hasPassed, 2, (Option.some Jvm.ClassFile.FieldType.boolean), [])
abbrev M_X8_init : Mt := (yX8_init, cX8_init, 2, (Option.none : Option Jvm.ClassFile.FieldType), [])
abbrev M_X8_lastMark : Mt := (yX8_lastMark, cX8_lastMark, 4, (Option.some Jvm.ClassFile.FieldType.int), [])
abbrev M_X8_moveCreditIn : Mt := (yX8_moveCreditIn, cX8_moveCreditIn, 2, (Option.none : Option Jvm.ClassFile.FieldType), [])
abbrev M_X9_init : Mt := (yX9_init, cX9_init, 2, (Option.none : Option Jvm.ClassFile.FieldType), [])
abbrev M_X9_isTrue : Mt := (yX9_isTrue, cX9_isTrue, 5, (Option.some Jvm.ClassFile.FieldType.boolean), [])
theorem uw_0 : ∀ w ∈ u_ws RJ0 TJ0 2, w ∈ lw_tbl ∧ pw w = true := by decide +kernel
theorem uw_1 : ∀ w ∈ u_ws RJx00060 TJx00060 6, w ∈ lw_tbl ∧ pw w = true := by decide +kernel
theorem uw_2 : ∀ w ∈ u_ws RJx4a65c TJx4a65c 3, w ∈ lw_tbl ∧ pw w = true := by decide +kernel
theorem uw_3 : ∀ w ∈ u_ws RX0 TX0 10, w ∈ lw_tbl ∧ pw w = true := by decide +kernel
theorem uw_4 : ∀ w ∈ u_ws RX1 TX1 5, w ∈ lw_tbl ∧ pw w = true := by decide +kernel
theorem uw_5 : ∀ w ∈ u_ws RX2 TX2 6, w ∈ lw_tbl ∧ pw w = true := by decide +kernel
theorem uw_6 : ∀ w ∈ u_ws RX3 TX3 2, w ∈ lw_tbl ∧ pw w = true := by decide +kernel
theorem uw_7 : ∀ w ∈ u_ws RX5 TX5 3, w ∈ lw_tbl ∧ pw w = true := by decide +kernel
theorem uw_8 : ∀ w ∈ u_ws RX6 TX6 2, w ∈ lw_tbl ∧ pw w = true := by decide +kernel
theorem uw_9 : ∀ w ∈ u_ws RX7 TX7 4, w ∈ lw_tbl ∧ pw w = true := by decide +kernel
theorem uw_10 : ∀ w ∈ u_ws RX8 TX8 7, w ∈ lw_tbl ∧ pw w = true := by decide +kernel
theorem uw_11 : ∀ w ∈ u_ws RX9 TX9 2, w ∈ lw_tbl ∧ pw w = true := by decide +kernel
theorem uw_12 : ∀ w ∈ u_ws RX10 TX10 2, w ∈ lw_tbl ∧ pw w = true := by decide +kernel
theorem uw_13 : ∀ w ∈ u_ws RX11 TX11 12, w ∈ lw_tbl ∧ pw w = true := by decide +kernel
theorem uw_14 : ∀ w ∈ u_ws RX12 TX12 39, w ∈ lw_tbl ∧ pw w = true := by decide +kernel
theorem fl_Jx4a65c_9_2 : FL RJx4a65c 9 2 1 := ⟨(RJx4a65c, TJx4a65c, 3), rfl, by decide, uw_2, List.mem_of_getElem? (i := 153) (by decide +kernel)⟩
theorem fl_Jx4a65c_48_2 : FL RJx4a65c 48 2 2 := ⟨(RJx4a65c, TJx4a65c, 3), rfl, by decide, uw_2, List.mem_of_getElem? (i := 154) (by decide +kernel)⟩
theorem fl_Jxc12de_7_2 : FL RJxc12de 7 2 0 := ⟨(RJx4a65c, TJx4a65c, 3), rfl, by decide, uw_2, List.mem_of_getElem? (i := 155) (by decide +kernel)⟩
theorem fl_X8_33_10 : FL RX8 33 10 0 := ⟨(RX8, TX8, 7), rfl, by decide, uw_10, List.mem_of_getElem? (i := 176) (by decide +kernel)⟩
theorem fl_X0_65_10 : FL RX0 65 10 0 := ⟨(RX8, TX8, 7), rfl, by decide, uw_10, List.mem_of_getElem? (i := 177) (by decide +kernel)⟩
theorem fl_X11_97_10 : FL RX11 97 10 0 := ⟨(RX8, TX8, 7), rfl, by decide, uw_10, List.mem_of_getElem? (i := 178) (by decide +kernel)⟩
theorem fl_X8_9_10 : FL RX8 9 10 1 := ⟨(RX8, TX8, 7), rfl, by decide, uw_10, List.mem_of_getElem? (i := 179) (by decide +kernel)⟩
theorem fl_X9_13_10 : FL RX9 13 10 1 := ⟨(RX8, TX8, 7), rfl, by decide, uw_10, List.mem_of_getElem? (i := 180) (by decide +kernel)⟩
theorem fl_X0_75_10 : FL RX0 75 10 1 := ⟨(RX8, TX8, 7), rfl, by decide, uw_10, List.mem_of_getElem? (i := 181) (by decide +kernel)⟩
theorem fl_X11_214_10 : FL RX11 214 10 1 := ⟨(RX8, TX8, 7), rfl, by decide, uw_10, List.mem_of_getElem? (i := 182) (by decide +kernel)⟩
theorem fl_X8_15_10 : FL RX8 15 10 2 := ⟨(RX8, TX8, 7), rfl, by decide, uw_10, List.mem_of_getElem? (i := 183) (by decide +kernel)⟩
theorem fl_X10_19_10 : FL RX10 19 10 2 := ⟨(RX8, TX8, 7), rfl, by decide, uw_10, List.mem_of_getElem? (i := 184) (by decide +kernel)⟩
theorem fl_X11_425_10 : FL RX11 425 10 2 := ⟨(RX8, TX8, 7), rfl, by decide, uw_10, List.mem_of_getElem? (i := 185) (by decide +kernel)⟩
theorem fl_X8_18_10 : FL RX8 18 10 3 := ⟨(RX8, TX8, 7), rfl, by decide, uw_10, List.mem_of_getElem? (i := 186) (by decide +kernel)⟩
theorem fl_X11_273_10 : FL RX11 273 10 3 := ⟨(RX8, TX8, 7), rfl, by decide, uw_10, List.mem_of_getElem? (i := 187) (by decide +kernel)⟩
theorem fl_X8_22_10 : FL RX8 22 10 4 := ⟨(RX8, TX8, 7), rfl, by decide, uw_10, List.mem_of_getElem? (i := 188) (by decide +kernel)⟩
theorem fl_X5_16_10 : FL RX5 16 10 4 := ⟨(RX8, TX8, 7), rfl, by decide, uw_10, List.mem_of_getElem? (i := 189) (by decide +kernel)⟩
theorem fl_X0_78_10 : FL RX0 78 10 4 := ⟨(RX8, TX8, 7), rfl, by decide, uw_10, List.mem_of_getElem? (i := 190) (by decide +kernel)⟩
theorem fl_X11_300_10 : FL RX11 300 10 4 := ⟨(RX8, TX8, 7), rfl, by decide, uw_10, List.mem_of_getElem? (i := 191) (by decide +kernel)⟩
theorem fl_X8_25_10 : FL RX8 25 10 5 := ⟨(RX8, TX8, 7), rfl, by decide, uw_10, List.mem_of_getElem? (i := 192) (by decide +kernel)⟩
theorem fl_X10_25_10 : FL RX10 25 10 5 := ⟨(RX8, TX8, 7), rfl, by decide, uw_10, List.mem_of_getElem? (i := 193) (by decide +kernel)⟩
theorem fl_X11_254_10 : FL RX11 254 10 5 := ⟨(RX8, TX8, 7), rfl, by decide, uw_10, List.mem_of_getElem? (i := 194) (by decide +kernel)⟩
theorem fl_X8_30_10 : FL RX8 30 10 6 := ⟨(RX8, TX8, 7), rfl, by decide, uw_10, List.mem_of_getElem? (i := 195) (by decide +kernel)⟩
theorem fl_X10_41_10 : FL RX10 41 10 6 := ⟨(RX8, TX8, 7), rfl, by decide, uw_10, List.mem_of_getElem? (i := 196) (by decide +kernel)⟩
theorem fl_X0_40_3 : FL RX0 40 3 0 := ⟨(RX0, TX0, 10), rfl, by decide, uw_3, List.mem_of_getElem? (i := 220) (by decide +kernel)⟩
theorem fl_X0_11_3 : FL RX0 11 3 1 := ⟨(RX0, TX0, 10), rfl, by decide, uw_3, List.mem_of_getElem? (i := 221) (by decide +kernel)⟩
theorem fl_X0_15_3 : FL RX0 15 3 2 := ⟨(RX0, TX0, 10), rfl, by decide, uw_3, List.mem_of_getElem? (i := 222) (by decide +kernel)⟩
theorem fl_X0_18_3 : FL RX0 18 3 3 := ⟨(RX0, TX0, 10), rfl, by decide, uw_3, List.mem_of_getElem? (i := 223) (by decide +kernel)⟩
theorem fl_X0_21_3 : FL RX0 21 3 4 := ⟨(RX0, TX0, 10), rfl, by decide, uw_3, List.mem_of_getElem? (i := 224) (by decide +kernel)⟩
theorem fl_X0_24_3 : FL RX0 24 3 5 := ⟨(RX0, TX0, 10), rfl, by decide, uw_3, List.mem_of_getElem? (i := 225) (by decide +kernel)⟩
theorem fl_X0_27_3 : FL RX0 27 3 6 := ⟨(RX0, TX0, 10), rfl, by decide, uw_3, List.mem_of_getElem? (i := 226) (by decide +kernel)⟩
theorem fl_X0_30_3 : FL RX0 30 3 7 := ⟨(RX0, TX0, 10), rfl, by decide, uw_3, List.mem_of_getElem? (i := 227) (by decide +kernel)⟩
theorem fl_X0_33_3 : FL RX0 33 3 8 := ⟨(RX0, TX0, 10), rfl, by decide, uw_3, List.mem_of_getElem? (i := 228) (by decide +kernel)⟩
theorem fl_X0_36_3 : FL RX0 36 3 9 := ⟨(RX0, TX0, 10), rfl, by decide, uw_3, List.mem_of_getElem? (i := 229) (by decide +kernel)⟩
theorem fl_X10_11_12 : FL RX10 11 12 0 := ⟨(RX10, TX10, 2), rfl, by decide, uw_12, List.mem_of_getElem? (i := 257) (by decide +kernel)⟩
theorem fl_X11_342_12 : FL RX11 342 12 0 := ⟨(RX10, TX10, 2), rfl, by decide, uw_12, List.mem_of_getElem? (i := 258) (by decide +kernel)⟩
theorem fl_X10_15_12 : FL RX10 15 12 1 := ⟨(RX10, TX10, 2), rfl, by decide, uw_12, List.mem_of_getElem? (i := 259) (by decide +kernel)⟩
theorem fl_X11_334_12 : FL RX11 334 12 1 := ⟨(RX10, TX10, 2), rfl, by decide, uw_12, List.mem_of_getElem? (i := 260) (by decide +kernel)⟩
theorem fl_X11_12_13 : FL RX11 12 13 0 := ⟨(RX11, TX11, 12), rfl, by decide, uw_13, List.mem_of_getElem? (i := 267) (by decide +kernel)⟩
theorem fl_X11_16_13 : FL RX11 16 13 1 := ⟨(RX11, TX11, 12), rfl, by decide, uw_13, List.mem_of_getElem? (i := 268) (by decide +kernel)⟩
theorem fl_X11_19_13 : FL RX11 19 13 2 := ⟨(RX11, TX11, 12), rfl, by decide, uw_13, List.mem_of_getElem? (i := 269) (by decide +kernel)⟩
theorem fl_X11_22_13 : FL RX11 22 13 3 := ⟨(RX11, TX11, 12), rfl, by decide, uw_13, List.mem_of_getElem? (i := 270) (by decide +kernel)⟩
theorem fl_X11_25_13 : FL RX11 25 13 4 := ⟨(RX11, TX11, 12), rfl, by decide, uw_13, List.mem_of_getElem? (i := 271) (by decide +kernel)⟩
theorem fl_X11_180_13 : FL RX11 180 13 5 := ⟨(RX11, TX11, 12), rfl, by decide, uw_13, List.mem_of_getElem? (i := 272) (by decide +kernel)⟩
theorem fl_X11_188_13 : FL RX11 188 13 6 := ⟨(RX11, TX11, 12), rfl, by decide, uw_13, List.mem_of_getElem? (i := 273) (by decide +kernel)⟩
theorem fl_X11_34_13 : FL RX11 34 13 7 := ⟨(RX11, TX11, 12), rfl, by decide, uw_13, List.mem_of_getElem? (i := 274) (by decide +kernel)⟩
theorem fl_X11_41_13 : FL RX11 41 13 8 := ⟨(RX11, TX11, 12), rfl, by decide, uw_13, List.mem_of_getElem? (i := 275) (by decide +kernel)⟩
theorem fl_X11_48_13 : FL RX11 48 13 9 := ⟨(RX11, TX11, 12), rfl, by decide, uw_13, List.mem_of_getElem? (i := 276) (by decide +kernel)⟩
theorem fl_X11_52_13 : FL RX11 52 13 10 := ⟨(RX11, TX11, 12), rfl, by decide, uw_13, List.mem_of_getElem? (i := 277) (by decide +kernel)⟩
theorem fl_X11_56_13 : FL RX11 56 13 11 := ⟨(RX11, TX11, 12), rfl, by decide, uw_13, List.mem_of_getElem? (i := 278) (by decide +kernel)⟩
theorem fl_X2_26_5 : FL RX2 26 5 0 := ⟨(RX2, TX2, 6), rfl, by decide, uw_5, List.mem_of_getElem? (i := 597) (by decide +kernel)⟩
theorem fl_X11_428_5 : FL RX11 428 5 0 := ⟨(RX2, TX2, 6), rfl, by decide, uw_5, List.mem_of_getElem? (i := 598) (by decide +kernel)⟩
theorem fl_X2_29_5 : FL RX2 29 5 1 := ⟨(RX2, TX2, 6), rfl, by decide, uw_5, List.mem_of_getElem? (i := 599) (by decide +kernel)⟩
theorem fl_X11_292_5 : FL RX11 292 5 1 := ⟨(RX2, TX2, 6), rfl, by decide, uw_5, List.mem_of_getElem? (i := 600) (by decide +kernel)⟩
theorem fl_X2_32_5 : FL RX2 32 5 2 := ⟨(RX2, TX2, 6), rfl, by decide, uw_5, List.mem_of_getElem? (i := 601) (by decide +kernel)⟩
theorem fl_X11_113_5 : FL RX11 113 5 2 := ⟨(RX2, TX2, 6), rfl, by decide, uw_5, List.mem_of_getElem? (i := 602) (by decide +kernel)⟩
theorem fl_X2_9_5 : FL RX2 9 5 3 := ⟨(RX2, TX2, 6), rfl, by decide, uw_5, List.mem_of_getElem? (i := 603) (by decide +kernel)⟩
theorem fl_X11_110_5 : FL RX11 110 5 3 := ⟨(RX2, TX2, 6), rfl, by decide, uw_5, List.mem_of_getElem? (i := 604) (by decide +kernel)⟩
theorem fl_X2_18_5 : FL RX2 18 5 4 := ⟨(RX2, TX2, 6), rfl, by decide, uw_5, List.mem_of_getElem? (i := 605) (by decide +kernel)⟩
theorem fl_X11_217_5 : FL RX11 217 5 4 := ⟨(RX2, TX2, 6), rfl, by decide, uw_5, List.mem_of_getElem? (i := 606) (by decide +kernel)⟩
theorem fl_X2_22_5 : FL RX2 22 5 5 := ⟨(RX2, TX2, 6), rfl, by decide, uw_5, List.mem_of_getElem? (i := 607) (by decide +kernel)⟩
theorem fl_X11_175_5 : FL RX11 175 5 5 := ⟨(RX2, TX2, 6), rfl, by decide, uw_5, List.mem_of_getElem? (i := 608) (by decide +kernel)⟩
theorem fl_X5_7_7 : FL RX5 7 7 1 := ⟨(RX5, TX5, 3), rfl, by decide, uw_7, List.mem_of_getElem? (i := 812) (by decide +kernel)⟩
theorem fl_X5_13_7 : FL RX5 13 7 2 := ⟨(RX5, TX5, 3), rfl, by decide, uw_7, List.mem_of_getElem? (i := 813) (by decide +kernel)⟩
theorem fl_X4_9_4 : FL RX4 9 4 0 := ⟨(RX1, TX1, 5), rfl, by decide, uw_4, List.mem_of_getElem? (i := 814) (by decide +kernel)⟩
theorem fl_X4_9_6 : FL RX4 9 6 0 := ⟨(RX3, TX3, 2), rfl, by decide, uw_6, List.mem_of_getElem? (i := 814) (by decide +kernel)⟩
theorem fl_X4_9_7 : FL RX4 9 7 0 := ⟨(RX5, TX5, 3), rfl, by decide, uw_7, List.mem_of_getElem? (i := 814) (by decide +kernel)⟩
theorem fl_X4_9_8 : FL RX4 9 8 0 := ⟨(RX6, TX6, 2), rfl, by decide, uw_8, List.mem_of_getElem? (i := 814) (by decide +kernel)⟩
theorem fl_X4_9_11 : FL RX4 9 11 0 := ⟨(RX9, TX9, 2), rfl, by decide, uw_11, List.mem_of_getElem? (i := 814) (by decide +kernel)⟩
theorem fl_X11_148_4 : FL RX11 148 4 0 := ⟨(RX1, TX1, 5), rfl, by decide, uw_4, List.mem_of_getElem? (i := 815) (by decide +kernel)⟩
theorem fl_X11_148_6 : FL RX11 148 6 0 := ⟨(RX3, TX3, 2), rfl, by decide, uw_6, List.mem_of_getElem? (i := 815) (by decide +kernel)⟩
theorem fl_X11_148_7 : FL RX11 148 7 0 := ⟨(RX5, TX5, 3), rfl, by decide, uw_7, List.mem_of_getElem? (i := 815) (by decide +kernel)⟩
theorem fl_X11_148_8 : FL RX11 148 8 0 := ⟨(RX6, TX6, 2), rfl, by decide, uw_8, List.mem_of_getElem? (i := 815) (by decide +kernel)⟩
theorem fl_X11_148_11 : FL RX11 148 11 0 := ⟨(RX9, TX9, 2), rfl, by decide, uw_11, List.mem_of_getElem? (i := 815) (by decide +kernel)⟩
theorem fl_X9_7_11 : FL RX9 7 11 1 := ⟨(RX9, TX9, 2), rfl, by decide, uw_11, List.mem_of_getElem? (i := 840) (by decide +kernel)⟩
theorem fl_X3_7_6 : FL RX3 7 6 1 := ⟨(RX3, TX3, 2), rfl, by decide, uw_6, List.mem_of_getElem? (i := 859) (by decide +kernel)⟩
theorem fl_X1_9_4 : FL RX1 9 4 1 := ⟨(RX1, TX1, 5), rfl, by decide, uw_4, List.mem_of_getElem? (i := 898) (by decide +kernel)⟩
theorem fl_X1_15_4 : FL RX1 15 4 2 := ⟨(RX1, TX1, 5), rfl, by decide, uw_4, List.mem_of_getElem? (i := 899) (by decide +kernel)⟩
theorem fl_X1_18_4 : FL RX1 18 4 3 := ⟨(RX1, TX1, 5), rfl, by decide, uw_4, List.mem_of_getElem? (i := 900) (by decide +kernel)⟩
theorem fl_X1_21_4 : FL RX1 21 4 4 := ⟨(RX1, TX1, 5), rfl, by decide, uw_4, List.mem_of_getElem? (i := 901) (by decide +kernel)⟩
theorem fl_X6_7_8 : FL RX6 7 8 1 := ⟨(RX6, TX6, 2), rfl, by decide, uw_8, List.mem_of_getElem? (i := 939) (by decide +kernel)⟩
theorem fl_X7_15_9 : FL RX7 15 9 0 := ⟨(RX7, TX7, 4), rfl, by decide, uw_9, List.mem_of_getElem? (i := 1305) (by decide +kernel)⟩
theorem fl_X0_62_9 : FL RX0 62 9 0 := ⟨(RX7, TX7, 4), rfl, by decide, uw_9, List.mem_of_getElem? (i := 1306) (by decide +kernel)⟩
theorem fl_X11_407_9 : FL RX11 407 9 0 := ⟨(RX7, TX7, 4), rfl, by decide, uw_9, List.mem_of_getElem? (i := 1307) (by decide +kernel)⟩
theorem fl_X7_19_9 : FL RX7 19 9 1 := ⟨(RX7, TX7, 4), rfl, by decide, uw_9, List.mem_of_getElem? (i := 1308) (by decide +kernel)⟩
theorem fl_X0_68_9 : FL RX0 68 9 1 := ⟨(RX7, TX7, 4), rfl, by decide, uw_9, List.mem_of_getElem? (i := 1309) (by decide +kernel)⟩
theorem fl_X7_22_9 : FL RX7 22 9 2 := ⟨(RX7, TX7, 4), rfl, by decide, uw_9, List.mem_of_getElem? (i := 1310) (by decide +kernel)⟩
theorem fl_X0_84_9 : FL RX0 84 9 2 := ⟨(RX7, TX7, 4), rfl, by decide, uw_9, List.mem_of_getElem? (i := 1311) (by decide +kernel)⟩
theorem fl_X7_9_9 : FL RX7 9 9 3 := ⟨(RX7, TX7, 4), rfl, by decide, uw_9, List.mem_of_getElem? (i := 1312) (by decide +kernel)⟩
theorem fl_X0_81_9 : FL RX0 81 9 3 := ⟨(RX7, TX7, 4), rfl, by decide, uw_9, List.mem_of_getElem? (i := 1313) (by decide +kernel)⟩
theorem fl_X11_360_9 : FL RX11 360 9 3 := ⟨(RX7, TX7, 4), rfl, by decide, uw_9, List.mem_of_getElem? (i := 1314) (by decide +kernel)⟩
theorem fl_X12_89_14 : FL RX12 89 14 0 := ⟨(RX12, TX12, 39), rfl, by decide, uw_14, List.mem_of_getElem? (i := 1412) (by decide +kernel)⟩
theorem fl_X12_164_14 : FL RX12 164 14 1 := ⟨(RX12, TX12, 39), rfl, by decide, uw_14, List.mem_of_getElem? (i := 1413) (by decide +kernel)⟩
theorem fl_X12_199_14 : FL RX12 199 14 2 := ⟨(RX12, TX12, 39), rfl, by decide, uw_14, List.mem_of_getElem? (i := 1414) (by decide +kernel)⟩
theorem fl_X12_93_14 : FL RX12 93 14 3 := ⟨(RX12, TX12, 39), rfl, by decide, uw_14, List.mem_of_getElem? (i := 1415) (by decide +kernel)⟩
theorem fl_X12_9_14 : FL RX12 9 14 4 := ⟨(RX12, TX12, 39), rfl, by decide, uw_14, List.mem_of_getElem? (i := 1416) (by decide +kernel)⟩
theorem fl_X12_13_14 : FL RX12 13 14 5 := ⟨(RX12, TX12, 39), rfl, by decide, uw_14, List.mem_of_getElem? (i := 1417) (by decide +kernel)⟩
theorem fl_X12_16_14 : FL RX12 16 14 6 := ⟨(RX12, TX12, 39), rfl, by decide, uw_14, List.mem_of_getElem? (i := 1418) (by decide +kernel)⟩
theorem fl_X12_19_14 : FL RX12 19 14 7 := ⟨(RX12, TX12, 39), rfl, by decide, uw_14, List.mem_of_getElem? (i := 1419) (by decide +kernel)⟩
theorem fl_X12_22_14 : FL RX12 22 14 8 := ⟨(RX12, TX12, 39), rfl, by decide, uw_14, List.mem_of_getElem? (i := 1420) (by decide +kernel)⟩
theorem fl_X12_25_14 : FL RX12 25 14 9 := ⟨(RX12, TX12, 39), rfl, by decide, uw_14, List.mem_of_getElem? (i := 1421) (by decide +kernel)⟩
theorem fl_X12_100_14 : FL RX12 100 14 10 := ⟨(RX12, TX12, 39), rfl, by decide, uw_14, List.mem_of_getElem? (i := 1422) (by decide +kernel)⟩
theorem fl_X12_28_14 : FL RX12 28 14 11 := ⟨(RX12, TX12, 39), rfl, by decide, uw_14, List.mem_of_getElem? (i := 1423) (by decide +kernel)⟩
theorem fl_X12_31_14 : FL RX12 31 14 12 := ⟨(RX12, TX12, 39), rfl, by decide, uw_14, List.mem_of_getElem? (i := 1424) (by decide +kernel)⟩
theorem fl_X12_34_14 : FL RX12 34 14 13 := ⟨(RX12, TX12, 39), rfl, by decide, uw_14, List.mem_of_getElem? (i := 1425) (by decide +kernel)⟩
theorem fl_X12_37_14 : FL RX12 37 14 14 := ⟨(RX12, TX12, 39), rfl, by decide, uw_14, List.mem_of_getElem? (i := 1426) (by decide +kernel)⟩
theorem fl_X12_40_14 : FL RX12 40 14 15 := ⟨(RX12, TX12, 39), rfl, by decide, uw_14, List.mem_of_getElem? (i := 1427) (by decide +kernel)⟩
theorem fl_X12_43_14 : FL RX12 43 14 16 := ⟨(RX12, TX12, 39), rfl, by decide, uw_14, List.mem_of_getElem? (i := 1428) (by decide +kernel)⟩
theorem fl_X12_103_14 : FL RX12 103 14 17 := ⟨(RX12, TX12, 39), rfl, by decide, uw_14, List.mem_of_getElem? (i := 1429) (by decide +kernel)⟩
theorem fl_X12_46_14 : FL RX12 46 14 18 := ⟨(RX12, TX12, 39), rfl, by decide, uw_14, List.mem_of_getElem? (i := 1430) (by decide +kernel)⟩
theorem fl_X12_49_14 : FL RX12 49 14 19 := ⟨(RX12, TX12, 39), rfl, by decide, uw_14, List.mem_of_getElem? (i := 1431) (by decide +kernel)⟩
theorem fl_X12_52_14 : FL RX12 52 14 20 := ⟨(RX12, TX12, 39), rfl, by decide, uw_14, List.mem_of_getElem? (i := 1432) (by decide +kernel)⟩
theorem fl_X12_55_14 : FL RX12 55 14 21 := ⟨(RX12, TX12, 39), rfl, by decide, uw_14, List.mem_of_getElem? (i := 1433) (by decide +kernel)⟩
theorem fl_X12_58_14 : FL RX12 58 14 22 := ⟨(RX12, TX12, 39), rfl, by decide, uw_14, List.mem_of_getElem? (i := 1434) (by decide +kernel)⟩
theorem fl_X12_258_14 : FL RX12 258 14 23 := ⟨(RX12, TX12, 39), rfl, by decide, uw_14, List.mem_of_getElem? (i := 1435) (by decide +kernel)⟩
theorem fl_X12_61_14 : FL RX12 61 14 24 := ⟨(RX12, TX12, 39), rfl, by decide, uw_14, List.mem_of_getElem? (i := 1436) (by decide +kernel)⟩
theorem fl_X12_64_14 : FL RX12 64 14 25 := ⟨(RX12, TX12, 39), rfl, by decide, uw_14, List.mem_of_getElem? (i := 1437) (by decide +kernel)⟩
theorem fl_X12_67_14 : FL RX12 67 14 26 := ⟨(RX12, TX12, 39), rfl, by decide, uw_14, List.mem_of_getElem? (i := 1438) (by decide +kernel)⟩
theorem fl_X12_70_14 : FL RX12 70 14 27 := ⟨(RX12, TX12, 39), rfl, by decide, uw_14, List.mem_of_getElem? (i := 1439) (by decide +kernel)⟩
theorem fl_X12_73_14 : FL RX12 73 14 28 := ⟨(RX12, TX12, 39), rfl, by decide, uw_14, List.mem_of_getElem? (i := 1440) (by decide +kernel)⟩
theorem fl_X12_120_14 : FL RX12 120 14 29 := ⟨(RX12, TX12, 39), rfl, by decide, uw_14, List.mem_of_getElem? (i := 1441) (by decide +kernel)⟩
theorem fl_X12_230_14 : FL RX12 230 14 30 := ⟨(RX12, TX12, 39), rfl, by decide, uw_14, List.mem_of_getElem? (i := 1442) (by decide +kernel)⟩
theorem fl_X12_76_14 : FL RX12 76 14 31 := ⟨(RX12, TX12, 39), rfl, by decide, uw_14, List.mem_of_getElem? (i := 1443) (by decide +kernel)⟩
theorem fl_X12_242_14 : FL RX12 242 14 32 := ⟨(RX12, TX12, 39), rfl, by decide, uw_14, List.mem_of_getElem? (i := 1444) (by decide +kernel)⟩
theorem fl_X12_79_14 : FL RX12 79 14 33 := ⟨(RX12, TX12, 39), rfl, by decide, uw_14, List.mem_of_getElem? (i := 1445) (by decide +kernel)⟩
theorem fl_X12_82_14 : FL RX12 82 14 34 := ⟨(RX12, TX12, 39), rfl, by decide, uw_14, List.mem_of_getElem? (i := 1446) (by decide +kernel)⟩
theorem fl_X12_271_14 : FL RX12 271 14 35 := ⟨(RX12, TX12, 39), rfl, by decide, uw_14, List.mem_of_getElem? (i := 1447) (by decide +kernel)⟩
theorem fl_X12_264_14 : FL RX12 264 14 36 := ⟨(RX12, TX12, 39), rfl, by decide, uw_14, List.mem_of_getElem? (i := 1448) (by decide +kernel)⟩
theorem fl_X12_267_14 : FL RX12 267 14 37 := ⟨(RX12, TX12, 39), rfl, by decide, uw_14, List.mem_of_getElem? (i := 1449) (by decide +kernel)⟩
theorem fl_X12_85_14 : FL RX12 85 14 38 := ⟨(RX12, TX12, 39), rfl, by decide, uw_14, List.mem_of_getElem? (i := 1450) (by decide +kernel)⟩
theorem fp_2_0 : FP 2 0 .int false := fun q hq => by obtain rfl := (Option.some.inj hq : ((RJx4a65c, TJx4a65c, 3) : vw_C) = q); exact ⟨⟨tyJx4a65c, tyJx4a65c_ok⟩, nmJx4a65c, by decide +kernel, by decide +kernel⟩
theorem fp_2_1 : FP 2 1 (.array (.object "java/lang/Object")) false := fun q hq => by obtain rfl := (Option.some.inj hq : ((RJx4a65c, TJx4a65c, 3) : vw_C) = q); exact ⟨⟨tyJx4a65c, tyJx4a65c_ok⟩, nmJx4a65c, by decide +kernel, by decide +kernel⟩
theorem fp_2_2 : FP 2 2 .int false := fun q hq => by obtain rfl := (Option.some.inj hq : ((RJx4a65c, TJx4a65c, 3) : vw_C) = q); exact ⟨⟨tyJx4a65c, tyJx4a65c_ok⟩, nmJx4a65c, by decide +kernel, by decide +kernel⟩
theorem fp_3_0 : FP 3 0 .int false := fun q hq => by obtain rfl := (Option.some.inj hq : ((RX0, TX0, 10) : vw_C) = q); exact ⟨⟨tyX0, tyX0_ok⟩, nmX0, by decide +kernel, by decide +kernel⟩
theorem fp_3_1 : FP 3 1 (.array .int) true := fun q hq => by obtain rfl := (Option.some.inj hq : ((RX0, TX0, 10) : vw_C) = q); exact ⟨⟨tyX0, tyX0_ok⟩, nmX0, by decide +kernel, by decide +kernel⟩
theorem fp_3_2 : FP 3 2 (.array .int) true := fun q hq => by obtain rfl := (Option.some.inj hq : ((RX0, TX0, 10) : vw_C) = q); exact ⟨⟨tyX0, tyX0_ok⟩, nmX0, by decide +kernel, by decide +kernel⟩
theorem fp_3_3 : FP 3 3 (.array .int) true := fun q hq => by obtain rfl := (Option.some.inj hq : ((RX0, TX0, 10) : vw_C) = q); exact ⟨⟨tyX0, tyX0_ok⟩, nmX0, by decide +kernel, by decide +kernel⟩
theorem fp_3_4 : FP 3 4 (.array .int) true := fun q hq => by obtain rfl := (Option.some.inj hq : ((RX0, TX0, 10) : vw_C) = q); exact ⟨⟨tyX0, tyX0_ok⟩, nmX0, by decide +kernel, by decide +kernel⟩
theorem fp_3_5 : FP 3 5 (.array .int) true := fun q hq => by obtain rfl := (Option.some.inj hq : ((RX0, TX0, 10) : vw_C) = q); exact ⟨⟨tyX0, tyX0_ok⟩, nmX0, by decide +kernel, by decide +kernel⟩
theorem fp_3_6 : FP 3 6 (.array .int) true := fun q hq => by obtain rfl := (Option.some.inj hq : ((RX0, TX0, 10) : vw_C) = q); exact ⟨⟨tyX0, tyX0_ok⟩, nmX0, by decide +kernel, by decide +kernel⟩
theorem fp_3_7 : FP 3 7 (.array .int) true := fun q hq => by obtain rfl := (Option.some.inj hq : ((RX0, TX0, 10) : vw_C) = q); exact ⟨⟨tyX0, tyX0_ok⟩, nmX0, by decide +kernel, by decide +kernel⟩
theorem fp_3_8 : FP 3 8 (.array .int) true := fun q hq => by obtain rfl := (Option.some.inj hq : ((RX0, TX0, 10) : vw_C) = q); exact ⟨⟨tyX0, tyX0_ok⟩, nmX0, by decide +kernel, by decide +kernel⟩
theorem fp_3_9 : FP 3 9 (.array .boolean) true := fun q hq => by obtain rfl := (Option.some.inj hq : ((RX0, TX0, 10) : vw_C) = q); exact ⟨⟨tyX0, tyX0_ok⟩, nmX0, by decide +kernel, by decide +kernel⟩
theorem fp_4_0 : FP 4 0 .int true := fun q hq => by obtain rfl := (Option.some.inj hq : ((RX1, TX1, 5) : vw_C) = q); exact ⟨⟨tyX1, tyX1_ok⟩, nmX1, by decide +kernel, by decide +kernel⟩
theorem fp_4_1 : FP 4 1 .int true := fun q hq => by obtain rfl := (Option.some.inj hq : ((RX1, TX1, 5) : vw_C) = q); exact ⟨⟨tyX1, tyX1_ok⟩, nmX1, by decide +kernel, by decide +kernel⟩
theorem fp_4_2 : FP 4 2 .int true := fun q hq => by obtain rfl := (Option.some.inj hq : ((RX1, TX1, 5) : vw_C) = q); exact ⟨⟨tyX1, tyX1_ok⟩, nmX1, by decide +kernel, by decide +kernel⟩
theorem fp_4_3 : FP 4 3 .int true := fun q hq => by obtain rfl := (Option.some.inj hq : ((RX1, TX1, 5) : vw_C) = q); exact ⟨⟨tyX1, tyX1_ok⟩, nmX1, by decide +kernel, by decide +kernel⟩
theorem fp_4_4 : FP 4 4 .int true := fun q hq => by obtain rfl := (Option.some.inj hq : ((RX1, TX1, 5) : vw_C) = q); exact ⟨⟨tyX1, tyX1_ok⟩, nmX1, by decide +kernel, by decide +kernel⟩
theorem fp_5_0 : FP 5 0 .int true := fun q hq => by obtain rfl := (Option.some.inj hq : ((RX2, TX2, 6) : vw_C) = q); exact ⟨⟨tyX2, tyX2_ok⟩, nmX2, by decide +kernel, by decide +kernel⟩
theorem fp_5_1 : FP 5 1 .int true := fun q hq => by obtain rfl := (Option.some.inj hq : ((RX2, TX2, 6) : vw_C) = q); exact ⟨⟨tyX2, tyX2_ok⟩, nmX2, by decide +kernel, by decide +kernel⟩
theorem fp_5_2 : FP 5 2 .int true := fun q hq => by obtain rfl := (Option.some.inj hq : ((RX2, TX2, 6) : vw_C) = q); exact ⟨⟨tyX2, tyX2_ok⟩, nmX2, by decide +kernel, by decide +kernel⟩
theorem fp_5_3 : FP 5 3 (.array .int) true := fun q hq => by obtain rfl := (Option.some.inj hq : ((RX2, TX2, 6) : vw_C) = q); exact ⟨⟨tyX2, tyX2_ok⟩, nmX2, by decide +kernel, by decide +kernel⟩
theorem fp_5_4 : FP 5 4 (.object "java/util/ArrayList") true := fun q hq => by obtain rfl := (Option.some.inj hq : ((RX2, TX2, 6) : vw_C) = q); exact ⟨⟨tyX2, tyX2_ok⟩, nmX2, by decide +kernel, by decide +kernel⟩
theorem fp_5_5 : FP 5 5 .int false := fun q hq => by obtain rfl := (Option.some.inj hq : ((RX2, TX2, 6) : vw_C) = q); exact ⟨⟨tyX2, tyX2_ok⟩, nmX2, by decide +kernel, by decide +kernel⟩
theorem fp_6_0 : FP 6 0 .int true := fun q hq => by obtain rfl := (Option.some.inj hq : ((RX3, TX3, 2) : vw_C) = q); exact ⟨⟨tyX3, tyX3_ok⟩, nmX3, by decide +kernel, by decide +kernel⟩
theorem fp_6_1 : FP 6 1 .int true := fun q hq => by obtain rfl := (Option.some.inj hq : ((RX3, TX3, 2) : vw_C) = q); exact ⟨⟨tyX3, tyX3_ok⟩, nmX3, by decide +kernel, by decide +kernel⟩
theorem fp_7_0 : FP 7 0 .int true := fun q hq => by obtain rfl := (Option.some.inj hq : ((RX5, TX5, 3) : vw_C) = q); exact ⟨⟨tyX5, tyX5_ok⟩, nmX5, by decide +kernel, by decide +kernel⟩
theorem fp_7_1 : FP 7 1 .int true := fun q hq => by obtain rfl := (Option.some.inj hq : ((RX5, TX5, 3) : vw_C) = q); exact ⟨⟨tyX5, tyX5_ok⟩, nmX5, by decide +kernel, by decide +kernel⟩
theorem fp_7_2 : FP 7 2 .int true := fun q hq => by obtain rfl := (Option.some.inj hq : ((RX5, TX5, 3) : vw_C) = q); exact ⟨⟨tyX5, tyX5_ok⟩, nmX5, by decide +kernel, by decide +kernel⟩
theorem fp_8_0 : FP 8 0 .int true := fun q hq => by obtain rfl := (Option.some.inj hq : ((RX6, TX6, 2) : vw_C) = q); exact ⟨⟨tyX6, tyX6_ok⟩, nmX6, by decide +kernel, by decide +kernel⟩
theorem fp_8_1 : FP 8 1 .int true := fun q hq => by obtain rfl := (Option.some.inj hq : ((RX6, TX6, 2) : vw_C) = q); exact ⟨⟨tyX6, tyX6_ok⟩, nmX6, by decide +kernel, by decide +kernel⟩
theorem fp_9_0 : FP 9 0 .int true := fun q hq => by obtain rfl := (Option.some.inj hq : ((RX7, TX7, 4) : vw_C) = q); exact ⟨⟨tyX7, tyX7_ok⟩, nmX7, by decide +kernel, by decide +kernel⟩
theorem fp_9_1 : FP 9 1 .int true := fun q hq => by obtain rfl := (Option.some.inj hq : ((RX7, TX7, 4) : vw_C) = q); exact ⟨⟨tyX7, tyX7_ok⟩, nmX7, by decide +kernel, by decide +kernel⟩
theorem fp_9_2 : FP 9 2 .int true := fun q hq => by obtain rfl := (Option.some.inj hq : ((RX7, TX7, 4) : vw_C) = q); exact ⟨⟨tyX7, tyX7_ok⟩, nmX7, by decide +kernel, by decide +kernel⟩
theorem fp_9_3 : FP 9 3 (.array .boolean) true := fun q hq => by obtain rfl := (Option.some.inj hq : ((RX7, TX7, 4) : vw_C) = q); exact ⟨⟨tyX7, tyX7_ok⟩, nmX7, by decide +kernel, by decide +kernel⟩
theorem fp_10_0 : FP 10 0 .int false := fun q hq => by obtain rfl := (Option.some.inj hq : ((RX8, TX8, 7) : vw_C) = q); exact ⟨⟨tyX8, tyX8_ok⟩, nmX8, by decide +kernel, by decide +kernel⟩
theorem fp_10_1 : FP 10 1 (.array .boolean) true := fun q hq => by obtain rfl := (Option.some.inj hq : ((RX8, TX8, 7) : vw_C) = q); exact ⟨⟨tyX8, tyX8_ok⟩, nmX8, by decide +kernel, by decide +kernel⟩
theorem fp_10_2 : FP 10 2 (.array .boolean) true := fun q hq => by obtain rfl := (Option.some.inj hq : ((RX8, TX8, 7) : vw_C) = q); exact ⟨⟨tyX8, tyX8_ok⟩, nmX8, by decide +kernel, by decide +kernel⟩
theorem fp_10_3 : FP 10 3 (.array .int) true := fun q hq => by obtain rfl := (Option.some.inj hq : ((RX8, TX8, 7) : vw_C) = q); exact ⟨⟨tyX8, tyX8_ok⟩, nmX8, by decide +kernel, by decide +kernel⟩
theorem fp_10_4 : FP 10 4 (.array .int) true := fun q hq => by obtain rfl := (Option.some.inj hq : ((RX8, TX8, 7) : vw_C) = q); exact ⟨⟨tyX8, tyX8_ok⟩, nmX8, by decide +kernel, by decide +kernel⟩
theorem fp_10_5 : FP 10 5 (.array .int) true := fun q hq => by obtain rfl := (Option.some.inj hq : ((RX8, TX8, 7) : vw_C) = q); exact ⟨⟨tyX8, tyX8_ok⟩, nmX8, by decide +kernel, by decide +kernel⟩
theorem fp_10_6 : FP 10 6 (.array (.array .int)) true := fun q hq => by obtain rfl := (Option.some.inj hq : ((RX8, TX8, 7) : vw_C) = q); exact ⟨⟨tyX8, tyX8_ok⟩, nmX8, by decide +kernel, by decide +kernel⟩
theorem fp_11_0 : FP 11 0 .int true := fun q hq => by obtain rfl := (Option.some.inj hq : ((RX9, TX9, 2) : vw_C) = q); exact ⟨⟨tyX9, tyX9_ok⟩, nmX9, by decide +kernel, by decide +kernel⟩
theorem fp_11_1 : FP 11 1 .int true := fun q hq => by obtain rfl := (Option.some.inj hq : ((RX9, TX9, 2) : vw_C) = q); exact ⟨⟨tyX9, tyX9_ok⟩, nmX9, by decide +kernel, by decide +kernel⟩
theorem fp_12_0 : FP 12 0 (.array .char) true := fun q hq => by obtain rfl := (Option.some.inj hq : ((RX10, TX10, 2) : vw_C) = q); exact ⟨⟨tyX10, tyX10_ok⟩, nmX10, by decide +kernel, by decide +kernel⟩
theorem fp_12_1 : FP 12 1 .int false := fun q hq => by obtain rfl := (Option.some.inj hq : ((RX10, TX10, 2) : vw_C) = q); exact ⟨⟨tyX10, tyX10_ok⟩, nmX10, by decide +kernel, by decide +kernel⟩
theorem fp_13_0 : FP 13 0 (.object "java/util/ArrayList") true := fun q hq => by obtain rfl := (Option.some.inj hq : ((RX11, TX11, 12) : vw_C) = q); exact ⟨⟨tyX11, tyX11_ok⟩, nmX11, by decide +kernel, by decide +kernel⟩
theorem fp_13_1 : FP 13 1 (.object "java/util/ArrayList") true := fun q hq => by obtain rfl := (Option.some.inj hq : ((RX11, TX11, 12) : vw_C) = q); exact ⟨⟨tyX11, tyX11_ok⟩, nmX11, by decide +kernel, by decide +kernel⟩
theorem fp_13_2 : FP 13 2 (.object "java/util/ArrayList") true := fun q hq => by obtain rfl := (Option.some.inj hq : ((RX11, TX11, 12) : vw_C) = q); exact ⟨⟨tyX11, tyX11_ok⟩, nmX11, by decide +kernel, by decide +kernel⟩
theorem fp_13_3 : FP 13 3 (.object "java/util/ArrayList") true := fun q hq => by obtain rfl := (Option.some.inj hq : ((RX11, TX11, 12) : vw_C) = q); exact ⟨⟨tyX11, tyX11_ok⟩, nmX11, by decide +kernel, by decide +kernel⟩
theorem fp_13_4 : FP 13 4 (.array .int) true := fun q hq => by obtain rfl := (Option.some.inj hq : ((RX11, TX11, 12) : vw_C) = q); exact ⟨⟨tyX11, tyX11_ok⟩, nmX11, by decide +kernel, by decide +kernel⟩
theorem fp_13_5 : FP 13 5 .int false := fun q hq => by obtain rfl := (Option.some.inj hq : ((RX11, TX11, 12) : vw_C) = q); exact ⟨⟨tyX11, tyX11_ok⟩, nmX11, by decide +kernel, by decide +kernel⟩
theorem fp_13_6 : FP 13 6 .int false := fun q hq => by obtain rfl := (Option.some.inj hq : ((RX11, TX11, 12) : vw_C) = q); exact ⟨⟨tyX11, tyX11_ok⟩, nmX11, by decide +kernel, by decide +kernel⟩
theorem fp_13_7 : FP 13 7 (.object "Prereqs$Student") true := fun q hq => by obtain rfl := (Option.some.inj hq : ((RX11, TX11, 12) : vw_C) = q); exact ⟨⟨tyX11, tyX11_ok⟩, nmX11, by decide +kernel, by decide +kernel⟩
theorem fp_13_8 : FP 13 8 (.object "Prereqs$Audit") true := fun q hq => by obtain rfl := (Option.some.inj hq : ((RX11, TX11, 12) : vw_C) = q); exact ⟨⟨tyX11, tyX11_ok⟩, nmX11, by decide +kernel, by decide +kernel⟩
theorem fp_13_9 : FP 13 9 (.object "Prereqs$Transcript") true := fun q hq => by obtain rfl := (Option.some.inj hq : ((RX11, TX11, 12) : vw_C) = q); exact ⟨⟨tyX11, tyX11_ok⟩, nmX11, by decide +kernel, by decide +kernel⟩
theorem fp_13_10 : FP 13 10 (.array .boolean) true := fun q hq => by obtain rfl := (Option.some.inj hq : ((RX11, TX11, 12) : vw_C) = q); exact ⟨⟨tyX11, tyX11_ok⟩, nmX11, by decide +kernel, by decide +kernel⟩
theorem fp_13_11 : FP 13 11 (.array .int) true := fun q hq => by obtain rfl := (Option.some.inj hq : ((RX11, TX11, 12) : vw_C) = q); exact ⟨⟨tyX11, tyX11_ok⟩, nmX11, by decide +kernel, by decide +kernel⟩
theorem fp_14_0 : FP 14 0 .int false := fun q hq => by obtain rfl := (Option.some.inj hq : ((RX12, TX12, 39) : vw_C) = q); exact ⟨⟨tyX12, tyX12_ok⟩, nmX12, by decide +kernel, by decide +kernel⟩
theorem fp_14_1 : FP 14 1 .int false := fun q hq => by obtain rfl := (Option.some.inj hq : ((RX12, TX12, 39) : vw_C) = q); exact ⟨⟨tyX12, tyX12_ok⟩, nmX12, by decide +kernel, by decide +kernel⟩
theorem fp_14_2 : FP 14 2 .int false := fun q hq => by obtain rfl := (Option.some.inj hq : ((RX12, TX12, 39) : vw_C) = q); exact ⟨⟨tyX12, tyX12_ok⟩, nmX12, by decide +kernel, by decide +kernel⟩
theorem fp_14_3 : FP 14 3 .int false := fun q hq => by obtain rfl := (Option.some.inj hq : ((RX12, TX12, 39) : vw_C) = q); exact ⟨⟨tyX12, tyX12_ok⟩, nmX12, by decide +kernel, by decide +kernel⟩
theorem fp_14_4 : FP 14 4 (.array .int) true := fun q hq => by obtain rfl := (Option.some.inj hq : ((RX12, TX12, 39) : vw_C) = q); exact ⟨⟨tyX12, tyX12_ok⟩, nmX12, by decide +kernel, by decide +kernel⟩
theorem fp_14_5 : FP 14 5 (.array .int) true := fun q hq => by obtain rfl := (Option.some.inj hq : ((RX12, TX12, 39) : vw_C) = q); exact ⟨⟨tyX12, tyX12_ok⟩, nmX12, by decide +kernel, by decide +kernel⟩
theorem fp_14_6 : FP 14 6 (.array .int) true := fun q hq => by obtain rfl := (Option.some.inj hq : ((RX12, TX12, 39) : vw_C) = q); exact ⟨⟨tyX12, tyX12_ok⟩, nmX12, by decide +kernel, by decide +kernel⟩
theorem fp_14_7 : FP 14 7 (.array .int) true := fun q hq => by obtain rfl := (Option.some.inj hq : ((RX12, TX12, 39) : vw_C) = q); exact ⟨⟨tyX12, tyX12_ok⟩, nmX12, by decide +kernel, by decide +kernel⟩
theorem fp_14_8 : FP 14 8 (.array .int) true := fun q hq => by obtain rfl := (Option.some.inj hq : ((RX12, TX12, 39) : vw_C) = q); exact ⟨⟨tyX12, tyX12_ok⟩, nmX12, by decide +kernel, by decide +kernel⟩
theorem fp_14_9 : FP 14 9 (.array .int) true := fun q hq => by obtain rfl := (Option.some.inj hq : ((RX12, TX12, 39) : vw_C) = q); exact ⟨⟨tyX12, tyX12_ok⟩, nmX12, by decide +kernel, by decide +kernel⟩
theorem fp_14_10 : FP 14 10 .int false := fun q hq => by obtain rfl := (Option.some.inj hq : ((RX12, TX12, 39) : vw_C) = q); exact ⟨⟨tyX12, tyX12_ok⟩, nmX12, by decide +kernel, by decide +kernel⟩
theorem fp_14_11 : FP 14 11 (.array .int) true := fun q hq => by obtain rfl := (Option.some.inj hq : ((RX12, TX12, 39) : vw_C) = q); exact ⟨⟨tyX12, tyX12_ok⟩, nmX12, by decide +kernel, by decide +kernel⟩
theorem fp_14_12 : FP 14 12 (.array .int) true := fun q hq => by obtain rfl := (Option.some.inj hq : ((RX12, TX12, 39) : vw_C) = q); exact ⟨⟨tyX12, tyX12_ok⟩, nmX12, by decide +kernel, by decide +kernel⟩
theorem fp_14_13 : FP 14 13 (.array .int) true := fun q hq => by obtain rfl := (Option.some.inj hq : ((RX12, TX12, 39) : vw_C) = q); exact ⟨⟨tyX12, tyX12_ok⟩, nmX12, by decide +kernel, by decide +kernel⟩
theorem fp_14_14 : FP 14 14 (.array .int) true := fun q hq => by obtain rfl := (Option.some.inj hq : ((RX12, TX12, 39) : vw_C) = q); exact ⟨⟨tyX12, tyX12_ok⟩, nmX12, by decide +kernel, by decide +kernel⟩
theorem fp_14_15 : FP 14 15 (.array .int) true := fun q hq => by obtain rfl := (Option.some.inj hq : ((RX12, TX12, 39) : vw_C) = q); exact ⟨⟨tyX12, tyX12_ok⟩, nmX12, by decide +kernel, by decide +kernel⟩
theorem fp_14_16 : FP 14 16 (.array .int) true := fun q hq => by obtain rfl := (Option.some.inj hq : ((RX12, TX12, 39) : vw_C) = q); exact ⟨⟨tyX12, tyX12_ok⟩, nmX12, by decide +kernel, by decide +kernel⟩
theorem fp_14_17 : FP 14 17 .int false := fun q hq => by obtain rfl := (Option.some.inj hq : ((RX12, TX12, 39) : vw_C) = q); exact ⟨⟨tyX12, tyX12_ok⟩, nmX12, by decide +kernel, by decide +kernel⟩
theorem fp_14_18 : FP 14 18 (.array .int) true := fun q hq => by obtain rfl := (Option.some.inj hq : ((RX12, TX12, 39) : vw_C) = q); exact ⟨⟨tyX12, tyX12_ok⟩, nmX12, by decide +kernel, by decide +kernel⟩
theorem fp_14_19 : FP 14 19 (.array .int) true := fun q hq => by obtain rfl := (Option.some.inj hq : ((RX12, TX12, 39) : vw_C) = q); exact ⟨⟨tyX12, tyX12_ok⟩, nmX12, by decide +kernel, by decide +kernel⟩
theorem fp_14_20 : FP 14 20 (.array .int) true := fun q hq => by obtain rfl := (Option.some.inj hq : ((RX12, TX12, 39) : vw_C) = q); exact ⟨⟨tyX12, tyX12_ok⟩, nmX12, by decide +kernel, by decide +kernel⟩
theorem fp_14_21 : FP 14 21 (.array .int) true := fun q hq => by obtain rfl := (Option.some.inj hq : ((RX12, TX12, 39) : vw_C) = q); exact ⟨⟨tyX12, tyX12_ok⟩, nmX12, by decide +kernel, by decide +kernel⟩
theorem fp_14_22 : FP 14 22 (.array .int) true := fun q hq => by obtain rfl := (Option.some.inj hq : ((RX12, TX12, 39) : vw_C) = q); exact ⟨⟨tyX12, tyX12_ok⟩, nmX12, by decide +kernel, by decide +kernel⟩
theorem fp_14_23 : FP 14 23 .int false := fun q hq => by obtain rfl := (Option.some.inj hq : ((RX12, TX12, 39) : vw_C) = q); exact ⟨⟨tyX12, tyX12_ok⟩, nmX12, by decide +kernel, by decide +kernel⟩
theorem fp_14_24 : FP 14 24 (.array .int) true := fun q hq => by obtain rfl := (Option.some.inj hq : ((RX12, TX12, 39) : vw_C) = q); exact ⟨⟨tyX12, tyX12_ok⟩, nmX12, by decide +kernel, by decide +kernel⟩
theorem fp_14_25 : FP 14 25 (.array .int) true := fun q hq => by obtain rfl := (Option.some.inj hq : ((RX12, TX12, 39) : vw_C) = q); exact ⟨⟨tyX12, tyX12_ok⟩, nmX12, by decide +kernel, by decide +kernel⟩
theorem fp_14_26 : FP 14 26 (.array .int) true := fun q hq => by obtain rfl := (Option.some.inj hq : ((RX12, TX12, 39) : vw_C) = q); exact ⟨⟨tyX12, tyX12_ok⟩, nmX12, by decide +kernel, by decide +kernel⟩
theorem fp_14_27 : FP 14 27 (.array .int) true := fun q hq => by obtain rfl := (Option.some.inj hq : ((RX12, TX12, 39) : vw_C) = q); exact ⟨⟨tyX12, tyX12_ok⟩, nmX12, by decide +kernel, by decide +kernel⟩
theorem fp_14_28 : FP 14 28 (.array .int) true := fun q hq => by obtain rfl := (Option.some.inj hq : ((RX12, TX12, 39) : vw_C) = q); exact ⟨⟨tyX12, tyX12_ok⟩, nmX12, by decide +kernel, by decide +kernel⟩
theorem fp_14_29 : FP 14 29 .int false := fun q hq => by obtain rfl := (Option.some.inj hq : ((RX12, TX12, 39) : vw_C) = q); exact ⟨⟨tyX12, tyX12_ok⟩, nmX12, by decide +kernel, by decide +kernel⟩
theorem fp_14_30 : FP 14 30 .int false := fun q hq => by obtain rfl := (Option.some.inj hq : ((RX12, TX12, 39) : vw_C) = q); exact ⟨⟨tyX12, tyX12_ok⟩, nmX12, by decide +kernel, by decide +kernel⟩
theorem fp_14_31 : FP 14 31 (.array .int) true := fun q hq => by obtain rfl := (Option.some.inj hq : ((RX12, TX12, 39) : vw_C) = q); exact ⟨⟨tyX12, tyX12_ok⟩, nmX12, by decide +kernel, by decide +kernel⟩
theorem fp_14_32 : FP 14 32 .int false := fun q hq => by obtain rfl := (Option.some.inj hq : ((RX12, TX12, 39) : vw_C) = q); exact ⟨⟨tyX12, tyX12_ok⟩, nmX12, by decide +kernel, by decide +kernel⟩
theorem fp_14_33 : FP 14 33 (.array .int) true := fun q hq => by obtain rfl := (Option.some.inj hq : ((RX12, TX12, 39) : vw_C) = q); exact ⟨⟨tyX12, tyX12_ok⟩, nmX12, by decide +kernel, by decide +kernel⟩
theorem fp_14_34 : FP 14 34 (.array .int) true := fun q hq => by obtain rfl := (Option.some.inj hq : ((RX12, TX12, 39) : vw_C) = q); exact ⟨⟨tyX12, tyX12_ok⟩, nmX12, by decide +kernel, by decide +kernel⟩
theorem fp_14_35 : FP 14 35 .int false := fun q hq => by obtain rfl := (Option.some.inj hq : ((RX12, TX12, 39) : vw_C) = q); exact ⟨⟨tyX12, tyX12_ok⟩, nmX12, by decide +kernel, by decide +kernel⟩
theorem fp_14_36 : FP 14 36 .int false := fun q hq => by obtain rfl := (Option.some.inj hq : ((RX12, TX12, 39) : vw_C) = q); exact ⟨⟨tyX12, tyX12_ok⟩, nmX12, by decide +kernel, by decide +kernel⟩
theorem fp_14_37 : FP 14 37 .boolean false := fun q hq => by obtain rfl := (Option.some.inj hq : ((RX12, TX12, 39) : vw_C) = q); exact ⟨⟨tyX12, tyX12_ok⟩, nmX12, by decide +kernel, by decide +kernel⟩
theorem fp_14_38 : FP 14 38 (.array .boolean) true := fun q hq => by obtain rfl := (Option.some.inj hq : ((RX12, TX12, 39) : vw_C) = q); exact ⟨⟨tyX12, tyX12_ok⟩, nmX12, by decide +kernel, by decide +kernel⟩
theorem nw_X2_15 : NW RX2 15 2 [.int 0, .null, .int 0] := ⟨(RJx4a65c, TJx4a65c, 3), rfl, uw_2, ⟨tyJx4a65c, tyJx4a65c_ok, by decide +kernel⟩, rfl, List.mem_of_getElem? (i := 595) (by decide +kernel), List.mem_of_getElem? (i := 140) (by decide +kernel), List.mem_of_getElem? (i := 101) (by decide +kernel)⟩
theorem nw_X11_9 : NW RX11 9 2 [.int 0, .null, .int 0] := ⟨(RJx4a65c, TJx4a65c, 3), rfl, uw_2, ⟨tyJx4a65c, tyJx4a65c_ok, by decide +kernel⟩, rfl, List.mem_of_getElem? (i := 139) (by decide +kernel), List.mem_of_getElem? (i := 140) (by decide +kernel), List.mem_of_getElem? (i := 101) (by decide +kernel)⟩
theorem nw_X11_29 : NW RX11 29 10 [.int 0, .null, .null, .null, .null, .null, .null] := ⟨(RX8, TX8, 7), rfl, uw_10, ⟨tyX8, tyX8_ok, by decide +kernel⟩, rfl, List.mem_of_getElem? (i := 165) (by decide +kernel), List.mem_of_getElem? (i := 166) (by decide +kernel), List.mem_of_getElem? (i := 102) (by decide +kernel)⟩
theorem nw_X11_38 : NW RX11 38 3 [.int 0, .null, .null, .null, .null, .null, .null, .null, .null, .null] := ⟨(RX0, TX0, 10), rfl, uw_3, ⟨tyX0, tyX0_ok, by decide +kernel⟩, rfl, List.mem_of_getElem? (i := 214) (by decide +kernel), List.mem_of_getElem? (i := 215) (by decide +kernel), List.mem_of_getElem? (i := 104) (by decide +kernel)⟩
theorem nw_X11_45 : NW RX11 45 12 [.null, .int 0] := ⟨(RX10, TX10, 2), rfl, uw_12, ⟨tyX10, tyX10_ok, by decide +kernel⟩, rfl, List.mem_of_getElem? (i := 251) (by decide +kernel), List.mem_of_getElem? (i := 252) (by decide +kernel), List.mem_of_getElem? (i := 105) (by decide +kernel)⟩
theorem nw_X11_79 : NW RX11 79 5 [.int 0, .int 0, .int 0, .null, .null, .int 0] := ⟨(RX2, TX2, 6), rfl, uw_5, ⟨tyX2, tyX2_ok, by decide +kernel⟩, rfl, List.mem_of_getElem? (i := 342) (by decide +kernel), List.mem_of_getElem? (i := 590) (by decide +kernel), List.mem_of_getElem? (i := 112) (by decide +kernel)⟩
theorem nw_X11_127 : NW RX11 127 7 [.int 0, .int 0, .int 0] := ⟨(RX5, TX5, 3), rfl, uw_7, ⟨tyX5, tyX5_ok, by decide +kernel⟩, rfl, List.mem_of_getElem? (i := 803) (by decide +kernel), List.mem_of_getElem? (i := 804) (by decide +kernel), List.mem_of_getElem? (i := 122) (by decide +kernel)⟩
theorem nw_X11_136 : NW RX11 136 11 [.int 0, .int 0] := ⟨(RX9, TX9, 2), rfl, uw_11, ⟨tyX9, tyX9_ok, by decide +kernel⟩, rfl, List.mem_of_getElem? (i := 834) (by decide +kernel), List.mem_of_getElem? (i := 835) (by decide +kernel), List.mem_of_getElem? (i := 123) (by decide +kernel)⟩
theorem nw_X11_141 : NW RX11 141 6 [.int 0, .int 0] := ⟨(RX3, TX3, 2), rfl, uw_6, ⟨tyX3, tyX3_ok, by decide +kernel⟩, rfl, List.mem_of_getElem? (i := 853) (by decide +kernel), List.mem_of_getElem? (i := 854) (by decide +kernel), List.mem_of_getElem? (i := 124) (by decide +kernel)⟩
theorem nw_X11_159 : NW RX11 159 4 [.int 0, .int 0, .int 0, .int 0, .int 0] := ⟨(RX1, TX1, 5), rfl, uw_4, ⟨tyX1, tyX1_ok, by decide +kernel⟩, rfl, List.mem_of_getElem? (i := 892) (by decide +kernel), List.mem_of_getElem? (i := 893) (by decide +kernel), List.mem_of_getElem? (i := 126) (by decide +kernel)⟩
theorem nw_X11_164 : NW RX11 164 8 [.int 0, .int 0] := ⟨(RX6, TX6, 2), rfl, uw_8, ⟨tyX6, tyX6_ok, by decide +kernel⟩, rfl, List.mem_of_getElem? (i := 933) (by decide +kernel), List.mem_of_getElem? (i := 934) (by decide +kernel), List.mem_of_getElem? (i := 127) (by decide +kernel)⟩
theorem nw_X11_353 : NW RX11 353 9 [.int 0, .int 0, .int 0, .null] := ⟨(RX7, TX7, 4), rfl, uw_9, ⟨tyX7, tyX7_ok, by decide +kernel⟩, rfl, List.mem_of_getElem? (i := 1298) (by decide +kernel), List.mem_of_getElem? (i := 1300) (by decide +kernel), List.mem_of_getElem? (i := 130) (by decide +kernel)⟩
theorem nw_L_8 : NW RL 8 13 [.null, .null, .null, .null, .null, .int 0, .int 0, .null, .null, .null, .null, .null] := ⟨(RX11, TX11, 12), rfl, uw_13, ⟨tyX11, tyX11_ok, by decide +kernel⟩, rfl, List.mem_of_getElem? (i := 131) (by decide +kernel), List.mem_of_getElem? (i := 132) (by decide +kernel), List.mem_of_getElem? (i := 98) (by decide +kernel)⟩
theorem nw_L_179 : NW RL 179 14 [.int 0, .int 0, .int 0, .int 0, .null, .null, .null, .null, .null, .null, .int 0, .null, .null, .null, .null, .null, .null, .int 0, .null, .null, .null, .null, .null, .int 0, .null, .null, .null, .null, .null, .int 0, .int 0, .null, .int 0, .null, .null, .int 0, .int 0, .int 0, .null] := ⟨(RX12, TX12, 39), rfl, uw_14, ⟨tyX12, tyX12_ok, by decide +kernel⟩, rfl, List.mem_of_getElem? (i := 1406) (by decide +kernel), List.mem_of_getElem? (i := 1407) (by decide +kernel), List.mem_of_getElem? (i := 106) (by decide +kernel)⟩
theorem lk_L_178 : LK RL 178 M_X11_init 0 := ⟨rfl, List.mem_of_getElem? (i := 133) (by decide +kernel), List.mem_of_getElem? (i := 135) (by decide +kernel), List.mem_of_getElem? (i := 98) (by decide +kernel), by decide, by decide +kernel, by decide +kernel, by decide +kernel⟩
theorem lki_L_178 : LKi RL 178 M_X11_init 0 := ⟨lk_L_178, List.mem_of_getElem? (i := 134) (by decide +kernel), rfl, rfl⟩
theorem lk_X11_11 : LK RX11 11 M_Jx4a65c_init_da8c8 0 := ⟨rfl, List.mem_of_getElem? (i := 141) (by decide +kernel), List.mem_of_getElem? (i := 143) (by decide +kernel), List.mem_of_getElem? (i := 101) (by decide +kernel), by decide, by decide +kernel, by decide +kernel, by decide +kernel⟩
theorem lki_X11_11 : LKi RX11 11 M_Jx4a65c_init_da8c8 0 := ⟨lk_X11_11, List.mem_of_getElem? (i := 142) (by decide +kernel), rfl, rfl⟩
theorem lk_Jx4a65c_1 : LK RJx4a65c 1 M_Jxc12de_init_da8c8 0 := ⟨rfl, List.mem_of_getElem? (i := 144) (by decide +kernel), List.mem_of_getElem? (i := 146) (by decide +kernel), List.mem_of_getElem? (i := 100) (by decide +kernel), by decide, by decide +kernel, by decide +kernel, by decide +kernel⟩
theorem lki_Jx4a65c_1 : LKi RJx4a65c 1 M_Jxc12de_init_da8c8 0 := ⟨lk_Jx4a65c_1, List.mem_of_getElem? (i := 145) (by decide +kernel), rfl, rfl⟩
theorem lk_Jxc12de_1 : LK RJxc12de 1 M_Jxa1e45_init_da8c8 0 := ⟨rfl, List.mem_of_getElem? (i := 147) (by decide +kernel), List.mem_of_getElem? (i := 149) (by decide +kernel), List.mem_of_getElem? (i := 99) (by decide +kernel), by decide, by decide +kernel, by decide +kernel, by decide +kernel⟩
theorem lki_Jxc12de_1 : LKi RJxc12de 1 M_Jxa1e45_init_da8c8 0 := ⟨lk_Jxc12de_1, List.mem_of_getElem? (i := 148) (by decide +kernel), rfl, rfl⟩
theorem lk_X11_31 : LK RX11 31 M_X8_init 1 := ⟨rfl, List.mem_of_getElem? (i := 167) (by decide +kernel), List.mem_of_getElem? (i := 169) (by decide +kernel), List.mem_of_getElem? (i := 102) (by decide +kernel), by decide, by decide +kernel, by decide +kernel, by decide +kernel⟩
theorem lki_X11_31 : LKi RX11 31 M_X8_init 1 := ⟨lk_X11_31, List.mem_of_getElem? (i := 168) (by decide +kernel), rfl, rfl⟩
theorem lk_X8_37 : LK RX8 37 M_J7_fill_53178 2 := ⟨rfl, List.mem_of_getElem? (i := 173) (by decide +kernel), List.mem_of_getElem? (i := 175) (by decide +kernel), List.mem_of_getElem? (i := 103) (by decide +kernel), by decide, by decide +kernel, by decide +kernel, by decide +kernel⟩
theorem lks_X8_37 : LKs RX8 37 M_J7_fill_53178 2 := ⟨lk_X8_37, List.mem_of_getElem? (i := 174) (by decide +kernel)⟩
theorem lk_L_238 : LK RL 238 M_X11_day 0 := ⟨rfl, List.mem_of_getElem? (i := 304) (by decide +kernel), List.mem_of_getElem? (i := 307) (by decide +kernel), List.mem_of_getElem? (i := 98) (by decide +kernel), by decide, by decide +kernel, by decide +kernel, by decide +kernel⟩
theorem lkv_L_238 : LKv RL 238 M_X11_day 0 := ⟨lk_L_238, List.mem_of_getElem? (i := 305) (by decide +kernel), List.mem_of_getElem? (i := 306) (by decide +kernel)⟩
theorem lk_L_242 : LK RL 242 M_X11_term 0 := ⟨rfl, List.mem_of_getElem? (i := 308) (by decide +kernel), List.mem_of_getElem? (i := 311) (by decide +kernel), List.mem_of_getElem? (i := 98) (by decide +kernel), by decide, by decide +kernel, by decide +kernel, by decide +kernel⟩
theorem lkv_L_242 : LKv RL 242 M_X11_term 0 := ⟨lk_L_242, List.mem_of_getElem? (i := 309) (by decide +kernel), List.mem_of_getElem? (i := 310) (by decide +kernel)⟩
theorem lk_L_277 : LK RL 277 M_X11_allEarned 0 := ⟨rfl, List.mem_of_getElem? (i := 312) (by decide +kernel), List.mem_of_getElem? (i := 315) (by decide +kernel), List.mem_of_getElem? (i := 98) (by decide +kernel), by decide, by decide +kernel, by decide +kernel, by decide +kernel⟩
theorem lkv_L_277 : LKv RL 277 M_X11_allEarned 0 := ⟨lk_L_277, List.mem_of_getElem? (i := 313) (by decide +kernel), List.mem_of_getElem? (i := 314) (by decide +kernel)⟩
theorem lk_X11_70 : LK RX11 70 M_Jx4a65c_size_8abf5 0 := ⟨rfl, List.mem_of_getElem? (i := 316) (by decide +kernel), List.mem_of_getElem? (i := 319) (by decide +kernel), List.mem_of_getElem? (i := 101) (by decide +kernel), by decide, by decide +kernel, by decide +kernel, by decide +kernel⟩
theorem lkv_X11_70 : LKv RX11 70 M_Jx4a65c_size_8abf5 0 := ⟨lk_X11_70, List.mem_of_getElem? (i := 317) (by decide +kernel), List.mem_of_getElem? (i := 318) (by decide +kernel)⟩
theorem lk_X11_276 : LK RX11 276 M_Jx4a65c_get_915e3 1 := ⟨rfl, List.mem_of_getElem? (i := 320) (by decide +kernel), List.mem_of_getElem? (i := 323) (by decide +kernel), List.mem_of_getElem? (i := 101) (by decide +kernel), by decide, by decide +kernel, by decide +kernel, by decide +kernel⟩
theorem lkv_X11_276 : LKv RX11 276 M_Jx4a65c_get_915e3 1 := ⟨lk_X11_276, List.mem_of_getElem? (i := 321) (by decide +kernel), List.mem_of_getElem? (i := 322) (by decide +kernel)⟩
theorem lk_Jx4a65c_118 : LK RJx4a65c 118 M_J15_checkIndex_7cf53 2 := ⟨rfl, List.mem_of_getElem? (i := 324) (by decide +kernel), List.mem_of_getElem? (i := 326) (by decide +kernel), List.mem_of_getElem? (i := 119) (by decide +kernel), by decide, by decide +kernel, by decide +kernel, by decide +kernel⟩
theorem lks_Jx4a65c_118 : LKs RJx4a65c 118 M_J15_checkIndex_7cf53 2 := ⟨lk_Jx4a65c_118, List.mem_of_getElem? (i := 325) (by decide +kernel)⟩
theorem lk_J15_105 : LK RJ15 105 M_J3_checkIndex_8e157 3 := ⟨rfl, List.mem_of_getElem? (i := 327) (by decide +kernel), List.mem_of_getElem? (i := 329) (by decide +kernel), List.mem_of_getElem? (i := 120) (by decide +kernel), by decide, by decide +kernel, by decide +kernel, by decide +kernel⟩
theorem lks_J15_105 : LKs RJ15 105 M_J3_checkIndex_8e157 3 := ⟨lk_J15_105, List.mem_of_getElem? (i := 328) (by decide +kernel)⟩
theorem lk_Jx4a65c_123 : LK RJx4a65c 123 M_Jx4a65c_elementData_915e3 1 := ⟨rfl, List.mem_of_getElem? (i := 330) (by decide +kernel), List.mem_of_getElem? (i := 333) (by decide +kernel), List.mem_of_getElem? (i := 101) (by decide +kernel), by decide, by decide +kernel, by decide +kernel, by decide +kernel⟩
theorem lkv_Jx4a65c_123 : LKv RJx4a65c 123 M_Jx4a65c_elementData_915e3 1 := ⟨lk_Jx4a65c_123, List.mem_of_getElem? (i := 331) (by decide +kernel), List.mem_of_getElem? (i := 332) (by decide +kernel)⟩
theorem lk_X11_305 : LK RX11 305 M_X11_creditsEarned 1 := ⟨rfl, List.mem_of_getElem? (i := 334) (by decide +kernel), List.mem_of_getElem? (i := 337) (by decide +kernel), List.mem_of_getElem? (i := 98) (by decide +kernel), by decide, by decide +kernel, by decide +kernel, by decide +kernel⟩
theorem lkv_X11_305 : LKv RX11 305 M_X11_creditsEarned 1 := ⟨lk_X11_305, List.mem_of_getElem? (i := 336) (by decide +kernel), List.mem_of_getElem? (i := 0) (by decide +kernel)⟩
theorem lk_X11_283 : LK RX11 283 M_X8_hasPassed 1 := ⟨rfl, List.mem_of_getElem? (i := 338) (by decide +kernel), List.mem_of_getElem? (i := 341) (by decide +kernel), List.mem_of_getElem? (i := 102) (by decide +kernel), by decide, by decide +kernel, by decide +kernel, by decide +kernel⟩
theorem lkv_X11_283 : LKv RX11 283 M_X8_hasPassed 1 := ⟨lk_X11_283, List.mem_of_getElem? (i := 339) (by decide +kernel), List.mem_of_getElem? (i := 340) (by decide +kernel)⟩
theorem lk_L_352 : LK RL 352 M_X11_isSound 0 := ⟨rfl, List.mem_of_getElem? (i := 343) (by decide +kernel), List.mem_of_getElem? (i := 346) (by decide +kernel), List.mem_of_getElem? (i := 98) (by decide +kernel), by decide, by decide +kernel, by decide +kernel, by decide +kernel⟩
theorem lkv_L_352 : LKv RL 352 M_X11_isSound 0 := ⟨lk_L_352, List.mem_of_getElem? (i := 344) (by decide +kernel), List.mem_of_getElem? (i := 345) (by decide +kernel)⟩
theorem lk_X11_387 : LK RX11 387 M_X11_isCourseSound 1 := ⟨rfl, List.mem_of_getElem? (i := 347) (by decide +kernel), List.mem_of_getElem? (i := 350) (by decide +kernel), List.mem_of_getElem? (i := 98) (by decide +kernel), by decide, by decide +kernel, by decide +kernel, by decide +kernel⟩
theorem lkv_X11_387 : LKv RX11 387 M_X11_isCourseSound 1 := ⟨lk_X11_387, List.mem_of_getElem? (i := 349) (by decide +kernel), List.mem_of_getElem? (i := 1) (by decide +kernel)⟩
theorem lk_X11_314 : LK RX11 314 M_X11_takersOf 1 := ⟨rfl, List.mem_of_getElem? (i := 351) (by decide +kernel), List.mem_of_getElem? (i := 354) (by decide +kernel), List.mem_of_getElem? (i := 98) (by decide +kernel), by decide, by decide +kernel, by decide +kernel, by decide +kernel⟩
theorem lkv_X11_314 : LKv RX11 314 M_X11_takersOf 1 := ⟨lk_X11_314, List.mem_of_getElem? (i := 353) (by decide +kernel), List.mem_of_getElem? (i := 2) (by decide +kernel)⟩
theorem lk_X11_437 : LK RX11 437 M_X11_canTakeSeat 2 := ⟨rfl, List.mem_of_getElem? (i := 355) (by decide +kernel), List.mem_of_getElem? (i := 358) (by decide +kernel), List.mem_of_getElem? (i := 98) (by decide +kernel), by decide, by decide +kernel, by decide +kernel, by decide +kernel⟩
theorem lkv_X11_437 : LKv RX11 437 M_X11_canTakeSeat 2 := ⟨lk_X11_437, List.mem_of_getElem? (i := 357) (by decide +kernel), List.mem_of_getElem? (i := 3) (by decide +kernel)⟩
theorem lk_X11_257 : LK RX11 257 M_X11_freeFor 2 := ⟨rfl, List.mem_of_getElem? (i := 359) (by decide +kernel), List.mem_of_getElem? (i := 362) (by decide +kernel), List.mem_of_getElem? (i := 98) (by decide +kernel), by decide, by decide +kernel, by decide +kernel, by decide +kernel⟩
theorem lkv_X11_257 : LKv RX11 257 M_X11_freeFor 2 := ⟨lk_X11_257, List.mem_of_getElem? (i := 361) (by decide +kernel), List.mem_of_getElem? (i := 4) (by decide +kernel)⟩
theorem lk_X11_431 : LK RX11 431 M_X11_takersOfMajor 2 := ⟨rfl, List.mem_of_getElem? (i := 363) (by decide +kernel), List.mem_of_getElem? (i := 366) (by decide +kernel), List.mem_of_getElem? (i := 98) (by decide +kernel), by decide, by decide +kernel, by decide +kernel, by decide +kernel⟩
theorem lkv_X11_431 : LKv RX11 431 M_X11_takersOfMajor 2 := ⟨lk_X11_431, List.mem_of_getElem? (i := 365) (by decide +kernel), List.mem_of_getElem? (i := 5) (by decide +kernel)⟩
theorem lk_X11_153 : LK RX11 153 M_J9_max_7cf53 2 := ⟨rfl, List.mem_of_getElem? (i := 367) (by decide +kernel), List.mem_of_getElem? (i := 369) (by decide +kernel), List.mem_of_getElem? (i := 114) (by decide +kernel), by decide, by decide +kernel, by decide +kernel, by decide +kernel⟩
theorem lks_X11_153 : LKs RX11 153 M_J9_max_7cf53 2 := ⟨lk_X11_153, List.mem_of_getElem? (i := 368) (by decide +kernel)⟩
theorem lk_X11_261 : LK RX11 261 M_X11_canBear 2 := ⟨rfl, List.mem_of_getElem? (i := 370) (by decide +kernel), List.mem_of_getElem? (i := 373) (by decide +kernel), List.mem_of_getElem? (i := 98) (by decide +kernel), by decide, by decide +kernel, by decide +kernel, by decide +kernel⟩
theorem lkv_X11_261 : LKv RX11 261 M_X11_canBear 2 := ⟨lk_X11_261, List.mem_of_getElem? (i := 372) (by decide +kernel), List.mem_of_getElem? (i := 6) (by decide +kernel)⟩
theorem lk_X11_266 : LK RX11 266 M_X11_loadOn 1 := ⟨rfl, List.mem_of_getElem? (i := 374) (by decide +kernel), List.mem_of_getElem? (i := 377) (by decide +kernel), List.mem_of_getElem? (i := 98) (by decide +kernel), by decide, by decide +kernel, by decide +kernel, by decide +kernel⟩
theorem lkv_X11_266 : LKv RX11 266 M_X11_loadOn 1 := ⟨lk_X11_266, List.mem_of_getElem? (i := 376) (by decide +kernel), List.mem_of_getElem? (i := 7) (by decide +kernel)⟩
theorem lk_X11_250 : LK RX11 250 M_X11_requisiteHolds 2 := ⟨rfl, List.mem_of_getElem? (i := 378) (by decide +kernel), List.mem_of_getElem? (i := 381) (by decide +kernel), List.mem_of_getElem? (i := 98) (by decide +kernel), by decide, by decide +kernel, by decide +kernel, by decide +kernel⟩
theorem lkv_X11_250 : LKv RX11 250 M_X11_requisiteHolds 2 := ⟨lk_X11_250, List.mem_of_getElem? (i := 380) (by decide +kernel), List.mem_of_getElem? (i := 8) (by decide +kernel)⟩
theorem lk_X11_167 : LK RX11 167 M_X11_truthsFor 1 := ⟨rfl, List.mem_of_getElem? (i := 382) (by decide +kernel), List.mem_of_getElem? (i := 385) (by decide +kernel), List.mem_of_getElem? (i := 98) (by decide +kernel), by decide, by decide +kernel, by decide +kernel, by decide +kernel⟩
theorem lkv_X11_167 : LKv RX11 167 M_X11_truthsFor 1 := ⟨lk_X11_167, List.mem_of_getElem? (i := 384) (by decide +kernel), List.mem_of_getElem? (i := 9) (by decide +kernel)⟩
theorem lk_X9_19 : LK RX9 19 M_X8_hasPassed 1 := ⟨rfl, List.mem_of_getElem? (i := 409) (by decide +kernel), List.mem_of_getElem? (i := 341) (by decide +kernel), List.mem_of_getElem? (i := 102) (by decide +kernel), by decide, by decide +kernel, by decide +kernel, by decide +kernel⟩
theorem lkv_X9_19 : LKv RX9 19 M_X8_hasPassed 1 := ⟨lk_X9_19, List.mem_of_getElem? (i := 339) (by decide +kernel), List.mem_of_getElem? (i := 340) (by decide +kernel)⟩
theorem lk_X11_171 : LK RX11 171 M_X11_isMet 2 := ⟨rfl, List.mem_of_getElem? (i := 410) (by decide +kernel), List.mem_of_getElem? (i := 395) (by decide +kernel), List.mem_of_getElem? (i := 98) (by decide +kernel), by decide, by decide +kernel, by decide +kernel, by decide +kernel⟩
theorem lks_X11_171 : LKs RX11 171 M_X11_isMet 2 := ⟨lk_X11_171, List.mem_of_getElem? (i := 394) (by decide +kernel)⟩
theorem lk_X11_391 : LK RX11 391 M_X11_auditsAgree 1 := ⟨rfl, List.mem_of_getElem? (i := 411) (by decide +kernel), List.mem_of_getElem? (i := 414) (by decide +kernel), List.mem_of_getElem? (i := 98) (by decide +kernel), by decide, by decide +kernel, by decide +kernel, by decide +kernel⟩
theorem lkv_X11_391 : LKv RX11 391 M_X11_auditsAgree 1 := ⟨lk_X11_391, List.mem_of_getElem? (i := 413) (by decide +kernel), List.mem_of_getElem? (i := 10) (by decide +kernel)⟩
theorem lk_X11_363 : LK RX11 363 M_X0_open 3 := ⟨rfl, List.mem_of_getElem? (i := 415) (by decide +kernel), List.mem_of_getElem? (i := 418) (by decide +kernel), List.mem_of_getElem? (i := 104) (by decide +kernel), by decide, by decide +kernel, by decide +kernel, by decide +kernel⟩
theorem lkv_X11_363 : LKv RX11 363 M_X0_open 3 := ⟨lk_X11_363, List.mem_of_getElem? (i := 416) (by decide +kernel), List.mem_of_getElem? (i := 417) (by decide +kernel)⟩
theorem lk_X0_44 : LK RX0 44 M_J7_fill_53178 2 := ⟨rfl, List.mem_of_getElem? (i := 419) (by decide +kernel), List.mem_of_getElem? (i := 175) (by decide +kernel), List.mem_of_getElem? (i := 103) (by decide +kernel), by decide, by decide +kernel, by decide +kernel, by decide +kernel⟩
theorem lks_X0_44 : LKs RX0 44 M_J7_fill_53178 2 := ⟨lk_X0_44, List.mem_of_getElem? (i := 174) (by decide +kernel)⟩
theorem lk_X0_50 : LK RX0 50 M_Jx4a65c_size_8abf5 0 := ⟨rfl, List.mem_of_getElem? (i := 420) (by decide +kernel), List.mem_of_getElem? (i := 319) (by decide +kernel), List.mem_of_getElem? (i := 101) (by decide +kernel), by decide, by decide +kernel, by decide +kernel, by decide +kernel⟩
theorem lkv_X0_50 : LKv RX0 50 M_Jx4a65c_size_8abf5 0 := ⟨lk_X0_50, List.mem_of_getElem? (i := 317) (by decide +kernel), List.mem_of_getElem? (i := 318) (by decide +kernel)⟩
theorem lk_X0_56 : LK RX0 56 M_Jx4a65c_get_915e3 1 := ⟨rfl, List.mem_of_getElem? (i := 421) (by decide +kernel), List.mem_of_getElem? (i := 323) (by decide +kernel), List.mem_of_getElem? (i := 101) (by decide +kernel), by decide, by decide +kernel, by decide +kernel, by decide +kernel⟩
theorem lkv_X0_56 : LKv RX0 56 M_Jx4a65c_get_915e3 1 := ⟨lk_X0_56, List.mem_of_getElem? (i := 321) (by decide +kernel), List.mem_of_getElem? (i := 322) (by decide +kernel)⟩
theorem lk_X0_71 : LK RX0 71 M_X0_noteFits 3 := ⟨rfl, List.mem_of_getElem? (i := 423) (by decide +kernel), List.mem_of_getElem? (i := 426) (by decide +kernel), List.mem_of_getElem? (i := 104) (by decide +kernel), by decide, by decide +kernel, by decide +kernel, by decide +kernel⟩
theorem lkv_X0_71 : LKv RX0 71 M_X0_noteFits 3 := ⟨lk_X0_71, List.mem_of_getElem? (i := 425) (by decide +kernel), List.mem_of_getElem? (i := 11) (by decide +kernel)⟩
theorem lk_X11_370 : LK RX11 370 M_X0_tryAll 0 := ⟨rfl, List.mem_of_getElem? (i := 427) (by decide +kernel), List.mem_of_getElem? (i := 430) (by decide +kernel), List.mem_of_getElem? (i := 104) (by decide +kernel), by decide, by decide +kernel, by decide +kernel, by decide +kernel⟩
theorem lkv_X11_370 : LKv RX11 370 M_X0_tryAll 0 := ⟨lk_X11_370, List.mem_of_getElem? (i := 428) (by decide +kernel), List.mem_of_getElem? (i := 429) (by decide +kernel)⟩
theorem lk_X0_116 : LK RX0 116 M_X0_trials 0 := ⟨rfl, List.mem_of_getElem? (i := 431) (by decide +kernel), List.mem_of_getElem? (i := 434) (by decide +kernel), List.mem_of_getElem? (i := 104) (by decide +kernel), by decide, by decide +kernel, by decide +kernel, by decide +kernel⟩
theorem lkv_X0_116 : LKv RX0 116 M_X0_trials 0 := ⟨lk_X0_116, List.mem_of_getElem? (i := 433) (by decide +kernel), List.mem_of_getElem? (i := 12) (by decide +kernel)⟩
theorem lk_X0_119 : LK RX0 119 M_X0_tryCourse 1 := ⟨rfl, List.mem_of_getElem? (i := 435) (by decide +kernel), List.mem_of_getElem? (i := 438) (by decide +kernel), List.mem_of_getElem? (i := 104) (by decide +kernel), by decide, by decide +kernel, by decide +kernel, by decide +kernel⟩
theorem lkv_X0_119 : LKv RX0 119 M_X0_tryCourse 1 := ⟨lk_X0_119, List.mem_of_getElem? (i := 437) (by decide +kernel), List.mem_of_getElem? (i := 13) (by decide +kernel)⟩
theorem lk_X0_109 : LK RX0 109 M_X0_isFit 2 := ⟨rfl, List.mem_of_getElem? (i := 439) (by decide +kernel), List.mem_of_getElem? (i := 442) (by decide +kernel), List.mem_of_getElem? (i := 104) (by decide +kernel), by decide, by decide +kernel, by decide +kernel, by decide +kernel⟩
theorem lkv_X0_109 : LKv RX0 109 M_X0_isFit 2 := ⟨lk_X0_109, List.mem_of_getElem? (i := 441) (by decide +kernel), List.mem_of_getElem? (i := 14) (by decide +kernel)⟩
theorem lk_X0_125 : LK RX0 125 M_X0_countIn 2 := ⟨rfl, List.mem_of_getElem? (i := 443) (by decide +kernel), List.mem_of_getElem? (i := 445) (by decide +kernel), List.mem_of_getElem? (i := 104) (by decide +kernel), by decide, by decide +kernel, by decide +kernel, by decide +kernel⟩
theorem lks_X0_125 : LKs RX0 125 M_X0_countIn 2 := ⟨lk_X0_125, List.mem_of_getElem? (i := 444) (by decide +kernel)⟩
theorem lk_X0_122 : LK RX0 122 M_X0_mostTried 1 := ⟨rfl, List.mem_of_getElem? (i := 446) (by decide +kernel), List.mem_of_getElem? (i := 449) (by decide +kernel), List.mem_of_getElem? (i := 104) (by decide +kernel), by decide, by decide +kernel, by decide +kernel, by decide +kernel⟩
theorem lkv_X0_122 : LKv RX0 122 M_X0_mostTried 1 := ⟨lk_X0_122, List.mem_of_getElem? (i := 448) (by decide +kernel), List.mem_of_getElem? (i := 15) (by decide +kernel)⟩
theorem lk_X0_128 : LK RX0 128 M_X0_sumOf 1 := ⟨rfl, List.mem_of_getElem? (i := 450) (by decide +kernel), List.mem_of_getElem? (i := 453) (by decide +kernel), List.mem_of_getElem? (i := 104) (by decide +kernel), by decide, by decide +kernel, by decide +kernel, by decide +kernel⟩
theorem lkv_X0_128 : LKv RX0 128 M_X0_sumOf 1 := ⟨lk_X0_128, List.mem_of_getElem? (i := 452) (by decide +kernel), List.mem_of_getElem? (i := 16) (by decide +kernel)⟩
theorem lk_X0_131 : LK RX0 131 M_J9_max_7cf53 2 := ⟨rfl, List.mem_of_getElem? (i := 454) (by decide +kernel), List.mem_of_getElem? (i := 369) (by decide +kernel), List.mem_of_getElem? (i := 114) (by decide +kernel), by decide, by decide +kernel, by decide +kernel, by decide +kernel⟩
theorem lks_X0_131 : LKs RX0 131 M_J9_max_7cf53 2 := ⟨lk_X0_131, List.mem_of_getElem? (i := 368) (by decide +kernel)⟩
theorem lk_X11_367 : LK RX11 367 M_X0_giveAll 0 := ⟨rfl, List.mem_of_getElem? (i := 455) (by decide +kernel), List.mem_of_getElem? (i := 458) (by decide +kernel), List.mem_of_getElem? (i := 104) (by decide +kernel), by decide, by decide +kernel, by decide +kernel, by decide +kernel⟩
theorem lkv_X11_367 : LKv RX11 367 M_X0_giveAll 0 := ⟨lk_X11_367, List.mem_of_getElem? (i := 456) (by decide +kernel), List.mem_of_getElem? (i := 457) (by decide +kernel)⟩
theorem lk_X0_93 : LK RX0 93 M_X0_giveFrom 1 := ⟨rfl, List.mem_of_getElem? (i := 462) (by decide +kernel), List.mem_of_getElem? (i := 465) (by decide +kernel), List.mem_of_getElem? (i := 104) (by decide +kernel), by decide, by decide +kernel, by decide +kernel, by decide +kernel⟩
theorem lkv_X0_93 : LKv RX0 93 M_X0_giveFrom 1 := ⟨lk_X0_93, List.mem_of_getElem? (i := 464) (by decide +kernel), List.mem_of_getElem? (i := 17) (by decide +kernel)⟩
theorem lk_X0_97 : LK RX0 97 M_X0_give 1 := ⟨rfl, List.mem_of_getElem? (i := 466) (by decide +kernel), List.mem_of_getElem? (i := 469) (by decide +kernel), List.mem_of_getElem? (i := 104) (by decide +kernel), by decide, by decide +kernel, by decide +kernel, by decide +kernel⟩
theorem lkv_X0_97 : LKv RX0 97 M_X0_give 1 := ⟨lk_X0_97, List.mem_of_getElem? (i := 468) (by decide +kernel), List.mem_of_getElem? (i := 18) (by decide +kernel)⟩
theorem lk_X0_101 : LK RX0 101 M_X0_findSlotsFor 2 := ⟨rfl, List.mem_of_getElem? (i := 470) (by decide +kernel), List.mem_of_getElem? (i := 473) (by decide +kernel), List.mem_of_getElem? (i := 104) (by decide +kernel), by decide, by decide +kernel, by decide +kernel, by decide +kernel⟩
theorem lkv_X0_101 : LKv RX0 101 M_X0_findSlotsFor 2 := ⟨lk_X0_101, List.mem_of_getElem? (i := 472) (by decide +kernel), List.mem_of_getElem? (i := 19) (by decide +kernel)⟩
theorem lk_X0_105 : LK RX0 105 M_X0_handOn 1 := ⟨rfl, List.mem_of_getElem? (i := 474) (by decide +kernel), List.mem_of_getElem? (i := 477) (by decide +kernel), List.mem_of_getElem? (i := 104) (by decide +kernel), by decide, by decide +kernel, by decide +kernel, by decide +kernel⟩
theorem lkv_X0_105 : LKv RX0 105 M_X0_handOn 1 := ⟨lk_X0_105, List.mem_of_getElem? (i := 476) (by decide +kernel), List.mem_of_getElem? (i := 20) (by decide +kernel)⟩
theorem lk_X11_373 : LK RX11 373 M_X0_shortRules 0 := ⟨rfl, List.mem_of_getElem? (i := 478) (by decide +kernel), List.mem_of_getElem? (i := 481) (by decide +kernel), List.mem_of_getElem? (i := 104) (by decide +kernel), by decide, by decide +kernel, by decide +kernel, by decide +kernel⟩
theorem lkv_X11_373 : LKv RX11 373 M_X0_shortRules 0 := ⟨lk_X11_373, List.mem_of_getElem? (i := 479) (by decide +kernel), List.mem_of_getElem? (i := 480) (by decide +kernel)⟩
theorem lk_X0_113 : LK RX0 113 M_X0_ruleBits 1 := ⟨rfl, List.mem_of_getElem? (i := 482) (by decide +kernel), List.mem_of_getElem? (i := 485) (by decide +kernel), List.mem_of_getElem? (i := 104) (by decide +kernel), by decide, by decide +kernel, by decide +kernel, by decide +kernel⟩
theorem lkv_X0_113 : LKv RX0 113 M_X0_ruleBits 1 := ⟨lk_X0_113, List.mem_of_getElem? (i := 484) (by decide +kernel), List.mem_of_getElem? (i := 21) (by decide +kernel)⟩
theorem lk_X11_376 : LK RX11 376 M_X0_shortRulesByTrial 1 := ⟨rfl, List.mem_of_getElem? (i := 486) (by decide +kernel), List.mem_of_getElem? (i := 489) (by decide +kernel), List.mem_of_getElem? (i := 104) (by decide +kernel), by decide, by decide +kernel, by decide +kernel, by decide +kernel⟩
theorem lkv_X11_376 : LKv RX11 376 M_X0_shortRulesByTrial 1 := ⟨lk_X11_376, List.mem_of_getElem? (i := 487) (by decide +kernel), List.mem_of_getElem? (i := 488) (by decide +kernel)⟩
theorem lk_L_7 : LK RL 7 M_X11_addCourse 2 := ⟨rfl, List.mem_of_getElem? (i := 495) (by decide +kernel), List.mem_of_getElem? (i := 498) (by decide +kernel), List.mem_of_getElem? (i := 98) (by decide +kernel), by decide, by decide +kernel, by decide +kernel, by decide +kernel⟩
theorem lkv_L_7 : LKv RL 7 M_X11_addCourse 2 := ⟨lk_L_7, List.mem_of_getElem? (i := 496) (by decide +kernel), List.mem_of_getElem? (i := 497) (by decide +kernel)⟩
theorem lk_X11_59 : LK RX11 59 M_X11_isWithin 3 := ⟨rfl, List.mem_of_getElem? (i := 499) (by decide +kernel), List.mem_of_getElem? (i := 501) (by decide +kernel), List.mem_of_getElem? (i := 98) (by decide +kernel), by decide, by decide +kernel, by decide +kernel, by decide +kernel⟩
theorem lks_X11_59 : LKs RX11 59 M_X11_isWithin 3 := ⟨lk_X11_59, List.mem_of_getElem? (i := 500) (by decide +kernel)⟩
theorem lk_X11_81 : LK RX11 81 M_X2_init 3 := ⟨rfl, List.mem_of_getElem? (i := 591) (by decide +kernel), List.mem_of_getElem? (i := 593) (by decide +kernel), List.mem_of_getElem? (i := 112) (by decide +kernel), by decide, by decide +kernel, by decide +kernel, by decide +kernel⟩
theorem lki_X11_81 : LKi RX11 81 M_X2_init 3 := ⟨lk_X11_81, List.mem_of_getElem? (i := 592) (by decide +kernel), rfl, rfl⟩
theorem lk_X2_17 : LK RX2 17 M_Jx4a65c_init_da8c8 0 := ⟨rfl, List.mem_of_getElem? (i := 596) (by decide +kernel), List.mem_of_getElem? (i := 143) (by decide +kernel), List.mem_of_getElem? (i := 101) (by decide +kernel), by decide, by decide +kernel, by decide +kernel, by decide +kernel⟩
theorem lki_X2_17 : LKi RX2 17 M_Jx4a65c_init_da8c8 0 := ⟨lk_X2_17, List.mem_of_getElem? (i := 142) (by decide +kernel), rfl, rfl⟩
theorem lk_X11_84 : LK RX11 84 M_Jx4a65c_add_9ea2d 1 := ⟨rfl, List.mem_of_getElem? (i := 622) (by decide +kernel), List.mem_of_getElem? (i := 625) (by decide +kernel), List.mem_of_getElem? (i := 101) (by decide +kernel), by decide, by decide +kernel, by decide +kernel, by decide +kernel⟩
theorem lkv_X11_84 : LKv RX11 84 M_Jx4a65c_add_9ea2d 1 := ⟨lk_X11_84, List.mem_of_getElem? (i := 623) (by decide +kernel), List.mem_of_getElem? (i := 624) (by decide +kernel)⟩
theorem lk_Jx4a65c_131 : LK RJx4a65c 131 M_Jx4a65c_add_72be8 3 := ⟨rfl, List.mem_of_getElem? (i := 626) (by decide +kernel), List.mem_of_getElem? (i := 629) (by decide +kernel), List.mem_of_getElem? (i := 101) (by decide +kernel), by decide, by decide +kernel, by decide +kernel, by decide +kernel⟩
theorem lkv_Jx4a65c_131 : LKv RJx4a65c 131 M_Jx4a65c_add_72be8 3 := ⟨lk_Jx4a65c_131, List.mem_of_getElem? (i := 628) (by decide +kernel), List.mem_of_getElem? (i := 23) (by decide +kernel)⟩
theorem lk_Jx4a65c_129 : LK RJx4a65c 129 M_Jx4a65c_grow_d5877 0 := ⟨rfl, List.mem_of_getElem? (i := 630) (by decide +kernel), List.mem_of_getElem? (i := 633) (by decide +kernel), List.mem_of_getElem? (i := 101) (by decide +kernel), by decide, by decide +kernel, by decide +kernel, by decide +kernel⟩
theorem lkv_Jx4a65c_129 : LKv RJx4a65c 129 M_Jx4a65c_grow_d5877 0 := ⟨lk_Jx4a65c_129, List.mem_of_getElem? (i := 632) (by decide +kernel), List.mem_of_getElem? (i := 24) (by decide +kernel)⟩
theorem lk_Jx4a65c_69 : LK RJx4a65c 69 M_Jx4a65c_grow_92f84 1 := ⟨rfl, List.mem_of_getElem? (i := 634) (by decide +kernel), List.mem_of_getElem? (i := 637) (by decide +kernel), List.mem_of_getElem? (i := 101) (by decide +kernel), by decide, by decide +kernel, by decide +kernel, by decide +kernel⟩
theorem lkv_Jx4a65c_69 : LKv RJx4a65c 69 M_Jx4a65c_grow_92f84 1 := ⟨lk_Jx4a65c_69, List.mem_of_getElem? (i := 636) (by decide +kernel), List.mem_of_getElem? (i := 25) (by decide +kernel)⟩
theorem lk_Jx4a65c_73 : LK RJx4a65c 73 M_J8_newLength_cabcc 3 := ⟨rfl, List.mem_of_getElem? (i := 638) (by decide +kernel), List.mem_of_getElem? (i := 640) (by decide +kernel), List.mem_of_getElem? (i := 113) (by decide +kernel), by decide, by decide +kernel, by decide +kernel, by decide +kernel⟩
theorem lks_Jx4a65c_73 : LKs RJx4a65c 73 M_J8_newLength_cabcc 3 := ⟨lk_Jx4a65c_73, List.mem_of_getElem? (i := 639) (by decide +kernel)⟩
theorem lk_J8_194 : LK RJ8 194 M_J9_max_7cf53 2 := ⟨rfl, List.mem_of_getElem? (i := 641) (by decide +kernel), List.mem_of_getElem? (i := 369) (by decide +kernel), List.mem_of_getElem? (i := 114) (by decide +kernel), by decide, by decide +kernel, by decide +kernel, by decide +kernel⟩
theorem lks_J8_194 : LKs RJ8 194 M_J9_max_7cf53 2 := ⟨lk_J8_194, List.mem_of_getElem? (i := 368) (by decide +kernel)⟩
theorem lk_J8_201 : LK RJ8 201 M_J8_hugeLength_7cf53 2 := ⟨rfl, List.mem_of_getElem? (i := 643) (by decide +kernel), List.mem_of_getElem? (i := 645) (by decide +kernel), List.mem_of_getElem? (i := 113) (by decide +kernel), by decide, by decide +kernel, by decide +kernel, by decide +kernel⟩
theorem lks_J8_201 : LKs RJ8 201 M_J8_hugeLength_7cf53 2 := ⟨lk_J8_201, List.mem_of_getElem? (i := 644) (by decide +kernel)⟩
theorem lk_Jx4a65c_66 : LK RJx4a65c 66 M_J7_copyOf_1904c 2 := ⟨rfl, List.mem_of_getElem? (i := 646) (by decide +kernel), List.mem_of_getElem? (i := 648) (by decide +kernel), List.mem_of_getElem? (i := 103) (by decide +kernel), by decide, by decide +kernel, by decide +kernel, by decide +kernel⟩
theorem lks_Jx4a65c_66 : LKs RJx4a65c 66 M_J7_copyOf_1904c 2 := ⟨lk_Jx4a65c_66, List.mem_of_getElem? (i := 647) (by decide +kernel)⟩
theorem lk_J7_300 : LK RJ7 300 M_J7_copyOf_6403c 3 := ⟨rfl, List.mem_of_getElem? (i := 673) (by decide +kernel), List.mem_of_getElem? (i := 675) (by decide +kernel), List.mem_of_getElem? (i := 103) (by decide +kernel), by decide, by decide +kernel, by decide +kernel, by decide +kernel⟩
theorem lks_J7_300 : LKs RJ7 300 M_J7_copyOf_6403c 3 := ⟨lk_J7_300, List.mem_of_getElem? (i := 674) (by decide +kernel)⟩
theorem lk_J7_304 : LK RJ7 304 M_J9_min_7cf53 2 := ⟨rfl, List.mem_of_getElem? (i := 679) (by decide +kernel), List.mem_of_getElem? (i := 681) (by decide +kernel), List.mem_of_getElem? (i := 114) (by decide +kernel), by decide, by decide +kernel, by decide +kernel, by decide +kernel⟩
theorem lks_J7_304 : LKs RJ7 304 M_J9_min_7cf53 2 := ⟨lk_J7_304, List.mem_of_getElem? (i := 680) (by decide +kernel)⟩
theorem lk_Jx4a65c_79 : LK RJx4a65c 79 M_J9_max_7cf53 2 := ⟨rfl, List.mem_of_getElem? (i := 683) (by decide +kernel), List.mem_of_getElem? (i := 369) (by decide +kernel), List.mem_of_getElem? (i := 114) (by decide +kernel), by decide, by decide +kernel, by decide +kernel, by decide +kernel⟩
theorem lks_Jx4a65c_79 : LKs RJx4a65c 79 M_J9_max_7cf53 2 := ⟨lk_Jx4a65c_79, List.mem_of_getElem? (i := 368) (by decide +kernel)⟩
theorem lk_L_17 : LK RL 17 M_X11_addStudent 1 := ⟨rfl, List.mem_of_getElem? (i := 688) (by decide +kernel), List.mem_of_getElem? (i := 691) (by decide +kernel), List.mem_of_getElem? (i := 98) (by decide +kernel), by decide, by decide +kernel, by decide +kernel, by decide +kernel⟩
theorem lkv_L_17 : LKv RL 17 M_X11_addStudent 1 := ⟨lk_L_17, List.mem_of_getElem? (i := 689) (by decide +kernel), List.mem_of_getElem? (i := 690) (by decide +kernel)⟩
theorem lk_X11_88 : LK RX11 88 M_X11_checkMajor 1 := ⟨rfl, List.mem_of_getElem? (i := 692) (by decide +kernel), List.mem_of_getElem? (i := 694) (by decide +kernel), List.mem_of_getElem? (i := 98) (by decide +kernel), by decide, by decide +kernel, by decide +kernel, by decide +kernel⟩
theorem lks_X11_88 : LKs RX11 88 M_X11_checkMajor 1 := ⟨lk_X11_88, List.mem_of_getElem? (i := 693) (by decide +kernel)⟩
theorem lk_L_21 : LK RL 21 M_X11_changeMajor 2 := ⟨rfl, List.mem_of_getElem? (i := 724) (by decide +kernel), List.mem_of_getElem? (i := 727) (by decide +kernel), List.mem_of_getElem? (i := 98) (by decide +kernel), by decide, by decide +kernel, by decide +kernel, by decide +kernel⟩
theorem lkv_L_21 : LKv RL 21 M_X11_changeMajor 2 := ⟨lk_L_21, List.mem_of_getElem? (i := 725) (by decide +kernel), List.mem_of_getElem? (i := 726) (by decide +kernel)⟩
theorem lk_X11_93 : LK RX11 93 M_X11_studentAt 1 := ⟨rfl, List.mem_of_getElem? (i := 728) (by decide +kernel), List.mem_of_getElem? (i := 731) (by decide +kernel), List.mem_of_getElem? (i := 98) (by decide +kernel), by decide, by decide +kernel, by decide +kernel, by decide +kernel⟩
theorem lkv_X11_93 : LKv RX11 93 M_X11_studentAt 1 := ⟨lk_X11_93, List.mem_of_getElem? (i := 730) (by decide +kernel), List.mem_of_getElem? (i := 26) (by decide +kernel)⟩
theorem lk_X11_101 : LK RX11 101 M_X11_giveOutSeats 0 := ⟨rfl, List.mem_of_getElem? (i := 745) (by decide +kernel), List.mem_of_getElem? (i := 748) (by decide +kernel), List.mem_of_getElem? (i := 98) (by decide +kernel), by decide, by decide +kernel, by decide +kernel, by decide +kernel⟩
theorem lkv_X11_101 : LKv RX11 101 M_X11_giveOutSeats 0 := ⟨lk_X11_101, List.mem_of_getElem? (i := 747) (by decide +kernel), List.mem_of_getElem? (i := 27) (by decide +kernel)⟩
theorem lk_X11_434 : LK RX11 434 M_X11_giveSeatIn 1 := ⟨rfl, List.mem_of_getElem? (i := 749) (by decide +kernel), List.mem_of_getElem? (i := 752) (by decide +kernel), List.mem_of_getElem? (i := 98) (by decide +kernel), by decide, by decide +kernel, by decide +kernel, by decide +kernel⟩
theorem lkv_X11_434 : LKv RX11 434 M_X11_giveSeatIn 1 := ⟨lk_X11_434, List.mem_of_getElem? (i := 751) (by decide +kernel), List.mem_of_getElem? (i := 28) (by decide +kernel)⟩
theorem lk_X11_440 : LK RX11 440 M_Jx4a65c_remove_915e3 1 := ⟨rfl, List.mem_of_getElem? (i := 753) (by decide +kernel), List.mem_of_getElem? (i := 756) (by decide +kernel), List.mem_of_getElem? (i := 101) (by decide +kernel), by decide, by decide +kernel, by decide +kernel, by decide +kernel⟩
theorem lkv_X11_440 : LKv RX11 440 M_Jx4a65c_remove_915e3 1 := ⟨lk_X11_440, List.mem_of_getElem? (i := 754) (by decide +kernel), List.mem_of_getElem? (i := 755) (by decide +kernel)⟩
theorem lk_Jx4a65c_144 : LK RJx4a65c 144 M_Jx4a65c_fastRemove_b59b0 2 := ⟨rfl, List.mem_of_getElem? (i := 757) (by decide +kernel), List.mem_of_getElem? (i := 760) (by decide +kernel), List.mem_of_getElem? (i := 101) (by decide +kernel), by decide, by decide +kernel, by decide +kernel, by decide +kernel⟩
theorem lkv_Jx4a65c_144 : LKv RJx4a65c 144 M_Jx4a65c_fastRemove_b59b0 2 := ⟨lk_Jx4a65c_144, List.mem_of_getElem? (i := 759) (by decide +kernel), List.mem_of_getElem? (i := 29) (by decide +kernel)⟩
theorem lk_L_26 : LK RL 26 M_X11_majorOf 1 := ⟨rfl, List.mem_of_getElem? (i := 765) (by decide +kernel), List.mem_of_getElem? (i := 768) (by decide +kernel), List.mem_of_getElem? (i := 98) (by decide +kernel), by decide, by decide +kernel, by decide +kernel, by decide +kernel⟩
theorem lkv_L_26 : LKv RL 26 M_X11_majorOf 1 := ⟨lk_L_26, List.mem_of_getElem? (i := 766) (by decide +kernel), List.mem_of_getElem? (i := 767) (by decide +kernel)⟩
theorem lk_L_29 : LK RL 29 M_X11_reserve 3 := ⟨rfl, List.mem_of_getElem? (i := 772) (by decide +kernel), List.mem_of_getElem? (i := 775) (by decide +kernel), List.mem_of_getElem? (i := 98) (by decide +kernel), by decide, by decide +kernel, by decide +kernel, by decide +kernel⟩
theorem lkv_L_29 : LKv RL 29 M_X11_reserve 3 := ⟨lk_L_29, List.mem_of_getElem? (i := 773) (by decide +kernel), List.mem_of_getElem? (i := 774) (by decide +kernel)⟩
theorem lk_X11_104 : LK RX11 104 M_X11_courseAt 1 := ⟨rfl, List.mem_of_getElem? (i := 776) (by decide +kernel), List.mem_of_getElem? (i := 779) (by decide +kernel), List.mem_of_getElem? (i := 98) (by decide +kernel), by decide, by decide +kernel, by decide +kernel, by decide +kernel⟩
theorem lkv_X11_104 : LKv RX11 104 M_X11_courseAt 1 := ⟨lk_X11_104, List.mem_of_getElem? (i := 778) (by decide +kernel), List.mem_of_getElem? (i := 30) (by decide +kernel)⟩
theorem lk_X11_116 : LK RX11 116 M_X2_allReserved 0 := ⟨rfl, List.mem_of_getElem? (i := 782) (by decide +kernel), List.mem_of_getElem? (i := 785) (by decide +kernel), List.mem_of_getElem? (i := 112) (by decide +kernel), by decide, by decide +kernel, by decide +kernel, by decide +kernel⟩
theorem lkv_X11_116 : LKv RX11 116 M_X2_allReserved 0 := ⟨lk_X11_116, List.mem_of_getElem? (i := 783) (by decide +kernel), List.mem_of_getElem? (i := 784) (by decide +kernel)⟩
theorem lk_L_33 : LK RL 33 M_X11_markFormula 2 := ⟨rfl, List.mem_of_getElem? (i := 790) (by decide +kernel), List.mem_of_getElem? (i := 793) (by decide +kernel), List.mem_of_getElem? (i := 98) (by decide +kernel), by decide, by decide +kernel, by decide +kernel, by decide +kernel⟩
theorem lkv_L_33 : LKv RL 33 M_X11_markFormula 2 := ⟨lk_L_33, List.mem_of_getElem? (i := 791) (by decide +kernel), List.mem_of_getElem? (i := 792) (by decide +kernel)⟩
theorem lk_X11_121 : LK RX11 121 M_X11_checkMark 1 := ⟨rfl, List.mem_of_getElem? (i := 794) (by decide +kernel), List.mem_of_getElem? (i := 796) (by decide +kernel), List.mem_of_getElem? (i := 98) (by decide +kernel), by decide, by decide +kernel, by decide +kernel, by decide +kernel⟩
theorem lks_X11_121 : LKs RX11 121 M_X11_checkMark 1 := ⟨lk_X11_121, List.mem_of_getElem? (i := 795) (by decide +kernel)⟩
theorem lk_X11_124 : LK RX11 124 M_X11_checkFormulaFits 1 := ⟨rfl, List.mem_of_getElem? (i := 798) (by decide +kernel), List.mem_of_getElem? (i := 801) (by decide +kernel), List.mem_of_getElem? (i := 98) (by decide +kernel), by decide, by decide +kernel, by decide +kernel, by decide +kernel⟩
theorem lkv_X11_124 : LKv RX11 124 M_X11_checkFormulaFits 1 := ⟨lk_X11_124, List.mem_of_getElem? (i := 800) (by decide +kernel), List.mem_of_getElem? (i := 31) (by decide +kernel)⟩
theorem lk_X11_129 : LK RX11 129 M_X5_init 2 := ⟨rfl, List.mem_of_getElem? (i := 805) (by decide +kernel), List.mem_of_getElem? (i := 807) (by decide +kernel), List.mem_of_getElem? (i := 122) (by decide +kernel), by decide, by decide +kernel, by decide +kernel, by decide +kernel⟩
theorem lki_X11_129 : LKi RX11 129 M_X5_init 2 := ⟨lk_X11_129, List.mem_of_getElem? (i := 806) (by decide +kernel), rfl, rfl⟩
theorem lk_X5_1 : LK RX5 1 M_X4_init 1 := ⟨rfl, List.mem_of_getElem? (i := 808) (by decide +kernel), List.mem_of_getElem? (i := 810) (by decide +kernel), List.mem_of_getElem? (i := 121) (by decide +kernel), by decide, by decide +kernel, by decide +kernel, by decide +kernel⟩
theorem lki_X5_1 : LKi RX5 1 M_X4_init 1 := ⟨lk_X5_1, List.mem_of_getElem? (i := 809) (by decide +kernel), rfl, rfl⟩
theorem lk_X11_132 : LK RX11 132 M_X11_keep 1 := ⟨rfl, List.mem_of_getElem? (i := 823) (by decide +kernel), List.mem_of_getElem? (i := 826) (by decide +kernel), List.mem_of_getElem? (i := 98) (by decide +kernel), by decide, by decide +kernel, by decide +kernel, by decide +kernel⟩
theorem lkv_X11_132 : LKv RX11 132 M_X11_keep 1 := ⟨lk_X11_132, List.mem_of_getElem? (i := 825) (by decide +kernel), List.mem_of_getElem? (i := 32) (by decide +kernel)⟩
theorem lk_L_36 : LK RL 36 M_X11_togetherFormula 1 := ⟨rfl, List.mem_of_getElem? (i := 830) (by decide +kernel), List.mem_of_getElem? (i := 833) (by decide +kernel), List.mem_of_getElem? (i := 98) (by decide +kernel), by decide, by decide +kernel, by decide +kernel, by decide +kernel⟩
theorem lkv_L_36 : LKv RL 36 M_X11_togetherFormula 1 := ⟨lk_L_36, List.mem_of_getElem? (i := 831) (by decide +kernel), List.mem_of_getElem? (i := 832) (by decide +kernel)⟩
theorem lk_X11_138 : LK RX11 138 M_X9_init 1 := ⟨rfl, List.mem_of_getElem? (i := 836) (by decide +kernel), List.mem_of_getElem? (i := 838) (by decide +kernel), List.mem_of_getElem? (i := 123) (by decide +kernel), by decide, by decide +kernel, by decide +kernel, by decide +kernel⟩
theorem lki_X11_138 : LKi RX11 138 M_X9_init 1 := ⟨lk_X11_138, List.mem_of_getElem? (i := 837) (by decide +kernel), rfl, rfl⟩
theorem lk_X9_1 : LK RX9 1 M_X4_init 1 := ⟨rfl, List.mem_of_getElem? (i := 839) (by decide +kernel), List.mem_of_getElem? (i := 810) (by decide +kernel), List.mem_of_getElem? (i := 121) (by decide +kernel), by decide, by decide +kernel, by decide +kernel, by decide +kernel⟩
theorem lki_X9_1 : LKi RX9 1 M_X4_init 1 := ⟨lk_X9_1, List.mem_of_getElem? (i := 809) (by decide +kernel), rfl, rfl⟩
theorem lk_L_39 : LK RL 39 M_X11_creditsFormula 1 := ⟨rfl, List.mem_of_getElem? (i := 848) (by decide +kernel), List.mem_of_getElem? (i := 851) (by decide +kernel), List.mem_of_getElem? (i := 98) (by decide +kernel), by decide, by decide +kernel, by decide +kernel, by decide +kernel⟩
theorem lkv_L_39 : LKv RL 39 M_X11_creditsFormula 1 := ⟨lk_L_39, List.mem_of_getElem? (i := 849) (by decide +kernel), List.mem_of_getElem? (i := 850) (by decide +kernel)⟩
theorem lk_X11_143 : LK RX11 143 M_X3_init 1 := ⟨rfl, List.mem_of_getElem? (i := 855) (by decide +kernel), List.mem_of_getElem? (i := 857) (by decide +kernel), List.mem_of_getElem? (i := 124) (by decide +kernel), by decide, by decide +kernel, by decide +kernel, by decide +kernel⟩
theorem lki_X11_143 : LKi RX11 143 M_X3_init 1 := ⟨lk_X11_143, List.mem_of_getElem? (i := 856) (by decide +kernel), rfl, rfl⟩
theorem lk_X3_1 : LK RX3 1 M_X4_init 1 := ⟨rfl, List.mem_of_getElem? (i := 858) (by decide +kernel), List.mem_of_getElem? (i := 810) (by decide +kernel), List.mem_of_getElem? (i := 121) (by decide +kernel), by decide, by decide +kernel, by decide +kernel, by decide +kernel⟩
theorem lki_X3_1 : LKi RX3 1 M_X4_init 1 := ⟨lk_X3_1, List.mem_of_getElem? (i := 809) (by decide +kernel), rfl, rfl⟩
theorem lk_L_42 : LK RL 42 M_X11_allFormula 2 := ⟨rfl, List.mem_of_getElem? (i := 868) (by decide +kernel), List.mem_of_getElem? (i := 871) (by decide +kernel), List.mem_of_getElem? (i := 98) (by decide +kernel), by decide, by decide +kernel, by decide +kernel, by decide +kernel⟩
theorem lkv_L_42 : LKv RL 42 M_X11_allFormula 2 := ⟨lk_L_42, List.mem_of_getElem? (i := 869) (by decide +kernel), List.mem_of_getElem? (i := 870) (by decide +kernel)⟩
theorem lk_X11_144 : LK RX11 144 M_X11_formulaAt 1 := ⟨rfl, List.mem_of_getElem? (i := 872) (by decide +kernel), List.mem_of_getElem? (i := 875) (by decide +kernel), List.mem_of_getElem? (i := 98) (by decide +kernel), by decide, by decide +kernel, by decide +kernel, by decide +kernel⟩
theorem lkv_X11_144 : LKv RX11 144 M_X11_formulaAt 1 := ⟨lk_X11_144, List.mem_of_getElem? (i := 874) (by decide +kernel), List.mem_of_getElem? (i := 33) (by decide +kernel)⟩
theorem lk_X11_161 : LK RX11 161 M_X1_init 5 := ⟨rfl, List.mem_of_getElem? (i := 894) (by decide +kernel), List.mem_of_getElem? (i := 896) (by decide +kernel), List.mem_of_getElem? (i := 126) (by decide +kernel), by decide, by decide +kernel, by decide +kernel, by decide +kernel⟩
theorem lki_X11_161 : LKi RX11 161 M_X1_init 5 := ⟨lk_X11_161, List.mem_of_getElem? (i := 895) (by decide +kernel), rfl, rfl⟩
theorem lk_X1_3 : LK RX1 3 M_X4_init 1 := ⟨rfl, List.mem_of_getElem? (i := 897) (by decide +kernel), List.mem_of_getElem? (i := 810) (by decide +kernel), List.mem_of_getElem? (i := 121) (by decide +kernel), by decide, by decide +kernel, by decide +kernel, by decide +kernel⟩
theorem lki_X1_3 : LKi RX1 3 M_X4_init 1 := ⟨lk_X1_3, List.mem_of_getElem? (i := 809) (by decide +kernel), rfl, rfl⟩
theorem lk_L_47 : LK RL 47 M_X11_anyFormula 2 := ⟨rfl, List.mem_of_getElem? (i := 915) (by decide +kernel), List.mem_of_getElem? (i := 918) (by decide +kernel), List.mem_of_getElem? (i := 98) (by decide +kernel), by decide, by decide +kernel, by decide +kernel, by decide +kernel⟩
theorem lkv_L_47 : LKv RL 47 M_X11_anyFormula 2 := ⟨lk_L_47, List.mem_of_getElem? (i := 916) (by decide +kernel), List.mem_of_getElem? (i := 917) (by decide +kernel)⟩
theorem lk_L_50 : LK RL 50 M_X11_twoFormula 3 := ⟨rfl, List.mem_of_getElem? (i := 922) (by decide +kernel), List.mem_of_getElem? (i := 925) (by decide +kernel), List.mem_of_getElem? (i := 98) (by decide +kernel), by decide, by decide +kernel, by decide +kernel, by decide +kernel⟩
theorem lkv_L_50 : LKv RL 50 M_X11_twoFormula 3 := ⟨lk_L_50, List.mem_of_getElem? (i := 923) (by decide +kernel), List.mem_of_getElem? (i := 924) (by decide +kernel)⟩
theorem lk_L_53 : LK RL 53 M_X11_noneFormula 1 := ⟨rfl, List.mem_of_getElem? (i := 929) (by decide +kernel), List.mem_of_getElem? (i := 932) (by decide +kernel), List.mem_of_getElem? (i := 98) (by decide +kernel), by decide, by decide +kernel, by decide +kernel, by decide +kernel⟩
theorem lkv_L_53 : LKv RL 53 M_X11_noneFormula 1 := ⟨lk_L_53, List.mem_of_getElem? (i := 930) (by decide +kernel), List.mem_of_getElem? (i := 931) (by decide +kernel)⟩
theorem lk_X11_166 : LK RX11 166 M_X6_init 2 := ⟨rfl, List.mem_of_getElem? (i := 935) (by decide +kernel), List.mem_of_getElem? (i := 937) (by decide +kernel), List.mem_of_getElem? (i := 127) (by decide +kernel), by decide, by decide +kernel, by decide +kernel, by decide +kernel⟩
theorem lki_X11_166 : LKi RX11 166 M_X6_init 2 := ⟨lk_X11_166, List.mem_of_getElem? (i := 936) (by decide +kernel), rfl, rfl⟩
theorem lk_X6_1 : LK RX6 1 M_X4_init 1 := ⟨rfl, List.mem_of_getElem? (i := 938) (by decide +kernel), List.mem_of_getElem? (i := 810) (by decide +kernel), List.mem_of_getElem? (i := 121) (by decide +kernel), by decide, by decide +kernel, by decide +kernel, by decide +kernel⟩
theorem lki_X6_1 : LKi RX6 1 M_X4_init 1 := ⟨lk_X6_1, List.mem_of_getElem? (i := 809) (by decide +kernel), rfl, rfl⟩
theorem lk_L_56 : LK RL 56 M_X11_holds 2 := ⟨rfl, List.mem_of_getElem? (i := 947) (by decide +kernel), List.mem_of_getElem? (i := 950) (by decide +kernel), List.mem_of_getElem? (i := 98) (by decide +kernel), by decide, by decide +kernel, by decide +kernel, by decide +kernel⟩
theorem lkv_L_56 : LKv RL 56 M_X11_holds 2 := ⟨lk_L_56, List.mem_of_getElem? (i := 948) (by decide +kernel), List.mem_of_getElem? (i := 949) (by decide +kernel)⟩
theorem lk_L_60 : LK RL 60 M_X11_require 2 := ⟨rfl, List.mem_of_getElem? (i := 954) (by decide +kernel), List.mem_of_getElem? (i := 957) (by decide +kernel), List.mem_of_getElem? (i := 98) (by decide +kernel), by decide, by decide +kernel, by decide +kernel, by decide +kernel⟩
theorem lkv_L_60 : LKv RL 60 M_X11_require 2 := ⟨lk_L_60, List.mem_of_getElem? (i := 955) (by decide +kernel), List.mem_of_getElem? (i := 956) (by decide +kernel)⟩
theorem lk_L_63 : LK RL 63 M_X11_lift 1 := ⟨rfl, List.mem_of_getElem? (i := 961) (by decide +kernel), List.mem_of_getElem? (i := 964) (by decide +kernel), List.mem_of_getElem? (i := 98) (by decide +kernel), by decide, by decide +kernel, by decide +kernel, by decide +kernel⟩
theorem lkv_L_63 : LKv RL 63 M_X11_lift 1 := ⟨lk_L_63, List.mem_of_getElem? (i := 962) (by decide +kernel), List.mem_of_getElem? (i := 963) (by decide +kernel)⟩
theorem lk_L_67 : LK RL 67 M_X11_pass 1 := ⟨rfl, List.mem_of_getElem? (i := 968) (by decide +kernel), List.mem_of_getElem? (i := 971) (by decide +kernel), List.mem_of_getElem? (i := 98) (by decide +kernel), by decide, by decide +kernel, by decide +kernel, by decide +kernel⟩
theorem lkv_L_67 : LKv RL 67 M_X11_pass 1 := ⟨lk_L_67, List.mem_of_getElem? (i := 969) (by decide +kernel), List.mem_of_getElem? (i := 970) (by decide +kernel)⟩
theorem lk_X11_185 : LK RX11 185 M_X11_emptyWaitingLists 0 := ⟨rfl, List.mem_of_getElem? (i := 974) (by decide +kernel), List.mem_of_getElem? (i := 977) (by decide +kernel), List.mem_of_getElem? (i := 98) (by decide +kernel), by decide, by decide +kernel, by decide +kernel, by decide +kernel⟩
theorem lkv_X11_185 : LKv RX11 185 M_X11_emptyWaitingLists 0 := ⟨lk_X11_185, List.mem_of_getElem? (i := 976) (by decide +kernel), List.mem_of_getElem? (i := 34) (by decide +kernel)⟩
theorem lk_X11_443 : LK RX11 443 M_Jx4a65c_clear_da8c8 0 := ⟨rfl, List.mem_of_getElem? (i := 978) (by decide +kernel), List.mem_of_getElem? (i := 981) (by decide +kernel), List.mem_of_getElem? (i := 101) (by decide +kernel), by decide, by decide +kernel, by decide +kernel, by decide +kernel⟩
theorem lkv_X11_443 : LKv RX11 443 M_Jx4a65c_clear_da8c8 0 := ⟨lk_X11_443, List.mem_of_getElem? (i := 979) (by decide +kernel), List.mem_of_getElem? (i := 980) (by decide +kernel)⟩
theorem lk_L_70 : LK RL 70 M_X11_enroll 2 := ⟨rfl, List.mem_of_getElem? (i := 1000) (by decide +kernel), List.mem_of_getElem? (i := 1003) (by decide +kernel), List.mem_of_getElem? (i := 98) (by decide +kernel), by decide, by decide +kernel, by decide +kernel, by decide +kernel⟩
theorem lkv_L_70 : LKv RL 70 M_X11_enroll 2 := ⟨lk_L_70, List.mem_of_getElem? (i := 1001) (by decide +kernel), List.mem_of_getElem? (i := 1002) (by decide +kernel)⟩
theorem lk_X11_191 : LK RX11 191 M_X11_letterFor 2 := ⟨rfl, List.mem_of_getElem? (i := 1004) (by decide +kernel), List.mem_of_getElem? (i := 1007) (by decide +kernel), List.mem_of_getElem? (i := 98) (by decide +kernel), by decide, by decide +kernel, by decide +kernel, by decide +kernel⟩
theorem lkv_X11_191 : LKv RX11 191 M_X11_letterFor 2 := ⟨lk_X11_191, List.mem_of_getElem? (i := 1006) (by decide +kernel), List.mem_of_getElem? (i := 35) (by decide +kernel)⟩
theorem lk_X11_220 : LK RX11 220 M_X2_placeFor 1 := ⟨rfl, List.mem_of_getElem? (i := 1008) (by decide +kernel), List.mem_of_getElem? (i := 1011) (by decide +kernel), List.mem_of_getElem? (i := 112) (by decide +kernel), by decide, by decide +kernel, by decide +kernel, by decide +kernel⟩
theorem lkv_X11_220 : LKv RX11 220 M_X2_placeFor 1 := ⟨lk_X11_220, List.mem_of_getElem? (i := 1009) (by decide +kernel), List.mem_of_getElem? (i := 1010) (by decide +kernel)⟩
theorem lk_X2_35 : LK RX2 35 M_Jx4a65c_size_8abf5 0 := ⟨rfl, List.mem_of_getElem? (i := 1012) (by decide +kernel), List.mem_of_getElem? (i := 319) (by decide +kernel), List.mem_of_getElem? (i := 101) (by decide +kernel), by decide, by decide +kernel, by decide +kernel, by decide +kernel⟩
theorem lkv_X2_35 : LKv RX2 35 M_Jx4a65c_size_8abf5 0 := ⟨lk_X2_35, List.mem_of_getElem? (i := 317) (by decide +kernel), List.mem_of_getElem? (i := 318) (by decide +kernel)⟩
theorem lk_X2_39 : LK RX2 39 M_Jx4a65c_get_915e3 1 := ⟨rfl, List.mem_of_getElem? (i := 1013) (by decide +kernel), List.mem_of_getElem? (i := 323) (by decide +kernel), List.mem_of_getElem? (i := 101) (by decide +kernel), by decide, by decide +kernel, by decide +kernel, by decide +kernel⟩
theorem lkv_X2_39 : LKv RX2 39 M_Jx4a65c_get_915e3 1 := ⟨lk_X2_39, List.mem_of_getElem? (i := 321) (by decide +kernel), List.mem_of_getElem? (i := 322) (by decide +kernel)⟩
theorem lk_L_78 : LK RL 78 M_X11_outcome 2 := ⟨rfl, List.mem_of_getElem? (i := 1039) (by decide +kernel), List.mem_of_getElem? (i := 1042) (by decide +kernel), List.mem_of_getElem? (i := 98) (by decide +kernel), by decide, by decide +kernel, by decide +kernel, by decide +kernel⟩
theorem lkv_L_78 : LKv RL 78 M_X11_outcome 2 := ⟨lk_L_78, List.mem_of_getElem? (i := 1040) (by decide +kernel), List.mem_of_getElem? (i := 1041) (by decide +kernel)⟩
theorem lk_L_81 : LK RL 81 M_X11_drop 2 := ⟨rfl, List.mem_of_getElem? (i := 1046) (by decide +kernel), List.mem_of_getElem? (i := 1049) (by decide +kernel), List.mem_of_getElem? (i := 98) (by decide +kernel), by decide, by decide +kernel, by decide +kernel, by decide +kernel⟩
theorem lkv_L_81 : LKv RL 81 M_X11_drop 2 := ⟨lk_L_81, List.mem_of_getElem? (i := 1047) (by decide +kernel), List.mem_of_getElem? (i := 1048) (by decide +kernel)⟩
theorem lk_X11_228 : LK RX11 228 M_X11_endWithOthers 2 := ⟨rfl, List.mem_of_getElem? (i := 1052) (by decide +kernel), List.mem_of_getElem? (i := 1055) (by decide +kernel), List.mem_of_getElem? (i := 98) (by decide +kernel), by decide, by decide +kernel, by decide +kernel, by decide +kernel⟩
theorem lkv_X11_228 : LKv RX11 228 M_X11_endWithOthers 2 := ⟨lk_X11_228, List.mem_of_getElem? (i := 1054) (by decide +kernel), List.mem_of_getElem? (i := 36) (by decide +kernel)⟩
theorem lk_X11_236 : LK RX11 236 M_X11_isWithdrawalDay 0 := ⟨rfl, List.mem_of_getElem? (i := 1056) (by decide +kernel), List.mem_of_getElem? (i := 1059) (by decide +kernel), List.mem_of_getElem? (i := 98) (by decide +kernel), by decide, by decide +kernel, by decide +kernel, by decide +kernel⟩
theorem lkv_X11_236 : LKv RX11 236 M_X11_isWithdrawalDay 0 := ⟨lk_X11_236, List.mem_of_getElem? (i := 1058) (by decide +kernel), List.mem_of_getElem? (i := 37) (by decide +kernel)⟩
theorem lk_X11_422 : LK RX11 422 M_X8_addAttempt 2 := ⟨rfl, List.mem_of_getElem? (i := 1060) (by decide +kernel), List.mem_of_getElem? (i := 1063) (by decide +kernel), List.mem_of_getElem? (i := 102) (by decide +kernel), by decide, by decide +kernel, by decide +kernel, by decide +kernel⟩
theorem lkv_X11_422 : LKv RX11 422 M_X8_addAttempt 2 := ⟨lk_X11_422, List.mem_of_getElem? (i := 1061) (by decide +kernel), List.mem_of_getElem? (i := 1062) (by decide +kernel)⟩
theorem lk_X8_43 : LK RX8 43 M_J9_max_7cf53 2 := ⟨rfl, List.mem_of_getElem? (i := 1064) (by decide +kernel), List.mem_of_getElem? (i := 369) (by decide +kernel), List.mem_of_getElem? (i := 114) (by decide +kernel), by decide, by decide +kernel, by decide +kernel, by decide +kernel⟩
theorem lks_X8_43 : LKs RX8 43 M_J9_max_7cf53 2 := ⟨lk_X8_43, List.mem_of_getElem? (i := 368) (by decide +kernel)⟩
theorem lk_X11_446 : LK RX11 446 M_X11_firstUnmet 1 := ⟨rfl, List.mem_of_getElem? (i := 1065) (by decide +kernel), List.mem_of_getElem? (i := 1068) (by decide +kernel), List.mem_of_getElem? (i := 98) (by decide +kernel), by decide, by decide +kernel, by decide +kernel, by decide +kernel⟩
theorem lkv_X11_446 : LKv RX11 446 M_X11_firstUnmet 1 := ⟨lk_X11_446, List.mem_of_getElem? (i := 1067) (by decide +kernel), List.mem_of_getElem? (i := 38) (by decide +kernel)⟩
theorem lk_X11_232 : LK RX11 232 M_X2_stopWaiting 1 := ⟨rfl, List.mem_of_getElem? (i := 1069) (by decide +kernel), List.mem_of_getElem? (i := 1072) (by decide +kernel), List.mem_of_getElem? (i := 112) (by decide +kernel), by decide, by decide +kernel, by decide +kernel, by decide +kernel⟩
theorem lkv_X11_232 : LKv RX11 232 M_X2_stopWaiting 1 := ⟨lk_X11_232, List.mem_of_getElem? (i := 1070) (by decide +kernel), List.mem_of_getElem? (i := 1071) (by decide +kernel)⟩
theorem lk_X2_43 : LK RX2 43 M_X2_placeFor 1 := ⟨rfl, List.mem_of_getElem? (i := 1073) (by decide +kernel), List.mem_of_getElem? (i := 1011) (by decide +kernel), List.mem_of_getElem? (i := 112) (by decide +kernel), by decide, by decide +kernel, by decide +kernel, by decide +kernel⟩
theorem lkv_X2_43 : LKv RX2 43 M_X2_placeFor 1 := ⟨lk_X2_43, List.mem_of_getElem? (i := 1009) (by decide +kernel), List.mem_of_getElem? (i := 1010) (by decide +kernel)⟩
theorem lk_X2_47 : LK RX2 47 M_Jx4a65c_remove_915e3 1 := ⟨rfl, List.mem_of_getElem? (i := 1074) (by decide +kernel), List.mem_of_getElem? (i := 756) (by decide +kernel), List.mem_of_getElem? (i := 101) (by decide +kernel), by decide, by decide +kernel, by decide +kernel, by decide +kernel⟩
theorem lkv_X2_47 : LKv RX2 47 M_Jx4a65c_remove_915e3 1 := ⟨lk_X2_47, List.mem_of_getElem? (i := 754) (by decide +kernel), List.mem_of_getElem? (i := 755) (by decide +kernel)⟩
theorem lk_L_84 : LK RL 84 M_X11_swap 3 := ⟨rfl, List.mem_of_getElem? (i := 1078) (by decide +kernel), List.mem_of_getElem? (i := 1081) (by decide +kernel), List.mem_of_getElem? (i := 98) (by decide +kernel), by decide, by decide +kernel, by decide +kernel, by decide +kernel⟩
theorem lkv_L_84 : LKv RL 84 M_X11_swap 3 := ⟨lk_L_84, List.mem_of_getElem? (i := 1079) (by decide +kernel), List.mem_of_getElem? (i := 1080) (by decide +kernel)⟩
theorem lk_L_87 : LK RL 87 M_X11_mark 3 := ⟨rfl, List.mem_of_getElem? (i := 1089) (by decide +kernel), List.mem_of_getElem? (i := 1092) (by decide +kernel), List.mem_of_getElem? (i := 98) (by decide +kernel), by decide, by decide +kernel, by decide +kernel, by decide +kernel⟩
theorem lkv_L_87 : LKv RL 87 M_X11_mark 3 := ⟨lk_L_87, List.mem_of_getElem? (i := 1090) (by decide +kernel), List.mem_of_getElem? (i := 1091) (by decide +kernel)⟩
theorem lk_L_91 : LK RL 91 M_X11_endTerm 0 := ⟨rfl, List.mem_of_getElem? (i := 1098) (by decide +kernel), List.mem_of_getElem? (i := 1101) (by decide +kernel), List.mem_of_getElem? (i := 98) (by decide +kernel), by decide, by decide +kernel, by decide +kernel, by decide +kernel⟩
theorem lkv_L_91 : LKv RL 91 M_X11_endTerm 0 := ⟨lk_L_91, List.mem_of_getElem? (i := 1099) (by decide +kernel), List.mem_of_getElem? (i := 1100) (by decide +kernel)⟩
theorem lk_X11_280 : LK RX11 280 M_X8_closeTerm 0 := ⟨rfl, List.mem_of_getElem? (i := 1102) (by decide +kernel), List.mem_of_getElem? (i := 1105) (by decide +kernel), List.mem_of_getElem? (i := 102) (by decide +kernel), by decide, by decide +kernel, by decide +kernel, by decide +kernel⟩
theorem lkv_X11_280 : LKv RX11 280 M_X8_closeTerm 0 := ⟨lk_X11_280, List.mem_of_getElem? (i := 1103) (by decide +kernel), List.mem_of_getElem? (i := 1104) (by decide +kernel)⟩
theorem lk_X8_49 : LK RX8 49 M_X8_addAttempt 2 := ⟨rfl, List.mem_of_getElem? (i := 1106) (by decide +kernel), List.mem_of_getElem? (i := 1063) (by decide +kernel), List.mem_of_getElem? (i := 102) (by decide +kernel), by decide, by decide +kernel, by decide +kernel, by decide +kernel⟩
theorem lkv_X8_49 : LKv RX8 49 M_X8_addAttempt 2 := ⟨lk_X8_49, List.mem_of_getElem? (i := 1061) (by decide +kernel), List.mem_of_getElem? (i := 1062) (by decide +kernel)⟩
theorem lk_L_95 : LK RL 95 M_X11_moveIn 2 := ⟨rfl, List.mem_of_getElem? (i := 1110) (by decide +kernel), List.mem_of_getElem? (i := 1113) (by decide +kernel), List.mem_of_getElem? (i := 98) (by decide +kernel), by decide, by decide +kernel, by decide +kernel, by decide +kernel⟩
theorem lkv_L_95 : LKv RL 95 M_X11_moveIn 2 := ⟨lk_L_95, List.mem_of_getElem? (i := 1111) (by decide +kernel), List.mem_of_getElem? (i := 1112) (by decide +kernel)⟩
theorem lk_X11_289 : LK RX11 289 M_X11_creditsMovedIn 1 := ⟨rfl, List.mem_of_getElem? (i := 1115) (by decide +kernel), List.mem_of_getElem? (i := 1118) (by decide +kernel), List.mem_of_getElem? (i := 98) (by decide +kernel), by decide, by decide +kernel, by decide +kernel, by decide +kernel⟩
theorem lkv_X11_289 : LKv RX11 289 M_X11_creditsMovedIn 1 := ⟨lk_X11_289, List.mem_of_getElem? (i := 1117) (by decide +kernel), List.mem_of_getElem? (i := 39) (by decide +kernel)⟩
theorem lk_X11_297 : LK RX11 297 M_X8_moveCreditIn 1 := ⟨rfl, List.mem_of_getElem? (i := 1120) (by decide +kernel), List.mem_of_getElem? (i := 1123) (by decide +kernel), List.mem_of_getElem? (i := 102) (by decide +kernel), by decide, by decide +kernel, by decide +kernel, by decide +kernel⟩
theorem lkv_X11_297 : LKv RX11 297 M_X8_moveCreditIn 1 := ⟨lk_X11_297, List.mem_of_getElem? (i := 1121) (by decide +kernel), List.mem_of_getElem? (i := 1122) (by decide +kernel)⟩
theorem lk_L_98 : LK RL 98 M_X11_bestMark 2 := ⟨rfl, List.mem_of_getElem? (i := 1127) (by decide +kernel), List.mem_of_getElem? (i := 1130) (by decide +kernel), List.mem_of_getElem? (i := 98) (by decide +kernel), by decide, by decide +kernel, by decide +kernel, by decide +kernel⟩
theorem lkv_L_98 : LKv RL 98 M_X11_bestMark 2 := ⟨lk_L_98, List.mem_of_getElem? (i := 1128) (by decide +kernel), List.mem_of_getElem? (i := 1129) (by decide +kernel)⟩
theorem lk_L_101 : LK RL 101 M_X11_attempts 2 := ⟨rfl, List.mem_of_getElem? (i := 1135) (by decide +kernel), List.mem_of_getElem? (i := 1138) (by decide +kernel), List.mem_of_getElem? (i := 98) (by decide +kernel), by decide, by decide +kernel, by decide +kernel, by decide +kernel⟩
theorem lkv_L_101 : LKv RL 101 M_X11_attempts 2 := ⟨lk_L_101, List.mem_of_getElem? (i := 1136) (by decide +kernel), List.mem_of_getElem? (i := 1137) (by decide +kernel)⟩
theorem lk_L_104 : LK RL 104 M_X11_earnedCredits 1 := ⟨rfl, List.mem_of_getElem? (i := 1142) (by decide +kernel), List.mem_of_getElem? (i := 1145) (by decide +kernel), List.mem_of_getElem? (i := 98) (by decide +kernel), by decide, by decide +kernel, by decide +kernel, by decide +kernel⟩
theorem lkv_L_104 : LKv RL 104 M_X11_earnedCredits 1 := ⟨lk_L_104, List.mem_of_getElem? (i := 1143) (by decide +kernel), List.mem_of_getElem? (i := 1144) (by decide +kernel)⟩
theorem lk_L_107 : LK RL 107 M_X11_average 1 := ⟨rfl, List.mem_of_getElem? (i := 1149) (by decide +kernel), List.mem_of_getElem? (i := 1152) (by decide +kernel), List.mem_of_getElem? (i := 98) (by decide +kernel), by decide, by decide +kernel, by decide +kernel, by decide +kernel⟩
theorem lkv_L_107 : LKv RL 107 M_X11_average 1 := ⟨lk_L_107, List.mem_of_getElem? (i := 1150) (by decide +kernel), List.mem_of_getElem? (i := 1151) (by decide +kernel)⟩
theorem lk_X11_308 : LK RX11 308 M_X8_lastMark 1 := ⟨rfl, List.mem_of_getElem? (i := 1153) (by decide +kernel), List.mem_of_getElem? (i := 1156) (by decide +kernel), List.mem_of_getElem? (i := 102) (by decide +kernel), by decide, by decide +kernel, by decide +kernel, by decide +kernel⟩
theorem lkv_X11_308 : LKv RX11 308 M_X8_lastMark 1 := ⟨lk_X11_308, List.mem_of_getElem? (i := 1154) (by decide +kernel), List.mem_of_getElem? (i := 1155) (by decide +kernel)⟩
theorem lk_L_111 : LK RL 111 M_X11_load 1 := ⟨rfl, List.mem_of_getElem? (i := 1161) (by decide +kernel), List.mem_of_getElem? (i := 1164) (by decide +kernel), List.mem_of_getElem? (i := 98) (by decide +kernel), by decide, by decide +kernel, by decide +kernel, by decide +kernel⟩
theorem lkv_L_111 : LKv RL 111 M_X11_load 1 := ⟨lk_L_111, List.mem_of_getElem? (i := 1162) (by decide +kernel), List.mem_of_getElem? (i := 1163) (by decide +kernel)⟩
theorem lk_L_114 : LK RL 114 M_X11_isEnrolled 2 := ⟨rfl, List.mem_of_getElem? (i := 1168) (by decide +kernel), List.mem_of_getElem? (i := 1171) (by decide +kernel), List.mem_of_getElem? (i := 98) (by decide +kernel), by decide, by decide +kernel, by decide +kernel, by decide +kernel⟩
theorem lkv_L_114 : LKv RL 114 M_X11_isEnrolled 2 := ⟨lk_L_114, List.mem_of_getElem? (i := 1169) (by decide +kernel), List.mem_of_getElem? (i := 1170) (by decide +kernel)⟩
theorem lk_L_117 : LK RL 117 M_X11_enrolled 1 := ⟨rfl, List.mem_of_getElem? (i := 1175) (by decide +kernel), List.mem_of_getElem? (i := 1178) (by decide +kernel), List.mem_of_getElem? (i := 98) (by decide +kernel), by decide, by decide +kernel, by decide +kernel, by decide +kernel⟩
theorem lkv_L_117 : LKv RL 117 M_X11_enrolled 1 := ⟨lk_L_117, List.mem_of_getElem? (i := 1176) (by decide +kernel), List.mem_of_getElem? (i := 1177) (by decide +kernel)⟩
theorem lk_L_120 : LK RL 120 M_X11_waiting 1 := ⟨rfl, List.mem_of_getElem? (i := 1182) (by decide +kernel), List.mem_of_getElem? (i := 1185) (by decide +kernel), List.mem_of_getElem? (i := 98) (by decide +kernel), by decide, by decide +kernel, by decide +kernel, by decide +kernel⟩
theorem lkv_L_120 : LKv RL 120 M_X11_waiting 1 := ⟨lk_L_120, List.mem_of_getElem? (i := 1183) (by decide +kernel), List.mem_of_getElem? (i := 1184) (by decide +kernel)⟩
theorem lk_L_123 : LK RL 123 M_X11_placeOf 2 := ⟨rfl, List.mem_of_getElem? (i := 1189) (by decide +kernel), List.mem_of_getElem? (i := 1192) (by decide +kernel), List.mem_of_getElem? (i := 98) (by decide +kernel), by decide, by decide +kernel, by decide +kernel, by decide +kernel⟩
theorem lkv_L_123 : LKv RL 123 M_X11_placeOf 2 := ⟨lk_L_123, List.mem_of_getElem? (i := 1190) (by decide +kernel), List.mem_of_getElem? (i := 1191) (by decide +kernel)⟩
theorem lk_L_126 : LK RL 126 M_X11_freeSeats 2 := ⟨rfl, List.mem_of_getElem? (i := 1197) (by decide +kernel), List.mem_of_getElem? (i := 1200) (by decide +kernel), List.mem_of_getElem? (i := 98) (by decide +kernel), by decide, by decide +kernel, by decide +kernel, by decide +kernel⟩
theorem lkv_L_126 : LKv RL 126 M_X11_freeSeats 2 := ⟨lk_L_126, List.mem_of_getElem? (i := 1198) (by decide +kernel), List.mem_of_getElem? (i := 1199) (by decide +kernel)⟩
theorem lk_L_129 : LK RL 129 M_X11_share 1 := ⟨rfl, List.mem_of_getElem? (i := 1204) (by decide +kernel), List.mem_of_getElem? (i := 1207) (by decide +kernel), List.mem_of_getElem? (i := 98) (by decide +kernel), by decide, by decide +kernel, by decide +kernel, by decide +kernel⟩
theorem lkv_L_129 : LKv RL 129 M_X11_share 1 := ⟨lk_L_129, List.mem_of_getElem? (i := 1205) (by decide +kernel), List.mem_of_getElem? (i := 1206) (by decide +kernel)⟩
theorem lk_L_133 : LK RL 133 M_X11_whyNot 2 := ⟨rfl, List.mem_of_getElem? (i := 1211) (by decide +kernel), List.mem_of_getElem? (i := 1214) (by decide +kernel), List.mem_of_getElem? (i := 98) (by decide +kernel), by decide, by decide +kernel, by decide +kernel, by decide +kernel⟩
theorem lkv_L_133 : LKv RL 133 M_X11_whyNot 2 := ⟨lk_L_133, List.mem_of_getElem? (i := 1212) (by decide +kernel), List.mem_of_getElem? (i := 1213) (by decide +kernel)⟩
theorem lk_X11_320 : LK RX11 320 M_X11_fillReason 2 := ⟨rfl, List.mem_of_getElem? (i := 1215) (by decide +kernel), List.mem_of_getElem? (i := 1218) (by decide +kernel), List.mem_of_getElem? (i := 98) (by decide +kernel), by decide, by decide +kernel, by decide +kernel, by decide +kernel⟩
theorem lkv_X11_320 : LKv RX11 320 M_X11_fillReason 2 := ⟨lk_X11_320, List.mem_of_getElem? (i := 1217) (by decide +kernel), List.mem_of_getElem? (i := 40) (by decide +kernel)⟩
theorem lk_X11_418 : LK RX11 418 M_X4_partToBlame 1 := ⟨rfl, List.mem_of_getElem? (i := 1221) (by decide +kernel), List.mem_of_getElem? (i := 1231) (by decide +kernel), List.mem_of_getElem? (i := 121) (by decide +kernel), by decide, by decide +kernel, by decide +kernel, by decide +kernel⟩
theorem lk_L_136 : LK RL 136 M_X11_whyLong 2 := ⟨rfl, List.mem_of_getElem? (i := 1235) (by decide +kernel), List.mem_of_getElem? (i := 1238) (by decide +kernel), List.mem_of_getElem? (i := 98) (by decide +kernel), by decide, by decide +kernel, by decide +kernel, by decide +kernel⟩
theorem lkv_L_136 : LKv RL 136 M_X11_whyLong 2 := ⟨lk_L_136, List.mem_of_getElem? (i := 1236) (by decide +kernel), List.mem_of_getElem? (i := 1237) (by decide +kernel)⟩
theorem lk_L_139 : LK RL 139 M_X11_termsTo 1 := ⟨rfl, List.mem_of_getElem? (i := 1242) (by decide +kernel), List.mem_of_getElem? (i := 1245) (by decide +kernel), List.mem_of_getElem? (i := 98) (by decide +kernel), by decide, by decide +kernel, by decide +kernel, by decide +kernel⟩
theorem lkv_L_139 : LKv RL 139 M_X11_termsTo 1 := ⟨lk_L_139, List.mem_of_getElem? (i := 1243) (by decide +kernel), List.mem_of_getElem? (i := 1244) (by decide +kernel)⟩
theorem lk_X11_323 : LK RX11 323 M_X8_forgetRecord 0 := ⟨rfl, List.mem_of_getElem? (i := 1246) (by decide +kernel), List.mem_of_getElem? (i := 1249) (by decide +kernel), List.mem_of_getElem? (i := 102) (by decide +kernel), by decide, by decide +kernel, by decide +kernel, by decide +kernel⟩
theorem lkv_X11_323 : LKv RX11 323 M_X8_forgetRecord 0 := ⟨lk_X11_323, List.mem_of_getElem? (i := 1247) (by decide +kernel), List.mem_of_getElem? (i := 1248) (by decide +kernel)⟩
theorem lk_X11_326 : LK RX11 326 M_X11_studyOneTerm 1 := ⟨rfl, List.mem_of_getElem? (i := 1250) (by decide +kernel), List.mem_of_getElem? (i := 1253) (by decide +kernel), List.mem_of_getElem? (i := 98) (by decide +kernel), by decide, by decide +kernel, by decide +kernel, by decide +kernel⟩
theorem lkv_X11_326 : LKv RX11 326 M_X11_studyOneTerm 1 := ⟨lk_X11_326, List.mem_of_getElem? (i := 1252) (by decide +kernel), List.mem_of_getElem? (i := 41) (by decide +kernel)⟩
theorem lk_L_142 : LK RL 142 M_X11_transcriptLength 1 := ⟨rfl, List.mem_of_getElem? (i := 1258) (by decide +kernel), List.mem_of_getElem? (i := 1261) (by decide +kernel), List.mem_of_getElem? (i := 98) (by decide +kernel), by decide, by decide +kernel, by decide +kernel, by decide +kernel⟩
theorem lkv_L_142 : LKv RL 142 M_X11_transcriptLength 1 := ⟨lk_L_142, List.mem_of_getElem? (i := 1259) (by decide +kernel), List.mem_of_getElem? (i := 1260) (by decide +kernel)⟩
theorem lk_X11_331 : LK RX11 331 M_X10_write 2 := ⟨rfl, List.mem_of_getElem? (i := 1262) (by decide +kernel), List.mem_of_getElem? (i := 1265) (by decide +kernel), List.mem_of_getElem? (i := 105) (by decide +kernel), by decide, by decide +kernel, by decide +kernel, by decide +kernel⟩
theorem lkv_X11_331 : LKv RX11 331 M_X10_write 2 := ⟨lk_X11_331, List.mem_of_getElem? (i := 1263) (by decide +kernel), List.mem_of_getElem? (i := 1264) (by decide +kernel)⟩
theorem lk_X10_29 : LK RX10 29 M_X10_putNumber 1 := ⟨rfl, List.mem_of_getElem? (i := 1266) (by decide +kernel), List.mem_of_getElem? (i := 1269) (by decide +kernel), List.mem_of_getElem? (i := 105) (by decide +kernel), by decide, by decide +kernel, by decide +kernel, by decide +kernel⟩
theorem lkv_X10_29 : LKv RX10 29 M_X10_putNumber 1 := ⟨lk_X10_29, List.mem_of_getElem? (i := 1268) (by decide +kernel), List.mem_of_getElem? (i := 42) (by decide +kernel)⟩
theorem lk_X10_33 : LK RX10 33 M_X10_put 1 := ⟨rfl, List.mem_of_getElem? (i := 1270) (by decide +kernel), List.mem_of_getElem? (i := 1273) (by decide +kernel), List.mem_of_getElem? (i := 105) (by decide +kernel), by decide, by decide +kernel, by decide +kernel, by decide +kernel⟩
theorem lkv_X10_33 : LKv RX10 33 M_X10_put 1 := ⟨lk_X10_33, List.mem_of_getElem? (i := 1272) (by decide +kernel), List.mem_of_getElem? (i := 43) (by decide +kernel)⟩
theorem lk_X10_37 : LK RX10 37 M_X10_putEntries 2 := ⟨rfl, List.mem_of_getElem? (i := 1274) (by decide +kernel), List.mem_of_getElem? (i := 1277) (by decide +kernel), List.mem_of_getElem? (i := 105) (by decide +kernel), by decide, by decide +kernel, by decide +kernel, by decide +kernel⟩
theorem lkv_X10_37 : LKv RX10 37 M_X10_putEntries 2 := ⟨lk_X10_37, List.mem_of_getElem? (i := 1276) (by decide +kernel), List.mem_of_getElem? (i := 44) (by decide +kernel)⟩
theorem lk_L_145 : LK RL 145 M_X11_transcriptAt 2 := ⟨rfl, List.mem_of_getElem? (i := 1281) (by decide +kernel), List.mem_of_getElem? (i := 1284) (by decide +kernel), List.mem_of_getElem? (i := 98) (by decide +kernel), by decide, by decide +kernel, by decide +kernel, by decide +kernel⟩
theorem lkv_L_145 : LKv RL 145 M_X11_transcriptAt 2 := ⟨lk_L_145, List.mem_of_getElem? (i := 1282) (by decide +kernel), List.mem_of_getElem? (i := 1283) (by decide +kernel)⟩
theorem lk_L_148 : LK RL 148 M_X11_addRule 3 := ⟨rfl, List.mem_of_getElem? (i := 1289) (by decide +kernel), List.mem_of_getElem? (i := 1292) (by decide +kernel), List.mem_of_getElem? (i := 98) (by decide +kernel), by decide, by decide +kernel, by decide +kernel, by decide +kernel⟩
theorem lkv_L_148 : LKv RL 148 M_X11_addRule 3 := ⟨lk_L_148, List.mem_of_getElem? (i := 1290) (by decide +kernel), List.mem_of_getElem? (i := 1291) (by decide +kernel)⟩
theorem lk_X11_348 : LK RX11 348 M_X11_rulesOf 1 := ⟨rfl, List.mem_of_getElem? (i := 1294) (by decide +kernel), List.mem_of_getElem? (i := 1297) (by decide +kernel), List.mem_of_getElem? (i := 98) (by decide +kernel), by decide, by decide +kernel, by decide +kernel, by decide +kernel⟩
theorem lkv_X11_348 : LKv RX11 348 M_X11_rulesOf 1 := ⟨lk_X11_348, List.mem_of_getElem? (i := 1296) (by decide +kernel), List.mem_of_getElem? (i := 45) (by decide +kernel)⟩
theorem lk_X11_355 : LK RX11 355 M_X7_init 3 := ⟨rfl, List.mem_of_getElem? (i := 1301) (by decide +kernel), List.mem_of_getElem? (i := 1303) (by decide +kernel), List.mem_of_getElem? (i := 130) (by decide +kernel), by decide, by decide +kernel, by decide +kernel, by decide +kernel⟩
theorem lki_X11_355 : LKi RX11 355 M_X7_init 3 := ⟨lk_X11_355, List.mem_of_getElem? (i := 1302) (by decide +kernel), rfl, rfl⟩
theorem lk_L_151 : LK RL 151 M_X11_allow 2 := ⟨rfl, List.mem_of_getElem? (i := 1327) (by decide +kernel), List.mem_of_getElem? (i := 1330) (by decide +kernel), List.mem_of_getElem? (i := 98) (by decide +kernel), by decide, by decide +kernel, by decide +kernel, by decide +kernel⟩
theorem lkv_L_151 : LKv RL 151 M_X11_allow 2 := ⟨lk_L_151, List.mem_of_getElem? (i := 1328) (by decide +kernel), List.mem_of_getElem? (i := 1329) (by decide +kernel)⟩
theorem lk_X11_356 : LK RX11 356 M_X11_ruleAt 1 := ⟨rfl, List.mem_of_getElem? (i := 1331) (by decide +kernel), List.mem_of_getElem? (i := 1334) (by decide +kernel), List.mem_of_getElem? (i := 98) (by decide +kernel), by decide, by decide +kernel, by decide +kernel, by decide +kernel⟩
theorem lkv_X11_356 : LKv RX11 356 M_X11_ruleAt 1 := ⟨lk_X11_356, List.mem_of_getElem? (i := 1333) (by decide +kernel), List.mem_of_getElem? (i := 46) (by decide +kernel)⟩
theorem lk_L_154 : LK RL 154 M_X11_mostMet 1 := ⟨rfl, List.mem_of_getElem? (i := 1339) (by decide +kernel), List.mem_of_getElem? (i := 1342) (by decide +kernel), List.mem_of_getElem? (i := 98) (by decide +kernel), by decide, by decide +kernel, by decide +kernel, by decide +kernel⟩
theorem lkv_L_154 : LKv RL 154 M_X11_mostMet 1 := ⟨lk_L_154, List.mem_of_getElem? (i := 1340) (by decide +kernel), List.mem_of_getElem? (i := 1341) (by decide +kernel)⟩
theorem lk_L_157 : LK RL 157 M_X11_mostMetByTrial 1 := ⟨rfl, List.mem_of_getElem? (i := 1346) (by decide +kernel), List.mem_of_getElem? (i := 1349) (by decide +kernel), List.mem_of_getElem? (i := 98) (by decide +kernel), by decide, by decide +kernel, by decide +kernel, by decide +kernel⟩
theorem lkv_L_157 : LKv RL 157 M_X11_mostMetByTrial 1 := ⟨lk_L_157, List.mem_of_getElem? (i := 1347) (by decide +kernel), List.mem_of_getElem? (i := 1348) (by decide +kernel)⟩
theorem lk_L_160 : LK RL 160 M_X11_mostMetIf 1 := ⟨rfl, List.mem_of_getElem? (i := 1353) (by decide +kernel), List.mem_of_getElem? (i := 1356) (by decide +kernel), List.mem_of_getElem? (i := 98) (by decide +kernel), by decide, by decide +kernel, by decide +kernel, by decide +kernel⟩
theorem lkv_L_160 : LKv RL 160 M_X11_mostMetIf 1 := ⟨lk_L_160, List.mem_of_getElem? (i := 1354) (by decide +kernel), List.mem_of_getElem? (i := 1355) (by decide +kernel)⟩
theorem lk_L_163 : LK RL 163 M_X11_lackingRules 1 := ⟨rfl, List.mem_of_getElem? (i := 1360) (by decide +kernel), List.mem_of_getElem? (i := 1363) (by decide +kernel), List.mem_of_getElem? (i := 98) (by decide +kernel), by decide, by decide +kernel, by decide +kernel, by decide +kernel⟩
theorem lkv_L_163 : LKv RL 163 M_X11_lackingRules 1 := ⟨lk_L_163, List.mem_of_getElem? (i := 1361) (by decide +kernel), List.mem_of_getElem? (i := 1362) (by decide +kernel)⟩
theorem lk_L_166 : LK RL 166 M_X11_lackingByTrial 1 := ⟨rfl, List.mem_of_getElem? (i := 1367) (by decide +kernel), List.mem_of_getElem? (i := 1370) (by decide +kernel), List.mem_of_getElem? (i := 98) (by decide +kernel), by decide, by decide +kernel, by decide +kernel, by decide +kernel⟩
theorem lkv_L_166 : LKv RL 166 M_X11_lackingByTrial 1 := ⟨lk_L_166, List.mem_of_getElem? (i := 1368) (by decide +kernel), List.mem_of_getElem? (i := 1369) (by decide +kernel)⟩
theorem lk_L_169 : LK RL 169 M_X11_ruleFor 2 := ⟨rfl, List.mem_of_getElem? (i := 1374) (by decide +kernel), List.mem_of_getElem? (i := 1377) (by decide +kernel), List.mem_of_getElem? (i := 98) (by decide +kernel), by decide, by decide +kernel, by decide +kernel, by decide +kernel⟩
theorem lkv_L_169 : LKv RL 169 M_X11_ruleFor 2 := ⟨lk_L_169, List.mem_of_getElem? (i := 1375) (by decide +kernel), List.mem_of_getElem? (i := 1376) (by decide +kernel)⟩
theorem lk_X11_379 : LK RX11 379 M_X0_firstBestRule 1 := ⟨rfl, List.mem_of_getElem? (i := 1378) (by decide +kernel), List.mem_of_getElem? (i := 1381) (by decide +kernel), List.mem_of_getElem? (i := 104) (by decide +kernel), by decide, by decide +kernel, by decide +kernel, by decide +kernel⟩
theorem lkv_X11_379 : LKv RX11 379 M_X0_firstBestRule 1 := ⟨lk_X11_379, List.mem_of_getElem? (i := 1379) (by decide +kernel), List.mem_of_getElem? (i := 1380) (by decide +kernel)⟩
theorem lk_X0_136 : LK RX0 136 M_X0_giveAll 0 := ⟨rfl, List.mem_of_getElem? (i := 1382) (by decide +kernel), List.mem_of_getElem? (i := 458) (by decide +kernel), List.mem_of_getElem? (i := 104) (by decide +kernel), by decide, by decide +kernel, by decide +kernel, by decide +kernel⟩
theorem lkv_X0_136 : LKv RX0 136 M_X0_giveAll 0 := ⟨lk_X0_136, List.mem_of_getElem? (i := 456) (by decide +kernel), List.mem_of_getElem? (i := 457) (by decide +kernel)⟩
theorem lk_X0_139 : LK RX0 139 M_X0_firstBestSlot 2 := ⟨rfl, List.mem_of_getElem? (i := 1383) (by decide +kernel), List.mem_of_getElem? (i := 1386) (by decide +kernel), List.mem_of_getElem? (i := 104) (by decide +kernel), by decide, by decide +kernel, by decide +kernel, by decide +kernel⟩
theorem lkv_X0_139 : LKv RX0 139 M_X0_firstBestSlot 2 := ⟨lk_X0_139, List.mem_of_getElem? (i := 1385) (by decide +kernel), List.mem_of_getElem? (i := 47) (by decide +kernel)⟩
theorem lk_L_172 : LK RL 172 M_X11_setDegree 2 := ⟨rfl, List.mem_of_getElem? (i := 1391) (by decide +kernel), List.mem_of_getElem? (i := 1394) (by decide +kernel), List.mem_of_getElem? (i := 98) (by decide +kernel), by decide, by decide +kernel, by decide +kernel, by decide +kernel⟩
theorem lkv_L_172 : LKv RL 172 M_X11_setDegree 2 := ⟨lk_L_172, List.mem_of_getElem? (i := 1392) (by decide +kernel), List.mem_of_getElem? (i := 1393) (by decide +kernel)⟩
theorem lk_L_175 : LK RL 175 M_X11_canGraduate 1 := ⟨rfl, List.mem_of_getElem? (i := 1398) (by decide +kernel), List.mem_of_getElem? (i := 1401) (by decide +kernel), List.mem_of_getElem? (i := 98) (by decide +kernel), by decide, by decide +kernel, by decide +kernel, by decide +kernel⟩
theorem lkv_L_175 : LKv RL 175 M_X11_canGraduate 1 := ⟨lk_L_175, List.mem_of_getElem? (i := 1399) (by decide +kernel), List.mem_of_getElem? (i := 1400) (by decide +kernel)⟩
theorem lk_X11_384 : LK RX11 384 M_X0_allNeeds 0 := ⟨rfl, List.mem_of_getElem? (i := 1402) (by decide +kernel), List.mem_of_getElem? (i := 1405) (by decide +kernel), List.mem_of_getElem? (i := 104) (by decide +kernel), by decide, by decide +kernel, by decide +kernel, by decide +kernel⟩
theorem lkv_X11_384 : LKv RX11 384 M_X0_allNeeds 0 := ⟨lk_X11_384, List.mem_of_getElem? (i := 1403) (by decide +kernel), List.mem_of_getElem? (i := 1404) (by decide +kernel)⟩
theorem lk_L_181 : LK RL 181 M_X12_init 0 := ⟨rfl, List.mem_of_getElem? (i := 1408) (by decide +kernel), List.mem_of_getElem? (i := 1410) (by decide +kernel), List.mem_of_getElem? (i := 106) (by decide +kernel), by decide, by decide +kernel, by decide +kernel, by decide +kernel⟩
theorem lki_L_181 : LKi RL 181 M_X12_init 0 := ⟨lk_L_181, List.mem_of_getElem? (i := 1409) (by decide +kernel), rfl, rfl⟩
theorem lk_L_188 : LK RL 188 M_X12_thrown 0 := ⟨rfl, List.mem_of_getElem? (i := 1530) (by decide +kernel), List.mem_of_getElem? (i := 1533) (by decide +kernel), List.mem_of_getElem? (i := 106) (by decide +kernel), by decide, by decide +kernel, by decide +kernel, by decide +kernel⟩
theorem lkv_L_188 : LKv RL 188 M_X12_thrown 0 := ⟨lk_L_188, List.mem_of_getElem? (i := 1531) (by decide +kernel), List.mem_of_getElem? (i := 1532) (by decide +kernel)⟩
theorem lk_L_207 : LK RL 207 M_X12_markFormula 2 := ⟨rfl, List.mem_of_getElem? (i := 1534) (by decide +kernel), List.mem_of_getElem? (i := 1537) (by decide +kernel), List.mem_of_getElem? (i := 106) (by decide +kernel), by decide, by decide +kernel, by decide +kernel, by decide +kernel⟩
theorem lkv_L_207 : LKv RL 207 M_X12_markFormula 2 := ⟨lk_L_207, List.mem_of_getElem? (i := 1535) (by decide +kernel), List.mem_of_getElem? (i := 1536) (by decide +kernel)⟩
theorem lk_X12_151 : LK RX12 151 M_X12_isCourse 1 := ⟨rfl, List.mem_of_getElem? (i := 1538) (by decide +kernel), List.mem_of_getElem? (i := 1541) (by decide +kernel), List.mem_of_getElem? (i := 106) (by decide +kernel), by decide, by decide +kernel, by decide +kernel, by decide +kernel⟩
theorem lkv_X12_151 : LKv RX12 151 M_X12_isCourse 1 := ⟨lk_X12_151, List.mem_of_getElem? (i := 1540) (by decide +kernel), List.mem_of_getElem? (i := 48) (by decide +kernel)⟩
theorem lk_X12_96 : LK RX12 96 M_X12_in 3 := ⟨rfl, List.mem_of_getElem? (i := 1542) (by decide +kernel), List.mem_of_getElem? (i := 1544) (by decide +kernel), List.mem_of_getElem? (i := 106) (by decide +kernel), by decide, by decide +kernel, by decide +kernel, by decide +kernel⟩
theorem lks_X12_96 : LKs RX12 96 M_X12_in 3 := ⟨lk_X12_96, List.mem_of_getElem? (i := 1543) (by decide +kernel)⟩
theorem lk_X12_144 : LK RX12 144 M_X12_goesOn 1 := ⟨rfl, List.mem_of_getElem? (i := 1545) (by decide +kernel), List.mem_of_getElem? (i := 1548) (by decide +kernel), List.mem_of_getElem? (i := 106) (by decide +kernel), by decide, by decide +kernel, by decide +kernel, by decide +kernel⟩
theorem lkv_X12_144 : LKv RX12 144 M_X12_goesOn 1 := ⟨lk_X12_144, List.mem_of_getElem? (i := 1547) (by decide +kernel), List.mem_of_getElem? (i := 49) (by decide +kernel)⟩
theorem lk_X12_147 : LK RX12 147 M_X12_add 5 := ⟨rfl, List.mem_of_getElem? (i := 1549) (by decide +kernel), List.mem_of_getElem? (i := 1552) (by decide +kernel), List.mem_of_getElem? (i := 106) (by decide +kernel), by decide, by decide +kernel, by decide +kernel, by decide +kernel⟩
theorem lkv_X12_147 : LKv RX12 147 M_X12_add 5 := ⟨lk_X12_147, List.mem_of_getElem? (i := 1551) (by decide +kernel), List.mem_of_getElem? (i := 50) (by decide +kernel)⟩
theorem lk_L_210 : LK RL 210 M_X12_togetherFormula 1 := ⟨rfl, List.mem_of_getElem? (i := 1553) (by decide +kernel), List.mem_of_getElem? (i := 1556) (by decide +kernel), List.mem_of_getElem? (i := 106) (by decide +kernel), by decide, by decide +kernel, by decide +kernel, by decide +kernel⟩
theorem lkv_L_210 : LKv RL 210 M_X12_togetherFormula 1 := ⟨lk_L_210, List.mem_of_getElem? (i := 1554) (by decide +kernel), List.mem_of_getElem? (i := 1555) (by decide +kernel)⟩
theorem lk_L_213 : LK RL 213 M_X12_creditsFormula 1 := ⟨rfl, List.mem_of_getElem? (i := 1557) (by decide +kernel), List.mem_of_getElem? (i := 1560) (by decide +kernel), List.mem_of_getElem? (i := 106) (by decide +kernel), by decide, by decide +kernel, by decide +kernel, by decide +kernel⟩
theorem lkv_L_213 : LKv RL 213 M_X12_creditsFormula 1 := ⟨lk_L_213, List.mem_of_getElem? (i := 1558) (by decide +kernel), List.mem_of_getElem? (i := 1559) (by decide +kernel)⟩
theorem lk_L_216 : LK RL 216 M_X12_allFormula 2 := ⟨rfl, List.mem_of_getElem? (i := 1561) (by decide +kernel), List.mem_of_getElem? (i := 1564) (by decide +kernel), List.mem_of_getElem? (i := 106) (by decide +kernel), by decide, by decide +kernel, by decide +kernel, by decide +kernel⟩
theorem lkv_L_216 : LKv RL 216 M_X12_allFormula 2 := ⟨lk_L_216, List.mem_of_getElem? (i := 1562) (by decide +kernel), List.mem_of_getElem? (i := 1563) (by decide +kernel)⟩
theorem lk_X12_154 : LK RX12 154 M_X12_join 4 := ⟨rfl, List.mem_of_getElem? (i := 1565) (by decide +kernel), List.mem_of_getElem? (i := 1568) (by decide +kernel), List.mem_of_getElem? (i := 106) (by decide +kernel), by decide, by decide +kernel, by decide +kernel, by decide +kernel⟩
theorem lkv_X12_154 : LKv RX12 154 M_X12_join 4 := ⟨lk_X12_154, List.mem_of_getElem? (i := 1567) (by decide +kernel), List.mem_of_getElem? (i := 51) (by decide +kernel)⟩
theorem lk_X12_136 : LK RX12 136 M_X12_isFormula 1 := ⟨rfl, List.mem_of_getElem? (i := 1569) (by decide +kernel), List.mem_of_getElem? (i := 1572) (by decide +kernel), List.mem_of_getElem? (i := 106) (by decide +kernel), by decide, by decide +kernel, by decide +kernel, by decide +kernel⟩
theorem lkv_X12_136 : LKv RX12 136 M_X12_isFormula 1 := ⟨lk_X12_136, List.mem_of_getElem? (i := 1571) (by decide +kernel), List.mem_of_getElem? (i := 52) (by decide +kernel)⟩
theorem lk_X12_140 : LK RX12 140 M_X12_depthOver 3 := ⟨rfl, List.mem_of_getElem? (i := 1573) (by decide +kernel), List.mem_of_getElem? (i := 1576) (by decide +kernel), List.mem_of_getElem? (i := 106) (by decide +kernel), by decide, by decide +kernel, by decide +kernel, by decide +kernel⟩
theorem lkv_X12_140 : LKv RX12 140 M_X12_depthOver 3 := ⟨lk_X12_140, List.mem_of_getElem? (i := 1575) (by decide +kernel), List.mem_of_getElem? (i := 53) (by decide +kernel)⟩
theorem lk_L_219 : LK RL 219 M_X12_anyFormula 2 := ⟨rfl, List.mem_of_getElem? (i := 1577) (by decide +kernel), List.mem_of_getElem? (i := 1580) (by decide +kernel), List.mem_of_getElem? (i := 106) (by decide +kernel), by decide, by decide +kernel, by decide +kernel, by decide +kernel⟩
theorem lkv_L_219 : LKv RL 219 M_X12_anyFormula 2 := ⟨lk_L_219, List.mem_of_getElem? (i := 1578) (by decide +kernel), List.mem_of_getElem? (i := 1579) (by decide +kernel)⟩
theorem lk_L_222 : LK RL 222 M_X12_twoFormula 3 := ⟨rfl, List.mem_of_getElem? (i := 1581) (by decide +kernel), List.mem_of_getElem? (i := 1584) (by decide +kernel), List.mem_of_getElem? (i := 106) (by decide +kernel), by decide, by decide +kernel, by decide +kernel, by decide +kernel⟩
theorem lkv_L_222 : LKv RL 222 M_X12_twoFormula 3 := ⟨lk_L_222, List.mem_of_getElem? (i := 1582) (by decide +kernel), List.mem_of_getElem? (i := 1583) (by decide +kernel)⟩
theorem lk_L_225 : LK RL 225 M_X12_noneFormula 1 := ⟨rfl, List.mem_of_getElem? (i := 1585) (by decide +kernel), List.mem_of_getElem? (i := 1588) (by decide +kernel), List.mem_of_getElem? (i := 106) (by decide +kernel), by decide, by decide +kernel, by decide +kernel, by decide +kernel⟩
theorem lkv_L_225 : LKv RL 225 M_X12_noneFormula 1 := ⟨lk_L_225, List.mem_of_getElem? (i := 1586) (by decide +kernel), List.mem_of_getElem? (i := 1587) (by decide +kernel)⟩
theorem lk_L_228 : LK RL 228 M_X12_holds 2 := ⟨rfl, List.mem_of_getElem? (i := 1589) (by decide +kernel), List.mem_of_getElem? (i := 1592) (by decide +kernel), List.mem_of_getElem? (i := 106) (by decide +kernel), by decide, by decide +kernel, by decide +kernel, by decide +kernel⟩
theorem lkv_L_228 : LKv RL 228 M_X12_holds 2 := ⟨lk_L_228, List.mem_of_getElem? (i := 1590) (by decide +kernel), List.mem_of_getElem? (i := 1591) (by decide +kernel)⟩
theorem lk_X12_158 : LK RX12 158 M_X12_isStudent 1 := ⟨rfl, List.mem_of_getElem? (i := 1593) (by decide +kernel), List.mem_of_getElem? (i := 1596) (by decide +kernel), List.mem_of_getElem? (i := 106) (by decide +kernel), by decide, by decide +kernel, by decide +kernel, by decide +kernel⟩
theorem lkv_X12_158 : LKv RX12 158 M_X12_isStudent 1 := ⟨lk_X12_158, List.mem_of_getElem? (i := 1595) (by decide +kernel), List.mem_of_getElem? (i := 54) (by decide +kernel)⟩
theorem lk_X12_130 : LK RX12 130 M_X12_holdsNow 2 := ⟨rfl, List.mem_of_getElem? (i := 1597) (by decide +kernel), List.mem_of_getElem? (i := 1600) (by decide +kernel), List.mem_of_getElem? (i := 106) (by decide +kernel), by decide, by decide +kernel, by decide +kernel, by decide +kernel⟩
theorem lkv_X12_130 : LKv RX12 130 M_X12_holdsNow 2 := ⟨lk_X12_130, List.mem_of_getElem? (i := 1599) (by decide +kernel), List.mem_of_getElem? (i := 55) (by decide +kernel)⟩
theorem lk_X12_106 : LK RX12 106 M_X12_has 2 := ⟨rfl, List.mem_of_getElem? (i := 1601) (by decide +kernel), List.mem_of_getElem? (i := 1603) (by decide +kernel), List.mem_of_getElem? (i := 106) (by decide +kernel), by decide, by decide +kernel, by decide +kernel, by decide +kernel⟩
theorem lks_X12_106 : LKs RX12 106 M_X12_has 2 := ⟨lk_X12_106, List.mem_of_getElem? (i := 1602) (by decide +kernel)⟩
theorem lk_X12_114 : LK RX12 114 M_X12_bestOf 2 := ⟨rfl, List.mem_of_getElem? (i := 1604) (by decide +kernel), List.mem_of_getElem? (i := 1607) (by decide +kernel), List.mem_of_getElem? (i := 106) (by decide +kernel), by decide, by decide +kernel, by decide +kernel, by decide +kernel⟩
theorem lkv_X12_114 : LKv RX12 114 M_X12_bestOf 2 := ⟨lk_X12_114, List.mem_of_getElem? (i := 1606) (by decide +kernel), List.mem_of_getElem? (i := 56) (by decide +kernel)⟩
theorem lk_X12_110 : LK RX12 110 M_X12_at 2 := ⟨rfl, List.mem_of_getElem? (i := 1608) (by decide +kernel), List.mem_of_getElem? (i := 1610) (by decide +kernel), List.mem_of_getElem? (i := 106) (by decide +kernel), by decide, by decide +kernel, by decide +kernel, by decide +kernel⟩
theorem lks_X12_110 : LKs RX12 110 M_X12_at 2 := ⟨lk_X12_110, List.mem_of_getElem? (i := 1609) (by decide +kernel)⟩
theorem lk_X12_117 : LK RX12 117 M_X12_hasPassed 2 := ⟨rfl, List.mem_of_getElem? (i := 1611) (by decide +kernel), List.mem_of_getElem? (i := 1614) (by decide +kernel), List.mem_of_getElem? (i := 106) (by decide +kernel), by decide, by decide +kernel, by decide +kernel, by decide +kernel⟩
theorem lkv_X12_117 : LKv RX12 117 M_X12_hasPassed 2 := ⟨lk_X12_117, List.mem_of_getElem? (i := 1613) (by decide +kernel), List.mem_of_getElem? (i := 57) (by decide +kernel)⟩
theorem lk_X12_123 : LK RX12 123 M_X12_creditsOf 1 := ⟨rfl, List.mem_of_getElem? (i := 1615) (by decide +kernel), List.mem_of_getElem? (i := 1618) (by decide +kernel), List.mem_of_getElem? (i := 106) (by decide +kernel), by decide, by decide +kernel, by decide +kernel, by decide +kernel⟩
theorem lkv_X12_123 : LKv RX12 123 M_X12_creditsOf 1 := ⟨lk_X12_123, List.mem_of_getElem? (i := 1617) (by decide +kernel), List.mem_of_getElem? (i := 58) (by decide +kernel)⟩
theorem lk_X12_127 : LK RX12 127 M_X12_earnedOf 1 := ⟨rfl, List.mem_of_getElem? (i := 1619) (by decide +kernel), List.mem_of_getElem? (i := 1622) (by decide +kernel), List.mem_of_getElem? (i := 106) (by decide +kernel), by decide, by decide +kernel, by decide +kernel, by decide +kernel⟩
theorem lkv_X12_127 : LKv RX12 127 M_X12_earnedOf 1 := ⟨lk_X12_127, List.mem_of_getElem? (i := 1621) (by decide +kernel), List.mem_of_getElem? (i := 59) (by decide +kernel)⟩
theorem lk_X12_133 : LK RX12 133 M_X12_times 2 := ⟨rfl, List.mem_of_getElem? (i := 1623) (by decide +kernel), List.mem_of_getElem? (i := 1626) (by decide +kernel), List.mem_of_getElem? (i := 106) (by decide +kernel), by decide, by decide +kernel, by decide +kernel, by decide +kernel⟩
theorem lkv_X12_133 : LKv RX12 133 M_X12_times 2 := ⟨lk_X12_133, List.mem_of_getElem? (i := 1625) (by decide +kernel), List.mem_of_getElem? (i := 60) (by decide +kernel)⟩
theorem lk_L_187 : LK RL 187 M_X12_addCourse 2 := ⟨rfl, List.mem_of_getElem? (i := 1627) (by decide +kernel), List.mem_of_getElem? (i := 1630) (by decide +kernel), List.mem_of_getElem? (i := 106) (by decide +kernel), by decide, by decide +kernel, by decide +kernel, by decide +kernel⟩
theorem lkv_L_187 : LKv RL 187 M_X12_addCourse 2 := ⟨lk_L_187, List.mem_of_getElem? (i := 1628) (by decide +kernel), List.mem_of_getElem? (i := 1629) (by decide +kernel)⟩
theorem lk_L_194 : LK RL 194 M_X12_addStudent 1 := ⟨rfl, List.mem_of_getElem? (i := 1631) (by decide +kernel), List.mem_of_getElem? (i := 1634) (by decide +kernel), List.mem_of_getElem? (i := 106) (by decide +kernel), by decide, by decide +kernel, by decide +kernel, by decide +kernel⟩
theorem lkv_L_194 : LKv RL 194 M_X12_addStudent 1 := ⟨lk_L_194, List.mem_of_getElem? (i := 1632) (by decide +kernel), List.mem_of_getElem? (i := 1633) (by decide +kernel)⟩
theorem lk_L_197 : LK RL 197 M_X12_changeMajor 2 := ⟨rfl, List.mem_of_getElem? (i := 1635) (by decide +kernel), List.mem_of_getElem? (i := 1638) (by decide +kernel), List.mem_of_getElem? (i := 106) (by decide +kernel), by decide, by decide +kernel, by decide +kernel, by decide +kernel⟩
theorem lkv_L_197 : LKv RL 197 M_X12_changeMajor 2 := ⟨lk_L_197, List.mem_of_getElem? (i := 1636) (by decide +kernel), List.mem_of_getElem? (i := 1637) (by decide +kernel)⟩
theorem lk_X12_193 : LK RX12 193 M_X12_givesOut 0 := ⟨rfl, List.mem_of_getElem? (i := 1639) (by decide +kernel), List.mem_of_getElem? (i := 1642) (by decide +kernel), List.mem_of_getElem? (i := 106) (by decide +kernel), by decide, by decide +kernel, by decide +kernel, by decide +kernel⟩
theorem lkv_X12_193 : LKv RX12 193 M_X12_givesOut 0 := ⟨lk_X12_193, List.mem_of_getElem? (i := 1641) (by decide +kernel), List.mem_of_getElem? (i := 61) (by decide +kernel)⟩
theorem lk_X12_186 : LK RX12 186 M_X12_givesOne 0 := ⟨rfl, List.mem_of_getElem? (i := 1643) (by decide +kernel), List.mem_of_getElem? (i := 1646) (by decide +kernel), List.mem_of_getElem? (i := 106) (by decide +kernel), by decide, by decide +kernel, by decide +kernel, by decide +kernel⟩
theorem lkv_X12_186 : LKv RX12 186 M_X12_givesOne 0 := ⟨lk_X12_186, List.mem_of_getElem? (i := 1645) (by decide +kernel), List.mem_of_getElem? (i := 62) (by decide +kernel)⟩
theorem lk_X12_179 : LK RX12 179 M_X12_canTake 2 := ⟨rfl, List.mem_of_getElem? (i := 1647) (by decide +kernel), List.mem_of_getElem? (i := 1650) (by decide +kernel), List.mem_of_getElem? (i := 106) (by decide +kernel), by decide, by decide +kernel, by decide +kernel, by decide +kernel⟩
theorem lkv_X12_179 : LKv RX12 179 M_X12_canTake 2 := ⟨lk_X12_179, List.mem_of_getElem? (i := 1649) (by decide +kernel), List.mem_of_getElem? (i := 63) (by decide +kernel)⟩
theorem lk_X12_170 : LK RX12 170 M_X12_freeFor 2 := ⟨rfl, List.mem_of_getElem? (i := 1651) (by decide +kernel), List.mem_of_getElem? (i := 1654) (by decide +kernel), List.mem_of_getElem? (i := 106) (by decide +kernel), by decide, by decide +kernel, by decide +kernel, by decide +kernel⟩
theorem lkv_X12_170 : LKv RX12 170 M_X12_freeFor 2 := ⟨lk_X12_170, List.mem_of_getElem? (i := 1653) (by decide +kernel), List.mem_of_getElem? (i := 64) (by decide +kernel)⟩
theorem lk_X12_161 : LK RX12 161 M_X12_enrolledIn 1 := ⟨rfl, List.mem_of_getElem? (i := 1655) (by decide +kernel), List.mem_of_getElem? (i := 1658) (by decide +kernel), List.mem_of_getElem? (i := 106) (by decide +kernel), by decide, by decide +kernel, by decide +kernel, by decide +kernel⟩
theorem lkv_X12_161 : LKv RX12 161 M_X12_enrolledIn 1 := ⟨lk_X12_161, List.mem_of_getElem? (i := 1657) (by decide +kernel), List.mem_of_getElem? (i := 65) (by decide +kernel)⟩
theorem lk_X12_167 : LK RX12 167 M_X12_enrolledOf 2 := ⟨rfl, List.mem_of_getElem? (i := 1659) (by decide +kernel), List.mem_of_getElem? (i := 1662) (by decide +kernel), List.mem_of_getElem? (i := 106) (by decide +kernel), by decide, by decide +kernel, by decide +kernel, by decide +kernel⟩
theorem lkv_X12_167 : LKv RX12 167 M_X12_enrolledOf 2 := ⟨lk_X12_167, List.mem_of_getElem? (i := 1661) (by decide +kernel), List.mem_of_getElem? (i := 66) (by decide +kernel)⟩
theorem lk_X12_173 : LK RX12 173 M_X12_fits 2 := ⟨rfl, List.mem_of_getElem? (i := 1663) (by decide +kernel), List.mem_of_getElem? (i := 1666) (by decide +kernel), List.mem_of_getElem? (i := 106) (by decide +kernel), by decide, by decide +kernel, by decide +kernel, by decide +kernel⟩
theorem lkv_X12_173 : LKv RX12 173 M_X12_fits 2 := ⟨lk_X12_173, List.mem_of_getElem? (i := 1665) (by decide +kernel), List.mem_of_getElem? (i := 67) (by decide +kernel)⟩
theorem lk_X12_176 : LK RX12 176 M_X12_mayTake 2 := ⟨rfl, List.mem_of_getElem? (i := 1667) (by decide +kernel), List.mem_of_getElem? (i := 1670) (by decide +kernel), List.mem_of_getElem? (i := 106) (by decide +kernel), by decide, by decide +kernel, by decide +kernel, by decide +kernel⟩
theorem lkv_X12_176 : LKv RX12 176 M_X12_mayTake 2 := ⟨lk_X12_176, List.mem_of_getElem? (i := 1669) (by decide +kernel), List.mem_of_getElem? (i := 68) (by decide +kernel)⟩
theorem lk_X12_182 : LK RX12 182 M_X12_leaves 2 := ⟨rfl, List.mem_of_getElem? (i := 1671) (by decide +kernel), List.mem_of_getElem? (i := 1674) (by decide +kernel), List.mem_of_getElem? (i := 106) (by decide +kernel), by decide, by decide +kernel, by decide +kernel, by decide +kernel⟩
theorem lkv_X12_182 : LKv RX12 182 M_X12_leaves 2 := ⟨lk_X12_182, List.mem_of_getElem? (i := 1673) (by decide +kernel), List.mem_of_getElem? (i := 69) (by decide +kernel)⟩
theorem lk_L_200 : LK RL 200 M_X12_majorOf 1 := ⟨rfl, List.mem_of_getElem? (i := 1675) (by decide +kernel), List.mem_of_getElem? (i := 1678) (by decide +kernel), List.mem_of_getElem? (i := 106) (by decide +kernel), by decide, by decide +kernel, by decide +kernel, by decide +kernel⟩
theorem lkv_L_200 : LKv RL 200 M_X12_majorOf 1 := ⟨lk_L_200, List.mem_of_getElem? (i := 1676) (by decide +kernel), List.mem_of_getElem? (i := 1677) (by decide +kernel)⟩
theorem lk_L_204 : LK RL 204 M_X12_reserve 3 := ⟨rfl, List.mem_of_getElem? (i := 1679) (by decide +kernel), List.mem_of_getElem? (i := 1682) (by decide +kernel), List.mem_of_getElem? (i := 106) (by decide +kernel), by decide, by decide +kernel, by decide +kernel, by decide +kernel⟩
theorem lkv_L_204 : LKv RL 204 M_X12_reserve 3 := ⟨lk_L_204, List.mem_of_getElem? (i := 1680) (by decide +kernel), List.mem_of_getElem? (i := 1681) (by decide +kernel)⟩
theorem lk_X12_196 : LK RX12 196 M_X12_reservedForOthers 2 := ⟨rfl, List.mem_of_getElem? (i := 1683) (by decide +kernel), List.mem_of_getElem? (i := 1686) (by decide +kernel), List.mem_of_getElem? (i := 106) (by decide +kernel), by decide, by decide +kernel, by decide +kernel, by decide +kernel⟩
theorem lkv_X12_196 : LKv RX12 196 M_X12_reservedForOthers 2 := ⟨lk_X12_196, List.mem_of_getElem? (i := 1685) (by decide +kernel), List.mem_of_getElem? (i := 70) (by decide +kernel)⟩
theorem lk_L_231 : LK RL 231 M_X12_require 2 := ⟨rfl, List.mem_of_getElem? (i := 1687) (by decide +kernel), List.mem_of_getElem? (i := 1690) (by decide +kernel), List.mem_of_getElem? (i := 106) (by decide +kernel), by decide, by decide +kernel, by decide +kernel, by decide +kernel⟩
theorem lkv_L_231 : LKv RL 231 M_X12_require 2 := ⟨lk_L_231, List.mem_of_getElem? (i := 1688) (by decide +kernel), List.mem_of_getElem? (i := 1689) (by decide +kernel)⟩
theorem lk_L_234 : LK RL 234 M_X12_lift 1 := ⟨rfl, List.mem_of_getElem? (i := 1691) (by decide +kernel), List.mem_of_getElem? (i := 1694) (by decide +kernel), List.mem_of_getElem? (i := 106) (by decide +kernel), by decide, by decide +kernel, by decide +kernel, by decide +kernel⟩
theorem lkv_L_234 : LKv RL 234 M_X12_lift 1 := ⟨lk_L_234, List.mem_of_getElem? (i := 1692) (by decide +kernel), List.mem_of_getElem? (i := 1693) (by decide +kernel)⟩
theorem lk_L_237 : LK RL 237 M_X12_pass 1 := ⟨rfl, List.mem_of_getElem? (i := 1695) (by decide +kernel), List.mem_of_getElem? (i := 1698) (by decide +kernel), List.mem_of_getElem? (i := 106) (by decide +kernel), by decide, by decide +kernel, by decide +kernel, by decide +kernel⟩
theorem lkv_L_237 : LKv RL 237 M_X12_pass 1 := ⟨lk_L_237, List.mem_of_getElem? (i := 1696) (by decide +kernel), List.mem_of_getElem? (i := 1697) (by decide +kernel)⟩
theorem lk_L_241 : LK RL 241 M_X12_day 0 := ⟨rfl, List.mem_of_getElem? (i := 1699) (by decide +kernel), List.mem_of_getElem? (i := 1702) (by decide +kernel), List.mem_of_getElem? (i := 106) (by decide +kernel), by decide, by decide +kernel, by decide +kernel, by decide +kernel⟩
theorem lkv_L_241 : LKv RL 241 M_X12_day 0 := ⟨lk_L_241, List.mem_of_getElem? (i := 1700) (by decide +kernel), List.mem_of_getElem? (i := 1701) (by decide +kernel)⟩
theorem lk_L_245 : LK RL 245 M_X12_term 0 := ⟨rfl, List.mem_of_getElem? (i := 1703) (by decide +kernel), List.mem_of_getElem? (i := 1706) (by decide +kernel), List.mem_of_getElem? (i := 106) (by decide +kernel), by decide, by decide +kernel, by decide +kernel, by decide +kernel⟩
theorem lkv_L_245 : LKv RL 245 M_X12_term 0 := ⟨lk_L_245, List.mem_of_getElem? (i := 1704) (by decide +kernel), List.mem_of_getElem? (i := 1705) (by decide +kernel)⟩
theorem lk_L_248 : LK RL 248 M_X12_enroll 2 := ⟨rfl, List.mem_of_getElem? (i := 1707) (by decide +kernel), List.mem_of_getElem? (i := 1710) (by decide +kernel), List.mem_of_getElem? (i := 106) (by decide +kernel), by decide, by decide +kernel, by decide +kernel, by decide +kernel⟩
theorem lkv_L_248 : LKv RL 248 M_X12_enroll 2 := ⟨lk_L_248, List.mem_of_getElem? (i := 1708) (by decide +kernel), List.mem_of_getElem? (i := 1709) (by decide +kernel)⟩
theorem lk_X12_214 : LK RX12 214 M_X12_enrollFault 2 := ⟨rfl, List.mem_of_getElem? (i := 1711) (by decide +kernel), List.mem_of_getElem? (i := 1714) (by decide +kernel), List.mem_of_getElem? (i := 106) (by decide +kernel), by decide, by decide +kernel, by decide +kernel, by decide +kernel⟩
theorem lkv_X12_214 : LKv RX12 214 M_X12_enrollFault 2 := ⟨lk_X12_214, List.mem_of_getElem? (i := 1713) (by decide +kernel), List.mem_of_getElem? (i := 71) (by decide +kernel)⟩
theorem lk_X12_205 : LK RX12 205 M_X12_isInOrWaits 2 := ⟨rfl, List.mem_of_getElem? (i := 1715) (by decide +kernel), List.mem_of_getElem? (i := 1718) (by decide +kernel), List.mem_of_getElem? (i := 106) (by decide +kernel), by decide, by decide +kernel, by decide +kernel, by decide +kernel⟩
theorem lkv_X12_205 : LKv RX12 205 M_X12_isInOrWaits 2 := ⟨lk_X12_205, List.mem_of_getElem? (i := 1717) (by decide +kernel), List.mem_of_getElem? (i := 72) (by decide +kernel)⟩
theorem lk_X12_202 : LK RX12 202 M_X12_placeIn 2 := ⟨rfl, List.mem_of_getElem? (i := 1719) (by decide +kernel), List.mem_of_getElem? (i := 1722) (by decide +kernel), List.mem_of_getElem? (i := 106) (by decide +kernel), by decide, by decide +kernel, by decide +kernel, by decide +kernel⟩
theorem lkv_X12_202 : LKv RX12 202 M_X12_placeIn 2 := ⟨lk_X12_202, List.mem_of_getElem? (i := 1721) (by decide +kernel), List.mem_of_getElem? (i := 73) (by decide +kernel)⟩
theorem lk_X12_208 : LK RX12 208 M_X12_isTired 2 := ⟨rfl, List.mem_of_getElem? (i := 1723) (by decide +kernel), List.mem_of_getElem? (i := 1726) (by decide +kernel), List.mem_of_getElem? (i := 106) (by decide +kernel), by decide, by decide +kernel, by decide +kernel, by decide +kernel⟩
theorem lkv_X12_208 : LKv RX12 208 M_X12_isTired 2 := ⟨lk_X12_208, List.mem_of_getElem? (i := 1725) (by decide +kernel), List.mem_of_getElem? (i := 74) (by decide +kernel)⟩
theorem lk_X12_211 : LK RX12 211 M_X12_isClosed 2 := ⟨rfl, List.mem_of_getElem? (i := 1727) (by decide +kernel), List.mem_of_getElem? (i := 1730) (by decide +kernel), List.mem_of_getElem? (i := 106) (by decide +kernel), by decide, by decide +kernel, by decide +kernel, by decide +kernel⟩
theorem lkv_X12_211 : LKv RX12 211 M_X12_isClosed 2 := ⟨lk_X12_211, List.mem_of_getElem? (i := 1729) (by decide +kernel), List.mem_of_getElem? (i := 75) (by decide +kernel)⟩
theorem lk_L_251 : LK RL 251 M_X12_outcome 2 := ⟨rfl, List.mem_of_getElem? (i := 1731) (by decide +kernel), List.mem_of_getElem? (i := 1734) (by decide +kernel), List.mem_of_getElem? (i := 106) (by decide +kernel), by decide, by decide +kernel, by decide +kernel, by decide +kernel⟩
theorem lkv_L_251 : LKv RL 251 M_X12_outcome 2 := ⟨lk_L_251, List.mem_of_getElem? (i := 1732) (by decide +kernel), List.mem_of_getElem? (i := 1733) (by decide +kernel)⟩
theorem lk_X12_217 : LK RX12 217 M_X12_wouldBe 2 := ⟨rfl, List.mem_of_getElem? (i := 1735) (by decide +kernel), List.mem_of_getElem? (i := 1738) (by decide +kernel), List.mem_of_getElem? (i := 106) (by decide +kernel), by decide, by decide +kernel, by decide +kernel, by decide +kernel⟩
theorem lkv_X12_217 : LKv RX12 217 M_X12_wouldBe 2 := ⟨lk_X12_217, List.mem_of_getElem? (i := 1737) (by decide +kernel), List.mem_of_getElem? (i := 76) (by decide +kernel)⟩
theorem lk_L_254 : LK RL 254 M_X12_drop 2 := ⟨rfl, List.mem_of_getElem? (i := 1739) (by decide +kernel), List.mem_of_getElem? (i := 1742) (by decide +kernel), List.mem_of_getElem? (i := 106) (by decide +kernel), by decide, by decide +kernel, by decide +kernel, by decide +kernel⟩
theorem lkv_L_254 : LKv RL 254 M_X12_drop 2 := ⟨lk_L_254, List.mem_of_getElem? (i := 1740) (by decide +kernel), List.mem_of_getElem? (i := 1741) (by decide +kernel)⟩
theorem lk_X12_221 : LK RX12 221 M_X12_ends 2 := ⟨rfl, List.mem_of_getElem? (i := 1743) (by decide +kernel), List.mem_of_getElem? (i := 1746) (by decide +kernel), List.mem_of_getElem? (i := 106) (by decide +kernel), by decide, by decide +kernel, by decide +kernel, by decide +kernel⟩
theorem lkv_X12_221 : LKv RX12 221 M_X12_ends 2 := ⟨lk_X12_221, List.mem_of_getElem? (i := 1745) (by decide +kernel), List.mem_of_getElem? (i := 77) (by decide +kernel)⟩
theorem lk_X12_190 : LK RX12 190 M_X12_tries 3 := ⟨rfl, List.mem_of_getElem? (i := 1747) (by decide +kernel), List.mem_of_getElem? (i := 1750) (by decide +kernel), List.mem_of_getElem? (i := 106) (by decide +kernel), by decide, by decide +kernel, by decide +kernel, by decide +kernel⟩
theorem lkv_X12_190 : LKv RX12 190 M_X12_tries 3 := ⟨lk_X12_190, List.mem_of_getElem? (i := 1749) (by decide +kernel), List.mem_of_getElem? (i := 78) (by decide +kernel)⟩
theorem lk_L_257 : LK RL 257 M_X12_swap 3 := ⟨rfl, List.mem_of_getElem? (i := 1751) (by decide +kernel), List.mem_of_getElem? (i := 1754) (by decide +kernel), List.mem_of_getElem? (i := 106) (by decide +kernel), by decide, by decide +kernel, by decide +kernel, by decide +kernel⟩
theorem lkv_L_257 : LKv RL 257 M_X12_swap 3 := ⟨lk_L_257, List.mem_of_getElem? (i := 1752) (by decide +kernel), List.mem_of_getElem? (i := 1753) (by decide +kernel)⟩
theorem lk_X12_224 : LK RX12 224 M_X12_swapFault 3 := ⟨rfl, List.mem_of_getElem? (i := 1755) (by decide +kernel), List.mem_of_getElem? (i := 1758) (by decide +kernel), List.mem_of_getElem? (i := 106) (by decide +kernel), by decide, by decide +kernel, by decide +kernel, by decide +kernel⟩
theorem lkv_X12_224 : LKv RX12 224 M_X12_swapFault 3 := ⟨lk_X12_224, List.mem_of_getElem? (i := 1757) (by decide +kernel), List.mem_of_getElem? (i := 79) (by decide +kernel)⟩
theorem lk_L_260 : LK RL 260 M_X12_mark 3 := ⟨rfl, List.mem_of_getElem? (i := 1759) (by decide +kernel), List.mem_of_getElem? (i := 1762) (by decide +kernel), List.mem_of_getElem? (i := 106) (by decide +kernel), by decide, by decide +kernel, by decide +kernel, by decide +kernel⟩
theorem lkv_L_260 : LKv RL 260 M_X12_mark 3 := ⟨lk_L_260, List.mem_of_getElem? (i := 1760) (by decide +kernel), List.mem_of_getElem? (i := 1761) (by decide +kernel)⟩
theorem lk_L_264 : LK RL 264 M_X12_endTerm 0 := ⟨rfl, List.mem_of_getElem? (i := 1763) (by decide +kernel), List.mem_of_getElem? (i := 1766) (by decide +kernel), List.mem_of_getElem? (i := 106) (by decide +kernel), by decide, by decide +kernel, by decide +kernel, by decide +kernel⟩
theorem lkv_L_264 : LKv RL 264 M_X12_endTerm 0 := ⟨lk_L_264, List.mem_of_getElem? (i := 1764) (by decide +kernel), List.mem_of_getElem? (i := 1765) (by decide +kernel)⟩
theorem lk_L_267 : LK RL 267 M_X12_moveIn 2 := ⟨rfl, List.mem_of_getElem? (i := 1767) (by decide +kernel), List.mem_of_getElem? (i := 1770) (by decide +kernel), List.mem_of_getElem? (i := 106) (by decide +kernel), by decide, by decide +kernel, by decide +kernel, by decide +kernel⟩
theorem lkv_L_267 : LKv RL 267 M_X12_moveIn 2 := ⟨lk_L_267, List.mem_of_getElem? (i := 1768) (by decide +kernel), List.mem_of_getElem? (i := 1769) (by decide +kernel)⟩
theorem lk_L_270 : LK RL 270 M_X12_bestMark 2 := ⟨rfl, List.mem_of_getElem? (i := 1771) (by decide +kernel), List.mem_of_getElem? (i := 1774) (by decide +kernel), List.mem_of_getElem? (i := 106) (by decide +kernel), by decide, by decide +kernel, by decide +kernel, by decide +kernel⟩
theorem lkv_L_270 : LKv RL 270 M_X12_bestMark 2 := ⟨lk_L_270, List.mem_of_getElem? (i := 1772) (by decide +kernel), List.mem_of_getElem? (i := 1773) (by decide +kernel)⟩
theorem lk_L_273 : LK RL 273 M_X12_attempts 2 := ⟨rfl, List.mem_of_getElem? (i := 1775) (by decide +kernel), List.mem_of_getElem? (i := 1778) (by decide +kernel), List.mem_of_getElem? (i := 106) (by decide +kernel), by decide, by decide +kernel, by decide +kernel, by decide +kernel⟩
theorem lkv_L_273 : LKv RL 273 M_X12_attempts 2 := ⟨lk_L_273, List.mem_of_getElem? (i := 1776) (by decide +kernel), List.mem_of_getElem? (i := 1777) (by decide +kernel)⟩
theorem lk_L_276 : LK RL 276 M_X12_earnedCredits 1 := ⟨rfl, List.mem_of_getElem? (i := 1779) (by decide +kernel), List.mem_of_getElem? (i := 1782) (by decide +kernel), List.mem_of_getElem? (i := 106) (by decide +kernel), by decide, by decide +kernel, by decide +kernel, by decide +kernel⟩
theorem lkv_L_276 : LKv RL 276 M_X12_earnedCredits 1 := ⟨lk_L_276, List.mem_of_getElem? (i := 1780) (by decide +kernel), List.mem_of_getElem? (i := 1781) (by decide +kernel)⟩
theorem lk_L_281 : LK RL 281 M_X12_allEarned 0 := ⟨rfl, List.mem_of_getElem? (i := 1783) (by decide +kernel), List.mem_of_getElem? (i := 1786) (by decide +kernel), List.mem_of_getElem? (i := 106) (by decide +kernel), by decide, by decide +kernel, by decide +kernel, by decide +kernel⟩
theorem lkv_L_281 : LKv RL 281 M_X12_allEarned 0 := ⟨lk_L_281, List.mem_of_getElem? (i := 1784) (by decide +kernel), List.mem_of_getElem? (i := 1785) (by decide +kernel)⟩
theorem lk_L_285 : LK RL 285 M_X12_average 1 := ⟨rfl, List.mem_of_getElem? (i := 1787) (by decide +kernel), List.mem_of_getElem? (i := 1790) (by decide +kernel), List.mem_of_getElem? (i := 106) (by decide +kernel), by decide, by decide +kernel, by decide +kernel, by decide +kernel⟩
theorem lkv_L_285 : LKv RL 285 M_X12_average 1 := ⟨lk_L_285, List.mem_of_getElem? (i := 1788) (by decide +kernel), List.mem_of_getElem? (i := 1789) (by decide +kernel)⟩
theorem lk_X12_227 : LK RX12 227 M_X12_lastMark 2 := ⟨rfl, List.mem_of_getElem? (i := 1791) (by decide +kernel), List.mem_of_getElem? (i := 1794) (by decide +kernel), List.mem_of_getElem? (i := 106) (by decide +kernel), by decide, by decide +kernel, by decide +kernel, by decide +kernel⟩
theorem lkv_X12_227 : LKv RX12 227 M_X12_lastMark 2 := ⟨lk_X12_227, List.mem_of_getElem? (i := 1793) (by decide +kernel), List.mem_of_getElem? (i := 80) (by decide +kernel)⟩
theorem lk_L_288 : LK RL 288 M_X12_load 1 := ⟨rfl, List.mem_of_getElem? (i := 1795) (by decide +kernel), List.mem_of_getElem? (i := 1798) (by decide +kernel), List.mem_of_getElem? (i := 106) (by decide +kernel), by decide, by decide +kernel, by decide +kernel, by decide +kernel⟩
theorem lkv_L_288 : LKv RL 288 M_X12_load 1 := ⟨lk_L_288, List.mem_of_getElem? (i := 1796) (by decide +kernel), List.mem_of_getElem? (i := 1797) (by decide +kernel)⟩
theorem lk_L_291 : LK RL 291 M_X12_isEnrolled 2 := ⟨rfl, List.mem_of_getElem? (i := 1799) (by decide +kernel), List.mem_of_getElem? (i := 1802) (by decide +kernel), List.mem_of_getElem? (i := 106) (by decide +kernel), by decide, by decide +kernel, by decide +kernel, by decide +kernel⟩
theorem lkv_L_291 : LKv RL 291 M_X12_isEnrolled 2 := ⟨lk_L_291, List.mem_of_getElem? (i := 1800) (by decide +kernel), List.mem_of_getElem? (i := 1801) (by decide +kernel)⟩
theorem lk_L_294 : LK RL 294 M_X12_enrolled 1 := ⟨rfl, List.mem_of_getElem? (i := 1803) (by decide +kernel), List.mem_of_getElem? (i := 1806) (by decide +kernel), List.mem_of_getElem? (i := 106) (by decide +kernel), by decide, by decide +kernel, by decide +kernel, by decide +kernel⟩
theorem lkv_L_294 : LKv RL 294 M_X12_enrolled 1 := ⟨lk_L_294, List.mem_of_getElem? (i := 1804) (by decide +kernel), List.mem_of_getElem? (i := 1805) (by decide +kernel)⟩
theorem lk_L_297 : LK RL 297 M_X12_waiting 1 := ⟨rfl, List.mem_of_getElem? (i := 1807) (by decide +kernel), List.mem_of_getElem? (i := 1810) (by decide +kernel), List.mem_of_getElem? (i := 106) (by decide +kernel), by decide, by decide +kernel, by decide +kernel, by decide +kernel⟩
theorem lkv_L_297 : LKv RL 297 M_X12_waiting 1 := ⟨lk_L_297, List.mem_of_getElem? (i := 1808) (by decide +kernel), List.mem_of_getElem? (i := 1809) (by decide +kernel)⟩
theorem lk_L_300 : LK RL 300 M_X12_placeOf 2 := ⟨rfl, List.mem_of_getElem? (i := 1811) (by decide +kernel), List.mem_of_getElem? (i := 1814) (by decide +kernel), List.mem_of_getElem? (i := 106) (by decide +kernel), by decide, by decide +kernel, by decide +kernel, by decide +kernel⟩
theorem lkv_L_300 : LKv RL 300 M_X12_placeOf 2 := ⟨lk_L_300, List.mem_of_getElem? (i := 1812) (by decide +kernel), List.mem_of_getElem? (i := 1813) (by decide +kernel)⟩
theorem lk_L_303 : LK RL 303 M_X12_freeSeats 2 := ⟨rfl, List.mem_of_getElem? (i := 1815) (by decide +kernel), List.mem_of_getElem? (i := 1818) (by decide +kernel), List.mem_of_getElem? (i := 106) (by decide +kernel), by decide, by decide +kernel, by decide +kernel, by decide +kernel⟩
theorem lkv_L_303 : LKv RL 303 M_X12_freeSeats 2 := ⟨lk_L_303, List.mem_of_getElem? (i := 1816) (by decide +kernel), List.mem_of_getElem? (i := 1817) (by decide +kernel)⟩
theorem lk_L_306 : LK RL 306 M_X12_share 1 := ⟨rfl, List.mem_of_getElem? (i := 1819) (by decide +kernel), List.mem_of_getElem? (i := 1822) (by decide +kernel), List.mem_of_getElem? (i := 106) (by decide +kernel), by decide, by decide +kernel, by decide +kernel, by decide +kernel⟩
theorem lkv_L_306 : LKv RL 306 M_X12_share 1 := ⟨lk_L_306, List.mem_of_getElem? (i := 1820) (by decide +kernel), List.mem_of_getElem? (i := 1821) (by decide +kernel)⟩
theorem lk_L_309 : LK RL 309 M_X12_whyNot 2 := ⟨rfl, List.mem_of_getElem? (i := 1823) (by decide +kernel), List.mem_of_getElem? (i := 1826) (by decide +kernel), List.mem_of_getElem? (i := 106) (by decide +kernel), by decide, by decide +kernel, by decide +kernel, by decide +kernel⟩
theorem lkv_L_309 : LKv RL 309 M_X12_whyNot 2 := ⟨lk_L_309, List.mem_of_getElem? (i := 1824) (by decide +kernel), List.mem_of_getElem? (i := 1825) (by decide +kernel)⟩
theorem lk_X12_233 : LK RX12 233 M_X12_whyFault 2 := ⟨rfl, List.mem_of_getElem? (i := 1827) (by decide +kernel), List.mem_of_getElem? (i := 1830) (by decide +kernel), List.mem_of_getElem? (i := 106) (by decide +kernel), by decide, by decide +kernel, by decide +kernel, by decide +kernel⟩
theorem lkv_X12_233 : LKv RX12 233 M_X12_whyFault 2 := ⟨lk_X12_233, List.mem_of_getElem? (i := 1829) (by decide +kernel), List.mem_of_getElem? (i := 81) (by decide +kernel)⟩
theorem lk_X12_236 : LK RX12 236 M_X12_reasonOf 2 := ⟨rfl, List.mem_of_getElem? (i := 1831) (by decide +kernel), List.mem_of_getElem? (i := 1834) (by decide +kernel), List.mem_of_getElem? (i := 106) (by decide +kernel), by decide, by decide +kernel, by decide +kernel, by decide +kernel⟩
theorem lkv_X12_236 : LKv RX12 236 M_X12_reasonOf 2 := ⟨lk_X12_236, List.mem_of_getElem? (i := 1833) (by decide +kernel), List.mem_of_getElem? (i := 82) (by decide +kernel)⟩
theorem lk_L_312 : LK RL 312 M_X12_whyLong 2 := ⟨rfl, List.mem_of_getElem? (i := 1835) (by decide +kernel), List.mem_of_getElem? (i := 1838) (by decide +kernel), List.mem_of_getElem? (i := 106) (by decide +kernel), by decide, by decide +kernel, by decide +kernel, by decide +kernel⟩
theorem lkv_L_312 : LKv RL 312 M_X12_whyLong 2 := ⟨lk_L_312, List.mem_of_getElem? (i := 1836) (by decide +kernel), List.mem_of_getElem? (i := 1837) (by decide +kernel)⟩
theorem lk_L_315 : LK RL 315 M_X12_termsTo 1 := ⟨rfl, List.mem_of_getElem? (i := 1839) (by decide +kernel), List.mem_of_getElem? (i := 1842) (by decide +kernel), List.mem_of_getElem? (i := 106) (by decide +kernel), by decide, by decide +kernel, by decide +kernel, by decide +kernel⟩
theorem lkv_L_315 : LKv RL 315 M_X12_termsTo 1 := ⟨lk_L_315, List.mem_of_getElem? (i := 1840) (by decide +kernel), List.mem_of_getElem? (i := 1841) (by decide +kernel)⟩
theorem lk_X12_239 : LK RX12 239 M_X12_termsUntil 1 := ⟨rfl, List.mem_of_getElem? (i := 1843) (by decide +kernel), List.mem_of_getElem? (i := 1846) (by decide +kernel), List.mem_of_getElem? (i := 106) (by decide +kernel), by decide, by decide +kernel, by decide +kernel, by decide +kernel⟩
theorem lkv_X12_239 : LKv RX12 239 M_X12_termsUntil 1 := ⟨lk_X12_239, List.mem_of_getElem? (i := 1845) (by decide +kernel), List.mem_of_getElem? (i := 83) (by decide +kernel)⟩
theorem lk_L_318 : LK RL 318 M_X12_transcriptLength 1 := ⟨rfl, List.mem_of_getElem? (i := 1847) (by decide +kernel), List.mem_of_getElem? (i := 1850) (by decide +kernel), List.mem_of_getElem? (i := 106) (by decide +kernel), by decide, by decide +kernel, by decide +kernel, by decide +kernel⟩
theorem lkv_L_318 : LKv RL 318 M_X12_transcriptLength 1 := ⟨lk_L_318, List.mem_of_getElem? (i := 1848) (by decide +kernel), List.mem_of_getElem? (i := 1849) (by decide +kernel)⟩
theorem lk_X12_255 : LK RX12 255 M_X12_writesAll 1 := ⟨rfl, List.mem_of_getElem? (i := 1851) (by decide +kernel), List.mem_of_getElem? (i := 1854) (by decide +kernel), List.mem_of_getElem? (i := 106) (by decide +kernel), by decide, by decide +kernel, by decide +kernel, by decide +kernel⟩
theorem lkv_X12_255 : LKv RX12 255 M_X12_writesAll 1 := ⟨lk_X12_255, List.mem_of_getElem? (i := 1853) (by decide +kernel), List.mem_of_getElem? (i := 84) (by decide +kernel)⟩
theorem lk_X12_252 : LK RX12 252 M_X12_writesCourse 2 := ⟨rfl, List.mem_of_getElem? (i := 1855) (by decide +kernel), List.mem_of_getElem? (i := 1858) (by decide +kernel), List.mem_of_getElem? (i := 106) (by decide +kernel), by decide, by decide +kernel, by decide +kernel, by decide +kernel⟩
theorem lkv_X12_252 : LKv RX12 252 M_X12_writesCourse 2 := ⟨lk_X12_252, List.mem_of_getElem? (i := 1857) (by decide +kernel), List.mem_of_getElem? (i := 85) (by decide +kernel)⟩
theorem lk_X12_249 : LK RX12 249 M_X12_writesNumber 1 := ⟨rfl, List.mem_of_getElem? (i := 1859) (by decide +kernel), List.mem_of_getElem? (i := 1862) (by decide +kernel), List.mem_of_getElem? (i := 106) (by decide +kernel), by decide, by decide +kernel, by decide +kernel, by decide +kernel⟩
theorem lkv_X12_249 : LKv RX12 249 M_X12_writesNumber 1 := ⟨lk_X12_249, List.mem_of_getElem? (i := 1861) (by decide +kernel), List.mem_of_getElem? (i := 86) (by decide +kernel)⟩
theorem lk_X12_245 : LK RX12 245 M_X12_writes 1 := ⟨rfl, List.mem_of_getElem? (i := 1863) (by decide +kernel), List.mem_of_getElem? (i := 1866) (by decide +kernel), List.mem_of_getElem? (i := 106) (by decide +kernel), by decide, by decide +kernel, by decide +kernel, by decide +kernel⟩
theorem lkv_X12_245 : LKv RX12 245 M_X12_writes 1 := ⟨lk_X12_245, List.mem_of_getElem? (i := 1865) (by decide +kernel), List.mem_of_getElem? (i := 87) (by decide +kernel)⟩
theorem lk_L_321 : LK RL 321 M_X12_transcriptAt 2 := ⟨rfl, List.mem_of_getElem? (i := 1867) (by decide +kernel), List.mem_of_getElem? (i := 1870) (by decide +kernel), List.mem_of_getElem? (i := 106) (by decide +kernel), by decide, by decide +kernel, by decide +kernel, by decide +kernel⟩
theorem lkv_L_321 : LKv RL 321 M_X12_transcriptAt 2 := ⟨lk_L_321, List.mem_of_getElem? (i := 1868) (by decide +kernel), List.mem_of_getElem? (i := 1869) (by decide +kernel)⟩
theorem lk_L_324 : LK RL 324 M_X12_addRule 3 := ⟨rfl, List.mem_of_getElem? (i := 1871) (by decide +kernel), List.mem_of_getElem? (i := 1874) (by decide +kernel), List.mem_of_getElem? (i := 106) (by decide +kernel), by decide, by decide +kernel, by decide +kernel, by decide +kernel⟩
theorem lkv_L_324 : LKv RL 324 M_X12_addRule 3 := ⟨lk_L_324, List.mem_of_getElem? (i := 1872) (by decide +kernel), List.mem_of_getElem? (i := 1873) (by decide +kernel)⟩
theorem lk_X12_261 : LK RX12 261 M_X12_rulesOf 1 := ⟨rfl, List.mem_of_getElem? (i := 1875) (by decide +kernel), List.mem_of_getElem? (i := 1878) (by decide +kernel), List.mem_of_getElem? (i := 106) (by decide +kernel), by decide, by decide +kernel, by decide +kernel, by decide +kernel⟩
theorem lkv_X12_261 : LKv RX12 261 M_X12_rulesOf 1 := ⟨lk_X12_261, List.mem_of_getElem? (i := 1877) (by decide +kernel), List.mem_of_getElem? (i := 88) (by decide +kernel)⟩
theorem lk_L_327 : LK RL 327 M_X12_allow 2 := ⟨rfl, List.mem_of_getElem? (i := 1879) (by decide +kernel), List.mem_of_getElem? (i := 1882) (by decide +kernel), List.mem_of_getElem? (i := 106) (by decide +kernel), by decide, by decide +kernel, by decide +kernel, by decide +kernel⟩
theorem lkv_L_327 : LKv RL 327 M_X12_allow 2 := ⟨lk_L_327, List.mem_of_getElem? (i := 1880) (by decide +kernel), List.mem_of_getElem? (i := 1881) (by decide +kernel)⟩
theorem lk_L_330 : LK RL 330 M_X12_mostMet 1 := ⟨rfl, List.mem_of_getElem? (i := 1883) (by decide +kernel), List.mem_of_getElem? (i := 1886) (by decide +kernel), List.mem_of_getElem? (i := 106) (by decide +kernel), by decide, by decide +kernel, by decide +kernel, by decide +kernel⟩
theorem lkv_L_330 : LKv RL 330 M_X12_mostMet 1 := ⟨lk_L_330, List.mem_of_getElem? (i := 1884) (by decide +kernel), List.mem_of_getElem? (i := 1885) (by decide +kernel)⟩
theorem lk_X12_290 : LK RX12 290 M_X12_mostOf 2 := ⟨rfl, List.mem_of_getElem? (i := 1887) (by decide +kernel), List.mem_of_getElem? (i := 1890) (by decide +kernel), List.mem_of_getElem? (i := 106) (by decide +kernel), by decide, by decide +kernel, by decide +kernel, by decide +kernel⟩
theorem lkv_X12_290 : LKv RX12 290 M_X12_mostOf 2 := ⟨lk_X12_290, List.mem_of_getElem? (i := 1889) (by decide +kernel), List.mem_of_getElem? (i := 89) (by decide +kernel)⟩
theorem lk_X12_283 : LK RX12 283 M_X12_looksAt 2 := ⟨rfl, List.mem_of_getElem? (i := 1891) (by decide +kernel), List.mem_of_getElem? (i := 1894) (by decide +kernel), List.mem_of_getElem? (i := 106) (by decide +kernel), by decide, by decide +kernel, by decide +kernel, by decide +kernel⟩
theorem lkv_X12_283 : LKv RX12 283 M_X12_looksAt 2 := ⟨lk_X12_283, List.mem_of_getElem? (i := 1893) (by decide +kernel), List.mem_of_getElem? (i := 90) (by decide +kernel)⟩
theorem lk_X12_287 : LK RX12 287 M_X12_mostFrom 2 := ⟨rfl, List.mem_of_getElem? (i := 1895) (by decide +kernel), List.mem_of_getElem? (i := 1898) (by decide +kernel), List.mem_of_getElem? (i := 106) (by decide +kernel), by decide, by decide +kernel, by decide +kernel, by decide +kernel⟩
theorem lkv_X12_287 : LKv RX12 287 M_X12_mostFrom 2 := ⟨lk_X12_287, List.mem_of_getElem? (i := 1897) (by decide +kernel), List.mem_of_getElem? (i := 91) (by decide +kernel)⟩
theorem lk_X12_280 : LK RX12 280 M_X12_canGive 3 := ⟨rfl, List.mem_of_getElem? (i := 1899) (by decide +kernel), List.mem_of_getElem? (i := 1902) (by decide +kernel), List.mem_of_getElem? (i := 106) (by decide +kernel), by decide, by decide +kernel, by decide +kernel, by decide +kernel⟩
theorem lkv_X12_280 : LKv RX12 280 M_X12_canGive 3 := ⟨lk_X12_280, List.mem_of_getElem? (i := 1901) (by decide +kernel), List.mem_of_getElem? (i := 92) (by decide +kernel)⟩
theorem lk_X12_274 : LK RX12 274 M_X12_counts 2 := ⟨rfl, List.mem_of_getElem? (i := 1903) (by decide +kernel), List.mem_of_getElem? (i := 1906) (by decide +kernel), List.mem_of_getElem? (i := 106) (by decide +kernel), by decide, by decide +kernel, by decide +kernel, by decide +kernel⟩
theorem lkv_X12_274 : LKv RX12 274 M_X12_counts 2 := ⟨lk_X12_274, List.mem_of_getElem? (i := 1905) (by decide +kernel), List.mem_of_getElem? (i := 93) (by decide +kernel)⟩
theorem lk_X12_277 : LK RX12 277 M_X12_of 2 := ⟨rfl, List.mem_of_getElem? (i := 1907) (by decide +kernel), List.mem_of_getElem? (i := 1909) (by decide +kernel), List.mem_of_getElem? (i := 106) (by decide +kernel), by decide, by decide +kernel, by decide +kernel, by decide +kernel⟩
theorem lks_X12_277 : LKs RX12 277 M_X12_of 2 := ⟨lk_X12_277, List.mem_of_getElem? (i := 1908) (by decide +kernel)⟩
theorem lk_L_333 : LK RL 333 M_X12_mostMetByTrial 1 := ⟨rfl, List.mem_of_getElem? (i := 1910) (by decide +kernel), List.mem_of_getElem? (i := 1913) (by decide +kernel), List.mem_of_getElem? (i := 106) (by decide +kernel), by decide, by decide +kernel, by decide +kernel, by decide +kernel⟩
theorem lkv_L_333 : LKv RL 333 M_X12_mostMetByTrial 1 := ⟨lk_L_333, List.mem_of_getElem? (i := 1911) (by decide +kernel), List.mem_of_getElem? (i := 1912) (by decide +kernel)⟩
theorem lk_X12_294 : LK RX12 294 M_X12_mostMet 1 := ⟨rfl, List.mem_of_getElem? (i := 1914) (by decide +kernel), List.mem_of_getElem? (i := 1886) (by decide +kernel), List.mem_of_getElem? (i := 106) (by decide +kernel), by decide, by decide +kernel, by decide +kernel, by decide +kernel⟩
theorem lkv_X12_294 : LKv RX12 294 M_X12_mostMet 1 := ⟨lk_X12_294, List.mem_of_getElem? (i := 1884) (by decide +kernel), List.mem_of_getElem? (i := 1885) (by decide +kernel)⟩
theorem lk_L_336 : LK RL 336 M_X12_mostMetIf 1 := ⟨rfl, List.mem_of_getElem? (i := 1915) (by decide +kernel), List.mem_of_getElem? (i := 1918) (by decide +kernel), List.mem_of_getElem? (i := 106) (by decide +kernel), by decide, by decide +kernel, by decide +kernel, by decide +kernel⟩
theorem lkv_L_336 : LKv RL 336 M_X12_mostMetIf 1 := ⟨lk_L_336, List.mem_of_getElem? (i := 1916) (by decide +kernel), List.mem_of_getElem? (i := 1917) (by decide +kernel)⟩
theorem lk_L_339 : LK RL 339 M_X12_lackingRules 1 := ⟨rfl, List.mem_of_getElem? (i := 1919) (by decide +kernel), List.mem_of_getElem? (i := 1922) (by decide +kernel), List.mem_of_getElem? (i := 106) (by decide +kernel), by decide, by decide +kernel, by decide +kernel, by decide +kernel⟩
theorem lkv_L_339 : LKv RL 339 M_X12_lackingRules 1 := ⟨lk_L_339, List.mem_of_getElem? (i := 1920) (by decide +kernel), List.mem_of_getElem? (i := 1921) (by decide +kernel)⟩
theorem lk_X12_297 : LK RX12 297 M_X12_lackingOf 1 := ⟨rfl, List.mem_of_getElem? (i := 1923) (by decide +kernel), List.mem_of_getElem? (i := 1926) (by decide +kernel), List.mem_of_getElem? (i := 106) (by decide +kernel), by decide, by decide +kernel, by decide +kernel, by decide +kernel⟩
theorem lkv_X12_297 : LKv RX12 297 M_X12_lackingOf 1 := ⟨lk_X12_297, List.mem_of_getElem? (i := 1925) (by decide +kernel), List.mem_of_getElem? (i := 94) (by decide +kernel)⟩
theorem lk_L_342 : LK RL 342 M_X12_lackingByTrial 1 := ⟨rfl, List.mem_of_getElem? (i := 1927) (by decide +kernel), List.mem_of_getElem? (i := 1930) (by decide +kernel), List.mem_of_getElem? (i := 106) (by decide +kernel), by decide, by decide +kernel, by decide +kernel, by decide +kernel⟩
theorem lkv_L_342 : LKv RL 342 M_X12_lackingByTrial 1 := ⟨lk_L_342, List.mem_of_getElem? (i := 1928) (by decide +kernel), List.mem_of_getElem? (i := 1929) (by decide +kernel)⟩
theorem lk_X12_300 : LK RX12 300 M_X12_lackingRules 1 := ⟨rfl, List.mem_of_getElem? (i := 1931) (by decide +kernel), List.mem_of_getElem? (i := 1922) (by decide +kernel), List.mem_of_getElem? (i := 106) (by decide +kernel), by decide, by decide +kernel, by decide +kernel, by decide +kernel⟩
theorem lkv_X12_300 : LKv RX12 300 M_X12_lackingRules 1 := ⟨lk_X12_300, List.mem_of_getElem? (i := 1920) (by decide +kernel), List.mem_of_getElem? (i := 1921) (by decide +kernel)⟩
theorem lk_L_345 : LK RL 345 M_X12_ruleFor 2 := ⟨rfl, List.mem_of_getElem? (i := 1932) (by decide +kernel), List.mem_of_getElem? (i := 1935) (by decide +kernel), List.mem_of_getElem? (i := 106) (by decide +kernel), by decide, by decide +kernel, by decide +kernel, by decide +kernel⟩
theorem lkv_L_345 : LKv RL 345 M_X12_ruleFor 2 := ⟨lk_L_345, List.mem_of_getElem? (i := 1933) (by decide +kernel), List.mem_of_getElem? (i := 1934) (by decide +kernel)⟩
theorem lk_X12_303 : LK RX12 303 M_X12_givenTo 2 := ⟨rfl, List.mem_of_getElem? (i := 1936) (by decide +kernel), List.mem_of_getElem? (i := 1939) (by decide +kernel), List.mem_of_getElem? (i := 106) (by decide +kernel), by decide, by decide +kernel, by decide +kernel, by decide +kernel⟩
theorem lkv_X12_303 : LKv RX12 303 M_X12_givenTo 2 := ⟨lk_X12_303, List.mem_of_getElem? (i := 1938) (by decide +kernel), List.mem_of_getElem? (i := 95) (by decide +kernel)⟩
theorem lk_L_348 : LK RL 348 M_X12_setDegree 2 := ⟨rfl, List.mem_of_getElem? (i := 1940) (by decide +kernel), List.mem_of_getElem? (i := 1943) (by decide +kernel), List.mem_of_getElem? (i := 106) (by decide +kernel), by decide, by decide +kernel, by decide +kernel, by decide +kernel⟩
theorem lkv_L_348 : LKv RL 348 M_X12_setDegree 2 := ⟨lk_L_348, List.mem_of_getElem? (i := 1941) (by decide +kernel), List.mem_of_getElem? (i := 1942) (by decide +kernel)⟩
theorem lk_L_351 : LK RL 351 M_X12_canGraduate 1 := ⟨rfl, List.mem_of_getElem? (i := 1944) (by decide +kernel), List.mem_of_getElem? (i := 1947) (by decide +kernel), List.mem_of_getElem? (i := 106) (by decide +kernel), by decide, by decide +kernel, by decide +kernel, by decide +kernel⟩
theorem lkv_L_351 : LKv RL 351 M_X12_canGraduate 1 := ⟨lk_L_351, List.mem_of_getElem? (i := 1945) (by decide +kernel), List.mem_of_getElem? (i := 1946) (by decide +kernel)⟩
theorem lk_L_356 : LK RL 356 M_X12_isSound 0 := ⟨rfl, List.mem_of_getElem? (i := 1948) (by decide +kernel), List.mem_of_getElem? (i := 1951) (by decide +kernel), List.mem_of_getElem? (i := 106) (by decide +kernel), by decide, by decide +kernel, by decide +kernel, by decide +kernel⟩
theorem lkv_L_356 : LKv RL 356 M_X12_isSound 0 := ⟨lk_L_356, List.mem_of_getElem? (i := 1949) (by decide +kernel), List.mem_of_getElem? (i := 1950) (by decide +kernel)⟩
theorem lk_X12_306 : LK RX12 306 M_X12_isSoundFor 1 := ⟨rfl, List.mem_of_getElem? (i := 1952) (by decide +kernel), List.mem_of_getElem? (i := 1955) (by decide +kernel), List.mem_of_getElem? (i := 106) (by decide +kernel), by decide, by decide +kernel, by decide +kernel, by decide +kernel⟩
theorem lkv_X12_306 : LKv RX12 306 M_X12_isSoundFor 1 := ⟨lk_X12_306, List.mem_of_getElem? (i := 1954) (by decide +kernel), List.mem_of_getElem? (i := 96) (by decide +kernel)⟩
theorem at_X11_63_67 : (∀ w ∈ vx_atS RX11 67 "java/lang/IllegalArgumentException" ["java/lang/RuntimeException", "java/lang/Exception"], w ∈ lw_tbl ∧ pw w = true) ∧ (∀ w ∈ Cond.classLink RX11 63 "java/lang/IllegalArgumentException" :: Cond.initialized "java/lang/IllegalArgumentException" :: vx_atS RX11 67 "java/lang/IllegalArgumentException" ["java/lang/RuntimeException", "java/lang/Exception"], vx_ot w = true) := ⟨by decide +kernel, by decide +kernel⟩
theorem th_X11_63_65_67 : TH RX11 63 65 67 "java/lang/IllegalArgumentException" "credits or seats are out of range" ["java/lang/RuntimeException", "java/lang/Exception"] := ⟨by decide +kernel, by decide +kernel, List.mem_of_getElem? (i := 502) (by decide +kernel), List.mem_of_getElem? (i := 110) (by decide +kernel), by decide +kernel, at_X11_63_67.1, at_X11_63_67.2⟩
theorem at_X11_74_78 : (∀ w ∈ vx_atS RX11 78 "java/lang/IllegalStateException" ["java/lang/RuntimeException", "java/lang/Exception"], w ∈ lw_tbl ∧ pw w = true) ∧ (∀ w ∈ Cond.classLink RX11 74 "java/lang/IllegalStateException" :: Cond.initialized "java/lang/IllegalStateException" :: vx_atS RX11 78 "java/lang/IllegalStateException" ["java/lang/RuntimeException", "java/lang/Exception"], vx_ot w = true) := ⟨by decide +kernel, by decide +kernel⟩
theorem th_X11_74_76_78 : TH RX11 74 76 78 "java/lang/IllegalStateException" "there are as many courses as there can be" ["java/lang/RuntimeException", "java/lang/Exception"] := ⟨by decide +kernel, by decide +kernel, List.mem_of_getElem? (i := 574) (by decide +kernel), List.mem_of_getElem? (i := 111) (by decide +kernel), by decide +kernel, at_X11_74_78.1, at_X11_74_78.2⟩
theorem th_X11_74_91_78 : TH RX11 74 91 78 "java/lang/IllegalStateException" "there are as many students as there can be" ["java/lang/RuntimeException", "java/lang/Exception"] := ⟨by decide +kernel, by decide +kernel, List.mem_of_getElem? (i := 574) (by decide +kernel), List.mem_of_getElem? (i := 111) (by decide +kernel), by decide +kernel, at_X11_74_78.1, at_X11_74_78.2⟩
theorem th_X11_63_108_67 : TH RX11 63 108 67 "java/lang/IllegalArgumentException" "there is no such number of seats" ["java/lang/RuntimeException", "java/lang/Exception"] := ⟨by decide +kernel, by decide +kernel, List.mem_of_getElem? (i := 502) (by decide +kernel), List.mem_of_getElem? (i := 110) (by decide +kernel), by decide +kernel, at_X11_63_67.1, at_X11_63_67.2⟩
theorem th_X11_74_119_78 : TH RX11 74 119 78 "java/lang/IllegalStateException" "the course has too few seats" ["java/lang/RuntimeException", "java/lang/Exception"] := ⟨by decide +kernel, by decide +kernel, List.mem_of_getElem? (i := 574) (by decide +kernel), List.mem_of_getElem? (i := 111) (by decide +kernel), by decide +kernel, at_X11_74_78.1, at_X11_74_78.2⟩
theorem th_X11_63_139_67 : TH RX11 63 139 67 "java/lang/IllegalArgumentException" "the credits are out of range" ["java/lang/RuntimeException", "java/lang/Exception"] := ⟨by decide +kernel, by decide +kernel, List.mem_of_getElem? (i := 502) (by decide +kernel), List.mem_of_getElem? (i := 110) (by decide +kernel), by decide +kernel, at_X11_63_67.1, at_X11_63_67.2⟩
theorem th_X11_63_178_67 : TH RX11 63 178 67 "java/lang/IllegalArgumentException" "at least one day must pass" ["java/lang/RuntimeException", "java/lang/Exception"] := ⟨by decide +kernel, by decide +kernel, List.mem_of_getElem? (i := 502) (by decide +kernel), List.mem_of_getElem? (i := 110) (by decide +kernel), by decide +kernel, at_X11_63_67.1, at_X11_63_67.2⟩
theorem th_X11_74_183_78 : TH RX11 74 183 78 "java/lang/IllegalStateException" "the term has too few days" ["java/lang/RuntimeException", "java/lang/Exception"] := ⟨by decide +kernel, by decide +kernel, List.mem_of_getElem? (i := 574) (by decide +kernel), List.mem_of_getElem? (i := 111) (by decide +kernel), by decide +kernel, at_X11_74_78.1, at_X11_74_78.2⟩
theorem th_X11_74_195_78 : TH RX11 74 195 78 "java/lang/IllegalStateException" "the days of enrollment are over" ["java/lang/RuntimeException", "java/lang/Exception"] := ⟨by decide +kernel, by decide +kernel, List.mem_of_getElem? (i := 574) (by decide +kernel), List.mem_of_getElem? (i := 111) (by decide +kernel), by decide +kernel, at_X11_74_78.1, at_X11_74_78.2⟩
theorem th_X11_63_197_67 : TH RX11 63 197 67 "java/lang/IllegalArgumentException" "the student is enrolled or waiting" ["java/lang/RuntimeException", "java/lang/Exception"] := ⟨by decide +kernel, by decide +kernel, List.mem_of_getElem? (i := 502) (by decide +kernel), List.mem_of_getElem? (i := 110) (by decide +kernel), by decide +kernel, at_X11_63_67.1, at_X11_63_67.2⟩
theorem at_X11_199_203 : (∀ w ∈ vx_atS RX11 203 "java/lang/UnsupportedOperationException" ["java/lang/RuntimeException", "java/lang/Exception"], w ∈ lw_tbl ∧ pw w = true) ∧ (∀ w ∈ Cond.classLink RX11 199 "java/lang/UnsupportedOperationException" :: Cond.initialized "java/lang/UnsupportedOperationException" :: vx_atS RX11 203 "java/lang/UnsupportedOperationException" ["java/lang/RuntimeException", "java/lang/Exception"], vx_ot w = true) := ⟨by decide +kernel, by decide +kernel⟩
theorem th_X11_199_201_203 : TH RX11 199 201 203 "java/lang/UnsupportedOperationException" "the requisite or the attempts forbid it" ["java/lang/RuntimeException", "java/lang/Exception"] := ⟨by decide +kernel, by decide +kernel, List.mem_of_getElem? (i := 1016) (by decide +kernel), List.mem_of_getElem? (i := 129) (by decide +kernel), by decide +kernel, at_X11_199_203.1, at_X11_199_203.2⟩
theorem at_X11_204_208 : (∀ w ∈ vx_atS RX11 208 "java/lang/ArithmeticException" ["java/lang/RuntimeException", "java/lang/Exception"], w ∈ lw_tbl ∧ pw w = true) ∧ (∀ w ∈ Cond.classLink RX11 204 "java/lang/ArithmeticException" :: Cond.initialized "java/lang/ArithmeticException" :: vx_atS RX11 208 "java/lang/ArithmeticException" ["java/lang/RuntimeException", "java/lang/Exception"], vx_ot w = true) := ⟨by decide +kernel, by decide +kernel⟩
theorem th_X11_204_206_208 : TH RX11 204 206 208 "java/lang/ArithmeticException" "the load would be too great" ["java/lang/RuntimeException", "java/lang/Exception"] := ⟨by decide +kernel, by decide +kernel, List.mem_of_getElem? (i := 1032) (by decide +kernel), List.mem_of_getElem? (i := 128) (by decide +kernel), by decide +kernel, at_X11_204_208.1, at_X11_204_208.2⟩
theorem th_X11_74_226_78 : TH RX11 74 226 78 "java/lang/IllegalStateException" "the days of drops are over" ["java/lang/RuntimeException", "java/lang/Exception"] := ⟨by decide +kernel, by decide +kernel, List.mem_of_getElem? (i := 574) (by decide +kernel), List.mem_of_getElem? (i := 111) (by decide +kernel), by decide +kernel, at_X11_74_78.1, at_X11_74_78.2⟩
theorem th_X11_63_242_67 : TH RX11 63 242 67 "java/lang/IllegalArgumentException" "the student is enrolled in the other course" ["java/lang/RuntimeException", "java/lang/Exception"] := ⟨by decide +kernel, by decide +kernel, List.mem_of_getElem? (i := 502) (by decide +kernel), List.mem_of_getElem? (i := 110) (by decide +kernel), by decide +kernel, at_X11_63_67.1, at_X11_63_67.2⟩
theorem th_X11_199_264_203 : TH RX11 199 264 203 "java/lang/UnsupportedOperationException" "the requisite, the attempts or the seats forbid it" ["java/lang/RuntimeException", "java/lang/Exception"] := ⟨by decide +kernel, by decide +kernel, List.mem_of_getElem? (i := 1016) (by decide +kernel), List.mem_of_getElem? (i := 129) (by decide +kernel), by decide +kernel, at_X11_199_203.1, at_X11_199_203.2⟩
theorem th_X11_74_271_78 : TH RX11 74 271 78 "java/lang/IllegalStateException" "the days of marks have not come" ["java/lang/RuntimeException", "java/lang/Exception"] := ⟨by decide +kernel, by decide +kernel, List.mem_of_getElem? (i := 574) (by decide +kernel), List.mem_of_getElem? (i := 111) (by decide +kernel), by decide +kernel, at_X11_74_78.1, at_X11_74_78.2⟩
theorem th_X11_63_287_67 : TH RX11 63 287 67 "java/lang/IllegalArgumentException" "the student has passed the course" ["java/lang/RuntimeException", "java/lang/Exception"] := ⟨by decide +kernel, by decide +kernel, List.mem_of_getElem? (i := 502) (by decide +kernel), List.mem_of_getElem? (i := 110) (by decide +kernel), by decide +kernel, at_X11_63_67.1, at_X11_63_67.2⟩
theorem th_X11_204_295_208 : TH RX11 204 295 208 "java/lang/ArithmeticException" "too many credits would be moved in" ["java/lang/RuntimeException", "java/lang/Exception"] := ⟨by decide +kernel, by decide +kernel, List.mem_of_getElem? (i := 1032) (by decide +kernel), List.mem_of_getElem? (i := 128) (by decide +kernel), by decide +kernel, at_X11_204_208.1, at_X11_204_208.2⟩
theorem th_X11_204_312_208 : TH RX11 204 312 208 "java/lang/ArithmeticException" "there is no attempt that is a mark" ["java/lang/RuntimeException", "java/lang/Exception"] := ⟨by decide +kernel, by decide +kernel, List.mem_of_getElem? (i := 1032) (by decide +kernel), List.mem_of_getElem? (i := 128) (by decide +kernel), by decide +kernel, at_X11_204_208.1, at_X11_204_208.2⟩
theorem at_X11_337_341 : (∀ w ∈ vx_atS RX11 341 "java/lang/IndexOutOfBoundsException" ["java/lang/RuntimeException", "java/lang/Exception"], w ∈ lw_tbl ∧ pw w = true) ∧ (∀ w ∈ Cond.classLink RX11 337 "java/lang/IndexOutOfBoundsException" :: Cond.initialized "java/lang/IndexOutOfBoundsException" :: vx_atS RX11 341 "java/lang/IndexOutOfBoundsException" ["java/lang/RuntimeException", "java/lang/Exception"], vx_ot w = true) := ⟨by decide +kernel, by decide +kernel⟩
theorem th_X11_337_339_341 : TH RX11 337 339 341 "java/lang/IndexOutOfBoundsException" "there is no such character" ["java/lang/RuntimeException", "java/lang/Exception"] := ⟨by decide +kernel, by decide +kernel, List.mem_of_getElem? (i := 732) (by decide +kernel), List.mem_of_getElem? (i := 116) (by decide +kernel), by decide +kernel, at_X11_337_341.1, at_X11_337_341.2⟩
theorem th_X11_63_346_67 : TH RX11 63 346 67 "java/lang/IllegalArgumentException" "the need is out of range" ["java/lang/RuntimeException", "java/lang/Exception"] := ⟨by decide +kernel, by decide +kernel, List.mem_of_getElem? (i := 502) (by decide +kernel), List.mem_of_getElem? (i := 110) (by decide +kernel), by decide +kernel, at_X11_63_67.1, at_X11_63_67.2⟩
theorem th_X11_74_351_78 : TH RX11 74 351 78 "java/lang/IllegalStateException" "the major has as many rules as it can have" ["java/lang/RuntimeException", "java/lang/Exception"] := ⟨by decide +kernel, by decide +kernel, List.mem_of_getElem? (i := 574) (by decide +kernel), List.mem_of_getElem? (i := 111) (by decide +kernel), by decide +kernel, at_X11_74_78.1, at_X11_74_78.2⟩
theorem th_X11_63_395_67 : TH RX11 63 395 67 "java/lang/IllegalArgumentException" "the major is out of range" ["java/lang/RuntimeException", "java/lang/Exception"] := ⟨by decide +kernel, by decide +kernel, List.mem_of_getElem? (i := 502) (by decide +kernel), List.mem_of_getElem? (i := 110) (by decide +kernel), by decide +kernel, at_X11_63_67.1, at_X11_63_67.2⟩
theorem th_X11_63_397_67 : TH RX11 63 397 67 "java/lang/IllegalArgumentException" "the mark is out of range" ["java/lang/RuntimeException", "java/lang/Exception"] := ⟨by decide +kernel, by decide +kernel, List.mem_of_getElem? (i := 502) (by decide +kernel), List.mem_of_getElem? (i := 110) (by decide +kernel), by decide +kernel, at_X11_63_67.1, at_X11_63_67.2⟩
theorem th_X11_337_399_341 : TH RX11 337 399 341 "java/lang/IndexOutOfBoundsException" "there is no such student" ["java/lang/RuntimeException", "java/lang/Exception"] := ⟨by decide +kernel, by decide +kernel, List.mem_of_getElem? (i := 732) (by decide +kernel), List.mem_of_getElem? (i := 116) (by decide +kernel), by decide +kernel, at_X11_337_341.1, at_X11_337_341.2⟩
theorem th_X11_337_401_341 : TH RX11 337 401 341 "java/lang/IndexOutOfBoundsException" "there is no such course" ["java/lang/RuntimeException", "java/lang/Exception"] := ⟨by decide +kernel, by decide +kernel, List.mem_of_getElem? (i := 732) (by decide +kernel), List.mem_of_getElem? (i := 116) (by decide +kernel), by decide +kernel, at_X11_337_341.1, at_X11_337_341.2⟩
theorem th_X11_74_408_78 : TH RX11 74 408 78 "java/lang/IllegalStateException" "there are too many formulas, or this one is too deep" ["java/lang/RuntimeException", "java/lang/Exception"] := ⟨by decide +kernel, by decide +kernel, List.mem_of_getElem? (i := 574) (by decide +kernel), List.mem_of_getElem? (i := 111) (by decide +kernel), by decide +kernel, at_X11_74_78.1, at_X11_74_78.2⟩
theorem th_X11_74_416_78 : TH RX11 74 416 78 "java/lang/IllegalStateException" "the requisite holds" ["java/lang/RuntimeException", "java/lang/Exception"] := ⟨by decide +kernel, by decide +kernel, List.mem_of_getElem? (i := 574) (by decide +kernel), List.mem_of_getElem? (i := 111) (by decide +kernel), by decide +kernel, at_X11_74_78.1, at_X11_74_78.2⟩
