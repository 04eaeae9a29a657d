abbrev M_J15_checkIndex_7cf53 : Mt := (yJ15_checkIndex_7cf53, cJ15_checkIndex_7cf53, 2, (Option.some Jvm.ClassFile.FieldType.int), [])
abbrev M_J3_checkIndex_8e157 : Mt := (yJ3_checkIndex_8e157, cJ3_checkIndex_8e157, 3, (Option.some Jvm.ClassFile.FieldType.int), [])
abbrev M_J7_copyOf_1904c : Mt := (yJ7_copyOf_1904c, cJ7_copyOf_1904c, 2, (Option.some (Jvm.ClassFile.FieldType.array (Jvm.ClassFile.FieldType.object "java/lang/Object"))), [])
abbrev M_J7_copyOf_6403c : Mt := (yJ7_copyOf_6403c, cJ7_copyOf_6403c, 4, (Option.some (Jvm.ClassFile.FieldType.array (Jvm.ClassFile.FieldType.object "java/lang/Object"))), [])
abbrev M_J7_fill_53178 : Mt := (yJ7_fill_53178, cJ7_fill_53178, 4, (Option.none : Option Jvm.ClassFile.FieldType), [])
abbrev M_J8_hugeLength_7cf53 : Mt := (yJ8_hugeLength_7cf53, cJ8_hugeLength_7cf53, 3, (Option.some Jvm.ClassFile.FieldType.int), [])
abbrev M_J8_newLength_cabcc : Mt := (yJ8_newLength_cabcc, cJ8_newLength_cabcc, 4, (Option.some Jvm.ClassFile.FieldType.int), [])
abbrev M_J9_max_7cf53 : Mt := (yJ9_max_7cf53, cJ9_max_7cf53, 2, (Option.some Jvm.ClassFile.FieldType.int), [])
abbrev M_J9_min_7cf53 : Mt := (yJ9_min_7cf53, cJ9_min_7cf53, 2, (Option.some Jvm.ClassFile.FieldType.int), [])
abbrev M_Jx00060_init_a7421 : Mt := (yJx00060_init_a7421, cJx00060_init_a7421, 2, (Option.none : Option Jvm.ClassFile.FieldType), [])
abbrev M_Jx4a65c_add_72be8 : Mt := (yJx4a65c_add_72be8, cJx4a65c_add_72be8, 4, (Option.none : Option Jvm.ClassFile.FieldType), [])
abbrev M_Jx4a65c_add_9ea2d : Mt := (yJx4a65c_add_9ea2d, cJx4a65c_add_9ea2d, 2, (Option.some Jvm.ClassFile.FieldType.boolean), [])
abbrev M_Jx4a65c_clear_da8c8 : Mt := (yJx4a65c_clear_da8c8, cJx4a65c_clear_da8c8, 4, (Option.none : Option Jvm.ClassFile.FieldType), [])
abbrev M_Jx4a65c_elementData_915e3 : Mt := (yJx4a65c_elementData_915e3, cJx4a65c_elementData_915e3, 2, (Option.some (Jvm.ClassFile.FieldType.object "java/lang/Object")), [])
abbrev M_Jx4a65c_fastRemove_b59b0 : Mt := (yJx4a65c_fastRemove_b59b0, cJx4a65c_fastRemove_b59b0, 4, (Option.none : Option Jvm.ClassFile.FieldType), [])
abbrev M_Jx4a65c_get_915e3 : Mt := (yJx4a65c_get_915e3, cJx4a65c_get_915e3, 2, (Option.some (Jvm.ClassFile.FieldType.object "java/lang/Object")), [])
abbrev M_Jx4a65c_grow_92f84 : Mt := (yJx4a65c_grow_92f84, cJx4a65c_grow_92f84, 4, (Option.some (Jvm.ClassFile.FieldType.array (Jvm.ClassFile.FieldType.object "java/lang/Object"))), [])
abbrev M_Jx4a65c_grow_d5877 : Mt := (yJx4a65c_grow_d5877, cJx4a65c_grow_d5877, 1, (Option.some (Jvm.ClassFile.FieldType.array (Jvm.ClassFile.FieldType.object "java/lang/Object"))), [])
abbrev M_Jx4a65c_init_da8c8 : Mt := (yJx4a65c_init_da8c8, cJx4a65c_init_da8c8, 1, (Option.none : Option Jvm.ClassFile.FieldType), [])
abbrev M_Jx4a65c_remove_915e3 : Mt := (yJx4a65c_remove_915e3, cJx4a65c_remove_915e3, 4, (Option.some (Jvm.ClassFile.FieldType.object "java/lang/Object")), [])
abbrev M_Jx4a65c_size_8abf5 : Mt := (yJx4a65c_size_8abf5, cJx4a65c_size_8abf5, 1, (Option.some Jvm.ClassFile.FieldType.int), [])
abbrev M_Jxa1e45_init_da8c8 : Mt := (yJxa1e45_init_da8c8, cJxa1e45_init_da8c8, 1, (Option.none : Option Jvm.ClassFile.FieldType), [])
abbrev M_Jxc12de_init_da8c8 : Mt := (yJxc12de_init_da8c8, cJxc12de_init_da8c8, 1, (Option.none : Option Jvm.ClassFile.FieldType), [])
abbrev M_L_adds : Mt := (yL_adds, cL_adds, 3, (Option.some Jvm.ClassFile.FieldType.int), [])
abbrev M_L_agrees : Mt := (yL_agrees, cL_agrees, 8, (Option.some Jvm.ClassFile.FieldType.boolean), [])
abbrev M_L_best : Mt := (yL_best, cL_best, 4, (Option.some Jvm.ClassFile.FieldType.int), [(0, 6, 7, 15)])
abbrev M_L_cell : Mt := (yL_cell, cL_cell, 2, (Option.some Jvm.ClassFile.FieldType.int), [])
abbrev M_L_changes : Mt := (yL_changes, cL_changes, 8, (Option.some Jvm.ClassFile.FieldType.boolean), [])
abbrev M_L_drops : Mt := (yL_drops, cL_drops, 10, (Option.some Jvm.ClassFile.FieldType.boolean), [])
abbrev M_L_ends : Mt := (yL_ends, cL_ends, 8, (Option.some Jvm.ClassFile.FieldType.boolean), [])
abbrev M_L_enroll : Mt := (yL_enroll, cL_enroll, 4, (Option.some Jvm.ClassFile.FieldType.char), [(0, 6, 7, 21), (0, 6, 11, 23), (0, 6, 15, 25), (0, 6, 19, 27), (0, 6, 23, 29), (0, 6, 27, 15)])
abbrev M_L_enrolls : Mt := (yL_enrolls, cL_enrolls, 6, (Option.some Jvm.ClassFile.FieldType.boolean), [])
abbrev M_L_low : Mt := (yL_low, cL_low, 2, (Option.some Jvm.ClassFile.FieldType.int), [])
abbrev M_L_moveIn : Mt := (yL_moveIn, cL_moveIn, 4, (Option.some Jvm.ClassFile.FieldType.int), [(0, 6, 7, 21), (0, 6, 10, 25), (0, 6, 14, 29)])
abbrev M_L_office : Mt := (yL_office, cL_office, 6, (Option.some (Jvm.ClassFile.FieldType.object "PrereqsLaw$Told")), [])
abbrev M_L_place : Mt := (yL_place, cL_place, 4, (Option.some Jvm.ClassFile.FieldType.int), [(0, 6, 7, 15)])
abbrev M_X0_countIn : Mt := (yX0_countIn, cX0_countIn, 2, (Option.some Jvm.ClassFile.FieldType.int), [])
abbrev M_X0_findSlotsFor : Mt := (yX0_findSlotsFor, cX0_findSlotsFor, 5, (Option.some Jvm.ClassFile.FieldType.int), [])
abbrev M_X0_give : Mt := (yX0_give, cX0_give, 6, (Option.some Jvm.ClassFile.FieldType.boolean), [])
abbrev M_X0_giveAll : Mt := (yX0_giveAll, cX0_giveAll, 1, (Option.some Jvm.ClassFile.FieldType.int), [])
abbrev M_X0_giveFrom : Mt := (yX0_giveFrom, cX0_giveFrom, 4, (Option.some Jvm.ClassFile.FieldType.int), [])
abbrev M_X0_handOn : Mt := (yX0_handOn, cX0_handOn, 6, (Option.none : Option Jvm.ClassFile.FieldType), [])
abbrev M_X0_init : Mt := (yX0_init, cX0_init, 1, (Option.none : Option Jvm.ClassFile.FieldType), [])
abbrev M_X0_isFit : Mt := (yX0_isFit, cX0_isFit, 3, (Option.some Jvm.ClassFile.FieldType.boolean), [])
abbrev M_X0_mostTried : Mt := (yX0_mostTried, cX0_mostTried, 5, (Option.some Jvm.ClassFile.FieldType.int), [])
abbrev M_X0_noteFits : Mt := (yX0_noteFits, cX0_noteFits, 6, (Option.none : Option Jvm.ClassFile.FieldType), [])
abbrev M_X0_open : Mt := (yX0_open, cX0_open, 6, (Option.none : Option Jvm.ClassFile.FieldType), [])
abbrev M_X0_ruleBits : Mt := (yX0_ruleBits, cX0_ruleBits, 4, (Option.some Jvm.ClassFile.FieldType.int), [])
abbrev M_X0_shortRules : Mt := (yX0_shortRules, cX0_shortRules, 4, (Option.some Jvm.ClassFile.FieldType.int), [])
abbrev M_X0_shortRulesByTrial : Mt := (yX0_shortRulesByTrial, cX0_shortRulesByTrial, 4, (Option.some Jvm.ClassFile.FieldType.int), [])
abbrev M_X0_sumOf : Mt := (yX0_sumOf, cX0_sumOf, 4, (Option.some Jvm.ClassFile.FieldType.int), [])
abbrev M_X0_trials : Mt := (yX0_trials, cX0_trials, 1, (Option.some Jvm.ClassFile.FieldType.int), [])
abbrev M_X0_tryAll : Mt := (yX0_tryAll, cX0_tryAll, 2, (Option.some Jvm.ClassFile.FieldType.int), [])
abbrev M_X0_tryCourse : Mt := (yX0_tryCourse, cX0_tryCourse, 4, (Option.none : Option Jvm.ClassFile.FieldType), [])
abbrev M_X10_init : Mt := (yX10_init, cX10_init, 1, (Option.none : Option Jvm.ClassFile.FieldType), [])
abbrev M_X11_addCourse : Mt := (yX11_addCourse, cX11_addCourse, 3, (Option.some Jvm.ClassFile.FieldType.int), [])
abbrev M_X11_addStudent : Mt := (yX11_addStudent, cX11_addStudent, 2, (Option.some Jvm.ClassFile.FieldType.int), [])
abbrev M_X11_allFormula : Mt := (yX11_allFormula, cX11_allFormula, 4, (Option.some Jvm.ClassFile.FieldType.int), [])
abbrev M_X11_anyFormula : Mt := (yX11_anyFormula, cX11_anyFormula, 4, (Option.some Jvm.ClassFile.FieldType.int), [])
abbrev M_X11_attempts : Mt := (yX11_attempts, cX11_attempts, 4, (Option.some Jvm.ClassFile.FieldType.int), [])
abbrev M_X11_auditsAgree : Mt := (yX11_auditsAgree, cX11_auditsAgree, 3, (Option.some Jvm.ClassFile.FieldType.boolean), [])
abbrev M_X11_bestMark : Mt := (yX11_bestMark, cX11_bestMark, 4, (Option.some Jvm.ClassFile.FieldType.int), [])
abbrev M_X11_canBear : Mt := (yX11_canBear, cX11_canBear, 3, (Option.some Jvm.ClassFile.FieldType.boolean), [])
abbrev M_X11_canTakeSeat : Mt := (yX11_canTakeSeat, cX11_canTakeSeat, 3, (Option.some Jvm.ClassFile.FieldType.boolean), [])
abbrev M_X11_changeMajor : Mt := (yX11_changeMajor, cX11_changeMajor, 5, (Option.some Jvm.ClassFile.FieldType.int), [])
abbrev M_X11_checkFormulaFits : Mt := (yX11_checkFormulaFits, cX11_checkFormulaFits, 2, (Option.none : Option Jvm.ClassFile.FieldType), [])
abbrev M_X11_checkMajor : Mt := (yX11_checkMajor, cX11_checkMajor, 1, (Option.none : Option Jvm.ClassFile.FieldType), [])
abbrev M_X11_checkMark : Mt := (yX11_checkMark, cX11_checkMark, 1, (Option.none : Option Jvm.ClassFile.FieldType), [])
abbrev M_X11_courseAt : Mt := (yX11_courseAt, cX11_courseAt, 2, (Option.some (Jvm.ClassFile.FieldType.object "Prereqs$Course")), [])
abbrev M_X11_creditsEarned : Mt := (yX11_creditsEarned, cX11_creditsEarned, 4, (Option.some Jvm.ClassFile.FieldType.int), [])
abbrev M_X11_creditsFormula : Mt := (yX11_creditsFormula, cX11_creditsFormula, 2, (Option.some Jvm.ClassFile.FieldType.int), [])
abbrev M_X11_creditsMovedIn : Mt := (yX11_creditsMovedIn, cX11_creditsMovedIn, 4, (Option.some Jvm.ClassFile.FieldType.int), [])
abbrev M_X11_day : Mt := (yX11_day, cX11_day, 1, (Option.some Jvm.ClassFile.FieldType.int), [])
abbrev M_X11_drop : Mt := (yX11_drop, cX11_drop, 6, (Option.some Jvm.ClassFile.FieldType.char), [])
abbrev M_X11_earnedCredits : Mt := (yX11_earnedCredits, cX11_earnedCredits, 2, (Option.some Jvm.ClassFile.FieldType.int), [])
abbrev M_X11_emptyWaitingLists : Mt := (yX11_emptyWaitingLists, cX11_emptyWaitingLists, 2, (Option.none : Option Jvm.ClassFile.FieldType), [])
abbrev M_X11_endTerm : Mt := (yX11_endTerm, cX11_endTerm, 3, (Option.some Jvm.ClassFile.FieldType.int), [])
abbrev M_X11_endWithOthers : Mt := (yX11_endWithOthers, cX11_endWithOthers, 5, (Option.none : Option Jvm.ClassFile.FieldType), [])
abbrev M_X11_enroll : Mt := (yX11_enroll, cX11_enroll, 6, (Option.some Jvm.ClassFile.FieldType.char), [])
abbrev M_X11_enrolled : Mt := (yX11_enrolled, cX11_enrolled, 2, (Option.some Jvm.ClassFile.FieldType.int), [])
abbrev M_X11_firstUnmet : Mt := (yX11_firstUnmet, cX11_firstUnmet, 5, (Option.some Jvm.ClassFile.FieldType.int), [])
abbrev M_X11_formulaAt : Mt := (yX11_formulaAt, cX11_formulaAt, 2, (Option.some (Jvm.ClassFile.FieldType.object "Prereqs$Formula")), [])
abbrev M_X11_freeFor : Mt := (yX11_freeFor, cX11_freeFor, 5, (Option.some Jvm.ClassFile.FieldType.int), [])
abbrev M_X11_freeSeats : Mt := (yX11_freeSeats, cX11_freeSeats, 4, (Option.some Jvm.ClassFile.FieldType.int), [])
abbrev M_X11_giveOutSeats : Mt := (yX11_giveOutSeats, cX11_giveOutSeats, 3, (Option.none : Option Jvm.ClassFile.FieldType), [])
abbrev M_X11_giveSeatIn : Mt := (yX11_giveSeatIn, cX11_giveSeatIn, 4, (Option.some Jvm.ClassFile.FieldType.boolean), [])
abbrev M_X11_holds : Mt := (yX11_holds, cX11_holds, 4, (Option.some Jvm.ClassFile.FieldType.boolean), [])
abbrev M_X11_init : Mt := (yX11_init, cX11_init, 1, (Option.none : Option Jvm.ClassFile.FieldType), [])
abbrev M_X11_isCourseSound : Mt := (yX11_isCourseSound, cX11_isCourseSound, 4, (Option.some Jvm.ClassFile.FieldType.boolean), [])
abbrev M_X11_isEnrolled : Mt := (yX11_isEnrolled, cX11_isEnrolled, 4, (Option.some Jvm.ClassFile.FieldType.boolean), [])
abbrev M_X11_isMet : Mt := (yX11_isMet, cX11_isMet, 3, (Option.some Jvm.ClassFile.FieldType.boolean), [])
abbrev M_X11_isSound : Mt := (yX11_isSound, cX11_isSound, 3, (Option.some Jvm.ClassFile.FieldType.boolean), [])
abbrev M_X11_isWithdrawalDay : Mt := (yX11_isWithdrawalDay, cX11_isWithdrawalDay, 1, (Option.some Jvm.ClassFile.FieldType.boolean), [])
abbrev M_X11_isWithin : Mt := (yX11_isWithin, cX11_isWithin, 3, (Option.some Jvm.ClassFile.FieldType.boolean), [])
abbrev M_X11_keep : Mt := (yX11_keep, cX11_keep, 2, (Option.some Jvm.ClassFile.FieldType.int), [])
abbrev M_X11_letterFor : Mt := (yX11_letterFor, cX11_letterFor, 3, (Option.some Jvm.ClassFile.FieldType.char), [])
abbrev M_X11_lift : Mt := (yX11_lift, cX11_lift, 4, (Option.some Jvm.ClassFile.FieldType.boolean), [])
abbrev M_X11_load : Mt := (yX11_load, cX11_load, 2, (Option.some Jvm.ClassFile.FieldType.int), [])
abbrev M_X11_loadOn : Mt := (yX11_loadOn, cX11_loadOn, 4, (Option.some Jvm.ClassFile.FieldType.int), [])
abbrev M_X11_mark : Mt := (yX11_mark, cX11_mark, 6, (Option.some Jvm.ClassFile.FieldType.boolean), [])
abbrev M_X11_markFormula : Mt := (yX11_markFormula, cX11_markFormula, 3, (Option.some Jvm.ClassFile.FieldType.int), [])
abbrev M_X11_moveIn : Mt := (yX11_moveIn, cX11_moveIn, 6, (Option.some Jvm.ClassFile.FieldType.int), [])
abbrev M_X11_noneFormula : Mt := (yX11_noneFormula, cX11_noneFormula, 3, (Option.some Jvm.ClassFile.FieldType.int), [])
abbrev M_X11_outcome : Mt := (yX11_outcome, cX11_outcome, 4, (Option.some Jvm.ClassFile.FieldType.char), [])
abbrev M_X11_pass : Mt := (yX11_pass, cX11_pass, 3, (Option.some Jvm.ClassFile.FieldType.int), [])
abbrev M_X11_placeOf : Mt := (yX11_placeOf, cX11_placeOf, 5, (Option.some Jvm.ClassFile.FieldType.int), [])
abbrev M_X11_require : Mt := (yX11_require, cX11_require, 5, (Option.some Jvm.ClassFile.FieldType.boolean), [])
abbrev M_X11_requisiteHolds : Mt := (yX11_requisiteHolds, cX11_requisiteHolds, 3, (Option.some Jvm.ClassFile.FieldType.boolean), [])
abbrev M_X11_reserve : Mt := (yX11_reserve, cX11_reserve, 6, (Option.some Jvm.ClassFile.FieldType.int), [])
abbrev M_X11_studentAt : Mt := (yX11_studentAt, cX11_studentAt, 2, (Option.some (Jvm.ClassFile.FieldType.object "Prereqs$Student")), [])
abbrev M_X11_takersOf : Mt := (yX11_takersOf, cX11_takersOf, 4, (Option.some Jvm.ClassFile.FieldType.int), [])
abbrev M_X11_takersOfMajor : Mt := (yX11_takersOfMajor, cX11_takersOfMajor, 6, (Option.some Jvm.ClassFile.FieldType.int), [])
abbrev M_X11_togetherFormula : Mt := (yX11_togetherFormula, cX11_togetherFormula, 2, (Option.some Jvm.ClassFile.FieldType.int), [])
abbrev M_X11_truthsFor : Mt := (yX11_truthsFor, cX11_truthsFor, 6, (Option.some Jvm.ClassFile.FieldType.long), [])
abbrev M_X11_twoFormula : Mt := (yX11_twoFormula, cX11_twoFormula, 6, (Option.some Jvm.ClassFile.FieldType.int), [])
abbrev M_X11_waiting : Mt := (yX11_waiting, cX11_waiting, 2, (Option.some Jvm.ClassFile.FieldType.int), [])
abbrev M_X12_earned : Mt := (yX12_earned, cX12_earned, 5, (Option.some Jvm.ClassFile.FieldType.int), [])
abbrev M_X12_free : Mt := (yX12_free, cX12_free, 6, (Option.some Jvm.ClassFile.FieldType.int), [])
abbrev M_X12_holds : Mt := (yX12_holds, cX12_holds, 5, (Option.some Jvm.ClassFile.FieldType.boolean), [])
abbrev M_X12_init : Mt := (yX12_init, cX12_init, 1, (Option.none : Option Jvm.ClassFile.FieldType), [])
abbrev M_X12_load : Mt := (yX12_load, cX12_load, 5, (Option.some Jvm.ClassFile.FieldType.int), [])
abbrev M_X12_may : Mt := (yX12_may, cX12_may, 4, (Option.some Jvm.ClassFile.FieldType.boolean), [])
abbrev M_X12_of : Mt := (yX12_of, cX12_of, 6, (Option.some Jvm.ClassFile.FieldType.int), [])
abbrev M_X12_would : Mt := (yX12_would, cX12_would, 4, (Option.some Jvm.ClassFile.FieldType.char), [])
abbrev M_X1_init : Mt := (yX1_init, cX1_init, 6, (Option.none : Option Jvm.ClassFile.FieldType), [])
abbrev M_X1_isTrue : Mt := (yX1_isTrue, cX1_isTrue, 6, (Option.some Jvm.ClassFile.FieldType.boolean), [])
abbrev M_X2_allReserved : Mt := (yX2_allReserved, cX2_allReserved, 3, (Option.some Jvm.ClassFile.FieldType.int), [])
abbrev M_X2_init : Mt := (yX2_init, cX2_init, 4, (Option.none : Option Jvm.ClassFile.FieldType), [])
abbrev M_X2_placeFor : Mt := (yX2_placeFor, cX2_placeFor, 3, (Option.some Jvm.ClassFile.FieldType.int), [])
abbrev M_X2_stopWaiting : Mt := (yX2_stopWaiting, cX2_stopWaiting, 3, (Option.none : Option Jvm.ClassFile.FieldType), [])
abbrev M_X3_init : Mt := (yX3_init, cX3_init, 2, (Option.none : Option Jvm.ClassFile.FieldType), [])
abbrev M_X3_isTrue : Mt := (yX3_isTrue, cX3_isTrue, 5, (Option.some Jvm.ClassFile.FieldType.boolean), [])
abbrev M_X4_init : Mt := (yX4_init, cX4_init, 2, (Option.none : Option Jvm.ClassFile.FieldType), [])
abbrev M_X5_init : Mt := (yX5_init, cX5_init, 3, (Option.none : Option Jvm.ClassFile.FieldType), [])
abbrev M_X5_isTrue : Mt := (yX5_isTrue, cX5_isTrue, 5, (Option.some Jvm.ClassFile.FieldType.boolean), [])
abbrev M_X6_init : Mt := (yX6_init, cX6_init, 3, (Option.none : Option Jvm.ClassFile.FieldType), [])
abbrev M_X6_isTrue : Mt := (yX6_isTrue, cX6_isTrue, 5, (Option.some Jvm.ClassFile.FieldType.boolean), [])
abbrev M_X8_addAttempt : Mt := (yX8_addAttempt, cX8_addAttempt, 4, (Option.none : Option Jvm.ClassFile.FieldType), [])
abbrev M_X8_closeTerm : Mt := (yX8_closeTerm, cX8_closeTerm, 3, (Option.some Jvm.ClassFile.FieldType.int), [])
abbrev M_X8_hasPassed : Mt := (yX8_hasPassed, cX8_hasPassed, 2, (Option.some Jvm.ClassFile.FieldType.boolean), [])
abbrev M_X8_init : Mt := (yX8_init, cX8_init, 2, (Option.none : Option Jvm.ClassFile.FieldType), [])
abbrev M_X8_moveCreditIn : Mt := (yX8_moveCreditIn, cX8_moveCreditIn, 2, (Option.none : Option Jvm.ClassFile.FieldType), [])
abbrev M_X9_init : Mt := (yX9_init, cX9_init, 2, (Option.none : Option Jvm.ClassFile.FieldType), [])
abbrev M_X9_isTrue : Mt := (yX9_isTrue, cX9_isTrue, 5, (Option.some Jvm.ClassFile.FieldType.boolean), [])
theorem uw_0 : ∀ w ∈ u_ws RJ0 TJ0 2, w ∈ lw_tbl ∧ pw w = true := by decide +kernel
theorem uw_1 : ∀ w ∈ u_ws RJx00060 TJx00060 6, w ∈ lw_tbl ∧ pw w = true := by decide +kernel
theorem uw_2 : ∀ w ∈ u_ws RJx4a65c TJx4a65c 3, w ∈ lw_tbl ∧ pw w = true := by decide +kernel
theorem uw_3 : ∀ w ∈ u_ws RX0 TX0 10, w ∈ lw_tbl ∧ pw w = true := by decide +kernel
theorem uw_4 : ∀ w ∈ u_ws RX1 TX1 5, w ∈ lw_tbl ∧ pw w = true := by decide +kernel
theorem uw_5 : ∀ w ∈ u_ws RX2 TX2 6, w ∈ lw_tbl ∧ pw w = true := by decide +kernel
theorem uw_6 : ∀ w ∈ u_ws RX3 TX3 2, w ∈ lw_tbl ∧ pw w = true := by decide +kernel
theorem uw_7 : ∀ w ∈ u_ws RX5 TX5 3, w ∈ lw_tbl ∧ pw w = true := by decide +kernel
theorem uw_8 : ∀ w ∈ u_ws RX6 TX6 2, w ∈ lw_tbl ∧ pw w = true := by decide +kernel
theorem uw_9 : ∀ w ∈ u_ws RJ0 TJ0 2, w ∈ lw_tbl ∧ pw w = true := by decide +kernel
theorem uw_10 : ∀ w ∈ u_ws RX8 TX8 7, w ∈ lw_tbl ∧ pw w = true := by decide +kernel
theorem uw_11 : ∀ w ∈ u_ws RX9 TX9 2, w ∈ lw_tbl ∧ pw w = true := by decide +kernel
theorem uw_12 : ∀ w ∈ u_ws RX10 TX10 2, w ∈ lw_tbl ∧ pw w = true := by decide +kernel
theorem uw_13 : ∀ w ∈ u_ws RX11 TX11 12, w ∈ lw_tbl ∧ pw w = true := by decide +kernel
theorem uw_14 : ∀ w ∈ u_ws RX12 TX12 9, w ∈ lw_tbl ∧ pw w = true := by decide +kernel
theorem fl_Jx4a65c_9_2 : FL RJx4a65c 9 2 1 := ⟨(RJx4a65c, TJx4a65c, 3), rfl, by decide, uw_2, List.mem_of_getElem? (i := 95) (by decide +kernel)⟩
theorem fl_Jx4a65c_48_2 : FL RJx4a65c 48 2 2 := ⟨(RJx4a65c, TJx4a65c, 3), rfl, by decide, uw_2, List.mem_of_getElem? (i := 96) (by decide +kernel)⟩
theorem fl_Jxc12de_7_2 : FL RJxc12de 7 2 0 := ⟨(RJx4a65c, TJx4a65c, 3), rfl, by decide, uw_2, List.mem_of_getElem? (i := 97) (by decide +kernel)⟩
theorem fl_X8_33_10 : FL RX8 33 10 0 := ⟨(RX8, TX8, 7), rfl, by decide, uw_10, List.mem_of_getElem? (i := 118) (by decide +kernel)⟩
theorem fl_X0_65_10 : FL RX0 65 10 0 := ⟨(RX8, TX8, 7), rfl, by decide, uw_10, List.mem_of_getElem? (i := 119) (by decide +kernel)⟩
theorem fl_X11_97_10 : FL RX11 97 10 0 := ⟨(RX8, TX8, 7), rfl, by decide, uw_10, List.mem_of_getElem? (i := 120) (by decide +kernel)⟩
theorem fl_X8_9_10 : FL RX8 9 10 1 := ⟨(RX8, TX8, 7), rfl, by decide, uw_10, List.mem_of_getElem? (i := 121) (by decide +kernel)⟩
theorem fl_X9_13_10 : FL RX9 13 10 1 := ⟨(RX8, TX8, 7), rfl, by decide, uw_10, List.mem_of_getElem? (i := 122) (by decide +kernel)⟩
theorem fl_X0_75_10 : FL RX0 75 10 1 := ⟨(RX8, TX8, 7), rfl, by decide, uw_10, List.mem_of_getElem? (i := 123) (by decide +kernel)⟩
theorem fl_X11_214_10 : FL RX11 214 10 1 := ⟨(RX8, TX8, 7), rfl, by decide, uw_10, List.mem_of_getElem? (i := 124) (by decide +kernel)⟩
theorem fl_X8_15_10 : FL RX8 15 10 2 := ⟨(RX8, TX8, 7), rfl, by decide, uw_10, List.mem_of_getElem? (i := 125) (by decide +kernel)⟩
theorem fl_X11_425_10 : FL RX11 425 10 2 := ⟨(RX8, TX8, 7), rfl, by decide, uw_10, List.mem_of_getElem? (i := 126) (by decide +kernel)⟩
theorem fl_X8_18_10 : FL RX8 18 10 3 := ⟨(RX8, TX8, 7), rfl, by decide, uw_10, List.mem_of_getElem? (i := 127) (by decide +kernel)⟩
theorem fl_X11_273_10 : FL RX11 273 10 3 := ⟨(RX8, TX8, 7), rfl, by decide, uw_10, List.mem_of_getElem? (i := 128) (by decide +kernel)⟩
theorem fl_X8_22_10 : FL RX8 22 10 4 := ⟨(RX8, TX8, 7), rfl, by decide, uw_10, List.mem_of_getElem? (i := 129) (by decide +kernel)⟩
theorem fl_X5_16_10 : FL RX5 16 10 4 := ⟨(RX8, TX8, 7), rfl, by decide, uw_10, List.mem_of_getElem? (i := 130) (by decide +kernel)⟩
theorem fl_X0_78_10 : FL RX0 78 10 4 := ⟨(RX8, TX8, 7), rfl, by decide, uw_10, List.mem_of_getElem? (i := 131) (by decide +kernel)⟩
theorem fl_X11_300_10 : FL RX11 300 10 4 := ⟨(RX8, TX8, 7), rfl, by decide, uw_10, List.mem_of_getElem? (i := 132) (by decide +kernel)⟩
theorem fl_X8_25_10 : FL RX8 25 10 5 := ⟨(RX8, TX8, 7), rfl, by decide, uw_10, List.mem_of_getElem? (i := 133) (by decide +kernel)⟩
theorem fl_X11_254_10 : FL RX11 254 10 5 := ⟨(RX8, TX8, 7), rfl, by decide, uw_10, List.mem_of_getElem? (i := 134) (by decide +kernel)⟩
theorem fl_X8_30_10 : FL RX8 30 10 6 := ⟨(RX8, TX8, 7), rfl, by decide, uw_10, List.mem_of_getElem? (i := 135) (by decide +kernel)⟩
theorem fl_X0_40_3 : FL RX0 40 3 0 := ⟨(RX0, TX0, 10), rfl, by decide, uw_3, List.mem_of_getElem? (i := 159) (by decide +kernel)⟩
theorem fl_X0_11_3 : FL RX0 11 3 1 := ⟨(RX0, TX0, 10), rfl, by decide, uw_3, List.mem_of_getElem? (i := 160) (by decide +kernel)⟩
theorem fl_X0_15_3 : FL RX0 15 3 2 := ⟨(RX0, TX0, 10), rfl, by decide, uw_3, List.mem_of_getElem? (i := 161) (by decide +kernel)⟩
theorem fl_X0_18_3 : FL RX0 18 3 3 := ⟨(RX0, TX0, 10), rfl, by decide, uw_3, List.mem_of_getElem? (i := 162) (by decide +kernel)⟩
theorem fl_X0_21_3 : FL RX0 21 3 4 := ⟨(RX0, TX0, 10), rfl, by decide, uw_3, List.mem_of_getElem? (i := 163) (by decide +kernel)⟩
theorem fl_X0_24_3 : FL RX0 24 3 5 := ⟨(RX0, TX0, 10), rfl, by decide, uw_3, List.mem_of_getElem? (i := 164) (by decide +kernel)⟩
theorem fl_X0_27_3 : FL RX0 27 3 6 := ⟨(RX0, TX0, 10), rfl, by decide, uw_3, List.mem_of_getElem? (i := 165) (by decide +kernel)⟩
theorem fl_X0_30_3 : FL RX0 30 3 7 := ⟨(RX0, TX0, 10), rfl, by decide, uw_3, List.mem_of_getElem? (i := 166) (by decide +kernel)⟩
theorem fl_X0_33_3 : FL RX0 33 3 8 := ⟨(RX0, TX0, 10), rfl, by decide, uw_3, List.mem_of_getElem? (i := 167) (by decide +kernel)⟩
theorem fl_X0_36_3 : FL RX0 36 3 9 := ⟨(RX0, TX0, 10), rfl, by decide, uw_3, List.mem_of_getElem? (i := 168) (by decide +kernel)⟩
theorem fl_X10_11_12 : FL RX10 11 12 0 := ⟨(RX10, TX10, 2), rfl, by decide, uw_12, List.mem_of_getElem? (i := 196) (by decide +kernel)⟩
theorem fl_X11_12_13 : FL RX11 12 13 0 := ⟨(RX11, TX11, 12), rfl, by decide, uw_13, List.mem_of_getElem? (i := 203) (by decide +kernel)⟩
theorem fl_X11_16_13 : FL RX11 16 13 1 := ⟨(RX11, TX11, 12), rfl, by decide, uw_13, List.mem_of_getElem? (i := 204) (by decide +kernel)⟩
theorem fl_X11_19_13 : FL RX11 19 13 2 := ⟨(RX11, TX11, 12), rfl, by decide, uw_13, List.mem_of_getElem? (i := 205) (by decide +kernel)⟩
theorem fl_X11_22_13 : FL RX11 22 13 3 := ⟨(RX11, TX11, 12), rfl, by decide, uw_13, List.mem_of_getElem? (i := 206) (by decide +kernel)⟩
theorem fl_X11_25_13 : FL RX11 25 13 4 := ⟨(RX11, TX11, 12), rfl, by decide, uw_13, List.mem_of_getElem? (i := 207) (by decide +kernel)⟩
theorem fl_X11_180_13 : FL RX11 180 13 5 := ⟨(RX11, TX11, 12), rfl, by decide, uw_13, List.mem_of_getElem? (i := 208) (by decide +kernel)⟩
theorem fl_X11_188_13 : FL RX11 188 13 6 := ⟨(RX11, TX11, 12), rfl, by decide, uw_13, List.mem_of_getElem? (i := 209) (by decide +kernel)⟩
theorem fl_X11_34_13 : FL RX11 34 13 7 := ⟨(RX11, TX11, 12), rfl, by decide, uw_13, List.mem_of_getElem? (i := 210) (by decide +kernel)⟩
theorem fl_X11_41_13 : FL RX11 41 13 8 := ⟨(RX11, TX11, 12), rfl, by decide, uw_13, List.mem_of_getElem? (i := 211) (by decide +kernel)⟩
theorem fl_X11_48_13 : FL RX11 48 13 9 := ⟨(RX11, TX11, 12), rfl, by decide, uw_13, List.mem_of_getElem? (i := 212) (by decide +kernel)⟩
theorem fl_X11_52_13 : FL RX11 52 13 10 := ⟨(RX11, TX11, 12), rfl, by decide, uw_13, List.mem_of_getElem? (i := 213) (by decide +kernel)⟩
theorem fl_X11_56_13 : FL RX11 56 13 11 := ⟨(RX11, TX11, 12), rfl, by decide, uw_13, List.mem_of_getElem? (i := 214) (by decide +kernel)⟩
theorem fl_X12_9_14 : FL RX12 9 14 0 := ⟨(RX12, TX12, 9), rfl, by decide, uw_14, List.mem_of_getElem? (i := 431) (by decide +kernel)⟩
theorem fl_X12_13_14 : FL RX12 13 14 1 := ⟨(RX12, TX12, 9), rfl, by decide, uw_14, List.mem_of_getElem? (i := 433) (by decide +kernel)⟩
theorem fl_X12_16_14 : FL RX12 16 14 2 := ⟨(RX12, TX12, 9), rfl, by decide, uw_14, List.mem_of_getElem? (i := 435) (by decide +kernel)⟩
theorem fl_X12_19_14 : FL RX12 19 14 3 := ⟨(RX12, TX12, 9), rfl, by decide, uw_14, List.mem_of_getElem? (i := 437) (by decide +kernel)⟩
theorem fl_X12_22_14 : FL RX12 22 14 4 := ⟨(RX12, TX12, 9), rfl, by decide, uw_14, List.mem_of_getElem? (i := 439) (by decide +kernel)⟩
theorem fl_X12_25_14 : FL RX12 25 14 5 := ⟨(RX12, TX12, 9), rfl, by decide, uw_14, List.mem_of_getElem? (i := 441) (by decide +kernel)⟩
theorem fl_X12_28_14 : FL RX12 28 14 6 := ⟨(RX12, TX12, 9), rfl, by decide, uw_14, List.mem_of_getElem? (i := 443) (by decide +kernel)⟩
theorem fl_X12_31_14 : FL RX12 31 14 7 := ⟨(RX12, TX12, 9), rfl, by decide, uw_14, List.mem_of_getElem? (i := 445) (by decide +kernel)⟩
theorem fl_X12_34_14 : FL RX12 34 14 8 := ⟨(RX12, TX12, 9), rfl, by decide, uw_14, List.mem_of_getElem? (i := 447) (by decide +kernel)⟩
theorem fl_X2_26_5 : FL RX2 26 5 0 := ⟨(RX2, TX2, 6), rfl, by decide, uw_5, List.mem_of_getElem? (i := 570) (by decide +kernel)⟩
theorem fl_X11_428_5 : FL RX11 428 5 0 := ⟨(RX2, TX2, 6), rfl, by decide, uw_5, List.mem_of_getElem? (i := 571) (by decide +kernel)⟩
theorem fl_X2_29_5 : FL RX2 29 5 1 := ⟨(RX2, TX2, 6), rfl, by decide, uw_5, List.mem_of_getElem? (i := 572) (by decide +kernel)⟩
theorem fl_X11_292_5 : FL RX11 292 5 1 := ⟨(RX2, TX2, 6), rfl, by decide, uw_5, List.mem_of_getElem? (i := 573) (by decide +kernel)⟩
theorem fl_X2_32_5 : FL RX2 32 5 2 := ⟨(RX2, TX2, 6), rfl, by decide, uw_5, List.mem_of_getElem? (i := 574) (by decide +kernel)⟩
theorem fl_X11_113_5 : FL RX11 113 5 2 := ⟨(RX2, TX2, 6), rfl, by decide, uw_5, List.mem_of_getElem? (i := 575) (by decide +kernel)⟩
theorem fl_X2_9_5 : FL RX2 9 5 3 := ⟨(RX2, TX2, 6), rfl, by decide, uw_5, List.mem_of_getElem? (i := 576) (by decide +kernel)⟩
theorem fl_X11_110_5 : FL RX11 110 5 3 := ⟨(RX2, TX2, 6), rfl, by decide, uw_5, List.mem_of_getElem? (i := 577) (by decide +kernel)⟩
theorem fl_X2_18_5 : FL RX2 18 5 4 := ⟨(RX2, TX2, 6), rfl, by decide, uw_5, List.mem_of_getElem? (i := 578) (by decide +kernel)⟩
theorem fl_X11_217_5 : FL RX11 217 5 4 := ⟨(RX2, TX2, 6), rfl, by decide, uw_5, List.mem_of_getElem? (i := 579) (by decide +kernel)⟩
theorem fl_X2_22_5 : FL RX2 22 5 5 := ⟨(RX2, TX2, 6), rfl, by decide, uw_5, List.mem_of_getElem? (i := 580) (by decide +kernel)⟩
theorem fl_X11_175_5 : FL RX11 175 5 5 := ⟨(RX2, TX2, 6), rfl, by decide, uw_5, List.mem_of_getElem? (i := 581) (by decide +kernel)⟩
theorem fl_X5_7_7 : FL RX5 7 7 1 := ⟨(RX5, TX5, 3), rfl, by decide, uw_7, List.mem_of_getElem? (i := 712) (by decide +kernel)⟩
theorem fl_X5_13_7 : FL RX5 13 7 2 := ⟨(RX5, TX5, 3), rfl, by decide, uw_7, List.mem_of_getElem? (i := 713) (by decide +kernel)⟩
theorem fl_X4_9_4 : FL RX4 9 4 0 := ⟨(RX1, TX1, 5), rfl, by decide, uw_4, List.mem_of_getElem? (i := 714) (by decide +kernel)⟩
theorem fl_X4_9_6 : FL RX4 9 6 0 := ⟨(RX3, TX3, 2), rfl, by decide, uw_6, List.mem_of_getElem? (i := 714) (by decide +kernel)⟩
theorem fl_X4_9_7 : FL RX4 9 7 0 := ⟨(RX5, TX5, 3), rfl, by decide, uw_7, List.mem_of_getElem? (i := 714) (by decide +kernel)⟩
theorem fl_X4_9_8 : FL RX4 9 8 0 := ⟨(RX6, TX6, 2), rfl, by decide, uw_8, List.mem_of_getElem? (i := 714) (by decide +kernel)⟩
theorem fl_X4_9_11 : FL RX4 9 11 0 := ⟨(RX9, TX9, 2), rfl, by decide, uw_11, List.mem_of_getElem? (i := 714) (by decide +kernel)⟩
theorem fl_X11_148_4 : FL RX11 148 4 0 := ⟨(RX1, TX1, 5), rfl, by decide, uw_4, List.mem_of_getElem? (i := 715) (by decide +kernel)⟩
theorem fl_X11_148_6 : FL RX11 148 6 0 := ⟨(RX3, TX3, 2), rfl, by decide, uw_6, List.mem_of_getElem? (i := 715) (by decide +kernel)⟩
theorem fl_X11_148_7 : FL RX11 148 7 0 := ⟨(RX5, TX5, 3), rfl, by decide, uw_7, List.mem_of_getElem? (i := 715) (by decide +kernel)⟩
theorem fl_X11_148_8 : FL RX11 148 8 0 := ⟨(RX6, TX6, 2), rfl, by decide, uw_8, List.mem_of_getElem? (i := 715) (by decide +kernel)⟩
theorem fl_X11_148_11 : FL RX11 148 11 0 := ⟨(RX9, TX9, 2), rfl, by decide, uw_11, List.mem_of_getElem? (i := 715) (by decide +kernel)⟩
theorem fl_X9_7_11 : FL RX9 7 11 1 := ⟨(RX9, TX9, 2), rfl, by decide, uw_11, List.mem_of_getElem? (i := 737) (by decide +kernel)⟩
theorem fl_X3_7_6 : FL RX3 7 6 1 := ⟨(RX3, TX3, 2), rfl, by decide, uw_6, List.mem_of_getElem? (i := 753) (by decide +kernel)⟩
theorem fl_X1_9_4 : FL RX1 9 4 1 := ⟨(RX1, TX1, 5), rfl, by decide, uw_4, List.mem_of_getElem? (i := 788) (by decide +kernel)⟩
theorem fl_X1_15_4 : FL RX1 15 4 2 := ⟨(RX1, TX1, 5), rfl, by decide, uw_4, List.mem_of_getElem? (i := 789) (by decide +kernel)⟩
theorem fl_X1_18_4 : FL RX1 18 4 3 := ⟨(RX1, TX1, 5), rfl, by decide, uw_4, List.mem_of_getElem? (i := 790) (by decide +kernel)⟩
theorem fl_X1_21_4 : FL RX1 21 4 4 := ⟨(RX1, TX1, 5), rfl, by decide, uw_4, List.mem_of_getElem? (i := 791) (by decide +kernel)⟩
theorem fl_X6_7_8 : FL RX6 7 8 1 := ⟨(RX6, TX6, 2), rfl, by decide, uw_8, List.mem_of_getElem? (i := 820) (by decide +kernel)⟩
theorem fp_2_0 : FP 2 0 .int false := fun q hq => by obtain rfl := (Option.some.inj hq : ((RJx4a65c, TJx4a65c, 3) : vw_C) = q); exact ⟨⟨tyJx4a65c, tyJx4a65c_ok⟩, nmJx4a65c, by decide +kernel, by decide +kernel⟩
theorem fp_2_1 : FP 2 1 (.array (.object "java/lang/Object")) false := fun q hq => by obtain rfl := (Option.some.inj hq : ((RJx4a65c, TJx4a65c, 3) : vw_C) = q); exact ⟨⟨tyJx4a65c, tyJx4a65c_ok⟩, nmJx4a65c, by decide +kernel, by decide +kernel⟩
theorem fp_2_2 : FP 2 2 .int false := fun q hq => by obtain rfl := (Option.some.inj hq : ((RJx4a65c, TJx4a65c, 3) : vw_C) = q); exact ⟨⟨tyJx4a65c, tyJx4a65c_ok⟩, nmJx4a65c, by decide +kernel, by decide +kernel⟩
theorem fp_3_0 : FP 3 0 .int false := fun q hq => by obtain rfl := (Option.some.inj hq : ((RX0, TX0, 10) : vw_C) = q); exact ⟨⟨tyX0, tyX0_ok⟩, nmX0, by decide +kernel, by decide +kernel⟩
theorem fp_3_1 : FP 3 1 (.array .int) true := fun q hq => by obtain rfl := (Option.some.inj hq : ((RX0, TX0, 10) : vw_C) = q); exact ⟨⟨tyX0, tyX0_ok⟩, nmX0, by decide +kernel, by decide +kernel⟩
theorem fp_3_2 : FP 3 2 (.array .int) true := fun q hq => by obtain rfl := (Option.some.inj hq : ((RX0, TX0, 10) : vw_C) = q); exact ⟨⟨tyX0, tyX0_ok⟩, nmX0, by decide +kernel, by decide +kernel⟩
theorem fp_3_3 : FP 3 3 (.array .int) true := fun q hq => by obtain rfl := (Option.some.inj hq : ((RX0, TX0, 10) : vw_C) = q); exact ⟨⟨tyX0, tyX0_ok⟩, nmX0, by decide +kernel, by decide +kernel⟩
theorem fp_3_4 : FP 3 4 (.array .int) true := fun q hq => by obtain rfl := (Option.some.inj hq : ((RX0, TX0, 10) : vw_C) = q); exact ⟨⟨tyX0, tyX0_ok⟩, nmX0, by decide +kernel, by decide +kernel⟩
theorem fp_3_5 : FP 3 5 (.array .int) true := fun q hq => by obtain rfl := (Option.some.inj hq : ((RX0, TX0, 10) : vw_C) = q); exact ⟨⟨tyX0, tyX0_ok⟩, nmX0, by decide +kernel, by decide +kernel⟩
theorem fp_3_6 : FP 3 6 (.array .int) true := fun q hq => by obtain rfl := (Option.some.inj hq : ((RX0, TX0, 10) : vw_C) = q); exact ⟨⟨tyX0, tyX0_ok⟩, nmX0, by decide +kernel, by decide +kernel⟩
theorem fp_3_7 : FP 3 7 (.array .int) true := fun q hq => by obtain rfl := (Option.some.inj hq : ((RX0, TX0, 10) : vw_C) = q); exact ⟨⟨tyX0, tyX0_ok⟩, nmX0, by decide +kernel, by decide +kernel⟩
theorem fp_3_8 : FP 3 8 (.array .int) true := fun q hq => by obtain rfl := (Option.some.inj hq : ((RX0, TX0, 10) : vw_C) = q); exact ⟨⟨tyX0, tyX0_ok⟩, nmX0, by decide +kernel, by decide +kernel⟩
theorem fp_3_9 : FP 3 9 (.array .boolean) true := fun q hq => by obtain rfl := (Option.some.inj hq : ((RX0, TX0, 10) : vw_C) = q); exact ⟨⟨tyX0, tyX0_ok⟩, nmX0, by decide +kernel, by decide +kernel⟩
theorem fp_4_0 : FP 4 0 .int true := fun q hq => by obtain rfl := (Option.some.inj hq : ((RX1, TX1, 5) : vw_C) = q); exact ⟨⟨tyX1, tyX1_ok⟩, nmX1, by decide +kernel, by decide +kernel⟩
theorem fp_4_1 : FP 4 1 .int true := fun q hq => by obtain rfl := (Option.some.inj hq : ((RX1, TX1, 5) : vw_C) = q); exact ⟨⟨tyX1, tyX1_ok⟩, nmX1, by decide +kernel, by decide +kernel⟩
theorem fp_4_2 : FP 4 2 .int true := fun q hq => by obtain rfl := (Option.some.inj hq : ((RX1, TX1, 5) : vw_C) = q); exact ⟨⟨tyX1, tyX1_ok⟩, nmX1, by decide +kernel, by decide +kernel⟩
theorem fp_4_3 : FP 4 3 .int true := fun q hq => by obtain rfl := (Option.some.inj hq : ((RX1, TX1, 5) : vw_C) = q); exact ⟨⟨tyX1, tyX1_ok⟩, nmX1, by decide +kernel, by decide +kernel⟩
theorem fp_4_4 : FP 4 4 .int true := fun q hq => by obtain rfl := (Option.some.inj hq : ((RX1, TX1, 5) : vw_C) = q); exact ⟨⟨tyX1, tyX1_ok⟩, nmX1, by decide +kernel, by decide +kernel⟩
theorem fp_5_0 : FP 5 0 .int true := fun q hq => by obtain rfl := (Option.some.inj hq : ((RX2, TX2, 6) : vw_C) = q); exact ⟨⟨tyX2, tyX2_ok⟩, nmX2, by decide +kernel, by decide +kernel⟩
theorem fp_5_1 : FP 5 1 .int true := fun q hq => by obtain rfl := (Option.some.inj hq : ((RX2, TX2, 6) : vw_C) = q); exact ⟨⟨tyX2, tyX2_ok⟩, nmX2, by decide +kernel, by decide +kernel⟩
theorem fp_5_2 : FP 5 2 .int true := fun q hq => by obtain rfl := (Option.some.inj hq : ((RX2, TX2, 6) : vw_C) = q); exact ⟨⟨tyX2, tyX2_ok⟩, nmX2, by decide +kernel, by decide +kernel⟩
theorem fp_5_3 : FP 5 3 (.array .int) true := fun q hq => by obtain rfl := (Option.some.inj hq : ((RX2, TX2, 6) : vw_C) = q); exact ⟨⟨tyX2, tyX2_ok⟩, nmX2, by decide +kernel, by decide +kernel⟩
theorem fp_5_4 : FP 5 4 (.object "java/util/ArrayList") true := fun q hq => by obtain rfl := (Option.some.inj hq : ((RX2, TX2, 6) : vw_C) = q); exact ⟨⟨tyX2, tyX2_ok⟩, nmX2, by decide +kernel, by decide +kernel⟩
theorem fp_5_5 : FP 5 5 .int false := fun q hq => by obtain rfl := (Option.some.inj hq : ((RX2, TX2, 6) : vw_C) = q); exact ⟨⟨tyX2, tyX2_ok⟩, nmX2, by decide +kernel, by decide +kernel⟩
theorem fp_6_0 : FP 6 0 .int true := fun q hq => by obtain rfl := (Option.some.inj hq : ((RX3, TX3, 2) : vw_C) = q); exact ⟨⟨tyX3, tyX3_ok⟩, nmX3, by decide +kernel, by decide +kernel⟩
theorem fp_6_1 : FP 6 1 .int true := fun q hq => by obtain rfl := (Option.some.inj hq : ((RX3, TX3, 2) : vw_C) = q); exact ⟨⟨tyX3, tyX3_ok⟩, nmX3, by decide +kernel, by decide +kernel⟩
theorem fp_7_0 : FP 7 0 .int true := fun q hq => by obtain rfl := (Option.some.inj hq : ((RX5, TX5, 3) : vw_C) = q); exact ⟨⟨tyX5, tyX5_ok⟩, nmX5, by decide +kernel, by decide +kernel⟩
theorem fp_7_1 : FP 7 1 .int true := fun q hq => by obtain rfl := (Option.some.inj hq : ((RX5, TX5, 3) : vw_C) = q); exact ⟨⟨tyX5, tyX5_ok⟩, nmX5, by decide +kernel, by decide +kernel⟩
theorem fp_7_2 : FP 7 2 .int true := fun q hq => by obtain rfl := (Option.some.inj hq : ((RX5, TX5, 3) : vw_C) = q); exact ⟨⟨tyX5, tyX5_ok⟩, nmX5, by decide +kernel, by decide +kernel⟩
theorem fp_8_0 : FP 8 0 .int true := fun q hq => by obtain rfl := (Option.some.inj hq : ((RX6, TX6, 2) : vw_C) = q); exact ⟨⟨tyX6, tyX6_ok⟩, nmX6, by decide +kernel, by decide +kernel⟩
theorem fp_8_1 : FP 8 1 .int true := fun q hq => by obtain rfl := (Option.some.inj hq : ((RX6, TX6, 2) : vw_C) = q); exact ⟨⟨tyX6, tyX6_ok⟩, nmX6, by decide +kernel, by decide +kernel⟩
theorem fp_10_0 : FP 10 0 .int false := fun q hq => by obtain rfl := (Option.some.inj hq : ((RX8, TX8, 7) : vw_C) = q); exact ⟨⟨tyX8, tyX8_ok⟩, nmX8, by decide +kernel, by decide +kernel⟩
theorem fp_10_1 : FP 10 1 (.array .boolean) true := fun q hq => by obtain rfl := (Option.some.inj hq : ((RX8, TX8, 7) : vw_C) = q); exact ⟨⟨tyX8, tyX8_ok⟩, nmX8, by decide +kernel, by decide +kernel⟩
theorem fp_10_2 : FP 10 2 (.array .boolean) true := fun q hq => by obtain rfl := (Option.some.inj hq : ((RX8, TX8, 7) : vw_C) = q); exact ⟨⟨tyX8, tyX8_ok⟩, nmX8, by decide +kernel, by decide +kernel⟩
theorem fp_10_3 : FP 10 3 (.array .int) true := fun q hq => by obtain rfl := (Option.some.inj hq : ((RX8, TX8, 7) : vw_C) = q); exact ⟨⟨tyX8, tyX8_ok⟩, nmX8, by decide +kernel, by decide +kernel⟩
theorem fp_10_4 : FP 10 4 (.array .int) true := fun q hq => by obtain rfl := (Option.some.inj hq : ((RX8, TX8, 7) : vw_C) = q); exact ⟨⟨tyX8, tyX8_ok⟩, nmX8, by decide +kernel, by decide +kernel⟩
theorem fp_10_5 : FP 10 5 (.array .int) true := fun q hq => by obtain rfl := (Option.some.inj hq : ((RX8, TX8, 7) : vw_C) = q); exact ⟨⟨tyX8, tyX8_ok⟩, nmX8, by decide +kernel, by decide +kernel⟩
theorem fp_10_6 : FP 10 6 (.array (.array .int)) true := fun q hq => by obtain rfl := (Option.some.inj hq : ((RX8, TX8, 7) : vw_C) = q); exact ⟨⟨tyX8, tyX8_ok⟩, nmX8, by decide +kernel, by decide +kernel⟩
theorem fp_11_0 : FP 11 0 .int true := fun q hq => by obtain rfl := (Option.some.inj hq : ((RX9, TX9, 2) : vw_C) = q); exact ⟨⟨tyX9, tyX9_ok⟩, nmX9, by decide +kernel, by decide +kernel⟩
theorem fp_11_1 : FP 11 1 .int true := fun q hq => by obtain rfl := (Option.some.inj hq : ((RX9, TX9, 2) : vw_C) = q); exact ⟨⟨tyX9, tyX9_ok⟩, nmX9, by decide +kernel, by decide +kernel⟩
theorem fp_12_0 : FP 12 0 (.array .char) true := fun q hq => by obtain rfl := (Option.some.inj hq : ((RX10, TX10, 2) : vw_C) = q); exact ⟨⟨tyX10, tyX10_ok⟩, nmX10, by decide +kernel, by decide +kernel⟩
theorem fp_12_1 : FP 12 1 .int false := fun q hq => by obtain rfl := (Option.some.inj hq : ((RX10, TX10, 2) : vw_C) = q); exact ⟨⟨tyX10, tyX10_ok⟩, nmX10, by decide +kernel, by decide +kernel⟩
theorem fp_13_0 : FP 13 0 (.object "java/util/ArrayList") true := fun q hq => by obtain rfl := (Option.some.inj hq : ((RX11, TX11, 12) : vw_C) = q); exact ⟨⟨tyX11, tyX11_ok⟩, nmX11, by decide +kernel, by decide +kernel⟩
theorem fp_13_1 : FP 13 1 (.object "java/util/ArrayList") true := fun q hq => by obtain rfl := (Option.some.inj hq : ((RX11, TX11, 12) : vw_C) = q); exact ⟨⟨tyX11, tyX11_ok⟩, nmX11, by decide +kernel, by decide +kernel⟩
theorem fp_13_2 : FP 13 2 (.object "java/util/ArrayList") true := fun q hq => by obtain rfl := (Option.some.inj hq : ((RX11, TX11, 12) : vw_C) = q); exact ⟨⟨tyX11, tyX11_ok⟩, nmX11, by decide +kernel, by decide +kernel⟩
theorem fp_13_3 : FP 13 3 (.object "java/util/ArrayList") true := fun q hq => by obtain rfl := (Option.some.inj hq : ((RX11, TX11, 12) : vw_C) = q); exact ⟨⟨tyX11, tyX11_ok⟩, nmX11, by decide +kernel, by decide +kernel⟩
theorem fp_13_4 : FP 13 4 (.array .int) true := fun q hq => by obtain rfl := (Option.some.inj hq : ((RX11, TX11, 12) : vw_C) = q); exact ⟨⟨tyX11, tyX11_ok⟩, nmX11, by decide +kernel, by decide +kernel⟩
theorem fp_13_5 : FP 13 5 .int false := fun q hq => by obtain rfl := (Option.some.inj hq : ((RX11, TX11, 12) : vw_C) = q); exact ⟨⟨tyX11, tyX11_ok⟩, nmX11, by decide +kernel, by decide +kernel⟩
theorem fp_13_6 : FP 13 6 .int false := fun q hq => by obtain rfl := (Option.some.inj hq : ((RX11, TX11, 12) : vw_C) = q); exact ⟨⟨tyX11, tyX11_ok⟩, nmX11, by decide +kernel, by decide +kernel⟩
theorem fp_13_7 : FP 13 7 (.object "Prereqs$Student") true := fun q hq => by obtain rfl := (Option.some.inj hq : ((RX11, TX11, 12) : vw_C) = q); exact ⟨⟨tyX11, tyX11_ok⟩, nmX11, by decide +kernel, by decide +kernel⟩
theorem fp_13_8 : FP 13 8 (.object "Prereqs$Audit") true := fun q hq => by obtain rfl := (Option.some.inj hq : ((RX11, TX11, 12) : vw_C) = q); exact ⟨⟨tyX11, tyX11_ok⟩, nmX11, by decide +kernel, by decide +kernel⟩
theorem fp_13_9 : FP 13 9 (.object "Prereqs$Transcript") true := fun q hq => by obtain rfl := (Option.some.inj hq : ((RX11, TX11, 12) : vw_C) = q); exact ⟨⟨tyX11, tyX11_ok⟩, nmX11, by decide +kernel, by decide +kernel⟩
theorem fp_13_10 : FP 13 10 (.array .boolean) true := fun q hq => by obtain rfl := (Option.some.inj hq : ((RX11, TX11, 12) : vw_C) = q); exact ⟨⟨tyX11, tyX11_ok⟩, nmX11, by decide +kernel, by decide +kernel⟩
theorem fp_13_11 : FP 13 11 (.array .int) true := fun q hq => by obtain rfl := (Option.some.inj hq : ((RX11, TX11, 12) : vw_C) = q); exact ⟨⟨tyX11, tyX11_ok⟩, nmX11, by decide +kernel, by decide +kernel⟩
theorem fp_14_0 : FP 14 0 (.array .int) true := fun q hq => by obtain rfl := (Option.some.inj hq : ((RX12, TX12, 9) : vw_C) = q); exact ⟨⟨tyX12, tyX12_ok⟩, nmX12, by decide +kernel, by decide +kernel⟩
theorem fp_14_1 : FP 14 1 (.array .int) true := fun q hq => by obtain rfl := (Option.some.inj hq : ((RX12, TX12, 9) : vw_C) = q); exact ⟨⟨tyX12, tyX12_ok⟩, nmX12, by decide +kernel, by decide +kernel⟩
theorem fp_14_2 : FP 14 2 (.array .int) true := fun q hq => by obtain rfl := (Option.some.inj hq : ((RX12, TX12, 9) : vw_C) = q); exact ⟨⟨tyX12, tyX12_ok⟩, nmX12, by decide +kernel, by decide +kernel⟩
theorem fp_14_3 : FP 14 3 (.array .int) true := fun q hq => by obtain rfl := (Option.some.inj hq : ((RX12, TX12, 9) : vw_C) = q); exact ⟨⟨tyX12, tyX12_ok⟩, nmX12, by decide +kernel, by decide +kernel⟩
theorem fp_14_4 : FP 14 4 (.array .int) true := fun q hq => by obtain rfl := (Option.some.inj hq : ((RX12, TX12, 9) : vw_C) = q); exact ⟨⟨tyX12, tyX12_ok⟩, nmX12, by decide +kernel, by decide +kernel⟩
theorem fp_14_5 : FP 14 5 (.array .int) true := fun q hq => by obtain rfl := (Option.some.inj hq : ((RX12, TX12, 9) : vw_C) = q); exact ⟨⟨tyX12, tyX12_ok⟩, nmX12, by decide +kernel, by decide +kernel⟩
theorem fp_14_6 : FP 14 6 (.array .int) true := fun q hq => by obtain rfl := (Option.some.inj hq : ((RX12, TX12, 9) : vw_C) = q); exact ⟨⟨tyX12, tyX12_ok⟩, nmX12, by decide +kernel, by decide +kernel⟩
theorem fp_14_7 : FP 14 7 (.array .int) true := fun q hq => by obtain rfl := (Option.some.inj hq : ((RX12, TX12, 9) : vw_C) = q); exact ⟨⟨tyX12, tyX12_ok⟩, nmX12, by decide +kernel, by decide +kernel⟩
theorem fp_14_8 : FP 14 8 (.array .int) true := fun q hq => by obtain rfl := (Option.some.inj hq : ((RX12, TX12, 9) : vw_C) = q); exact ⟨⟨tyX12, tyX12_ok⟩, nmX12, by decide +kernel, by decide +kernel⟩
theorem nw_X2_15 : NW RX2 15 2 [.int 0, .null, .int 0] := ⟨(RJx4a65c, TJx4a65c, 3), rfl, uw_2, ⟨tyJx4a65c, tyJx4a65c_ok, by decide +kernel⟩, rfl, List.mem_of_getElem? (i := 568) (by decide +kernel), List.mem_of_getElem? (i := 82) (by decide +kernel), List.mem_of_getElem? (i := 44) (by decide +kernel)⟩
theorem nw_X11_9 : NW RX11 9 2 [.int 0, .null, .int 0] := ⟨(RJx4a65c, TJx4a65c, 3), rfl, uw_2, ⟨tyJx4a65c, tyJx4a65c_ok, by decide +kernel⟩, rfl, List.mem_of_getElem? (i := 81) (by decide +kernel), List.mem_of_getElem? (i := 82) (by decide +kernel), List.mem_of_getElem? (i := 44) (by decide +kernel)⟩
theorem nw_X11_29 : NW RX11 29 10 [.int 0, .null, .null, .null, .null, .null, .null] := ⟨(RX8, TX8, 7), rfl, uw_10, ⟨tyX8, tyX8_ok, by decide +kernel⟩, rfl, List.mem_of_getElem? (i := 107) (by decide +kernel), List.mem_of_getElem? (i := 108) (by decide +kernel), List.mem_of_getElem? (i := 45) (by decide +kernel)⟩
theorem nw_X11_38 : NW RX11 38 3 [.int 0, .null, .null, .null, .null, .null, .null, .null, .null, .null] := ⟨(RX0, TX0, 10), rfl, uw_3, ⟨tyX0, tyX0_ok, by decide +kernel⟩, rfl, List.mem_of_getElem? (i := 153) (by decide +kernel), List.mem_of_getElem? (i := 154) (by decide +kernel), List.mem_of_getElem? (i := 47) (by decide +kernel)⟩
theorem nw_X11_45 : NW RX11 45 12 [.null, .int 0] := ⟨(RX10, TX10, 2), rfl, uw_12, ⟨tyX10, tyX10_ok, by decide +kernel⟩, rfl, List.mem_of_getElem? (i := 190) (by decide +kernel), List.mem_of_getElem? (i := 191) (by decide +kernel), List.mem_of_getElem? (i := 48) (by decide +kernel)⟩
theorem nw_X11_79 : NW RX11 79 5 [.int 0, .int 0, .int 0, .null, .null, .int 0] := ⟨(RX2, TX2, 6), rfl, uw_5, ⟨tyX2, tyX2_ok, by decide +kernel⟩, rfl, List.mem_of_getElem? (i := 262) (by decide +kernel), List.mem_of_getElem? (i := 563) (by decide +kernel), List.mem_of_getElem? (i := 55) (by decide +kernel)⟩
theorem nw_X11_127 : NW RX11 127 7 [.int 0, .int 0, .int 0] := ⟨(RX5, TX5, 3), rfl, uw_7, ⟨tyX5, tyX5_ok, by decide +kernel⟩, rfl, List.mem_of_getElem? (i := 703) (by decide +kernel), List.mem_of_getElem? (i := 704) (by decide +kernel), List.mem_of_getElem? (i := 63) (by decide +kernel)⟩
theorem nw_X11_136 : NW RX11 136 11 [.int 0, .int 0] := ⟨(RX9, TX9, 2), rfl, uw_11, ⟨tyX9, tyX9_ok, by decide +kernel⟩, rfl, List.mem_of_getElem? (i := 731) (by decide +kernel), List.mem_of_getElem? (i := 732) (by decide +kernel), List.mem_of_getElem? (i := 64) (by decide +kernel)⟩
theorem nw_X11_141 : NW RX11 141 6 [.int 0, .int 0] := ⟨(RX3, TX3, 2), rfl, uw_6, ⟨tyX3, tyX3_ok, by decide +kernel⟩, rfl, List.mem_of_getElem? (i := 747) (by decide +kernel), List.mem_of_getElem? (i := 748) (by decide +kernel), List.mem_of_getElem? (i := 65) (by decide +kernel)⟩
theorem nw_X11_159 : NW RX11 159 4 [.int 0, .int 0, .int 0, .int 0, .int 0] := ⟨(RX1, TX1, 5), rfl, uw_4, ⟨tyX1, tyX1_ok, by decide +kernel⟩, rfl, List.mem_of_getElem? (i := 782) (by decide +kernel), List.mem_of_getElem? (i := 783) (by decide +kernel), List.mem_of_getElem? (i := 67) (by decide +kernel)⟩
theorem nw_X11_164 : NW RX11 164 8 [.int 0, .int 0] := ⟨(RX6, TX6, 2), rfl, uw_8, ⟨tyX6, tyX6_ok, by decide +kernel⟩, rfl, List.mem_of_getElem? (i := 814) (by decide +kernel), List.mem_of_getElem? (i := 815) (by decide +kernel), List.mem_of_getElem? (i := 68) (by decide +kernel)⟩
theorem nw_L_37 : NW RL 37 14 [.null, .null, .null, .null, .null, .null, .null, .null, .null] := ⟨(RX12, TX12, 9), rfl, uw_14, ⟨tyX12, tyX12_ok, by decide +kernel⟩, rfl, List.mem_of_getElem? (i := 425) (by decide +kernel), List.mem_of_getElem? (i := 426) (by decide +kernel), List.mem_of_getElem? (i := 49) (by decide +kernel)⟩
theorem nw_L_10 : NW RL 10 13 [.null, .null, .null, .null, .null, .int 0, .int 0, .null, .null, .null, .null, .null] := ⟨(RX11, TX11, 12), rfl, uw_13, ⟨tyX11, tyX11_ok, by decide +kernel⟩, rfl, List.mem_of_getElem? (i := 73) (by decide +kernel), List.mem_of_getElem? (i := 74) (by decide +kernel), List.mem_of_getElem? (i := 41) (by decide +kernel)⟩
theorem lk_L_206 : LK RL 206 M_X11_init 0 := ⟨rfl, List.mem_of_getElem? (i := 75) (by decide +kernel), List.mem_of_getElem? (i := 77) (by decide +kernel), List.mem_of_getElem? (i := 41) (by decide +kernel), by decide, by decide +kernel, by decide +kernel, by decide +kernel⟩
theorem lki_L_206 : LKi RL 206 M_X11_init 0 := ⟨lk_L_206, List.mem_of_getElem? (i := 76) (by decide +kernel), rfl, rfl⟩
theorem lk_X11_11 : LK RX11 11 M_Jx4a65c_init_da8c8 0 := ⟨rfl, List.mem_of_getElem? (i := 83) (by decide +kernel), List.mem_of_getElem? (i := 85) (by decide +kernel), List.mem_of_getElem? (i := 44) (by decide +kernel), by decide, by decide +kernel, by decide +kernel, by decide +kernel⟩
theorem lki_X11_11 : LKi RX11 11 M_Jx4a65c_init_da8c8 0 := ⟨lk_X11_11, List.mem_of_getElem? (i := 84) (by decide +kernel), rfl, rfl⟩
theorem lk_Jx4a65c_1 : LK RJx4a65c 1 M_Jxc12de_init_da8c8 0 := ⟨rfl, List.mem_of_getElem? (i := 86) (by decide +kernel), List.mem_of_getElem? (i := 88) (by decide +kernel), List.mem_of_getElem? (i := 43) (by decide +kernel), by decide, by decide +kernel, by decide +kernel, by decide +kernel⟩
theorem lki_Jx4a65c_1 : LKi RJx4a65c 1 M_Jxc12de_init_da8c8 0 := ⟨lk_Jx4a65c_1, List.mem_of_getElem? (i := 87) (by decide +kernel), rfl, rfl⟩
theorem lk_Jxc12de_1 : LK RJxc12de 1 M_Jxa1e45_init_da8c8 0 := ⟨rfl, List.mem_of_getElem? (i := 89) (by decide +kernel), List.mem_of_getElem? (i := 91) (by decide +kernel), List.mem_of_getElem? (i := 42) (by decide +kernel), by decide, by decide +kernel, by decide +kernel, by decide +kernel⟩
theorem lki_Jxc12de_1 : LKi RJxc12de 1 M_Jxa1e45_init_da8c8 0 := ⟨lk_Jxc12de_1, List.mem_of_getElem? (i := 90) (by decide +kernel), rfl, rfl⟩
theorem lk_X11_31 : LK RX11 31 M_X8_init 1 := ⟨rfl, List.mem_of_getElem? (i := 109) (by decide +kernel), List.mem_of_getElem? (i := 111) (by decide +kernel), List.mem_of_getElem? (i := 45) (by decide +kernel), by decide, by decide +kernel, by decide +kernel, by decide +kernel⟩
theorem lki_X11_31 : LKi RX11 31 M_X8_init 1 := ⟨lk_X11_31, List.mem_of_getElem? (i := 110) (by decide +kernel), rfl, rfl⟩
theorem lk_X8_37 : LK RX8 37 M_J7_fill_53178 2 := ⟨rfl, List.mem_of_getElem? (i := 115) (by decide +kernel), List.mem_of_getElem? (i := 117) (by decide +kernel), List.mem_of_getElem? (i := 46) (by decide +kernel), by decide, by decide +kernel, by decide +kernel, by decide +kernel⟩
theorem lks_X8_37 : LKs RX8 37 M_J7_fill_53178 2 := ⟨lk_X8_37, List.mem_of_getElem? (i := 116) (by decide +kernel)⟩
theorem lk_L_228 : LK RL 228 M_X11_isSound 0 := ⟨rfl, List.mem_of_getElem? (i := 240) (by decide +kernel), List.mem_of_getElem? (i := 243) (by decide +kernel), List.mem_of_getElem? (i := 41) (by decide +kernel), by decide, by decide +kernel, by decide +kernel, by decide +kernel⟩
theorem lkv_L_228 : LKv RL 228 M_X11_isSound 0 := ⟨lk_L_228, List.mem_of_getElem? (i := 241) (by decide +kernel), List.mem_of_getElem? (i := 242) (by decide +kernel)⟩
theorem lk_X11_70 : LK RX11 70 M_Jx4a65c_size_8abf5 0 := ⟨rfl, List.mem_of_getElem? (i := 244) (by decide +kernel), List.mem_of_getElem? (i := 247) (by decide +kernel), List.mem_of_getElem? (i := 44) (by decide +kernel), by decide, by decide +kernel, by decide +kernel, by decide +kernel⟩
theorem lkv_X11_70 : LKv RX11 70 M_Jx4a65c_size_8abf5 0 := ⟨lk_X11_70, List.mem_of_getElem? (i := 245) (by decide +kernel), List.mem_of_getElem? (i := 246) (by decide +kernel)⟩
theorem lk_X11_276 : LK RX11 276 M_Jx4a65c_get_915e3 1 := ⟨rfl, List.mem_of_getElem? (i := 248) (by decide +kernel), List.mem_of_getElem? (i := 251) (by decide +kernel), List.mem_of_getElem? (i := 44) (by decide +kernel), by decide, by decide +kernel, by decide +kernel, by decide +kernel⟩
theorem lkv_X11_276 : LKv RX11 276 M_Jx4a65c_get_915e3 1 := ⟨lk_X11_276, List.mem_of_getElem? (i := 249) (by decide +kernel), List.mem_of_getElem? (i := 250) (by decide +kernel)⟩
theorem lk_Jx4a65c_118 : LK RJx4a65c 118 M_J15_checkIndex_7cf53 2 := ⟨rfl, List.mem_of_getElem? (i := 252) (by decide +kernel), List.mem_of_getElem? (i := 254) (by decide +kernel), List.mem_of_getElem? (i := 60) (by decide +kernel), by decide, by decide +kernel, by decide +kernel, by decide +kernel⟩
theorem lks_Jx4a65c_118 : LKs RJx4a65c 118 M_J15_checkIndex_7cf53 2 := ⟨lk_Jx4a65c_118, List.mem_of_getElem? (i := 253) (by decide +kernel)⟩
theorem lk_J15_105 : LK RJ15 105 M_J3_checkIndex_8e157 3 := ⟨rfl, List.mem_of_getElem? (i := 255) (by decide +kernel), List.mem_of_getElem? (i := 257) (by decide +kernel), List.mem_of_getElem? (i := 61) (by decide +kernel), by decide, by decide +kernel, by decide +kernel, by decide +kernel⟩
theorem lks_J15_105 : LKs RJ15 105 M_J3_checkIndex_8e157 3 := ⟨lk_J15_105, List.mem_of_getElem? (i := 256) (by decide +kernel)⟩
theorem lk_Jx4a65c_123 : LK RJx4a65c 123 M_Jx4a65c_elementData_915e3 1 := ⟨rfl, List.mem_of_getElem? (i := 258) (by decide +kernel), List.mem_of_getElem? (i := 261) (by decide +kernel), List.mem_of_getElem? (i := 44) (by decide +kernel), by decide, by decide +kernel, by decide +kernel, by decide +kernel⟩
theorem lkv_Jx4a65c_123 : LKv RJx4a65c 123 M_Jx4a65c_elementData_915e3 1 := ⟨lk_Jx4a65c_123, List.mem_of_getElem? (i := 259) (by decide +kernel), List.mem_of_getElem? (i := 260) (by decide +kernel)⟩
theorem lk_X11_387 : LK RX11 387 M_X11_isCourseSound 1 := ⟨rfl, List.mem_of_getElem? (i := 263) (by decide +kernel), List.mem_of_getElem? (i := 266) (by decide +kernel), List.mem_of_getElem? (i := 41) (by decide +kernel), by decide, by decide +kernel, by decide +kernel, by decide +kernel⟩
theorem lkv_X11_387 : LKv RX11 387 M_X11_isCourseSound 1 := ⟨lk_X11_387, List.mem_of_getElem? (i := 265) (by decide +kernel), List.mem_of_getElem? (i := 0) (by decide +kernel)⟩
theorem lk_X11_314 : LK RX11 314 M_X11_takersOf 1 := ⟨rfl, List.mem_of_getElem? (i := 267) (by decide +kernel), List.mem_of_getElem? (i := 270) (by decide +kernel), List.mem_of_getElem? (i := 41) (by decide +kernel), by decide, by decide +kernel, by decide +kernel, by decide +kernel⟩
theorem lkv_X11_314 : LKv RX11 314 M_X11_takersOf 1 := ⟨lk_X11_314, List.mem_of_getElem? (i := 269) (by decide +kernel), List.mem_of_getElem? (i := 1) (by decide +kernel)⟩
theorem lk_X11_437 : LK RX11 437 M_X11_canTakeSeat 2 := ⟨rfl, List.mem_of_getElem? (i := 271) (by decide +kernel), List.mem_of_getElem? (i := 274) (by decide +kernel), List.mem_of_getElem? (i := 41) (by decide +kernel), by decide, by decide +kernel, by decide +kernel, by decide +kernel⟩
theorem lkv_X11_437 : LKv RX11 437 M_X11_canTakeSeat 2 := ⟨lk_X11_437, List.mem_of_getElem? (i := 273) (by decide +kernel), List.mem_of_getElem? (i := 2) (by decide +kernel)⟩
theorem lk_X11_257 : LK RX11 257 M_X11_freeFor 2 := ⟨rfl, List.mem_of_getElem? (i := 275) (by decide +kernel), List.mem_of_getElem? (i := 278) (by decide +kernel), List.mem_of_getElem? (i := 41) (by decide +kernel), by decide, by decide +kernel, by decide +kernel, by decide +kernel⟩
theorem lkv_X11_257 : LKv RX11 257 M_X11_freeFor 2 := ⟨lk_X11_257, List.mem_of_getElem? (i := 277) (by decide +kernel), List.mem_of_getElem? (i := 3) (by decide +kernel)⟩
theorem lk_X11_431 : LK RX11 431 M_X11_takersOfMajor 2 := ⟨rfl, List.mem_of_getElem? (i := 279) (by decide +kernel), List.mem_of_getElem? (i := 282) (by decide +kernel), List.mem_of_getElem? (i := 41) (by decide +kernel), by decide, by decide +kernel, by decide +kernel, by decide +kernel⟩
theorem lkv_X11_431 : LKv RX11 431 M_X11_takersOfMajor 2 := ⟨lk_X11_431, List.mem_of_getElem? (i := 281) (by decide +kernel), List.mem_of_getElem? (i := 4) (by decide +kernel)⟩
theorem lk_X11_153 : LK RX11 153 M_J9_max_7cf53 2 := ⟨rfl, List.mem_of_getElem? (i := 283) (by decide +kernel), List.mem_of_getElem? (i := 285) (by decide +kernel), List.mem_of_getElem? (i := 57) (by decide +kernel), by decide, by decide +kernel, by decide +kernel, by decide +kernel⟩
theorem lks_X11_153 : LKs RX11 153 M_J9_max_7cf53 2 := ⟨lk_X11_153, List.mem_of_getElem? (i := 284) (by decide +kernel)⟩
theorem lk_X11_261 : LK RX11 261 M_X11_canBear 2 := ⟨rfl, List.mem_of_getElem? (i := 286) (by decide +kernel), List.mem_of_getElem? (i := 289) (by decide +kernel), List.mem_of_getElem? (i := 41) (by decide +kernel), by decide, by decide +kernel, by decide +kernel, by decide +kernel⟩
theorem lkv_X11_261 : LKv RX11 261 M_X11_canBear 2 := ⟨lk_X11_261, List.mem_of_getElem? (i := 288) (by decide +kernel), List.mem_of_getElem? (i := 5) (by decide +kernel)⟩
theorem lk_X11_266 : LK RX11 266 M_X11_loadOn 1 := ⟨rfl, List.mem_of_getElem? (i := 290) (by decide +kernel), List.mem_of_getElem? (i := 293) (by decide +kernel), List.mem_of_getElem? (i := 41) (by decide +kernel), by decide, by decide +kernel, by decide +kernel, by decide +kernel⟩
theorem lkv_X11_266 : LKv RX11 266 M_X11_loadOn 1 := ⟨lk_X11_266, List.mem_of_getElem? (i := 292) (by decide +kernel), List.mem_of_getElem? (i := 6) (by decide +kernel)⟩
theorem lk_X11_250 : LK RX11 250 M_X11_requisiteHolds 2 := ⟨rfl, List.mem_of_getElem? (i := 294) (by decide +kernel), List.mem_of_getElem? (i := 297) (by decide +kernel), List.mem_of_getElem? (i := 41) (by decide +kernel), by decide, by decide +kernel, by decide +kernel, by decide +kernel⟩
theorem lkv_X11_250 : LKv RX11 250 M_X11_requisiteHolds 2 := ⟨lk_X11_250, List.mem_of_getElem? (i := 296) (by decide +kernel), List.mem_of_getElem? (i := 7) (by decide +kernel)⟩
theorem lk_X11_167 : LK RX11 167 M_X11_truthsFor 1 := ⟨rfl, List.mem_of_getElem? (i := 298) (by decide +kernel), List.mem_of_getElem? (i := 301) (by decide +kernel), List.mem_of_getElem? (i := 41) (by decide +kernel), by decide, by decide +kernel, by decide +kernel, by decide +kernel⟩
theorem lkv_X11_167 : LKv RX11 167 M_X11_truthsFor 1 := ⟨lk_X11_167, List.mem_of_getElem? (i := 300) (by decide +kernel), List.mem_of_getElem? (i := 8) (by decide +kernel)⟩
theorem lk_X11_305 : LK RX11 305 M_X11_creditsEarned 1 := ⟨rfl, List.mem_of_getElem? (i := 302) (by decide +kernel), List.mem_of_getElem? (i := 305) (by decide +kernel), List.mem_of_getElem? (i := 41) (by decide +kernel), by decide, by decide +kernel, by decide +kernel, by decide +kernel⟩
theorem lkv_X11_305 : LKv RX11 305 M_X11_creditsEarned 1 := ⟨lk_X11_305, List.mem_of_getElem? (i := 304) (by decide +kernel), List.mem_of_getElem? (i := 9) (by decide +kernel)⟩
theorem lk_X11_283 : LK RX11 283 M_X8_hasPassed 1 := ⟨rfl, List.mem_of_getElem? (i := 306) (by decide +kernel), List.mem_of_getElem? (i := 309) (by decide +kernel), List.mem_of_getElem? (i := 45) (by decide +kernel), by decide, by decide +kernel, by decide +kernel, by decide +kernel⟩
theorem lkv_X11_283 : LKv RX11 283 M_X8_hasPassed 1 := ⟨lk_X11_283, List.mem_of_getElem? (i := 307) (by decide +kernel), List.mem_of_getElem? (i := 308) (by decide +kernel)⟩
theorem lk_X9_19 : LK RX9 19 M_X8_hasPassed 1 := ⟨rfl, List.mem_of_getElem? (i := 333) (by decide +kernel), List.mem_of_getElem? (i := 309) (by decide +kernel), List.mem_of_getElem? (i := 45) (by decide +kernel), by decide, by decide +kernel, by decide +kernel, by decide +kernel⟩
theorem lkv_X9_19 : LKv RX9 19 M_X8_hasPassed 1 := ⟨lk_X9_19, List.mem_of_getElem? (i := 307) (by decide +kernel), List.mem_of_getElem? (i := 308) (by decide +kernel)⟩
theorem lk_X11_171 : LK RX11 171 M_X11_isMet 2 := ⟨rfl, List.mem_of_getElem? (i := 334) (by decide +kernel), List.mem_of_getElem? (i := 319) (by decide +kernel), List.mem_of_getElem? (i := 41) (by decide +kernel), by decide, by decide +kernel, by decide +kernel, by decide +kernel⟩
theorem lks_X11_171 : LKs RX11 171 M_X11_isMet 2 := ⟨lk_X11_171, List.mem_of_getElem? (i := 318) (by decide +kernel)⟩
theorem lk_X11_391 : LK RX11 391 M_X11_auditsAgree 1 := ⟨rfl, List.mem_of_getElem? (i := 335) (by decide +kernel), List.mem_of_getElem? (i := 338) (by decide +kernel), List.mem_of_getElem? (i := 41) (by decide +kernel), by decide, by decide +kernel, by decide +kernel, by decide +kernel⟩
theorem lkv_X11_391 : LKv RX11 391 M_X11_auditsAgree 1 := ⟨lk_X11_391, List.mem_of_getElem? (i := 337) (by decide +kernel), List.mem_of_getElem? (i := 10) (by decide +kernel)⟩
theorem lk_X11_363 : LK RX11 363 M_X0_open 3 := ⟨rfl, List.mem_of_getElem? (i := 339) (by decide +kernel), List.mem_of_getElem? (i := 342) (by decide +kernel), List.mem_of_getElem? (i := 47) (by decide +kernel), by decide, by decide +kernel, by decide +kernel, by decide +kernel⟩
theorem lkv_X11_363 : LKv RX11 363 M_X0_open 3 := ⟨lk_X11_363, List.mem_of_getElem? (i := 340) (by decide +kernel), List.mem_of_getElem? (i := 341) (by decide +kernel)⟩
theorem lk_X0_44 : LK RX0 44 M_J7_fill_53178 2 := ⟨rfl, List.mem_of_getElem? (i := 343) (by decide +kernel), List.mem_of_getElem? (i := 117) (by decide +kernel), List.mem_of_getElem? (i := 46) (by decide +kernel), by decide, by decide +kernel, by decide +kernel, by decide +kernel⟩
theorem lks_X0_44 : LKs RX0 44 M_J7_fill_53178 2 := ⟨lk_X0_44, List.mem_of_getElem? (i := 116) (by decide +kernel)⟩
theorem lk_X0_50 : LK RX0 50 M_Jx4a65c_size_8abf5 0 := ⟨rfl, List.mem_of_getElem? (i := 344) (by decide +kernel), List.mem_of_getElem? (i := 247) (by decide +kernel), List.mem_of_getElem? (i := 44) (by decide +kernel), by decide, by decide +kernel, by decide +kernel, by decide +kernel⟩
theorem lkv_X0_50 : LKv RX0 50 M_Jx4a65c_size_8abf5 0 := ⟨lk_X0_50, List.mem_of_getElem? (i := 245) (by decide +kernel), List.mem_of_getElem? (i := 246) (by decide +kernel)⟩
theorem lk_X0_56 : LK RX0 56 M_Jx4a65c_get_915e3 1 := ⟨rfl, List.mem_of_getElem? (i := 345) (by decide +kernel), List.mem_of_getElem? (i := 251) (by decide +kernel), List.mem_of_getElem? (i := 44) (by decide +kernel), by decide, by decide +kernel, by decide +kernel, by decide +kernel⟩
theorem lkv_X0_56 : LKv RX0 56 M_Jx4a65c_get_915e3 1 := ⟨lk_X0_56, List.mem_of_getElem? (i := 249) (by decide +kernel), List.mem_of_getElem? (i := 250) (by decide +kernel)⟩
theorem lk_X0_71 : LK RX0 71 M_X0_noteFits 3 := ⟨rfl, List.mem_of_getElem? (i := 347) (by decide +kernel), List.mem_of_getElem? (i := 350) (by decide +kernel), List.mem_of_getElem? (i := 47) (by decide +kernel), by decide, by decide +kernel, by decide +kernel, by decide +kernel⟩
theorem lkv_X0_71 : LKv RX0 71 M_X0_noteFits 3 := ⟨lk_X0_71, List.mem_of_getElem? (i := 349) (by decide +kernel), List.mem_of_getElem? (i := 11) (by decide +kernel)⟩
theorem lk_X11_370 : LK RX11 370 M_X0_tryAll 0 := ⟨rfl, List.mem_of_getElem? (i := 351) (by decide +kernel), List.mem_of_getElem? (i := 354) (by decide +kernel), List.mem_of_getElem? (i := 47) (by decide +kernel), by decide, by decide +kernel, by decide +kernel, by decide +kernel⟩
theorem lkv_X11_370 : LKv RX11 370 M_X0_tryAll 0 := ⟨lk_X11_370, List.mem_of_getElem? (i := 352) (by decide +kernel), List.mem_of_getElem? (i := 353) (by decide +kernel)⟩
theorem lk_X0_116 : LK RX0 116 M_X0_trials 0 := ⟨rfl, List.mem_of_getElem? (i := 355) (by decide +kernel), List.mem_of_getElem? (i := 358) (by decide +kernel), List.mem_of_getElem? (i := 47) (by decide +kernel), by decide, by decide +kernel, by decide +kernel, by decide +kernel⟩
theorem lkv_X0_116 : LKv RX0 116 M_X0_trials 0 := ⟨lk_X0_116, List.mem_of_getElem? (i := 357) (by decide +kernel), List.mem_of_getElem? (i := 12) (by decide +kernel)⟩
theorem lk_X0_119 : LK RX0 119 M_X0_tryCourse 1 := ⟨rfl, List.mem_of_getElem? (i := 359) (by decide +kernel), List.mem_of_getElem? (i := 362) (by decide +kernel), List.mem_of_getElem? (i := 47) (by decide +kernel), by decide, by decide +kernel, by decide +kernel, by decide +kernel⟩
theorem lkv_X0_119 : LKv RX0 119 M_X0_tryCourse 1 := ⟨lk_X0_119, List.mem_of_getElem? (i := 361) (by decide +kernel), List.mem_of_getElem? (i := 13) (by decide +kernel)⟩
theorem lk_X0_109 : LK RX0 109 M_X0_isFit 2 := ⟨rfl, List.mem_of_getElem? (i := 363) (by decide +kernel), List.mem_of_getElem? (i := 366) (by decide +kernel), List.mem_of_getElem? (i := 47) (by decide +kernel), by decide, by decide +kernel, by decide +kernel, by decide +kernel⟩
theorem lkv_X0_109 : LKv RX0 109 M_X0_isFit 2 := ⟨lk_X0_109, List.mem_of_getElem? (i := 365) (by decide +kernel), List.mem_of_getElem? (i := 14) (by decide +kernel)⟩
theorem lk_X0_125 : LK RX0 125 M_X0_countIn 2 := ⟨rfl, List.mem_of_getElem? (i := 367) (by decide +kernel), List.mem_of_getElem? (i := 369) (by decide +kernel), List.mem_of_getElem? (i := 47) (by decide +kernel), by decide, by decide +kernel, by decide +kernel, by decide +kernel⟩
theorem lks_X0_125 : LKs RX0 125 M_X0_countIn 2 := ⟨lk_X0_125, List.mem_of_getElem? (i := 368) (by decide +kernel)⟩
theorem lk_X0_122 : LK RX0 122 M_X0_mostTried 1 := ⟨rfl, List.mem_of_getElem? (i := 370) (by decide +kernel), List.mem_of_getElem? (i := 373) (by decide +kernel), List.mem_of_getElem? (i := 47) (by decide +kernel), by decide, by decide +kernel, by decide +kernel, by decide +kernel⟩
theorem lkv_X0_122 : LKv RX0 122 M_X0_mostTried 1 := ⟨lk_X0_122, List.mem_of_getElem? (i := 372) (by decide +kernel), List.mem_of_getElem? (i := 15) (by decide +kernel)⟩
theorem lk_X0_128 : LK RX0 128 M_X0_sumOf 1 := ⟨rfl, List.mem_of_getElem? (i := 374) (by decide +kernel), List.mem_of_getElem? (i := 377) (by decide +kernel), List.mem_of_getElem? (i := 47) (by decide +kernel), by decide, by decide +kernel, by decide +kernel, by decide +kernel⟩
theorem lkv_X0_128 : LKv RX0 128 M_X0_sumOf 1 := ⟨lk_X0_128, List.mem_of_getElem? (i := 376) (by decide +kernel), List.mem_of_getElem? (i := 16) (by decide +kernel)⟩
theorem lk_X0_131 : LK RX0 131 M_J9_max_7cf53 2 := ⟨rfl, List.mem_of_getElem? (i := 378) (by decide +kernel), List.mem_of_getElem? (i := 285) (by decide +kernel), List.mem_of_getElem? (i := 57) (by decide +kernel), by decide, by decide +kernel, by decide +kernel, by decide +kernel⟩
theorem lks_X0_131 : LKs RX0 131 M_J9_max_7cf53 2 := ⟨lk_X0_131, List.mem_of_getElem? (i := 284) (by decide +kernel)⟩
theorem lk_X11_367 : LK RX11 367 M_X0_giveAll 0 := ⟨rfl, List.mem_of_getElem? (i := 379) (by decide +kernel), List.mem_of_getElem? (i := 382) (by decide +kernel), List.mem_of_getElem? (i := 47) (by decide +kernel), by decide, by decide +kernel, by decide +kernel, by decide +kernel⟩
theorem lkv_X11_367 : LKv RX11 367 M_X0_giveAll 0 := ⟨lk_X11_367, List.mem_of_getElem? (i := 380) (by decide +kernel), List.mem_of_getElem? (i := 381) (by decide +kernel)⟩
theorem lk_X0_93 : LK RX0 93 M_X0_giveFrom 1 := ⟨rfl, List.mem_of_getElem? (i := 386) (by decide +kernel), List.mem_of_getElem? (i := 389) (by decide +kernel), List.mem_of_getElem? (i := 47) (by decide +kernel), by decide, by decide +kernel, by decide +kernel, by decide +kernel⟩
theorem lkv_X0_93 : LKv RX0 93 M_X0_giveFrom 1 := ⟨lk_X0_93, List.mem_of_getElem? (i := 388) (by decide +kernel), List.mem_of_getElem? (i := 17) (by decide +kernel)⟩
theorem lk_X0_97 : LK RX0 97 M_X0_give 1 := ⟨rfl, List.mem_of_getElem? (i := 390) (by decide +kernel), List.mem_of_getElem? (i := 393) (by decide +kernel), List.mem_of_getElem? (i := 47) (by decide +kernel), by decide, by decide +kernel, by decide +kernel, by decide +kernel⟩
theorem lkv_X0_97 : LKv RX0 97 M_X0_give 1 := ⟨lk_X0_97, List.mem_of_getElem? (i := 392) (by decide +kernel), List.mem_of_getElem? (i := 18) (by decide +kernel)⟩
theorem lk_X0_101 : LK RX0 101 M_X0_findSlotsFor 2 := ⟨rfl, List.mem_of_getElem? (i := 394) (by decide +kernel), List.mem_of_getElem? (i := 397) (by decide +kernel), List.mem_of_getElem? (i := 47) (by decide +kernel), by decide, by decide +kernel, by decide +kernel, by decide +kernel⟩
theorem lkv_X0_101 : LKv RX0 101 M_X0_findSlotsFor 2 := ⟨lk_X0_101, List.mem_of_getElem? (i := 396) (by decide +kernel), List.mem_of_getElem? (i := 19) (by decide +kernel)⟩
theorem lk_X0_105 : LK RX0 105 M_X0_handOn 1 := ⟨rfl, List.mem_of_getElem? (i := 398) (by decide +kernel), List.mem_of_getElem? (i := 401) (by decide +kernel), List.mem_of_getElem? (i := 47) (by decide +kernel), by decide, by decide +kernel, by decide +kernel, by decide +kernel⟩
theorem lkv_X0_105 : LKv RX0 105 M_X0_handOn 1 := ⟨lk_X0_105, List.mem_of_getElem? (i := 400) (by decide +kernel), List.mem_of_getElem? (i := 20) (by decide +kernel)⟩
theorem lk_X11_373 : LK RX11 373 M_X0_shortRules 0 := ⟨rfl, List.mem_of_getElem? (i := 402) (by decide +kernel), List.mem_of_getElem? (i := 405) (by decide +kernel), List.mem_of_getElem? (i := 47) (by decide +kernel), by decide, by decide +kernel, by decide +kernel, by decide +kernel⟩
theorem lkv_X11_373 : LKv RX11 373 M_X0_shortRules 0 := ⟨lk_X11_373, List.mem_of_getElem? (i := 403) (by decide +kernel), List.mem_of_getElem? (i := 404) (by decide +kernel)⟩
theorem lk_X0_113 : LK RX0 113 M_X0_ruleBits 1 := ⟨rfl, List.mem_of_getElem? (i := 406) (by decide +kernel), List.mem_of_getElem? (i := 409) (by decide +kernel), List.mem_of_getElem? (i := 47) (by decide +kernel), by decide, by decide +kernel, by decide +kernel, by decide +kernel⟩
theorem lkv_X0_113 : LKv RX0 113 M_X0_ruleBits 1 := ⟨lk_X0_113, List.mem_of_getElem? (i := 408) (by decide +kernel), List.mem_of_getElem? (i := 21) (by decide +kernel)⟩
theorem lk_X11_376 : LK RX11 376 M_X0_shortRulesByTrial 1 := ⟨rfl, List.mem_of_getElem? (i := 410) (by decide +kernel), List.mem_of_getElem? (i := 413) (by decide +kernel), List.mem_of_getElem? (i := 47) (by decide +kernel), by decide, by decide +kernel, by decide +kernel, by decide +kernel⟩
theorem lkv_X11_376 : LKv RX11 376 M_X0_shortRulesByTrial 1 := ⟨lk_X11_376, List.mem_of_getElem? (i := 411) (by decide +kernel), List.mem_of_getElem? (i := 412) (by decide +kernel)⟩
theorem lk_L_44 : LK RL 44 M_L_cell 2 := ⟨rfl, List.mem_of_getElem? (i := 414) (by decide +kernel), List.mem_of_getElem? (i := 416) (by decide +kernel), List.mem_of_getElem? (i := 40) (by decide +kernel), by decide, by decide +kernel, by decide +kernel, by decide +kernel⟩
theorem lks_L_44 : LKs RL 44 M_L_cell 2 := ⟨lk_L_44, List.mem_of_getElem? (i := 415) (by decide +kernel)⟩
theorem lk_L_50 : LK RL 50 M_L_low 2 := ⟨rfl, List.mem_of_getElem? (i := 418) (by decide +kernel), List.mem_of_getElem? (i := 420) (by decide +kernel), List.mem_of_getElem? (i := 40) (by decide +kernel), by decide, by decide +kernel, by decide +kernel, by decide +kernel⟩
theorem lks_L_50 : LKs RL 50 M_L_low 2 := ⟨lk_L_50, List.mem_of_getElem? (i := 419) (by decide +kernel)⟩
theorem lk_L_207 : LK RL 207 M_L_office 2 := ⟨rfl, List.mem_of_getElem? (i := 422) (by decide +kernel), List.mem_of_getElem? (i := 424) (by decide +kernel), List.mem_of_getElem? (i := 40) (by decide +kernel), by decide, by decide +kernel, by decide +kernel, by decide +kernel⟩
theorem lks_L_207 : LKs RL 207 M_L_office 2 := ⟨lk_L_207, List.mem_of_getElem? (i := 423) (by decide +kernel)⟩
theorem lk_L_56 : LK RL 56 M_X11_addCourse 2 := ⟨rfl, List.mem_of_getElem? (i := 468) (by decide +kernel), List.mem_of_getElem? (i := 471) (by decide +kernel), List.mem_of_getElem? (i := 41) (by decide +kernel), by decide, by decide +kernel, by decide +kernel, by decide +kernel⟩
theorem lkv_L_56 : LKv RL 56 M_X11_addCourse 2 := ⟨lk_L_56, List.mem_of_getElem? (i := 469) (by decide +kernel), List.mem_of_getElem? (i := 470) (by decide +kernel)⟩
theorem lk_X11_59 : LK RX11 59 M_X11_isWithin 3 := ⟨rfl, List.mem_of_getElem? (i := 472) (by decide +kernel), List.mem_of_getElem? (i := 474) (by decide +kernel), List.mem_of_getElem? (i := 41) (by decide +kernel), by decide, by decide +kernel, by decide +kernel, by decide +kernel⟩
theorem lks_X11_59 : LKs RX11 59 M_X11_isWithin 3 := ⟨lk_X11_59, List.mem_of_getElem? (i := 473) (by decide +kernel)⟩
theorem lk_X11_81 : LK RX11 81 M_X2_init 3 := ⟨rfl, List.mem_of_getElem? (i := 564) (by decide +kernel), List.mem_of_getElem? (i := 566) (by decide +kernel), List.mem_of_getElem? (i := 55) (by decide +kernel), by decide, by decide +kernel, by decide +kernel, by decide +kernel⟩
theorem lki_X11_81 : LKi RX11 81 M_X2_init 3 := ⟨lk_X11_81, List.mem_of_getElem? (i := 565) (by decide +kernel), rfl, rfl⟩
theorem lk_X2_17 : LK RX2 17 M_Jx4a65c_init_da8c8 0 := ⟨rfl, List.mem_of_getElem? (i := 569) (by decide +kernel), List.mem_of_getElem? (i := 85) (by decide +kernel), List.mem_of_getElem? (i := 44) (by decide +kernel), by decide, by decide +kernel, by decide +kernel, by decide +kernel⟩
theorem lki_X2_17 : LKi RX2 17 M_Jx4a65c_init_da8c8 0 := ⟨lk_X2_17, List.mem_of_getElem? (i := 84) (by decide +kernel), rfl, rfl⟩
theorem lk_X11_84 : LK RX11 84 M_Jx4a65c_add_9ea2d 1 := ⟨rfl, List.mem_of_getElem? (i := 595) (by decide +kernel), List.mem_of_getElem? (i := 598) (by decide +kernel), List.mem_of_getElem? (i := 44) (by decide +kernel), by decide, by decide +kernel, by decide +kernel, by decide +kernel⟩
theorem lkv_X11_84 : LKv RX11 84 M_Jx4a65c_add_9ea2d 1 := ⟨lk_X11_84, List.mem_of_getElem? (i := 596) (by decide +kernel), List.mem_of_getElem? (i := 597) (by decide +kernel)⟩
theorem lk_Jx4a65c_131 : LK RJx4a65c 131 M_Jx4a65c_add_72be8 3 := ⟨rfl, List.mem_of_getElem? (i := 599) (by decide +kernel), List.mem_of_getElem? (i := 602) (by decide +kernel), List.mem_of_getElem? (i := 44) (by decide +kernel), by decide, by decide +kernel, by decide +kernel, by decide +kernel⟩
theorem lkv_Jx4a65c_131 : LKv RJx4a65c 131 M_Jx4a65c_add_72be8 3 := ⟨lk_Jx4a65c_131, List.mem_of_getElem? (i := 601) (by decide +kernel), List.mem_of_getElem? (i := 23) (by decide +kernel)⟩
theorem lk_Jx4a65c_129 : LK RJx4a65c 129 M_Jx4a65c_grow_d5877 0 := ⟨rfl, List.mem_of_getElem? (i := 603) (by decide +kernel), List.mem_of_getElem? (i := 606) (by decide +kernel), List.mem_of_getElem? (i := 44) (by decide +kernel), by decide, by decide +kernel, by decide +kernel, by decide +kernel⟩
theorem lkv_Jx4a65c_129 : LKv RJx4a65c 129 M_Jx4a65c_grow_d5877 0 := ⟨lk_Jx4a65c_129, List.mem_of_getElem? (i := 605) (by decide +kernel), List.mem_of_getElem? (i := 24) (by decide +kernel)⟩
theorem lk_Jx4a65c_69 : LK RJx4a65c 69 M_Jx4a65c_grow_92f84 1 := ⟨rfl, List.mem_of_getElem? (i := 607) (by decide +kernel), List.mem_of_getElem? (i := 610) (by decide +kernel), List.mem_of_getElem? (i := 44) (by decide +kernel), by decide, by decide +kernel, by decide +kernel, by decide +kernel⟩
theorem lkv_Jx4a65c_69 : LKv RJx4a65c 69 M_Jx4a65c_grow_92f84 1 := ⟨lk_Jx4a65c_69, List.mem_of_getElem? (i := 609) (by decide +kernel), List.mem_of_getElem? (i := 25) (by decide +kernel)⟩
theorem lk_Jx4a65c_73 : LK RJx4a65c 73 M_J8_newLength_cabcc 3 := ⟨rfl, List.mem_of_getElem? (i := 611) (by decide +kernel), List.mem_of_getElem? (i := 613) (by decide +kernel), List.mem_of_getElem? (i := 56) (by decide +kernel), by decide, by decide +kernel, by decide +kernel, by decide +kernel⟩
theorem lks_Jx4a65c_73 : LKs RJx4a65c 73 M_J8_newLength_cabcc 3 := ⟨lk_Jx4a65c_73, List.mem_of_getElem? (i := 612) (by decide +kernel)⟩
theorem lk_J8_194 : LK RJ8 194 M_J9_max_7cf53 2 := ⟨rfl, List.mem_of_getElem? (i := 614) (by decide +kernel), List.mem_of_getElem? (i := 285) (by decide +kernel), List.mem_of_getElem? (i := 57) (by decide +kernel), by decide, by decide +kernel, by decide +kernel, by decide +kernel⟩
theorem lks_J8_194 : LKs RJ8 194 M_J9_max_7cf53 2 := ⟨lk_J8_194, List.mem_of_getElem? (i := 284) (by decide +kernel)⟩
theorem lk_J8_201 : LK RJ8 201 M_J8_hugeLength_7cf53 2 := ⟨rfl, List.mem_of_getElem? (i := 616) (by decide +kernel), List.mem_of_getElem? (i := 618) (by decide +kernel), List.mem_of_getElem? (i := 56) (by decide +kernel), by decide, by decide +kernel, by decide +kernel, by decide +kernel⟩
theorem lks_J8_201 : LKs RJ8 201 M_J8_hugeLength_7cf53 2 := ⟨lk_J8_201, List.mem_of_getElem? (i := 617) (by decide +kernel)⟩
theorem lk_Jx4a65c_66 : LK RJx4a65c 66 M_J7_copyOf_1904c 2 := ⟨rfl, List.mem_of_getElem? (i := 619) (by decide +kernel), List.mem_of_getElem? (i := 621) (by decide +kernel), List.mem_of_getElem? (i := 46) (by decide +kernel), by decide, by decide +kernel, by decide +kernel, by decide +kernel⟩
theorem lks_Jx4a65c_66 : LKs RJx4a65c 66 M_J7_copyOf_1904c 2 := ⟨lk_Jx4a65c_66, List.mem_of_getElem? (i := 620) (by decide +kernel)⟩
theorem lk_J7_300 : LK RJ7 300 M_J7_copyOf_6403c 3 := ⟨rfl, List.mem_of_getElem? (i := 645) (by decide +kernel), List.mem_of_getElem? (i := 647) (by decide +kernel), List.mem_of_getElem? (i := 46) (by decide +kernel), by decide, by decide +kernel, by decide +kernel, by decide +kernel⟩
theorem lks_J7_300 : LKs RJ7 300 M_J7_copyOf_6403c 3 := ⟨lk_J7_300, List.mem_of_getElem? (i := 646) (by decide +kernel)⟩
theorem lk_J7_304 : LK RJ7 304 M_J9_min_7cf53 2 := ⟨rfl, List.mem_of_getElem? (i := 651) (by decide +kernel), List.mem_of_getElem? (i := 653) (by decide +kernel), List.mem_of_getElem? (i := 57) (by decide +kernel), by decide, by decide +kernel, by decide +kernel, by decide +kernel⟩
theorem lks_J7_304 : LKs RJ7 304 M_J9_min_7cf53 2 := ⟨lk_J7_304, List.mem_of_getElem? (i := 652) (by decide +kernel)⟩
theorem lk_Jx4a65c_79 : LK RJx4a65c 79 M_J9_max_7cf53 2 := ⟨rfl, List.mem_of_getElem? (i := 655) (by decide +kernel), List.mem_of_getElem? (i := 285) (by decide +kernel), List.mem_of_getElem? (i := 57) (by decide +kernel), by decide, by decide +kernel, by decide +kernel, by decide +kernel⟩
theorem lks_Jx4a65c_79 : LKs RJx4a65c 79 M_J9_max_7cf53 2 := ⟨lk_Jx4a65c_79, List.mem_of_getElem? (i := 284) (by decide +kernel)⟩
theorem lk_L_62 : LK RL 62 M_X11_addStudent 1 := ⟨rfl, List.mem_of_getElem? (i := 657) (by decide +kernel), List.mem_of_getElem? (i := 660) (by decide +kernel), List.mem_of_getElem? (i := 41) (by decide +kernel), by decide, by decide +kernel, by decide +kernel, by decide +kernel⟩
theorem lkv_L_62 : LKv RL 62 M_X11_addStudent 1 := ⟨lk_L_62, List.mem_of_getElem? (i := 658) (by decide +kernel), List.mem_of_getElem? (i := 659) (by decide +kernel)⟩
theorem lk_X11_88 : LK RX11 88 M_X11_checkMajor 1 := ⟨rfl, List.mem_of_getElem? (i := 661) (by decide +kernel), List.mem_of_getElem? (i := 663) (by decide +kernel), List.mem_of_getElem? (i := 41) (by decide +kernel), by decide, by decide +kernel, by decide +kernel, by decide +kernel⟩
theorem lks_X11_88 : LKs RX11 88 M_X11_checkMajor 1 := ⟨lk_X11_88, List.mem_of_getElem? (i := 662) (by decide +kernel)⟩
theorem lk_L_72 : LK RL 72 M_J9_min_7cf53 2 := ⟨rfl, List.mem_of_getElem? (i := 666) (by decide +kernel), List.mem_of_getElem? (i := 653) (by decide +kernel), List.mem_of_getElem? (i := 57) (by decide +kernel), by decide, by decide +kernel, by decide +kernel, by decide +kernel⟩
theorem lks_L_72 : LKs RL 72 M_J9_min_7cf53 2 := ⟨lk_L_72, List.mem_of_getElem? (i := 652) (by decide +kernel)⟩
theorem lk_L_83 : LK RL 83 M_L_adds 3 := ⟨rfl, List.mem_of_getElem? (i := 667) (by decide +kernel), List.mem_of_getElem? (i := 669) (by decide +kernel), List.mem_of_getElem? (i := 40) (by decide +kernel), by decide, by decide +kernel, by decide +kernel, by decide +kernel⟩
theorem lks_L_83 : LKs RL 83 M_L_adds 3 := ⟨lk_L_83, List.mem_of_getElem? (i := 668) (by decide +kernel)⟩
theorem lk_L_87 : LK RL 87 M_X11_markFormula 2 := ⟨rfl, List.mem_of_getElem? (i := 670) (by decide +kernel), List.mem_of_getElem? (i := 673) (by decide +kernel), List.mem_of_getElem? (i := 41) (by decide +kernel), by decide, by decide +kernel, by decide +kernel, by decide +kernel⟩
theorem lkv_L_87 : LKv RL 87 M_X11_markFormula 2 := ⟨lk_L_87, List.mem_of_getElem? (i := 671) (by decide +kernel), List.mem_of_getElem? (i := 672) (by decide +kernel)⟩
theorem lk_X11_104 : LK RX11 104 M_X11_courseAt 1 := ⟨rfl, List.mem_of_getElem? (i := 674) (by decide +kernel), List.mem_of_getElem? (i := 677) (by decide +kernel), List.mem_of_getElem? (i := 41) (by decide +kernel), by decide, by decide +kernel, by decide +kernel, by decide +kernel⟩
theorem lkv_X11_104 : LKv RX11 104 M_X11_courseAt 1 := ⟨lk_X11_104, List.mem_of_getElem? (i := 676) (by decide +kernel), List.mem_of_getElem? (i := 26) (by decide +kernel)⟩
theorem lk_X11_121 : LK RX11 121 M_X11_checkMark 1 := ⟨rfl, List.mem_of_getElem? (i := 694) (by decide +kernel), List.mem_of_getElem? (i := 696) (by decide +kernel), List.mem_of_getElem? (i := 41) (by decide +kernel), by decide, by decide +kernel, by decide +kernel, by decide +kernel⟩
theorem lks_X11_121 : LKs RX11 121 M_X11_checkMark 1 := ⟨lk_X11_121, List.mem_of_getElem? (i := 695) (by decide +kernel)⟩
theorem lk_X11_124 : LK RX11 124 M_X11_checkFormulaFits 1 := ⟨rfl, List.mem_of_getElem? (i := 698) (by decide +kernel), List.mem_of_getElem? (i := 701) (by decide +kernel), List.mem_of_getElem? (i := 41) (by decide +kernel), by decide, by decide +kernel, by decide +kernel, by decide +kernel⟩
theorem lkv_X11_124 : LKv RX11 124 M_X11_checkFormulaFits 1 := ⟨lk_X11_124, List.mem_of_getElem? (i := 700) (by decide +kernel), List.mem_of_getElem? (i := 27) (by decide +kernel)⟩
theorem lk_X11_129 : LK RX11 129 M_X5_init 2 := ⟨rfl, List.mem_of_getElem? (i := 705) (by decide +kernel), List.mem_of_getElem? (i := 707) (by decide +kernel), List.mem_of_getElem? (i := 63) (by decide +kernel), by decide, by decide +kernel, by decide +kernel, by decide +kernel⟩
theorem lki_X11_129 : LKi RX11 129 M_X5_init 2 := ⟨lk_X11_129, List.mem_of_getElem? (i := 706) (by decide +kernel), rfl, rfl⟩
theorem lk_X5_1 : LK RX5 1 M_X4_init 1 := ⟨rfl, List.mem_of_getElem? (i := 708) (by decide +kernel), List.mem_of_getElem? (i := 710) (by decide +kernel), List.mem_of_getElem? (i := 62) (by decide +kernel), by decide, by decide +kernel, by decide +kernel, by decide +kernel⟩
theorem lki_X5_1 : LKi RX5 1 M_X4_init 1 := ⟨lk_X5_1, List.mem_of_getElem? (i := 709) (by decide +kernel), rfl, rfl⟩
theorem lk_X11_132 : LK RX11 132 M_X11_keep 1 := ⟨rfl, List.mem_of_getElem? (i := 723) (by decide +kernel), List.mem_of_getElem? (i := 726) (by decide +kernel), List.mem_of_getElem? (i := 41) (by decide +kernel), by decide, by decide +kernel, by decide +kernel, by decide +kernel⟩
theorem lkv_X11_132 : LKv RX11 132 M_X11_keep 1 := ⟨lk_X11_132, List.mem_of_getElem? (i := 725) (by decide +kernel), List.mem_of_getElem? (i := 28) (by decide +kernel)⟩
theorem lk_L_90 : LK RL 90 M_X11_togetherFormula 1 := ⟨rfl, List.mem_of_getElem? (i := 727) (by decide +kernel), List.mem_of_getElem? (i := 730) (by decide +kernel), List.mem_of_getElem? (i := 41) (by decide +kernel), by decide, by decide +kernel, by decide +kernel, by decide +kernel⟩
theorem lkv_L_90 : LKv RL 90 M_X11_togetherFormula 1 := ⟨lk_L_90, List.mem_of_getElem? (i := 728) (by decide +kernel), List.mem_of_getElem? (i := 729) (by decide +kernel)⟩
theorem lk_X11_138 : LK RX11 138 M_X9_init 1 := ⟨rfl, List.mem_of_getElem? (i := 733) (by decide +kernel), List.mem_of_getElem? (i := 735) (by decide +kernel), List.mem_of_getElem? (i := 64) (by decide +kernel), by decide, by decide +kernel, by decide +kernel, by decide +kernel⟩
theorem lki_X11_138 : LKi RX11 138 M_X9_init 1 := ⟨lk_X11_138, List.mem_of_getElem? (i := 734) (by decide +kernel), rfl, rfl⟩
theorem lk_X9_1 : LK RX9 1 M_X4_init 1 := ⟨rfl, List.mem_of_getElem? (i := 736) (by decide +kernel), List.mem_of_getElem? (i := 710) (by decide +kernel), List.mem_of_getElem? (i := 62) (by decide +kernel), by decide, by decide +kernel, by decide +kernel, by decide +kernel⟩
theorem lki_X9_1 : LKi RX9 1 M_X4_init 1 := ⟨lk_X9_1, List.mem_of_getElem? (i := 709) (by decide +kernel), rfl, rfl⟩
theorem lk_L_93 : LK RL 93 M_X11_creditsFormula 1 := ⟨rfl, List.mem_of_getElem? (i := 742) (by decide +kernel), List.mem_of_getElem? (i := 745) (by decide +kernel), List.mem_of_getElem? (i := 41) (by decide +kernel), by decide, by decide +kernel, by decide +kernel, by decide +kernel⟩
theorem lkv_L_93 : LKv RL 93 M_X11_creditsFormula 1 := ⟨lk_L_93, List.mem_of_getElem? (i := 743) (by decide +kernel), List.mem_of_getElem? (i := 744) (by decide +kernel)⟩
theorem lk_X11_143 : LK RX11 143 M_X3_init 1 := ⟨rfl, List.mem_of_getElem? (i := 749) (by decide +kernel), List.mem_of_getElem? (i := 751) (by decide +kernel), List.mem_of_getElem? (i := 65) (by decide +kernel), by decide, by decide +kernel, by decide +kernel, by decide +kernel⟩
theorem lki_X11_143 : LKi RX11 143 M_X3_init 1 := ⟨lk_X11_143, List.mem_of_getElem? (i := 750) (by decide +kernel), rfl, rfl⟩
theorem lk_X3_1 : LK RX3 1 M_X4_init 1 := ⟨rfl, List.mem_of_getElem? (i := 752) (by decide +kernel), List.mem_of_getElem? (i := 710) (by decide +kernel), List.mem_of_getElem? (i := 62) (by decide +kernel), by decide, by decide +kernel, by decide +kernel, by decide +kernel⟩
theorem lki_X3_1 : LKi RX3 1 M_X4_init 1 := ⟨lk_X3_1, List.mem_of_getElem? (i := 709) (by decide +kernel), rfl, rfl⟩
theorem lk_L_96 : LK RL 96 M_X11_allFormula 2 := ⟨rfl, List.mem_of_getElem? (i := 758) (by decide +kernel), List.mem_of_getElem? (i := 761) (by decide +kernel), List.mem_of_getElem? (i := 41) (by decide +kernel), by decide, by decide +kernel, by decide +kernel, by decide +kernel⟩
theorem lkv_L_96 : LKv RL 96 M_X11_allFormula 2 := ⟨lk_L_96, List.mem_of_getElem? (i := 759) (by decide +kernel), List.mem_of_getElem? (i := 760) (by decide +kernel)⟩
theorem lk_X11_144 : LK RX11 144 M_X11_formulaAt 1 := ⟨rfl, List.mem_of_getElem? (i := 762) (by decide +kernel), List.mem_of_getElem? (i := 765) (by decide +kernel), List.mem_of_getElem? (i := 41) (by decide +kernel), by decide, by decide +kernel, by decide +kernel, by decide +kernel⟩
theorem lkv_X11_144 : LKv RX11 144 M_X11_formulaAt 1 := ⟨lk_X11_144, List.mem_of_getElem? (i := 764) (by decide +kernel), List.mem_of_getElem? (i := 29) (by decide +kernel)⟩
theorem lk_X11_161 : LK RX11 161 M_X1_init 5 := ⟨rfl, List.mem_of_getElem? (i := 784) (by decide +kernel), List.mem_of_getElem? (i := 786) (by decide +kernel), List.mem_of_getElem? (i := 67) (by decide +kernel), by decide, by decide +kernel, by decide +kernel, by decide +kernel⟩
theorem lki_X11_161 : LKi RX11 161 M_X1_init 5 := ⟨lk_X11_161, List.mem_of_getElem? (i := 785) (by decide +kernel), rfl, rfl⟩
theorem lk_X1_3 : LK RX1 3 M_X4_init 1 := ⟨rfl, List.mem_of_getElem? (i := 787) (by decide +kernel), List.mem_of_getElem? (i := 710) (by decide +kernel), List.mem_of_getElem? (i := 62) (by decide +kernel), by decide, by decide +kernel, by decide +kernel, by decide +kernel⟩
theorem lki_X1_3 : LKi RX1 3 M_X4_init 1 := ⟨lk_X1_3, List.mem_of_getElem? (i := 709) (by decide +kernel), rfl, rfl⟩
theorem lk_L_99 : LK RL 99 M_X11_anyFormula 2 := ⟨rfl, List.mem_of_getElem? (i := 802) (by decide +kernel), List.mem_of_getElem? (i := 805) (by decide +kernel), List.mem_of_getElem? (i := 41) (by decide +kernel), by decide, by decide +kernel, by decide +kernel, by decide +kernel⟩
theorem lkv_L_99 : LKv RL 99 M_X11_anyFormula 2 := ⟨lk_L_99, List.mem_of_getElem? (i := 803) (by decide +kernel), List.mem_of_getElem? (i := 804) (by decide +kernel)⟩
theorem lk_L_102 : LK RL 102 M_X11_twoFormula 3 := ⟨rfl, List.mem_of_getElem? (i := 806) (by decide +kernel), List.mem_of_getElem? (i := 809) (by decide +kernel), List.mem_of_getElem? (i := 41) (by decide +kernel), by decide, by decide +kernel, by decide +kernel, by decide +kernel⟩
theorem lkv_L_102 : LKv RL 102 M_X11_twoFormula 3 := ⟨lk_L_102, List.mem_of_getElem? (i := 807) (by decide +kernel), List.mem_of_getElem? (i := 808) (by decide +kernel)⟩
theorem lk_L_106 : LK RL 106 M_X11_noneFormula 1 := ⟨rfl, List.mem_of_getElem? (i := 810) (by decide +kernel), List.mem_of_getElem? (i := 813) (by decide +kernel), List.mem_of_getElem? (i := 41) (by decide +kernel), by decide, by decide +kernel, by decide +kernel, by decide +kernel⟩
theorem lkv_L_106 : LKv RL 106 M_X11_noneFormula 1 := ⟨lk_L_106, List.mem_of_getElem? (i := 811) (by decide +kernel), List.mem_of_getElem? (i := 812) (by decide +kernel)⟩
theorem lk_X11_166 : LK RX11 166 M_X6_init 2 := ⟨rfl, List.mem_of_getElem? (i := 816) (by decide +kernel), List.mem_of_getElem? (i := 818) (by decide +kernel), List.mem_of_getElem? (i := 68) (by decide +kernel), by decide, by decide +kernel, by decide +kernel, by decide +kernel⟩
theorem lki_X11_166 : LKi RX11 166 M_X6_init 2 := ⟨lk_X11_166, List.mem_of_getElem? (i := 817) (by decide +kernel), rfl, rfl⟩
theorem lk_X6_1 : LK RX6 1 M_X4_init 1 := ⟨rfl, List.mem_of_getElem? (i := 819) (by decide +kernel), List.mem_of_getElem? (i := 710) (by decide +kernel), List.mem_of_getElem? (i := 62) (by decide +kernel), by decide, by decide +kernel, by decide +kernel, by decide +kernel⟩
theorem lki_X6_1 : LKi RX6 1 M_X4_init 1 := ⟨lk_X6_1, List.mem_of_getElem? (i := 709) (by decide +kernel), rfl, rfl⟩
theorem lk_L_211 : LK RL 211 M_L_agrees 3 := ⟨rfl, List.mem_of_getElem? (i := 825) (by decide +kernel), List.mem_of_getElem? (i := 827) (by decide +kernel), List.mem_of_getElem? (i := 40) (by decide +kernel), by decide, by decide +kernel, by decide +kernel, by decide +kernel⟩
theorem lks_L_211 : LKs RL 211 M_L_agrees 3 := ⟨lk_L_211, List.mem_of_getElem? (i := 826) (by decide +kernel)⟩
theorem lk_L_109 : LK RL 109 M_X11_holds 2 := ⟨rfl, List.mem_of_getElem? (i := 828) (by decide +kernel), List.mem_of_getElem? (i := 831) (by decide +kernel), List.mem_of_getElem? (i := 41) (by decide +kernel), by decide, by decide +kernel, by decide +kernel, by decide +kernel⟩
theorem lkv_L_109 : LKv RL 109 M_X11_holds 2 := ⟨lk_L_109, List.mem_of_getElem? (i := 829) (by decide +kernel), List.mem_of_getElem? (i := 830) (by decide +kernel)⟩
theorem lk_X11_93 : LK RX11 93 M_X11_studentAt 1 := ⟨rfl, List.mem_of_getElem? (i := 832) (by decide +kernel), List.mem_of_getElem? (i := 835) (by decide +kernel), List.mem_of_getElem? (i := 41) (by decide +kernel), by decide, by decide +kernel, by decide +kernel, by decide +kernel⟩
theorem lkv_X11_93 : LKv RX11 93 M_X11_studentAt 1 := ⟨lk_X11_93, List.mem_of_getElem? (i := 834) (by decide +kernel), List.mem_of_getElem? (i := 30) (by decide +kernel)⟩
theorem lk_L_113 : LK RL 113 M_X12_holds 3 := ⟨rfl, List.mem_of_getElem? (i := 837) (by decide +kernel), List.mem_of_getElem? (i := 840) (by decide +kernel), List.mem_of_getElem? (i := 49) (by decide +kernel), by decide, by decide +kernel, by decide +kernel, by decide +kernel⟩
theorem lkv_L_113 : LKv RL 113 M_X12_holds 3 := ⟨lk_L_113, List.mem_of_getElem? (i := 838) (by decide +kernel), List.mem_of_getElem? (i := 839) (by decide +kernel)⟩
theorem lk_L_9 : LK RL 9 M_X11_bestMark 2 := ⟨rfl, List.mem_of_getElem? (i := 845) (by decide +kernel), List.mem_of_getElem? (i := 848) (by decide +kernel), List.mem_of_getElem? (i := 41) (by decide +kernel), by decide, by decide +kernel, by decide +kernel, by decide +kernel⟩
theorem lkv_L_9 : LKv RL 9 M_X11_bestMark 2 := ⟨lk_L_9, List.mem_of_getElem? (i := 846) (by decide +kernel), List.mem_of_getElem? (i := 847) (by decide +kernel)⟩
theorem lk_X12_43 : LK RX12 43 M_X11_isEnrolled 2 := ⟨rfl, List.mem_of_getElem? (i := 850) (by decide +kernel), List.mem_of_getElem? (i := 853) (by decide +kernel), List.mem_of_getElem? (i := 41) (by decide +kernel), by decide, by decide +kernel, by decide +kernel, by decide +kernel⟩
theorem lkv_X12_43 : LKv RX12 43 M_X11_isEnrolled 2 := ⟨lk_X12_43, List.mem_of_getElem? (i := 851) (by decide +kernel), List.mem_of_getElem? (i := 852) (by decide +kernel)⟩
theorem lk_X12_49 : LK RX12 49 M_X11_earnedCredits 1 := ⟨rfl, List.mem_of_getElem? (i := 854) (by decide +kernel), List.mem_of_getElem? (i := 857) (by decide +kernel), List.mem_of_getElem? (i := 41) (by decide +kernel), by decide, by decide +kernel, by decide +kernel, by decide +kernel⟩
theorem lkv_X12_49 : LKv RX12 49 M_X11_earnedCredits 1 := ⟨lk_X12_49, List.mem_of_getElem? (i := 855) (by decide +kernel), List.mem_of_getElem? (i := 856) (by decide +kernel)⟩
theorem lk_X12_53 : LK RX12 53 M_X12_holds 3 := ⟨rfl, List.mem_of_getElem? (i := 858) (by decide +kernel), List.mem_of_getElem? (i := 840) (by decide +kernel), List.mem_of_getElem? (i := 49) (by decide +kernel), by decide, by decide +kernel, by decide +kernel, by decide +kernel⟩
theorem lkv_X12_53 : LKv RX12 53 M_X12_holds 3 := ⟨lk_X12_53, List.mem_of_getElem? (i := 838) (by decide +kernel), List.mem_of_getElem? (i := 839) (by decide +kernel)⟩
theorem lk_L_116 : LK RL 116 M_X11_load 1 := ⟨rfl, List.mem_of_getElem? (i := 859) (by decide +kernel), List.mem_of_getElem? (i := 862) (by decide +kernel), List.mem_of_getElem? (i := 41) (by decide +kernel), by decide, by decide +kernel, by decide +kernel, by decide +kernel⟩
theorem lkv_L_116 : LKv RL 116 M_X11_load 1 := ⟨lk_L_116, List.mem_of_getElem? (i := 860) (by decide +kernel), List.mem_of_getElem? (i := 861) (by decide +kernel)⟩
theorem lk_L_119 : LK RL 119 M_X12_load 2 := ⟨rfl, List.mem_of_getElem? (i := 863) (by decide +kernel), List.mem_of_getElem? (i := 866) (by decide +kernel), List.mem_of_getElem? (i := 49) (by decide +kernel), by decide, by decide +kernel, by decide +kernel, by decide +kernel⟩
theorem lkv_L_119 : LKv RL 119 M_X12_load 2 := ⟨lk_L_119, List.mem_of_getElem? (i := 864) (by decide +kernel), List.mem_of_getElem? (i := 865) (by decide +kernel)⟩
theorem lk_L_122 : LK RL 122 M_X11_earnedCredits 1 := ⟨rfl, List.mem_of_getElem? (i := 867) (by decide +kernel), List.mem_of_getElem? (i := 857) (by decide +kernel), List.mem_of_getElem? (i := 41) (by decide +kernel), by decide, by decide +kernel, by decide +kernel, by decide +kernel⟩
theorem lkv_L_122 : LKv RL 122 M_X11_earnedCredits 1 := ⟨lk_L_122, List.mem_of_getElem? (i := 855) (by decide +kernel), List.mem_of_getElem? (i := 856) (by decide +kernel)⟩
theorem lk_L_125 : LK RL 125 M_X12_earned 2 := ⟨rfl, List.mem_of_getElem? (i := 868) (by decide +kernel), List.mem_of_getElem? (i := 871) (by decide +kernel), List.mem_of_getElem? (i := 49) (by decide +kernel), by decide, by decide +kernel, by decide +kernel, by decide +kernel⟩
theorem lkv_L_125 : LKv RL 125 M_X12_earned 2 := ⟨lk_L_125, List.mem_of_getElem? (i := 869) (by decide +kernel), List.mem_of_getElem? (i := 870) (by decide +kernel)⟩
theorem lk_L_128 : LK RL 128 M_X11_enrolled 1 := ⟨rfl, List.mem_of_getElem? (i := 872) (by decide +kernel), List.mem_of_getElem? (i := 875) (by decide +kernel), List.mem_of_getElem? (i := 41) (by decide +kernel), by decide, by decide +kernel, by decide +kernel, by decide +kernel⟩
theorem lkv_L_128 : LKv RL 128 M_X11_enrolled 1 := ⟨lk_L_128, List.mem_of_getElem? (i := 873) (by decide +kernel), List.mem_of_getElem? (i := 874) (by decide +kernel)⟩
theorem lk_L_131 : LK RL 131 M_X12_of 3 := ⟨rfl, List.mem_of_getElem? (i := 876) (by decide +kernel), List.mem_of_getElem? (i := 879) (by decide +kernel), List.mem_of_getElem? (i := 49) (by decide +kernel), by decide, by decide +kernel, by decide +kernel, by decide +kernel⟩
theorem lkv_L_131 : LKv RL 131 M_X12_of 3 := ⟨lk_L_131, List.mem_of_getElem? (i := 877) (by decide +kernel), List.mem_of_getElem? (i := 878) (by decide +kernel)⟩
theorem lk_L_135 : LK RL 135 M_X11_freeSeats 2 := ⟨rfl, List.mem_of_getElem? (i := 880) (by decide +kernel), List.mem_of_getElem? (i := 883) (by decide +kernel), List.mem_of_getElem? (i := 41) (by decide +kernel), by decide, by decide +kernel, by decide +kernel, by decide +kernel⟩
theorem lkv_L_135 : LKv RL 135 M_X11_freeSeats 2 := ⟨lk_L_135, List.mem_of_getElem? (i := 881) (by decide +kernel), List.mem_of_getElem? (i := 882) (by decide +kernel)⟩
theorem lk_L_138 : LK RL 138 M_X12_free 3 := ⟨rfl, List.mem_of_getElem? (i := 884) (by decide +kernel), List.mem_of_getElem? (i := 887) (by decide +kernel), List.mem_of_getElem? (i := 49) (by decide +kernel), by decide, by decide +kernel, by decide +kernel, by decide +kernel⟩
theorem lkv_L_138 : LKv RL 138 M_X12_free 3 := ⟨lk_L_138, List.mem_of_getElem? (i := 885) (by decide +kernel), List.mem_of_getElem? (i := 886) (by decide +kernel)⟩
theorem lk_X12_57 : LK RX12 57 M_X12_of 3 := ⟨rfl, List.mem_of_getElem? (i := 888) (by decide +kernel), List.mem_of_getElem? (i := 879) (by decide +kernel), List.mem_of_getElem? (i := 49) (by decide +kernel), by decide, by decide +kernel, by decide +kernel, by decide +kernel⟩
theorem lkv_X12_57 : LKv RX12 57 M_X12_of 3 := ⟨lk_X12_57, List.mem_of_getElem? (i := 877) (by decide +kernel), List.mem_of_getElem? (i := 878) (by decide +kernel)⟩
theorem lk_X12_60 : LK RX12 60 M_X11_day 0 := ⟨rfl, List.mem_of_getElem? (i := 889) (by decide +kernel), List.mem_of_getElem? (i := 892) (by decide +kernel), List.mem_of_getElem? (i := 41) (by decide +kernel), by decide, by decide +kernel, by decide +kernel, by decide +kernel⟩
theorem lkv_X12_60 : LKv RX12 60 M_X11_day 0 := ⟨lk_X12_60, List.mem_of_getElem? (i := 890) (by decide +kernel), List.mem_of_getElem? (i := 891) (by decide +kernel)⟩
theorem lk_X12_64 : LK RX12 64 M_J9_max_7cf53 2 := ⟨rfl, List.mem_of_getElem? (i := 893) (by decide +kernel), List.mem_of_getElem? (i := 285) (by decide +kernel), List.mem_of_getElem? (i := 57) (by decide +kernel), by decide, by decide +kernel, by decide +kernel, by decide +kernel⟩
theorem lks_X12_64 : LKs RX12 64 M_J9_max_7cf53 2 := ⟨lk_X12_64, List.mem_of_getElem? (i := 284) (by decide +kernel)⟩
theorem lk_L_141 : LK RL 141 M_X11_outcome 2 := ⟨rfl, List.mem_of_getElem? (i := 894) (by decide +kernel), List.mem_of_getElem? (i := 897) (by decide +kernel), List.mem_of_getElem? (i := 41) (by decide +kernel), by decide, by decide +kernel, by decide +kernel, by decide +kernel⟩
theorem lkv_L_141 : LKv RL 141 M_X11_outcome 2 := ⟨lk_L_141, List.mem_of_getElem? (i := 895) (by decide +kernel), List.mem_of_getElem? (i := 896) (by decide +kernel)⟩
theorem lk_X11_191 : LK RX11 191 M_X11_letterFor 2 := ⟨rfl, List.mem_of_getElem? (i := 898) (by decide +kernel), List.mem_of_getElem? (i := 901) (by decide +kernel), List.mem_of_getElem? (i := 41) (by decide +kernel), by decide, by decide +kernel, by decide +kernel, by decide +kernel⟩
theorem lkv_X11_191 : LKv RX11 191 M_X11_letterFor 2 := ⟨lk_X11_191, List.mem_of_getElem? (i := 900) (by decide +kernel), List.mem_of_getElem? (i := 31) (by decide +kernel)⟩
theorem lk_X11_220 : LK RX11 220 M_X2_placeFor 1 := ⟨rfl, List.mem_of_getElem? (i := 902) (by decide +kernel), List.mem_of_getElem? (i := 905) (by decide +kernel), List.mem_of_getElem? (i := 55) (by decide +kernel), by decide, by decide +kernel, by decide +kernel, by decide +kernel⟩
theorem lkv_X11_220 : LKv RX11 220 M_X2_placeFor 1 := ⟨lk_X11_220, List.mem_of_getElem? (i := 903) (by decide +kernel), List.mem_of_getElem? (i := 904) (by decide +kernel)⟩
theorem lk_X2_35 : LK RX2 35 M_Jx4a65c_size_8abf5 0 := ⟨rfl, List.mem_of_getElem? (i := 906) (by decide +kernel), List.mem_of_getElem? (i := 247) (by decide +kernel), List.mem_of_getElem? (i := 44) (by decide +kernel), by decide, by decide +kernel, by decide +kernel, by decide +kernel⟩
theorem lkv_X2_35 : LKv RX2 35 M_Jx4a65c_size_8abf5 0 := ⟨lk_X2_35, List.mem_of_getElem? (i := 245) (by decide +kernel), List.mem_of_getElem? (i := 246) (by decide +kernel)⟩
theorem lk_X2_39 : LK RX2 39 M_Jx4a65c_get_915e3 1 := ⟨rfl, List.mem_of_getElem? (i := 907) (by decide +kernel), List.mem_of_getElem? (i := 251) (by decide +kernel), List.mem_of_getElem? (i := 44) (by decide +kernel), by decide, by decide +kernel, by decide +kernel, by decide +kernel⟩
theorem lkv_X2_39 : LKv RX2 39 M_Jx4a65c_get_915e3 1 := ⟨lk_X2_39, List.mem_of_getElem? (i := 249) (by decide +kernel), List.mem_of_getElem? (i := 250) (by decide +kernel)⟩
theorem lk_L_144 : LK RL 144 M_X12_would 3 := ⟨rfl, List.mem_of_getElem? (i := 908) (by decide +kernel), List.mem_of_getElem? (i := 911) (by decide +kernel), List.mem_of_getElem? (i := 49) (by decide +kernel), by decide, by decide +kernel, by decide +kernel, by decide +kernel⟩
theorem lkv_L_144 : LKv RL 144 M_X12_would 3 := ⟨lk_L_144, List.mem_of_getElem? (i := 909) (by decide +kernel), List.mem_of_getElem? (i := 910) (by decide +kernel)⟩
theorem lk_L_34 : LK RL 34 M_X11_placeOf 2 := ⟨rfl, List.mem_of_getElem? (i := 915) (by decide +kernel), List.mem_of_getElem? (i := 918) (by decide +kernel), List.mem_of_getElem? (i := 41) (by decide +kernel), by decide, by decide +kernel, by decide +kernel, by decide +kernel⟩
theorem lkv_L_34 : LKv RL 34 M_X11_placeOf 2 := ⟨lk_L_34, List.mem_of_getElem? (i := 916) (by decide +kernel), List.mem_of_getElem? (i := 917) (by decide +kernel)⟩
theorem lk_X12_73 : LK RX12 73 M_X12_may 3 := ⟨rfl, List.mem_of_getElem? (i := 920) (by decide +kernel), List.mem_of_getElem? (i := 923) (by decide +kernel), List.mem_of_getElem? (i := 49) (by decide +kernel), by decide, by decide +kernel, by decide +kernel, by decide +kernel⟩
theorem lkv_X12_73 : LKv RX12 73 M_X12_may 3 := ⟨lk_X12_73, List.mem_of_getElem? (i := 921) (by decide +kernel), List.mem_of_getElem? (i := 922) (by decide +kernel)⟩
theorem lk_X12_76 : LK RX12 76 M_X11_attempts 2 := ⟨rfl, List.mem_of_getElem? (i := 924) (by decide +kernel), List.mem_of_getElem? (i := 927) (by decide +kernel), List.mem_of_getElem? (i := 41) (by decide +kernel), by decide, by decide +kernel, by decide +kernel, by decide +kernel⟩
theorem lkv_X12_76 : LKv RX12 76 M_X11_attempts 2 := ⟨lk_X12_76, List.mem_of_getElem? (i := 925) (by decide +kernel), List.mem_of_getElem? (i := 926) (by decide +kernel)⟩
theorem lk_X12_79 : LK RX12 79 M_X12_load 2 := ⟨rfl, List.mem_of_getElem? (i := 928) (by decide +kernel), List.mem_of_getElem? (i := 866) (by decide +kernel), List.mem_of_getElem? (i := 49) (by decide +kernel), by decide, by decide +kernel, by decide +kernel, by decide +kernel⟩
theorem lkv_X12_79 : LKv RX12 79 M_X12_load 2 := ⟨lk_X12_79, List.mem_of_getElem? (i := 864) (by decide +kernel), List.mem_of_getElem? (i := 865) (by decide +kernel)⟩
theorem lk_X12_83 : LK RX12 83 M_X12_free 3 := ⟨rfl, List.mem_of_getElem? (i := 929) (by decide +kernel), List.mem_of_getElem? (i := 887) (by decide +kernel), List.mem_of_getElem? (i := 49) (by decide +kernel), by decide, by decide +kernel, by decide +kernel, by decide +kernel⟩
theorem lkv_X12_83 : LKv RX12 83 M_X12_free 3 := ⟨lk_X12_83, List.mem_of_getElem? (i := 885) (by decide +kernel), List.mem_of_getElem? (i := 886) (by decide +kernel)⟩
theorem lk_X12_86 : LK RX12 86 M_X11_waiting 1 := ⟨rfl, List.mem_of_getElem? (i := 930) (by decide +kernel), List.mem_of_getElem? (i := 933) (by decide +kernel), List.mem_of_getElem? (i := 41) (by decide +kernel), by decide, by decide +kernel, by decide +kernel, by decide +kernel⟩
theorem lkv_X12_86 : LKv RX12 86 M_X11_waiting 1 := ⟨lk_X12_86, List.mem_of_getElem? (i := 931) (by decide +kernel), List.mem_of_getElem? (i := 932) (by decide +kernel)⟩
theorem lk_L_148 : LK RL 148 M_X11_waiting 1 := ⟨rfl, List.mem_of_getElem? (i := 934) (by decide +kernel), List.mem_of_getElem? (i := 933) (by decide +kernel), List.mem_of_getElem? (i := 41) (by decide +kernel), by decide, by decide +kernel, by decide +kernel, by decide +kernel⟩
theorem lkv_L_148 : LKv RL 148 M_X11_waiting 1 := ⟨lk_L_148, List.mem_of_getElem? (i := 931) (by decide +kernel), List.mem_of_getElem? (i := 932) (by decide +kernel)⟩
theorem lk_L_154 : LK RL 154 M_X11_isEnrolled 2 := ⟨rfl, List.mem_of_getElem? (i := 936) (by decide +kernel), List.mem_of_getElem? (i := 853) (by decide +kernel), List.mem_of_getElem? (i := 41) (by decide +kernel), by decide, by decide +kernel, by decide +kernel, by decide +kernel⟩
theorem lkv_L_154 : LKv RL 154 M_X11_isEnrolled 2 := ⟨lk_L_154, List.mem_of_getElem? (i := 851) (by decide +kernel), List.mem_of_getElem? (i := 852) (by decide +kernel)⟩
theorem lk_L_157 : LK RL 157 M_X11_day 0 := ⟨rfl, List.mem_of_getElem? (i := 937) (by decide +kernel), List.mem_of_getElem? (i := 892) (by decide +kernel), List.mem_of_getElem? (i := 41) (by decide +kernel), by decide, by decide +kernel, by decide +kernel, by decide +kernel⟩
theorem lkv_L_157 : LKv RL 157 M_X11_day 0 := ⟨lk_L_157, List.mem_of_getElem? (i := 890) (by decide +kernel), List.mem_of_getElem? (i := 891) (by decide +kernel)⟩
theorem lk_L_161 : LK RL 161 M_X12_may 3 := ⟨rfl, List.mem_of_getElem? (i := 938) (by decide +kernel), List.mem_of_getElem? (i := 923) (by decide +kernel), List.mem_of_getElem? (i := 49) (by decide +kernel), by decide, by decide +kernel, by decide +kernel, by decide +kernel⟩
theorem lkv_L_161 : LKv RL 161 M_X12_may 3 := ⟨lk_L_161, List.mem_of_getElem? (i := 921) (by decide +kernel), List.mem_of_getElem? (i := 922) (by decide +kernel)⟩
theorem lk_L_215 : LK RL 215 M_L_enrolls 4 := ⟨rfl, List.mem_of_getElem? (i := 939) (by decide +kernel), List.mem_of_getElem? (i := 941) (by decide +kernel), List.mem_of_getElem? (i := 40) (by decide +kernel), by decide, by decide +kernel, by decide +kernel, by decide +kernel⟩
theorem lks_L_215 : LKs RL 215 M_L_enrolls 4 := ⟨lk_L_215, List.mem_of_getElem? (i := 940) (by decide +kernel)⟩
theorem lk_L_17 : LK RL 17 M_X11_enroll 2 := ⟨rfl, List.mem_of_getElem? (i := 983) (by decide +kernel), List.mem_of_getElem? (i := 986) (by decide +kernel), List.mem_of_getElem? (i := 41) (by decide +kernel), by decide, by decide +kernel, by decide +kernel, by decide +kernel⟩
theorem lkv_L_17 : LKv RL 17 M_X11_enroll 2 := ⟨lk_L_17, List.mem_of_getElem? (i := 984) (by decide +kernel), List.mem_of_getElem? (i := 985) (by decide +kernel)⟩
theorem lk_X11_101 : LK RX11 101 M_X11_giveOutSeats 0 := ⟨rfl, List.mem_of_getElem? (i := 1009) (by decide +kernel), List.mem_of_getElem? (i := 1012) (by decide +kernel), List.mem_of_getElem? (i := 41) (by decide +kernel), by decide, by decide +kernel, by decide +kernel, by decide +kernel⟩
theorem lkv_X11_101 : LKv RX11 101 M_X11_giveOutSeats 0 := ⟨lk_X11_101, List.mem_of_getElem? (i := 1011) (by decide +kernel), List.mem_of_getElem? (i := 32) (by decide +kernel)⟩
theorem lk_X11_434 : LK RX11 434 M_X11_giveSeatIn 1 := ⟨rfl, List.mem_of_getElem? (i := 1013) (by decide +kernel), List.mem_of_getElem? (i := 1016) (by decide +kernel), List.mem_of_getElem? (i := 41) (by decide +kernel), by decide, by decide +kernel, by decide +kernel, by decide +kernel⟩
theorem lkv_X11_434 : LKv RX11 434 M_X11_giveSeatIn 1 := ⟨lk_X11_434, List.mem_of_getElem? (i := 1015) (by decide +kernel), List.mem_of_getElem? (i := 33) (by decide +kernel)⟩
theorem lk_X11_440 : LK RX11 440 M_Jx4a65c_remove_915e3 1 := ⟨rfl, List.mem_of_getElem? (i := 1017) (by decide +kernel), List.mem_of_getElem? (i := 1020) (by decide +kernel), List.mem_of_getElem? (i := 44) (by decide +kernel), by decide, by decide +kernel, by decide +kernel, by decide +kernel⟩
theorem lkv_X11_440 : LKv RX11 440 M_Jx4a65c_remove_915e3 1 := ⟨lk_X11_440, List.mem_of_getElem? (i := 1018) (by decide +kernel), List.mem_of_getElem? (i := 1019) (by decide +kernel)⟩
theorem lk_Jx4a65c_144 : LK RJx4a65c 144 M_Jx4a65c_fastRemove_b59b0 2 := ⟨rfl, List.mem_of_getElem? (i := 1021) (by decide +kernel), List.mem_of_getElem? (i := 1024) (by decide +kernel), List.mem_of_getElem? (i := 44) (by decide +kernel), by decide, by decide +kernel, by decide +kernel, by decide +kernel⟩
theorem lkv_Jx4a65c_144 : LKv RJx4a65c 144 M_Jx4a65c_fastRemove_b59b0 2 := ⟨lk_Jx4a65c_144, List.mem_of_getElem? (i := 1023) (by decide +kernel), List.mem_of_getElem? (i := 34) (by decide +kernel)⟩
theorem lk_L_219 : LK RL 219 M_L_drops 4 := ⟨rfl, List.mem_of_getElem? (i := 1026) (by decide +kernel), List.mem_of_getElem? (i := 1028) (by decide +kernel), List.mem_of_getElem? (i := 40) (by decide +kernel), by decide, by decide +kernel, by decide +kernel, by decide +kernel⟩
theorem lks_L_219 : LKs RL 219 M_L_drops 4 := ⟨lk_L_219, List.mem_of_getElem? (i := 1027) (by decide +kernel)⟩
theorem lk_L_166 : LK RL 166 M_X11_attempts 2 := ⟨rfl, List.mem_of_getElem? (i := 1029) (by decide +kernel), List.mem_of_getElem? (i := 927) (by decide +kernel), List.mem_of_getElem? (i := 41) (by decide +kernel), by decide, by decide +kernel, by decide +kernel, by decide +kernel⟩
theorem lkv_L_166 : LKv RL 166 M_X11_attempts 2 := ⟨lk_L_166, List.mem_of_getElem? (i := 925) (by decide +kernel), List.mem_of_getElem? (i := 926) (by decide +kernel)⟩
theorem lk_L_169 : LK RL 169 M_X11_drop 2 := ⟨rfl, List.mem_of_getElem? (i := 1030) (by decide +kernel), List.mem_of_getElem? (i := 1033) (by decide +kernel), List.mem_of_getElem? (i := 41) (by decide +kernel), by decide, by decide +kernel, by decide +kernel, by decide +kernel⟩
theorem lkv_L_169 : LKv RL 169 M_X11_drop 2 := ⟨lk_L_169, List.mem_of_getElem? (i := 1031) (by decide +kernel), List.mem_of_getElem? (i := 1032) (by decide +kernel)⟩
theorem lk_X11_228 : LK RX11 228 M_X11_endWithOthers 2 := ⟨rfl, List.mem_of_getElem? (i := 1036) (by decide +kernel), List.mem_of_getElem? (i := 1039) (by decide +kernel), List.mem_of_getElem? (i := 41) (by decide +kernel), by decide, by decide +kernel, by decide +kernel, by decide +kernel⟩
theorem lkv_X11_228 : LKv RX11 228 M_X11_endWithOthers 2 := ⟨lk_X11_228, List.mem_of_getElem? (i := 1038) (by decide +kernel), List.mem_of_getElem? (i := 35) (by decide +kernel)⟩
theorem lk_X11_236 : LK RX11 236 M_X11_isWithdrawalDay 0 := ⟨rfl, List.mem_of_getElem? (i := 1040) (by decide +kernel), List.mem_of_getElem? (i := 1043) (by decide +kernel), List.mem_of_getElem? (i := 41) (by decide +kernel), by decide, by decide +kernel, by decide +kernel, by decide +kernel⟩
theorem lkv_X11_236 : LKv RX11 236 M_X11_isWithdrawalDay 0 := ⟨lk_X11_236, List.mem_of_getElem? (i := 1042) (by decide +kernel), List.mem_of_getElem? (i := 36) (by decide +kernel)⟩
theorem lk_X11_422 : LK RX11 422 M_X8_addAttempt 2 := ⟨rfl, List.mem_of_getElem? (i := 1044) (by decide +kernel), List.mem_of_getElem? (i := 1047) (by decide +kernel), List.mem_of_getElem? (i := 45) (by decide +kernel), by decide, by decide +kernel, by decide +kernel, by decide +kernel⟩
theorem lkv_X11_422 : LKv RX11 422 M_X8_addAttempt 2 := ⟨lk_X11_422, List.mem_of_getElem? (i := 1045) (by decide +kernel), List.mem_of_getElem? (i := 1046) (by decide +kernel)⟩
theorem lk_X8_43 : LK RX8 43 M_J9_max_7cf53 2 := ⟨rfl, List.mem_of_getElem? (i := 1048) (by decide +kernel), List.mem_of_getElem? (i := 285) (by decide +kernel), List.mem_of_getElem? (i := 57) (by decide +kernel), by decide, by decide +kernel, by decide +kernel, by decide +kernel⟩
theorem lks_X8_43 : LKs RX8 43 M_J9_max_7cf53 2 := ⟨lk_X8_43, List.mem_of_getElem? (i := 284) (by decide +kernel)⟩
theorem lk_X11_446 : LK RX11 446 M_X11_firstUnmet 1 := ⟨rfl, List.mem_of_getElem? (i := 1049) (by decide +kernel), List.mem_of_getElem? (i := 1052) (by decide +kernel), List.mem_of_getElem? (i := 41) (by decide +kernel), by decide, by decide +kernel, by decide +kernel, by decide +kernel⟩
theorem lkv_X11_446 : LKv RX11 446 M_X11_firstUnmet 1 := ⟨lk_X11_446, List.mem_of_getElem? (i := 1051) (by decide +kernel), List.mem_of_getElem? (i := 37) (by decide +kernel)⟩
theorem lk_X11_232 : LK RX11 232 M_X2_stopWaiting 1 := ⟨rfl, List.mem_of_getElem? (i := 1053) (by decide +kernel), List.mem_of_getElem? (i := 1056) (by decide +kernel), List.mem_of_getElem? (i := 55) (by decide +kernel), by decide, by decide +kernel, by decide +kernel, by decide +kernel⟩
theorem lkv_X11_232 : LKv RX11 232 M_X2_stopWaiting 1 := ⟨lk_X11_232, List.mem_of_getElem? (i := 1054) (by decide +kernel), List.mem_of_getElem? (i := 1055) (by decide +kernel)⟩
theorem lk_X2_43 : LK RX2 43 M_X2_placeFor 1 := ⟨rfl, List.mem_of_getElem? (i := 1057) (by decide +kernel), List.mem_of_getElem? (i := 905) (by decide +kernel), List.mem_of_getElem? (i := 55) (by decide +kernel), by decide, by decide +kernel, by decide +kernel, by decide +kernel⟩
theorem lkv_X2_43 : LKv RX2 43 M_X2_placeFor 1 := ⟨lk_X2_43, List.mem_of_getElem? (i := 903) (by decide +kernel), List.mem_of_getElem? (i := 904) (by decide +kernel)⟩
theorem lk_X2_47 : LK RX2 47 M_Jx4a65c_remove_915e3 1 := ⟨rfl, List.mem_of_getElem? (i := 1058) (by decide +kernel), List.mem_of_getElem? (i := 1020) (by decide +kernel), List.mem_of_getElem? (i := 44) (by decide +kernel), by decide, by decide +kernel, by decide +kernel, by decide +kernel⟩
theorem lkv_X2_47 : LKv RX2 47 M_Jx4a65c_remove_915e3 1 := ⟨lk_X2_47, List.mem_of_getElem? (i := 1018) (by decide +kernel), List.mem_of_getElem? (i := 1019) (by decide +kernel)⟩
theorem lk_L_222 : LK RL 222 M_L_ends 3 := ⟨rfl, List.mem_of_getElem? (i := 1059) (by decide +kernel), List.mem_of_getElem? (i := 1061) (by decide +kernel), List.mem_of_getElem? (i := 40) (by decide +kernel), by decide, by decide +kernel, by decide +kernel, by decide +kernel⟩
theorem lks_L_222 : LKs RL 222 M_L_ends 3 := ⟨lk_L_222, List.mem_of_getElem? (i := 1060) (by decide +kernel)⟩
theorem lk_L_172 : LK RL 172 M_X11_pass 1 := ⟨rfl, List.mem_of_getElem? (i := 1062) (by decide +kernel), List.mem_of_getElem? (i := 1065) (by decide +kernel), List.mem_of_getElem? (i := 41) (by decide +kernel), by decide, by decide +kernel, by decide +kernel, by decide +kernel⟩
theorem lkv_L_172 : LKv RL 172 M_X11_pass 1 := ⟨lk_L_172, List.mem_of_getElem? (i := 1063) (by decide +kernel), List.mem_of_getElem? (i := 1064) (by decide +kernel)⟩
theorem lk_X11_185 : LK RX11 185 M_X11_emptyWaitingLists 0 := ⟨rfl, List.mem_of_getElem? (i := 1068) (by decide +kernel), List.mem_of_getElem? (i := 1071) (by decide +kernel), List.mem_of_getElem? (i := 41) (by decide +kernel), by decide, by decide +kernel, by decide +kernel, by decide +kernel⟩
theorem lkv_X11_185 : LKv RX11 185 M_X11_emptyWaitingLists 0 := ⟨lk_X11_185, List.mem_of_getElem? (i := 1070) (by decide +kernel), List.mem_of_getElem? (i := 38) (by decide +kernel)⟩
theorem lk_X11_443 : LK RX11 443 M_Jx4a65c_clear_da8c8 0 := ⟨rfl, List.mem_of_getElem? (i := 1072) (by decide +kernel), List.mem_of_getElem? (i := 1075) (by decide +kernel), List.mem_of_getElem? (i := 44) (by decide +kernel), by decide, by decide +kernel, by decide +kernel, by decide +kernel⟩
theorem lkv_X11_443 : LKv RX11 443 M_Jx4a65c_clear_da8c8 0 := ⟨lk_X11_443, List.mem_of_getElem? (i := 1073) (by decide +kernel), List.mem_of_getElem? (i := 1074) (by decide +kernel)⟩
theorem lk_L_175 : LK RL 175 M_X11_mark 3 := ⟨rfl, List.mem_of_getElem? (i := 1076) (by decide +kernel), List.mem_of_getElem? (i := 1079) (by decide +kernel), List.mem_of_getElem? (i := 41) (by decide +kernel), by decide, by decide +kernel, by decide +kernel, by decide +kernel⟩
theorem lkv_L_175 : LKv RL 175 M_X11_mark 3 := ⟨lk_L_175, List.mem_of_getElem? (i := 1077) (by decide +kernel), List.mem_of_getElem? (i := 1078) (by decide +kernel)⟩
theorem lk_L_179 : LK RL 179 M_X11_endTerm 0 := ⟨rfl, List.mem_of_getElem? (i := 1082) (by decide +kernel), List.mem_of_getElem? (i := 1085) (by decide +kernel), List.mem_of_getElem? (i := 41) (by decide +kernel), by decide, by decide +kernel, by decide +kernel, by decide +kernel⟩
theorem lkv_L_179 : LKv RL 179 M_X11_endTerm 0 := ⟨lk_L_179, List.mem_of_getElem? (i := 1083) (by decide +kernel), List.mem_of_getElem? (i := 1084) (by decide +kernel)⟩
theorem lk_X11_280 : LK RX11 280 M_X8_closeTerm 0 := ⟨rfl, List.mem_of_getElem? (i := 1086) (by decide +kernel), List.mem_of_getElem? (i := 1089) (by decide +kernel), List.mem_of_getElem? (i := 45) (by decide +kernel), by decide, by decide +kernel, by decide +kernel, by decide +kernel⟩
theorem lkv_X11_280 : LKv RX11 280 M_X8_closeTerm 0 := ⟨lk_X11_280, List.mem_of_getElem? (i := 1087) (by decide +kernel), List.mem_of_getElem? (i := 1088) (by decide +kernel)⟩
theorem lk_X8_49 : LK RX8 49 M_X8_addAttempt 2 := ⟨rfl, List.mem_of_getElem? (i := 1090) (by decide +kernel), List.mem_of_getElem? (i := 1047) (by decide +kernel), List.mem_of_getElem? (i := 45) (by decide +kernel), by decide, by decide +kernel, by decide +kernel, by decide +kernel⟩
theorem lkv_X8_49 : LKv RX8 49 M_X8_addAttempt 2 := ⟨lk_X8_49, List.mem_of_getElem? (i := 1045) (by decide +kernel), List.mem_of_getElem? (i := 1046) (by decide +kernel)⟩
theorem lk_L_225 : LK RL 225 M_L_changes 3 := ⟨rfl, List.mem_of_getElem? (i := 1091) (by decide +kernel), List.mem_of_getElem? (i := 1093) (by decide +kernel), List.mem_of_getElem? (i := 40) (by decide +kernel), by decide, by decide +kernel, by decide +kernel, by decide +kernel⟩
theorem lks_L_225 : LKs RL 225 M_L_changes 3 := ⟨lk_L_225, List.mem_of_getElem? (i := 1092) (by decide +kernel)⟩
theorem lk_L_185 : LK RL 185 M_X11_reserve 3 := ⟨rfl, List.mem_of_getElem? (i := 1094) (by decide +kernel), List.mem_of_getElem? (i := 1097) (by decide +kernel), List.mem_of_getElem? (i := 41) (by decide +kernel), by decide, by decide +kernel, by decide +kernel, by decide +kernel⟩
theorem lkv_L_185 : LKv RL 185 M_X11_reserve 3 := ⟨lk_L_185, List.mem_of_getElem? (i := 1095) (by decide +kernel), List.mem_of_getElem? (i := 1096) (by decide +kernel)⟩
theorem lk_X11_116 : LK RX11 116 M_X2_allReserved 0 := ⟨rfl, List.mem_of_getElem? (i := 1099) (by decide +kernel), List.mem_of_getElem? (i := 1102) (by decide +kernel), List.mem_of_getElem? (i := 55) (by decide +kernel), by decide, by decide +kernel, by decide +kernel, by decide +kernel⟩
theorem lkv_X11_116 : LKv RX11 116 M_X2_allReserved 0 := ⟨lk_X11_116, List.mem_of_getElem? (i := 1100) (by decide +kernel), List.mem_of_getElem? (i := 1101) (by decide +kernel)⟩
theorem lk_L_191 : LK RL 191 M_X11_require 2 := ⟨rfl, List.mem_of_getElem? (i := 1104) (by decide +kernel), List.mem_of_getElem? (i := 1107) (by decide +kernel), List.mem_of_getElem? (i := 41) (by decide +kernel), by decide, by decide +kernel, by decide +kernel, by decide +kernel⟩
theorem lkv_L_191 : LKv RL 191 M_X11_require 2 := ⟨lk_L_191, List.mem_of_getElem? (i := 1105) (by decide +kernel), List.mem_of_getElem? (i := 1106) (by decide +kernel)⟩
theorem lk_L_194 : LK RL 194 M_X11_lift 1 := ⟨rfl, List.mem_of_getElem? (i := 1108) (by decide +kernel), List.mem_of_getElem? (i := 1111) (by decide +kernel), List.mem_of_getElem? (i := 41) (by decide +kernel), by decide, by decide +kernel, by decide +kernel, by decide +kernel⟩
theorem lkv_L_194 : LKv RL 194 M_X11_lift 1 := ⟨lk_L_194, List.mem_of_getElem? (i := 1109) (by decide +kernel), List.mem_of_getElem? (i := 1110) (by decide +kernel)⟩
theorem lk_L_198 : LK RL 198 M_X11_changeMajor 2 := ⟨rfl, List.mem_of_getElem? (i := 1112) (by decide +kernel), List.mem_of_getElem? (i := 1115) (by decide +kernel), List.mem_of_getElem? (i := 41) (by decide +kernel), by decide, by decide +kernel, by decide +kernel, by decide +kernel⟩
theorem lkv_L_198 : LKv RL 198 M_X11_changeMajor 2 := ⟨lk_L_198, List.mem_of_getElem? (i := 1113) (by decide +kernel), List.mem_of_getElem? (i := 1114) (by decide +kernel)⟩
theorem lk_L_31 : LK RL 31 M_X11_moveIn 2 := ⟨rfl, List.mem_of_getElem? (i := 1120) (by decide +kernel), List.mem_of_getElem? (i := 1123) (by decide +kernel), List.mem_of_getElem? (i := 41) (by decide +kernel), by decide, by decide +kernel, by decide +kernel, by decide +kernel⟩
theorem lkv_L_31 : LKv RL 31 M_X11_moveIn 2 := ⟨lk_L_31, List.mem_of_getElem? (i := 1121) (by decide +kernel), List.mem_of_getElem? (i := 1122) (by decide +kernel)⟩
theorem lk_X11_289 : LK RX11 289 M_X11_creditsMovedIn 1 := ⟨rfl, List.mem_of_getElem? (i := 1125) (by decide +kernel), List.mem_of_getElem? (i := 1128) (by decide +kernel), List.mem_of_getElem? (i := 41) (by decide +kernel), by decide, by decide +kernel, by decide +kernel, by decide +kernel⟩
theorem lkv_X11_289 : LKv RX11 289 M_X11_creditsMovedIn 1 := ⟨lk_X11_289, List.mem_of_getElem? (i := 1127) (by decide +kernel), List.mem_of_getElem? (i := 39) (by decide +kernel)⟩
theorem lk_X11_297 : LK RX11 297 M_X8_moveCreditIn 1 := ⟨rfl, List.mem_of_getElem? (i := 1130) (by decide +kernel), List.mem_of_getElem? (i := 1133) (by decide +kernel), List.mem_of_getElem? (i := 45) (by decide +kernel), by decide, by decide +kernel, by decide +kernel, by decide +kernel⟩
theorem lkv_X11_297 : LKv RX11 297 M_X8_moveCreditIn 1 := ⟨lk_X11_297, List.mem_of_getElem? (i := 1131) (by decide +kernel), List.mem_of_getElem? (i := 1132) (by decide +kernel)⟩
theorem at_X11_63_67 : (∀ w ∈ vx_atS RX11 67 "java/lang/IllegalArgumentException" ["java/lang/RuntimeException", "java/lang/Exception"], w ∈ lw_tbl ∧ pw w = true) ∧ (∀ w ∈ Cond.classLink RX11 63 "java/lang/IllegalArgumentException" :: Cond.initialized "java/lang/IllegalArgumentException" :: vx_atS RX11 67 "java/lang/IllegalArgumentException" ["java/lang/RuntimeException", "java/lang/Exception"], vx_ot w = true) := ⟨by decide +kernel, by decide +kernel⟩
theorem th_X11_63_65_67 : TH RX11 63 65 67 "java/lang/IllegalArgumentException" "credits or seats are out of range" ["java/lang/RuntimeException", "java/lang/Exception"] := ⟨by decide +kernel, by decide +kernel, List.mem_of_getElem? (i := 475) (by decide +kernel), List.mem_of_getElem? (i := 53) (by decide +kernel), by decide +kernel, at_X11_63_67.1, at_X11_63_67.2⟩
theorem at_X11_74_78 : (∀ w ∈ vx_atS RX11 78 "java/lang/IllegalStateException" ["java/lang/RuntimeException", "java/lang/Exception"], w ∈ lw_tbl ∧ pw w = true) ∧ (∀ w ∈ Cond.classLink RX11 74 "java/lang/IllegalStateException" :: Cond.initialized "java/lang/IllegalStateException" :: vx_atS RX11 78 "java/lang/IllegalStateException" ["java/lang/RuntimeException", "java/lang/Exception"], vx_ot w = true) := ⟨by decide +kernel, by decide +kernel⟩
theorem th_X11_74_76_78 : TH RX11 74 76 78 "java/lang/IllegalStateException" "there are as many courses as there can be" ["java/lang/RuntimeException", "java/lang/Exception"] := ⟨by decide +kernel, by decide +kernel, List.mem_of_getElem? (i := 547) (by decide +kernel), List.mem_of_getElem? (i := 54) (by decide +kernel), by decide +kernel, at_X11_74_78.1, at_X11_74_78.2⟩
theorem th_X11_74_91_78 : TH RX11 74 91 78 "java/lang/IllegalStateException" "there are as many students as there can be" ["java/lang/RuntimeException", "java/lang/Exception"] := ⟨by decide +kernel, by decide +kernel, List.mem_of_getElem? (i := 547) (by decide +kernel), List.mem_of_getElem? (i := 54) (by decide +kernel), by decide +kernel, at_X11_74_78.1, at_X11_74_78.2⟩
theorem th_X11_63_108_67 : TH RX11 63 108 67 "java/lang/IllegalArgumentException" "there is no such number of seats" ["java/lang/RuntimeException", "java/lang/Exception"] := ⟨by decide +kernel, by decide +kernel, List.mem_of_getElem? (i := 475) (by decide +kernel), List.mem_of_getElem? (i := 53) (by decide +kernel), by decide +kernel, at_X11_63_67.1, at_X11_63_67.2⟩
theorem th_X11_74_119_78 : TH RX11 74 119 78 "java/lang/IllegalStateException" "the course has too few seats" ["java/lang/RuntimeException", "java/lang/Exception"] := ⟨by decide +kernel, by decide +kernel, List.mem_of_getElem? (i := 547) (by decide +kernel), List.mem_of_getElem? (i := 54) (by decide +kernel), by decide +kernel, at_X11_74_78.1, at_X11_74_78.2⟩
theorem th_X11_63_139_67 : TH RX11 63 139 67 "java/lang/IllegalArgumentException" "the credits are out of range" ["java/lang/RuntimeException", "java/lang/Exception"] := ⟨by decide +kernel, by decide +kernel, List.mem_of_getElem? (i := 475) (by decide +kernel), List.mem_of_getElem? (i := 53) (by decide +kernel), by decide +kernel, at_X11_63_67.1, at_X11_63_67.2⟩
theorem th_X11_63_178_67 : TH RX11 63 178 67 "java/lang/IllegalArgumentException" "at least one day must pass" ["java/lang/RuntimeException", "java/lang/Exception"] := ⟨by decide +kernel, by decide +kernel, List.mem_of_getElem? (i := 475) (by decide +kernel), List.mem_of_getElem? (i := 53) (by decide +kernel), by decide +kernel, at_X11_63_67.1, at_X11_63_67.2⟩
theorem th_X11_74_183_78 : TH RX11 74 183 78 "java/lang/IllegalStateException" "the term has too few days" ["java/lang/RuntimeException", "java/lang/Exception"] := ⟨by decide +kernel, by decide +kernel, List.mem_of_getElem? (i := 547) (by decide +kernel), List.mem_of_getElem? (i := 54) (by decide +kernel), by decide +kernel, at_X11_74_78.1, at_X11_74_78.2⟩
theorem th_X11_74_195_78 : TH RX11 74 195 78 "java/lang/IllegalStateException" "the days of enrollment are over" ["java/lang/RuntimeException", "java/lang/Exception"] := ⟨by decide +kernel, by decide +kernel, List.mem_of_getElem? (i := 547) (by decide +kernel), List.mem_of_getElem? (i := 54) (by decide +kernel), by decide +kernel, at_X11_74_78.1, at_X11_74_78.2⟩
theorem th_X11_63_197_67 : TH RX11 63 197 67 "java/lang/IllegalArgumentException" "the student is enrolled or waiting" ["java/lang/RuntimeException", "java/lang/Exception"] := ⟨by decide +kernel, by decide +kernel, List.mem_of_getElem? (i := 475) (by decide +kernel), List.mem_of_getElem? (i := 53) (by decide +kernel), by decide +kernel, at_X11_63_67.1, at_X11_63_67.2⟩
theorem at_X11_199_203 : (∀ w ∈ vx_atS RX11 203 "java/lang/UnsupportedOperationException" ["java/lang/RuntimeException", "java/lang/Exception"], w ∈ lw_tbl ∧ pw w = true) ∧ (∀ w ∈ Cond.classLink RX11 199 "java/lang/UnsupportedOperationException" :: Cond.initialized "java/lang/UnsupportedOperationException" :: vx_atS RX11 203 "java/lang/UnsupportedOperationException" ["java/lang/RuntimeException", "java/lang/Exception"], vx_ot w = true) := ⟨by decide +kernel, by decide +kernel⟩
theorem th_X11_199_201_203 : TH RX11 199 201 203 "java/lang/UnsupportedOperationException" "the requisite or the attempts forbid it" ["java/lang/RuntimeException", "java/lang/Exception"] := ⟨by decide +kernel, by decide +kernel, List.mem_of_getElem? (i := 989) (by decide +kernel), List.mem_of_getElem? (i := 72) (by decide +kernel), by decide +kernel, at_X11_199_203.1, at_X11_199_203.2⟩
theorem at_X11_204_208 : (∀ w ∈ vx_atS RX11 208 "java/lang/ArithmeticException" ["java/lang/RuntimeException", "java/lang/Exception"], w ∈ lw_tbl ∧ pw w = true) ∧ (∀ w ∈ Cond.classLink RX11 204 "java/lang/ArithmeticException" :: Cond.initialized "java/lang/ArithmeticException" :: vx_atS RX11 208 "java/lang/ArithmeticException" ["java/lang/RuntimeException", "java/lang/Exception"], vx_ot w = true) := ⟨by decide +kernel, by decide +kernel⟩
theorem th_X11_204_206_208 : TH RX11 204 206 208 "java/lang/ArithmeticException" "the load would be too great" ["java/lang/RuntimeException", "java/lang/Exception"] := ⟨by decide +kernel, by decide +kernel, List.mem_of_getElem? (i := 1005) (by decide +kernel), List.mem_of_getElem? (i := 71) (by decide +kernel), by decide +kernel, at_X11_204_208.1, at_X11_204_208.2⟩
theorem th_X11_74_226_78 : TH RX11 74 226 78 "java/lang/IllegalStateException" "the days of drops are over" ["java/lang/RuntimeException", "java/lang/Exception"] := ⟨by decide +kernel, by decide +kernel, List.mem_of_getElem? (i := 547) (by decide +kernel), List.mem_of_getElem? (i := 54) (by decide +kernel), by decide +kernel, at_X11_74_78.1, at_X11_74_78.2⟩
theorem th_X11_74_271_78 : TH RX11 74 271 78 "java/lang/IllegalStateException" "the days of marks have not come" ["java/lang/RuntimeException", "java/lang/Exception"] := ⟨by decide +kernel, by decide +kernel, List.mem_of_getElem? (i := 547) (by decide +kernel), List.mem_of_getElem? (i := 54) (by decide +kernel), by decide +kernel, at_X11_74_78.1, at_X11_74_78.2⟩
theorem th_X11_63_287_67 : TH RX11 63 287 67 "java/lang/IllegalArgumentException" "the student has passed the course" ["java/lang/RuntimeException", "java/lang/Exception"] := ⟨by decide +kernel, by decide +kernel, List.mem_of_getElem? (i := 475) (by decide +kernel), List.mem_of_getElem? (i := 53) (by decide +kernel), by decide +kernel, at_X11_63_67.1, at_X11_63_67.2⟩
theorem th_X11_204_295_208 : TH RX11 204 295 208 "java/lang/ArithmeticException" "too many credits would be moved in" ["java/lang/RuntimeException", "java/lang/Exception"] := ⟨by decide +kernel, by decide +kernel, List.mem_of_getElem? (i := 1005) (by decide +kernel), List.mem_of_getElem? (i := 71) (by decide +kernel), by decide +kernel, at_X11_204_208.1, at_X11_204_208.2⟩
theorem th_X11_63_395_67 : TH RX11 63 395 67 "java/lang/IllegalArgumentException" "the major is out of range" ["java/lang/RuntimeException", "java/lang/Exception"] := ⟨by decide +kernel, by decide +kernel, List.mem_of_getElem? (i := 475) (by decide +kernel), List.mem_of_getElem? (i := 53) (by decide +kernel), by decide +kernel, at_X11_63_67.1, at_X11_63_67.2⟩
theorem th_X11_63_397_67 : TH RX11 63 397 67 "java/lang/IllegalArgumentException" "the mark is out of range" ["java/lang/RuntimeException", "java/lang/Exception"] := ⟨by decide +kernel, by decide +kernel, List.mem_of_getElem? (i := 475) (by decide +kernel), List.mem_of_getElem? (i := 53) (by decide +kernel), by decide +kernel, at_X11_63_67.1, at_X11_63_67.2⟩
theorem at_X11_337_341 : (∀ w ∈ vx_atS RX11 341 "java/lang/IndexOutOfBoundsException" ["java/lang/RuntimeException", "java/lang/Exception"], w ∈ lw_tbl ∧ pw w = true) ∧ (∀ w ∈ Cond.classLink RX11 337 "java/lang/IndexOutOfBoundsException" :: Cond.initialized "java/lang/IndexOutOfBoundsException" :: vx_atS RX11 341 "java/lang/IndexOutOfBoundsException" ["java/lang/RuntimeException", "java/lang/Exception"], vx_ot w = true) := ⟨by decide +kernel, by decide +kernel⟩
theorem th_X11_337_399_341 : TH RX11 337 399 341 "java/lang/IndexOutOfBoundsException" "there is no such student" ["java/lang/RuntimeException", "java/lang/Exception"] := ⟨by decide +kernel, by decide +kernel, List.mem_of_getElem? (i := 678) (by decide +kernel), List.mem_of_getElem? (i := 59) (by decide +kernel), by decide +kernel, at_X11_337_341.1, at_X11_337_341.2⟩
theorem th_X11_337_401_341 : TH RX11 337 401 341 "java/lang/IndexOutOfBoundsException" "there is no such course" ["java/lang/RuntimeException", "java/lang/Exception"] := ⟨by decide +kernel, by decide +kernel, List.mem_of_getElem? (i := 678) (by decide +kernel), List.mem_of_getElem? (i := 59) (by decide +kernel), by decide +kernel, at_X11_337_341.1, at_X11_337_341.2⟩
theorem th_X11_74_408_78 : TH RX11 74 408 78 "java/lang/IllegalStateException" "there are too many formulas, or this one is too deep" ["java/lang/RuntimeException", "java/lang/Exception"] := ⟨by decide +kernel, by decide +kernel, List.mem_of_getElem? (i := 547) (by decide +kernel), List.mem_of_getElem? (i := 54) (by decide +kernel), by decide +kernel, at_X11_74_78.1, at_X11_74_78.2⟩
