theorem dX11_mark_63 : decode cX11_mark 63 = .ok (.iload_n 2, 1) := by decide +kernel
theorem dX11_mark_64 : decode cX11_mark 64 = .ok (.iaload, 1) := by decide +kernel
theorem dX11_mark_65 : decode cX11_mark 65 = .ok (.iconst (-1), 1) := by decide +kernel
theorem dX11_mark_66 : decode cX11_mark 66 = .ok (.if_icmp .eq 7, 3) := by decide +kernel
theorem dX11_mark_69 : decode cX11_mark 69 = .ok (.iconst 1, 1) := by decide +kernel
theorem dX11_mark_70 : decode cX11_mark 70 = .ok (.goto 4, 3) := by decide +kernel
theorem dX11_mark_73 : decode cX11_mark 73 = .ok (.iconst 0, 1) := by decide +kernel
theorem dX11_mark_74 : decode cX11_mark 74 = .ok (.istore 5, 2) := by decide +kernel
theorem dX11_mark_76 : decode cX11_mark 76 = .ok (.aload 4, 2) := by decide +kernel
theorem dX11_mark_78 : decode cX11_mark 78 = .ok (.getfield 273, 3) := by decide +kernel
theorem dX11_mark_81 : decode cX11_mark 81 = .ok (.iload_n 2, 1) := by decide +kernel
theorem dX11_mark_82 : decode cX11_mark 82 = .ok (.iload_n 3, 1) := by decide +kernel
theorem dX11_mark_83 : decode cX11_mark 83 = .ok (.iastore, 1) := by decide +kernel
theorem dX11_mark_84 : decode cX11_mark 84 = .ok (.iload 5, 2) := by decide +kernel
theorem dX11_mark_86 : decode cX11_mark 86 = .ok (.ireturn, 1) := by decide +kernel
theorem dX11_endTerm_0 : decode cX11_endTerm 0 = .ok (.aload_n 0, 1) := by decide +kernel
theorem dX11_endTerm_1 : decode cX11_endTerm 1 = .ok (.getfield 180, 3) := by decide +kernel
theorem dX11_endTerm_4 : decode cX11_endTerm 4 = .ok (.bipush 21, 2) := by decide +kernel
theorem dX11_endTerm_6 : decode cX11_endTerm 6 = .ok (.if_icmp .ge 14, 3) := by decide +kernel
theorem dX11_endTerm_9 : decode cX11_endTerm 9 = .ok (.new 74, 3) := by decide +kernel
theorem dX11_endTerm_12 : decode cX11_endTerm 12 = .ok (.dup, 1) := by decide +kernel
theorem dX11_endTerm_13 : decode cX11_endTerm 13 = .ok (.ldc_w 271, 3) := by decide +kernel
theorem dX11_endTerm_16 : decode cX11_endTerm 16 = .ok (.invokespecial 78, 3) := by decide +kernel
theorem dX11_endTerm_19 : decode cX11_endTerm 19 = .ok (.athrow, 1) := by decide +kernel
theorem dX11_endTerm_20 : decode cX11_endTerm 20 = .ok (.iconst 0, 1) := by decide +kernel
theorem dX11_endTerm_21 : decode cX11_endTerm 21 = .ok (.istore_n 1, 1) := by decide +kernel
theorem dX11_endTerm_22 : decode cX11_endTerm 22 = .ok (.iconst 0, 1) := by decide +kernel
theorem dX11_endTerm_23 : decode cX11_endTerm 23 = .ok (.istore_n 2, 1) := by decide +kernel
theorem dX11_endTerm_24 : decode cX11_endTerm 24 = .ok (.iload_n 2, 1) := by decide +kernel
theorem dX11_endTerm_25 : decode cX11_endTerm 25 = .ok (.aload_n 0, 1) := by decide +kernel
theorem dX11_endTerm_26 : decode cX11_endTerm 26 = .ok (.getfield 16, 3) := by decide +kernel
theorem dX11_endTerm_29 : decode cX11_endTerm 29 = .ok (.invokevirtual 70, 3) := by decide +kernel
theorem dX11_endTerm_32 : decode cX11_endTerm 32 = .ok (.if_icmp .ge 26, 3) := by decide +kernel
theorem dX11_endTerm_35 : decode cX11_endTerm 35 = .ok (.iload_n 1, 1) := by decide +kernel
theorem dX11_endTerm_36 : decode cX11_endTerm 36 = .ok (.aload_n 0, 1) := by decide +kernel
theorem dX11_endTerm_37 : decode cX11_endTerm 37 = .ok (.getfield 16, 3) := by decide +kernel
theorem dX11_endTerm_40 : decode cX11_endTerm 40 = .ok (.iload_n 2, 1) := by decide +kernel
theorem dX11_endTerm_41 : decode cX11_endTerm 41 = .ok (.invokevirtual 276, 3) := by decide +kernel
theorem dX11_endTerm_44 : decode cX11_endTerm 44 = .ok (.checkcast 29, 3) := by decide +kernel
theorem dX11_endTerm_47 : decode cX11_endTerm 47 = .ok (.invokevirtual 280, 3) := by decide +kernel
theorem dX11_endTerm_50 : decode cX11_endTerm 50 = .ok (.iadd, 1) := by decide +kernel
theorem dX11_endTerm_51 : decode cX11_endTerm 51 = .ok (.istore_n 1, 1) := by decide +kernel
theorem dX11_endTerm_52 : decode cX11_endTerm 52 = .ok (.iinc 2 1, 3) := by decide +kernel
theorem dX11_endTerm_55 : decode cX11_endTerm 55 = .ok (.goto (-31), 3) := by decide +kernel
theorem dX11_endTerm_58 : decode cX11_endTerm 58 = .ok (.aload_n 0, 1) := by decide +kernel
theorem dX11_endTerm_59 : decode cX11_endTerm 59 = .ok (.iconst 0, 1) := by decide +kernel
theorem dX11_endTerm_60 : decode cX11_endTerm 60 = .ok (.putfield 180, 3) := by decide +kernel
theorem dX11_endTerm_63 : decode cX11_endTerm 63 = .ok (.aload_n 0, 1) := by decide +kernel
theorem dX11_endTerm_64 : decode cX11_endTerm 64 = .ok (.dup, 1) := by decide +kernel
theorem dX11_endTerm_65 : decode cX11_endTerm 65 = .ok (.getfield 188, 3) := by decide +kernel
theorem dX11_endTerm_68 : decode cX11_endTerm 68 = .ok (.iconst 1, 1) := by decide +kernel
theorem dX11_endTerm_69 : decode cX11_endTerm 69 = .ok (.iadd, 1) := by decide +kernel
theorem dX11_endTerm_70 : decode cX11_endTerm 70 = .ok (.putfield 188, 3) := by decide +kernel
theorem dX11_endTerm_73 : decode cX11_endTerm 73 = .ok (.iload_n 1, 1) := by decide +kernel
theorem dX11_endTerm_74 : decode cX11_endTerm 74 = .ok (.ireturn, 1) := by decide +kernel
theorem dX11_moveIn_0 : decode cX11_moveIn 0 = .ok (.aload_n 0, 1) := by decide +kernel
theorem dX11_moveIn_1 : decode cX11_moveIn 1 = .ok (.iload_n 1, 1) := by decide +kernel
theorem dX11_moveIn_2 : decode cX11_moveIn 2 = .ok (.invokevirtual 93, 3) := by decide +kernel
theorem dX11_moveIn_5 : decode cX11_moveIn 5 = .ok (.astore_n 3, 1) := by decide +kernel
theorem dX11_moveIn_6 : decode cX11_moveIn 6 = .ok (.aload_n 0, 1) := by decide +kernel
theorem dX11_moveIn_7 : decode cX11_moveIn 7 = .ok (.iload_n 2, 1) := by decide +kernel
theorem dX11_moveIn_8 : decode cX11_moveIn 8 = .ok (.invokevirtual 104, 3) := by decide +kernel
theorem dX11_moveIn_11 : decode cX11_moveIn 11 = .ok (.astore 4, 2) := by decide +kernel
theorem dX11_moveIn_13 : decode cX11_moveIn 13 = .ok (.aload_n 3, 1) := by decide +kernel
theorem dX11_moveIn_14 : decode cX11_moveIn 14 = .ok (.iload_n 2, 1) := by decide +kernel
theorem dX11_moveIn_15 : decode cX11_moveIn 15 = .ok (.invokevirtual 283, 3) := by decide +kernel
theorem dX11_moveIn_18 : decode cX11_moveIn 18 = .ok (.ifCond .eq 14, 3) := by decide +kernel
theorem dX11_moveIn_21 : decode cX11_moveIn 21 = .ok (.new 63, 3) := by decide +kernel
theorem dX11_moveIn_24 : decode cX11_moveIn 24 = .ok (.dup, 1) := by decide +kernel
theorem dX11_moveIn_25 : decode cX11_moveIn 25 = .ok (.ldc_w 287, 3) := by decide +kernel
theorem dX11_moveIn_28 : decode cX11_moveIn 28 = .ok (.invokespecial 67, 3) := by decide +kernel
theorem dX11_moveIn_31 : decode cX11_moveIn 31 = .ok (.athrow, 1) := by decide +kernel
theorem dX11_moveIn_32 : decode cX11_moveIn 32 = .ok (.aload_n 0, 1) := by decide +kernel
theorem dX11_moveIn_33 : decode cX11_moveIn 33 = .ok (.aload_n 3, 1) := by decide +kernel
theorem dX11_moveIn_34 : decode cX11_moveIn 34 = .ok (.invokevirtual 289, 3) := by decide +kernel
theorem dX11_moveIn_37 : decode cX11_moveIn 37 = .ok (.aload 4, 2) := by decide +kernel
theorem dX11_moveIn_39 : decode cX11_moveIn 39 = .ok (.getfield 292, 3) := by decide +kernel
theorem dX11_moveIn_42 : decode cX11_moveIn 42 = .ok (.iadd, 1) := by decide +kernel
theorem dX11_moveIn_43 : decode cX11_moveIn 43 = .ok (.istore 5, 2) := by decide +kernel
theorem dX11_moveIn_45 : decode cX11_moveIn 45 = .ok (.iload 5, 2) := by decide +kernel
theorem dX11_moveIn_47 : decode cX11_moveIn 47 = .ok (.bipush 12, 2) := by decide +kernel
theorem dX11_moveIn_49 : decode cX11_moveIn 49 = .ok (.if_icmp .le 14, 3) := by decide +kernel
theorem dX11_moveIn_52 : decode cX11_moveIn 52 = .ok (.new 204, 3) := by decide +kernel
theorem dX11_moveIn_55 : decode cX11_moveIn 55 = .ok (.dup, 1) := by decide +kernel
theorem dX11_moveIn_56 : decode cX11_moveIn 56 = .ok (.ldc_w 295, 3) := by decide +kernel
theorem dX11_moveIn_59 : decode cX11_moveIn 59 = .ok (.invokespecial 208, 3) := by decide +kernel
theorem dX11_moveIn_62 : decode cX11_moveIn 62 = .ok (.athrow, 1) := by decide +kernel
theorem dX11_moveIn_63 : decode cX11_moveIn 63 = .ok (.aload_n 3, 1) := by decide +kernel
theorem dX11_moveIn_64 : decode cX11_moveIn 64 = .ok (.iload_n 2, 1) := by decide +kernel
theorem dX11_moveIn_65 : decode cX11_moveIn 65 = .ok (.invokevirtual 297, 3) := by decide +kernel
theorem dX11_moveIn_68 : decode cX11_moveIn 68 = .ok (.aload_n 0, 1) := by decide +kernel
theorem dX11_moveIn_69 : decode cX11_moveIn 69 = .ok (.invokevirtual 101, 3) := by decide +kernel
theorem dX11_moveIn_72 : decode cX11_moveIn 72 = .ok (.iload 5, 2) := by decide +kernel
theorem dX11_moveIn_74 : decode cX11_moveIn 74 = .ok (.ireturn, 1) := by decide +kernel
theorem dX11_bestMark_0 : decode cX11_bestMark 0 = .ok (.aload_n 0, 1) := by decide +kernel
theorem dX11_bestMark_1 : decode cX11_bestMark 1 = .ok (.iload_n 1, 1) := by decide +kernel
theorem dX11_bestMark_2 : decode cX11_bestMark 2 = .ok (.invokevirtual 93, 3) := by decide +kernel
theorem dX11_bestMark_5 : decode cX11_bestMark 5 = .ok (.astore_n 3, 1) := by decide +kernel
theorem dX11_bestMark_6 : decode cX11_bestMark 6 = .ok (.aload_n 0, 1) := by decide +kernel
theorem dX11_bestMark_7 : decode cX11_bestMark 7 = .ok (.iload_n 2, 1) := by decide +kernel
theorem dX11_bestMark_8 : decode cX11_bestMark 8 = .ok (.invokevirtual 104, 3) := by decide +kernel
theorem dX11_bestMark_11 : decode cX11_bestMark 11 = .ok (.pop, 1) := by decide +kernel
theorem dX11_bestMark_12 : decode cX11_bestMark 12 = .ok (.aload_n 3, 1) := by decide +kernel
theorem dX11_bestMark_13 : decode cX11_bestMark 13 = .ok (.getfield 300, 3) := by decide +kernel
theorem dX11_bestMark_16 : decode cX11_bestMark 16 = .ok (.iload_n 2, 1) := by decide +kernel
theorem dX11_bestMark_17 : decode cX11_bestMark 17 = .ok (.iaload, 1) := by decide +kernel
theorem dX11_bestMark_18 : decode cX11_bestMark 18 = .ok (.iconst (-1), 1) := by decide +kernel
theorem dX11_bestMark_19 : decode cX11_bestMark 19 = .ok (.if_icmp .ne 14, 3) := by decide +kernel
theorem dX11_bestMark_22 : decode cX11_bestMark 22 = .ok (.new 209, 3) := by decide +kernel
theorem dX11_bestMark_25 : decode cX11_bestMark 25 = .ok (.dup, 1) := by decide +kernel
theorem dX11_bestMark_26 : decode cX11_bestMark 26 = .ok (.ldc_w 303, 3) := by decide +kernel
theorem dX11_bestMark_29 : decode cX11_bestMark 29 = .ok (.invokespecial 213, 3) := by decide +kernel
theorem dX11_bestMark_32 : decode cX11_bestMark 32 = .ok (.athrow, 1) := by decide +kernel
theorem dX11_bestMark_33 : decode cX11_bestMark 33 = .ok (.aload_n 3, 1) := by decide +kernel
theorem dX11_bestMark_34 : decode cX11_bestMark 34 = .ok (.getfield 300, 3) := by decide +kernel
theorem dX11_bestMark_37 : decode cX11_bestMark 37 = .ok (.iload_n 2, 1) := by decide +kernel
theorem dX11_bestMark_38 : decode cX11_bestMark 38 = .ok (.iaload, 1) := by decide +kernel
theorem dX11_bestMark_39 : decode cX11_bestMark 39 = .ok (.ireturn, 1) := by decide +kernel
theorem dX11_attempts_0 : decode cX11_attempts 0 = .ok (.aload_n 0, 1) := by decide +kernel
theorem dX11_attempts_1 : decode cX11_attempts 1 = .ok (.iload_n 1, 1) := by decide +kernel
theorem dX11_attempts_2 : decode cX11_attempts 2 = .ok (.invokevirtual 93, 3) := by decide +kernel
theorem dX11_attempts_5 : decode cX11_attempts 5 = .ok (.astore_n 3, 1) := by decide +kernel
theorem dX11_attempts_6 : decode cX11_attempts 6 = .ok (.aload_n 0, 1) := by decide +kernel
theorem dX11_attempts_7 : decode cX11_attempts 7 = .ok (.iload_n 2, 1) := by decide +kernel
theorem dX11_attempts_8 : decode cX11_attempts 8 = .ok (.invokevirtual 104, 3) := by decide +kernel
theorem dX11_attempts_11 : decode cX11_attempts 11 = .ok (.pop, 1) := by decide +kernel
theorem dX11_attempts_12 : decode cX11_attempts 12 = .ok (.aload_n 3, 1) := by decide +kernel
theorem dX11_attempts_13 : decode cX11_attempts 13 = .ok (.getfield 254, 3) := by decide +kernel
theorem dX11_attempts_16 : decode cX11_attempts 16 = .ok (.iload_n 2, 1) := by decide +kernel
theorem dX11_attempts_17 : decode cX11_attempts 17 = .ok (.iaload, 1) := by decide +kernel
theorem dX11_attempts_18 : decode cX11_attempts 18 = .ok (.ireturn, 1) := by decide +kernel
theorem dX11_earnedCredits_0 : decode cX11_earnedCredits 0 = .ok (.aload_n 0, 1) := by decide +kernel
theorem dX11_earnedCredits_1 : decode cX11_earnedCredits 1 = .ok (.aload_n 0, 1) := by decide +kernel
theorem dX11_earnedCredits_2 : decode cX11_earnedCredits 2 = .ok (.iload_n 1, 1) := by decide +kernel
theorem dX11_earnedCredits_3 : decode cX11_earnedCredits 3 = .ok (.invokevirtual 93, 3) := by decide +kernel
theorem dX11_earnedCredits_6 : decode cX11_earnedCredits 6 = .ok (.invokevirtual 305, 3) := by decide +kernel
theorem dX11_earnedCredits_9 : decode cX11_earnedCredits 9 = .ok (.ireturn, 1) := by decide +kernel
theorem dX11_allEarned_0 : decode cX11_allEarned 0 = .ok (.lconst 0, 1) := by decide +kernel
theorem dX11_allEarned_1 : decode cX11_allEarned 1 = .ok (.lstore_n 1, 1) := by decide +kernel
theorem dX11_allEarned_2 : decode cX11_allEarned 2 = .ok (.iconst 0, 1) := by decide +kernel
theorem dX11_allEarned_3 : decode cX11_allEarned 3 = .ok (.istore_n 3, 1) := by decide +kernel
theorem dX11_allEarned_4 : decode cX11_allEarned 4 = .ok (.iload_n 3, 1) := by decide +kernel
theorem dX11_allEarned_5 : decode cX11_allEarned 5 = .ok (.aload_n 0, 1) := by decide +kernel
theorem dX11_allEarned_6 : decode cX11_allEarned 6 = .ok (.getfield 16, 3) := by decide +kernel
theorem dX11_allEarned_9 : decode cX11_allEarned 9 = .ok (.invokevirtual 70, 3) := by decide +kernel
theorem dX11_allEarned_12 : decode cX11_allEarned 12 = .ok (.if_icmp .ge 28, 3) := by decide +kernel
theorem dX11_allEarned_15 : decode cX11_allEarned 15 = .ok (.lload_n 1, 1) := by decide +kernel
theorem dX11_allEarned_16 : decode cX11_allEarned 16 = .ok (.aload_n 0, 1) := by decide +kernel
theorem dX11_allEarned_17 : decode cX11_allEarned 17 = .ok (.aload_n 0, 1) := by decide +kernel
theorem dX11_allEarned_18 : decode cX11_allEarned 18 = .ok (.getfield 16, 3) := by decide +kernel
theorem dX11_allEarned_21 : decode cX11_allEarned 21 = .ok (.iload_n 3, 1) := by decide +kernel
theorem dX11_allEarned_22 : decode cX11_allEarned 22 = .ok (.invokevirtual 276, 3) := by decide +kernel
theorem dX11_allEarned_25 : decode cX11_allEarned 25 = .ok (.checkcast 29, 3) := by decide +kernel
theorem dX11_allEarned_28 : decode cX11_allEarned 28 = .ok (.invokevirtual 305, 3) := by decide +kernel
theorem dX11_allEarned_31 : decode cX11_allEarned 31 = .ok (.i2l, 1) := by decide +kernel
theorem dX11_allEarned_32 : decode cX11_allEarned 32 = .ok (.ladd, 1) := by decide +kernel
theorem dX11_allEarned_33 : decode cX11_allEarned 33 = .ok (.lstore_n 1, 1) := by decide +kernel
theorem dX11_allEarned_34 : decode cX11_allEarned 34 = .ok (.iinc 3 1, 3) := by decide +kernel
theorem dX11_allEarned_37 : decode cX11_allEarned 37 = .ok (.goto (-33), 3) := by decide +kernel
theorem dX11_allEarned_40 : decode cX11_allEarned 40 = .ok (.lload_n 1, 1) := by decide +kernel
theorem dX11_allEarned_41 : decode cX11_allEarned 41 = .ok (.lreturn, 1) := by decide +kernel
theorem dX11_average_0 : decode cX11_average 0 = .ok (.aload_n 0, 1) := by decide +kernel
theorem dX11_average_1 : decode cX11_average 1 = .ok (.iload_n 1, 1) := by decide +kernel
theorem dX11_average_2 : decode cX11_average 2 = .ok (.invokevirtual 93, 3) := by decide +kernel
theorem dX11_average_5 : decode cX11_average 5 = .ok (.astore_n 2, 1) := by decide +kernel
theorem dX11_average_6 : decode cX11_average 6 = .ok (.iconst 0, 1) := by decide +kernel
theorem dX11_average_7 : decode cX11_average 7 = .ok (.istore_n 3, 1) := by decide +kernel
theorem dX11_average_8 : decode cX11_average 8 = .ok (.iconst 0, 1) := by decide +kernel
theorem dX11_average_9 : decode cX11_average 9 = .ok (.istore 4, 2) := by decide +kernel
theorem dX11_average_11 : decode cX11_average 11 = .ok (.iconst 0, 1) := by decide +kernel
theorem dX11_average_12 : decode cX11_average 12 = .ok (.istore 5, 2) := by decide +kernel
theorem dX11_average_14 : decode cX11_average 14 = .ok (.iload 5, 2) := by decide +kernel
theorem dX11_average_16 : decode cX11_average 16 = .ok (.aload_n 0, 1) := by decide +kernel
theorem dX11_average_17 : decode cX11_average 17 = .ok (.getfield 12, 3) := by decide +kernel
theorem dX11_average_20 : decode cX11_average 20 = .ok (.invokevirtual 70, 3) := by decide +kernel
theorem dX11_average_23 : decode cX11_average 23 = .ok (.if_icmp .ge 55, 3) := by decide +kernel
theorem dX11_average_26 : decode cX11_average 26 = .ok (.aload_n 2, 1) := by decide +kernel
theorem dX11_average_27 : decode cX11_average 27 = .ok (.iload 5, 2) := by decide +kernel
theorem dX11_average_29 : decode cX11_average 29 = .ok (.invokevirtual 308, 3) := by decide +kernel
theorem dX11_average_32 : decode cX11_average 32 = .ok (.istore 6, 2) := by decide +kernel
theorem dX11_average_34 : decode cX11_average 34 = .ok (.iload 6, 2) := by decide +kernel
theorem dX11_average_36 : decode cX11_average 36 = .ok (.iconst (-1), 1) := by decide +kernel
theorem dX11_average_37 : decode cX11_average 37 = .ok (.if_icmp .eq 35, 3) := by decide +kernel
theorem dX11_average_40 : decode cX11_average 40 = .ok (.aload_n 0, 1) := by decide +kernel
theorem dX11_average_41 : decode cX11_average 41 = .ok (.getfield 12, 3) := by decide +kernel
theorem dX11_average_44 : decode cX11_average 44 = .ok (.iload 5, 2) := by decide +kernel
theorem dX11_average_46 : decode cX11_average 46 = .ok (.invokevirtual 276, 3) := by decide +kernel
theorem dX11_average_49 : decode cX11_average 49 = .ok (.checkcast 79, 3) := by decide +kernel
theorem dX11_average_52 : decode cX11_average 52 = .ok (.getfield 292, 3) := by decide +kernel
theorem dX11_average_55 : decode cX11_average 55 = .ok (.istore 7, 2) := by decide +kernel
theorem dX11_average_57 : decode cX11_average 57 = .ok (.iload_n 3, 1) := by decide +kernel
theorem dX11_average_58 : decode cX11_average 58 = .ok (.iload 6, 2) := by decide +kernel
theorem dX11_average_60 : decode cX11_average 60 = .ok (.iload 7, 2) := by decide +kernel
theorem dX11_average_62 : decode cX11_average 62 = .ok (.imul, 1) := by decide +kernel
theorem dX11_average_63 : decode cX11_average 63 = .ok (.iadd, 1) := by decide +kernel
theorem dX11_average_64 : decode cX11_average 64 = .ok (.istore_n 3, 1) := by decide +kernel
theorem dX11_average_65 : decode cX11_average 65 = .ok (.iload 4, 2) := by decide +kernel
theorem dX11_average_67 : decode cX11_average 67 = .ok (.iload 7, 2) := by decide +kernel
theorem dX11_average_69 : decode cX11_average 69 = .ok (.iadd, 1) := by decide +kernel
theorem dX11_average_70 : decode cX11_average 70 = .ok (.istore 4, 2) := by decide +kernel
theorem dX11_average_72 : decode cX11_average 72 = .ok (.iinc 5 1, 3) := by decide +kernel
theorem dX11_average_75 : decode cX11_average 75 = .ok (.goto (-61), 3) := by decide +kernel
theorem dX11_average_78 : decode cX11_average 78 = .ok (.iload 4, 2) := by decide +kernel
theorem dX11_average_80 : decode cX11_average 80 = .ok (.ifCond .ne 14, 3) := by decide +kernel
theorem dX11_average_83 : decode cX11_average 83 = .ok (.new 204, 3) := by decide +kernel
theorem dX11_average_86 : decode cX11_average 86 = .ok (.dup, 1) := by decide +kernel
theorem dX11_average_87 : decode cX11_average 87 = .ok (.ldc_w 312, 3) := by decide +kernel
theorem dX11_average_90 : decode cX11_average 90 = .ok (.invokespecial 208, 3) := by decide +kernel
theorem dX11_average_93 : decode cX11_average 93 = .ok (.athrow, 1) := by decide +kernel
theorem dX11_average_94 : decode cX11_average 94 = .ok (.iload_n 3, 1) := by decide +kernel
theorem dX11_average_95 : decode cX11_average 95 = .ok (.i2d, 1) := by decide +kernel
theorem dX11_average_96 : decode cX11_average 96 = .ok (.iload 4, 2) := by decide +kernel
theorem dX11_average_98 : decode cX11_average 98 = .ok (.i2d, 1) := by decide +kernel
theorem dX11_average_99 : decode cX11_average 99 = .ok (.ddiv, 1) := by decide +kernel
theorem dX11_average_100 : decode cX11_average 100 = .ok (.dreturn, 1) := by decide +kernel
theorem dX11_load_0 : decode cX11_load 0 = .ok (.aload_n 0, 1) := by decide +kernel
theorem dX11_load_1 : decode cX11_load 1 = .ok (.aload_n 0, 1) := by decide +kernel
theorem dX11_load_2 : decode cX11_load 2 = .ok (.iload_n 1, 1) := by decide +kernel
theorem dX11_load_3 : decode cX11_load 3 = .ok (.invokevirtual 93, 3) := by decide +kernel
theorem dX11_load_6 : decode cX11_load 6 = .ok (.invokevirtual 266, 3) := by decide +kernel
theorem dX11_load_9 : decode cX11_load 9 = .ok (.ireturn, 1) := by decide +kernel
theorem dX11_isEnrolled_0 : decode cX11_isEnrolled 0 = .ok (.aload_n 0, 1) := by decide +kernel
theorem dX11_isEnrolled_1 : decode cX11_isEnrolled 1 = .ok (.iload_n 1, 1) := by decide +kernel
theorem dX11_isEnrolled_2 : decode cX11_isEnrolled 2 = .ok (.invokevirtual 93, 3) := by decide +kernel
theorem dX11_isEnrolled_5 : decode cX11_isEnrolled 5 = .ok (.astore_n 3, 1) := by decide +kernel
theorem dX11_isEnrolled_6 : decode cX11_isEnrolled 6 = .ok (.aload_n 0, 1) := by decide +kernel
theorem dX11_isEnrolled_7 : decode cX11_isEnrolled 7 = .ok (.iload_n 2, 1) := by decide +kernel
theorem dX11_isEnrolled_8 : decode cX11_isEnrolled 8 = .ok (.invokevirtual 104, 3) := by decide +kernel
theorem dX11_isEnrolled_11 : decode cX11_isEnrolled 11 = .ok (.pop, 1) := by decide +kernel
theorem dX11_isEnrolled_12 : decode cX11_isEnrolled 12 = .ok (.aload_n 3, 1) := by decide +kernel
theorem dX11_isEnrolled_13 : decode cX11_isEnrolled 13 = .ok (.getfield 214, 3) := by decide +kernel
theorem dX11_isEnrolled_16 : decode cX11_isEnrolled 16 = .ok (.iload_n 2, 1) := by decide +kernel
theorem dX11_isEnrolled_17 : decode cX11_isEnrolled 17 = .ok (.baload, 1) := by decide +kernel
theorem dX11_isEnrolled_18 : decode cX11_isEnrolled 18 = .ok (.ireturn, 1) := by decide +kernel
theorem dX11_enrolled_0 : decode cX11_enrolled 0 = .ok (.aload_n 0, 1) := by decide +kernel
theorem dX11_enrolled_1 : decode cX11_enrolled 1 = .ok (.aload_n 0, 1) := by decide +kernel
theorem dX11_enrolled_2 : decode cX11_enrolled 2 = .ok (.iload_n 1, 1) := by decide +kernel
theorem dX11_enrolled_3 : decode cX11_enrolled 3 = .ok (.invokevirtual 104, 3) := by decide +kernel
theorem dX11_enrolled_6 : decode cX11_enrolled 6 = .ok (.invokevirtual 314, 3) := by decide +kernel
theorem dX11_enrolled_9 : decode cX11_enrolled 9 = .ok (.ireturn, 1) := by decide +kernel
theorem dX11_waiting_0 : decode cX11_waiting 0 = .ok (.aload_n 0, 1) := by decide +kernel
theorem dX11_waiting_1 : decode cX11_waiting 1 = .ok (.iload_n 1, 1) := by decide +kernel
theorem dX11_waiting_2 : decode cX11_waiting 2 = .ok (.invokevirtual 104, 3) := by decide +kernel
theorem dX11_waiting_5 : decode cX11_waiting 5 = .ok (.getfield 217, 3) := by decide +kernel
theorem dX11_waiting_8 : decode cX11_waiting 8 = .ok (.invokevirtual 70, 3) := by decide +kernel
theorem dX11_waiting_11 : decode cX11_waiting 11 = .ok (.ireturn, 1) := by decide +kernel
theorem dX11_placeOf_0 : decode cX11_placeOf 0 = .ok (.aload_n 0, 1) := by decide +kernel
theorem dX11_placeOf_1 : decode cX11_placeOf 1 = .ok (.iload_n 1, 1) := by decide +kernel
theorem dX11_placeOf_2 : decode cX11_placeOf 2 = .ok (.invokevirtual 93, 3) := by decide +kernel
theorem dX11_placeOf_5 : decode cX11_placeOf 5 = .ok (.astore_n 3, 1) := by decide +kernel
theorem dX11_placeOf_6 : decode cX11_placeOf 6 = .ok (.aload_n 0, 1) := by decide +kernel
theorem dX11_placeOf_7 : decode cX11_placeOf 7 = .ok (.iload_n 2, 1) := by decide +kernel
theorem dX11_placeOf_8 : decode cX11_placeOf 8 = .ok (.invokevirtual 104, 3) := by decide +kernel
theorem dX11_placeOf_11 : decode cX11_placeOf 11 = .ok (.aload_n 3, 1) := by decide +kernel
theorem dX11_placeOf_12 : decode cX11_placeOf 12 = .ok (.invokevirtual 220, 3) := by decide +kernel
theorem dX11_placeOf_15 : decode cX11_placeOf 15 = .ok (.istore 4, 2) := by decide +kernel
theorem dX11_placeOf_17 : decode cX11_placeOf 17 = .ok (.iload 4, 2) := by decide +kernel
theorem dX11_placeOf_19 : decode cX11_placeOf 19 = .ok (.iconst (-1), 1) := by decide +kernel
theorem dX11_placeOf_20 : decode cX11_placeOf 20 = .ok (.if_icmp .ne 14, 3) := by decide +kernel
theorem dX11_placeOf_23 : decode cX11_placeOf 23 = .ok (.new 209, 3) := by decide +kernel
theorem dX11_placeOf_26 : decode cX11_placeOf 26 = .ok (.dup, 1) := by decide +kernel
theorem dX11_placeOf_27 : decode cX11_placeOf 27 = .ok (.ldc_w 318, 3) := by decide +kernel
theorem dX11_placeOf_30 : decode cX11_placeOf 30 = .ok (.invokespecial 213, 3) := by decide +kernel
theorem dX11_placeOf_33 : decode cX11_placeOf 33 = .ok (.athrow, 1) := by decide +kernel
theorem dX11_placeOf_34 : decode cX11_placeOf 34 = .ok (.iload 4, 2) := by decide +kernel
theorem dX11_placeOf_36 : decode cX11_placeOf 36 = .ok (.ireturn, 1) := by decide +kernel
theorem dX11_freeSeats_0 : decode cX11_freeSeats 0 = .ok (.aload_n 0, 1) := by decide +kernel
theorem dX11_freeSeats_1 : decode cX11_freeSeats 1 = .ok (.iload_n 1, 1) := by decide +kernel
theorem dX11_freeSeats_2 : decode cX11_freeSeats 2 = .ok (.invokevirtual 104, 3) := by decide +kernel
theorem dX11_freeSeats_5 : decode cX11_freeSeats 5 = .ok (.astore_n 3, 1) := by decide +kernel
theorem dX11_freeSeats_6 : decode cX11_freeSeats 6 = .ok (.iload_n 2, 1) := by decide +kernel
theorem dX11_freeSeats_7 : decode cX11_freeSeats 7 = .ok (.invokestatic 88, 3) := by decide +kernel
theorem dX11_freeSeats_10 : decode cX11_freeSeats 10 = .ok (.aload_n 0, 1) := by decide +kernel
theorem dX11_freeSeats_11 : decode cX11_freeSeats 11 = .ok (.aload_n 3, 1) := by decide +kernel
theorem dX11_freeSeats_12 : decode cX11_freeSeats 12 = .ok (.iload_n 2, 1) := by decide +kernel
theorem dX11_freeSeats_13 : decode cX11_freeSeats 13 = .ok (.invokevirtual 257, 3) := by decide +kernel
theorem dX11_freeSeats_16 : decode cX11_freeSeats 16 = .ok (.ireturn, 1) := by decide +kernel
theorem dX11_share_0 : decode cX11_share 0 = .ok (.aload_n 0, 1) := by decide +kernel
theorem dX11_share_1 : decode cX11_share 1 = .ok (.iload_n 1, 1) := by decide +kernel
theorem dX11_share_2 : decode cX11_share 2 = .ok (.invokevirtual 104, 3) := by decide +kernel
theorem dX11_share_5 : decode cX11_share 5 = .ok (.astore_n 2, 1) := by decide +kernel
theorem dX11_share_6 : decode cX11_share 6 = .ok (.aload_n 0, 1) := by decide +kernel
theorem dX11_share_7 : decode cX11_share 7 = .ok (.aload_n 2, 1) := by decide +kernel
theorem dX11_share_8 : decode cX11_share 8 = .ok (.invokevirtual 314, 3) := by decide +kernel
theorem dX11_share_11 : decode cX11_share 11 = .ok (.i2f, 1) := by decide +kernel
theorem dX11_share_12 : decode cX11_share 12 = .ok (.aload_n 2, 1) := by decide +kernel
theorem dX11_share_13 : decode cX11_share 13 = .ok (.getfield 113, 3) := by decide +kernel
theorem dX11_share_16 : decode cX11_share 16 = .ok (.i2f, 1) := by decide +kernel
theorem dX11_share_17 : decode cX11_share 17 = .ok (.fdiv, 1) := by decide +kernel
theorem dX11_share_18 : decode cX11_share 18 = .ok (.freturn, 1) := by decide +kernel
theorem dX11_whyNot_0 : decode cX11_whyNot 0 = .ok (.aload_n 0, 1) := by decide +kernel
theorem dX11_whyNot_1 : decode cX11_whyNot 1 = .ok (.iload_n 1, 1) := by decide +kernel
theorem dX11_whyNot_2 : decode cX11_whyNot 2 = .ok (.iload_n 2, 1) := by decide +kernel
theorem dX11_whyNot_3 : decode cX11_whyNot 3 = .ok (.invokevirtual 320, 3) := by decide +kernel
theorem dX11_whyNot_6 : decode cX11_whyNot 6 = .ok (.istore_n 3, 1) := by decide +kernel
theorem dX11_whyNot_7 : decode cX11_whyNot 7 = .ok (.aload_n 0, 1) := by decide +kernel
theorem dX11_whyNot_8 : decode cX11_whyNot 8 = .ok (.getfield 56, 3) := by decide +kernel
theorem dX11_whyNot_11 : decode cX11_whyNot 11 = .ok (.iload_n 3, 1) := by decide +kernel
theorem dX11_whyNot_12 : decode cX11_whyNot 12 = .ok (.iconst 1, 1) := by decide +kernel
theorem dX11_whyNot_13 : decode cX11_whyNot 13 = .ok (.isub, 1) := by decide +kernel
theorem dX11_whyNot_14 : decode cX11_whyNot 14 = .ok (.iaload, 1) := by decide +kernel
theorem dX11_whyNot_15 : decode cX11_whyNot 15 = .ok (.ireturn, 1) := by decide +kernel
theorem dX11_whyLong_0 : decode cX11_whyLong 0 = .ok (.aload_n 0, 1) := by decide +kernel
theorem dX11_whyLong_1 : decode cX11_whyLong 1 = .ok (.iload_n 1, 1) := by decide +kernel
theorem dX11_whyLong_2 : decode cX11_whyLong 2 = .ok (.iload_n 2, 1) := by decide +kernel
theorem dX11_whyLong_3 : decode cX11_whyLong 3 = .ok (.invokevirtual 320, 3) := by decide +kernel
theorem dX11_whyLong_6 : decode cX11_whyLong 6 = .ok (.ireturn, 1) := by decide +kernel
theorem dX11_termsTo_0 : decode cX11_termsTo 0 = .ok (.aload_n 0, 1) := by decide +kernel
theorem dX11_termsTo_1 : decode cX11_termsTo 1 = .ok (.iload_n 1, 1) := by decide +kernel
theorem dX11_termsTo_2 : decode cX11_termsTo 2 = .ok (.invokevirtual 104, 3) := by decide +kernel
theorem dX11_termsTo_5 : decode cX11_termsTo 5 = .ok (.pop, 1) := by decide +kernel
theorem dX11_termsTo_6 : decode cX11_termsTo 6 = .ok (.aload_n 0, 1) := by decide +kernel
theorem dX11_termsTo_7 : decode cX11_termsTo 7 = .ok (.getfield 34, 3) := by decide +kernel
theorem dX11_termsTo_10 : decode cX11_termsTo 10 = .ok (.invokevirtual 323, 3) := by decide +kernel
theorem dX11_termsTo_13 : decode cX11_termsTo 13 = .ok (.iconst 1, 1) := by decide +kernel
theorem dX11_termsTo_14 : decode cX11_termsTo 14 = .ok (.istore_n 2, 1) := by decide +kernel
theorem dX11_termsTo_15 : decode cX11_termsTo 15 = .ok (.iload_n 2, 1) := by decide +kernel
theorem dX11_termsTo_16 : decode cX11_termsTo 16 = .ok (.bipush 20, 2) := by decide +kernel
theorem dX11_termsTo_18 : decode cX11_termsTo 18 = .ok (.if_icmp .gt 30, 3) := by decide +kernel
theorem dX11_termsTo_21 : decode cX11_termsTo 21 = .ok (.aload_n 0, 1) := by decide +kernel
theorem dX11_termsTo_22 : decode cX11_termsTo 22 = .ok (.aload_n 0, 1) := by decide +kernel
theorem dX11_termsTo_23 : decode cX11_termsTo 23 = .ok (.getfield 34, 3) := by decide +kernel
theorem dX11_termsTo_26 : decode cX11_termsTo 26 = .ok (.invokevirtual 326, 3) := by decide +kernel
theorem dX11_termsTo_29 : decode cX11_termsTo 29 = .ok (.aload_n 0, 1) := by decide +kernel
theorem dX11_termsTo_30 : decode cX11_termsTo 30 = .ok (.getfield 34, 3) := by decide +kernel
theorem dX11_termsTo_33 : decode cX11_termsTo 33 = .ok (.iload_n 1, 1) := by decide +kernel
theorem dX11_termsTo_34 : decode cX11_termsTo 34 = .ok (.invokevirtual 283, 3) := by decide +kernel
theorem dX11_termsTo_37 : decode cX11_termsTo 37 = .ok (.ifCond .eq 5, 3) := by decide +kernel
theorem dX11_termsTo_40 : decode cX11_termsTo 40 = .ok (.iload_n 2, 1) := by decide +kernel
theorem dX11_termsTo_41 : decode cX11_termsTo 41 = .ok (.ireturn, 1) := by decide +kernel
theorem dX11_termsTo_42 : decode cX11_termsTo 42 = .ok (.iinc 2 1, 3) := by decide +kernel
theorem dX11_termsTo_45 : decode cX11_termsTo 45 = .ok (.goto (-30), 3) := by decide +kernel
theorem dX11_termsTo_48 : decode cX11_termsTo 48 = .ok (.new 209, 3) := by decide +kernel
theorem dX11_termsTo_51 : decode cX11_termsTo 51 = .ok (.dup, 1) := by decide +kernel
theorem dX11_termsTo_52 : decode cX11_termsTo 52 = .ok (.ldc_w 329, 3) := by decide +kernel
theorem dX11_termsTo_55 : decode cX11_termsTo 55 = .ok (.invokespecial 213, 3) := by decide +kernel
theorem dX11_termsTo_58 : decode cX11_termsTo 58 = .ok (.athrow, 1) := by decide +kernel
theorem dX11_transcriptLength_0 : decode cX11_transcriptLength 0 = .ok (.aload_n 0, 1) := by decide +kernel
theorem dX11_transcriptLength_1 : decode cX11_transcriptLength 1 = .ok (.getfield 48, 3) := by decide +kernel
theorem dX11_transcriptLength_4 : decode cX11_transcriptLength 4 = .ok (.aload_n 0, 1) := by decide +kernel
theorem dX11_transcriptLength_5 : decode cX11_transcriptLength 5 = .ok (.iload_n 1, 1) := by decide +kernel
theorem dX11_transcriptLength_6 : decode cX11_transcriptLength 6 = .ok (.invokevirtual 93, 3) := by decide +kernel
theorem dX11_transcriptLength_9 : decode cX11_transcriptLength 9 = .ok (.aload_n 0, 1) := by decide +kernel
theorem dX11_transcriptLength_10 : decode cX11_transcriptLength 10 = .ok (.getfield 12, 3) := by decide +kernel
theorem dX11_transcriptLength_13 : decode cX11_transcriptLength 13 = .ok (.invokevirtual 70, 3) := by decide +kernel
theorem dX11_transcriptLength_16 : decode cX11_transcriptLength 16 = .ok (.invokevirtual 331, 3) := by decide +kernel
theorem dX11_transcriptLength_19 : decode cX11_transcriptLength 19 = .ok (.aload_n 0, 1) := by decide +kernel
theorem dX11_transcriptLength_20 : decode cX11_transcriptLength 20 = .ok (.getfield 48, 3) := by decide +kernel
theorem dX11_transcriptLength_23 : decode cX11_transcriptLength 23 = .ok (.getfield 334, 3) := by decide +kernel
theorem dX11_transcriptLength_26 : decode cX11_transcriptLength 26 = .ok (.ireturn, 1) := by decide +kernel
theorem dX11_transcriptAt_0 : decode cX11_transcriptAt 0 = .ok (.aload_n 0, 1) := by decide +kernel
theorem dX11_transcriptAt_1 : decode cX11_transcriptAt 1 = .ok (.getfield 48, 3) := by decide +kernel
theorem dX11_transcriptAt_4 : decode cX11_transcriptAt 4 = .ok (.aload_n 0, 1) := by decide +kernel
theorem dX11_transcriptAt_5 : decode cX11_transcriptAt 5 = .ok (.iload_n 1, 1) := by decide +kernel
theorem dX11_transcriptAt_6 : decode cX11_transcriptAt 6 = .ok (.invokevirtual 93, 3) := by decide +kernel
theorem dX11_transcriptAt_9 : decode cX11_transcriptAt 9 = .ok (.aload_n 0, 1) := by decide +kernel
theorem dX11_transcriptAt_10 : decode cX11_transcriptAt 10 = .ok (.getfield 12, 3) := by decide +kernel
theorem dX11_transcriptAt_13 : decode cX11_transcriptAt 13 = .ok (.invokevirtual 70, 3) := by decide +kernel
theorem dX11_transcriptAt_16 : decode cX11_transcriptAt 16 = .ok (.invokevirtual 331, 3) := by decide +kernel
theorem dX11_transcriptAt_19 : decode cX11_transcriptAt 19 = .ok (.iload_n 2, 1) := by decide +kernel
theorem dX11_transcriptAt_20 : decode cX11_transcriptAt 20 = .ok (.ifCond .lt 14, 3) := by decide +kernel
theorem dX11_transcriptAt_23 : decode cX11_transcriptAt 23 = .ok (.iload_n 2, 1) := by decide +kernel
theorem dX11_transcriptAt_24 : decode cX11_transcriptAt 24 = .ok (.aload_n 0, 1) := by decide +kernel
theorem dX11_transcriptAt_25 : decode cX11_transcriptAt 25 = .ok (.getfield 48, 3) := by decide +kernel
theorem dX11_transcriptAt_28 : decode cX11_transcriptAt 28 = .ok (.getfield 334, 3) := by decide +kernel
theorem dX11_transcriptAt_31 : decode cX11_transcriptAt 31 = .ok (.if_icmp .lt 14, 3) := by decide +kernel
theorem dX11_transcriptAt_34 : decode cX11_transcriptAt 34 = .ok (.new 337, 3) := by decide +kernel
theorem dX11_transcriptAt_37 : decode cX11_transcriptAt 37 = .ok (.dup, 1) := by decide +kernel
theorem dX11_transcriptAt_38 : decode cX11_transcriptAt 38 = .ok (.ldc_w 339, 3) := by decide +kernel
theorem dX11_transcriptAt_41 : decode cX11_transcriptAt 41 = .ok (.invokespecial 341, 3) := by decide +kernel
theorem dX11_transcriptAt_44 : decode cX11_transcriptAt 44 = .ok (.athrow, 1) := by decide +kernel
theorem dX11_transcriptAt_45 : decode cX11_transcriptAt 45 = .ok (.aload_n 0, 1) := by decide +kernel
theorem dX11_transcriptAt_46 : decode cX11_transcriptAt 46 = .ok (.getfield 48, 3) := by decide +kernel
theorem dX11_transcriptAt_49 : decode cX11_transcriptAt 49 = .ok (.getfield 342, 3) := by decide +kernel
theorem dX11_transcriptAt_52 : decode cX11_transcriptAt 52 = .ok (.iload_n 2, 1) := by decide +kernel
theorem dX11_transcriptAt_53 : decode cX11_transcriptAt 53 = .ok (.caload, 1) := by decide +kernel
theorem dX11_transcriptAt_54 : decode cX11_transcriptAt 54 = .ok (.ireturn, 1) := by decide +kernel
theorem dX11_addRule_0 : decode cX11_addRule 0 = .ok (.iload_n 1, 1) := by decide +kernel
theorem dX11_addRule_1 : decode cX11_addRule 1 = .ok (.invokestatic 88, 3) := by decide +kernel
theorem dX11_addRule_4 : decode cX11_addRule 4 = .ok (.iload_n 3, 1) := by decide +kernel
theorem dX11_addRule_5 : decode cX11_addRule 5 = .ok (.invokestatic 121, 3) := by decide +kernel
theorem dX11_addRule_8 : decode cX11_addRule 8 = .ok (.iload_n 2, 1) := by decide +kernel
theorem dX11_addRule_9 : decode cX11_addRule 9 = .ok (.iconst 1, 1) := by decide +kernel
theorem dX11_addRule_10 : decode cX11_addRule 10 = .ok (.iconst 3, 1) := by decide +kernel
theorem dX11_addRule_11 : decode cX11_addRule 11 = .ok (.invokestatic 59, 3) := by decide +kernel
theorem dX11_addRule_14 : decode cX11_addRule 14 = .ok (.ifCond .ne 14, 3) := by decide +kernel
theorem dX11_addRule_17 : decode cX11_addRule 17 = .ok (.new 63, 3) := by decide +kernel
theorem dX11_addRule_20 : decode cX11_addRule 20 = .ok (.dup, 1) := by decide +kernel
theorem dX11_addRule_21 : decode cX11_addRule 21 = .ok (.ldc_w 346, 3) := by decide +kernel
theorem dX11_addRule_24 : decode cX11_addRule 24 = .ok (.invokespecial 67, 3) := by decide +kernel
theorem dX11_addRule_27 : decode cX11_addRule 27 = .ok (.athrow, 1) := by decide +kernel
theorem dX11_addRule_28 : decode cX11_addRule 28 = .ok (.aload_n 0, 1) := by decide +kernel
theorem dX11_addRule_29 : decode cX11_addRule 29 = .ok (.iload_n 1, 1) := by decide +kernel
theorem dX11_addRule_30 : decode cX11_addRule 30 = .ok (.invokevirtual 348, 3) := by decide +kernel
theorem dX11_addRule_33 : decode cX11_addRule 33 = .ok (.iconst 4, 1) := by decide +kernel
theorem dX11_addRule_34 : decode cX11_addRule 34 = .ok (.if_icmp .lt 14, 3) := by decide +kernel
theorem dX11_addRule_37 : decode cX11_addRule 37 = .ok (.new 74, 3) := by decide +kernel
theorem dX11_addRule_40 : decode cX11_addRule 40 = .ok (.dup, 1) := by decide +kernel
theorem dX11_addRule_41 : decode cX11_addRule 41 = .ok (.ldc_w 351, 3) := by decide +kernel
theorem dX11_addRule_44 : decode cX11_addRule 44 = .ok (.invokespecial 78, 3) := by decide +kernel
theorem dX11_addRule_47 : decode cX11_addRule 47 = .ok (.athrow, 1) := by decide +kernel
theorem dX11_addRule_48 : decode cX11_addRule 48 = .ok (.aload_n 0, 1) := by decide +kernel
theorem dX11_addRule_49 : decode cX11_addRule 49 = .ok (.getfield 22, 3) := by decide +kernel
theorem dX11_addRule_52 : decode cX11_addRule 52 = .ok (.new 353, 3) := by decide +kernel
theorem dX11_addRule_55 : decode cX11_addRule 55 = .ok (.dup, 1) := by decide +kernel
theorem dX11_addRule_56 : decode cX11_addRule 56 = .ok (.iload_n 1, 1) := by decide +kernel
theorem dX11_addRule_57 : decode cX11_addRule 57 = .ok (.iload_n 2, 1) := by decide +kernel
theorem dX11_addRule_58 : decode cX11_addRule 58 = .ok (.iload_n 3, 1) := by decide +kernel
theorem dX11_addRule_59 : decode cX11_addRule 59 = .ok (.invokespecial 355, 3) := by decide +kernel
theorem dX11_addRule_62 : decode cX11_addRule 62 = .ok (.invokevirtual 84, 3) := by decide +kernel
theorem dX11_addRule_65 : decode cX11_addRule 65 = .ok (.pop, 1) := by decide +kernel
theorem dX11_addRule_66 : decode cX11_addRule 66 = .ok (.aload_n 0, 1) := by decide +kernel
theorem dX11_addRule_67 : decode cX11_addRule 67 = .ok (.getfield 22, 3) := by decide +kernel
theorem dX11_addRule_70 : decode cX11_addRule 70 = .ok (.invokevirtual 70, 3) := by decide +kernel
theorem dX11_addRule_73 : decode cX11_addRule 73 = .ok (.iconst 1, 1) := by decide +kernel
theorem dX11_addRule_74 : decode cX11_addRule 74 = .ok (.isub, 1) := by decide +kernel
theorem dX11_addRule_75 : decode cX11_addRule 75 = .ok (.ireturn, 1) := by decide +kernel
theorem dX11_allow_0 : decode cX11_allow 0 = .ok (.aload_n 0, 1) := by decide +kernel
theorem dX11_allow_1 : decode cX11_allow 1 = .ok (.iload_n 1, 1) := by decide +kernel
theorem dX11_allow_2 : decode cX11_allow 2 = .ok (.invokevirtual 356, 3) := by decide +kernel
theorem dX11_allow_5 : decode cX11_allow 5 = .ok (.astore_n 3, 1) := by decide +kernel
theorem dX11_allow_6 : decode cX11_allow 6 = .ok (.aload_n 0, 1) := by decide +kernel
theorem dX11_allow_7 : decode cX11_allow 7 = .ok (.iload_n 2, 1) := by decide +kernel
theorem dX11_allow_8 : decode cX11_allow 8 = .ok (.invokevirtual 104, 3) := by decide +kernel
theorem dX11_allow_11 : decode cX11_allow 11 = .ok (.pop, 1) := by decide +kernel
theorem dX11_allow_12 : decode cX11_allow 12 = .ok (.aload_n 3, 1) := by decide +kernel
theorem dX11_allow_13 : decode cX11_allow 13 = .ok (.getfield 360, 3) := by decide +kernel
theorem dX11_allow_16 : decode cX11_allow 16 = .ok (.iload_n 2, 1) := by decide +kernel
theorem dX11_allow_17 : decode cX11_allow 17 = .ok (.baload, 1) := by decide +kernel
theorem dX11_allow_18 : decode cX11_allow 18 = .ok (.ifCond .ne 7, 3) := by decide +kernel
theorem dX11_allow_21 : decode cX11_allow 21 = .ok (.iconst 1, 1) := by decide +kernel
theorem dX11_allow_22 : decode cX11_allow 22 = .ok (.goto 4, 3) := by decide +kernel
theorem dX11_allow_25 : decode cX11_allow 25 = .ok (.iconst 0, 1) := by decide +kernel
theorem dX11_allow_26 : decode cX11_allow 26 = .ok (.istore 4, 2) := by decide +kernel
theorem dX11_allow_28 : decode cX11_allow 28 = .ok (.aload_n 3, 1) := by decide +kernel
theorem dX11_allow_29 : decode cX11_allow 29 = .ok (.getfield 360, 3) := by decide +kernel
theorem dX11_allow_32 : decode cX11_allow 32 = .ok (.iload_n 2, 1) := by decide +kernel
theorem dX11_allow_33 : decode cX11_allow 33 = .ok (.iconst 1, 1) := by decide +kernel
theorem dX11_allow_34 : decode cX11_allow 34 = .ok (.bastore, 1) := by decide +kernel
theorem dX11_allow_35 : decode cX11_allow 35 = .ok (.iload 4, 2) := by decide +kernel
theorem dX11_allow_37 : decode cX11_allow 37 = .ok (.ireturn, 1) := by decide +kernel
theorem dX11_mostMet_0 : decode cX11_mostMet 0 = .ok (.aload_n 0, 1) := by decide +kernel
theorem dX11_mostMet_1 : decode cX11_mostMet 1 = .ok (.getfield 41, 3) := by decide +kernel
theorem dX11_mostMet_4 : decode cX11_mostMet 4 = .ok (.aload_n 0, 1) := by decide +kernel
theorem dX11_mostMet_5 : decode cX11_mostMet 5 = .ok (.getfield 22, 3) := by decide +kernel
theorem dX11_mostMet_8 : decode cX11_mostMet 8 = .ok (.aload_n 0, 1) := by decide +kernel
theorem dX11_mostMet_9 : decode cX11_mostMet 9 = .ok (.iload_n 1, 1) := by decide +kernel
theorem dX11_mostMet_10 : decode cX11_mostMet 10 = .ok (.invokevirtual 93, 3) := by decide +kernel
theorem dX11_mostMet_13 : decode cX11_mostMet 13 = .ok (.iconst 0, 1) := by decide +kernel
theorem dX11_mostMet_14 : decode cX11_mostMet 14 = .ok (.invokevirtual 363, 3) := by decide +kernel
theorem dX11_mostMet_17 : decode cX11_mostMet 17 = .ok (.aload_n 0, 1) := by decide +kernel
theorem dX11_mostMet_18 : decode cX11_mostMet 18 = .ok (.getfield 41, 3) := by decide +kernel
theorem dX11_mostMet_21 : decode cX11_mostMet 21 = .ok (.invokevirtual 367, 3) := by decide +kernel
theorem dX11_mostMet_24 : decode cX11_mostMet 24 = .ok (.ireturn, 1) := by decide +kernel
theorem dX11_mostMetByTrial_0 : decode cX11_mostMetByTrial 0 = .ok (.aload_n 0, 1) := by decide +kernel
theorem dX11_mostMetByTrial_1 : decode cX11_mostMetByTrial 1 = .ok (.getfield 41, 3) := by decide +kernel
theorem dX11_mostMetByTrial_4 : decode cX11_mostMetByTrial 4 = .ok (.aload_n 0, 1) := by decide +kernel
theorem dX11_mostMetByTrial_5 : decode cX11_mostMetByTrial 5 = .ok (.getfield 22, 3) := by decide +kernel
theorem dX11_mostMetByTrial_8 : decode cX11_mostMetByTrial 8 = .ok (.aload_n 0, 1) := by decide +kernel
theorem dX11_mostMetByTrial_9 : decode cX11_mostMetByTrial 9 = .ok (.iload_n 1, 1) := by decide +kernel
theorem dX11_mostMetByTrial_10 : decode cX11_mostMetByTrial 10 = .ok (.invokevirtual 93, 3) := by decide +kernel
theorem dX11_mostMetByTrial_13 : decode cX11_mostMetByTrial 13 = .ok (.iconst 0, 1) := by decide +kernel
theorem dX11_mostMetByTrial_14 : decode cX11_mostMetByTrial 14 = .ok (.invokevirtual 363, 3) := by decide +kernel
theorem dX11_mostMetByTrial_17 : decode cX11_mostMetByTrial 17 = .ok (.aload_n 0, 1) := by decide +kernel
theorem dX11_mostMetByTrial_18 : decode cX11_mostMetByTrial 18 = .ok (.getfield 41, 3) := by decide +kernel
theorem dX11_mostMetByTrial_21 : decode cX11_mostMetByTrial 21 = .ok (.invokevirtual 370, 3) := by decide +kernel
theorem dX11_mostMetByTrial_24 : decode cX11_mostMetByTrial 24 = .ok (.ireturn, 1) := by decide +kernel
theorem dX11_mostMetIf_0 : decode cX11_mostMetIf 0 = .ok (.aload_n 0, 1) := by decide +kernel
theorem dX11_mostMetIf_1 : decode cX11_mostMetIf 1 = .ok (.getfield 41, 3) := by decide +kernel
theorem dX11_mostMetIf_4 : decode cX11_mostMetIf 4 = .ok (.aload_n 0, 1) := by decide +kernel
theorem dX11_mostMetIf_5 : decode cX11_mostMetIf 5 = .ok (.getfield 22, 3) := by decide +kernel
theorem dX11_mostMetIf_8 : decode cX11_mostMetIf 8 = .ok (.aload_n 0, 1) := by decide +kernel
theorem dX11_mostMetIf_9 : decode cX11_mostMetIf 9 = .ok (.iload_n 1, 1) := by decide +kernel
theorem dX11_mostMetIf_10 : decode cX11_mostMetIf 10 = .ok (.invokevirtual 93, 3) := by decide +kernel
theorem dX11_mostMetIf_13 : decode cX11_mostMetIf 13 = .ok (.iconst 1, 1) := by decide +kernel
theorem dX11_mostMetIf_14 : decode cX11_mostMetIf 14 = .ok (.invokevirtual 363, 3) := by decide +kernel
theorem dX11_mostMetIf_17 : decode cX11_mostMetIf 17 = .ok (.aload_n 0, 1) := by decide +kernel
theorem dX11_mostMetIf_18 : decode cX11_mostMetIf 18 = .ok (.getfield 41, 3) := by decide +kernel
theorem dX11_mostMetIf_21 : decode cX11_mostMetIf 21 = .ok (.invokevirtual 367, 3) := by decide +kernel
theorem dX11_mostMetIf_24 : decode cX11_mostMetIf 24 = .ok (.ireturn, 1) := by decide +kernel
theorem dX11_lackingRules_0 : decode cX11_lackingRules 0 = .ok (.aload_n 0, 1) := by decide +kernel
theorem dX11_lackingRules_1 : decode cX11_lackingRules 1 = .ok (.getfield 41, 3) := by decide +kernel
theorem dX11_lackingRules_4 : decode cX11_lackingRules 4 = .ok (.aload_n 0, 1) := by decide +kernel
theorem dX11_lackingRules_5 : decode cX11_lackingRules 5 = .ok (.getfield 22, 3) := by decide +kernel
theorem dX11_lackingRules_8 : decode cX11_lackingRules 8 = .ok (.aload_n 0, 1) := by decide +kernel
theorem dX11_lackingRules_9 : decode cX11_lackingRules 9 = .ok (.iload_n 1, 1) := by decide +kernel
theorem dX11_lackingRules_10 : decode cX11_lackingRules 10 = .ok (.invokevirtual 93, 3) := by decide +kernel
theorem dX11_lackingRules_13 : decode cX11_lackingRules 13 = .ok (.iconst 0, 1) := by decide +kernel
theorem dX11_lackingRules_14 : decode cX11_lackingRules 14 = .ok (.invokevirtual 363, 3) := by decide +kernel
theorem dX11_lackingRules_17 : decode cX11_lackingRules 17 = .ok (.aload_n 0, 1) := by decide +kernel
theorem dX11_lackingRules_18 : decode cX11_lackingRules 18 = .ok (.getfield 41, 3) := by decide +kernel
theorem dX11_lackingRules_21 : decode cX11_lackingRules 21 = .ok (.invokevirtual 367, 3) := by decide +kernel
theorem dX11_lackingRules_24 : decode cX11_lackingRules 24 = .ok (.pop, 1) := by decide +kernel
theorem dX11_lackingRules_25 : decode cX11_lackingRules 25 = .ok (.aload_n 0, 1) := by decide +kernel
theorem dX11_lackingRules_26 : decode cX11_lackingRules 26 = .ok (.getfield 41, 3) := by decide +kernel
theorem dX11_lackingRules_29 : decode cX11_lackingRules 29 = .ok (.invokevirtual 373, 3) := by decide +kernel
theorem dX11_lackingRules_32 : decode cX11_lackingRules 32 = .ok (.ireturn, 1) := by decide +kernel
theorem dX11_lackingByTrial_0 : decode cX11_lackingByTrial 0 = .ok (.aload_n 0, 1) := by decide +kernel
theorem dX11_lackingByTrial_1 : decode cX11_lackingByTrial 1 = .ok (.getfield 41, 3) := by decide +kernel
theorem dX11_lackingByTrial_4 : decode cX11_lackingByTrial 4 = .ok (.aload_n 0, 1) := by decide +kernel
theorem dX11_lackingByTrial_5 : decode cX11_lackingByTrial 5 = .ok (.getfield 22, 3) := by decide +kernel
theorem dX11_lackingByTrial_8 : decode cX11_lackingByTrial 8 = .ok (.aload_n 0, 1) := by decide +kernel
theorem dX11_lackingByTrial_9 : decode cX11_lackingByTrial 9 = .ok (.iload_n 1, 1) := by decide +kernel
theorem dX11_lackingByTrial_10 : decode cX11_lackingByTrial 10 = .ok (.invokevirtual 93, 3) := by decide +kernel
theorem dX11_lackingByTrial_13 : decode cX11_lackingByTrial 13 = .ok (.iconst 0, 1) := by decide +kernel
theorem dX11_lackingByTrial_14 : decode cX11_lackingByTrial 14 = .ok (.invokevirtual 363, 3) := by decide +kernel
theorem dX11_lackingByTrial_17 : decode cX11_lackingByTrial 17 = .ok (.aload_n 0, 1) := by decide +kernel
theorem dX11_lackingByTrial_18 : decode cX11_lackingByTrial 18 = .ok (.getfield 41, 3) := by decide +kernel
theorem dX11_lackingByTrial_21 : decode cX11_lackingByTrial 21 = .ok (.aload_n 0, 1) := by decide +kernel
theorem dX11_lackingByTrial_22 : decode cX11_lackingByTrial 22 = .ok (.getfield 41, 3) := by decide +kernel
theorem dX11_lackingByTrial_25 : decode cX11_lackingByTrial 25 = .ok (.invokevirtual 370, 3) := by decide +kernel
theorem dX11_lackingByTrial_28 : decode cX11_lackingByTrial 28 = .ok (.invokevirtual 376, 3) := by decide +kernel
theorem dX11_lackingByTrial_31 : decode cX11_lackingByTrial 31 = .ok (.ireturn, 1) := by decide +kernel
theorem dX11_ruleFor_0 : decode cX11_ruleFor 0 = .ok (.aload_n 0, 1) := by decide +kernel
theorem dX11_ruleFor_1 : decode cX11_ruleFor 1 = .ok (.iload_n 1, 1) := by decide +kernel
theorem dX11_ruleFor_2 : decode cX11_ruleFor 2 = .ok (.invokevirtual 93, 3) := by decide +kernel
theorem dX11_ruleFor_5 : decode cX11_ruleFor 5 = .ok (.astore_n 3, 1) := by decide +kernel
theorem dX11_ruleFor_6 : decode cX11_ruleFor 6 = .ok (.aload_n 0, 1) := by decide +kernel
theorem dX11_ruleFor_7 : decode cX11_ruleFor 7 = .ok (.iload_n 2, 1) := by decide +kernel
theorem dX11_ruleFor_8 : decode cX11_ruleFor 8 = .ok (.invokevirtual 104, 3) := by decide +kernel
theorem dX11_ruleFor_11 : decode cX11_ruleFor 11 = .ok (.pop, 1) := by decide +kernel
theorem dX11_ruleFor_12 : decode cX11_ruleFor 12 = .ok (.aload_n 0, 1) := by decide +kernel
theorem dX11_ruleFor_13 : decode cX11_ruleFor 13 = .ok (.getfield 41, 3) := by decide +kernel
theorem dX11_ruleFor_16 : decode cX11_ruleFor 16 = .ok (.aload_n 0, 1) := by decide +kernel
theorem dX11_ruleFor_17 : decode cX11_ruleFor 17 = .ok (.getfield 22, 3) := by decide +kernel
theorem dX11_ruleFor_20 : decode cX11_ruleFor 20 = .ok (.aload_n 3, 1) := by decide +kernel
theorem dX11_ruleFor_21 : decode cX11_ruleFor 21 = .ok (.iconst 0, 1) := by decide +kernel
theorem dX11_ruleFor_22 : decode cX11_ruleFor 22 = .ok (.invokevirtual 363, 3) := by decide +kernel
theorem dX11_ruleFor_25 : decode cX11_ruleFor 25 = .ok (.aload_n 0, 1) := by decide +kernel
theorem dX11_ruleFor_26 : decode cX11_ruleFor 26 = .ok (.getfield 41, 3) := by decide +kernel
theorem dX11_ruleFor_29 : decode cX11_ruleFor 29 = .ok (.iload_n 2, 1) := by decide +kernel
theorem dX11_ruleFor_30 : decode cX11_ruleFor 30 = .ok (.invokevirtual 379, 3) := by decide +kernel
theorem dX11_ruleFor_33 : decode cX11_ruleFor 33 = .ok (.istore 4, 2) := by decide +kernel
theorem dX11_ruleFor_35 : decode cX11_ruleFor 35 = .ok (.iload 4, 2) := by decide +kernel
theorem dX11_ruleFor_37 : decode cX11_ruleFor 37 = .ok (.iconst (-1), 1) := by decide +kernel
theorem dX11_ruleFor_38 : decode cX11_ruleFor 38 = .ok (.if_icmp .ne 14, 3) := by decide +kernel
theorem dX11_ruleFor_41 : decode cX11_ruleFor 41 = .ok (.new 209, 3) := by decide +kernel
theorem dX11_ruleFor_44 : decode cX11_ruleFor 44 = .ok (.dup, 1) := by decide +kernel
theorem dX11_ruleFor_45 : decode cX11_ruleFor 45 = .ok (.ldc_w 382, 3) := by decide +kernel
theorem dX11_ruleFor_48 : decode cX11_ruleFor 48 = .ok (.invokespecial 213, 3) := by decide +kernel
theorem dX11_ruleFor_51 : decode cX11_ruleFor 51 = .ok (.athrow, 1) := by decide +kernel
theorem dX11_ruleFor_52 : decode cX11_ruleFor 52 = .ok (.iload 4, 2) := by decide +kernel
theorem dX11_ruleFor_54 : decode cX11_ruleFor 54 = .ok (.ireturn, 1) := by decide +kernel
theorem dX11_setDegree_0 : decode cX11_setDegree 0 = .ok (.iload_n 1, 1) := by decide +kernel
theorem dX11_setDegree_1 : decode cX11_setDegree 1 = .ok (.invokestatic 88, 3) := by decide +kernel
theorem dX11_setDegree_4 : decode cX11_setDegree 4 = .ok (.iload_n 2, 1) := by decide +kernel
theorem dX11_setDegree_5 : decode cX11_setDegree 5 = .ok (.iconst 0, 1) := by decide +kernel
theorem dX11_setDegree_6 : decode cX11_setDegree 6 = .ok (.bipush 120, 2) := by decide +kernel
theorem dX11_setDegree_8 : decode cX11_setDegree 8 = .ok (.invokestatic 59, 3) := by decide +kernel
theorem dX11_setDegree_11 : decode cX11_setDegree 11 = .ok (.ifCond .ne 13, 3) := by decide +kernel
theorem dX11_setDegree_14 : decode cX11_setDegree 14 = .ok (.new 63, 3) := by decide +kernel
theorem dX11_setDegree_17 : decode cX11_setDegree 17 = .ok (.dup, 1) := by decide +kernel
theorem dX11_setDegree_18 : decode cX11_setDegree 18 = .ok (.ldc 139, 2) := by decide +kernel
theorem dX11_setDegree_20 : decode cX11_setDegree 20 = .ok (.invokespecial 67, 3) := by decide +kernel
theorem dX11_setDegree_23 : decode cX11_setDegree 23 = .ok (.athrow, 1) := by decide +kernel
theorem dX11_setDegree_24 : decode cX11_setDegree 24 = .ok (.aload_n 0, 1) := by decide +kernel
theorem dX11_setDegree_25 : decode cX11_setDegree 25 = .ok (.getfield 25, 3) := by decide +kernel
theorem dX11_setDegree_28 : decode cX11_setDegree 28 = .ok (.iload_n 1, 1) := by decide +kernel
theorem dX11_setDegree_29 : decode cX11_setDegree 29 = .ok (.iaload, 1) := by decide +kernel
theorem dX11_setDegree_30 : decode cX11_setDegree 30 = .ok (.istore_n 3, 1) := by decide +kernel
theorem dX11_setDegree_31 : decode cX11_setDegree 31 = .ok (.aload_n 0, 1) := by decide +kernel
theorem dX11_setDegree_32 : decode cX11_setDegree 32 = .ok (.getfield 25, 3) := by decide +kernel
theorem dX11_setDegree_35 : decode cX11_setDegree 35 = .ok (.iload_n 1, 1) := by decide +kernel
theorem dX11_setDegree_36 : decode cX11_setDegree 36 = .ok (.iload_n 2, 1) := by decide +kernel
theorem dX11_setDegree_37 : decode cX11_setDegree 37 = .ok (.iastore, 1) := by decide +kernel
theorem dX11_setDegree_38 : decode cX11_setDegree 38 = .ok (.iload_n 3, 1) := by decide +kernel
theorem dX11_setDegree_39 : decode cX11_setDegree 39 = .ok (.ireturn, 1) := by decide +kernel
theorem dX11_canGraduate_0 : decode cX11_canGraduate 0 = .ok (.aload_n 0, 1) := by decide +kernel
theorem dX11_canGraduate_1 : decode cX11_canGraduate 1 = .ok (.iload_n 1, 1) := by decide +kernel
theorem dX11_canGraduate_2 : decode cX11_canGraduate 2 = .ok (.invokevirtual 93, 3) := by decide +kernel
theorem dX11_canGraduate_5 : decode cX11_canGraduate 5 = .ok (.astore_n 2, 1) := by decide +kernel
theorem dX11_canGraduate_6 : decode cX11_canGraduate 6 = .ok (.aload_n 0, 1) := by decide +kernel
theorem dX11_canGraduate_7 : decode cX11_canGraduate 7 = .ok (.getfield 41, 3) := by decide +kernel
theorem dX11_canGraduate_10 : decode cX11_canGraduate 10 = .ok (.aload_n 0, 1) := by decide +kernel
theorem dX11_canGraduate_11 : decode cX11_canGraduate 11 = .ok (.getfield 22, 3) := by decide +kernel
theorem dX11_canGraduate_14 : decode cX11_canGraduate 14 = .ok (.aload_n 2, 1) := by decide +kernel
theorem dX11_canGraduate_15 : decode cX11_canGraduate 15 = .ok (.iconst 0, 1) := by decide +kernel
theorem dX11_canGraduate_16 : decode cX11_canGraduate 16 = .ok (.invokevirtual 363, 3) := by decide +kernel
theorem dX11_canGraduate_19 : decode cX11_canGraduate 19 = .ok (.aload_n 0, 1) := by decide +kernel
theorem dX11_canGraduate_20 : decode cX11_canGraduate 20 = .ok (.getfield 41, 3) := by decide +kernel
theorem dX11_canGraduate_23 : decode cX11_canGraduate 23 = .ok (.invokevirtual 367, 3) := by decide +kernel
theorem dX11_canGraduate_26 : decode cX11_canGraduate 26 = .ok (.aload_n 0, 1) := by decide +kernel
theorem dX11_canGraduate_27 : decode cX11_canGraduate 27 = .ok (.getfield 41, 3) := by decide +kernel
theorem dX11_canGraduate_30 : decode cX11_canGraduate 30 = .ok (.invokevirtual 384, 3) := by decide +kernel
theorem dX11_canGraduate_33 : decode cX11_canGraduate 33 = .ok (.if_icmp .ne 24, 3) := by decide +kernel
theorem dX11_canGraduate_36 : decode cX11_canGraduate 36 = .ok (.aload_n 0, 1) := by decide +kernel
theorem dX11_canGraduate_37 : decode cX11_canGraduate 37 = .ok (.aload_n 2, 1) := by decide +kernel
theorem dX11_canGraduate_38 : decode cX11_canGraduate 38 = .ok (.invokevirtual 305, 3) := by decide +kernel
theorem dX11_canGraduate_41 : decode cX11_canGraduate 41 = .ok (.aload_n 0, 1) := by decide +kernel
theorem dX11_canGraduate_42 : decode cX11_canGraduate 42 = .ok (.getfield 25, 3) := by decide +kernel
theorem dX11_canGraduate_45 : decode cX11_canGraduate 45 = .ok (.aload_n 2, 1) := by decide +kernel
theorem dX11_canGraduate_46 : decode cX11_canGraduate 46 = .ok (.getfield 97, 3) := by decide +kernel
theorem dX11_canGraduate_49 : decode cX11_canGraduate 49 = .ok (.iaload, 1) := by decide +kernel
theorem dX11_canGraduate_50 : decode cX11_canGraduate 50 = .ok (.if_icmp .lt 7, 3) := by decide +kernel
theorem dX11_canGraduate_53 : decode cX11_canGraduate 53 = .ok (.iconst 1, 1) := by decide +kernel
theorem dX11_canGraduate_54 : decode cX11_canGraduate 54 = .ok (.goto 4, 3) := by decide +kernel
theorem dX11_canGraduate_57 : decode cX11_canGraduate 57 = .ok (.iconst 0, 1) := by decide +kernel
theorem dX11_canGraduate_58 : decode cX11_canGraduate 58 = .ok (.ireturn, 1) := by decide +kernel
theorem dX11_isSound_0 : decode cX11_isSound 0 = .ok (.iconst 0, 1) := by decide +kernel
theorem dX11_isSound_1 : decode cX11_isSound 1 = .ok (.istore_n 1, 1) := by decide +kernel
theorem dX11_isSound_2 : decode cX11_isSound 2 = .ok (.iload_n 1, 1) := by decide +kernel
theorem dX11_isSound_3 : decode cX11_isSound 3 = .ok (.aload_n 0, 1) := by decide +kernel
theorem dX11_isSound_4 : decode cX11_isSound 4 = .ok (.getfield 12, 3) := by decide +kernel
theorem dX11_isSound_7 : decode cX11_isSound 7 = .ok (.invokevirtual 70, 3) := by decide +kernel
theorem dX11_isSound_10 : decode cX11_isSound 10 = .ok (.if_icmp .ge 29, 3) := by decide +kernel
theorem dX11_isSound_13 : decode cX11_isSound 13 = .ok (.aload_n 0, 1) := by decide +kernel
theorem dX11_isSound_14 : decode cX11_isSound 14 = .ok (.aload_n 0, 1) := by decide +kernel
theorem dX11_isSound_15 : decode cX11_isSound 15 = .ok (.getfield 12, 3) := by decide +kernel
theorem dX11_isSound_18 : decode cX11_isSound 18 = .ok (.iload_n 1, 1) := by decide +kernel
theorem dX11_isSound_19 : decode cX11_isSound 19 = .ok (.invokevirtual 276, 3) := by decide +kernel
theorem dX11_isSound_22 : decode cX11_isSound 22 = .ok (.checkcast 79, 3) := by decide +kernel
theorem dX11_isSound_25 : decode cX11_isSound 25 = .ok (.invokevirtual 387, 3) := by decide +kernel
theorem dX11_isSound_28 : decode cX11_isSound 28 = .ok (.ifCond .ne 5, 3) := by decide +kernel
theorem dX11_isSound_31 : decode cX11_isSound 31 = .ok (.iconst 0, 1) := by decide +kernel
theorem dX11_isSound_32 : decode cX11_isSound 32 = .ok (.ireturn, 1) := by decide +kernel
theorem dX11_isSound_33 : decode cX11_isSound 33 = .ok (.iinc 1 1, 3) := by decide +kernel
theorem dX11_isSound_36 : decode cX11_isSound 36 = .ok (.goto (-34), 3) := by decide +kernel
theorem dX11_isSound_39 : decode cX11_isSound 39 = .ok (.iconst 0, 1) := by decide +kernel
theorem dX11_isSound_40 : decode cX11_isSound 40 = .ok (.istore_n 1, 1) := by decide +kernel
theorem dX11_isSound_41 : decode cX11_isSound 41 = .ok (.iload_n 1, 1) := by decide +kernel
theorem dX11_isSound_42 : decode cX11_isSound 42 = .ok (.aload_n 0, 1) := by decide +kernel
theorem dX11_isSound_43 : decode cX11_isSound 43 = .ok (.getfield 16, 3) := by decide +kernel
theorem dX11_isSound_46 : decode cX11_isSound 46 = .ok (.invokevirtual 70, 3) := by decide +kernel
theorem dX11_isSound_49 : decode cX11_isSound 49 = .ok (.if_icmp .ge 41, 3) := by decide +kernel
theorem dX11_isSound_52 : decode cX11_isSound 52 = .ok (.aload_n 0, 1) := by decide +kernel
theorem dX11_isSound_53 : decode cX11_isSound 53 = .ok (.getfield 16, 3) := by decide +kernel
theorem dX11_isSound_56 : decode cX11_isSound 56 = .ok (.iload_n 1, 1) := by decide +kernel
theorem dX11_isSound_57 : decode cX11_isSound 57 = .ok (.invokevirtual 276, 3) := by decide +kernel
theorem dX11_isSound_60 : decode cX11_isSound 60 = .ok (.checkcast 29, 3) := by decide +kernel
theorem dX11_isSound_63 : decode cX11_isSound 63 = .ok (.astore_n 2, 1) := by decide +kernel
theorem dX11_isSound_64 : decode cX11_isSound 64 = .ok (.aload_n 0, 1) := by decide +kernel
theorem dX11_isSound_65 : decode cX11_isSound 65 = .ok (.aload_n 2, 1) := by decide +kernel
theorem dX11_isSound_66 : decode cX11_isSound 66 = .ok (.invokevirtual 266, 3) := by decide +kernel
theorem dX11_isSound_69 : decode cX11_isSound 69 = .ok (.bipush 18, 2) := by decide +kernel
theorem dX11_isSound_71 : decode cX11_isSound 71 = .ok (.if_icmp .gt 11, 3) := by decide +kernel
theorem dX11_isSound_74 : decode cX11_isSound 74 = .ok (.aload_n 0, 1) := by decide +kernel
theorem dX11_isSound_75 : decode cX11_isSound 75 = .ok (.aload_n 2, 1) := by decide +kernel
theorem dX11_isSound_76 : decode cX11_isSound 76 = .ok (.invokevirtual 391, 3) := by decide +kernel
theorem dX11_isSound_79 : decode cX11_isSound 79 = .ok (.ifCond .ne 5, 3) := by decide +kernel
theorem dX11_isSound_82 : decode cX11_isSound 82 = .ok (.iconst 0, 1) := by decide +kernel
theorem dX11_isSound_83 : decode cX11_isSound 83 = .ok (.ireturn, 1) := by decide +kernel
theorem dX11_isSound_84 : decode cX11_isSound 84 = .ok (.iinc 1 1, 3) := by decide +kernel
theorem dX11_isSound_87 : decode cX11_isSound 87 = .ok (.goto (-46), 3) := by decide +kernel
theorem dX11_isSound_90 : decode cX11_isSound 90 = .ok (.iconst 1, 1) := by decide +kernel
theorem dX11_isSound_91 : decode cX11_isSound 91 = .ok (.ireturn, 1) := by decide +kernel
theorem dX11_isWithin_0 : decode cX11_isWithin 0 = .ok (.iload_n 0, 1) := by decide +kernel
theorem dX11_isWithin_1 : decode cX11_isWithin 1 = .ok (.iload_n 1, 1) := by decide +kernel
theorem dX11_isWithin_2 : decode cX11_isWithin 2 = .ok (.if_icmp .lt 12, 3) := by decide +kernel
theorem dX11_isWithin_5 : decode cX11_isWithin 5 = .ok (.iload_n 0, 1) := by decide +kernel
theorem dX11_isWithin_6 : decode cX11_isWithin 6 = .ok (.iload_n 2, 1) := by decide +kernel
theorem dX11_isWithin_7 : decode cX11_isWithin 7 = .ok (.if_icmp .gt 7, 3) := by decide +kernel
theorem dX11_isWithin_10 : decode cX11_isWithin 10 = .ok (.iconst 1, 1) := by decide +kernel
theorem dX11_isWithin_11 : decode cX11_isWithin 11 = .ok (.goto 4, 3) := by decide +kernel
theorem dX11_isWithin_14 : decode cX11_isWithin 14 = .ok (.iconst 0, 1) := by decide +kernel
theorem dX11_isWithin_15 : decode cX11_isWithin 15 = .ok (.ireturn, 1) := by decide +kernel
theorem dX11_checkMajor_0 : decode cX11_checkMajor 0 = .ok (.iload_n 0, 1) := by decide +kernel
theorem dX11_checkMajor_1 : decode cX11_checkMajor 1 = .ok (.iconst 0, 1) := by decide +kernel
theorem dX11_checkMajor_2 : decode cX11_checkMajor 2 = .ok (.iconst 3, 1) := by decide +kernel
theorem dX11_checkMajor_3 : decode cX11_checkMajor 3 = .ok (.invokestatic 59, 3) := by decide +kernel
theorem dX11_checkMajor_6 : decode cX11_checkMajor 6 = .ok (.ifCond .ne 14, 3) := by decide +kernel
theorem dX11_checkMajor_9 : decode cX11_checkMajor 9 = .ok (.new 63, 3) := by decide +kernel
theorem dX11_checkMajor_12 : decode cX11_checkMajor 12 = .ok (.dup, 1) := by decide +kernel
theorem dX11_checkMajor_13 : decode cX11_checkMajor 13 = .ok (.ldc_w 395, 3) := by decide +kernel
theorem dX11_checkMajor_16 : decode cX11_checkMajor 16 = .ok (.invokespecial 67, 3) := by decide +kernel
theorem dX11_checkMajor_19 : decode cX11_checkMajor 19 = .ok (.athrow, 1) := by decide +kernel
theorem dX11_checkMajor_20 : decode cX11_checkMajor 20 = .ok (.return_, 1) := by decide +kernel
theorem dX11_checkMark_0 : decode cX11_checkMark 0 = .ok (.iload_n 0, 1) := by decide +kernel
theorem dX11_checkMark_1 : decode cX11_checkMark 1 = .ok (.iconst 0, 1) := by decide +kernel
theorem dX11_checkMark_2 : decode cX11_checkMark 2 = .ok (.bipush 100, 2) := by decide +kernel
theorem dX11_checkMark_4 : decode cX11_checkMark 4 = .ok (.invokestatic 59, 3) := by decide +kernel
theorem dX11_checkMark_7 : decode cX11_checkMark 7 = .ok (.ifCond .ne 14, 3) := by decide +kernel
theorem dX11_checkMark_10 : decode cX11_checkMark 10 = .ok (.new 63, 3) := by decide +kernel
theorem dX11_checkMark_13 : decode cX11_checkMark 13 = .ok (.dup, 1) := by decide +kernel
theorem dX11_checkMark_14 : decode cX11_checkMark 14 = .ok (.ldc_w 397, 3) := by decide +kernel
theorem dX11_checkMark_17 : decode cX11_checkMark 17 = .ok (.invokespecial 67, 3) := by decide +kernel
theorem dX11_checkMark_20 : decode cX11_checkMark 20 = .ok (.athrow, 1) := by decide +kernel
theorem dX11_checkMark_21 : decode cX11_checkMark 21 = .ok (.return_, 1) := by decide +kernel
theorem dX11_studentAt_0 : decode cX11_studentAt 0 = .ok (.iload_n 1, 1) := by decide +kernel
theorem dX11_studentAt_1 : decode cX11_studentAt 1 = .ok (.ifCond .lt 14, 3) := by decide +kernel
theorem dX11_studentAt_4 : decode cX11_studentAt 4 = .ok (.iload_n 1, 1) := by decide +kernel
theorem dX11_studentAt_5 : decode cX11_studentAt 5 = .ok (.aload_n 0, 1) := by decide +kernel
theorem dX11_studentAt_6 : decode cX11_studentAt 6 = .ok (.getfield 16, 3) := by decide +kernel
theorem dX11_studentAt_9 : decode cX11_studentAt 9 = .ok (.invokevirtual 70, 3) := by decide +kernel
theorem dX11_studentAt_12 : decode cX11_studentAt 12 = .ok (.if_icmp .lt 14, 3) := by decide +kernel
theorem dX11_studentAt_15 : decode cX11_studentAt 15 = .ok (.new 337, 3) := by decide +kernel
theorem dX11_studentAt_18 : decode cX11_studentAt 18 = .ok (.dup, 1) := by decide +kernel
theorem dX11_studentAt_19 : decode cX11_studentAt 19 = .ok (.ldc_w 399, 3) := by decide +kernel
theorem dX11_studentAt_22 : decode cX11_studentAt 22 = .ok (.invokespecial 341, 3) := by decide +kernel
theorem dX11_studentAt_25 : decode cX11_studentAt 25 = .ok (.athrow, 1) := by decide +kernel
theorem dX11_studentAt_26 : decode cX11_studentAt 26 = .ok (.aload_n 0, 1) := by decide +kernel
theorem dX11_studentAt_27 : decode cX11_studentAt 27 = .ok (.getfield 16, 3) := by decide +kernel
theorem dX11_studentAt_30 : decode cX11_studentAt 30 = .ok (.iload_n 1, 1) := by decide +kernel
theorem dX11_studentAt_31 : decode cX11_studentAt 31 = .ok (.invokevirtual 276, 3) := by decide +kernel
theorem dX11_studentAt_34 : decode cX11_studentAt 34 = .ok (.checkcast 29, 3) := by decide +kernel
theorem dX11_studentAt_37 : decode cX11_studentAt 37 = .ok (.areturn, 1) := by decide +kernel
theorem dX11_courseAt_0 : decode cX11_courseAt 0 = .ok (.iload_n 1, 1) := by decide +kernel
theorem dX11_courseAt_1 : decode cX11_courseAt 1 = .ok (.ifCond .lt 14, 3) := by decide +kernel
theorem dX11_courseAt_4 : decode cX11_courseAt 4 = .ok (.iload_n 1, 1) := by decide +kernel
theorem dX11_courseAt_5 : decode cX11_courseAt 5 = .ok (.aload_n 0, 1) := by decide +kernel
theorem dX11_courseAt_6 : decode cX11_courseAt 6 = .ok (.getfield 12, 3) := by decide +kernel
theorem dX11_courseAt_9 : decode cX11_courseAt 9 = .ok (.invokevirtual 70, 3) := by decide +kernel
theorem dX11_courseAt_12 : decode cX11_courseAt 12 = .ok (.if_icmp .lt 14, 3) := by decide +kernel
theorem dX11_courseAt_15 : decode cX11_courseAt 15 = .ok (.new 337, 3) := by decide +kernel
theorem dX11_courseAt_18 : decode cX11_courseAt 18 = .ok (.dup, 1) := by decide +kernel
theorem dX11_courseAt_19 : decode cX11_courseAt 19 = .ok (.ldc_w 401, 3) := by decide +kernel
theorem dX11_courseAt_22 : decode cX11_courseAt 22 = .ok (.invokespecial 341, 3) := by decide +kernel
theorem dX11_courseAt_25 : decode cX11_courseAt 25 = .ok (.athrow, 1) := by decide +kernel
theorem dX11_courseAt_26 : decode cX11_courseAt 26 = .ok (.aload_n 0, 1) := by decide +kernel
theorem dX11_courseAt_27 : decode cX11_courseAt 27 = .ok (.getfield 12, 3) := by decide +kernel
theorem dX11_courseAt_30 : decode cX11_courseAt 30 = .ok (.iload_n 1, 1) := by decide +kernel
theorem dX11_courseAt_31 : decode cX11_courseAt 31 = .ok (.invokevirtual 276, 3) := by decide +kernel
theorem dX11_courseAt_34 : decode cX11_courseAt 34 = .ok (.checkcast 79, 3) := by decide +kernel
theorem dX11_courseAt_37 : decode cX11_courseAt 37 = .ok (.areturn, 1) := by decide +kernel
theorem dX11_formulaAt_0 : decode cX11_formulaAt 0 = .ok (.iload_n 1, 1) := by decide +kernel
theorem dX11_formulaAt_1 : decode cX11_formulaAt 1 = .ok (.ifCond .lt 14, 3) := by decide +kernel
theorem dX11_formulaAt_4 : decode cX11_formulaAt 4 = .ok (.iload_n 1, 1) := by decide +kernel
theorem dX11_formulaAt_5 : decode cX11_formulaAt 5 = .ok (.aload_n 0, 1) := by decide +kernel
theorem dX11_formulaAt_6 : decode cX11_formulaAt 6 = .ok (.getfield 19, 3) := by decide +kernel
theorem dX11_formulaAt_9 : decode cX11_formulaAt 9 = .ok (.invokevirtual 70, 3) := by decide +kernel
theorem dX11_formulaAt_12 : decode cX11_formulaAt 12 = .ok (.if_icmp .lt 14, 3) := by decide +kernel
theorem dX11_formulaAt_15 : decode cX11_formulaAt 15 = .ok (.new 209, 3) := by decide +kernel
theorem dX11_formulaAt_18 : decode cX11_formulaAt 18 = .ok (.dup, 1) := by decide +kernel
theorem dX11_formulaAt_19 : decode cX11_formulaAt 19 = .ok (.ldc_w 403, 3) := by decide +kernel
theorem dX11_formulaAt_22 : decode cX11_formulaAt 22 = .ok (.invokespecial 213, 3) := by decide +kernel
theorem dX11_formulaAt_25 : decode cX11_formulaAt 25 = .ok (.athrow, 1) := by decide +kernel
theorem dX11_formulaAt_26 : decode cX11_formulaAt 26 = .ok (.aload_n 0, 1) := by decide +kernel
theorem dX11_formulaAt_27 : decode cX11_formulaAt 27 = .ok (.getfield 19, 3) := by decide +kernel
theorem dX11_formulaAt_30 : decode cX11_formulaAt 30 = .ok (.iload_n 1, 1) := by decide +kernel
theorem dX11_formulaAt_31 : decode cX11_formulaAt 31 = .ok (.invokevirtual 276, 3) := by decide +kernel
theorem dX11_formulaAt_34 : decode cX11_formulaAt 34 = .ok (.checkcast 149, 3) := by decide +kernel
theorem dX11_formulaAt_37 : decode cX11_formulaAt 37 = .ok (.areturn, 1) := by decide +kernel
theorem dX11_ruleAt_0 : decode cX11_ruleAt 0 = .ok (.iload_n 1, 1) := by decide +kernel
theorem dX11_ruleAt_1 : decode cX11_ruleAt 1 = .ok (.ifCond .lt 14, 3) := by decide +kernel
theorem dX11_ruleAt_4 : decode cX11_ruleAt 4 = .ok (.iload_n 1, 1) := by decide +kernel
theorem dX11_ruleAt_5 : decode cX11_ruleAt 5 = .ok (.aload_n 0, 1) := by decide +kernel
theorem dX11_ruleAt_6 : decode cX11_ruleAt 6 = .ok (.getfield 22, 3) := by decide +kernel
theorem dX11_ruleAt_9 : decode cX11_ruleAt 9 = .ok (.invokevirtual 70, 3) := by decide +kernel
theorem dX11_ruleAt_12 : decode cX11_ruleAt 12 = .ok (.if_icmp .lt 14, 3) := by decide +kernel
theorem dX11_ruleAt_15 : decode cX11_ruleAt 15 = .ok (.new 209, 3) := by decide +kernel
theorem dX11_ruleAt_18 : decode cX11_ruleAt 18 = .ok (.dup, 1) := by decide +kernel
theorem dX11_ruleAt_19 : decode cX11_ruleAt 19 = .ok (.ldc_w 405, 3) := by decide +kernel
theorem dX11_ruleAt_22 : decode cX11_ruleAt 22 = .ok (.invokespecial 213, 3) := by decide +kernel
theorem dX11_ruleAt_25 : decode cX11_ruleAt 25 = .ok (.athrow, 1) := by decide +kernel
theorem dX11_ruleAt_26 : decode cX11_ruleAt 26 = .ok (.aload_n 0, 1) := by decide +kernel
theorem dX11_ruleAt_27 : decode cX11_ruleAt 27 = .ok (.getfield 22, 3) := by decide +kernel
theorem dX11_ruleAt_30 : decode cX11_ruleAt 30 = .ok (.iload_n 1, 1) := by decide +kernel
theorem dX11_ruleAt_31 : decode cX11_ruleAt 31 = .ok (.invokevirtual 276, 3) := by decide +kernel
theorem dX11_ruleAt_34 : decode cX11_ruleAt 34 = .ok (.checkcast 353, 3) := by decide +kernel
theorem dX11_ruleAt_37 : decode cX11_ruleAt 37 = .ok (.areturn, 1) := by decide +kernel
theorem dX11_rulesOf_0 : decode cX11_rulesOf 0 = .ok (.iconst 0, 1) := by decide +kernel
theorem dX11_rulesOf_1 : decode cX11_rulesOf 1 = .ok (.istore_n 2, 1) := by decide +kernel
theorem dX11_rulesOf_2 : decode cX11_rulesOf 2 = .ok (.iconst 0, 1) := by decide +kernel
theorem dX11_rulesOf_3 : decode cX11_rulesOf 3 = .ok (.istore_n 3, 1) := by decide +kernel
theorem dX11_rulesOf_4 : decode cX11_rulesOf 4 = .ok (.iload_n 3, 1) := by decide +kernel
theorem dX11_rulesOf_5 : decode cX11_rulesOf 5 = .ok (.aload_n 0, 1) := by decide +kernel
theorem dX11_rulesOf_6 : decode cX11_rulesOf 6 = .ok (.getfield 22, 3) := by decide +kernel
theorem dX11_rulesOf_9 : decode cX11_rulesOf 9 = .ok (.invokevirtual 70, 3) := by decide +kernel
theorem dX11_rulesOf_12 : decode cX11_rulesOf 12 = .ok (.if_icmp .ge 30, 3) := by decide +kernel
theorem dX11_rulesOf_15 : decode cX11_rulesOf 15 = .ok (.aload_n 0, 1) := by decide +kernel
theorem dX11_rulesOf_16 : decode cX11_rulesOf 16 = .ok (.getfield 22, 3) := by decide +kernel
theorem dX11_rulesOf_19 : decode cX11_rulesOf 19 = .ok (.iload_n 3, 1) := by decide +kernel
theorem dX11_rulesOf_20 : decode cX11_rulesOf 20 = .ok (.invokevirtual 276, 3) := by decide +kernel
theorem dX11_rulesOf_23 : decode cX11_rulesOf 23 = .ok (.checkcast 353, 3) := by decide +kernel
theorem dX11_rulesOf_26 : decode cX11_rulesOf 26 = .ok (.getfield 407, 3) := by decide +kernel
theorem dX11_rulesOf_29 : decode cX11_rulesOf 29 = .ok (.iload_n 1, 1) := by decide +kernel
theorem dX11_rulesOf_30 : decode cX11_rulesOf 30 = .ok (.if_icmp .ne 6, 3) := by decide +kernel
theorem dX11_rulesOf_33 : decode cX11_rulesOf 33 = .ok (.iinc 2 1, 3) := by decide +kernel
theorem dX11_rulesOf_36 : decode cX11_rulesOf 36 = .ok (.iinc 3 1, 3) := by decide +kernel
theorem dX11_rulesOf_39 : decode cX11_rulesOf 39 = .ok (.goto (-35), 3) := by decide +kernel
theorem dX11_rulesOf_42 : decode cX11_rulesOf 42 = .ok (.iload_n 2, 1) := by decide +kernel
theorem dX11_rulesOf_43 : decode cX11_rulesOf 43 = .ok (.ireturn, 1) := by decide +kernel
theorem dX11_checkFormulaFits_0 : decode cX11_checkFormulaFits 0 = .ok (.aload_n 0, 1) := by decide +kernel
theorem dX11_checkFormulaFits_1 : decode cX11_checkFormulaFits 1 = .ok (.getfield 19, 3) := by decide +kernel
theorem dX11_checkFormulaFits_4 : decode cX11_checkFormulaFits 4 = .ok (.invokevirtual 70, 3) := by decide +kernel
theorem dX11_checkFormulaFits_7 : decode cX11_checkFormulaFits 7 = .ok (.bipush 60, 2) := by decide +kernel
theorem dX11_checkFormulaFits_9 : decode cX11_checkFormulaFits 9 = .ok (.if_icmp .ge 8, 3) := by decide +kernel
theorem dX11_checkFormulaFits_12 : decode cX11_checkFormulaFits 12 = .ok (.iload_n 1, 1) := by decide +kernel
theorem dX11_checkFormulaFits_13 : decode cX11_checkFormulaFits 13 = .ok (.iconst 5, 1) := by decide +kernel
theorem dX11_checkFormulaFits_14 : decode cX11_checkFormulaFits 14 = .ok (.if_icmp .le 14, 3) := by decide +kernel
theorem dX11_checkFormulaFits_17 : decode cX11_checkFormulaFits 17 = .ok (.new 74, 3) := by decide +kernel
theorem dX11_checkFormulaFits_20 : decode cX11_checkFormulaFits 20 = .ok (.dup, 1) := by decide +kernel
theorem dX11_checkFormulaFits_21 : decode cX11_checkFormulaFits 21 = .ok (.ldc_w 408, 3) := by decide +kernel
theorem dX11_checkFormulaFits_24 : decode cX11_checkFormulaFits 24 = .ok (.invokespecial 78, 3) := by decide +kernel
theorem dX11_checkFormulaFits_27 : decode cX11_checkFormulaFits 27 = .ok (.athrow, 1) := by decide +kernel
theorem dX11_checkFormulaFits_28 : decode cX11_checkFormulaFits 28 = .ok (.return_, 1) := by decide +kernel
theorem dX11_keep_0 : decode cX11_keep 0 = .ok (.aload_n 0, 1) := by decide +kernel
theorem dX11_keep_1 : decode cX11_keep 1 = .ok (.getfield 19, 3) := by decide +kernel
theorem dX11_keep_4 : decode cX11_keep 4 = .ok (.aload_n 1, 1) := by decide +kernel
theorem dX11_keep_5 : decode cX11_keep 5 = .ok (.invokevirtual 84, 3) := by decide +kernel
theorem dX11_keep_8 : decode cX11_keep 8 = .ok (.pop, 1) := by decide +kernel
theorem dX11_keep_9 : decode cX11_keep 9 = .ok (.aload_n 0, 1) := by decide +kernel
theorem dX11_keep_10 : decode cX11_keep 10 = .ok (.getfield 19, 3) := by decide +kernel
theorem dX11_keep_13 : decode cX11_keep 13 = .ok (.invokevirtual 70, 3) := by decide +kernel
theorem dX11_keep_16 : decode cX11_keep 16 = .ok (.iconst 1, 1) := by decide +kernel
theorem dX11_keep_17 : decode cX11_keep 17 = .ok (.isub, 1) := by decide +kernel
theorem dX11_keep_18 : decode cX11_keep 18 = .ok (.ireturn, 1) := by decide +kernel
theorem dX11_truthsFor_0 : decode cX11_truthsFor 0 = .ok (.aload_n 0, 1) := by decide +kernel
theorem dX11_truthsFor_1 : decode cX11_truthsFor 1 = .ok (.aload_n 1, 1) := by decide +kernel
theorem dX11_truthsFor_2 : decode cX11_truthsFor 2 = .ok (.invokevirtual 305, 3) := by decide +kernel
theorem dX11_truthsFor_5 : decode cX11_truthsFor 5 = .ok (.istore_n 2, 1) := by decide +kernel
theorem dX11_truthsFor_6 : decode cX11_truthsFor 6 = .ok (.lconst 0, 1) := by decide +kernel
theorem dX11_truthsFor_7 : decode cX11_truthsFor 7 = .ok (.lstore_n 3, 1) := by decide +kernel
theorem dX11_truthsFor_8 : decode cX11_truthsFor 8 = .ok (.iconst 0, 1) := by decide +kernel
theorem dX11_truthsFor_9 : decode cX11_truthsFor 9 = .ok (.istore 5, 2) := by decide +kernel
theorem dX11_truthsFor_11 : decode cX11_truthsFor 11 = .ok (.iload 5, 2) := by decide +kernel
theorem dX11_truthsFor_13 : decode cX11_truthsFor 13 = .ok (.aload_n 0, 1) := by decide +kernel
theorem dX11_truthsFor_14 : decode cX11_truthsFor 14 = .ok (.getfield 19, 3) := by decide +kernel
theorem dX11_truthsFor_17 : decode cX11_truthsFor 17 = .ok (.invokevirtual 70, 3) := by decide +kernel
theorem dX11_truthsFor_20 : decode cX11_truthsFor 20 = .ok (.if_icmp .ge 37, 3) := by decide +kernel
theorem dX11_truthsFor_23 : decode cX11_truthsFor 23 = .ok (.aload_n 0, 1) := by decide +kernel
theorem dX11_truthsFor_24 : decode cX11_truthsFor 24 = .ok (.getfield 19, 3) := by decide +kernel
theorem dX11_truthsFor_27 : decode cX11_truthsFor 27 = .ok (.iload 5, 2) := by decide +kernel
theorem dX11_truthsFor_29 : decode cX11_truthsFor 29 = .ok (.invokevirtual 276, 3) := by decide +kernel
theorem dX11_truthsFor_32 : decode cX11_truthsFor 32 = .ok (.checkcast 149, 3) := by decide +kernel
theorem dX11_truthsFor_35 : decode cX11_truthsFor 35 = .ok (.aload_n 1, 1) := by decide +kernel
theorem dX11_truthsFor_36 : decode cX11_truthsFor 36 = .ok (.iload_n 2, 1) := by decide +kernel
theorem dX11_truthsFor_37 : decode cX11_truthsFor 37 = .ok (.lload_n 3, 1) := by decide +kernel
theorem dX11_truthsFor_38 : decode cX11_truthsFor 38 = .ok (.invokevirtual 410, 3) := by decide +kernel
theorem dX11_truthsFor_41 : decode cX11_truthsFor 41 = .ok (.ifCond .eq 10, 3) := by decide +kernel
theorem dX11_truthsFor_44 : decode cX11_truthsFor 44 = .ok (.lload_n 3, 1) := by decide +kernel
theorem dX11_truthsFor_45 : decode cX11_truthsFor 45 = .ok (.lconst 1, 1) := by decide +kernel
theorem dX11_truthsFor_46 : decode cX11_truthsFor 46 = .ok (.iload 5, 2) := by decide +kernel
theorem dX11_truthsFor_48 : decode cX11_truthsFor 48 = .ok (.lshl, 1) := by decide +kernel
theorem dX11_truthsFor_49 : decode cX11_truthsFor 49 = .ok (.lor, 1) := by decide +kernel
theorem dX11_truthsFor_50 : decode cX11_truthsFor 50 = .ok (.lstore_n 3, 1) := by decide +kernel
theorem dX11_truthsFor_51 : decode cX11_truthsFor 51 = .ok (.iinc 5 1, 3) := by decide +kernel
theorem dX11_truthsFor_54 : decode cX11_truthsFor 54 = .ok (.goto (-43), 3) := by decide +kernel
theorem dX11_truthsFor_57 : decode cX11_truthsFor 57 = .ok (.lload_n 3, 1) := by decide +kernel
theorem dX11_truthsFor_58 : decode cX11_truthsFor 58 = .ok (.lreturn, 1) := by decide +kernel
theorem dX11_isMet_0 : decode cX11_isMet 0 = .ok (.iload_n 0, 1) := by decide +kernel
theorem dX11_isMet_1 : decode cX11_isMet 1 = .ok (.iconst (-1), 1) := by decide +kernel
theorem dX11_isMet_2 : decode cX11_isMet 2 = .ok (.if_icmp .eq 13, 3) := by decide +kernel
theorem dX11_isMet_5 : decode cX11_isMet 5 = .ok (.lload_n 1, 1) := by decide +kernel
theorem dX11_isMet_6 : decode cX11_isMet 6 = .ok (.iload_n 0, 1) := by decide +kernel
theorem dX11_isMet_7 : decode cX11_isMet 7 = .ok (.lushr, 1) := by decide +kernel
theorem dX11_isMet_8 : decode cX11_isMet 8 = .ok (.lconst 1, 1) := by decide +kernel
theorem dX11_isMet_9 : decode cX11_isMet 9 = .ok (.land, 1) := by decide +kernel
theorem dX11_isMet_10 : decode cX11_isMet 10 = .ok (.lconst 0, 1) := by decide +kernel
theorem dX11_isMet_11 : decode cX11_isMet 11 = .ok (.lcmp, 1) := by decide +kernel
theorem dX11_isMet_12 : decode cX11_isMet 12 = .ok (.ifCond .eq 7, 3) := by decide +kernel
theorem dX11_isMet_15 : decode cX11_isMet 15 = .ok (.iconst 1, 1) := by decide +kernel
theorem dX11_isMet_16 : decode cX11_isMet 16 = .ok (.goto 4, 3) := by decide +kernel
theorem dX11_isMet_19 : decode cX11_isMet 19 = .ok (.iconst 0, 1) := by decide +kernel
theorem dX11_isMet_20 : decode cX11_isMet 20 = .ok (.ireturn, 1) := by decide +kernel
theorem dX11_requisiteHolds_0 : decode cX11_requisiteHolds 0 = .ok (.aload_n 2, 1) := by decide +kernel
theorem dX11_requisiteHolds_1 : decode cX11_requisiteHolds 1 = .ok (.getfield 175, 3) := by decide +kernel
theorem dX11_requisiteHolds_4 : decode cX11_requisiteHolds 4 = .ok (.iconst (-1), 1) := by decide +kernel
theorem dX11_requisiteHolds_5 : decode cX11_requisiteHolds 5 = .ok (.if_icmp .eq 18, 3) := by decide +kernel
theorem dX11_requisiteHolds_8 : decode cX11_requisiteHolds 8 = .ok (.aload_n 2, 1) := by decide +kernel
theorem dX11_requisiteHolds_9 : decode cX11_requisiteHolds 9 = .ok (.getfield 175, 3) := by decide +kernel
theorem dX11_requisiteHolds_12 : decode cX11_requisiteHolds 12 = .ok (.aload_n 0, 1) := by decide +kernel
theorem dX11_requisiteHolds_13 : decode cX11_requisiteHolds 13 = .ok (.aload_n 1, 1) := by decide +kernel
theorem dX11_requisiteHolds_14 : decode cX11_requisiteHolds 14 = .ok (.invokevirtual 167, 3) := by decide +kernel
theorem dX11_requisiteHolds_17 : decode cX11_requisiteHolds 17 = .ok (.invokestatic 171, 3) := by decide +kernel
theorem dX11_requisiteHolds_20 : decode cX11_requisiteHolds 20 = .ok (.ifCond .eq 7, 3) := by decide +kernel
theorem dX11_requisiteHolds_23 : decode cX11_requisiteHolds 23 = .ok (.iconst 1, 1) := by decide +kernel
theorem dX11_requisiteHolds_24 : decode cX11_requisiteHolds 24 = .ok (.goto 4, 3) := by decide +kernel
theorem dX11_requisiteHolds_27 : decode cX11_requisiteHolds 27 = .ok (.iconst 0, 1) := by decide +kernel
theorem dX11_requisiteHolds_28 : decode cX11_requisiteHolds 28 = .ok (.ireturn, 1) := by decide +kernel
theorem dX11_fillReason_0 : decode cX11_fillReason 0 = .ok (.aload_n 0, 1) := by decide +kernel
theorem dX11_fillReason_1 : decode cX11_fillReason 1 = .ok (.iload_n 1, 1) := by decide +kernel
theorem dX11_fillReason_2 : decode cX11_fillReason 2 = .ok (.invokevirtual 93, 3) := by decide +kernel
theorem dX11_fillReason_5 : decode cX11_fillReason 5 = .ok (.astore_n 3, 1) := by decide +kernel
theorem dX11_fillReason_6 : decode cX11_fillReason 6 = .ok (.aload_n 0, 1) := by decide +kernel
theorem dX11_fillReason_7 : decode cX11_fillReason 7 = .ok (.iload_n 2, 1) := by decide +kernel
theorem dX11_fillReason_8 : decode cX11_fillReason 8 = .ok (.invokevirtual 104, 3) := by decide +kernel
theorem dX11_fillReason_11 : decode cX11_fillReason 11 = .ok (.getfield 175, 3) := by decide +kernel
theorem dX11_fillReason_14 : decode cX11_fillReason 14 = .ok (.istore 4, 2) := by decide +kernel
theorem dX11_fillReason_16 : decode cX11_fillReason 16 = .ok (.iload 4, 2) := by decide +kernel
theorem dX11_fillReason_18 : decode cX11_fillReason 18 = .ok (.iconst (-1), 1) := by decide +kernel
theorem dX11_fillReason_19 : decode cX11_fillReason 19 = .ok (.if_icmp .ne 14, 3) := by decide +kernel
theorem dX11_fillReason_22 : decode cX11_fillReason 22 = .ok (.new 209, 3) := by decide +kernel
theorem dX11_fillReason_25 : decode cX11_fillReason 25 = .ok (.dup, 1) := by decide +kernel
theorem dX11_fillReason_26 : decode cX11_fillReason 26 = .ok (.ldc_w 414, 3) := by decide +kernel
theorem dX11_fillReason_29 : decode cX11_fillReason 29 = .ok (.invokespecial 213, 3) := by decide +kernel
theorem dX11_fillReason_32 : decode cX11_fillReason 32 = .ok (.athrow, 1) := by decide +kernel
theorem dX11_fillReason_33 : decode cX11_fillReason 33 = .ok (.aload_n 0, 1) := by decide +kernel
theorem dX11_fillReason_34 : decode cX11_fillReason 34 = .ok (.aload_n 3, 1) := by decide +kernel
theorem dX11_fillReason_35 : decode cX11_fillReason 35 = .ok (.invokevirtual 167, 3) := by decide +kernel
theorem dX11_fillReason_38 : decode cX11_fillReason 38 = .ok (.lstore 5, 2) := by decide +kernel
theorem dX11_fillReason_40 : decode cX11_fillReason 40 = .ok (.iload 4, 2) := by decide +kernel
theorem dX11_fillReason_42 : decode cX11_fillReason 42 = .ok (.lload 5, 2) := by decide +kernel
theorem dX11_fillReason_44 : decode cX11_fillReason 44 = .ok (.invokestatic 171, 3) := by decide +kernel
theorem dX11_fillReason_47 : decode cX11_fillReason 47 = .ok (.ifCond .eq 14, 3) := by decide +kernel
theorem dX11_fillReason_50 : decode cX11_fillReason 50 = .ok (.new 74, 3) := by decide +kernel
theorem dX11_fillReason_53 : decode cX11_fillReason 53 = .ok (.dup, 1) := by decide +kernel
theorem dX11_fillReason_54 : decode cX11_fillReason 54 = .ok (.ldc_w 416, 3) := by decide +kernel
theorem dX11_fillReason_57 : decode cX11_fillReason 57 = .ok (.invokespecial 78, 3) := by decide +kernel
theorem dX11_fillReason_60 : decode cX11_fillReason 60 = .ok (.athrow, 1) := by decide +kernel
theorem dX11_fillReason_61 : decode cX11_fillReason 61 = .ok (.iconst 0, 1) := by decide +kernel
theorem dX11_fillReason_62 : decode cX11_fillReason 62 = .ok (.istore 7, 2) := by decide +kernel
theorem dX11_fillReason_64 : decode cX11_fillReason 64 = .ok (.aload_n 0, 1) := by decide +kernel
theorem dX11_fillReason_65 : decode cX11_fillReason 65 = .ok (.getfield 56, 3) := by decide +kernel
theorem dX11_fillReason_68 : decode cX11_fillReason 68 = .ok (.iload 7, 2) := by decide +kernel
theorem dX11_fillReason_70 : decode cX11_fillReason 70 = .ok (.iload 4, 2) := by decide +kernel
theorem dX11_fillReason_72 : decode cX11_fillReason 72 = .ok (.iastore, 1) := by decide +kernel
theorem dX11_fillReason_73 : decode cX11_fillReason 73 = .ok (.iinc 7 1, 3) := by decide +kernel
theorem dX11_fillReason_76 : decode cX11_fillReason 76 = .ok (.aload_n 0, 1) := by decide +kernel
theorem dX11_fillReason_77 : decode cX11_fillReason 77 = .ok (.iload 4, 2) := by decide +kernel
theorem dX11_fillReason_79 : decode cX11_fillReason 79 = .ok (.invokevirtual 144, 3) := by decide +kernel
theorem dX11_fillReason_82 : decode cX11_fillReason 82 = .ok (.lload 5, 2) := by decide +kernel
theorem dX11_fillReason_84 : decode cX11_fillReason 84 = .ok (.invokevirtual 418, 3) := by decide +kernel
theorem dX11_fillReason_87 : decode cX11_fillReason 87 = .ok (.istore 4, 2) := by decide +kernel
theorem dX11_fillReason_89 : decode cX11_fillReason 89 = .ok (.iload 4, 2) := by decide +kernel
theorem dX11_fillReason_91 : decode cX11_fillReason 91 = .ok (.iconst (-1), 1) := by decide +kernel
theorem dX11_fillReason_92 : decode cX11_fillReason 92 = .ok (.if_icmp .eq 9, 3) := by decide +kernel
theorem dX11_fillReason_95 : decode cX11_fillReason 95 = .ok (.iload 7, 2) := by decide +kernel
theorem dX11_fillReason_97 : decode cX11_fillReason 97 = .ok (.iconst 5, 1) := by decide +kernel
theorem dX11_fillReason_98 : decode cX11_fillReason 98 = .ok (.if_icmp .le (-34), 3) := by decide +kernel
theorem dX11_fillReason_101 : decode cX11_fillReason 101 = .ok (.iload 7, 2) := by decide +kernel
theorem dX11_fillReason_103 : decode cX11_fillReason 103 = .ok (.ireturn, 1) := by decide +kernel
theorem dX11_studyOneTerm_0 : decode cX11_studyOneTerm 0 = .ok (.aload_n 0, 1) := by decide +kernel
theorem dX11_studyOneTerm_1 : decode cX11_studyOneTerm 1 = .ok (.aload_n 1, 1) := by decide +kernel
theorem dX11_studyOneTerm_2 : decode cX11_studyOneTerm 2 = .ok (.invokevirtual 167, 3) := by decide +kernel
theorem dX11_studyOneTerm_5 : decode cX11_studyOneTerm 5 = .ok (.lstore_n 2, 1) := by decide +kernel
theorem dX11_studyOneTerm_6 : decode cX11_studyOneTerm 6 = .ok (.iconst 0, 1) := by decide +kernel
theorem dX11_studyOneTerm_7 : decode cX11_studyOneTerm 7 = .ok (.istore 4, 2) := by decide +kernel
theorem dX11_studyOneTerm_9 : decode cX11_studyOneTerm 9 = .ok (.iload 4, 2) := by decide +kernel
theorem dX11_studyOneTerm_11 : decode cX11_studyOneTerm 11 = .ok (.aload_n 0, 1) := by decide +kernel
theorem dX11_studyOneTerm_12 : decode cX11_studyOneTerm 12 = .ok (.getfield 12, 3) := by decide +kernel
theorem dX11_studyOneTerm_15 : decode cX11_studyOneTerm 15 = .ok (.invokevirtual 70, 3) := by decide +kernel
theorem dX11_studyOneTerm_18 : decode cX11_studyOneTerm 18 = .ok (.if_icmp .ge 48, 3) := by decide +kernel
theorem dX11_studyOneTerm_21 : decode cX11_studyOneTerm 21 = .ok (.aload_n 1, 1) := by decide +kernel
theorem dX11_studyOneTerm_22 : decode cX11_studyOneTerm 22 = .ok (.iload 4, 2) := by decide +kernel
theorem dX11_studyOneTerm_24 : decode cX11_studyOneTerm 24 = .ok (.invokevirtual 283, 3) := by decide +kernel
theorem dX11_studyOneTerm_27 : decode cX11_studyOneTerm 27 = .ok (.ifCond .ne 33, 3) := by decide +kernel
theorem dX11_studyOneTerm_30 : decode cX11_studyOneTerm 30 = .ok (.aload_n 0, 1) := by decide +kernel
theorem dX11_studyOneTerm_31 : decode cX11_studyOneTerm 31 = .ok (.getfield 12, 3) := by decide +kernel
theorem dX11_studyOneTerm_34 : decode cX11_studyOneTerm 34 = .ok (.iload 4, 2) := by decide +kernel
theorem dX11_studyOneTerm_36 : decode cX11_studyOneTerm 36 = .ok (.invokevirtual 276, 3) := by decide +kernel
theorem dX11_studyOneTerm_39 : decode cX11_studyOneTerm 39 = .ok (.checkcast 79, 3) := by decide +kernel
theorem dX11_studyOneTerm_42 : decode cX11_studyOneTerm 42 = .ok (.getfield 175, 3) := by decide +kernel
theorem dX11_studyOneTerm_45 : decode cX11_studyOneTerm 45 = .ok (.lload_n 2, 1) := by decide +kernel
theorem dX11_studyOneTerm_46 : decode cX11_studyOneTerm 46 = .ok (.invokestatic 171, 3) := by decide +kernel
theorem dX11_studyOneTerm_49 : decode cX11_studyOneTerm 49 = .ok (.ifCond .eq 11, 3) := by decide +kernel
theorem dX11_studyOneTerm_52 : decode cX11_studyOneTerm 52 = .ok (.aload_n 1, 1) := by decide +kernel
theorem dX11_studyOneTerm_53 : decode cX11_studyOneTerm 53 = .ok (.iload 4, 2) := by decide +kernel
theorem dX11_studyOneTerm_55 : decode cX11_studyOneTerm 55 = .ok (.bipush 100, 2) := by decide +kernel
theorem dX11_studyOneTerm_57 : decode cX11_studyOneTerm 57 = .ok (.invokevirtual 422, 3) := by decide +kernel
theorem dX11_studyOneTerm_60 : decode cX11_studyOneTerm 60 = .ok (.iinc 4 1, 3) := by decide +kernel
theorem dX11_studyOneTerm_63 : decode cX11_studyOneTerm 63 = .ok (.goto (-54), 3) := by decide +kernel
theorem dX11_studyOneTerm_66 : decode cX11_studyOneTerm 66 = .ok (.return_, 1) := by decide +kernel
theorem dX11_creditsEarned_0 : decode cX11_creditsEarned 0 = .ok (.iconst 0, 1) := by decide +kernel
theorem dX11_creditsEarned_1 : decode cX11_creditsEarned 1 = .ok (.istore_n 2, 1) := by decide +kernel
theorem dX11_creditsEarned_2 : decode cX11_creditsEarned 2 = .ok (.iconst 0, 1) := by decide +kernel
theorem dX11_creditsEarned_3 : decode cX11_creditsEarned 3 = .ok (.istore_n 3, 1) := by decide +kernel
theorem dX11_creditsEarned_4 : decode cX11_creditsEarned 4 = .ok (.iload_n 3, 1) := by decide +kernel
theorem dX11_creditsEarned_5 : decode cX11_creditsEarned 5 = .ok (.aload_n 0, 1) := by decide +kernel
theorem dX11_creditsEarned_6 : decode cX11_creditsEarned 6 = .ok (.getfield 12, 3) := by decide +kernel
theorem dX11_creditsEarned_9 : decode cX11_creditsEarned 9 = .ok (.invokevirtual 70, 3) := by decide +kernel
theorem dX11_creditsEarned_12 : decode cX11_creditsEarned 12 = .ok (.if_icmp .ge 34, 3) := by decide +kernel
theorem dX11_creditsEarned_15 : decode cX11_creditsEarned 15 = .ok (.aload_n 1, 1) := by decide +kernel
theorem dX11_creditsEarned_16 : decode cX11_creditsEarned 16 = .ok (.iload_n 3, 1) := by decide +kernel
theorem dX11_creditsEarned_17 : decode cX11_creditsEarned 17 = .ok (.invokevirtual 283, 3) := by decide +kernel
theorem dX11_creditsEarned_20 : decode cX11_creditsEarned 20 = .ok (.ifCond .eq 20, 3) := by decide +kernel
theorem dX11_creditsEarned_23 : decode cX11_creditsEarned 23 = .ok (.iload_n 2, 1) := by decide +kernel
theorem dX11_creditsEarned_24 : decode cX11_creditsEarned 24 = .ok (.aload_n 0, 1) := by decide +kernel
theorem dX11_creditsEarned_25 : decode cX11_creditsEarned 25 = .ok (.getfield 12, 3) := by decide +kernel
theorem dX11_creditsEarned_28 : decode cX11_creditsEarned 28 = .ok (.iload_n 3, 1) := by decide +kernel
theorem dX11_creditsEarned_29 : decode cX11_creditsEarned 29 = .ok (.invokevirtual 276, 3) := by decide +kernel
theorem dX11_creditsEarned_32 : decode cX11_creditsEarned 32 = .ok (.checkcast 79, 3) := by decide +kernel
theorem dX11_creditsEarned_35 : decode cX11_creditsEarned 35 = .ok (.getfield 292, 3) := by decide +kernel
theorem dX11_creditsEarned_38 : decode cX11_creditsEarned 38 = .ok (.iadd, 1) := by decide +kernel
theorem dX11_creditsEarned_39 : decode cX11_creditsEarned 39 = .ok (.istore_n 2, 1) := by decide +kernel
theorem dX11_creditsEarned_40 : decode cX11_creditsEarned 40 = .ok (.iinc 3 1, 3) := by decide +kernel
theorem dX11_creditsEarned_43 : decode cX11_creditsEarned 43 = .ok (.goto (-39), 3) := by decide +kernel
theorem dX11_creditsEarned_46 : decode cX11_creditsEarned 46 = .ok (.iload_n 2, 1) := by decide +kernel
theorem dX11_creditsEarned_47 : decode cX11_creditsEarned 47 = .ok (.ireturn, 1) := by decide +kernel
theorem dX11_creditsMovedIn_0 : decode cX11_creditsMovedIn 0 = .ok (.iconst 0, 1) := by decide +kernel
theorem dX11_creditsMovedIn_1 : decode cX11_creditsMovedIn 1 = .ok (.istore_n 2, 1) := by decide +kernel
theorem dX11_creditsMovedIn_2 : decode cX11_creditsMovedIn 2 = .ok (.iconst 0, 1) := by decide +kernel
theorem dX11_creditsMovedIn_3 : decode cX11_creditsMovedIn 3 = .ok (.istore_n 3, 1) := by decide +kernel
theorem dX11_creditsMovedIn_4 : decode cX11_creditsMovedIn 4 = .ok (.iload_n 3, 1) := by decide +kernel
theorem dX11_creditsMovedIn_5 : decode cX11_creditsMovedIn 5 = .ok (.aload_n 0, 1) := by decide +kernel
theorem dX11_creditsMovedIn_6 : decode cX11_creditsMovedIn 6 = .ok (.getfield 12, 3) := by decide +kernel
theorem dX11_creditsMovedIn_9 : decode cX11_creditsMovedIn 9 = .ok (.invokevirtual 70, 3) := by decide +kernel
theorem dX11_creditsMovedIn_12 : decode cX11_creditsMovedIn 12 = .ok (.if_icmp .ge 35, 3) := by decide +kernel
theorem dX11_creditsMovedIn_15 : decode cX11_creditsMovedIn 15 = .ok (.aload_n 1, 1) := by decide +kernel
theorem dX11_creditsMovedIn_16 : decode cX11_creditsMovedIn 16 = .ok (.getfield 425, 3) := by decide +kernel
theorem dX11_creditsMovedIn_19 : decode cX11_creditsMovedIn 19 = .ok (.iload_n 3, 1) := by decide +kernel
theorem dX11_creditsMovedIn_20 : decode cX11_creditsMovedIn 20 = .ok (.baload, 1) := by decide +kernel
theorem dX11_creditsMovedIn_21 : decode cX11_creditsMovedIn 21 = .ok (.ifCond .eq 20, 3) := by decide +kernel
theorem dX11_creditsMovedIn_24 : decode cX11_creditsMovedIn 24 = .ok (.iload_n 2, 1) := by decide +kernel
theorem dX11_creditsMovedIn_25 : decode cX11_creditsMovedIn 25 = .ok (.aload_n 0, 1) := by decide +kernel
theorem dX11_creditsMovedIn_26 : decode cX11_creditsMovedIn 26 = .ok (.getfield 12, 3) := by decide +kernel
theorem dX11_creditsMovedIn_29 : decode cX11_creditsMovedIn 29 = .ok (.iload_n 3, 1) := by decide +kernel
theorem dX11_creditsMovedIn_30 : decode cX11_creditsMovedIn 30 = .ok (.invokevirtual 276, 3) := by decide +kernel
theorem dX11_creditsMovedIn_33 : decode cX11_creditsMovedIn 33 = .ok (.checkcast 79, 3) := by decide +kernel
theorem dX11_creditsMovedIn_36 : decode cX11_creditsMovedIn 36 = .ok (.getfield 292, 3) := by decide +kernel
theorem dX11_creditsMovedIn_39 : decode cX11_creditsMovedIn 39 = .ok (.iadd, 1) := by decide +kernel
theorem dX11_creditsMovedIn_40 : decode cX11_creditsMovedIn 40 = .ok (.istore_n 2, 1) := by decide +kernel
theorem dX11_creditsMovedIn_41 : decode cX11_creditsMovedIn 41 = .ok (.iinc 3 1, 3) := by decide +kernel
theorem dX11_creditsMovedIn_44 : decode cX11_creditsMovedIn 44 = .ok (.goto (-40), 3) := by decide +kernel
theorem dX11_creditsMovedIn_47 : decode cX11_creditsMovedIn 47 = .ok (.iload_n 2, 1) := by decide +kernel
theorem dX11_creditsMovedIn_48 : decode cX11_creditsMovedIn 48 = .ok (.ireturn, 1) := by decide +kernel
theorem dX11_loadOn_0 : decode cX11_loadOn 0 = .ok (.iconst 0, 1) := by decide +kernel
theorem dX11_loadOn_1 : decode cX11_loadOn 1 = .ok (.istore_n 2, 1) := by decide +kernel
theorem dX11_loadOn_2 : decode cX11_loadOn 2 = .ok (.iconst 0, 1) := by decide +kernel
theorem dX11_loadOn_3 : decode cX11_loadOn 3 = .ok (.istore_n 3, 1) := by decide +kernel
theorem dX11_loadOn_4 : decode cX11_loadOn 4 = .ok (.iload_n 3, 1) := by decide +kernel
theorem dX11_loadOn_5 : decode cX11_loadOn 5 = .ok (.aload_n 0, 1) := by decide +kernel
theorem dX11_loadOn_6 : decode cX11_loadOn 6 = .ok (.getfield 12, 3) := by decide +kernel
theorem dX11_loadOn_9 : decode cX11_loadOn 9 = .ok (.invokevirtual 70, 3) := by decide +kernel
theorem dX11_loadOn_12 : decode cX11_loadOn 12 = .ok (.if_icmp .ge 35, 3) := by decide +kernel
theorem dX11_loadOn_15 : decode cX11_loadOn 15 = .ok (.aload_n 1, 1) := by decide +kernel
theorem dX11_loadOn_16 : decode cX11_loadOn 16 = .ok (.getfield 214, 3) := by decide +kernel
theorem dX11_loadOn_19 : decode cX11_loadOn 19 = .ok (.iload_n 3, 1) := by decide +kernel
theorem dX11_loadOn_20 : decode cX11_loadOn 20 = .ok (.baload, 1) := by decide +kernel
theorem dX11_loadOn_21 : decode cX11_loadOn 21 = .ok (.ifCond .eq 20, 3) := by decide +kernel
theorem dX11_loadOn_24 : decode cX11_loadOn 24 = .ok (.iload_n 2, 1) := by decide +kernel
theorem dX11_loadOn_25 : decode cX11_loadOn 25 = .ok (.aload_n 0, 1) := by decide +kernel
theorem dX11_loadOn_26 : decode cX11_loadOn 26 = .ok (.getfield 12, 3) := by decide +kernel
theorem dX11_loadOn_29 : decode cX11_loadOn 29 = .ok (.iload_n 3, 1) := by decide +kernel
theorem dX11_loadOn_30 : decode cX11_loadOn 30 = .ok (.invokevirtual 276, 3) := by decide +kernel
theorem dX11_loadOn_33 : decode cX11_loadOn 33 = .ok (.checkcast 79, 3) := by decide +kernel
theorem dX11_loadOn_36 : decode cX11_loadOn 36 = .ok (.getfield 292, 3) := by decide +kernel
theorem dX11_loadOn_39 : decode cX11_loadOn 39 = .ok (.iadd, 1) := by decide +kernel
theorem dX11_loadOn_40 : decode cX11_loadOn 40 = .ok (.istore_n 2, 1) := by decide +kernel
theorem dX11_loadOn_41 : decode cX11_loadOn 41 = .ok (.iinc 3 1, 3) := by decide +kernel
theorem dX11_loadOn_44 : decode cX11_loadOn 44 = .ok (.goto (-40), 3) := by decide +kernel
theorem dX11_loadOn_47 : decode cX11_loadOn 47 = .ok (.iload_n 2, 1) := by decide +kernel
theorem dX11_loadOn_48 : decode cX11_loadOn 48 = .ok (.ireturn, 1) := by decide +kernel
theorem dX11_canBear_0 : decode cX11_canBear 0 = .ok (.aload_n 0, 1) := by decide +kernel
theorem dX11_canBear_1 : decode cX11_canBear 1 = .ok (.aload_n 1, 1) := by decide +kernel
theorem dX11_canBear_2 : decode cX11_canBear 2 = .ok (.invokevirtual 266, 3) := by decide +kernel
theorem dX11_canBear_5 : decode cX11_canBear 5 = .ok (.aload_n 2, 1) := by decide +kernel
theorem dX11_canBear_6 : decode cX11_canBear 6 = .ok (.getfield 292, 3) := by decide +kernel
theorem dX11_canBear_9 : decode cX11_canBear 9 = .ok (.iadd, 1) := by decide +kernel
theorem dX11_canBear_10 : decode cX11_canBear 10 = .ok (.bipush 18, 2) := by decide +kernel
theorem dX11_canBear_12 : decode cX11_canBear 12 = .ok (.if_icmp .gt 7, 3) := by decide +kernel
theorem dX11_canBear_15 : decode cX11_canBear 15 = .ok (.iconst 1, 1) := by decide +kernel
theorem dX11_canBear_16 : decode cX11_canBear 16 = .ok (.goto 4, 3) := by decide +kernel
theorem dX11_canBear_19 : decode cX11_canBear 19 = .ok (.iconst 0, 1) := by decide +kernel
theorem dX11_canBear_20 : decode cX11_canBear 20 = .ok (.ireturn, 1) := by decide +kernel
theorem dX11_takersOf_0 : decode cX11_takersOf 0 = .ok (.iconst 0, 1) := by decide +kernel
theorem dX11_takersOf_1 : decode cX11_takersOf 1 = .ok (.istore_n 2, 1) := by decide +kernel
theorem dX11_takersOf_2 : decode cX11_takersOf 2 = .ok (.iconst 0, 1) := by decide +kernel
theorem dX11_takersOf_3 : decode cX11_takersOf 3 = .ok (.istore_n 3, 1) := by decide +kernel
theorem dX11_takersOf_4 : decode cX11_takersOf 4 = .ok (.iload_n 3, 1) := by decide +kernel
theorem dX11_takersOf_5 : decode cX11_takersOf 5 = .ok (.aload_n 0, 1) := by decide +kernel
theorem dX11_takersOf_6 : decode cX11_takersOf 6 = .ok (.getfield 16, 3) := by decide +kernel
theorem dX11_takersOf_9 : decode cX11_takersOf 9 = .ok (.invokevirtual 70, 3) := by decide +kernel
theorem dX11_takersOf_12 : decode cX11_takersOf 12 = .ok (.if_icmp .ge 34, 3) := by decide +kernel
theorem dX11_takersOf_15 : decode cX11_takersOf 15 = .ok (.aload_n 0, 1) := by decide +kernel
theorem dX11_takersOf_16 : decode cX11_takersOf 16 = .ok (.getfield 16, 3) := by decide +kernel
theorem dX11_takersOf_19 : decode cX11_takersOf 19 = .ok (.iload_n 3, 1) := by decide +kernel
theorem dX11_takersOf_20 : decode cX11_takersOf 20 = .ok (.invokevirtual 276, 3) := by decide +kernel
theorem dX11_takersOf_23 : decode cX11_takersOf 23 = .ok (.checkcast 29, 3) := by decide +kernel
theorem dX11_takersOf_26 : decode cX11_takersOf 26 = .ok (.getfield 214, 3) := by decide +kernel
theorem dX11_takersOf_29 : decode cX11_takersOf 29 = .ok (.aload_n 1, 1) := by decide +kernel
theorem dX11_takersOf_30 : decode cX11_takersOf 30 = .ok (.getfield 428, 3) := by decide +kernel
theorem dX11_takersOf_33 : decode cX11_takersOf 33 = .ok (.baload, 1) := by decide +kernel
theorem dX11_takersOf_34 : decode cX11_takersOf 34 = .ok (.ifCond .eq 6, 3) := by decide +kernel
theorem dX11_takersOf_37 : decode cX11_takersOf 37 = .ok (.iinc 2 1, 3) := by decide +kernel
theorem dX11_takersOf_40 : decode cX11_takersOf 40 = .ok (.iinc 3 1, 3) := by decide +kernel
theorem dX11_takersOf_43 : decode cX11_takersOf 43 = .ok (.goto (-39), 3) := by decide +kernel
theorem dX11_takersOf_46 : decode cX11_takersOf 46 = .ok (.iload_n 2, 1) := by decide +kernel
theorem dX11_takersOf_47 : decode cX11_takersOf 47 = .ok (.ireturn, 1) := by decide +kernel
theorem dX11_takersOfMajor_0 : decode cX11_takersOfMajor 0 = .ok (.iconst 0, 1) := by decide +kernel
theorem dX11_takersOfMajor_1 : decode cX11_takersOfMajor 1 = .ok (.istore_n 3, 1) := by decide +kernel
theorem dX11_takersOfMajor_2 : decode cX11_takersOfMajor 2 = .ok (.iconst 0, 1) := by decide +kernel
theorem dX11_takersOfMajor_3 : decode cX11_takersOfMajor 3 = .ok (.istore 4, 2) := by decide +kernel
theorem dX11_takersOfMajor_5 : decode cX11_takersOfMajor 5 = .ok (.iload 4, 2) := by decide +kernel
theorem dX11_takersOfMajor_7 : decode cX11_takersOfMajor 7 = .ok (.aload_n 0, 1) := by decide +kernel
theorem dX11_takersOfMajor_8 : decode cX11_takersOfMajor 8 = .ok (.getfield 16, 3) := by decide +kernel
theorem dX11_takersOfMajor_11 : decode cX11_takersOfMajor 11 = .ok (.invokevirtual 70, 3) := by decide +kernel
theorem dX11_takersOfMajor_14 : decode cX11_takersOfMajor 14 = .ok (.if_icmp .ge 48, 3) := by decide +kernel
theorem dX11_takersOfMajor_17 : decode cX11_takersOfMajor 17 = .ok (.aload_n 0, 1) := by decide +kernel
theorem dX11_takersOfMajor_18 : decode cX11_takersOfMajor 18 = .ok (.getfield 16, 3) := by decide +kernel
theorem dX11_takersOfMajor_21 : decode cX11_takersOfMajor 21 = .ok (.iload 4, 2) := by decide +kernel
theorem dX11_takersOfMajor_23 : decode cX11_takersOfMajor 23 = .ok (.invokevirtual 276, 3) := by decide +kernel
theorem dX11_takersOfMajor_26 : decode cX11_takersOfMajor 26 = .ok (.checkcast 29, 3) := by decide +kernel
theorem dX11_takersOfMajor_29 : decode cX11_takersOfMajor 29 = .ok (.astore 5, 2) := by decide +kernel
theorem dX11_takersOfMajor_31 : decode cX11_takersOfMajor 31 = .ok (.aload 5, 2) := by decide +kernel
theorem dX11_takersOfMajor_33 : decode cX11_takersOfMajor 33 = .ok (.getfield 214, 3) := by decide +kernel
theorem dX11_takersOfMajor_36 : decode cX11_takersOfMajor 36 = .ok (.aload_n 1, 1) := by decide +kernel
theorem dX11_takersOfMajor_37 : decode cX11_takersOfMajor 37 = .ok (.getfield 428, 3) := by decide +kernel
theorem dX11_takersOfMajor_40 : decode cX11_takersOfMajor 40 = .ok (.baload, 1) := by decide +kernel
theorem dX11_takersOfMajor_41 : decode cX11_takersOfMajor 41 = .ok (.ifCond .eq 15, 3) := by decide +kernel
theorem dX11_takersOfMajor_44 : decode cX11_takersOfMajor 44 = .ok (.aload 5, 2) := by decide +kernel
theorem dX11_takersOfMajor_46 : decode cX11_takersOfMajor 46 = .ok (.getfield 97, 3) := by decide +kernel
theorem dX11_takersOfMajor_49 : decode cX11_takersOfMajor 49 = .ok (.iload_n 2, 1) := by decide +kernel
theorem dX11_takersOfMajor_50 : decode cX11_takersOfMajor 50 = .ok (.if_icmp .ne 6, 3) := by decide +kernel
theorem dX11_takersOfMajor_53 : decode cX11_takersOfMajor 53 = .ok (.iinc 3 1, 3) := by decide +kernel
theorem dX11_takersOfMajor_56 : decode cX11_takersOfMajor 56 = .ok (.iinc 4 1, 3) := by decide +kernel
theorem dX11_takersOfMajor_59 : decode cX11_takersOfMajor 59 = .ok (.goto (-54), 3) := by decide +kernel
theorem dX11_takersOfMajor_62 : decode cX11_takersOfMajor 62 = .ok (.iload_n 3, 1) := by decide +kernel
theorem dX11_takersOfMajor_63 : decode cX11_takersOfMajor 63 = .ok (.ireturn, 1) := by decide +kernel
theorem dX11_freeFor_0 : decode cX11_freeFor 0 = .ok (.aload_n 1, 1) := by decide +kernel
theorem dX11_freeFor_1 : decode cX11_freeFor 1 = .ok (.getfield 113, 3) := by decide +kernel
theorem dX11_freeFor_4 : decode cX11_freeFor 4 = .ok (.aload_n 0, 1) := by decide +kernel
theorem dX11_freeFor_5 : decode cX11_freeFor 5 = .ok (.aload_n 1, 1) := by decide +kernel
theorem dX11_freeFor_6 : decode cX11_freeFor 6 = .ok (.invokevirtual 314, 3) := by decide +kernel
theorem dX11_freeFor_9 : decode cX11_freeFor 9 = .ok (.isub, 1) := by decide +kernel
theorem dX11_freeFor_10 : decode cX11_freeFor 10 = .ok (.istore_n 3, 1) := by decide +kernel
theorem dX11_freeFor_11 : decode cX11_freeFor 11 = .ok (.aload_n 0, 1) := by decide +kernel
theorem dX11_freeFor_12 : decode cX11_freeFor 12 = .ok (.getfield 180, 3) := by decide +kernel
theorem dX11_freeFor_15 : decode cX11_freeFor 15 = .ok (.iconst 3, 1) := by decide +kernel
theorem dX11_freeFor_16 : decode cX11_freeFor 16 = .ok (.if_icmp .gt 46, 3) := by decide +kernel
theorem dX11_freeFor_19 : decode cX11_freeFor 19 = .ok (.iconst 0, 1) := by decide +kernel
theorem dX11_freeFor_20 : decode cX11_freeFor 20 = .ok (.istore 4, 2) := by decide +kernel
theorem dX11_freeFor_22 : decode cX11_freeFor 22 = .ok (.iload 4, 2) := by decide +kernel
theorem dX11_freeFor_24 : decode cX11_freeFor 24 = .ok (.iconst 4, 1) := by decide +kernel
theorem dX11_freeFor_25 : decode cX11_freeFor 25 = .ok (.if_icmp .ge 37, 3) := by decide +kernel
theorem dX11_freeFor_28 : decode cX11_freeFor 28 = .ok (.iload 4, 2) := by decide +kernel
theorem dX11_freeFor_30 : decode cX11_freeFor 30 = .ok (.iload_n 2, 1) := by decide +kernel
theorem dX11_freeFor_31 : decode cX11_freeFor 31 = .ok (.if_icmp .eq 25, 3) := by decide +kernel
theorem dX11_freeFor_34 : decode cX11_freeFor 34 = .ok (.iload_n 3, 1) := by decide +kernel
theorem dX11_freeFor_35 : decode cX11_freeFor 35 = .ok (.iconst 0, 1) := by decide +kernel
theorem dX11_freeFor_36 : decode cX11_freeFor 36 = .ok (.aload_n 1, 1) := by decide +kernel
theorem dX11_freeFor_37 : decode cX11_freeFor 37 = .ok (.getfield 110, 3) := by decide +kernel
theorem dX11_freeFor_40 : decode cX11_freeFor 40 = .ok (.iload 4, 2) := by decide +kernel
theorem dX11_freeFor_42 : decode cX11_freeFor 42 = .ok (.iaload, 1) := by decide +kernel
theorem dX11_freeFor_43 : decode cX11_freeFor 43 = .ok (.aload_n 0, 1) := by decide +kernel
theorem dX11_freeFor_44 : decode cX11_freeFor 44 = .ok (.aload_n 1, 1) := by decide +kernel
theorem dX11_freeFor_45 : decode cX11_freeFor 45 = .ok (.iload 4, 2) := by decide +kernel
theorem dX11_freeFor_47 : decode cX11_freeFor 47 = .ok (.invokevirtual 431, 3) := by decide +kernel
theorem dX11_freeFor_50 : decode cX11_freeFor 50 = .ok (.isub, 1) := by decide +kernel
theorem dX11_freeFor_51 : decode cX11_freeFor 51 = .ok (.invokestatic 153, 3) := by decide +kernel
theorem dX11_freeFor_54 : decode cX11_freeFor 54 = .ok (.isub, 1) := by decide +kernel
theorem dX11_freeFor_55 : decode cX11_freeFor 55 = .ok (.istore_n 3, 1) := by decide +kernel
theorem dX11_freeFor_56 : decode cX11_freeFor 56 = .ok (.iinc 4 1, 3) := by decide +kernel
theorem dX11_freeFor_59 : decode cX11_freeFor 59 = .ok (.goto (-37), 3) := by decide +kernel
theorem dX11_freeFor_62 : decode cX11_freeFor 62 = .ok (.iconst 0, 1) := by decide +kernel
theorem dX11_freeFor_63 : decode cX11_freeFor 63 = .ok (.iload_n 3, 1) := by decide +kernel
theorem dX11_freeFor_64 : decode cX11_freeFor 64 = .ok (.invokestatic 153, 3) := by decide +kernel
theorem dX11_freeFor_67 : decode cX11_freeFor 67 = .ok (.ireturn, 1) := by decide +kernel
theorem dX11_letterFor_0 : decode cX11_letterFor 0 = .ok (.aload_n 0, 1) := by decide +kernel
theorem dX11_letterFor_1 : decode cX11_letterFor 1 = .ok (.getfield 180, 3) := by decide +kernel
theorem dX11_letterFor_4 : decode cX11_letterFor 4 = .ok (.iconst 5, 1) := by decide +kernel
theorem dX11_letterFor_5 : decode cX11_letterFor 5 = .ok (.if_icmp .le 6, 3) := by decide +kernel
theorem dX11_letterFor_8 : decode cX11_letterFor 8 = .ok (.bipush 100, 2) := by decide +kernel
theorem dX11_letterFor_10 : decode cX11_letterFor 10 = .ok (.ireturn, 1) := by decide +kernel
theorem dX11_letterFor_11 : decode cX11_letterFor 11 = .ok (.aload_n 1, 1) := by decide +kernel
theorem dX11_letterFor_12 : decode cX11_letterFor 12 = .ok (.getfield 214, 3) := by decide +kernel
theorem dX11_letterFor_15 : decode cX11_letterFor 15 = .ok (.aload_n 2, 1) := by decide +kernel
theorem dX11_letterFor_16 : decode cX11_letterFor 16 = .ok (.getfield 428, 3) := by decide +kernel
theorem dX11_letterFor_19 : decode cX11_letterFor 19 = .ok (.baload, 1) := by decide +kernel
theorem dX11_letterFor_20 : decode cX11_letterFor 20 = .ok (.ifCond .ne 12, 3) := by decide +kernel
theorem dX11_letterFor_23 : decode cX11_letterFor 23 = .ok (.aload_n 2, 1) := by decide +kernel
theorem dX11_letterFor_24 : decode cX11_letterFor 24 = .ok (.aload_n 1, 1) := by decide +kernel
theorem dX11_letterFor_25 : decode cX11_letterFor 25 = .ok (.invokevirtual 220, 3) := by decide +kernel
theorem dX11_letterFor_28 : decode cX11_letterFor 28 = .ok (.iconst (-1), 1) := by decide +kernel
theorem dX11_letterFor_29 : decode cX11_letterFor 29 = .ok (.if_icmp .eq 6, 3) := by decide +kernel
theorem dX11_letterFor_32 : decode cX11_letterFor 32 = .ok (.bipush 105, 2) := by decide +kernel
theorem dX11_letterFor_34 : decode cX11_letterFor 34 = .ok (.ireturn, 1) := by decide +kernel
theorem dX11_letterFor_35 : decode cX11_letterFor 35 = .ok (.aload_n 0, 1) := by decide +kernel
theorem dX11_letterFor_36 : decode cX11_letterFor 36 = .ok (.aload_n 1, 1) := by decide +kernel
theorem dX11_letterFor_37 : decode cX11_letterFor 37 = .ok (.aload_n 2, 1) := by decide +kernel
theorem dX11_letterFor_38 : decode cX11_letterFor 38 = .ok (.invokevirtual 250, 3) := by decide +kernel
theorem dX11_letterFor_41 : decode cX11_letterFor 41 = .ok (.ifCond .ne 6, 3) := by decide +kernel
theorem dX11_letterFor_44 : decode cX11_letterFor 44 = .ok (.bipush 114, 2) := by decide +kernel
theorem dX11_letterFor_46 : decode cX11_letterFor 46 = .ok (.ireturn, 1) := by decide +kernel
theorem dX11_letterFor_47 : decode cX11_letterFor 47 = .ok (.aload_n 1, 1) := by decide +kernel
theorem dX11_letterFor_48 : decode cX11_letterFor 48 = .ok (.getfield 254, 3) := by decide +kernel
theorem dX11_letterFor_51 : decode cX11_letterFor 51 = .ok (.aload_n 2, 1) := by decide +kernel
theorem dX11_letterFor_52 : decode cX11_letterFor 52 = .ok (.getfield 428, 3) := by decide +kernel
theorem dX11_letterFor_55 : decode cX11_letterFor 55 = .ok (.iaload, 1) := by decide +kernel
theorem dX11_letterFor_56 : decode cX11_letterFor 56 = .ok (.iconst 3, 1) := by decide +kernel
theorem dX11_letterFor_57 : decode cX11_letterFor 57 = .ok (.if_icmp .lt 6, 3) := by decide +kernel
theorem dX11_letterFor_60 : decode cX11_letterFor 60 = .ok (.bipush 97, 2) := by decide +kernel
theorem dX11_letterFor_62 : decode cX11_letterFor 62 = .ok (.ireturn, 1) := by decide +kernel
theorem dX11_letterFor_63 : decode cX11_letterFor 63 = .ok (.aload_n 0, 1) := by decide +kernel
theorem dX11_letterFor_64 : decode cX11_letterFor 64 = .ok (.aload_n 1, 1) := by decide +kernel
theorem dX11_letterFor_65 : decode cX11_letterFor 65 = .ok (.aload_n 2, 1) := by decide +kernel
theorem dX11_letterFor_66 : decode cX11_letterFor 66 = .ok (.invokevirtual 261, 3) := by decide +kernel
theorem dX11_letterFor_69 : decode cX11_letterFor 69 = .ok (.ifCond .ne 6, 3) := by decide +kernel
theorem dX11_letterFor_72 : decode cX11_letterFor 72 = .ok (.bipush 99, 2) := by decide +kernel
theorem dX11_letterFor_74 : decode cX11_letterFor 74 = .ok (.ireturn, 1) := by decide +kernel
theorem dX11_letterFor_75 : decode cX11_letterFor 75 = .ok (.aload_n 0, 1) := by decide +kernel
theorem dX11_letterFor_76 : decode cX11_letterFor 76 = .ok (.aload_n 2, 1) := by decide +kernel
theorem dX11_letterFor_77 : decode cX11_letterFor 77 = .ok (.aload_n 1, 1) := by decide +kernel
theorem dX11_letterFor_78 : decode cX11_letterFor 78 = .ok (.getfield 97, 3) := by decide +kernel
theorem dX11_letterFor_81 : decode cX11_letterFor 81 = .ok (.invokevirtual 257, 3) := by decide +kernel
theorem dX11_letterFor_84 : decode cX11_letterFor 84 = .ok (.ifCond .le 6, 3) := by decide +kernel
theorem dX11_letterFor_87 : decode cX11_letterFor 87 = .ok (.bipush 101, 2) := by decide +kernel
theorem dX11_letterFor_89 : decode cX11_letterFor 89 = .ok (.ireturn, 1) := by decide +kernel
theorem dX11_letterFor_90 : decode cX11_letterFor 90 = .ok (.aload_n 2, 1) := by decide +kernel
theorem dX11_letterFor_91 : decode cX11_letterFor 91 = .ok (.getfield 217, 3) := by decide +kernel
theorem dX11_letterFor_94 : decode cX11_letterFor 94 = .ok (.invokevirtual 70, 3) := by decide +kernel
theorem dX11_letterFor_97 : decode cX11_letterFor 97 = .ok (.bipush 6, 2) := by decide +kernel
theorem dX11_letterFor_99 : decode cX11_letterFor 99 = .ok (.if_icmp .lt 8, 3) := by decide +kernel
theorem dX11_letterFor_102 : decode cX11_letterFor 102 = .ok (.bipush 102, 2) := by decide +kernel
theorem dX11_letterFor_104 : decode cX11_letterFor 104 = .ok (.goto 5, 3) := by decide +kernel
theorem dX11_letterFor_107 : decode cX11_letterFor 107 = .ok (.bipush 119, 2) := by decide +kernel
theorem dX11_letterFor_109 : decode cX11_letterFor 109 = .ok (.ireturn, 1) := by decide +kernel
theorem dX11_canTakeSeat_0 : decode cX11_canTakeSeat 0 = .ok (.aload_n 0, 1) := by decide +kernel
theorem dX11_canTakeSeat_1 : decode cX11_canTakeSeat 1 = .ok (.aload_n 2, 1) := by decide +kernel
theorem dX11_canTakeSeat_2 : decode cX11_canTakeSeat 2 = .ok (.aload_n 1, 1) := by decide +kernel
theorem dX11_canTakeSeat_3 : decode cX11_canTakeSeat 3 = .ok (.getfield 97, 3) := by decide +kernel
theorem dX11_canTakeSeat_6 : decode cX11_canTakeSeat 6 = .ok (.invokevirtual 257, 3) := by decide +kernel
theorem dX11_canTakeSeat_9 : decode cX11_canTakeSeat 9 = .ok (.ifCond .le 25, 3) := by decide +kernel
theorem dX11_canTakeSeat_12 : decode cX11_canTakeSeat 12 = .ok (.aload_n 0, 1) := by decide +kernel
theorem dX11_canTakeSeat_13 : decode cX11_canTakeSeat 13 = .ok (.aload_n 1, 1) := by decide +kernel
theorem dX11_canTakeSeat_14 : decode cX11_canTakeSeat 14 = .ok (.aload_n 2, 1) := by decide +kernel
theorem dX11_canTakeSeat_15 : decode cX11_canTakeSeat 15 = .ok (.invokevirtual 261, 3) := by decide +kernel
theorem dX11_canTakeSeat_18 : decode cX11_canTakeSeat 18 = .ok (.ifCond .eq 16, 3) := by decide +kernel
theorem dX11_canTakeSeat_21 : decode cX11_canTakeSeat 21 = .ok (.aload_n 0, 1) := by decide +kernel
theorem dX11_canTakeSeat_22 : decode cX11_canTakeSeat 22 = .ok (.aload_n 1, 1) := by decide +kernel
theorem dX11_canTakeSeat_23 : decode cX11_canTakeSeat 23 = .ok (.aload_n 2, 1) := by decide +kernel
theorem dX11_canTakeSeat_24 : decode cX11_canTakeSeat 24 = .ok (.invokevirtual 250, 3) := by decide +kernel
theorem dX11_canTakeSeat_27 : decode cX11_canTakeSeat 27 = .ok (.ifCond .eq 7, 3) := by decide +kernel
theorem dX11_canTakeSeat_30 : decode cX11_canTakeSeat 30 = .ok (.iconst 1, 1) := by decide +kernel
theorem dX11_canTakeSeat_31 : decode cX11_canTakeSeat 31 = .ok (.goto 4, 3) := by decide +kernel
theorem dX11_canTakeSeat_34 : decode cX11_canTakeSeat 34 = .ok (.iconst 0, 1) := by decide +kernel
theorem dX11_canTakeSeat_35 : decode cX11_canTakeSeat 35 = .ok (.ireturn, 1) := by decide +kernel
theorem dX11_giveOutSeats_0 : decode cX11_giveOutSeats 0 = .ok (.aload_n 0, 1) := by decide +kernel
theorem dX11_giveOutSeats_1 : decode cX11_giveOutSeats 1 = .ok (.getfield 180, 3) := by decide +kernel
theorem dX11_giveOutSeats_4 : decode cX11_giveOutSeats 4 = .ok (.iconst 5, 1) := by decide +kernel
theorem dX11_giveOutSeats_5 : decode cX11_giveOutSeats 5 = .ok (.if_icmp .le 4, 3) := by decide +kernel
theorem dX11_giveOutSeats_8 : decode cX11_giveOutSeats 8 = .ok (.return_, 1) := by decide +kernel
theorem dX11_giveOutSeats_9 : decode cX11_giveOutSeats 9 = .ok (.iconst 0, 1) := by decide +kernel
theorem dX11_giveOutSeats_10 : decode cX11_giveOutSeats 10 = .ok (.istore_n 1, 1) := by decide +kernel
theorem dX11_giveOutSeats_11 : decode cX11_giveOutSeats 11 = .ok (.iconst 0, 1) := by decide +kernel
theorem dX11_giveOutSeats_12 : decode cX11_giveOutSeats 12 = .ok (.istore_n 2, 1) := by decide +kernel
theorem dX11_giveOutSeats_13 : decode cX11_giveOutSeats 13 = .ok (.iload_n 2, 1) := by decide +kernel
theorem dX11_giveOutSeats_14 : decode cX11_giveOutSeats 14 = .ok (.sipush 2420, 3) := by decide +kernel
theorem dX11_giveOutSeats_17 : decode cX11_giveOutSeats 17 = .ok (.if_icmp .ge 46, 3) := by decide +kernel
theorem dX11_giveOutSeats_20 : decode cX11_giveOutSeats 20 = .ok (.iload_n 1, 1) := by decide +kernel
theorem dX11_giveOutSeats_21 : decode cX11_giveOutSeats 21 = .ok (.aload_n 0, 1) := by decide +kernel
theorem dX11_giveOutSeats_22 : decode cX11_giveOutSeats 22 = .ok (.getfield 12, 3) := by decide +kernel
theorem dX11_giveOutSeats_25 : decode cX11_giveOutSeats 25 = .ok (.invokevirtual 70, 3) := by decide +kernel
theorem dX11_giveOutSeats_28 : decode cX11_giveOutSeats 28 = .ok (.if_icmp .ge 35, 3) := by decide +kernel
theorem dX11_giveOutSeats_31 : decode cX11_giveOutSeats 31 = .ok (.aload_n 0, 1) := by decide +kernel
theorem dX11_giveOutSeats_32 : decode cX11_giveOutSeats 32 = .ok (.aload_n 0, 1) := by decide +kernel
theorem dX11_giveOutSeats_33 : decode cX11_giveOutSeats 33 = .ok (.getfield 12, 3) := by decide +kernel
theorem dX11_giveOutSeats_36 : decode cX11_giveOutSeats 36 = .ok (.iload_n 1, 1) := by decide +kernel
theorem dX11_giveOutSeats_37 : decode cX11_giveOutSeats 37 = .ok (.invokevirtual 276, 3) := by decide +kernel
theorem dX11_giveOutSeats_40 : decode cX11_giveOutSeats 40 = .ok (.checkcast 79, 3) := by decide +kernel
theorem dX11_giveOutSeats_43 : decode cX11_giveOutSeats 43 = .ok (.invokevirtual 434, 3) := by decide +kernel
theorem dX11_giveOutSeats_46 : decode cX11_giveOutSeats 46 = .ok (.ifCond .eq 7, 3) := by decide +kernel
theorem dX11_giveOutSeats_49 : decode cX11_giveOutSeats 49 = .ok (.iconst 0, 1) := by decide +kernel
theorem dX11_giveOutSeats_50 : decode cX11_giveOutSeats 50 = .ok (.goto 6, 3) := by decide +kernel
theorem dX11_giveOutSeats_53 : decode cX11_giveOutSeats 53 = .ok (.iload_n 1, 1) := by decide +kernel
theorem dX11_giveOutSeats_54 : decode cX11_giveOutSeats 54 = .ok (.iconst 1, 1) := by decide +kernel
theorem dX11_giveOutSeats_55 : decode cX11_giveOutSeats 55 = .ok (.iadd, 1) := by decide +kernel
theorem dX11_giveOutSeats_56 : decode cX11_giveOutSeats 56 = .ok (.istore_n 1, 1) := by decide +kernel
theorem dX11_giveOutSeats_57 : decode cX11_giveOutSeats 57 = .ok (.iinc 2 1, 3) := by decide +kernel
theorem dX11_giveOutSeats_60 : decode cX11_giveOutSeats 60 = .ok (.goto (-47), 3) := by decide +kernel
theorem dX11_giveOutSeats_63 : decode cX11_giveOutSeats 63 = .ok (.return_, 1) := by decide +kernel
theorem dX11_giveSeatIn_0 : decode cX11_giveSeatIn 0 = .ok (.iconst 0, 1) := by decide +kernel
theorem dX11_giveSeatIn_1 : decode cX11_giveSeatIn 1 = .ok (.istore_n 2, 1) := by decide +kernel
theorem dX11_giveSeatIn_2 : decode cX11_giveSeatIn 2 = .ok (.iload_n 2, 1) := by decide +kernel
theorem dX11_giveSeatIn_3 : decode cX11_giveSeatIn 3 = .ok (.aload_n 1, 1) := by decide +kernel
theorem dX11_giveSeatIn_4 : decode cX11_giveSeatIn 4 = .ok (.getfield 217, 3) := by decide +kernel
theorem dX11_giveSeatIn_7 : decode cX11_giveSeatIn 7 = .ok (.invokevirtual 70, 3) := by decide +kernel
theorem dX11_giveSeatIn_10 : decode cX11_giveSeatIn 10 = .ok (.if_icmp .ge 51, 3) := by decide +kernel
theorem dX11_giveSeatIn_13 : decode cX11_giveSeatIn 13 = .ok (.aload_n 1, 1) := by decide +kernel
theorem dX11_giveSeatIn_14 : decode cX11_giveSeatIn 14 = .ok (.getfield 217, 3) := by decide +kernel
theorem dX11_giveSeatIn_17 : decode cX11_giveSeatIn 17 = .ok (.iload_n 2, 1) := by decide +kernel
theorem dX11_giveSeatIn_18 : decode cX11_giveSeatIn 18 = .ok (.invokevirtual 276, 3) := by decide +kernel
theorem dX11_giveSeatIn_21 : decode cX11_giveSeatIn 21 = .ok (.checkcast 29, 3) := by decide +kernel
theorem dX11_giveSeatIn_24 : decode cX11_giveSeatIn 24 = .ok (.astore_n 3, 1) := by decide +kernel
theorem dX11_giveSeatIn_25 : decode cX11_giveSeatIn 25 = .ok (.aload_n 0, 1) := by decide +kernel
theorem dX11_giveSeatIn_26 : decode cX11_giveSeatIn 26 = .ok (.aload_n 3, 1) := by decide +kernel
theorem dX11_giveSeatIn_27 : decode cX11_giveSeatIn 27 = .ok (.aload_n 1, 1) := by decide +kernel
theorem dX11_giveSeatIn_28 : decode cX11_giveSeatIn 28 = .ok (.invokevirtual 437, 3) := by decide +kernel
theorem dX11_giveSeatIn_31 : decode cX11_giveSeatIn 31 = .ok (.ifCond .eq 24, 3) := by decide +kernel
theorem dX11_giveSeatIn_34 : decode cX11_giveSeatIn 34 = .ok (.aload_n 1, 1) := by decide +kernel
theorem dX11_giveSeatIn_35 : decode cX11_giveSeatIn 35 = .ok (.getfield 217, 3) := by decide +kernel
theorem dX11_giveSeatIn_38 : decode cX11_giveSeatIn 38 = .ok (.iload_n 2, 1) := by decide +kernel
theorem dX11_giveSeatIn_39 : decode cX11_giveSeatIn 39 = .ok (.invokevirtual 440, 3) := by decide +kernel
theorem dX11_giveSeatIn_42 : decode cX11_giveSeatIn 42 = .ok (.pop, 1) := by decide +kernel
theorem dX11_giveSeatIn_43 : decode cX11_giveSeatIn 43 = .ok (.aload_n 3, 1) := by decide +kernel
theorem dX11_giveSeatIn_44 : decode cX11_giveSeatIn 44 = .ok (.getfield 214, 3) := by decide +kernel
theorem dX11_giveSeatIn_47 : decode cX11_giveSeatIn 47 = .ok (.aload_n 1, 1) := by decide +kernel
theorem dX11_giveSeatIn_48 : decode cX11_giveSeatIn 48 = .ok (.getfield 428, 3) := by decide +kernel
theorem dX11_giveSeatIn_51 : decode cX11_giveSeatIn 51 = .ok (.iconst 1, 1) := by decide +kernel
theorem dX11_giveSeatIn_52 : decode cX11_giveSeatIn 52 = .ok (.bastore, 1) := by decide +kernel
theorem dX11_giveSeatIn_53 : decode cX11_giveSeatIn 53 = .ok (.iconst 1, 1) := by decide +kernel
theorem dX11_giveSeatIn_54 : decode cX11_giveSeatIn 54 = .ok (.ireturn, 1) := by decide +kernel
theorem dX11_giveSeatIn_55 : decode cX11_giveSeatIn 55 = .ok (.iinc 2 1, 3) := by decide +kernel
theorem dX11_giveSeatIn_58 : decode cX11_giveSeatIn 58 = .ok (.goto (-56), 3) := by decide +kernel
theorem dX11_giveSeatIn_61 : decode cX11_giveSeatIn 61 = .ok (.iconst 0, 1) := by decide +kernel
theorem dX11_giveSeatIn_62 : decode cX11_giveSeatIn 62 = .ok (.ireturn, 1) := by decide +kernel
theorem dX11_emptyWaitingLists_0 : decode cX11_emptyWaitingLists 0 = .ok (.iconst 0, 1) := by decide +kernel
theorem dX11_emptyWaitingLists_1 : decode cX11_emptyWaitingLists 1 = .ok (.istore_n 1, 1) := by decide +kernel
theorem dX11_emptyWaitingLists_2 : decode cX11_emptyWaitingLists 2 = .ok (.iload_n 1, 1) := by decide +kernel
theorem dX11_emptyWaitingLists_3 : decode cX11_emptyWaitingLists 3 = .ok (.aload_n 0, 1) := by decide +kernel
theorem dX11_emptyWaitingLists_4 : decode cX11_emptyWaitingLists 4 = .ok (.getfield 12, 3) := by decide +kernel
theorem dX11_emptyWaitingLists_7 : decode cX11_emptyWaitingLists 7 = .ok (.invokevirtual 70, 3) := by decide +kernel
theorem dX11_emptyWaitingLists_10 : decode cX11_emptyWaitingLists 10 = .ok (.if_icmp .ge 26, 3) := by decide +kernel
theorem dX11_emptyWaitingLists_13 : decode cX11_emptyWaitingLists 13 = .ok (.aload_n 0, 1) := by decide +kernel
theorem dX11_emptyWaitingLists_14 : decode cX11_emptyWaitingLists 14 = .ok (.getfield 12, 3) := by decide +kernel
theorem dX11_emptyWaitingLists_17 : decode cX11_emptyWaitingLists 17 = .ok (.iload_n 1, 1) := by decide +kernel
theorem dX11_emptyWaitingLists_18 : decode cX11_emptyWaitingLists 18 = .ok (.invokevirtual 276, 3) := by decide +kernel
theorem dX11_emptyWaitingLists_21 : decode cX11_emptyWaitingLists 21 = .ok (.checkcast 79, 3) := by decide +kernel
theorem dX11_emptyWaitingLists_24 : decode cX11_emptyWaitingLists 24 = .ok (.getfield 217, 3) := by decide +kernel
theorem dX11_emptyWaitingLists_27 : decode cX11_emptyWaitingLists 27 = .ok (.invokevirtual 443, 3) := by decide +kernel
theorem dX11_emptyWaitingLists_30 : decode cX11_emptyWaitingLists 30 = .ok (.iinc 1 1, 3) := by decide +kernel
theorem dX11_emptyWaitingLists_33 : decode cX11_emptyWaitingLists 33 = .ok (.goto (-31), 3) := by decide +kernel
theorem dX11_emptyWaitingLists_36 : decode cX11_emptyWaitingLists 36 = .ok (.return_, 1) := by decide +kernel
theorem dX11_isWithdrawalDay_0 : decode cX11_isWithdrawalDay 0 = .ok (.aload_n 0, 1) := by decide +kernel
theorem dX11_isWithdrawalDay_1 : decode cX11_isWithdrawalDay 1 = .ok (.getfield 180, 3) := by decide +kernel
theorem dX11_isWithdrawalDay_4 : decode cX11_isWithdrawalDay 4 = .ok (.bipush 9, 2) := by decide +kernel
theorem dX11_isWithdrawalDay_6 : decode cX11_isWithdrawalDay 6 = .ok (.bipush 20, 2) := by decide +kernel
theorem dX11_isWithdrawalDay_8 : decode cX11_isWithdrawalDay 8 = .ok (.invokestatic 59, 3) := by decide +kernel
theorem dX11_isWithdrawalDay_11 : decode cX11_isWithdrawalDay 11 = .ok (.ireturn, 1) := by decide +kernel
theorem dX11_endWithOthers_0 : decode cX11_endWithOthers 0 = .ok (.iload_n 2, 1) := by decide +kernel
theorem dX11_endWithOthers_1 : decode cX11_endWithOthers 1 = .ok (.istore_n 3, 1) := by decide +kernel
theorem dX11_endWithOthers_2 : decode cX11_endWithOthers 2 = .ok (.iconst 0, 1) := by decide +kernel
theorem dX11_endWithOthers_3 : decode cX11_endWithOthers 3 = .ok (.istore 4, 2) := by decide +kernel
theorem dX11_endWithOthers_5 : decode cX11_endWithOthers 5 = .ok (.iload 4, 2) := by decide +kernel
theorem dX11_endWithOthers_7 : decode cX11_endWithOthers 7 = .ok (.bipush 20, 2) := by decide +kernel
theorem dX11_endWithOthers_9 : decode cX11_endWithOthers 9 = .ok (.if_icmp .ge 40, 3) := by decide +kernel
theorem dX11_endWithOthers_12 : decode cX11_endWithOthers 12 = .ok (.iload_n 3, 1) := by decide +kernel
theorem dX11_endWithOthers_13 : decode cX11_endWithOthers 13 = .ok (.iconst (-1), 1) := by decide +kernel
theorem dX11_endWithOthers_14 : decode cX11_endWithOthers 14 = .ok (.if_icmp .eq 35, 3) := by decide +kernel
theorem dX11_endWithOthers_17 : decode cX11_endWithOthers 17 = .ok (.aload_n 1, 1) := by decide +kernel
theorem dX11_endWithOthers_18 : decode cX11_endWithOthers 18 = .ok (.getfield 214, 3) := by decide +kernel
theorem dX11_endWithOthers_21 : decode cX11_endWithOthers 21 = .ok (.iload_n 3, 1) := by decide +kernel
theorem dX11_endWithOthers_22 : decode cX11_endWithOthers 22 = .ok (.iconst 0, 1) := by decide +kernel
theorem dX11_endWithOthers_23 : decode cX11_endWithOthers 23 = .ok (.bastore, 1) := by decide +kernel
theorem dX11_endWithOthers_24 : decode cX11_endWithOthers 24 = .ok (.aload_n 0, 1) := by decide +kernel
theorem dX11_endWithOthers_25 : decode cX11_endWithOthers 25 = .ok (.invokevirtual 236, 3) := by decide +kernel
theorem dX11_endWithOthers_28 : decode cX11_endWithOthers 28 = .ok (.ifCond .eq 9, 3) := by decide +kernel
theorem dX11_endWithOthers_31 : decode cX11_endWithOthers 31 = .ok (.aload_n 1, 1) := by decide +kernel
theorem dX11_endWithOthers_32 : decode cX11_endWithOthers 32 = .ok (.iload_n 3, 1) := by decide +kernel
theorem dX11_endWithOthers_33 : decode cX11_endWithOthers 33 = .ok (.iconst (-1), 1) := by decide +kernel
theorem dX11_endWithOthers_34 : decode cX11_endWithOthers 34 = .ok (.invokevirtual 422, 3) := by decide +kernel
theorem dX11_endWithOthers_37 : decode cX11_endWithOthers 37 = .ok (.aload_n 0, 1) := by decide +kernel
theorem dX11_endWithOthers_38 : decode cX11_endWithOthers 38 = .ok (.aload_n 1, 1) := by decide +kernel
theorem dX11_endWithOthers_39 : decode cX11_endWithOthers 39 = .ok (.invokevirtual 446, 3) := by decide +kernel
theorem dX11_endWithOthers_42 : decode cX11_endWithOthers 42 = .ok (.istore_n 3, 1) := by decide +kernel
theorem dX11_endWithOthers_43 : decode cX11_endWithOthers 43 = .ok (.iinc 4 1, 3) := by decide +kernel
theorem dX11_endWithOthers_46 : decode cX11_endWithOthers 46 = .ok (.goto (-41), 3) := by decide +kernel
theorem dX11_endWithOthers_49 : decode cX11_endWithOthers 49 = .ok (.return_, 1) := by decide +kernel
theorem dX11_firstUnmet_0 : decode cX11_firstUnmet 0 = .ok (.aload_n 0, 1) := by decide +kernel
theorem dX11_firstUnmet_1 : decode cX11_firstUnmet 1 = .ok (.aload_n 1, 1) := by decide +kernel
theorem dX11_firstUnmet_2 : decode cX11_firstUnmet 2 = .ok (.invokevirtual 167, 3) := by decide +kernel
theorem dX11_firstUnmet_5 : decode cX11_firstUnmet 5 = .ok (.lstore_n 2, 1) := by decide +kernel
theorem dX11_firstUnmet_6 : decode cX11_firstUnmet 6 = .ok (.iconst 0, 1) := by decide +kernel
theorem dX11_firstUnmet_7 : decode cX11_firstUnmet 7 = .ok (.istore 4, 2) := by decide +kernel
theorem dX11_firstUnmet_9 : decode cX11_firstUnmet 9 = .ok (.iload 4, 2) := by decide +kernel
theorem dX11_firstUnmet_11 : decode cX11_firstUnmet 11 = .ok (.aload_n 0, 1) := by decide +kernel
theorem dX11_firstUnmet_12 : decode cX11_firstUnmet 12 = .ok (.getfield 12, 3) := by decide +kernel
theorem dX11_firstUnmet_15 : decode cX11_firstUnmet 15 = .ok (.invokevirtual 70, 3) := by decide +kernel
theorem dX11_firstUnmet_18 : decode cX11_firstUnmet 18 = .ok (.if_icmp .ge 44, 3) := by decide +kernel
theorem dX11_firstUnmet_21 : decode cX11_firstUnmet 21 = .ok (.aload_n 1, 1) := by decide +kernel
theorem dX11_firstUnmet_22 : decode cX11_firstUnmet 22 = .ok (.getfield 214, 3) := by decide +kernel
theorem dX11_firstUnmet_25 : decode cX11_firstUnmet 25 = .ok (.iload 4, 2) := by decide +kernel
theorem dX11_firstUnmet_27 : decode cX11_firstUnmet 27 = .ok (.baload, 1) := by decide +kernel
theorem dX11_firstUnmet_28 : decode cX11_firstUnmet 28 = .ok (.ifCond .eq 28, 3) := by decide +kernel
theorem dX11_firstUnmet_31 : decode cX11_firstUnmet 31 = .ok (.aload_n 0, 1) := by decide +kernel
theorem dX11_firstUnmet_32 : decode cX11_firstUnmet 32 = .ok (.getfield 12, 3) := by decide +kernel
theorem dX11_firstUnmet_35 : decode cX11_firstUnmet 35 = .ok (.iload 4, 2) := by decide +kernel
theorem dX11_firstUnmet_37 : decode cX11_firstUnmet 37 = .ok (.invokevirtual 276, 3) := by decide +kernel
theorem dX11_firstUnmet_40 : decode cX11_firstUnmet 40 = .ok (.checkcast 79, 3) := by decide +kernel
theorem dX11_firstUnmet_43 : decode cX11_firstUnmet 43 = .ok (.getfield 175, 3) := by decide +kernel
theorem dX11_firstUnmet_46 : decode cX11_firstUnmet 46 = .ok (.lload_n 2, 1) := by decide +kernel
theorem dX11_firstUnmet_47 : decode cX11_firstUnmet 47 = .ok (.invokestatic 171, 3) := by decide +kernel
theorem dX11_firstUnmet_50 : decode cX11_firstUnmet 50 = .ok (.ifCond .ne 6, 3) := by decide +kernel
theorem dX11_firstUnmet_53 : decode cX11_firstUnmet 53 = .ok (.iload 4, 2) := by decide +kernel
theorem dX11_firstUnmet_55 : decode cX11_firstUnmet 55 = .ok (.ireturn, 1) := by decide +kernel
theorem dX11_firstUnmet_56 : decode cX11_firstUnmet 56 = .ok (.iinc 4 1, 3) := by decide +kernel
theorem dX11_firstUnmet_59 : decode cX11_firstUnmet 59 = .ok (.goto (-50), 3) := by decide +kernel
theorem dX11_firstUnmet_62 : decode cX11_firstUnmet 62 = .ok (.iconst (-1), 1) := by decide +kernel
theorem dX11_firstUnmet_63 : decode cX11_firstUnmet 63 = .ok (.ireturn, 1) := by decide +kernel
theorem dX11_isCourseSound_0 : decode cX11_isCourseSound 0 = .ok (.aload_n 0, 1) := by decide +kernel
theorem dX11_isCourseSound_1 : decode cX11_isCourseSound 1 = .ok (.aload_n 1, 1) := by decide +kernel
theorem dX11_isCourseSound_2 : decode cX11_isCourseSound 2 = .ok (.invokevirtual 314, 3) := by decide +kernel
theorem dX11_isCourseSound_5 : decode cX11_isCourseSound 5 = .ok (.aload_n 1, 1) := by decide +kernel
theorem dX11_isCourseSound_6 : decode cX11_isCourseSound 6 = .ok (.getfield 113, 3) := by decide +kernel
theorem dX11_isCourseSound_9 : decode cX11_isCourseSound 9 = .ok (.if_icmp .le 5, 3) := by decide +kernel
theorem dX11_isCourseSound_12 : decode cX11_isCourseSound 12 = .ok (.iconst 0, 1) := by decide +kernel
theorem dX11_isCourseSound_13 : decode cX11_isCourseSound 13 = .ok (.ireturn, 1) := by decide +kernel
theorem dX11_isCourseSound_14 : decode cX11_isCourseSound 14 = .ok (.iconst 0, 1) := by decide +kernel
theorem dX11_isCourseSound_15 : decode cX11_isCourseSound 15 = .ok (.istore_n 2, 1) := by decide +kernel
theorem dX11_isCourseSound_16 : decode cX11_isCourseSound 16 = .ok (.iload_n 2, 1) := by decide +kernel
theorem dX11_isCourseSound_17 : decode cX11_isCourseSound 17 = .ok (.aload_n 1, 1) := by decide +kernel
theorem dX11_isCourseSound_18 : decode cX11_isCourseSound 18 = .ok (.getfield 217, 3) := by decide +kernel
theorem dX11_isCourseSound_21 : decode cX11_isCourseSound 21 = .ok (.invokevirtual 70, 3) := by decide +kernel
theorem dX11_isCourseSound_24 : decode cX11_isCourseSound 24 = .ok (.if_icmp .ge 44, 3) := by decide +kernel
theorem dX11_isCourseSound_27 : decode cX11_isCourseSound 27 = .ok (.aload_n 1, 1) := by decide +kernel
theorem dX11_isCourseSound_28 : decode cX11_isCourseSound 28 = .ok (.getfield 217, 3) := by decide +kernel
theorem dX11_isCourseSound_31 : decode cX11_isCourseSound 31 = .ok (.iload_n 2, 1) := by decide +kernel
theorem dX11_isCourseSound_32 : decode cX11_isCourseSound 32 = .ok (.invokevirtual 276, 3) := by decide +kernel
theorem dX11_isCourseSound_35 : decode cX11_isCourseSound 35 = .ok (.checkcast 29, 3) := by decide +kernel
theorem dX11_isCourseSound_38 : decode cX11_isCourseSound 38 = .ok (.astore_n 3, 1) := by decide +kernel
theorem dX11_isCourseSound_39 : decode cX11_isCourseSound 39 = .ok (.aload_n 3, 1) := by decide +kernel
theorem dX11_isCourseSound_40 : decode cX11_isCourseSound 40 = .ok (.getfield 214, 3) := by decide +kernel
theorem dX11_isCourseSound_43 : decode cX11_isCourseSound 43 = .ok (.aload_n 1, 1) := by decide +kernel
theorem dX11_isCourseSound_44 : decode cX11_isCourseSound 44 = .ok (.getfield 428, 3) := by decide +kernel
theorem dX11_isCourseSound_47 : decode cX11_isCourseSound 47 = .ok (.baload, 1) := by decide +kernel
theorem dX11_isCourseSound_48 : decode cX11_isCourseSound 48 = .ok (.ifCond .ne 12, 3) := by decide +kernel
theorem dX11_isCourseSound_51 : decode cX11_isCourseSound 51 = .ok (.aload_n 0, 1) := by decide +kernel
theorem dX11_isCourseSound_52 : decode cX11_isCourseSound 52 = .ok (.aload_n 3, 1) := by decide +kernel
theorem dX11_isCourseSound_53 : decode cX11_isCourseSound 53 = .ok (.aload_n 1, 1) := by decide +kernel
theorem dX11_isCourseSound_54 : decode cX11_isCourseSound 54 = .ok (.invokevirtual 437, 3) := by decide +kernel
theorem dX11_isCourseSound_57 : decode cX11_isCourseSound 57 = .ok (.ifCond .eq 5, 3) := by decide +kernel
theorem dX11_isCourseSound_60 : decode cX11_isCourseSound 60 = .ok (.iconst 0, 1) := by decide +kernel
theorem dX11_isCourseSound_61 : decode cX11_isCourseSound 61 = .ok (.ireturn, 1) := by decide +kernel
theorem dX11_isCourseSound_62 : decode cX11_isCourseSound 62 = .ok (.iinc 2 1, 3) := by decide +kernel
theorem dX11_isCourseSound_65 : decode cX11_isCourseSound 65 = .ok (.goto (-49), 3) := by decide +kernel
theorem dX11_isCourseSound_68 : decode cX11_isCourseSound 68 = .ok (.iconst 1, 1) := by decide +kernel
theorem dX11_isCourseSound_69 : decode cX11_isCourseSound 69 = .ok (.ireturn, 1) := by decide +kernel
theorem dX11_auditsAgree_0 : decode cX11_auditsAgree 0 = .ok (.aload_n 0, 1) := by decide +kernel
theorem dX11_auditsAgree_1 : decode cX11_auditsAgree 1 = .ok (.getfield 41, 3) := by decide +kernel
theorem dX11_auditsAgree_4 : decode cX11_auditsAgree 4 = .ok (.aload_n 0, 1) := by decide +kernel
theorem dX11_auditsAgree_5 : decode cX11_auditsAgree 5 = .ok (.getfield 22, 3) := by decide +kernel
theorem dX11_auditsAgree_8 : decode cX11_auditsAgree 8 = .ok (.aload_n 1, 1) := by decide +kernel
theorem dX11_auditsAgree_9 : decode cX11_auditsAgree 9 = .ok (.iconst 0, 1) := by decide +kernel
theorem dX11_auditsAgree_10 : decode cX11_auditsAgree 10 = .ok (.invokevirtual 363, 3) := by decide +kernel
theorem dX11_auditsAgree_13 : decode cX11_auditsAgree 13 = .ok (.aload_n 0, 1) := by decide +kernel
theorem dX11_auditsAgree_14 : decode cX11_auditsAgree 14 = .ok (.getfield 41, 3) := by decide +kernel
theorem dX11_auditsAgree_17 : decode cX11_auditsAgree 17 = .ok (.invokevirtual 370, 3) := by decide +kernel
theorem dX11_auditsAgree_20 : decode cX11_auditsAgree 20 = .ok (.istore_n 2, 1) := by decide +kernel
theorem dX11_auditsAgree_21 : decode cX11_auditsAgree 21 = .ok (.aload_n 0, 1) := by decide +kernel
theorem dX11_auditsAgree_22 : decode cX11_auditsAgree 22 = .ok (.getfield 41, 3) := by decide +kernel
theorem dX11_auditsAgree_25 : decode cX11_auditsAgree 25 = .ok (.invokevirtual 367, 3) := by decide +kernel
theorem dX11_auditsAgree_28 : decode cX11_auditsAgree 28 = .ok (.iload_n 2, 1) := by decide +kernel
theorem dX11_auditsAgree_29 : decode cX11_auditsAgree 29 = .ok (.if_icmp .ne 25, 3) := by decide +kernel
theorem dX11_auditsAgree_32 : decode cX11_auditsAgree 32 = .ok (.aload_n 0, 1) := by decide +kernel
theorem dX11_auditsAgree_33 : decode cX11_auditsAgree 33 = .ok (.getfield 41, 3) := by decide +kernel
theorem dX11_auditsAgree_36 : decode cX11_auditsAgree 36 = .ok (.invokevirtual 373, 3) := by decide +kernel
theorem dX11_auditsAgree_39 : decode cX11_auditsAgree 39 = .ok (.aload_n 0, 1) := by decide +kernel
theorem dX11_auditsAgree_40 : decode cX11_auditsAgree 40 = .ok (.getfield 41, 3) := by decide +kernel
theorem dX11_auditsAgree_43 : decode cX11_auditsAgree 43 = .ok (.iload_n 2, 1) := by decide +kernel
theorem dX11_auditsAgree_44 : decode cX11_auditsAgree 44 = .ok (.invokevirtual 376, 3) := by decide +kernel
theorem dX11_auditsAgree_47 : decode cX11_auditsAgree 47 = .ok (.if_icmp .ne 7, 3) := by decide +kernel
theorem dX11_auditsAgree_50 : decode cX11_auditsAgree 50 = .ok (.iconst 1, 1) := by decide +kernel
theorem dX11_auditsAgree_51 : decode cX11_auditsAgree 51 = .ok (.goto 4, 3) := by decide +kernel
theorem dX11_auditsAgree_54 : decode cX11_auditsAgree 54 = .ok (.iconst 0, 1) := by decide +kernel
theorem dX11_auditsAgree_55 : decode cX11_auditsAgree 55 = .ok (.ireturn, 1) := by decide +kernel
theorem dX12_init_0 : decode cX12_init 0 = .ok (.aload_n 0, 1) := by decide +kernel
theorem dX12_init_1 : decode cX12_init 1 = .ok (.invokespecial 1, 3) := by decide +kernel
theorem dX12_init_4 : decode cX12_init 4 = .ok (.aload_n 0, 1) := by decide +kernel
theorem dX12_init_5 : decode cX12_init 5 = .ok (.bipush 20, 2) := by decide +kernel
theorem dX12_init_7 : decode cX12_init 7 = .ok (.newarray .int, 2) := by decide +kernel
theorem dX12_init_9 : decode cX12_init 9 = .ok (.putfield 9, 3) := by decide +kernel
theorem dX12_init_12 : decode cX12_init 12 = .ok (.aload_n 0, 1) := by decide +kernel
theorem dX12_init_13 : decode cX12_init 13 = .ok (.bipush 20, 2) := by decide +kernel
theorem dX12_init_15 : decode cX12_init 15 = .ok (.newarray .int, 2) := by decide +kernel
theorem dX12_init_17 : decode cX12_init 17 = .ok (.putfield 13, 3) := by decide +kernel
theorem dX12_init_20 : decode cX12_init 20 = .ok (.aload_n 0, 1) := by decide +kernel
theorem dX12_init_21 : decode cX12_init 21 = .ok (.bipush 80, 2) := by decide +kernel
theorem dX12_init_23 : decode cX12_init 23 = .ok (.newarray .int, 2) := by decide +kernel
theorem dX12_init_25 : decode cX12_init 25 = .ok (.putfield 16, 3) := by decide +kernel
theorem dX12_init_28 : decode cX12_init 28 = .ok (.aload_n 0, 1) := by decide +kernel
theorem dX12_init_29 : decode cX12_init 29 = .ok (.bipush 20, 2) := by decide +kernel
theorem dX12_init_31 : decode cX12_init 31 = .ok (.newarray .int, 2) := by decide +kernel
theorem dX12_init_33 : decode cX12_init 33 = .ok (.putfield 19, 3) := by decide +kernel
theorem dX12_init_36 : decode cX12_init 36 = .ok (.aload_n 0, 1) := by decide +kernel
theorem dX12_init_37 : decode cX12_init 37 = .ok (.bipush 20, 2) := by decide +kernel
theorem dX12_init_39 : decode cX12_init 39 = .ok (.newarray .int, 2) := by decide +kernel
theorem dX12_init_41 : decode cX12_init 41 = .ok (.putfield 22, 3) := by decide +kernel
theorem dX12_init_44 : decode cX12_init 44 = .ok (.aload_n 0, 1) := by decide +kernel
theorem dX12_init_45 : decode cX12_init 45 = .ok (.bipush 120, 2) := by decide +kernel
theorem dX12_init_47 : decode cX12_init 47 = .ok (.newarray .int, 2) := by decide +kernel
theorem dX12_init_49 : decode cX12_init 49 = .ok (.putfield 25, 3) := by decide +kernel
theorem dX12_init_52 : decode cX12_init 52 = .ok (.aload_n 0, 1) := by decide +kernel
theorem dX12_init_53 : decode cX12_init 53 = .ok (.bipush 16, 2) := by decide +kernel
theorem dX12_init_55 : decode cX12_init 55 = .ok (.newarray .int, 2) := by decide +kernel
theorem dX12_init_57 : decode cX12_init 57 = .ok (.putfield 28, 3) := by decide +kernel
theorem dX12_init_60 : decode cX12_init 60 = .ok (.aload_n 0, 1) := by decide +kernel
theorem dX12_init_61 : decode cX12_init 61 = .ok (.bipush 16, 2) := by decide +kernel
theorem dX12_init_63 : decode cX12_init 63 = .ok (.newarray .int, 2) := by decide +kernel
theorem dX12_init_65 : decode cX12_init 65 = .ok (.putfield 31, 3) := by decide +kernel
theorem dX12_init_68 : decode cX12_init 68 = .ok (.aload_n 0, 1) := by decide +kernel
theorem dX12_init_69 : decode cX12_init 69 = .ok (.bipush 16, 2) := by decide +kernel
theorem dX12_init_71 : decode cX12_init 71 = .ok (.newarray .int, 2) := by decide +kernel
theorem dX12_init_73 : decode cX12_init 73 = .ok (.putfield 34, 3) := by decide +kernel
theorem dX12_init_76 : decode cX12_init 76 = .ok (.aload_n 0, 1) := by decide +kernel
theorem dX12_init_77 : decode cX12_init 77 = .ok (.sipush 320, 3) := by decide +kernel
theorem dX12_init_80 : decode cX12_init 80 = .ok (.newarray .int, 2) := by decide +kernel
theorem dX12_init_82 : decode cX12_init 82 = .ok (.putfield 37, 3) := by decide +kernel
theorem dX12_init_85 : decode cX12_init 85 = .ok (.aload_n 0, 1) := by decide +kernel
theorem dX12_init_86 : decode cX12_init 86 = .ok (.sipush 320, 3) := by decide +kernel
theorem dX12_init_89 : decode cX12_init 89 = .ok (.newarray .int, 2) := by decide +kernel
theorem dX12_init_91 : decode cX12_init 91 = .ok (.putfield 40, 3) := by decide +kernel
theorem dX12_init_94 : decode cX12_init 94 = .ok (.aload_n 0, 1) := by decide +kernel
theorem dX12_init_95 : decode cX12_init 95 = .ok (.sipush 960, 3) := by decide +kernel
theorem dX12_init_98 : decode cX12_init 98 = .ok (.newarray .int, 2) := by decide +kernel
theorem dX12_init_100 : decode cX12_init 100 = .ok (.putfield 43, 3) := by decide +kernel
theorem dX12_init_103 : decode cX12_init 103 = .ok (.aload_n 0, 1) := by decide +kernel
theorem dX12_init_104 : decode cX12_init 104 = .ok (.bipush 60, 2) := by decide +kernel
theorem dX12_init_106 : decode cX12_init 106 = .ok (.newarray .int, 2) := by decide +kernel
theorem dX12_init_108 : decode cX12_init 108 = .ok (.putfield 46, 3) := by decide +kernel
theorem dX12_init_111 : decode cX12_init 111 = .ok (.aload_n 0, 1) := by decide +kernel
theorem dX12_init_112 : decode cX12_init 112 = .ok (.bipush 60, 2) := by decide +kernel
theorem dX12_init_114 : decode cX12_init 114 = .ok (.newarray .int, 2) := by decide +kernel
theorem dX12_init_116 : decode cX12_init 116 = .ok (.putfield 49, 3) := by decide +kernel
theorem dX12_init_119 : decode cX12_init 119 = .ok (.aload_n 0, 1) := by decide +kernel
theorem dX12_init_120 : decode cX12_init 120 = .ok (.bipush 60, 2) := by decide +kernel
theorem dX12_init_122 : decode cX12_init 122 = .ok (.newarray .int, 2) := by decide +kernel
theorem dX12_init_124 : decode cX12_init 124 = .ok (.putfield 52, 3) := by decide +kernel
theorem dX12_init_127 : decode cX12_init 127 = .ok (.aload_n 0, 1) := by decide +kernel
theorem dX12_init_128 : decode cX12_init 128 = .ok (.bipush 60, 2) := by decide +kernel
theorem dX12_init_130 : decode cX12_init 130 = .ok (.newarray .int, 2) := by decide +kernel
theorem dX12_init_132 : decode cX12_init 132 = .ok (.putfield 55, 3) := by decide +kernel
theorem dX12_init_135 : decode cX12_init 135 = .ok (.aload_n 0, 1) := by decide +kernel
theorem dX12_init_136 : decode cX12_init 136 = .ok (.bipush 60, 2) := by decide +kernel
theorem dX12_init_138 : decode cX12_init 138 = .ok (.newarray .int, 2) := by decide +kernel
theorem dX12_init_140 : decode cX12_init 140 = .ok (.putfield 58, 3) := by decide +kernel
theorem dX12_init_143 : decode cX12_init 143 = .ok (.aload_n 0, 1) := by decide +kernel
theorem dX12_init_144 : decode cX12_init 144 = .ok (.bipush 16, 2) := by decide +kernel
theorem dX12_init_146 : decode cX12_init 146 = .ok (.newarray .int, 2) := by decide +kernel
theorem dX12_init_148 : decode cX12_init 148 = .ok (.putfield 61, 3) := by decide +kernel
theorem dX12_init_151 : decode cX12_init 151 = .ok (.aload_n 0, 1) := by decide +kernel
theorem dX12_init_152 : decode cX12_init 152 = .ok (.bipush 16, 2) := by decide +kernel
theorem dX12_init_154 : decode cX12_init 154 = .ok (.newarray .int, 2) := by decide +kernel
theorem dX12_init_156 : decode cX12_init 156 = .ok (.putfield 64, 3) := by decide +kernel
theorem dX12_init_159 : decode cX12_init 159 = .ok (.aload_n 0, 1) := by decide +kernel
theorem dX12_init_160 : decode cX12_init 160 = .ok (.bipush 16, 2) := by decide +kernel
theorem dX12_init_162 : decode cX12_init 162 = .ok (.newarray .int, 2) := by decide +kernel
theorem dX12_init_164 : decode cX12_init 164 = .ok (.putfield 67, 3) := by decide +kernel
theorem dX12_init_167 : decode cX12_init 167 = .ok (.aload_n 0, 1) := by decide +kernel
theorem dX12_init_168 : decode cX12_init 168 = .ok (.bipush 16, 2) := by decide +kernel
theorem dX12_init_170 : decode cX12_init 170 = .ok (.newarray .int, 2) := by decide +kernel
theorem dX12_init_172 : decode cX12_init 172 = .ok (.putfield 70, 3) := by decide +kernel
theorem dX12_init_175 : decode cX12_init 175 = .ok (.aload_n 0, 1) := by decide +kernel
theorem dX12_init_176 : decode cX12_init 176 = .ok (.iconst 4, 1) := by decide +kernel
theorem dX12_init_177 : decode cX12_init 177 = .ok (.newarray .int, 2) := by decide +kernel
theorem dX12_init_179 : decode cX12_init 179 = .ok (.putfield 73, 3) := by decide +kernel
theorem dX12_init_182 : decode cX12_init 182 = .ok (.aload_n 0, 1) := by decide +kernel
theorem dX12_init_183 : decode cX12_init 183 = .ok (.sipush 400, 3) := by decide +kernel
theorem dX12_init_186 : decode cX12_init 186 = .ok (.newarray .int, 2) := by decide +kernel
theorem dX12_init_188 : decode cX12_init 188 = .ok (.putfield 76, 3) := by decide +kernel
theorem dX12_init_191 : decode cX12_init 191 = .ok (.aload_n 0, 1) := by decide +kernel
theorem dX12_init_192 : decode cX12_init 192 = .ok (.iconst 4, 1) := by decide +kernel
theorem dX12_init_193 : decode cX12_init 193 = .ok (.newarray .int, 2) := by decide +kernel
theorem dX12_init_195 : decode cX12_init 195 = .ok (.putfield 79, 3) := by decide +kernel
theorem dX12_init_198 : decode cX12_init 198 = .ok (.aload_n 0, 1) := by decide +kernel
theorem dX12_init_199 : decode cX12_init 199 = .ok (.iconst 4, 1) := by decide +kernel
theorem dX12_init_200 : decode cX12_init 200 = .ok (.newarray .int, 2) := by decide +kernel
theorem dX12_init_202 : decode cX12_init 202 = .ok (.putfield 82, 3) := by decide +kernel
theorem dX12_init_205 : decode cX12_init 205 = .ok (.aload_n 0, 1) := by decide +kernel
theorem dX12_init_206 : decode cX12_init 206 = .ok (.sipush 256, 3) := by decide +kernel
theorem dX12_init_209 : decode cX12_init 209 = .ok (.newarray .boolean, 2) := by decide +kernel
theorem dX12_init_211 : decode cX12_init 211 = .ok (.putfield 85, 3) := by decide +kernel
theorem dX12_init_214 : decode cX12_init 214 = .ok (.iconst 0, 1) := by decide +kernel
theorem dX12_init_215 : decode cX12_init 215 = .ok (.istore_n 1, 1) := by decide +kernel
theorem dX12_init_216 : decode cX12_init 216 = .ok (.iload_n 1, 1) := by decide +kernel
theorem dX12_init_217 : decode cX12_init 217 = .ok (.sipush 320, 3) := by decide +kernel
theorem dX12_init_220 : decode cX12_init 220 = .ok (.if_icmp .ge 16, 3) := by decide +kernel
theorem dX12_init_223 : decode cX12_init 223 = .ok (.aload_n 0, 1) := by decide +kernel
theorem dX12_init_224 : decode cX12_init 224 = .ok (.getfield 37, 3) := by decide +kernel
theorem dX12_init_227 : decode cX12_init 227 = .ok (.iload_n 1, 1) := by decide +kernel
theorem dX12_init_228 : decode cX12_init 228 = .ok (.iconst (-1), 1) := by decide +kernel
theorem dX12_init_229 : decode cX12_init 229 = .ok (.iastore, 1) := by decide +kernel
theorem dX12_init_230 : decode cX12_init 230 = .ok (.iinc 1 1, 3) := by decide +kernel
theorem dX12_init_233 : decode cX12_init 233 = .ok (.goto (-17), 3) := by decide +kernel
theorem dX12_init_236 : decode cX12_init 236 = .ok (.return_, 1) := by decide +kernel
theorem dX12_thrown_0 : decode cX12_thrown 0 = .ok (.aload_n 0, 1) := by decide +kernel
theorem dX12_thrown_1 : decode cX12_thrown 1 = .ok (.getfield 89, 3) := by decide +kernel
theorem dX12_thrown_4 : decode cX12_thrown 4 = .ok (.ireturn, 1) := by decide +kernel
theorem dX12_in_0 : decode cX12_in 0 = .ok (.iload_n 0, 1) := by decide +kernel
theorem dX12_in_1 : decode cX12_in 1 = .ok (.iload_n 1, 1) := by decide +kernel
theorem dX12_in_2 : decode cX12_in 2 = .ok (.if_icmp .lt 12, 3) := by decide +kernel
theorem dX12_in_5 : decode cX12_in 5 = .ok (.iload_n 0, 1) := by decide +kernel
theorem dX12_in_6 : decode cX12_in 6 = .ok (.iload_n 2, 1) := by decide +kernel
theorem dX12_in_7 : decode cX12_in 7 = .ok (.if_icmp .gt 7, 3) := by decide +kernel
theorem dX12_in_10 : decode cX12_in 10 = .ok (.iconst 1, 1) := by decide +kernel
theorem dX12_in_11 : decode cX12_in 11 = .ok (.goto 4, 3) := by decide +kernel
theorem dX12_in_14 : decode cX12_in 14 = .ok (.iconst 0, 1) := by decide +kernel
theorem dX12_in_15 : decode cX12_in 15 = .ok (.ireturn, 1) := by decide +kernel
theorem dX12_has_0 : decode cX12_has 0 = .ok (.iload_n 0, 1) := by decide +kernel
theorem dX12_has_1 : decode cX12_has 1 = .ok (.iload_n 1, 1) := by decide +kernel
theorem dX12_has_2 : decode cX12_has 2 = .ok (.ishr, 1) := by decide +kernel
theorem dX12_has_3 : decode cX12_has 3 = .ok (.iconst 1, 1) := by decide +kernel
theorem dX12_has_4 : decode cX12_has 4 = .ok (.iand, 1) := by decide +kernel
theorem dX12_has_5 : decode cX12_has 5 = .ok (.iconst 1, 1) := by decide +kernel
theorem dX12_has_6 : decode cX12_has 6 = .ok (.if_icmp .ne 7, 3) := by decide +kernel
theorem dX12_has_9 : decode cX12_has 9 = .ok (.iconst 1, 1) := by decide +kernel
theorem dX12_has_10 : decode cX12_has 10 = .ok (.goto 4, 3) := by decide +kernel
theorem dX12_has_13 : decode cX12_has 13 = .ok (.iconst 0, 1) := by decide +kernel
theorem dX12_has_14 : decode cX12_has 14 = .ok (.ireturn, 1) := by decide +kernel
theorem dX12_goesOn_0 : decode cX12_goesOn 0 = .ok (.aload_n 0, 1) := by decide +kernel
theorem dX12_goesOn_1 : decode cX12_goesOn 1 = .ok (.iload_n 1, 1) := by decide +kernel
theorem dX12_goesOn_2 : decode cX12_goesOn 2 = .ok (.putfield 89, 3) := by decide +kernel
theorem dX12_goesOn_5 : decode cX12_goesOn 5 = .ok (.iload_n 1, 1) := by decide +kernel
theorem dX12_goesOn_6 : decode cX12_goesOn 6 = .ok (.ifCond .ne 7, 3) := by decide +kernel
theorem dX12_goesOn_9 : decode cX12_goesOn 9 = .ok (.iconst 1, 1) := by decide +kernel
theorem dX12_goesOn_10 : decode cX12_goesOn 10 = .ok (.goto 4, 3) := by decide +kernel
theorem dX12_goesOn_13 : decode cX12_goesOn 13 = .ok (.iconst 0, 1) := by decide +kernel
theorem dX12_goesOn_14 : decode cX12_goesOn 14 = .ok (.ireturn, 1) := by decide +kernel
theorem dX12_isCourse_0 : decode cX12_isCourse 0 = .ok (.iload_n 1, 1) := by decide +kernel
theorem dX12_isCourse_1 : decode cX12_isCourse 1 = .ok (.iconst 0, 1) := by decide +kernel
theorem dX12_isCourse_2 : decode cX12_isCourse 2 = .ok (.aload_n 0, 1) := by decide +kernel
theorem dX12_isCourse_3 : decode cX12_isCourse 3 = .ok (.getfield 93, 3) := by decide +kernel
theorem dX12_isCourse_6 : decode cX12_isCourse 6 = .ok (.iconst 1, 1) := by decide +kernel
theorem dX12_isCourse_7 : decode cX12_isCourse 7 = .ok (.isub, 1) := by decide +kernel
theorem dX12_isCourse_8 : decode cX12_isCourse 8 = .ok (.invokestatic 96, 3) := by decide +kernel
theorem dX12_isCourse_11 : decode cX12_isCourse 11 = .ok (.ireturn, 1) := by decide +kernel
theorem dX12_isStudent_0 : decode cX12_isStudent 0 = .ok (.iload_n 1, 1) := by decide +kernel
theorem dX12_isStudent_1 : decode cX12_isStudent 1 = .ok (.iconst 0, 1) := by decide +kernel
theorem dX12_isStudent_2 : decode cX12_isStudent 2 = .ok (.aload_n 0, 1) := by decide +kernel
theorem dX12_isStudent_3 : decode cX12_isStudent 3 = .ok (.getfield 100, 3) := by decide +kernel
theorem dX12_isStudent_6 : decode cX12_isStudent 6 = .ok (.iconst 1, 1) := by decide +kernel
theorem dX12_isStudent_7 : decode cX12_isStudent 7 = .ok (.isub, 1) := by decide +kernel
theorem dX12_isStudent_8 : decode cX12_isStudent 8 = .ok (.invokestatic 96, 3) := by decide +kernel
theorem dX12_isStudent_11 : decode cX12_isStudent 11 = .ok (.ireturn, 1) := by decide +kernel
theorem dX12_isFormula_0 : decode cX12_isFormula 0 = .ok (.iload_n 1, 1) := by decide +kernel
theorem dX12_isFormula_1 : decode cX12_isFormula 1 = .ok (.iconst 0, 1) := by decide +kernel
theorem dX12_isFormula_2 : decode cX12_isFormula 2 = .ok (.aload_n 0, 1) := by decide +kernel
theorem dX12_isFormula_3 : decode cX12_isFormula 3 = .ok (.getfield 103, 3) := by decide +kernel
theorem dX12_isFormula_6 : decode cX12_isFormula 6 = .ok (.iconst 1, 1) := by decide +kernel
theorem dX12_isFormula_7 : decode cX12_isFormula 7 = .ok (.isub, 1) := by decide +kernel
theorem dX12_isFormula_8 : decode cX12_isFormula 8 = .ok (.invokestatic 96, 3) := by decide +kernel
theorem dX12_isFormula_11 : decode cX12_isFormula 11 = .ok (.ireturn, 1) := by decide +kernel
theorem dX12_at_0 : decode cX12_at 0 = .ok (.bipush 20, 2) := by decide +kernel
theorem dX12_at_2 : decode cX12_at 2 = .ok (.iload_n 0, 1) := by decide +kernel
theorem dX12_at_3 : decode cX12_at 3 = .ok (.imul, 1) := by decide +kernel
theorem dX12_at_4 : decode cX12_at 4 = .ok (.iload_n 1, 1) := by decide +kernel
theorem dX12_at_5 : decode cX12_at 5 = .ok (.iadd, 1) := by decide +kernel
theorem dX12_at_6 : decode cX12_at 6 = .ok (.ireturn, 1) := by decide +kernel
theorem dX12_bestOf_0 : decode cX12_bestOf 0 = .ok (.aload_n 0, 1) := by decide +kernel
theorem dX12_bestOf_1 : decode cX12_bestOf 1 = .ok (.getfield 34, 3) := by decide +kernel
theorem dX12_bestOf_4 : decode cX12_bestOf 4 = .ok (.iload_n 1, 1) := by decide +kernel
theorem dX12_bestOf_5 : decode cX12_bestOf 5 = .ok (.iaload, 1) := by decide +kernel
theorem dX12_bestOf_6 : decode cX12_bestOf 6 = .ok (.iload_n 2, 1) := by decide +kernel
theorem dX12_bestOf_7 : decode cX12_bestOf 7 = .ok (.invokestatic 106, 3) := by decide +kernel
theorem dX12_bestOf_10 : decode cX12_bestOf 10 = .ok (.ifCond .eq 8, 3) := by decide +kernel
theorem dX12_bestOf_13 : decode cX12_bestOf 13 = .ok (.bipush 50, 2) := by decide +kernel
theorem dX12_bestOf_15 : decode cX12_bestOf 15 = .ok (.goto 4, 3) := by decide +kernel
theorem dX12_bestOf_18 : decode cX12_bestOf 18 = .ok (.iconst (-1), 1) := by decide +kernel
theorem dX12_bestOf_19 : decode cX12_bestOf 19 = .ok (.istore_n 3, 1) := by decide +kernel
theorem dX12_bestOf_20 : decode cX12_bestOf 20 = .ok (.iconst 0, 1) := by decide +kernel
theorem dX12_bestOf_21 : decode cX12_bestOf 21 = .ok (.istore 4, 2) := by decide +kernel
theorem dX12_bestOf_23 : decode cX12_bestOf 23 = .ok (.iload 4, 2) := by decide +kernel
theorem dX12_bestOf_25 : decode cX12_bestOf 25 = .ok (.aload_n 0, 1) := by decide +kernel
theorem dX12_bestOf_26 : decode cX12_bestOf 26 = .ok (.getfield 40, 3) := by decide +kernel
theorem dX12_bestOf_29 : decode cX12_bestOf 29 = .ok (.iload_n 1, 1) := by decide +kernel
theorem dX12_bestOf_30 : decode cX12_bestOf 30 = .ok (.iload_n 2, 1) := by decide +kernel
theorem dX12_bestOf_31 : decode cX12_bestOf 31 = .ok (.invokestatic 110, 3) := by decide +kernel
theorem dX12_bestOf_34 : decode cX12_bestOf 34 = .ok (.iaload, 1) := by decide +kernel
theorem dX12_bestOf_35 : decode cX12_bestOf 35 = .ok (.if_icmp .ge 39, 3) := by decide +kernel
theorem dX12_bestOf_38 : decode cX12_bestOf 38 = .ok (.aload_n 0, 1) := by decide +kernel
theorem dX12_bestOf_39 : decode cX12_bestOf 39 = .ok (.getfield 43, 3) := by decide +kernel
theorem dX12_bestOf_42 : decode cX12_bestOf 42 = .ok (.iconst 3, 1) := by decide +kernel
theorem dX12_bestOf_43 : decode cX12_bestOf 43 = .ok (.iload_n 1, 1) := by decide +kernel
theorem dX12_bestOf_44 : decode cX12_bestOf 44 = .ok (.iload_n 2, 1) := by decide +kernel
theorem dX12_bestOf_45 : decode cX12_bestOf 45 = .ok (.invokestatic 110, 3) := by decide +kernel
theorem dX12_bestOf_48 : decode cX12_bestOf 48 = .ok (.imul, 1) := by decide +kernel
theorem dX12_bestOf_49 : decode cX12_bestOf 49 = .ok (.iload 4, 2) := by decide +kernel
theorem dX12_bestOf_51 : decode cX12_bestOf 51 = .ok (.iadd, 1) := by decide +kernel
theorem dX12_bestOf_52 : decode cX12_bestOf 52 = .ok (.iaload, 1) := by decide +kernel
theorem dX12_bestOf_53 : decode cX12_bestOf 53 = .ok (.istore 5, 2) := by decide +kernel
theorem dX12_bestOf_55 : decode cX12_bestOf 55 = .ok (.iload 5, 2) := by decide +kernel
theorem dX12_bestOf_57 : decode cX12_bestOf 57 = .ok (.iload_n 3, 1) := by decide +kernel
theorem dX12_bestOf_58 : decode cX12_bestOf 58 = .ok (.if_icmp .le 8, 3) := by decide +kernel
theorem dX12_bestOf_61 : decode cX12_bestOf 61 = .ok (.iload 5, 2) := by decide +kernel
theorem dX12_bestOf_63 : decode cX12_bestOf 63 = .ok (.goto 4, 3) := by decide +kernel
theorem dX12_bestOf_66 : decode cX12_bestOf 66 = .ok (.iload_n 3, 1) := by decide +kernel
theorem dX12_bestOf_67 : decode cX12_bestOf 67 = .ok (.istore_n 3, 1) := by decide +kernel
theorem dX12_bestOf_68 : decode cX12_bestOf 68 = .ok (.iinc 4 1, 3) := by decide +kernel
theorem dX12_bestOf_71 : decode cX12_bestOf 71 = .ok (.goto (-48), 3) := by decide +kernel
theorem dX12_bestOf_74 : decode cX12_bestOf 74 = .ok (.iload_n 3, 1) := by decide +kernel
theorem dX12_bestOf_75 : decode cX12_bestOf 75 = .ok (.ireturn, 1) := by decide +kernel
theorem dX12_hasPassed_0 : decode cX12_hasPassed 0 = .ok (.aload_n 0, 1) := by decide +kernel
theorem dX12_hasPassed_1 : decode cX12_hasPassed 1 = .ok (.iload_n 1, 1) := by decide +kernel
theorem dX12_hasPassed_2 : decode cX12_hasPassed 2 = .ok (.iload_n 2, 1) := by decide +kernel
theorem dX12_hasPassed_3 : decode cX12_hasPassed 3 = .ok (.invokevirtual 114, 3) := by decide +kernel
theorem dX12_hasPassed_6 : decode cX12_hasPassed 6 = .ok (.bipush 50, 2) := by decide +kernel
theorem dX12_hasPassed_8 : decode cX12_hasPassed 8 = .ok (.if_icmp .lt 7, 3) := by decide +kernel
theorem dX12_hasPassed_11 : decode cX12_hasPassed 11 = .ok (.iconst 1, 1) := by decide +kernel
theorem dX12_hasPassed_12 : decode cX12_hasPassed 12 = .ok (.goto 4, 3) := by decide +kernel
theorem dX12_hasPassed_15 : decode cX12_hasPassed 15 = .ok (.iconst 0, 1) := by decide +kernel
theorem dX12_hasPassed_16 : decode cX12_hasPassed 16 = .ok (.ireturn, 1) := by decide +kernel
theorem dX12_earnedOf_0 : decode cX12_earnedOf 0 = .ok (.iconst 0, 1) := by decide +kernel
theorem dX12_earnedOf_1 : decode cX12_earnedOf 1 = .ok (.istore_n 2, 1) := by decide +kernel
theorem dX12_earnedOf_2 : decode cX12_earnedOf 2 = .ok (.iconst 0, 1) := by decide +kernel
theorem dX12_earnedOf_3 : decode cX12_earnedOf 3 = .ok (.istore_n 3, 1) := by decide +kernel
theorem dX12_earnedOf_4 : decode cX12_earnedOf 4 = .ok (.iload_n 3, 1) := by decide +kernel
theorem dX12_earnedOf_5 : decode cX12_earnedOf 5 = .ok (.aload_n 0, 1) := by decide +kernel
theorem dX12_earnedOf_6 : decode cX12_earnedOf 6 = .ok (.getfield 93, 3) := by decide +kernel
theorem dX12_earnedOf_9 : decode cX12_earnedOf 9 = .ok (.if_icmp .ge 31, 3) := by decide +kernel
theorem dX12_earnedOf_12 : decode cX12_earnedOf 12 = .ok (.iload_n 2, 1) := by decide +kernel
theorem dX12_earnedOf_13 : decode cX12_earnedOf 13 = .ok (.aload_n 0, 1) := by decide +kernel
theorem dX12_earnedOf_14 : decode cX12_earnedOf 14 = .ok (.iload_n 1, 1) := by decide +kernel
theorem dX12_earnedOf_15 : decode cX12_earnedOf 15 = .ok (.iload_n 3, 1) := by decide +kernel
theorem dX12_earnedOf_16 : decode cX12_earnedOf 16 = .ok (.invokevirtual 117, 3) := by decide +kernel
theorem dX12_earnedOf_19 : decode cX12_earnedOf 19 = .ok (.ifCond .eq 12, 3) := by decide +kernel
theorem dX12_earnedOf_22 : decode cX12_earnedOf 22 = .ok (.aload_n 0, 1) := by decide +kernel
theorem dX12_earnedOf_23 : decode cX12_earnedOf 23 = .ok (.getfield 9, 3) := by decide +kernel
theorem dX12_earnedOf_26 : decode cX12_earnedOf 26 = .ok (.iload_n 3, 1) := by decide +kernel
theorem dX12_earnedOf_27 : decode cX12_earnedOf 27 = .ok (.iaload, 1) := by decide +kernel
theorem dX12_earnedOf_28 : decode cX12_earnedOf 28 = .ok (.goto 4, 3) := by decide +kernel
theorem dX12_earnedOf_31 : decode cX12_earnedOf 31 = .ok (.iconst 0, 1) := by decide +kernel
theorem dX12_earnedOf_32 : decode cX12_earnedOf 32 = .ok (.iadd, 1) := by decide +kernel
theorem dX12_earnedOf_33 : decode cX12_earnedOf 33 = .ok (.istore_n 2, 1) := by decide +kernel
theorem dX12_earnedOf_34 : decode cX12_earnedOf 34 = .ok (.iinc 3 1, 3) := by decide +kernel
theorem dX12_earnedOf_37 : decode cX12_earnedOf 37 = .ok (.goto (-33), 3) := by decide +kernel
theorem dX12_earnedOf_40 : decode cX12_earnedOf 40 = .ok (.iload_n 2, 1) := by decide +kernel
theorem dX12_earnedOf_41 : decode cX12_earnedOf 41 = .ok (.ireturn, 1) := by decide +kernel
theorem dX12_creditsOf_0 : decode cX12_creditsOf 0 = .ok (.iconst 0, 1) := by decide +kernel
theorem dX12_creditsOf_1 : decode cX12_creditsOf 1 = .ok (.istore_n 2, 1) := by decide +kernel
theorem dX12_creditsOf_2 : decode cX12_creditsOf 2 = .ok (.iconst 0, 1) := by decide +kernel
theorem dX12_creditsOf_3 : decode cX12_creditsOf 3 = .ok (.istore_n 3, 1) := by decide +kernel
theorem dX12_creditsOf_4 : decode cX12_creditsOf 4 = .ok (.iload_n 3, 1) := by decide +kernel
theorem dX12_creditsOf_5 : decode cX12_creditsOf 5 = .ok (.aload_n 0, 1) := by decide +kernel
theorem dX12_creditsOf_6 : decode cX12_creditsOf 6 = .ok (.getfield 93, 3) := by decide +kernel
theorem dX12_creditsOf_9 : decode cX12_creditsOf 9 = .ok (.if_icmp .ge 30, 3) := by decide +kernel
theorem dX12_creditsOf_12 : decode cX12_creditsOf 12 = .ok (.iload_n 2, 1) := by decide +kernel
theorem dX12_creditsOf_13 : decode cX12_creditsOf 13 = .ok (.iload_n 1, 1) := by decide +kernel
theorem dX12_creditsOf_14 : decode cX12_creditsOf 14 = .ok (.iload_n 3, 1) := by decide +kernel
theorem dX12_creditsOf_15 : decode cX12_creditsOf 15 = .ok (.invokestatic 106, 3) := by decide +kernel
theorem dX12_creditsOf_18 : decode cX12_creditsOf 18 = .ok (.ifCond .eq 12, 3) := by decide +kernel
theorem dX12_creditsOf_21 : decode cX12_creditsOf 21 = .ok (.aload_n 0, 1) := by decide +kernel
theorem dX12_creditsOf_22 : decode cX12_creditsOf 22 = .ok (.getfield 9, 3) := by decide +kernel
theorem dX12_creditsOf_25 : decode cX12_creditsOf 25 = .ok (.iload_n 3, 1) := by decide +kernel
theorem dX12_creditsOf_26 : decode cX12_creditsOf 26 = .ok (.iaload, 1) := by decide +kernel
theorem dX12_creditsOf_27 : decode cX12_creditsOf 27 = .ok (.goto 4, 3) := by decide +kernel
theorem dX12_creditsOf_30 : decode cX12_creditsOf 30 = .ok (.iconst 0, 1) := by decide +kernel
theorem dX12_creditsOf_31 : decode cX12_creditsOf 31 = .ok (.iadd, 1) := by decide +kernel
theorem dX12_creditsOf_32 : decode cX12_creditsOf 32 = .ok (.istore_n 2, 1) := by decide +kernel
theorem dX12_creditsOf_33 : decode cX12_creditsOf 33 = .ok (.iinc 3 1, 3) := by decide +kernel
theorem dX12_creditsOf_36 : decode cX12_creditsOf 36 = .ok (.goto (-32), 3) := by decide +kernel
theorem dX12_creditsOf_39 : decode cX12_creditsOf 39 = .ok (.iload_n 2, 1) := by decide +kernel
theorem dX12_creditsOf_40 : decode cX12_creditsOf 40 = .ok (.ireturn, 1) := by decide +kernel
theorem dX12_tries_0 : decode cX12_tries 0 = .ok (.aload_n 0, 1) := by decide +kernel
theorem dX12_tries_1 : decode cX12_tries 1 = .ok (.getfield 43, 3) := by decide +kernel
theorem dX12_tries_4 : decode cX12_tries 4 = .ok (.iconst 3, 1) := by decide +kernel
theorem dX12_tries_5 : decode cX12_tries 5 = .ok (.iload_n 1, 1) := by decide +kernel
theorem dX12_tries_6 : decode cX12_tries 6 = .ok (.iload_n 2, 1) := by decide +kernel
theorem dX12_tries_7 : decode cX12_tries 7 = .ok (.invokestatic 110, 3) := by decide +kernel
theorem dX12_tries_10 : decode cX12_tries 10 = .ok (.imul, 1) := by decide +kernel
theorem dX12_tries_11 : decode cX12_tries 11 = .ok (.aload_n 0, 1) := by decide +kernel
theorem dX12_tries_12 : decode cX12_tries 12 = .ok (.getfield 40, 3) := by decide +kernel
theorem dX12_tries_15 : decode cX12_tries 15 = .ok (.iload_n 1, 1) := by decide +kernel
theorem dX12_tries_16 : decode cX12_tries 16 = .ok (.iload_n 2, 1) := by decide +kernel
theorem dX12_tries_17 : decode cX12_tries 17 = .ok (.invokestatic 110, 3) := by decide +kernel
theorem dX12_tries_20 : decode cX12_tries 20 = .ok (.iaload, 1) := by decide +kernel
theorem dX12_tries_21 : decode cX12_tries 21 = .ok (.iadd, 1) := by decide +kernel
theorem dX12_tries_22 : decode cX12_tries 22 = .ok (.iload_n 3, 1) := by decide +kernel
theorem dX12_tries_23 : decode cX12_tries 23 = .ok (.iastore, 1) := by decide +kernel
theorem dX12_tries_24 : decode cX12_tries 24 = .ok (.aload_n 0, 1) := by decide +kernel
theorem dX12_tries_25 : decode cX12_tries 25 = .ok (.getfield 40, 3) := by decide +kernel
theorem dX12_tries_28 : decode cX12_tries 28 = .ok (.iload_n 1, 1) := by decide +kernel
theorem dX12_tries_29 : decode cX12_tries 29 = .ok (.iload_n 2, 1) := by decide +kernel
theorem dX12_tries_30 : decode cX12_tries 30 = .ok (.invokestatic 110, 3) := by decide +kernel
theorem dX12_tries_33 : decode cX12_tries 33 = .ok (.dup2, 1) := by decide +kernel
theorem dX12_tries_34 : decode cX12_tries 34 = .ok (.iaload, 1) := by decide +kernel
theorem dX12_tries_35 : decode cX12_tries 35 = .ok (.iconst 1, 1) := by decide +kernel
theorem dX12_tries_36 : decode cX12_tries 36 = .ok (.iadd, 1) := by decide +kernel
theorem dX12_tries_37 : decode cX12_tries 37 = .ok (.iastore, 1) := by decide +kernel
theorem dX12_tries_38 : decode cX12_tries 38 = .ok (.return_, 1) := by decide +kernel
theorem dX12_holdsNow_0 : decode cX12_holdsNow 0 = .ok (.iload_n 2, 1) := by decide +kernel
theorem dX12_holdsNow_1 : decode cX12_holdsNow 1 = .ok (.iconst (-1), 1) := by decide +kernel
theorem dX12_holdsNow_2 : decode cX12_holdsNow 2 = .ok (.if_icmp .ne 7, 3) := by decide +kernel
theorem dX12_holdsNow_5 : decode cX12_holdsNow 5 = .ok (.iconst 1, 1) := by decide +kernel
theorem dX12_holdsNow_6 : decode cX12_holdsNow 6 = .ok (.goto 4, 3) := by decide +kernel
theorem dX12_holdsNow_9 : decode cX12_holdsNow 9 = .ok (.iconst 0, 1) := by decide +kernel
theorem dX12_holdsNow_10 : decode cX12_holdsNow 10 = .ok (.istore_n 3, 1) := by decide +kernel
theorem dX12_holdsNow_11 : decode cX12_holdsNow 11 = .ok (.aload_n 0, 1) := by decide +kernel
theorem dX12_holdsNow_12 : decode cX12_holdsNow 12 = .ok (.getfield 46, 3) := by decide +kernel
theorem dX12_holdsNow_15 : decode cX12_holdsNow 15 = .ok (.iload_n 1, 1) := by decide +kernel
theorem dX12_holdsNow_16 : decode cX12_holdsNow 16 = .ok (.iaload, 1) := by decide +kernel
theorem dX12_holdsNow_17 : decode cX12_holdsNow 17 = .ok (.tableswitch 277 0 5 #[39, 100, 158, 193, 227, 261], 39) := by decide +kernel
theorem dX12_holdsNow_56 : decode cX12_holdsNow 56 = .ok (.iload_n 3, 1) := by decide +kernel
theorem dX12_holdsNow_57 : decode cX12_holdsNow 57 = .ok (.ifCond .eq 19, 3) := by decide +kernel
theorem dX12_holdsNow_60 : decode cX12_holdsNow 60 = .ok (.aload_n 0, 1) := by decide +kernel
theorem dX12_holdsNow_61 : decode cX12_holdsNow 61 = .ok (.getfield 120, 3) := by decide +kernel
theorem dX12_holdsNow_64 : decode cX12_holdsNow 64 = .ok (.aload_n 0, 1) := by decide +kernel
theorem dX12_holdsNow_65 : decode cX12_holdsNow 65 = .ok (.getfield 49, 3) := by decide +kernel
theorem dX12_holdsNow_68 : decode cX12_holdsNow 68 = .ok (.iload_n 1, 1) := by decide +kernel
theorem dX12_holdsNow_69 : decode cX12_holdsNow 69 = .ok (.iaload, 1) := by decide +kernel
theorem dX12_holdsNow_70 : decode cX12_holdsNow 70 = .ok (.invokestatic 106, 3) := by decide +kernel
theorem dX12_holdsNow_73 : decode cX12_holdsNow 73 = .ok (.goto 43, 3) := by decide +kernel
theorem dX12_holdsNow_76 : decode cX12_holdsNow 76 = .ok (.aload_n 0, 1) := by decide +kernel
theorem dX12_holdsNow_77 : decode cX12_holdsNow 77 = .ok (.iload_n 2, 1) := by decide +kernel
theorem dX12_holdsNow_78 : decode cX12_holdsNow 78 = .ok (.aload_n 0, 1) := by decide +kernel
theorem dX12_holdsNow_79 : decode cX12_holdsNow 79 = .ok (.getfield 49, 3) := by decide +kernel
theorem dX12_holdsNow_82 : decode cX12_holdsNow 82 = .ok (.iload_n 1, 1) := by decide +kernel
theorem dX12_holdsNow_83 : decode cX12_holdsNow 83 = .ok (.iaload, 1) := by decide +kernel
theorem dX12_holdsNow_84 : decode cX12_holdsNow 84 = .ok (.invokevirtual 114, 3) := by decide +kernel
theorem dX12_holdsNow_87 : decode cX12_holdsNow 87 = .ok (.aload_n 0, 1) := by decide +kernel
theorem dX12_holdsNow_88 : decode cX12_holdsNow 88 = .ok (.getfield 52, 3) := by decide +kernel
theorem dX12_holdsNow_91 : decode cX12_holdsNow 91 = .ok (.iload_n 1, 1) := by decide +kernel
theorem dX12_holdsNow_92 : decode cX12_holdsNow 92 = .ok (.iaload, 1) := by decide +kernel
theorem dX12_holdsNow_93 : decode cX12_holdsNow 93 = .ok (.if_icmp .lt 22, 3) := by decide +kernel
theorem dX12_holdsNow_96 : decode cX12_holdsNow 96 = .ok (.aload_n 0, 1) := by decide +kernel
theorem dX12_holdsNow_97 : decode cX12_holdsNow 97 = .ok (.iload_n 2, 1) := by decide +kernel
theorem dX12_holdsNow_98 : decode cX12_holdsNow 98 = .ok (.aload_n 0, 1) := by decide +kernel
theorem dX12_holdsNow_99 : decode cX12_holdsNow 99 = .ok (.getfield 49, 3) := by decide +kernel
theorem dX12_holdsNow_102 : decode cX12_holdsNow 102 = .ok (.iload_n 1, 1) := by decide +kernel
theorem dX12_holdsNow_103 : decode cX12_holdsNow 103 = .ok (.iaload, 1) := by decide +kernel
theorem dX12_holdsNow_104 : decode cX12_holdsNow 104 = .ok (.invokevirtual 114, 3) := by decide +kernel
theorem dX12_holdsNow_107 : decode cX12_holdsNow 107 = .ok (.iconst (-1), 1) := by decide +kernel
theorem dX12_holdsNow_108 : decode cX12_holdsNow 108 = .ok (.if_icmp .eq 7, 3) := by decide +kernel
theorem dX12_holdsNow_111 : decode cX12_holdsNow 111 = .ok (.iconst 1, 1) := by decide +kernel
theorem dX12_holdsNow_112 : decode cX12_holdsNow 112 = .ok (.goto 4, 3) := by decide +kernel
theorem dX12_holdsNow_115 : decode cX12_holdsNow 115 = .ok (.iconst 0, 1) := by decide +kernel
theorem dX12_holdsNow_116 : decode cX12_holdsNow 116 = .ok (.ireturn, 1) := by decide +kernel
theorem dX12_holdsNow_117 : decode cX12_holdsNow 117 = .ok (.iload_n 3, 1) := by decide +kernel
theorem dX12_holdsNow_118 : decode cX12_holdsNow 118 = .ok (.ifCond .eq 19, 3) := by decide +kernel
theorem dX12_holdsNow_121 : decode cX12_holdsNow 121 = .ok (.aload_n 0, 1) := by decide +kernel
theorem dX12_holdsNow_122 : decode cX12_holdsNow 122 = .ok (.getfield 120, 3) := by decide +kernel
theorem dX12_holdsNow_125 : decode cX12_holdsNow 125 = .ok (.aload_n 0, 1) := by decide +kernel
theorem dX12_holdsNow_126 : decode cX12_holdsNow 126 = .ok (.getfield 49, 3) := by decide +kernel
theorem dX12_holdsNow_129 : decode cX12_holdsNow 129 = .ok (.iload_n 1, 1) := by decide +kernel
theorem dX12_holdsNow_130 : decode cX12_holdsNow 130 = .ok (.iaload, 1) := by decide +kernel
theorem dX12_holdsNow_131 : decode cX12_holdsNow 131 = .ok (.invokestatic 106, 3) := by decide +kernel
theorem dX12_holdsNow_134 : decode cX12_holdsNow 134 = .ok (.goto 40, 3) := by decide +kernel
theorem dX12_holdsNow_137 : decode cX12_holdsNow 137 = .ok (.aload_n 0, 1) := by decide +kernel
theorem dX12_holdsNow_138 : decode cX12_holdsNow 138 = .ok (.getfield 31, 3) := by decide +kernel
theorem dX12_holdsNow_141 : decode cX12_holdsNow 141 = .ok (.iload_n 2, 1) := by decide +kernel
theorem dX12_holdsNow_142 : decode cX12_holdsNow 142 = .ok (.iaload, 1) := by decide +kernel
theorem dX12_holdsNow_143 : decode cX12_holdsNow 143 = .ok (.aload_n 0, 1) := by decide +kernel
theorem dX12_holdsNow_144 : decode cX12_holdsNow 144 = .ok (.getfield 49, 3) := by decide +kernel
theorem dX12_holdsNow_147 : decode cX12_holdsNow 147 = .ok (.iload_n 1, 1) := by decide +kernel
theorem dX12_holdsNow_148 : decode cX12_holdsNow 148 = .ok (.iaload, 1) := by decide +kernel
theorem dX12_holdsNow_149 : decode cX12_holdsNow 149 = .ok (.invokestatic 106, 3) := by decide +kernel
theorem dX12_holdsNow_152 : decode cX12_holdsNow 152 = .ok (.ifCond .ne 17, 3) := by decide +kernel
theorem dX12_holdsNow_155 : decode cX12_holdsNow 155 = .ok (.aload_n 0, 1) := by decide +kernel
theorem dX12_holdsNow_156 : decode cX12_holdsNow 156 = .ok (.iload_n 2, 1) := by decide +kernel
theorem dX12_holdsNow_157 : decode cX12_holdsNow 157 = .ok (.aload_n 0, 1) := by decide +kernel
theorem dX12_holdsNow_158 : decode cX12_holdsNow 158 = .ok (.getfield 49, 3) := by decide +kernel
theorem dX12_holdsNow_161 : decode cX12_holdsNow 161 = .ok (.iload_n 1, 1) := by decide +kernel
theorem dX12_holdsNow_162 : decode cX12_holdsNow 162 = .ok (.iaload, 1) := by decide +kernel
theorem dX12_holdsNow_163 : decode cX12_holdsNow 163 = .ok (.invokevirtual 117, 3) := by decide +kernel
theorem dX12_holdsNow_166 : decode cX12_holdsNow 166 = .ok (.ifCond .eq 7, 3) := by decide +kernel
theorem dX12_holdsNow_169 : decode cX12_holdsNow 169 = .ok (.iconst 1, 1) := by decide +kernel
theorem dX12_holdsNow_170 : decode cX12_holdsNow 170 = .ok (.goto 4, 3) := by decide +kernel
theorem dX12_holdsNow_173 : decode cX12_holdsNow 173 = .ok (.iconst 0, 1) := by decide +kernel
theorem dX12_holdsNow_174 : decode cX12_holdsNow 174 = .ok (.ireturn, 1) := by decide +kernel
theorem dX12_holdsNow_175 : decode cX12_holdsNow 175 = .ok (.iload_n 3, 1) := by decide +kernel
theorem dX12_holdsNow_176 : decode cX12_holdsNow 176 = .ok (.ifCond .eq 14, 3) := by decide +kernel
theorem dX12_holdsNow_179 : decode cX12_holdsNow 179 = .ok (.aload_n 0, 1) := by decide +kernel
theorem dX12_holdsNow_180 : decode cX12_holdsNow 180 = .ok (.aload_n 0, 1) := by decide +kernel
theorem dX12_holdsNow_181 : decode cX12_holdsNow 181 = .ok (.getfield 120, 3) := by decide +kernel
theorem dX12_holdsNow_184 : decode cX12_holdsNow 184 = .ok (.invokevirtual 123, 3) := by decide +kernel
theorem dX12_holdsNow_187 : decode cX12_holdsNow 187 = .ok (.goto 8, 3) := by decide +kernel
theorem dX12_holdsNow_190 : decode cX12_holdsNow 190 = .ok (.aload_n 0, 1) := by decide +kernel
theorem dX12_holdsNow_191 : decode cX12_holdsNow 191 = .ok (.iload_n 2, 1) := by decide +kernel
theorem dX12_holdsNow_192 : decode cX12_holdsNow 192 = .ok (.invokevirtual 127, 3) := by decide +kernel
theorem dX12_holdsNow_195 : decode cX12_holdsNow 195 = .ok (.aload_n 0, 1) := by decide +kernel
theorem dX12_holdsNow_196 : decode cX12_holdsNow 196 = .ok (.getfield 49, 3) := by decide +kernel
theorem dX12_holdsNow_199 : decode cX12_holdsNow 199 = .ok (.iload_n 1, 1) := by decide +kernel
theorem dX12_holdsNow_200 : decode cX12_holdsNow 200 = .ok (.iaload, 1) := by decide +kernel
theorem dX12_holdsNow_201 : decode cX12_holdsNow 201 = .ok (.if_icmp .lt 7, 3) := by decide +kernel
theorem dX12_holdsNow_204 : decode cX12_holdsNow 204 = .ok (.iconst 1, 1) := by decide +kernel
theorem dX12_holdsNow_205 : decode cX12_holdsNow 205 = .ok (.goto 4, 3) := by decide +kernel
theorem dX12_holdsNow_208 : decode cX12_holdsNow 208 = .ok (.iconst 0, 1) := by decide +kernel
theorem dX12_holdsNow_209 : decode cX12_holdsNow 209 = .ok (.ireturn, 1) := by decide +kernel
theorem dX12_holdsNow_210 : decode cX12_holdsNow 210 = .ok (.aload_n 0, 1) := by decide +kernel
theorem dX12_holdsNow_211 : decode cX12_holdsNow 211 = .ok (.aload_n 0, 1) := by decide +kernel
theorem dX12_holdsNow_212 : decode cX12_holdsNow 212 = .ok (.getfield 49, 3) := by decide +kernel
theorem dX12_holdsNow_215 : decode cX12_holdsNow 215 = .ok (.iload_n 1, 1) := by decide +kernel
theorem dX12_holdsNow_216 : decode cX12_holdsNow 216 = .ok (.iaload, 1) := by decide +kernel
theorem dX12_holdsNow_217 : decode cX12_holdsNow 217 = .ok (.iload_n 2, 1) := by decide +kernel
theorem dX12_holdsNow_218 : decode cX12_holdsNow 218 = .ok (.invokevirtual 130, 3) := by decide +kernel
theorem dX12_holdsNow_221 : decode cX12_holdsNow 221 = .ok (.ifCond .eq 21, 3) := by decide +kernel
theorem dX12_holdsNow_224 : decode cX12_holdsNow 224 = .ok (.aload_n 0, 1) := by decide +kernel
theorem dX12_holdsNow_225 : decode cX12_holdsNow 225 = .ok (.aload_n 0, 1) := by decide +kernel
theorem dX12_holdsNow_226 : decode cX12_holdsNow 226 = .ok (.getfield 52, 3) := by decide +kernel
theorem dX12_holdsNow_229 : decode cX12_holdsNow 229 = .ok (.iload_n 1, 1) := by decide +kernel
theorem dX12_holdsNow_230 : decode cX12_holdsNow 230 = .ok (.iaload, 1) := by decide +kernel
theorem dX12_holdsNow_231 : decode cX12_holdsNow 231 = .ok (.iload_n 2, 1) := by decide +kernel
theorem dX12_holdsNow_232 : decode cX12_holdsNow 232 = .ok (.invokevirtual 130, 3) := by decide +kernel
theorem dX12_holdsNow_235 : decode cX12_holdsNow 235 = .ok (.ifCond .eq 7, 3) := by decide +kernel
theorem dX12_holdsNow_238 : decode cX12_holdsNow 238 = .ok (.iconst 1, 1) := by decide +kernel
theorem dX12_holdsNow_239 : decode cX12_holdsNow 239 = .ok (.goto 4, 3) := by decide +kernel
theorem dX12_holdsNow_242 : decode cX12_holdsNow 242 = .ok (.iconst 0, 1) := by decide +kernel
theorem dX12_holdsNow_243 : decode cX12_holdsNow 243 = .ok (.ireturn, 1) := by decide +kernel
theorem dX12_holdsNow_244 : decode cX12_holdsNow 244 = .ok (.aload_n 0, 1) := by decide +kernel
theorem dX12_holdsNow_245 : decode cX12_holdsNow 245 = .ok (.aload_n 0, 1) := by decide +kernel
theorem dX12_holdsNow_246 : decode cX12_holdsNow 246 = .ok (.getfield 49, 3) := by decide +kernel
theorem dX12_holdsNow_249 : decode cX12_holdsNow 249 = .ok (.iload_n 1, 1) := by decide +kernel
theorem dX12_holdsNow_250 : decode cX12_holdsNow 250 = .ok (.iaload, 1) := by decide +kernel
theorem dX12_holdsNow_251 : decode cX12_holdsNow 251 = .ok (.iload_n 2, 1) := by decide +kernel
theorem dX12_holdsNow_252 : decode cX12_holdsNow 252 = .ok (.invokevirtual 130, 3) := by decide +kernel
theorem dX12_holdsNow_255 : decode cX12_holdsNow 255 = .ok (.ifCond .ne 17, 3) := by decide +kernel
theorem dX12_holdsNow_258 : decode cX12_holdsNow 258 = .ok (.aload_n 0, 1) := by decide +kernel
theorem dX12_holdsNow_259 : decode cX12_holdsNow 259 = .ok (.aload_n 0, 1) := by decide +kernel
theorem dX12_holdsNow_260 : decode cX12_holdsNow 260 = .ok (.getfield 52, 3) := by decide +kernel
theorem dX12_holdsNow_263 : decode cX12_holdsNow 263 = .ok (.iload_n 1, 1) := by decide +kernel
theorem dX12_holdsNow_264 : decode cX12_holdsNow 264 = .ok (.iaload, 1) := by decide +kernel
theorem dX12_holdsNow_265 : decode cX12_holdsNow 265 = .ok (.iload_n 2, 1) := by decide +kernel
theorem dX12_holdsNow_266 : decode cX12_holdsNow 266 = .ok (.invokevirtual 130, 3) := by decide +kernel
theorem dX12_holdsNow_269 : decode cX12_holdsNow 269 = .ok (.ifCond .eq 7, 3) := by decide +kernel
theorem dX12_holdsNow_272 : decode cX12_holdsNow 272 = .ok (.iconst 1, 1) := by decide +kernel
theorem dX12_holdsNow_273 : decode cX12_holdsNow 273 = .ok (.goto 4, 3) := by decide +kernel
theorem dX12_holdsNow_276 : decode cX12_holdsNow 276 = .ok (.iconst 0, 1) := by decide +kernel
theorem dX12_holdsNow_277 : decode cX12_holdsNow 277 = .ok (.ireturn, 1) := by decide +kernel
theorem dX12_holdsNow_278 : decode cX12_holdsNow 278 = .ok (.aload_n 0, 1) := by decide +kernel
theorem dX12_holdsNow_279 : decode cX12_holdsNow 279 = .ok (.iload_n 1, 1) := by decide +kernel
theorem dX12_holdsNow_280 : decode cX12_holdsNow 280 = .ok (.iload_n 2, 1) := by decide +kernel
theorem dX12_holdsNow_281 : decode cX12_holdsNow 281 = .ok (.invokevirtual 133, 3) := by decide +kernel
theorem dX12_holdsNow_284 : decode cX12_holdsNow 284 = .ok (.iconst 2, 1) := by decide +kernel
theorem dX12_holdsNow_285 : decode cX12_holdsNow 285 = .ok (.if_icmp .lt 7, 3) := by decide +kernel
theorem dX12_holdsNow_288 : decode cX12_holdsNow 288 = .ok (.iconst 1, 1) := by decide +kernel
theorem dX12_holdsNow_289 : decode cX12_holdsNow 289 = .ok (.goto 4, 3) := by decide +kernel
theorem dX12_holdsNow_292 : decode cX12_holdsNow 292 = .ok (.iconst 0, 1) := by decide +kernel
theorem dX12_holdsNow_293 : decode cX12_holdsNow 293 = .ok (.ireturn, 1) := by decide +kernel
theorem dX12_holdsNow_294 : decode cX12_holdsNow 294 = .ok (.aload_n 0, 1) := by decide +kernel
theorem dX12_holdsNow_295 : decode cX12_holdsNow 295 = .ok (.aload_n 0, 1) := by decide +kernel
theorem dX12_holdsNow_296 : decode cX12_holdsNow 296 = .ok (.getfield 49, 3) := by decide +kernel
theorem dX12_holdsNow_299 : decode cX12_holdsNow 299 = .ok (.iload_n 1, 1) := by decide +kernel
theorem dX12_holdsNow_300 : decode cX12_holdsNow 300 = .ok (.iaload, 1) := by decide +kernel
theorem dX12_holdsNow_301 : decode cX12_holdsNow 301 = .ok (.iload_n 2, 1) := by decide +kernel
theorem dX12_holdsNow_302 : decode cX12_holdsNow 302 = .ok (.invokevirtual 130, 3) := by decide +kernel
theorem dX12_holdsNow_305 : decode cX12_holdsNow 305 = .ok (.ifCond .ne 7, 3) := by decide +kernel
theorem dX12_holdsNow_308 : decode cX12_holdsNow 308 = .ok (.iconst 1, 1) := by decide +kernel
theorem dX12_holdsNow_309 : decode cX12_holdsNow 309 = .ok (.goto 4, 3) := by decide +kernel
theorem dX12_holdsNow_312 : decode cX12_holdsNow 312 = .ok (.iconst 0, 1) := by decide +kernel
theorem dX12_holdsNow_313 : decode cX12_holdsNow 313 = .ok (.ireturn, 1) := by decide +kernel
theorem dX12_times_0 : decode cX12_times 0 = .ok (.aload_n 0, 1) := by decide +kernel
theorem dX12_times_1 : decode cX12_times 1 = .ok (.aload_n 0, 1) := by decide +kernel
theorem dX12_times_2 : decode cX12_times 2 = .ok (.getfield 49, 3) := by decide +kernel
theorem dX12_times_5 : decode cX12_times 5 = .ok (.iload_n 1, 1) := by decide +kernel
theorem dX12_times_6 : decode cX12_times 6 = .ok (.iaload, 1) := by decide +kernel
theorem dX12_times_7 : decode cX12_times 7 = .ok (.iload_n 2, 1) := by decide +kernel
theorem dX12_times_8 : decode cX12_times 8 = .ok (.invokevirtual 130, 3) := by decide +kernel
theorem dX12_times_11 : decode cX12_times 11 = .ok (.ifCond .eq 7, 3) := by decide +kernel
theorem dX12_times_14 : decode cX12_times 14 = .ok (.iconst 1, 1) := by decide +kernel
theorem dX12_times_15 : decode cX12_times 15 = .ok (.goto 4, 3) := by decide +kernel
theorem dX12_times_18 : decode cX12_times 18 = .ok (.iconst 0, 1) := by decide +kernel
theorem dX12_times_19 : decode cX12_times 19 = .ok (.aload_n 0, 1) := by decide +kernel
theorem dX12_times_20 : decode cX12_times 20 = .ok (.aload_n 0, 1) := by decide +kernel
theorem dX12_times_21 : decode cX12_times 21 = .ok (.getfield 52, 3) := by decide +kernel
theorem dX12_times_24 : decode cX12_times 24 = .ok (.iload_n 1, 1) := by decide +kernel
theorem dX12_times_25 : decode cX12_times 25 = .ok (.iaload, 1) := by decide +kernel
theorem dX12_times_26 : decode cX12_times 26 = .ok (.iload_n 2, 1) := by decide +kernel
theorem dX12_times_27 : decode cX12_times 27 = .ok (.invokevirtual 130, 3) := by decide +kernel
theorem dX12_times_30 : decode cX12_times 30 = .ok (.ifCond .eq 7, 3) := by decide +kernel
theorem dX12_times_33 : decode cX12_times 33 = .ok (.iconst 1, 1) := by decide +kernel
theorem dX12_times_34 : decode cX12_times 34 = .ok (.goto 4, 3) := by decide +kernel
theorem dX12_times_37 : decode cX12_times 37 = .ok (.iconst 0, 1) := by decide +kernel
theorem dX12_times_38 : decode cX12_times 38 = .ok (.iadd, 1) := by decide +kernel
theorem dX12_times_39 : decode cX12_times 39 = .ok (.aload_n 0, 1) := by decide +kernel
theorem dX12_times_40 : decode cX12_times 40 = .ok (.aload_n 0, 1) := by decide +kernel
theorem dX12_times_41 : decode cX12_times 41 = .ok (.getfield 55, 3) := by decide +kernel
theorem dX12_times_44 : decode cX12_times 44 = .ok (.iload_n 1, 1) := by decide +kernel
theorem dX12_times_45 : decode cX12_times 45 = .ok (.iaload, 1) := by decide +kernel
theorem dX12_times_46 : decode cX12_times 46 = .ok (.iload_n 2, 1) := by decide +kernel
theorem dX12_times_47 : decode cX12_times 47 = .ok (.invokevirtual 130, 3) := by decide +kernel
theorem dX12_times_50 : decode cX12_times 50 = .ok (.ifCond .eq 7, 3) := by decide +kernel
theorem dX12_times_53 : decode cX12_times 53 = .ok (.iconst 1, 1) := by decide +kernel
theorem dX12_times_54 : decode cX12_times 54 = .ok (.goto 4, 3) := by decide +kernel
theorem dX12_times_57 : decode cX12_times 57 = .ok (.iconst 0, 1) := by decide +kernel
theorem dX12_times_58 : decode cX12_times 58 = .ok (.iadd, 1) := by decide +kernel
theorem dX12_times_59 : decode cX12_times 59 = .ok (.ireturn, 1) := by decide +kernel
theorem dX12_mayTake_0 : decode cX12_mayTake 0 = .ok (.aload_n 0, 1) := by decide +kernel
theorem dX12_mayTake_1 : decode cX12_mayTake 1 = .ok (.getfield 19, 3) := by decide +kernel
theorem dX12_mayTake_4 : decode cX12_mayTake 4 = .ok (.iload_n 2, 1) := by decide +kernel
theorem dX12_mayTake_5 : decode cX12_mayTake 5 = .ok (.iaload, 1) := by decide +kernel
theorem dX12_mayTake_6 : decode cX12_mayTake 6 = .ok (.iconst (-1), 1) := by decide +kernel
theorem dX12_mayTake_7 : decode cX12_mayTake 7 = .ok (.if_icmp .eq 17, 3) := by decide +kernel
theorem dX12_mayTake_10 : decode cX12_mayTake 10 = .ok (.aload_n 0, 1) := by decide +kernel
theorem dX12_mayTake_11 : decode cX12_mayTake 11 = .ok (.aload_n 0, 1) := by decide +kernel
theorem dX12_mayTake_12 : decode cX12_mayTake 12 = .ok (.getfield 19, 3) := by decide +kernel
theorem dX12_mayTake_15 : decode cX12_mayTake 15 = .ok (.iload_n 2, 1) := by decide +kernel
theorem dX12_mayTake_16 : decode cX12_mayTake 16 = .ok (.iaload, 1) := by decide +kernel
theorem dX12_mayTake_17 : decode cX12_mayTake 17 = .ok (.iload_n 1, 1) := by decide +kernel
theorem dX12_mayTake_18 : decode cX12_mayTake 18 = .ok (.invokevirtual 130, 3) := by decide +kernel
theorem dX12_mayTake_21 : decode cX12_mayTake 21 = .ok (.ifCond .eq 7, 3) := by decide +kernel
theorem dX12_mayTake_24 : decode cX12_mayTake 24 = .ok (.iconst 1, 1) := by decide +kernel
theorem dX12_mayTake_25 : decode cX12_mayTake 25 = .ok (.goto 4, 3) := by decide +kernel
theorem dX12_mayTake_28 : decode cX12_mayTake 28 = .ok (.iconst 0, 1) := by decide +kernel
theorem dX12_mayTake_29 : decode cX12_mayTake 29 = .ok (.ireturn, 1) := by decide +kernel
theorem dX12_add_0 : decode cX12_add 0 = .ok (.aload_n 0, 1) := by decide +kernel
theorem dX12_add_1 : decode cX12_add 1 = .ok (.getfield 46, 3) := by decide +kernel
theorem dX12_add_4 : decode cX12_add 4 = .ok (.aload_n 0, 1) := by decide +kernel
theorem dX12_add_5 : decode cX12_add 5 = .ok (.getfield 103, 3) := by decide +kernel
theorem dX12_add_8 : decode cX12_add 8 = .ok (.iload_n 1, 1) := by decide +kernel
theorem dX12_add_9 : decode cX12_add 9 = .ok (.iastore, 1) := by decide +kernel
theorem dX12_add_10 : decode cX12_add 10 = .ok (.aload_n 0, 1) := by decide +kernel
theorem dX12_add_11 : decode cX12_add 11 = .ok (.getfield 49, 3) := by decide +kernel
theorem dX12_add_14 : decode cX12_add 14 = .ok (.aload_n 0, 1) := by decide +kernel
theorem dX12_add_15 : decode cX12_add 15 = .ok (.getfield 103, 3) := by decide +kernel
theorem dX12_add_18 : decode cX12_add 18 = .ok (.iload_n 2, 1) := by decide +kernel
theorem dX12_add_19 : decode cX12_add 19 = .ok (.iastore, 1) := by decide +kernel
theorem dX12_add_20 : decode cX12_add 20 = .ok (.aload_n 0, 1) := by decide +kernel
theorem dX12_add_21 : decode cX12_add 21 = .ok (.getfield 52, 3) := by decide +kernel
theorem dX12_add_24 : decode cX12_add 24 = .ok (.aload_n 0, 1) := by decide +kernel
theorem dX12_add_25 : decode cX12_add 25 = .ok (.getfield 103, 3) := by decide +kernel
theorem dX12_add_28 : decode cX12_add 28 = .ok (.iload_n 3, 1) := by decide +kernel
theorem dX12_add_29 : decode cX12_add 29 = .ok (.iastore, 1) := by decide +kernel
theorem dX12_add_30 : decode cX12_add 30 = .ok (.aload_n 0, 1) := by decide +kernel
theorem dX12_add_31 : decode cX12_add 31 = .ok (.getfield 55, 3) := by decide +kernel
theorem dX12_add_34 : decode cX12_add 34 = .ok (.aload_n 0, 1) := by decide +kernel
theorem dX12_add_35 : decode cX12_add 35 = .ok (.getfield 103, 3) := by decide +kernel
theorem dX12_add_38 : decode cX12_add 38 = .ok (.iload 4, 2) := by decide +kernel
theorem dX12_add_40 : decode cX12_add 40 = .ok (.iastore, 1) := by decide +kernel
theorem dX12_add_41 : decode cX12_add 41 = .ok (.aload_n 0, 1) := by decide +kernel
theorem dX12_add_42 : decode cX12_add 42 = .ok (.getfield 58, 3) := by decide +kernel
theorem dX12_add_45 : decode cX12_add 45 = .ok (.aload_n 0, 1) := by decide +kernel
theorem dX12_add_46 : decode cX12_add 46 = .ok (.getfield 103, 3) := by decide +kernel
theorem dX12_add_49 : decode cX12_add 49 = .ok (.iload 5, 2) := by decide +kernel
theorem dX12_add_51 : decode cX12_add 51 = .ok (.iastore, 1) := by decide +kernel
theorem dX12_add_52 : decode cX12_add 52 = .ok (.aload_n 0, 1) := by decide +kernel
theorem dX12_add_53 : decode cX12_add 53 = .ok (.dup, 1) := by decide +kernel
theorem dX12_add_54 : decode cX12_add 54 = .ok (.getfield 103, 3) := by decide +kernel
theorem dX12_add_57 : decode cX12_add 57 = .ok (.iconst 1, 1) := by decide +kernel
theorem dX12_add_58 : decode cX12_add 58 = .ok (.iadd, 1) := by decide +kernel
theorem dX12_add_59 : decode cX12_add 59 = .ok (.putfield 103, 3) := by decide +kernel
theorem dX12_add_62 : decode cX12_add 62 = .ok (.aload_n 0, 1) := by decide +kernel
theorem dX12_add_63 : decode cX12_add 63 = .ok (.getfield 103, 3) := by decide +kernel
theorem dX12_add_66 : decode cX12_add 66 = .ok (.iconst 1, 1) := by decide +kernel
theorem dX12_add_67 : decode cX12_add 67 = .ok (.isub, 1) := by decide +kernel
theorem dX12_add_68 : decode cX12_add 68 = .ok (.ireturn, 1) := by decide +kernel
theorem dX12_depthOver_0 : decode cX12_depthOver 0 = .ok (.aload_n 0, 1) := by decide +kernel
theorem dX12_depthOver_1 : decode cX12_depthOver 1 = .ok (.getfield 58, 3) := by decide +kernel
theorem dX12_depthOver_4 : decode cX12_depthOver 4 = .ok (.iload_n 1, 1) := by decide +kernel
theorem dX12_depthOver_5 : decode cX12_depthOver 5 = .ok (.iaload, 1) := by decide +kernel
theorem dX12_depthOver_6 : decode cX12_depthOver 6 = .ok (.aload_n 0, 1) := by decide +kernel
theorem dX12_depthOver_7 : decode cX12_depthOver 7 = .ok (.getfield 58, 3) := by decide +kernel
theorem dX12_depthOver_10 : decode cX12_depthOver 10 = .ok (.iload_n 2, 1) := by decide +kernel
theorem dX12_depthOver_11 : decode cX12_depthOver 11 = .ok (.iaload, 1) := by decide +kernel
