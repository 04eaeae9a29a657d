theorem dX12_depthOver_12 : decode cX12_depthOver 12 = .ok (.if_icmp .le 12, 3) := by decide +kernel
theorem dX12_depthOver_15 : decode cX12_depthOver 15 = .ok (.aload_n 0, 1) := by decide +kernel
theorem dX12_depthOver_16 : decode cX12_depthOver 16 = .ok (.getfield 58, 3) := by decide +kernel
theorem dX12_depthOver_19 : decode cX12_depthOver 19 = .ok (.iload_n 1, 1) := by decide +kernel
theorem dX12_depthOver_20 : decode cX12_depthOver 20 = .ok (.iaload, 1) := by decide +kernel
theorem dX12_depthOver_21 : decode cX12_depthOver 21 = .ok (.goto 9, 3) := by decide +kernel
theorem dX12_depthOver_24 : decode cX12_depthOver 24 = .ok (.aload_n 0, 1) := by decide +kernel
theorem dX12_depthOver_25 : decode cX12_depthOver 25 = .ok (.getfield 58, 3) := by decide +kernel
theorem dX12_depthOver_28 : decode cX12_depthOver 28 = .ok (.iload_n 2, 1) := by decide +kernel
theorem dX12_depthOver_29 : decode cX12_depthOver 29 = .ok (.iaload, 1) := by decide +kernel
theorem dX12_depthOver_30 : decode cX12_depthOver 30 = .ok (.istore 4, 2) := by decide +kernel
theorem dX12_depthOver_32 : decode cX12_depthOver 32 = .ok (.iconst 1, 1) := by decide +kernel
theorem dX12_depthOver_33 : decode cX12_depthOver 33 = .ok (.iload 4, 2) := by decide +kernel
theorem dX12_depthOver_35 : decode cX12_depthOver 35 = .ok (.aload_n 0, 1) := by decide +kernel
theorem dX12_depthOver_36 : decode cX12_depthOver 36 = .ok (.getfield 58, 3) := by decide +kernel
theorem dX12_depthOver_39 : decode cX12_depthOver 39 = .ok (.iload_n 3, 1) := by decide +kernel
theorem dX12_depthOver_40 : decode cX12_depthOver 40 = .ok (.iaload, 1) := by decide +kernel
theorem dX12_depthOver_41 : decode cX12_depthOver 41 = .ok (.if_icmp .le 8, 3) := by decide +kernel
theorem dX12_depthOver_44 : decode cX12_depthOver 44 = .ok (.iload 4, 2) := by decide +kernel
theorem dX12_depthOver_46 : decode cX12_depthOver 46 = .ok (.goto 9, 3) := by decide +kernel
theorem dX12_depthOver_49 : decode cX12_depthOver 49 = .ok (.aload_n 0, 1) := by decide +kernel
theorem dX12_depthOver_50 : decode cX12_depthOver 50 = .ok (.getfield 58, 3) := by decide +kernel
theorem dX12_depthOver_53 : decode cX12_depthOver 53 = .ok (.iload_n 3, 1) := by decide +kernel
theorem dX12_depthOver_54 : decode cX12_depthOver 54 = .ok (.iaload, 1) := by decide +kernel
theorem dX12_depthOver_55 : decode cX12_depthOver 55 = .ok (.iadd, 1) := by decide +kernel
theorem dX12_depthOver_56 : decode cX12_depthOver 56 = .ok (.ireturn, 1) := by decide +kernel
theorem dX12_join_0 : decode cX12_join 0 = .ok (.aload_n 0, 1) := by decide +kernel
theorem dX12_join_1 : decode cX12_join 1 = .ok (.aload_n 0, 1) := by decide +kernel
theorem dX12_join_2 : decode cX12_join 2 = .ok (.iload_n 2, 1) := by decide +kernel
theorem dX12_join_3 : decode cX12_join 3 = .ok (.invokevirtual 136, 3) := by decide +kernel
theorem dX12_join_6 : decode cX12_join 6 = .ok (.ifCond .eq 20, 3) := by decide +kernel
theorem dX12_join_9 : decode cX12_join 9 = .ok (.aload_n 0, 1) := by decide +kernel
theorem dX12_join_10 : decode cX12_join 10 = .ok (.iload_n 3, 1) := by decide +kernel
theorem dX12_join_11 : decode cX12_join 11 = .ok (.invokevirtual 136, 3) := by decide +kernel
theorem dX12_join_14 : decode cX12_join 14 = .ok (.ifCond .eq 12, 3) := by decide +kernel
theorem dX12_join_17 : decode cX12_join 17 = .ok (.aload_n 0, 1) := by decide +kernel
theorem dX12_join_18 : decode cX12_join 18 = .ok (.iload 4, 2) := by decide +kernel
theorem dX12_join_20 : decode cX12_join 20 = .ok (.invokevirtual 136, 3) := by decide +kernel
theorem dX12_join_23 : decode cX12_join 23 = .ok (.ifCond .ne 7, 3) := by decide +kernel
theorem dX12_join_26 : decode cX12_join 26 = .ok (.iconst 1, 1) := by decide +kernel
theorem dX12_join_27 : decode cX12_join 27 = .ok (.goto 29, 3) := by decide +kernel
theorem dX12_join_30 : decode cX12_join 30 = .ok (.aload_n 0, 1) := by decide +kernel
theorem dX12_join_31 : decode cX12_join 31 = .ok (.getfield 103, 3) := by decide +kernel
theorem dX12_join_34 : decode cX12_join 34 = .ok (.bipush 60, 2) := by decide +kernel
theorem dX12_join_36 : decode cX12_join 36 = .ok (.if_icmp .eq 15, 3) := by decide +kernel
theorem dX12_join_39 : decode cX12_join 39 = .ok (.aload_n 0, 1) := by decide +kernel
theorem dX12_join_40 : decode cX12_join 40 = .ok (.iload_n 2, 1) := by decide +kernel
theorem dX12_join_41 : decode cX12_join 41 = .ok (.iload_n 3, 1) := by decide +kernel
theorem dX12_join_42 : decode cX12_join 42 = .ok (.iload 4, 2) := by decide +kernel
theorem dX12_join_44 : decode cX12_join 44 = .ok (.invokevirtual 140, 3) := by decide +kernel
theorem dX12_join_47 : decode cX12_join 47 = .ok (.iconst 5, 1) := by decide +kernel
theorem dX12_join_48 : decode cX12_join 48 = .ok (.if_icmp .le 7, 3) := by decide +kernel
theorem dX12_join_51 : decode cX12_join 51 = .ok (.iconst 2, 1) := by decide +kernel
theorem dX12_join_52 : decode cX12_join 52 = .ok (.goto 4, 3) := by decide +kernel
theorem dX12_join_55 : decode cX12_join 55 = .ok (.iconst 0, 1) := by decide +kernel
theorem dX12_join_56 : decode cX12_join 56 = .ok (.invokevirtual 144, 3) := by decide +kernel
theorem dX12_join_59 : decode cX12_join 59 = .ok (.ifCond .ne 5, 3) := by decide +kernel
theorem dX12_join_62 : decode cX12_join 62 = .ok (.iconst 0, 1) := by decide +kernel
theorem dX12_join_63 : decode cX12_join 63 = .ok (.ireturn, 1) := by decide +kernel
theorem dX12_join_64 : decode cX12_join 64 = .ok (.aload_n 0, 1) := by decide +kernel
theorem dX12_join_65 : decode cX12_join 65 = .ok (.iload_n 1, 1) := by decide +kernel
theorem dX12_join_66 : decode cX12_join 66 = .ok (.iload_n 2, 1) := by decide +kernel
theorem dX12_join_67 : decode cX12_join 67 = .ok (.iload_n 3, 1) := by decide +kernel
theorem dX12_join_68 : decode cX12_join 68 = .ok (.iload 4, 2) := by decide +kernel
theorem dX12_join_70 : decode cX12_join 70 = .ok (.aload_n 0, 1) := by decide +kernel
theorem dX12_join_71 : decode cX12_join 71 = .ok (.iload_n 2, 1) := by decide +kernel
theorem dX12_join_72 : decode cX12_join 72 = .ok (.iload_n 3, 1) := by decide +kernel
theorem dX12_join_73 : decode cX12_join 73 = .ok (.iload 4, 2) := by decide +kernel
theorem dX12_join_75 : decode cX12_join 75 = .ok (.invokevirtual 140, 3) := by decide +kernel
theorem dX12_join_78 : decode cX12_join 78 = .ok (.invokevirtual 147, 3) := by decide +kernel
theorem dX12_join_81 : decode cX12_join 81 = .ok (.ireturn, 1) := by decide +kernel
theorem dX12_markFormula_0 : decode cX12_markFormula 0 = .ok (.aload_n 0, 1) := by decide +kernel
theorem dX12_markFormula_1 : decode cX12_markFormula 1 = .ok (.aload_n 0, 1) := by decide +kernel
theorem dX12_markFormula_2 : decode cX12_markFormula 2 = .ok (.iload_n 1, 1) := by decide +kernel
theorem dX12_markFormula_3 : decode cX12_markFormula 3 = .ok (.invokevirtual 151, 3) := by decide +kernel
theorem dX12_markFormula_6 : decode cX12_markFormula 6 = .ok (.ifCond .ne 7, 3) := by decide +kernel
theorem dX12_markFormula_9 : decode cX12_markFormula 9 = .ok (.iconst 1, 1) := by decide +kernel
theorem dX12_markFormula_10 : decode cX12_markFormula 10 = .ok (.goto 31, 3) := by decide +kernel
theorem dX12_markFormula_13 : decode cX12_markFormula 13 = .ok (.iload_n 2, 1) := by decide +kernel
theorem dX12_markFormula_14 : decode cX12_markFormula 14 = .ok (.iconst 0, 1) := by decide +kernel
theorem dX12_markFormula_15 : decode cX12_markFormula 15 = .ok (.bipush 100, 2) := by decide +kernel
theorem dX12_markFormula_17 : decode cX12_markFormula 17 = .ok (.invokestatic 96, 3) := by decide +kernel
theorem dX12_markFormula_20 : decode cX12_markFormula 20 = .ok (.ifCond .ne 7, 3) := by decide +kernel
theorem dX12_markFormula_23 : decode cX12_markFormula 23 = .ok (.iconst 2, 1) := by decide +kernel
theorem dX12_markFormula_24 : decode cX12_markFormula 24 = .ok (.goto 17, 3) := by decide +kernel
theorem dX12_markFormula_27 : decode cX12_markFormula 27 = .ok (.aload_n 0, 1) := by decide +kernel
theorem dX12_markFormula_28 : decode cX12_markFormula 28 = .ok (.getfield 103, 3) := by decide +kernel
theorem dX12_markFormula_31 : decode cX12_markFormula 31 = .ok (.bipush 60, 2) := by decide +kernel
theorem dX12_markFormula_33 : decode cX12_markFormula 33 = .ok (.if_icmp .ne 7, 3) := by decide +kernel
theorem dX12_markFormula_36 : decode cX12_markFormula 36 = .ok (.iconst 3, 1) := by decide +kernel
theorem dX12_markFormula_37 : decode cX12_markFormula 37 = .ok (.goto 4, 3) := by decide +kernel
theorem dX12_markFormula_40 : decode cX12_markFormula 40 = .ok (.iconst 0, 1) := by decide +kernel
theorem dX12_markFormula_41 : decode cX12_markFormula 41 = .ok (.invokevirtual 144, 3) := by decide +kernel
theorem dX12_markFormula_44 : decode cX12_markFormula 44 = .ok (.ifCond .ne 5, 3) := by decide +kernel
theorem dX12_markFormula_47 : decode cX12_markFormula 47 = .ok (.iconst 0, 1) := by decide +kernel
theorem dX12_markFormula_48 : decode cX12_markFormula 48 = .ok (.ireturn, 1) := by decide +kernel
theorem dX12_markFormula_49 : decode cX12_markFormula 49 = .ok (.aload_n 0, 1) := by decide +kernel
theorem dX12_markFormula_50 : decode cX12_markFormula 50 = .ok (.iconst 0, 1) := by decide +kernel
theorem dX12_markFormula_51 : decode cX12_markFormula 51 = .ok (.iload_n 1, 1) := by decide +kernel
theorem dX12_markFormula_52 : decode cX12_markFormula 52 = .ok (.iload_n 2, 1) := by decide +kernel
theorem dX12_markFormula_53 : decode cX12_markFormula 53 = .ok (.iconst 0, 1) := by decide +kernel
theorem dX12_markFormula_54 : decode cX12_markFormula 54 = .ok (.iconst 0, 1) := by decide +kernel
theorem dX12_markFormula_55 : decode cX12_markFormula 55 = .ok (.invokevirtual 147, 3) := by decide +kernel
theorem dX12_markFormula_58 : decode cX12_markFormula 58 = .ok (.ireturn, 1) := by decide +kernel
theorem dX12_togetherFormula_0 : decode cX12_togetherFormula 0 = .ok (.aload_n 0, 1) := by decide +kernel
theorem dX12_togetherFormula_1 : decode cX12_togetherFormula 1 = .ok (.aload_n 0, 1) := by decide +kernel
theorem dX12_togetherFormula_2 : decode cX12_togetherFormula 2 = .ok (.iload_n 1, 1) := by decide +kernel
theorem dX12_togetherFormula_3 : decode cX12_togetherFormula 3 = .ok (.invokevirtual 151, 3) := by decide +kernel
theorem dX12_togetherFormula_6 : decode cX12_togetherFormula 6 = .ok (.ifCond .ne 7, 3) := by decide +kernel
theorem dX12_togetherFormula_9 : decode cX12_togetherFormula 9 = .ok (.iconst 1, 1) := by decide +kernel
theorem dX12_togetherFormula_10 : decode cX12_togetherFormula 10 = .ok (.goto 17, 3) := by decide +kernel
theorem dX12_togetherFormula_13 : decode cX12_togetherFormula 13 = .ok (.aload_n 0, 1) := by decide +kernel
theorem dX12_togetherFormula_14 : decode cX12_togetherFormula 14 = .ok (.getfield 103, 3) := by decide +kernel
theorem dX12_togetherFormula_17 : decode cX12_togetherFormula 17 = .ok (.bipush 60, 2) := by decide +kernel
theorem dX12_togetherFormula_19 : decode cX12_togetherFormula 19 = .ok (.if_icmp .ne 7, 3) := by decide +kernel
theorem dX12_togetherFormula_22 : decode cX12_togetherFormula 22 = .ok (.iconst 2, 1) := by decide +kernel
theorem dX12_togetherFormula_23 : decode cX12_togetherFormula 23 = .ok (.goto 4, 3) := by decide +kernel
theorem dX12_togetherFormula_26 : decode cX12_togetherFormula 26 = .ok (.iconst 0, 1) := by decide +kernel
theorem dX12_togetherFormula_27 : decode cX12_togetherFormula 27 = .ok (.invokevirtual 144, 3) := by decide +kernel
theorem dX12_togetherFormula_30 : decode cX12_togetherFormula 30 = .ok (.ifCond .ne 5, 3) := by decide +kernel
theorem dX12_togetherFormula_33 : decode cX12_togetherFormula 33 = .ok (.iconst 0, 1) := by decide +kernel
theorem dX12_togetherFormula_34 : decode cX12_togetherFormula 34 = .ok (.ireturn, 1) := by decide +kernel
theorem dX12_togetherFormula_35 : decode cX12_togetherFormula 35 = .ok (.aload_n 0, 1) := by decide +kernel
theorem dX12_togetherFormula_36 : decode cX12_togetherFormula 36 = .ok (.iconst 1, 1) := by decide +kernel
theorem dX12_togetherFormula_37 : decode cX12_togetherFormula 37 = .ok (.iload_n 1, 1) := by decide +kernel
theorem dX12_togetherFormula_38 : decode cX12_togetherFormula 38 = .ok (.iconst 0, 1) := by decide +kernel
theorem dX12_togetherFormula_39 : decode cX12_togetherFormula 39 = .ok (.iconst 0, 1) := by decide +kernel
theorem dX12_togetherFormula_40 : decode cX12_togetherFormula 40 = .ok (.iconst 0, 1) := by decide +kernel
theorem dX12_togetherFormula_41 : decode cX12_togetherFormula 41 = .ok (.invokevirtual 147, 3) := by decide +kernel
theorem dX12_togetherFormula_44 : decode cX12_togetherFormula 44 = .ok (.ireturn, 1) := by decide +kernel
theorem dX12_creditsFormula_0 : decode cX12_creditsFormula 0 = .ok (.aload_n 0, 1) := by decide +kernel
theorem dX12_creditsFormula_1 : decode cX12_creditsFormula 1 = .ok (.iload_n 1, 1) := by decide +kernel
theorem dX12_creditsFormula_2 : decode cX12_creditsFormula 2 = .ok (.iconst 0, 1) := by decide +kernel
theorem dX12_creditsFormula_3 : decode cX12_creditsFormula 3 = .ok (.bipush 120, 2) := by decide +kernel
theorem dX12_creditsFormula_5 : decode cX12_creditsFormula 5 = .ok (.invokestatic 96, 3) := by decide +kernel
theorem dX12_creditsFormula_8 : decode cX12_creditsFormula 8 = .ok (.ifCond .ne 7, 3) := by decide +kernel
theorem dX12_creditsFormula_11 : decode cX12_creditsFormula 11 = .ok (.iconst 1, 1) := by decide +kernel
theorem dX12_creditsFormula_12 : decode cX12_creditsFormula 12 = .ok (.goto 17, 3) := by decide +kernel
theorem dX12_creditsFormula_15 : decode cX12_creditsFormula 15 = .ok (.aload_n 0, 1) := by decide +kernel
theorem dX12_creditsFormula_16 : decode cX12_creditsFormula 16 = .ok (.getfield 103, 3) := by decide +kernel
theorem dX12_creditsFormula_19 : decode cX12_creditsFormula 19 = .ok (.bipush 60, 2) := by decide +kernel
theorem dX12_creditsFormula_21 : decode cX12_creditsFormula 21 = .ok (.if_icmp .ne 7, 3) := by decide +kernel
theorem dX12_creditsFormula_24 : decode cX12_creditsFormula 24 = .ok (.iconst 2, 1) := by decide +kernel
theorem dX12_creditsFormula_25 : decode cX12_creditsFormula 25 = .ok (.goto 4, 3) := by decide +kernel
theorem dX12_creditsFormula_28 : decode cX12_creditsFormula 28 = .ok (.iconst 0, 1) := by decide +kernel
theorem dX12_creditsFormula_29 : decode cX12_creditsFormula 29 = .ok (.invokevirtual 144, 3) := by decide +kernel
theorem dX12_creditsFormula_32 : decode cX12_creditsFormula 32 = .ok (.ifCond .ne 5, 3) := by decide +kernel
theorem dX12_creditsFormula_35 : decode cX12_creditsFormula 35 = .ok (.iconst 0, 1) := by decide +kernel
theorem dX12_creditsFormula_36 : decode cX12_creditsFormula 36 = .ok (.ireturn, 1) := by decide +kernel
theorem dX12_creditsFormula_37 : decode cX12_creditsFormula 37 = .ok (.aload_n 0, 1) := by decide +kernel
theorem dX12_creditsFormula_38 : decode cX12_creditsFormula 38 = .ok (.iconst 2, 1) := by decide +kernel
theorem dX12_creditsFormula_39 : decode cX12_creditsFormula 39 = .ok (.iload_n 1, 1) := by decide +kernel
theorem dX12_creditsFormula_40 : decode cX12_creditsFormula 40 = .ok (.iconst 0, 1) := by decide +kernel
theorem dX12_creditsFormula_41 : decode cX12_creditsFormula 41 = .ok (.iconst 0, 1) := by decide +kernel
theorem dX12_creditsFormula_42 : decode cX12_creditsFormula 42 = .ok (.iconst 0, 1) := by decide +kernel
theorem dX12_creditsFormula_43 : decode cX12_creditsFormula 43 = .ok (.invokevirtual 147, 3) := by decide +kernel
theorem dX12_creditsFormula_46 : decode cX12_creditsFormula 46 = .ok (.ireturn, 1) := by decide +kernel
theorem dX12_allFormula_0 : decode cX12_allFormula 0 = .ok (.aload_n 0, 1) := by decide +kernel
theorem dX12_allFormula_1 : decode cX12_allFormula 1 = .ok (.iconst 3, 1) := by decide +kernel
theorem dX12_allFormula_2 : decode cX12_allFormula 2 = .ok (.iload_n 1, 1) := by decide +kernel
theorem dX12_allFormula_3 : decode cX12_allFormula 3 = .ok (.iload_n 2, 1) := by decide +kernel
theorem dX12_allFormula_4 : decode cX12_allFormula 4 = .ok (.iload_n 2, 1) := by decide +kernel
theorem dX12_allFormula_5 : decode cX12_allFormula 5 = .ok (.invokevirtual 154, 3) := by decide +kernel
theorem dX12_allFormula_8 : decode cX12_allFormula 8 = .ok (.ireturn, 1) := by decide +kernel
theorem dX12_anyFormula_0 : decode cX12_anyFormula 0 = .ok (.aload_n 0, 1) := by decide +kernel
theorem dX12_anyFormula_1 : decode cX12_anyFormula 1 = .ok (.iconst 4, 1) := by decide +kernel
theorem dX12_anyFormula_2 : decode cX12_anyFormula 2 = .ok (.iload_n 1, 1) := by decide +kernel
theorem dX12_anyFormula_3 : decode cX12_anyFormula 3 = .ok (.iload_n 2, 1) := by decide +kernel
theorem dX12_anyFormula_4 : decode cX12_anyFormula 4 = .ok (.iload_n 2, 1) := by decide +kernel
theorem dX12_anyFormula_5 : decode cX12_anyFormula 5 = .ok (.invokevirtual 154, 3) := by decide +kernel
theorem dX12_anyFormula_8 : decode cX12_anyFormula 8 = .ok (.ireturn, 1) := by decide +kernel
theorem dX12_twoFormula_0 : decode cX12_twoFormula 0 = .ok (.aload_n 0, 1) := by decide +kernel
theorem dX12_twoFormula_1 : decode cX12_twoFormula 1 = .ok (.iconst 5, 1) := by decide +kernel
theorem dX12_twoFormula_2 : decode cX12_twoFormula 2 = .ok (.iload_n 1, 1) := by decide +kernel
theorem dX12_twoFormula_3 : decode cX12_twoFormula 3 = .ok (.iload_n 2, 1) := by decide +kernel
theorem dX12_twoFormula_4 : decode cX12_twoFormula 4 = .ok (.iload_n 3, 1) := by decide +kernel
theorem dX12_twoFormula_5 : decode cX12_twoFormula 5 = .ok (.invokevirtual 154, 3) := by decide +kernel
theorem dX12_twoFormula_8 : decode cX12_twoFormula 8 = .ok (.ireturn, 1) := by decide +kernel
theorem dX12_noneFormula_0 : decode cX12_noneFormula 0 = .ok (.aload_n 0, 1) := by decide +kernel
theorem dX12_noneFormula_1 : decode cX12_noneFormula 1 = .ok (.bipush 6, 2) := by decide +kernel
theorem dX12_noneFormula_3 : decode cX12_noneFormula 3 = .ok (.iload_n 1, 1) := by decide +kernel
theorem dX12_noneFormula_4 : decode cX12_noneFormula 4 = .ok (.iload_n 1, 1) := by decide +kernel
theorem dX12_noneFormula_5 : decode cX12_noneFormula 5 = .ok (.iload_n 1, 1) := by decide +kernel
theorem dX12_noneFormula_6 : decode cX12_noneFormula 6 = .ok (.invokevirtual 154, 3) := by decide +kernel
theorem dX12_noneFormula_9 : decode cX12_noneFormula 9 = .ok (.ireturn, 1) := by decide +kernel
theorem dX12_holds_0 : decode cX12_holds 0 = .ok (.aload_n 0, 1) := by decide +kernel
theorem dX12_holds_1 : decode cX12_holds 1 = .ok (.aload_n 0, 1) := by decide +kernel
theorem dX12_holds_2 : decode cX12_holds 2 = .ok (.iload_n 1, 1) := by decide +kernel
theorem dX12_holds_3 : decode cX12_holds 3 = .ok (.invokevirtual 158, 3) := by decide +kernel
theorem dX12_holds_6 : decode cX12_holds 6 = .ok (.ifCond .ne 7, 3) := by decide +kernel
theorem dX12_holds_9 : decode cX12_holds 9 = .ok (.iconst 1, 1) := by decide +kernel
theorem dX12_holds_10 : decode cX12_holds 10 = .ok (.goto 16, 3) := by decide +kernel
theorem dX12_holds_13 : decode cX12_holds 13 = .ok (.aload_n 0, 1) := by decide +kernel
theorem dX12_holds_14 : decode cX12_holds 14 = .ok (.iload_n 2, 1) := by decide +kernel
theorem dX12_holds_15 : decode cX12_holds 15 = .ok (.invokevirtual 136, 3) := by decide +kernel
theorem dX12_holds_18 : decode cX12_holds 18 = .ok (.ifCond .ne 7, 3) := by decide +kernel
theorem dX12_holds_21 : decode cX12_holds 21 = .ok (.iconst 2, 1) := by decide +kernel
theorem dX12_holds_22 : decode cX12_holds 22 = .ok (.goto 4, 3) := by decide +kernel
theorem dX12_holds_25 : decode cX12_holds 25 = .ok (.iconst 0, 1) := by decide +kernel
theorem dX12_holds_26 : decode cX12_holds 26 = .ok (.invokevirtual 144, 3) := by decide +kernel
theorem dX12_holds_29 : decode cX12_holds 29 = .ok (.ifCond .eq 16, 3) := by decide +kernel
theorem dX12_holds_32 : decode cX12_holds 32 = .ok (.aload_n 0, 1) := by decide +kernel
theorem dX12_holds_33 : decode cX12_holds 33 = .ok (.iload_n 2, 1) := by decide +kernel
theorem dX12_holds_34 : decode cX12_holds 34 = .ok (.iload_n 1, 1) := by decide +kernel
theorem dX12_holds_35 : decode cX12_holds 35 = .ok (.invokevirtual 130, 3) := by decide +kernel
theorem dX12_holds_38 : decode cX12_holds 38 = .ok (.ifCond .eq 7, 3) := by decide +kernel
theorem dX12_holds_41 : decode cX12_holds 41 = .ok (.iconst 1, 1) := by decide +kernel
theorem dX12_holds_42 : decode cX12_holds 42 = .ok (.goto 4, 3) := by decide +kernel
theorem dX12_holds_45 : decode cX12_holds 45 = .ok (.iconst 0, 1) := by decide +kernel
theorem dX12_holds_46 : decode cX12_holds 46 = .ok (.ireturn, 1) := by decide +kernel
theorem dX12_enrolledIn_0 : decode cX12_enrolledIn 0 = .ok (.iconst 0, 1) := by decide +kernel
theorem dX12_enrolledIn_1 : decode cX12_enrolledIn 1 = .ok (.istore_n 2, 1) := by decide +kernel
theorem dX12_enrolledIn_2 : decode cX12_enrolledIn 2 = .ok (.iconst 0, 1) := by decide +kernel
theorem dX12_enrolledIn_3 : decode cX12_enrolledIn 3 = .ok (.istore_n 3, 1) := by decide +kernel
theorem dX12_enrolledIn_4 : decode cX12_enrolledIn 4 = .ok (.iload_n 3, 1) := by decide +kernel
theorem dX12_enrolledIn_5 : decode cX12_enrolledIn 5 = .ok (.aload_n 0, 1) := by decide +kernel
theorem dX12_enrolledIn_6 : decode cX12_enrolledIn 6 = .ok (.getfield 100, 3) := by decide +kernel
theorem dX12_enrolledIn_9 : decode cX12_enrolledIn 9 = .ok (.if_icmp .ge 30, 3) := by decide +kernel
theorem dX12_enrolledIn_12 : decode cX12_enrolledIn 12 = .ok (.iload_n 2, 1) := by decide +kernel
theorem dX12_enrolledIn_13 : decode cX12_enrolledIn 13 = .ok (.aload_n 0, 1) := by decide +kernel
theorem dX12_enrolledIn_14 : decode cX12_enrolledIn 14 = .ok (.getfield 31, 3) := by decide +kernel
theorem dX12_enrolledIn_17 : decode cX12_enrolledIn 17 = .ok (.iload_n 3, 1) := by decide +kernel
theorem dX12_enrolledIn_18 : decode cX12_enrolledIn 18 = .ok (.iaload, 1) := by decide +kernel
theorem dX12_enrolledIn_19 : decode cX12_enrolledIn 19 = .ok (.iload_n 1, 1) := by decide +kernel
theorem dX12_enrolledIn_20 : decode cX12_enrolledIn 20 = .ok (.invokestatic 106, 3) := by decide +kernel
theorem dX12_enrolledIn_23 : decode cX12_enrolledIn 23 = .ok (.ifCond .eq 7, 3) := by decide +kernel
theorem dX12_enrolledIn_26 : decode cX12_enrolledIn 26 = .ok (.iconst 1, 1) := by decide +kernel
theorem dX12_enrolledIn_27 : decode cX12_enrolledIn 27 = .ok (.goto 4, 3) := by decide +kernel
theorem dX12_enrolledIn_30 : decode cX12_enrolledIn 30 = .ok (.iconst 0, 1) := by decide +kernel
theorem dX12_enrolledIn_31 : decode cX12_enrolledIn 31 = .ok (.iadd, 1) := by decide +kernel
theorem dX12_enrolledIn_32 : decode cX12_enrolledIn 32 = .ok (.istore_n 2, 1) := by decide +kernel
theorem dX12_enrolledIn_33 : decode cX12_enrolledIn 33 = .ok (.iinc 3 1, 3) := by decide +kernel
theorem dX12_enrolledIn_36 : decode cX12_enrolledIn 36 = .ok (.goto (-32), 3) := by decide +kernel
theorem dX12_enrolledIn_39 : decode cX12_enrolledIn 39 = .ok (.iload_n 2, 1) := by decide +kernel
theorem dX12_enrolledIn_40 : decode cX12_enrolledIn 40 = .ok (.ireturn, 1) := by decide +kernel
theorem dX12_enrolledOf_0 : decode cX12_enrolledOf 0 = .ok (.iconst 0, 1) := by decide +kernel
theorem dX12_enrolledOf_1 : decode cX12_enrolledOf 1 = .ok (.istore_n 3, 1) := by decide +kernel
theorem dX12_enrolledOf_2 : decode cX12_enrolledOf 2 = .ok (.iconst 0, 1) := by decide +kernel
theorem dX12_enrolledOf_3 : decode cX12_enrolledOf 3 = .ok (.istore 4, 2) := by decide +kernel
theorem dX12_enrolledOf_5 : decode cX12_enrolledOf 5 = .ok (.iload 4, 2) := by decide +kernel
theorem dX12_enrolledOf_7 : decode cX12_enrolledOf 7 = .ok (.aload_n 0, 1) := by decide +kernel
theorem dX12_enrolledOf_8 : decode cX12_enrolledOf 8 = .ok (.getfield 100, 3) := by decide +kernel
theorem dX12_enrolledOf_11 : decode cX12_enrolledOf 11 = .ok (.if_icmp .ge 42, 3) := by decide +kernel
theorem dX12_enrolledOf_14 : decode cX12_enrolledOf 14 = .ok (.iload_n 3, 1) := by decide +kernel
theorem dX12_enrolledOf_15 : decode cX12_enrolledOf 15 = .ok (.aload_n 0, 1) := by decide +kernel
theorem dX12_enrolledOf_16 : decode cX12_enrolledOf 16 = .ok (.getfield 31, 3) := by decide +kernel
theorem dX12_enrolledOf_19 : decode cX12_enrolledOf 19 = .ok (.iload 4, 2) := by decide +kernel
theorem dX12_enrolledOf_21 : decode cX12_enrolledOf 21 = .ok (.iaload, 1) := by decide +kernel
theorem dX12_enrolledOf_22 : decode cX12_enrolledOf 22 = .ok (.iload_n 1, 1) := by decide +kernel
theorem dX12_enrolledOf_23 : decode cX12_enrolledOf 23 = .ok (.invokestatic 106, 3) := by decide +kernel
theorem dX12_enrolledOf_26 : decode cX12_enrolledOf 26 = .ok (.ifCond .eq 18, 3) := by decide +kernel
theorem dX12_enrolledOf_29 : decode cX12_enrolledOf 29 = .ok (.aload_n 0, 1) := by decide +kernel
theorem dX12_enrolledOf_30 : decode cX12_enrolledOf 30 = .ok (.getfield 28, 3) := by decide +kernel
theorem dX12_enrolledOf_33 : decode cX12_enrolledOf 33 = .ok (.iload 4, 2) := by decide +kernel
theorem dX12_enrolledOf_35 : decode cX12_enrolledOf 35 = .ok (.iaload, 1) := by decide +kernel
theorem dX12_enrolledOf_36 : decode cX12_enrolledOf 36 = .ok (.iload_n 2, 1) := by decide +kernel
theorem dX12_enrolledOf_37 : decode cX12_enrolledOf 37 = .ok (.if_icmp .ne 7, 3) := by decide +kernel
theorem dX12_enrolledOf_40 : decode cX12_enrolledOf 40 = .ok (.iconst 1, 1) := by decide +kernel
theorem dX12_enrolledOf_41 : decode cX12_enrolledOf 41 = .ok (.goto 4, 3) := by decide +kernel
theorem dX12_enrolledOf_44 : decode cX12_enrolledOf 44 = .ok (.iconst 0, 1) := by decide +kernel
theorem dX12_enrolledOf_45 : decode cX12_enrolledOf 45 = .ok (.iadd, 1) := by decide +kernel
theorem dX12_enrolledOf_46 : decode cX12_enrolledOf 46 = .ok (.istore_n 3, 1) := by decide +kernel
theorem dX12_enrolledOf_47 : decode cX12_enrolledOf 47 = .ok (.iinc 4 1, 3) := by decide +kernel
theorem dX12_enrolledOf_50 : decode cX12_enrolledOf 50 = .ok (.goto (-45), 3) := by decide +kernel
theorem dX12_enrolledOf_53 : decode cX12_enrolledOf 53 = .ok (.iload_n 3, 1) := by decide +kernel
theorem dX12_enrolledOf_54 : decode cX12_enrolledOf 54 = .ok (.ireturn, 1) := by decide +kernel
theorem dX12_freeFor_0 : decode cX12_freeFor 0 = .ok (.aload_n 0, 1) := by decide +kernel
theorem dX12_freeFor_1 : decode cX12_freeFor 1 = .ok (.getfield 13, 3) := by decide +kernel
theorem dX12_freeFor_4 : decode cX12_freeFor 4 = .ok (.iload_n 1, 1) := by decide +kernel
theorem dX12_freeFor_5 : decode cX12_freeFor 5 = .ok (.iaload, 1) := by decide +kernel
theorem dX12_freeFor_6 : decode cX12_freeFor 6 = .ok (.aload_n 0, 1) := by decide +kernel
theorem dX12_freeFor_7 : decode cX12_freeFor 7 = .ok (.iload_n 1, 1) := by decide +kernel
theorem dX12_freeFor_8 : decode cX12_freeFor 8 = .ok (.invokevirtual 161, 3) := by decide +kernel
theorem dX12_freeFor_11 : decode cX12_freeFor 11 = .ok (.isub, 1) := by decide +kernel
theorem dX12_freeFor_12 : decode cX12_freeFor 12 = .ok (.istore_n 3, 1) := by decide +kernel
theorem dX12_freeFor_13 : decode cX12_freeFor 13 = .ok (.iconst 0, 1) := by decide +kernel
theorem dX12_freeFor_14 : decode cX12_freeFor 14 = .ok (.istore 4, 2) := by decide +kernel
theorem dX12_freeFor_16 : decode cX12_freeFor 16 = .ok (.iload 4, 2) := by decide +kernel
theorem dX12_freeFor_18 : decode cX12_freeFor 18 = .ok (.iconst 4, 1) := by decide +kernel
theorem dX12_freeFor_19 : decode cX12_freeFor 19 = .ok (.if_icmp .ge 58, 3) := by decide +kernel
theorem dX12_freeFor_22 : decode cX12_freeFor 22 = .ok (.aload_n 0, 1) := by decide +kernel
theorem dX12_freeFor_23 : decode cX12_freeFor 23 = .ok (.getfield 164, 3) := by decide +kernel
theorem dX12_freeFor_26 : decode cX12_freeFor 26 = .ok (.iconst 3, 1) := by decide +kernel
theorem dX12_freeFor_27 : decode cX12_freeFor 27 = .ok (.if_icmp .gt 50, 3) := by decide +kernel
theorem dX12_freeFor_30 : decode cX12_freeFor 30 = .ok (.aload_n 0, 1) := by decide +kernel
theorem dX12_freeFor_31 : decode cX12_freeFor 31 = .ok (.getfield 16, 3) := by decide +kernel
theorem dX12_freeFor_34 : decode cX12_freeFor 34 = .ok (.iconst 4, 1) := by decide +kernel
theorem dX12_freeFor_35 : decode cX12_freeFor 35 = .ok (.iload_n 1, 1) := by decide +kernel
theorem dX12_freeFor_36 : decode cX12_freeFor 36 = .ok (.imul, 1) := by decide +kernel
theorem dX12_freeFor_37 : decode cX12_freeFor 37 = .ok (.iload 4, 2) := by decide +kernel
theorem dX12_freeFor_39 : decode cX12_freeFor 39 = .ok (.iadd, 1) := by decide +kernel
theorem dX12_freeFor_40 : decode cX12_freeFor 40 = .ok (.iaload, 1) := by decide +kernel
theorem dX12_freeFor_41 : decode cX12_freeFor 41 = .ok (.aload_n 0, 1) := by decide +kernel
theorem dX12_freeFor_42 : decode cX12_freeFor 42 = .ok (.iload_n 1, 1) := by decide +kernel
theorem dX12_freeFor_43 : decode cX12_freeFor 43 = .ok (.iload 4, 2) := by decide +kernel
theorem dX12_freeFor_45 : decode cX12_freeFor 45 = .ok (.invokevirtual 167, 3) := by decide +kernel
theorem dX12_freeFor_48 : decode cX12_freeFor 48 = .ok (.isub, 1) := by decide +kernel
theorem dX12_freeFor_49 : decode cX12_freeFor 49 = .ok (.istore 5, 2) := by decide +kernel
theorem dX12_freeFor_51 : decode cX12_freeFor 51 = .ok (.iload_n 3, 1) := by decide +kernel
theorem dX12_freeFor_52 : decode cX12_freeFor 52 = .ok (.iload 4, 2) := by decide +kernel
theorem dX12_freeFor_54 : decode cX12_freeFor 54 = .ok (.iload_n 2, 1) := by decide +kernel
theorem dX12_freeFor_55 : decode cX12_freeFor 55 = .ok (.if_icmp .eq 13, 3) := by decide +kernel
theorem dX12_freeFor_58 : decode cX12_freeFor 58 = .ok (.iload 5, 2) := by decide +kernel
theorem dX12_freeFor_60 : decode cX12_freeFor 60 = .ok (.ifCond .le 8, 3) := by decide +kernel
theorem dX12_freeFor_63 : decode cX12_freeFor 63 = .ok (.iload 5, 2) := by decide +kernel
theorem dX12_freeFor_65 : decode cX12_freeFor 65 = .ok (.goto 4, 3) := by decide +kernel
theorem dX12_freeFor_68 : decode cX12_freeFor 68 = .ok (.iconst 0, 1) := by decide +kernel
theorem dX12_freeFor_69 : decode cX12_freeFor 69 = .ok (.isub, 1) := by decide +kernel
theorem dX12_freeFor_70 : decode cX12_freeFor 70 = .ok (.istore_n 3, 1) := by decide +kernel
theorem dX12_freeFor_71 : decode cX12_freeFor 71 = .ok (.iinc 4 1, 3) := by decide +kernel
theorem dX12_freeFor_74 : decode cX12_freeFor 74 = .ok (.goto (-58), 3) := by decide +kernel
theorem dX12_freeFor_77 : decode cX12_freeFor 77 = .ok (.iload_n 3, 1) := by decide +kernel
theorem dX12_freeFor_78 : decode cX12_freeFor 78 = .ok (.ifCond .ge 7, 3) := by decide +kernel
theorem dX12_freeFor_81 : decode cX12_freeFor 81 = .ok (.iconst 0, 1) := by decide +kernel
theorem dX12_freeFor_82 : decode cX12_freeFor 82 = .ok (.goto 4, 3) := by decide +kernel
theorem dX12_freeFor_85 : decode cX12_freeFor 85 = .ok (.iload_n 3, 1) := by decide +kernel
theorem dX12_freeFor_86 : decode cX12_freeFor 86 = .ok (.ireturn, 1) := by decide +kernel
theorem dX12_fits_0 : decode cX12_fits 0 = .ok (.aload_n 0, 1) := by decide +kernel
theorem dX12_fits_1 : decode cX12_fits 1 = .ok (.aload_n 0, 1) := by decide +kernel
theorem dX12_fits_2 : decode cX12_fits 2 = .ok (.getfield 31, 3) := by decide +kernel
theorem dX12_fits_5 : decode cX12_fits 5 = .ok (.iload_n 1, 1) := by decide +kernel
theorem dX12_fits_6 : decode cX12_fits 6 = .ok (.iaload, 1) := by decide +kernel
theorem dX12_fits_7 : decode cX12_fits 7 = .ok (.invokevirtual 123, 3) := by decide +kernel
theorem dX12_fits_10 : decode cX12_fits 10 = .ok (.aload_n 0, 1) := by decide +kernel
theorem dX12_fits_11 : decode cX12_fits 11 = .ok (.getfield 9, 3) := by decide +kernel
theorem dX12_fits_14 : decode cX12_fits 14 = .ok (.iload_n 2, 1) := by decide +kernel
theorem dX12_fits_15 : decode cX12_fits 15 = .ok (.iaload, 1) := by decide +kernel
theorem dX12_fits_16 : decode cX12_fits 16 = .ok (.iadd, 1) := by decide +kernel
theorem dX12_fits_17 : decode cX12_fits 17 = .ok (.bipush 18, 2) := by decide +kernel
theorem dX12_fits_19 : decode cX12_fits 19 = .ok (.if_icmp .gt 7, 3) := by decide +kernel
theorem dX12_fits_22 : decode cX12_fits 22 = .ok (.iconst 1, 1) := by decide +kernel
theorem dX12_fits_23 : decode cX12_fits 23 = .ok (.goto 4, 3) := by decide +kernel
theorem dX12_fits_26 : decode cX12_fits 26 = .ok (.iconst 0, 1) := by decide +kernel
theorem dX12_fits_27 : decode cX12_fits 27 = .ok (.ireturn, 1) := by decide +kernel
theorem dX12_canTake_0 : decode cX12_canTake 0 = .ok (.aload_n 0, 1) := by decide +kernel
theorem dX12_canTake_1 : decode cX12_canTake 1 = .ok (.iload_n 2, 1) := by decide +kernel
theorem dX12_canTake_2 : decode cX12_canTake 2 = .ok (.aload_n 0, 1) := by decide +kernel
theorem dX12_canTake_3 : decode cX12_canTake 3 = .ok (.getfield 28, 3) := by decide +kernel
theorem dX12_canTake_6 : decode cX12_canTake 6 = .ok (.iload_n 1, 1) := by decide +kernel
theorem dX12_canTake_7 : decode cX12_canTake 7 = .ok (.iaload, 1) := by decide +kernel
theorem dX12_canTake_8 : decode cX12_canTake 8 = .ok (.invokevirtual 170, 3) := by decide +kernel
theorem dX12_canTake_11 : decode cX12_canTake 11 = .ok (.ifCond .le 25, 3) := by decide +kernel
theorem dX12_canTake_14 : decode cX12_canTake 14 = .ok (.aload_n 0, 1) := by decide +kernel
theorem dX12_canTake_15 : decode cX12_canTake 15 = .ok (.iload_n 1, 1) := by decide +kernel
theorem dX12_canTake_16 : decode cX12_canTake 16 = .ok (.iload_n 2, 1) := by decide +kernel
theorem dX12_canTake_17 : decode cX12_canTake 17 = .ok (.invokevirtual 173, 3) := by decide +kernel
theorem dX12_canTake_20 : decode cX12_canTake 20 = .ok (.ifCond .eq 16, 3) := by decide +kernel
theorem dX12_canTake_23 : decode cX12_canTake 23 = .ok (.aload_n 0, 1) := by decide +kernel
theorem dX12_canTake_24 : decode cX12_canTake 24 = .ok (.iload_n 1, 1) := by decide +kernel
theorem dX12_canTake_25 : decode cX12_canTake 25 = .ok (.iload_n 2, 1) := by decide +kernel
theorem dX12_canTake_26 : decode cX12_canTake 26 = .ok (.invokevirtual 176, 3) := by decide +kernel
theorem dX12_canTake_29 : decode cX12_canTake 29 = .ok (.ifCond .eq 7, 3) := by decide +kernel
theorem dX12_canTake_32 : decode cX12_canTake 32 = .ok (.iconst 1, 1) := by decide +kernel
theorem dX12_canTake_33 : decode cX12_canTake 33 = .ok (.goto 4, 3) := by decide +kernel
theorem dX12_canTake_36 : decode cX12_canTake 36 = .ok (.iconst 0, 1) := by decide +kernel
theorem dX12_canTake_37 : decode cX12_canTake 37 = .ok (.ireturn, 1) := by decide +kernel
theorem dX12_placeIn_0 : decode cX12_placeIn 0 = .ok (.iconst 0, 1) := by decide +kernel
theorem dX12_placeIn_1 : decode cX12_placeIn 1 = .ok (.istore_n 3, 1) := by decide +kernel
theorem dX12_placeIn_2 : decode cX12_placeIn 2 = .ok (.iload_n 3, 1) := by decide +kernel
theorem dX12_placeIn_3 : decode cX12_placeIn 3 = .ok (.aload_n 0, 1) := by decide +kernel
theorem dX12_placeIn_4 : decode cX12_placeIn 4 = .ok (.getfield 22, 3) := by decide +kernel
theorem dX12_placeIn_7 : decode cX12_placeIn 7 = .ok (.iload_n 1, 1) := by decide +kernel
theorem dX12_placeIn_8 : decode cX12_placeIn 8 = .ok (.iaload, 1) := by decide +kernel
theorem dX12_placeIn_9 : decode cX12_placeIn 9 = .ok (.if_icmp .ge 26, 3) := by decide +kernel
theorem dX12_placeIn_12 : decode cX12_placeIn 12 = .ok (.aload_n 0, 1) := by decide +kernel
theorem dX12_placeIn_13 : decode cX12_placeIn 13 = .ok (.getfield 25, 3) := by decide +kernel
theorem dX12_placeIn_16 : decode cX12_placeIn 16 = .ok (.bipush 6, 2) := by decide +kernel
theorem dX12_placeIn_18 : decode cX12_placeIn 18 = .ok (.iload_n 1, 1) := by decide +kernel
theorem dX12_placeIn_19 : decode cX12_placeIn 19 = .ok (.imul, 1) := by decide +kernel
theorem dX12_placeIn_20 : decode cX12_placeIn 20 = .ok (.iload_n 3, 1) := by decide +kernel
theorem dX12_placeIn_21 : decode cX12_placeIn 21 = .ok (.iadd, 1) := by decide +kernel
theorem dX12_placeIn_22 : decode cX12_placeIn 22 = .ok (.iaload, 1) := by decide +kernel
theorem dX12_placeIn_23 : decode cX12_placeIn 23 = .ok (.iload_n 2, 1) := by decide +kernel
theorem dX12_placeIn_24 : decode cX12_placeIn 24 = .ok (.if_icmp .ne 5, 3) := by decide +kernel
theorem dX12_placeIn_27 : decode cX12_placeIn 27 = .ok (.iload_n 3, 1) := by decide +kernel
theorem dX12_placeIn_28 : decode cX12_placeIn 28 = .ok (.ireturn, 1) := by decide +kernel
theorem dX12_placeIn_29 : decode cX12_placeIn 29 = .ok (.iinc 3 1, 3) := by decide +kernel
theorem dX12_placeIn_32 : decode cX12_placeIn 32 = .ok (.goto (-30), 3) := by decide +kernel
theorem dX12_placeIn_35 : decode cX12_placeIn 35 = .ok (.iconst (-1), 1) := by decide +kernel
theorem dX12_placeIn_36 : decode cX12_placeIn 36 = .ok (.ireturn, 1) := by decide +kernel
theorem dX12_leaves_0 : decode cX12_leaves 0 = .ok (.iload_n 2, 1) := by decide +kernel
theorem dX12_leaves_1 : decode cX12_leaves 1 = .ok (.istore_n 3, 1) := by decide +kernel
theorem dX12_leaves_2 : decode cX12_leaves 2 = .ok (.iload_n 3, 1) := by decide +kernel
theorem dX12_leaves_3 : decode cX12_leaves 3 = .ok (.iconst 1, 1) := by decide +kernel
theorem dX12_leaves_4 : decode cX12_leaves 4 = .ok (.iadd, 1) := by decide +kernel
theorem dX12_leaves_5 : decode cX12_leaves 5 = .ok (.aload_n 0, 1) := by decide +kernel
theorem dX12_leaves_6 : decode cX12_leaves 6 = .ok (.getfield 22, 3) := by decide +kernel
theorem dX12_leaves_9 : decode cX12_leaves 9 = .ok (.iload_n 1, 1) := by decide +kernel
theorem dX12_leaves_10 : decode cX12_leaves 10 = .ok (.iaload, 1) := by decide +kernel
theorem dX12_leaves_11 : decode cX12_leaves 11 = .ok (.if_icmp .ge 33, 3) := by decide +kernel
theorem dX12_leaves_14 : decode cX12_leaves 14 = .ok (.aload_n 0, 1) := by decide +kernel
theorem dX12_leaves_15 : decode cX12_leaves 15 = .ok (.getfield 25, 3) := by decide +kernel
theorem dX12_leaves_18 : decode cX12_leaves 18 = .ok (.bipush 6, 2) := by decide +kernel
theorem dX12_leaves_20 : decode cX12_leaves 20 = .ok (.iload_n 1, 1) := by decide +kernel
theorem dX12_leaves_21 : decode cX12_leaves 21 = .ok (.imul, 1) := by decide +kernel
theorem dX12_leaves_22 : decode cX12_leaves 22 = .ok (.iload_n 3, 1) := by decide +kernel
theorem dX12_leaves_23 : decode cX12_leaves 23 = .ok (.iadd, 1) := by decide +kernel
theorem dX12_leaves_24 : decode cX12_leaves 24 = .ok (.aload_n 0, 1) := by decide +kernel
theorem dX12_leaves_25 : decode cX12_leaves 25 = .ok (.getfield 25, 3) := by decide +kernel
theorem dX12_leaves_28 : decode cX12_leaves 28 = .ok (.bipush 6, 2) := by decide +kernel
theorem dX12_leaves_30 : decode cX12_leaves 30 = .ok (.iload_n 1, 1) := by decide +kernel
theorem dX12_leaves_31 : decode cX12_leaves 31 = .ok (.imul, 1) := by decide +kernel
theorem dX12_leaves_32 : decode cX12_leaves 32 = .ok (.iload_n 3, 1) := by decide +kernel
theorem dX12_leaves_33 : decode cX12_leaves 33 = .ok (.iadd, 1) := by decide +kernel
theorem dX12_leaves_34 : decode cX12_leaves 34 = .ok (.iconst 1, 1) := by decide +kernel
theorem dX12_leaves_35 : decode cX12_leaves 35 = .ok (.iadd, 1) := by decide +kernel
theorem dX12_leaves_36 : decode cX12_leaves 36 = .ok (.iaload, 1) := by decide +kernel
theorem dX12_leaves_37 : decode cX12_leaves 37 = .ok (.iastore, 1) := by decide +kernel
theorem dX12_leaves_38 : decode cX12_leaves 38 = .ok (.iinc 3 1, 3) := by decide +kernel
theorem dX12_leaves_41 : decode cX12_leaves 41 = .ok (.goto (-39), 3) := by decide +kernel
theorem dX12_leaves_44 : decode cX12_leaves 44 = .ok (.aload_n 0, 1) := by decide +kernel
theorem dX12_leaves_45 : decode cX12_leaves 45 = .ok (.getfield 22, 3) := by decide +kernel
theorem dX12_leaves_48 : decode cX12_leaves 48 = .ok (.iload_n 1, 1) := by decide +kernel
theorem dX12_leaves_49 : decode cX12_leaves 49 = .ok (.dup2, 1) := by decide +kernel
theorem dX12_leaves_50 : decode cX12_leaves 50 = .ok (.iaload, 1) := by decide +kernel
theorem dX12_leaves_51 : decode cX12_leaves 51 = .ok (.iconst 1, 1) := by decide +kernel
theorem dX12_leaves_52 : decode cX12_leaves 52 = .ok (.isub, 1) := by decide +kernel
theorem dX12_leaves_53 : decode cX12_leaves 53 = .ok (.iastore, 1) := by decide +kernel
theorem dX12_leaves_54 : decode cX12_leaves 54 = .ok (.return_, 1) := by decide +kernel
theorem dX12_givesOne_0 : decode cX12_givesOne 0 = .ok (.iconst 0, 1) := by decide +kernel
theorem dX12_givesOne_1 : decode cX12_givesOne 1 = .ok (.istore_n 1, 1) := by decide +kernel
theorem dX12_givesOne_2 : decode cX12_givesOne 2 = .ok (.iload_n 1, 1) := by decide +kernel
theorem dX12_givesOne_3 : decode cX12_givesOne 3 = .ok (.aload_n 0, 1) := by decide +kernel
theorem dX12_givesOne_4 : decode cX12_givesOne 4 = .ok (.getfield 93, 3) := by decide +kernel
theorem dX12_givesOne_7 : decode cX12_givesOne 7 = .ok (.if_icmp .ge 68, 3) := by decide +kernel
theorem dX12_givesOne_10 : decode cX12_givesOne 10 = .ok (.iconst 0, 1) := by decide +kernel
theorem dX12_givesOne_11 : decode cX12_givesOne 11 = .ok (.istore_n 2, 1) := by decide +kernel
theorem dX12_givesOne_12 : decode cX12_givesOne 12 = .ok (.iload_n 2, 1) := by decide +kernel
theorem dX12_givesOne_13 : decode cX12_givesOne 13 = .ok (.aload_n 0, 1) := by decide +kernel
theorem dX12_givesOne_14 : decode cX12_givesOne 14 = .ok (.getfield 22, 3) := by decide +kernel
theorem dX12_givesOne_17 : decode cX12_givesOne 17 = .ok (.iload_n 1, 1) := by decide +kernel
theorem dX12_givesOne_18 : decode cX12_givesOne 18 = .ok (.iaload, 1) := by decide +kernel
theorem dX12_givesOne_19 : decode cX12_givesOne 19 = .ok (.if_icmp .ge 50, 3) := by decide +kernel
theorem dX12_givesOne_22 : decode cX12_givesOne 22 = .ok (.aload_n 0, 1) := by decide +kernel
theorem dX12_givesOne_23 : decode cX12_givesOne 23 = .ok (.getfield 25, 3) := by decide +kernel
theorem dX12_givesOne_26 : decode cX12_givesOne 26 = .ok (.bipush 6, 2) := by decide +kernel
theorem dX12_givesOne_28 : decode cX12_givesOne 28 = .ok (.iload_n 1, 1) := by decide +kernel
theorem dX12_givesOne_29 : decode cX12_givesOne 29 = .ok (.imul, 1) := by decide +kernel
theorem dX12_givesOne_30 : decode cX12_givesOne 30 = .ok (.iload_n 2, 1) := by decide +kernel
theorem dX12_givesOne_31 : decode cX12_givesOne 31 = .ok (.iadd, 1) := by decide +kernel
theorem dX12_givesOne_32 : decode cX12_givesOne 32 = .ok (.iaload, 1) := by decide +kernel
theorem dX12_givesOne_33 : decode cX12_givesOne 33 = .ok (.istore_n 3, 1) := by decide +kernel
theorem dX12_givesOne_34 : decode cX12_givesOne 34 = .ok (.aload_n 0, 1) := by decide +kernel
theorem dX12_givesOne_35 : decode cX12_givesOne 35 = .ok (.iload_n 3, 1) := by decide +kernel
theorem dX12_givesOne_36 : decode cX12_givesOne 36 = .ok (.iload_n 1, 1) := by decide +kernel
theorem dX12_givesOne_37 : decode cX12_givesOne 37 = .ok (.invokevirtual 179, 3) := by decide +kernel
theorem dX12_givesOne_40 : decode cX12_givesOne 40 = .ok (.ifCond .eq 23, 3) := by decide +kernel
theorem dX12_givesOne_43 : decode cX12_givesOne 43 = .ok (.aload_n 0, 1) := by decide +kernel
theorem dX12_givesOne_44 : decode cX12_givesOne 44 = .ok (.getfield 31, 3) := by decide +kernel
theorem dX12_givesOne_47 : decode cX12_givesOne 47 = .ok (.iload_n 3, 1) := by decide +kernel
theorem dX12_givesOne_48 : decode cX12_givesOne 48 = .ok (.dup2, 1) := by decide +kernel
theorem dX12_givesOne_49 : decode cX12_givesOne 49 = .ok (.iaload, 1) := by decide +kernel
theorem dX12_givesOne_50 : decode cX12_givesOne 50 = .ok (.iconst 1, 1) := by decide +kernel
theorem dX12_givesOne_51 : decode cX12_givesOne 51 = .ok (.iload_n 1, 1) := by decide +kernel
theorem dX12_givesOne_52 : decode cX12_givesOne 52 = .ok (.ishl, 1) := by decide +kernel
theorem dX12_givesOne_53 : decode cX12_givesOne 53 = .ok (.ior, 1) := by decide +kernel
theorem dX12_givesOne_54 : decode cX12_givesOne 54 = .ok (.iastore, 1) := by decide +kernel
theorem dX12_givesOne_55 : decode cX12_givesOne 55 = .ok (.aload_n 0, 1) := by decide +kernel
theorem dX12_givesOne_56 : decode cX12_givesOne 56 = .ok (.iload_n 1, 1) := by decide +kernel
theorem dX12_givesOne_57 : decode cX12_givesOne 57 = .ok (.iload_n 2, 1) := by decide +kernel
theorem dX12_givesOne_58 : decode cX12_givesOne 58 = .ok (.invokevirtual 182, 3) := by decide +kernel
theorem dX12_givesOne_61 : decode cX12_givesOne 61 = .ok (.iconst 1, 1) := by decide +kernel
theorem dX12_givesOne_62 : decode cX12_givesOne 62 = .ok (.ireturn, 1) := by decide +kernel
theorem dX12_givesOne_63 : decode cX12_givesOne 63 = .ok (.iinc 2 1, 3) := by decide +kernel
theorem dX12_givesOne_66 : decode cX12_givesOne 66 = .ok (.goto (-54), 3) := by decide +kernel
theorem dX12_givesOne_69 : decode cX12_givesOne 69 = .ok (.iinc 1 1, 3) := by decide +kernel
theorem dX12_givesOne_72 : decode cX12_givesOne 72 = .ok (.goto (-70), 3) := by decide +kernel
theorem dX12_givesOne_75 : decode cX12_givesOne 75 = .ok (.iconst 0, 1) := by decide +kernel
theorem dX12_givesOne_76 : decode cX12_givesOne 76 = .ok (.ireturn, 1) := by decide +kernel
theorem dX12_givesOut_0 : decode cX12_givesOut 0 = .ok (.aload_n 0, 1) := by decide +kernel
theorem dX12_givesOut_1 : decode cX12_givesOut 1 = .ok (.getfield 164, 3) := by decide +kernel
theorem dX12_givesOut_4 : decode cX12_givesOut 4 = .ok (.iconst 5, 1) := by decide +kernel
theorem dX12_givesOut_5 : decode cX12_givesOut 5 = .ok (.if_icmp .gt 7, 3) := by decide +kernel
theorem dX12_givesOut_8 : decode cX12_givesOut 8 = .ok (.iconst 1, 1) := by decide +kernel
theorem dX12_givesOut_9 : decode cX12_givesOut 9 = .ok (.goto 4, 3) := by decide +kernel
theorem dX12_givesOut_12 : decode cX12_givesOut 12 = .ok (.iconst 0, 1) := by decide +kernel
theorem dX12_givesOut_13 : decode cX12_givesOut 13 = .ok (.istore_n 1, 1) := by decide +kernel
theorem dX12_givesOut_14 : decode cX12_givesOut 14 = .ok (.iload_n 1, 1) := by decide +kernel
theorem dX12_givesOut_15 : decode cX12_givesOut 15 = .ok (.ifCond .eq 11, 3) := by decide +kernel
theorem dX12_givesOut_18 : decode cX12_givesOut 18 = .ok (.aload_n 0, 1) := by decide +kernel
theorem dX12_givesOut_19 : decode cX12_givesOut 19 = .ok (.invokevirtual 186, 3) := by decide +kernel
theorem dX12_givesOut_22 : decode cX12_givesOut 22 = .ok (.istore_n 1, 1) := by decide +kernel
theorem dX12_givesOut_23 : decode cX12_givesOut 23 = .ok (.goto (-9), 3) := by decide +kernel
theorem dX12_givesOut_26 : decode cX12_givesOut 26 = .ok (.return_, 1) := by decide +kernel
theorem dX12_ends_0 : decode cX12_ends 0 = .ok (.iload_n 2, 1) := by decide +kernel
theorem dX12_ends_1 : decode cX12_ends 1 = .ok (.istore_n 3, 1) := by decide +kernel
theorem dX12_ends_2 : decode cX12_ends 2 = .ok (.iload_n 3, 1) := by decide +kernel
theorem dX12_ends_3 : decode cX12_ends 3 = .ok (.iconst (-1), 1) := by decide +kernel
theorem dX12_ends_4 : decode cX12_ends 4 = .ok (.if_icmp .eq 88, 3) := by decide +kernel
theorem dX12_ends_7 : decode cX12_ends 7 = .ok (.aload_n 0, 1) := by decide +kernel
theorem dX12_ends_8 : decode cX12_ends 8 = .ok (.getfield 31, 3) := by decide +kernel
theorem dX12_ends_11 : decode cX12_ends 11 = .ok (.iload_n 1, 1) := by decide +kernel
theorem dX12_ends_12 : decode cX12_ends 12 = .ok (.dup2, 1) := by decide +kernel
theorem dX12_ends_13 : decode cX12_ends 13 = .ok (.iaload, 1) := by decide +kernel
theorem dX12_ends_14 : decode cX12_ends 14 = .ok (.iconst 1, 1) := by decide +kernel
theorem dX12_ends_15 : decode cX12_ends 15 = .ok (.iload_n 3, 1) := by decide +kernel
theorem dX12_ends_16 : decode cX12_ends 16 = .ok (.ishl, 1) := by decide +kernel
theorem dX12_ends_17 : decode cX12_ends 17 = .ok (.iconst (-1), 1) := by decide +kernel
theorem dX12_ends_18 : decode cX12_ends 18 = .ok (.ixor, 1) := by decide +kernel
theorem dX12_ends_19 : decode cX12_ends 19 = .ok (.iand, 1) := by decide +kernel
theorem dX12_ends_20 : decode cX12_ends 20 = .ok (.iastore, 1) := by decide +kernel
theorem dX12_ends_21 : decode cX12_ends 21 = .ok (.aload_n 0, 1) := by decide +kernel
theorem dX12_ends_22 : decode cX12_ends 22 = .ok (.getfield 164, 3) := by decide +kernel
theorem dX12_ends_25 : decode cX12_ends 25 = .ok (.bipush 8, 2) := by decide +kernel
theorem dX12_ends_27 : decode cX12_ends 27 = .ok (.if_icmp .le 10, 3) := by decide +kernel
theorem dX12_ends_30 : decode cX12_ends 30 = .ok (.aload_n 0, 1) := by decide +kernel
theorem dX12_ends_31 : decode cX12_ends 31 = .ok (.iload_n 1, 1) := by decide +kernel
theorem dX12_ends_32 : decode cX12_ends 32 = .ok (.iload_n 3, 1) := by decide +kernel
theorem dX12_ends_33 : decode cX12_ends 33 = .ok (.iconst (-1), 1) := by decide +kernel
theorem dX12_ends_34 : decode cX12_ends 34 = .ok (.invokevirtual 190, 3) := by decide +kernel
theorem dX12_ends_37 : decode cX12_ends 37 = .ok (.iconst (-1), 1) := by decide +kernel
theorem dX12_ends_38 : decode cX12_ends 38 = .ok (.istore_n 3, 1) := by decide +kernel
theorem dX12_ends_39 : decode cX12_ends 39 = .ok (.aload_n 0, 1) := by decide +kernel
theorem dX12_ends_40 : decode cX12_ends 40 = .ok (.getfield 93, 3) := by decide +kernel
theorem dX12_ends_43 : decode cX12_ends 43 = .ok (.iconst 1, 1) := by decide +kernel
theorem dX12_ends_44 : decode cX12_ends 44 = .ok (.isub, 1) := by decide +kernel
theorem dX12_ends_45 : decode cX12_ends 45 = .ok (.istore 4, 2) := by decide +kernel
theorem dX12_ends_47 : decode cX12_ends 47 = .ok (.iload 4, 2) := by decide +kernel
theorem dX12_ends_49 : decode cX12_ends 49 = .ok (.ifCond .lt 40, 3) := by decide +kernel
theorem dX12_ends_52 : decode cX12_ends 52 = .ok (.aload_n 0, 1) := by decide +kernel
theorem dX12_ends_53 : decode cX12_ends 53 = .ok (.getfield 31, 3) := by decide +kernel
theorem dX12_ends_56 : decode cX12_ends 56 = .ok (.iload_n 1, 1) := by decide +kernel
theorem dX12_ends_57 : decode cX12_ends 57 = .ok (.iaload, 1) := by decide +kernel
theorem dX12_ends_58 : decode cX12_ends 58 = .ok (.iload 4, 2) := by decide +kernel
theorem dX12_ends_60 : decode cX12_ends 60 = .ok (.invokestatic 106, 3) := by decide +kernel
theorem dX12_ends_63 : decode cX12_ends 63 = .ok (.ifCond .eq 18, 3) := by decide +kernel
theorem dX12_ends_66 : decode cX12_ends 66 = .ok (.aload_n 0, 1) := by decide +kernel
theorem dX12_ends_67 : decode cX12_ends 67 = .ok (.iload_n 1, 1) := by decide +kernel
theorem dX12_ends_68 : decode cX12_ends 68 = .ok (.iload 4, 2) := by decide +kernel
theorem dX12_ends_70 : decode cX12_ends 70 = .ok (.invokevirtual 176, 3) := by decide +kernel
theorem dX12_ends_73 : decode cX12_ends 73 = .ok (.ifCond .ne 8, 3) := by decide +kernel
theorem dX12_ends_76 : decode cX12_ends 76 = .ok (.iload 4, 2) := by decide +kernel
theorem dX12_ends_78 : decode cX12_ends 78 = .ok (.goto 4, 3) := by decide +kernel
theorem dX12_ends_81 : decode cX12_ends 81 = .ok (.iload_n 3, 1) := by decide +kernel
theorem dX12_ends_82 : decode cX12_ends 82 = .ok (.istore_n 3, 1) := by decide +kernel
theorem dX12_ends_83 : decode cX12_ends 83 = .ok (.iinc 4 (-1), 3) := by decide +kernel
theorem dX12_ends_86 : decode cX12_ends 86 = .ok (.goto (-39), 3) := by decide +kernel
theorem dX12_ends_89 : decode cX12_ends 89 = .ok (.goto (-87), 3) := by decide +kernel
theorem dX12_ends_92 : decode cX12_ends 92 = .ok (.return_, 1) := by decide +kernel
theorem dX12_addCourse_0 : decode cX12_addCourse 0 = .ok (.aload_n 0, 1) := by decide +kernel
theorem dX12_addCourse_1 : decode cX12_addCourse 1 = .ok (.iload_n 1, 1) := by decide +kernel
theorem dX12_addCourse_2 : decode cX12_addCourse 2 = .ok (.iconst 1, 1) := by decide +kernel
theorem dX12_addCourse_3 : decode cX12_addCourse 3 = .ok (.bipush 6, 2) := by decide +kernel
theorem dX12_addCourse_5 : decode cX12_addCourse 5 = .ok (.invokestatic 96, 3) := by decide +kernel
theorem dX12_addCourse_8 : decode cX12_addCourse 8 = .ok (.ifCond .eq 13, 3) := by decide +kernel
theorem dX12_addCourse_11 : decode cX12_addCourse 11 = .ok (.iload_n 2, 1) := by decide +kernel
theorem dX12_addCourse_12 : decode cX12_addCourse 12 = .ok (.iconst 1, 1) := by decide +kernel
theorem dX12_addCourse_13 : decode cX12_addCourse 13 = .ok (.bipush 12, 2) := by decide +kernel
theorem dX12_addCourse_15 : decode cX12_addCourse 15 = .ok (.invokestatic 96, 3) := by decide +kernel
theorem dX12_addCourse_18 : decode cX12_addCourse 18 = .ok (.ifCond .ne 7, 3) := by decide +kernel
theorem dX12_addCourse_21 : decode cX12_addCourse 21 = .ok (.iconst 1, 1) := by decide +kernel
theorem dX12_addCourse_22 : decode cX12_addCourse 22 = .ok (.goto 17, 3) := by decide +kernel
theorem dX12_addCourse_25 : decode cX12_addCourse 25 = .ok (.aload_n 0, 1) := by decide +kernel
theorem dX12_addCourse_26 : decode cX12_addCourse 26 = .ok (.getfield 93, 3) := by decide +kernel
theorem dX12_addCourse_29 : decode cX12_addCourse 29 = .ok (.bipush 20, 2) := by decide +kernel
theorem dX12_addCourse_31 : decode cX12_addCourse 31 = .ok (.if_icmp .ne 7, 3) := by decide +kernel
theorem dX12_addCourse_34 : decode cX12_addCourse 34 = .ok (.iconst 2, 1) := by decide +kernel
theorem dX12_addCourse_35 : decode cX12_addCourse 35 = .ok (.goto 4, 3) := by decide +kernel
theorem dX12_addCourse_38 : decode cX12_addCourse 38 = .ok (.iconst 0, 1) := by decide +kernel
theorem dX12_addCourse_39 : decode cX12_addCourse 39 = .ok (.invokevirtual 144, 3) := by decide +kernel
theorem dX12_addCourse_42 : decode cX12_addCourse 42 = .ok (.ifCond .ne 5, 3) := by decide +kernel
theorem dX12_addCourse_45 : decode cX12_addCourse 45 = .ok (.iconst 0, 1) := by decide +kernel
theorem dX12_addCourse_46 : decode cX12_addCourse 46 = .ok (.ireturn, 1) := by decide +kernel
theorem dX12_addCourse_47 : decode cX12_addCourse 47 = .ok (.aload_n 0, 1) := by decide +kernel
theorem dX12_addCourse_48 : decode cX12_addCourse 48 = .ok (.getfield 9, 3) := by decide +kernel
theorem dX12_addCourse_51 : decode cX12_addCourse 51 = .ok (.aload_n 0, 1) := by decide +kernel
theorem dX12_addCourse_52 : decode cX12_addCourse 52 = .ok (.getfield 93, 3) := by decide +kernel
theorem dX12_addCourse_55 : decode cX12_addCourse 55 = .ok (.iload_n 1, 1) := by decide +kernel
theorem dX12_addCourse_56 : decode cX12_addCourse 56 = .ok (.iastore, 1) := by decide +kernel
theorem dX12_addCourse_57 : decode cX12_addCourse 57 = .ok (.aload_n 0, 1) := by decide +kernel
theorem dX12_addCourse_58 : decode cX12_addCourse 58 = .ok (.getfield 13, 3) := by decide +kernel
theorem dX12_addCourse_61 : decode cX12_addCourse 61 = .ok (.aload_n 0, 1) := by decide +kernel
theorem dX12_addCourse_62 : decode cX12_addCourse 62 = .ok (.getfield 93, 3) := by decide +kernel
theorem dX12_addCourse_65 : decode cX12_addCourse 65 = .ok (.iload_n 2, 1) := by decide +kernel
theorem dX12_addCourse_66 : decode cX12_addCourse 66 = .ok (.iastore, 1) := by decide +kernel
theorem dX12_addCourse_67 : decode cX12_addCourse 67 = .ok (.aload_n 0, 1) := by decide +kernel
theorem dX12_addCourse_68 : decode cX12_addCourse 68 = .ok (.getfield 19, 3) := by decide +kernel
theorem dX12_addCourse_71 : decode cX12_addCourse 71 = .ok (.aload_n 0, 1) := by decide +kernel
theorem dX12_addCourse_72 : decode cX12_addCourse 72 = .ok (.getfield 93, 3) := by decide +kernel
theorem dX12_addCourse_75 : decode cX12_addCourse 75 = .ok (.iconst (-1), 1) := by decide +kernel
theorem dX12_addCourse_76 : decode cX12_addCourse 76 = .ok (.iastore, 1) := by decide +kernel
theorem dX12_addCourse_77 : decode cX12_addCourse 77 = .ok (.aload_n 0, 1) := by decide +kernel
theorem dX12_addCourse_78 : decode cX12_addCourse 78 = .ok (.dup, 1) := by decide +kernel
theorem dX12_addCourse_79 : decode cX12_addCourse 79 = .ok (.getfield 93, 3) := by decide +kernel
theorem dX12_addCourse_82 : decode cX12_addCourse 82 = .ok (.iconst 1, 1) := by decide +kernel
theorem dX12_addCourse_83 : decode cX12_addCourse 83 = .ok (.iadd, 1) := by decide +kernel
theorem dX12_addCourse_84 : decode cX12_addCourse 84 = .ok (.putfield 93, 3) := by decide +kernel
theorem dX12_addCourse_87 : decode cX12_addCourse 87 = .ok (.aload_n 0, 1) := by decide +kernel
theorem dX12_addCourse_88 : decode cX12_addCourse 88 = .ok (.getfield 93, 3) := by decide +kernel
theorem dX12_addCourse_91 : decode cX12_addCourse 91 = .ok (.iconst 1, 1) := by decide +kernel
theorem dX12_addCourse_92 : decode cX12_addCourse 92 = .ok (.isub, 1) := by decide +kernel
theorem dX12_addCourse_93 : decode cX12_addCourse 93 = .ok (.ireturn, 1) := by decide +kernel
theorem dX12_addStudent_0 : decode cX12_addStudent 0 = .ok (.aload_n 0, 1) := by decide +kernel
theorem dX12_addStudent_1 : decode cX12_addStudent 1 = .ok (.iload_n 1, 1) := by decide +kernel
theorem dX12_addStudent_2 : decode cX12_addStudent 2 = .ok (.iconst 0, 1) := by decide +kernel
theorem dX12_addStudent_3 : decode cX12_addStudent 3 = .ok (.iconst 3, 1) := by decide +kernel
theorem dX12_addStudent_4 : decode cX12_addStudent 4 = .ok (.invokestatic 96, 3) := by decide +kernel
theorem dX12_addStudent_7 : decode cX12_addStudent 7 = .ok (.ifCond .ne 7, 3) := by decide +kernel
theorem dX12_addStudent_10 : decode cX12_addStudent 10 = .ok (.iconst 1, 1) := by decide +kernel
theorem dX12_addStudent_11 : decode cX12_addStudent 11 = .ok (.goto 17, 3) := by decide +kernel
theorem dX12_addStudent_14 : decode cX12_addStudent 14 = .ok (.aload_n 0, 1) := by decide +kernel
theorem dX12_addStudent_15 : decode cX12_addStudent 15 = .ok (.getfield 100, 3) := by decide +kernel
theorem dX12_addStudent_18 : decode cX12_addStudent 18 = .ok (.bipush 16, 2) := by decide +kernel
theorem dX12_addStudent_20 : decode cX12_addStudent 20 = .ok (.if_icmp .ne 7, 3) := by decide +kernel
theorem dX12_addStudent_23 : decode cX12_addStudent 23 = .ok (.iconst 2, 1) := by decide +kernel
theorem dX12_addStudent_24 : decode cX12_addStudent 24 = .ok (.goto 4, 3) := by decide +kernel
theorem dX12_addStudent_27 : decode cX12_addStudent 27 = .ok (.iconst 0, 1) := by decide +kernel
theorem dX12_addStudent_28 : decode cX12_addStudent 28 = .ok (.invokevirtual 144, 3) := by decide +kernel
theorem dX12_addStudent_31 : decode cX12_addStudent 31 = .ok (.ifCond .ne 5, 3) := by decide +kernel
theorem dX12_addStudent_34 : decode cX12_addStudent 34 = .ok (.iconst 0, 1) := by decide +kernel
theorem dX12_addStudent_35 : decode cX12_addStudent 35 = .ok (.ireturn, 1) := by decide +kernel
theorem dX12_addStudent_36 : decode cX12_addStudent 36 = .ok (.aload_n 0, 1) := by decide +kernel
theorem dX12_addStudent_37 : decode cX12_addStudent 37 = .ok (.getfield 28, 3) := by decide +kernel
theorem dX12_addStudent_40 : decode cX12_addStudent 40 = .ok (.aload_n 0, 1) := by decide +kernel
theorem dX12_addStudent_41 : decode cX12_addStudent 41 = .ok (.getfield 100, 3) := by decide +kernel
theorem dX12_addStudent_44 : decode cX12_addStudent 44 = .ok (.iload_n 1, 1) := by decide +kernel
theorem dX12_addStudent_45 : decode cX12_addStudent 45 = .ok (.iastore, 1) := by decide +kernel
theorem dX12_addStudent_46 : decode cX12_addStudent 46 = .ok (.aload_n 0, 1) := by decide +kernel
theorem dX12_addStudent_47 : decode cX12_addStudent 47 = .ok (.dup, 1) := by decide +kernel
theorem dX12_addStudent_48 : decode cX12_addStudent 48 = .ok (.getfield 100, 3) := by decide +kernel
theorem dX12_addStudent_51 : decode cX12_addStudent 51 = .ok (.iconst 1, 1) := by decide +kernel
theorem dX12_addStudent_52 : decode cX12_addStudent 52 = .ok (.iadd, 1) := by decide +kernel
theorem dX12_addStudent_53 : decode cX12_addStudent 53 = .ok (.putfield 100, 3) := by decide +kernel
theorem dX12_addStudent_56 : decode cX12_addStudent 56 = .ok (.aload_n 0, 1) := by decide +kernel
theorem dX12_addStudent_57 : decode cX12_addStudent 57 = .ok (.getfield 100, 3) := by decide +kernel
theorem dX12_addStudent_60 : decode cX12_addStudent 60 = .ok (.iconst 1, 1) := by decide +kernel
theorem dX12_addStudent_61 : decode cX12_addStudent 61 = .ok (.isub, 1) := by decide +kernel
theorem dX12_addStudent_62 : decode cX12_addStudent 62 = .ok (.ireturn, 1) := by decide +kernel
theorem dX12_changeMajor_0 : decode cX12_changeMajor 0 = .ok (.aload_n 0, 1) := by decide +kernel
theorem dX12_changeMajor_1 : decode cX12_changeMajor 1 = .ok (.aload_n 0, 1) := by decide +kernel
theorem dX12_changeMajor_2 : decode cX12_changeMajor 2 = .ok (.iload_n 1, 1) := by decide +kernel
theorem dX12_changeMajor_3 : decode cX12_changeMajor 3 = .ok (.invokevirtual 158, 3) := by decide +kernel
theorem dX12_changeMajor_6 : decode cX12_changeMajor 6 = .ok (.ifCond .ne 7, 3) := by decide +kernel
theorem dX12_changeMajor_9 : decode cX12_changeMajor 9 = .ok (.iconst 1, 1) := by decide +kernel
theorem dX12_changeMajor_10 : decode cX12_changeMajor 10 = .ok (.goto 17, 3) := by decide +kernel
theorem dX12_changeMajor_13 : decode cX12_changeMajor 13 = .ok (.iload_n 2, 1) := by decide +kernel
theorem dX12_changeMajor_14 : decode cX12_changeMajor 14 = .ok (.iconst 0, 1) := by decide +kernel
theorem dX12_changeMajor_15 : decode cX12_changeMajor 15 = .ok (.iconst 3, 1) := by decide +kernel
theorem dX12_changeMajor_16 : decode cX12_changeMajor 16 = .ok (.invokestatic 96, 3) := by decide +kernel
theorem dX12_changeMajor_19 : decode cX12_changeMajor 19 = .ok (.ifCond .ne 7, 3) := by decide +kernel
theorem dX12_changeMajor_22 : decode cX12_changeMajor 22 = .ok (.iconst 2, 1) := by decide +kernel
theorem dX12_changeMajor_23 : decode cX12_changeMajor 23 = .ok (.goto 4, 3) := by decide +kernel
theorem dX12_changeMajor_26 : decode cX12_changeMajor 26 = .ok (.iconst 0, 1) := by decide +kernel
theorem dX12_changeMajor_27 : decode cX12_changeMajor 27 = .ok (.invokevirtual 144, 3) := by decide +kernel
theorem dX12_changeMajor_30 : decode cX12_changeMajor 30 = .ok (.ifCond .ne 5, 3) := by decide +kernel
theorem dX12_changeMajor_33 : decode cX12_changeMajor 33 = .ok (.iconst 0, 1) := by decide +kernel
theorem dX12_changeMajor_34 : decode cX12_changeMajor 34 = .ok (.ireturn, 1) := by decide +kernel
theorem dX12_changeMajor_35 : decode cX12_changeMajor 35 = .ok (.aload_n 0, 1) := by decide +kernel
theorem dX12_changeMajor_36 : decode cX12_changeMajor 36 = .ok (.getfield 28, 3) := by decide +kernel
theorem dX12_changeMajor_39 : decode cX12_changeMajor 39 = .ok (.iload_n 1, 1) := by decide +kernel
theorem dX12_changeMajor_40 : decode cX12_changeMajor 40 = .ok (.iaload, 1) := by decide +kernel
theorem dX12_changeMajor_41 : decode cX12_changeMajor 41 = .ok (.istore_n 3, 1) := by decide +kernel
theorem dX12_changeMajor_42 : decode cX12_changeMajor 42 = .ok (.aload_n 0, 1) := by decide +kernel
theorem dX12_changeMajor_43 : decode cX12_changeMajor 43 = .ok (.getfield 28, 3) := by decide +kernel
theorem dX12_changeMajor_46 : decode cX12_changeMajor 46 = .ok (.iload_n 1, 1) := by decide +kernel
theorem dX12_changeMajor_47 : decode cX12_changeMajor 47 = .ok (.iload_n 2, 1) := by decide +kernel
theorem dX12_changeMajor_48 : decode cX12_changeMajor 48 = .ok (.iastore, 1) := by decide +kernel
theorem dX12_changeMajor_49 : decode cX12_changeMajor 49 = .ok (.aload_n 0, 1) := by decide +kernel
theorem dX12_changeMajor_50 : decode cX12_changeMajor 50 = .ok (.invokevirtual 193, 3) := by decide +kernel
theorem dX12_changeMajor_53 : decode cX12_changeMajor 53 = .ok (.iload_n 3, 1) := by decide +kernel
theorem dX12_changeMajor_54 : decode cX12_changeMajor 54 = .ok (.ireturn, 1) := by decide +kernel
theorem dX12_majorOf_0 : decode cX12_majorOf 0 = .ok (.aload_n 0, 1) := by decide +kernel
theorem dX12_majorOf_1 : decode cX12_majorOf 1 = .ok (.aload_n 0, 1) := by decide +kernel
theorem dX12_majorOf_2 : decode cX12_majorOf 2 = .ok (.iload_n 1, 1) := by decide +kernel
theorem dX12_majorOf_3 : decode cX12_majorOf 3 = .ok (.invokevirtual 158, 3) := by decide +kernel
theorem dX12_majorOf_6 : decode cX12_majorOf 6 = .ok (.ifCond .eq 7, 3) := by decide +kernel
theorem dX12_majorOf_9 : decode cX12_majorOf 9 = .ok (.iconst 0, 1) := by decide +kernel
theorem dX12_majorOf_10 : decode cX12_majorOf 10 = .ok (.goto 4, 3) := by decide +kernel
theorem dX12_majorOf_13 : decode cX12_majorOf 13 = .ok (.iconst 1, 1) := by decide +kernel
theorem dX12_majorOf_14 : decode cX12_majorOf 14 = .ok (.invokevirtual 144, 3) := by decide +kernel
theorem dX12_majorOf_17 : decode cX12_majorOf 17 = .ok (.ifCond .eq 12, 3) := by decide +kernel
theorem dX12_majorOf_20 : decode cX12_majorOf 20 = .ok (.aload_n 0, 1) := by decide +kernel
theorem dX12_majorOf_21 : decode cX12_majorOf 21 = .ok (.getfield 28, 3) := by decide +kernel
theorem dX12_majorOf_24 : decode cX12_majorOf 24 = .ok (.iload_n 1, 1) := by decide +kernel
theorem dX12_majorOf_25 : decode cX12_majorOf 25 = .ok (.iaload, 1) := by decide +kernel
theorem dX12_majorOf_26 : decode cX12_majorOf 26 = .ok (.goto 4, 3) := by decide +kernel
theorem dX12_majorOf_29 : decode cX12_majorOf 29 = .ok (.iconst 0, 1) := by decide +kernel
theorem dX12_majorOf_30 : decode cX12_majorOf 30 = .ok (.ireturn, 1) := by decide +kernel
theorem dX12_reservedForOthers_0 : decode cX12_reservedForOthers 0 = .ok (.iconst 0, 1) := by decide +kernel
theorem dX12_reservedForOthers_1 : decode cX12_reservedForOthers 1 = .ok (.istore_n 3, 1) := by decide +kernel
theorem dX12_reservedForOthers_2 : decode cX12_reservedForOthers 2 = .ok (.iconst 0, 1) := by decide +kernel
theorem dX12_reservedForOthers_3 : decode cX12_reservedForOthers 3 = .ok (.istore 4, 2) := by decide +kernel
theorem dX12_reservedForOthers_5 : decode cX12_reservedForOthers 5 = .ok (.iload 4, 2) := by decide +kernel
theorem dX12_reservedForOthers_7 : decode cX12_reservedForOthers 7 = .ok (.iconst 4, 1) := by decide +kernel
theorem dX12_reservedForOthers_8 : decode cX12_reservedForOthers 8 = .ok (.if_icmp .ge 33, 3) := by decide +kernel
theorem dX12_reservedForOthers_11 : decode cX12_reservedForOthers 11 = .ok (.iload_n 3, 1) := by decide +kernel
theorem dX12_reservedForOthers_12 : decode cX12_reservedForOthers 12 = .ok (.iload 4, 2) := by decide +kernel
theorem dX12_reservedForOthers_14 : decode cX12_reservedForOthers 14 = .ok (.iload_n 2, 1) := by decide +kernel
theorem dX12_reservedForOthers_15 : decode cX12_reservedForOthers 15 = .ok (.if_icmp .ne 7, 3) := by decide +kernel
theorem dX12_reservedForOthers_18 : decode cX12_reservedForOthers 18 = .ok (.iconst 0, 1) := by decide +kernel
theorem dX12_reservedForOthers_19 : decode cX12_reservedForOthers 19 = .ok (.goto 14, 3) := by decide +kernel
theorem dX12_reservedForOthers_22 : decode cX12_reservedForOthers 22 = .ok (.aload_n 0, 1) := by decide +kernel
theorem dX12_reservedForOthers_23 : decode cX12_reservedForOthers 23 = .ok (.getfield 16, 3) := by decide +kernel
theorem dX12_reservedForOthers_26 : decode cX12_reservedForOthers 26 = .ok (.iconst 4, 1) := by decide +kernel
theorem dX12_reservedForOthers_27 : decode cX12_reservedForOthers 27 = .ok (.iload_n 1, 1) := by decide +kernel
theorem dX12_reservedForOthers_28 : decode cX12_reservedForOthers 28 = .ok (.imul, 1) := by decide +kernel
theorem dX12_reservedForOthers_29 : decode cX12_reservedForOthers 29 = .ok (.iload 4, 2) := by decide +kernel
theorem dX12_reservedForOthers_31 : decode cX12_reservedForOthers 31 = .ok (.iadd, 1) := by decide +kernel
theorem dX12_reservedForOthers_32 : decode cX12_reservedForOthers 32 = .ok (.iaload, 1) := by decide +kernel
theorem dX12_reservedForOthers_33 : decode cX12_reservedForOthers 33 = .ok (.iadd, 1) := by decide +kernel
theorem dX12_reservedForOthers_34 : decode cX12_reservedForOthers 34 = .ok (.istore_n 3, 1) := by decide +kernel
theorem dX12_reservedForOthers_35 : decode cX12_reservedForOthers 35 = .ok (.iinc 4 1, 3) := by decide +kernel
theorem dX12_reservedForOthers_38 : decode cX12_reservedForOthers 38 = .ok (.goto (-33), 3) := by decide +kernel
theorem dX12_reservedForOthers_41 : decode cX12_reservedForOthers 41 = .ok (.iload_n 3, 1) := by decide +kernel
theorem dX12_reservedForOthers_42 : decode cX12_reservedForOthers 42 = .ok (.ireturn, 1) := by decide +kernel
theorem dX12_reserve_0 : decode cX12_reserve 0 = .ok (.aload_n 0, 1) := by decide +kernel
theorem dX12_reserve_1 : decode cX12_reserve 1 = .ok (.iload_n 1, 1) := by decide +kernel
theorem dX12_reserve_2 : decode cX12_reserve 2 = .ok (.invokevirtual 151, 3) := by decide +kernel
theorem dX12_reserve_5 : decode cX12_reserve 5 = .ok (.ifCond .ne 7, 3) := by decide +kernel
theorem dX12_reserve_8 : decode cX12_reserve 8 = .ok (.iconst 1, 1) := by decide +kernel
theorem dX12_reserve_9 : decode cX12_reserve 9 = .ok (.goto 21, 3) := by decide +kernel
theorem dX12_reserve_12 : decode cX12_reserve 12 = .ok (.iload_n 2, 1) := by decide +kernel
theorem dX12_reserve_13 : decode cX12_reserve 13 = .ok (.iconst 0, 1) := by decide +kernel
theorem dX12_reserve_14 : decode cX12_reserve 14 = .ok (.iconst 3, 1) := by decide +kernel
theorem dX12_reserve_15 : decode cX12_reserve 15 = .ok (.invokestatic 96, 3) := by decide +kernel
theorem dX12_reserve_18 : decode cX12_reserve 18 = .ok (.ifCond .eq 7, 3) := by decide +kernel
theorem dX12_reserve_21 : decode cX12_reserve 21 = .ok (.iload_n 3, 1) := by decide +kernel
theorem dX12_reserve_22 : decode cX12_reserve 22 = .ok (.ifCond .ge 7, 3) := by decide +kernel
theorem dX12_reserve_25 : decode cX12_reserve 25 = .ok (.iconst 2, 1) := by decide +kernel
theorem dX12_reserve_26 : decode cX12_reserve 26 = .ok (.goto 4, 3) := by decide +kernel
theorem dX12_reserve_29 : decode cX12_reserve 29 = .ok (.iconst 0, 1) := by decide +kernel
theorem dX12_reserve_30 : decode cX12_reserve 30 = .ok (.istore 4, 2) := by decide +kernel
theorem dX12_reserve_32 : decode cX12_reserve 32 = .ok (.iload 4, 2) := by decide +kernel
theorem dX12_reserve_34 : decode cX12_reserve 34 = .ok (.ifCond .ne 24, 3) := by decide +kernel
theorem dX12_reserve_37 : decode cX12_reserve 37 = .ok (.iload_n 3, 1) := by decide +kernel
theorem dX12_reserve_38 : decode cX12_reserve 38 = .ok (.aload_n 0, 1) := by decide +kernel
theorem dX12_reserve_39 : decode cX12_reserve 39 = .ok (.getfield 13, 3) := by decide +kernel
theorem dX12_reserve_42 : decode cX12_reserve 42 = .ok (.iload_n 1, 1) := by decide +kernel
theorem dX12_reserve_43 : decode cX12_reserve 43 = .ok (.iaload, 1) := by decide +kernel
theorem dX12_reserve_44 : decode cX12_reserve 44 = .ok (.aload_n 0, 1) := by decide +kernel
theorem dX12_reserve_45 : decode cX12_reserve 45 = .ok (.iload_n 1, 1) := by decide +kernel
theorem dX12_reserve_46 : decode cX12_reserve 46 = .ok (.iload_n 2, 1) := by decide +kernel
theorem dX12_reserve_47 : decode cX12_reserve 47 = .ok (.invokevirtual 196, 3) := by decide +kernel
theorem dX12_reserve_50 : decode cX12_reserve 50 = .ok (.isub, 1) := by decide +kernel
theorem dX12_reserve_51 : decode cX12_reserve 51 = .ok (.if_icmp .le 7, 3) := by decide +kernel
theorem dX12_reserve_54 : decode cX12_reserve 54 = .ok (.iconst 3, 1) := by decide +kernel
theorem dX12_reserve_55 : decode cX12_reserve 55 = .ok (.goto 5, 3) := by decide +kernel
theorem dX12_reserve_58 : decode cX12_reserve 58 = .ok (.iload 4, 2) := by decide +kernel
theorem dX12_reserve_60 : decode cX12_reserve 60 = .ok (.istore 4, 2) := by decide +kernel
theorem dX12_reserve_62 : decode cX12_reserve 62 = .ok (.aload_n 0, 1) := by decide +kernel
theorem dX12_reserve_63 : decode cX12_reserve 63 = .ok (.iload 4, 2) := by decide +kernel
theorem dX12_reserve_65 : decode cX12_reserve 65 = .ok (.invokevirtual 144, 3) := by decide +kernel
theorem dX12_reserve_68 : decode cX12_reserve 68 = .ok (.ifCond .ne 5, 3) := by decide +kernel
theorem dX12_reserve_71 : decode cX12_reserve 71 = .ok (.iconst 0, 1) := by decide +kernel
theorem dX12_reserve_72 : decode cX12_reserve 72 = .ok (.ireturn, 1) := by decide +kernel
theorem dX12_reserve_73 : decode cX12_reserve 73 = .ok (.aload_n 0, 1) := by decide +kernel
theorem dX12_reserve_74 : decode cX12_reserve 74 = .ok (.getfield 16, 3) := by decide +kernel
theorem dX12_reserve_77 : decode cX12_reserve 77 = .ok (.iconst 4, 1) := by decide +kernel
theorem dX12_reserve_78 : decode cX12_reserve 78 = .ok (.iload_n 1, 1) := by decide +kernel
theorem dX12_reserve_79 : decode cX12_reserve 79 = .ok (.imul, 1) := by decide +kernel
theorem dX12_reserve_80 : decode cX12_reserve 80 = .ok (.iload_n 2, 1) := by decide +kernel
theorem dX12_reserve_81 : decode cX12_reserve 81 = .ok (.iadd, 1) := by decide +kernel
theorem dX12_reserve_82 : decode cX12_reserve 82 = .ok (.iaload, 1) := by decide +kernel
theorem dX12_reserve_83 : decode cX12_reserve 83 = .ok (.istore 5, 2) := by decide +kernel
theorem dX12_reserve_85 : decode cX12_reserve 85 = .ok (.aload_n 0, 1) := by decide +kernel
theorem dX12_reserve_86 : decode cX12_reserve 86 = .ok (.getfield 16, 3) := by decide +kernel
theorem dX12_reserve_89 : decode cX12_reserve 89 = .ok (.iconst 4, 1) := by decide +kernel
theorem dX12_reserve_90 : decode cX12_reserve 90 = .ok (.iload_n 1, 1) := by decide +kernel
theorem dX12_reserve_91 : decode cX12_reserve 91 = .ok (.imul, 1) := by decide +kernel
theorem dX12_reserve_92 : decode cX12_reserve 92 = .ok (.iload_n 2, 1) := by decide +kernel
theorem dX12_reserve_93 : decode cX12_reserve 93 = .ok (.iadd, 1) := by decide +kernel
theorem dX12_reserve_94 : decode cX12_reserve 94 = .ok (.iload_n 3, 1) := by decide +kernel
theorem dX12_reserve_95 : decode cX12_reserve 95 = .ok (.iastore, 1) := by decide +kernel
theorem dX12_reserve_96 : decode cX12_reserve 96 = .ok (.aload_n 0, 1) := by decide +kernel
theorem dX12_reserve_97 : decode cX12_reserve 97 = .ok (.invokevirtual 193, 3) := by decide +kernel
theorem dX12_reserve_100 : decode cX12_reserve 100 = .ok (.iload 5, 2) := by decide +kernel
theorem dX12_reserve_102 : decode cX12_reserve 102 = .ok (.ireturn, 1) := by decide +kernel
theorem dX12_require_0 : decode cX12_require 0 = .ok (.aload_n 0, 1) := by decide +kernel
theorem dX12_require_1 : decode cX12_require 1 = .ok (.aload_n 0, 1) := by decide +kernel
theorem dX12_require_2 : decode cX12_require 2 = .ok (.iload_n 1, 1) := by decide +kernel
theorem dX12_require_3 : decode cX12_require 3 = .ok (.invokevirtual 151, 3) := by decide +kernel
theorem dX12_require_6 : decode cX12_require 6 = .ok (.ifCond .ne 7, 3) := by decide +kernel
theorem dX12_require_9 : decode cX12_require 9 = .ok (.iconst 1, 1) := by decide +kernel
theorem dX12_require_10 : decode cX12_require 10 = .ok (.goto 16, 3) := by decide +kernel
theorem dX12_require_13 : decode cX12_require 13 = .ok (.aload_n 0, 1) := by decide +kernel
theorem dX12_require_14 : decode cX12_require 14 = .ok (.iload_n 2, 1) := by decide +kernel
theorem dX12_require_15 : decode cX12_require 15 = .ok (.invokevirtual 136, 3) := by decide +kernel
theorem dX12_require_18 : decode cX12_require 18 = .ok (.ifCond .ne 7, 3) := by decide +kernel
theorem dX12_require_21 : decode cX12_require 21 = .ok (.iconst 2, 1) := by decide +kernel
theorem dX12_require_22 : decode cX12_require 22 = .ok (.goto 4, 3) := by decide +kernel
theorem dX12_require_25 : decode cX12_require 25 = .ok (.iconst 0, 1) := by decide +kernel
theorem dX12_require_26 : decode cX12_require 26 = .ok (.invokevirtual 144, 3) := by decide +kernel
theorem dX12_require_29 : decode cX12_require 29 = .ok (.ifCond .ne 5, 3) := by decide +kernel
theorem dX12_require_32 : decode cX12_require 32 = .ok (.iconst 0, 1) := by decide +kernel
theorem dX12_require_33 : decode cX12_require 33 = .ok (.ireturn, 1) := by decide +kernel
theorem dX12_require_34 : decode cX12_require 34 = .ok (.aload_n 0, 1) := by decide +kernel
theorem dX12_require_35 : decode cX12_require 35 = .ok (.getfield 19, 3) := by decide +kernel
theorem dX12_require_38 : decode cX12_require 38 = .ok (.iload_n 1, 1) := by decide +kernel
theorem dX12_require_39 : decode cX12_require 39 = .ok (.iaload, 1) := by decide +kernel
theorem dX12_require_40 : decode cX12_require 40 = .ok (.iconst (-1), 1) := by decide +kernel
theorem dX12_require_41 : decode cX12_require 41 = .ok (.if_icmp .eq 7, 3) := by decide +kernel
theorem dX12_require_44 : decode cX12_require 44 = .ok (.iconst 1, 1) := by decide +kernel
theorem dX12_require_45 : decode cX12_require 45 = .ok (.goto 4, 3) := by decide +kernel
theorem dX12_require_48 : decode cX12_require 48 = .ok (.iconst 0, 1) := by decide +kernel
theorem dX12_require_49 : decode cX12_require 49 = .ok (.istore_n 3, 1) := by decide +kernel
theorem dX12_require_50 : decode cX12_require 50 = .ok (.aload_n 0, 1) := by decide +kernel
theorem dX12_require_51 : decode cX12_require 51 = .ok (.getfield 19, 3) := by decide +kernel
theorem dX12_require_54 : decode cX12_require 54 = .ok (.iload_n 1, 1) := by decide +kernel
theorem dX12_require_55 : decode cX12_require 55 = .ok (.iload_n 2, 1) := by decide +kernel
theorem dX12_require_56 : decode cX12_require 56 = .ok (.iastore, 1) := by decide +kernel
theorem dX12_require_57 : decode cX12_require 57 = .ok (.aload_n 0, 1) := by decide +kernel
theorem dX12_require_58 : decode cX12_require 58 = .ok (.invokevirtual 193, 3) := by decide +kernel
theorem dX12_require_61 : decode cX12_require 61 = .ok (.iload_n 3, 1) := by decide +kernel
theorem dX12_require_62 : decode cX12_require 62 = .ok (.ireturn, 1) := by decide +kernel
theorem dX12_lift_0 : decode cX12_lift 0 = .ok (.aload_n 0, 1) := by decide +kernel
theorem dX12_lift_1 : decode cX12_lift 1 = .ok (.aload_n 0, 1) := by decide +kernel
theorem dX12_lift_2 : decode cX12_lift 2 = .ok (.iload_n 1, 1) := by decide +kernel
theorem dX12_lift_3 : decode cX12_lift 3 = .ok (.invokevirtual 151, 3) := by decide +kernel
theorem dX12_lift_6 : decode cX12_lift 6 = .ok (.ifCond .eq 7, 3) := by decide +kernel
theorem dX12_lift_9 : decode cX12_lift 9 = .ok (.iconst 0, 1) := by decide +kernel
theorem dX12_lift_10 : decode cX12_lift 10 = .ok (.goto 4, 3) := by decide +kernel
theorem dX12_lift_13 : decode cX12_lift 13 = .ok (.iconst 1, 1) := by decide +kernel
theorem dX12_lift_14 : decode cX12_lift 14 = .ok (.invokevirtual 144, 3) := by decide +kernel
theorem dX12_lift_17 : decode cX12_lift 17 = .ok (.ifCond .ne 5, 3) := by decide +kernel
theorem dX12_lift_20 : decode cX12_lift 20 = .ok (.iconst 0, 1) := by decide +kernel
theorem dX12_lift_21 : decode cX12_lift 21 = .ok (.ireturn, 1) := by decide +kernel
theorem dX12_lift_22 : decode cX12_lift 22 = .ok (.aload_n 0, 1) := by decide +kernel
theorem dX12_lift_23 : decode cX12_lift 23 = .ok (.getfield 19, 3) := by decide +kernel
theorem dX12_lift_26 : decode cX12_lift 26 = .ok (.iload_n 1, 1) := by decide +kernel
theorem dX12_lift_27 : decode cX12_lift 27 = .ok (.iaload, 1) := by decide +kernel
theorem dX12_lift_28 : decode cX12_lift 28 = .ok (.iconst (-1), 1) := by decide +kernel
theorem dX12_lift_29 : decode cX12_lift 29 = .ok (.if_icmp .eq 7, 3) := by decide +kernel
theorem dX12_lift_32 : decode cX12_lift 32 = .ok (.iconst 1, 1) := by decide +kernel
theorem dX12_lift_33 : decode cX12_lift 33 = .ok (.goto 4, 3) := by decide +kernel
theorem dX12_lift_36 : decode cX12_lift 36 = .ok (.iconst 0, 1) := by decide +kernel
theorem dX12_lift_37 : decode cX12_lift 37 = .ok (.istore_n 2, 1) := by decide +kernel
theorem dX12_lift_38 : decode cX12_lift 38 = .ok (.aload_n 0, 1) := by decide +kernel
theorem dX12_lift_39 : decode cX12_lift 39 = .ok (.getfield 19, 3) := by decide +kernel
theorem dX12_lift_42 : decode cX12_lift 42 = .ok (.iload_n 1, 1) := by decide +kernel
theorem dX12_lift_43 : decode cX12_lift 43 = .ok (.iconst (-1), 1) := by decide +kernel
theorem dX12_lift_44 : decode cX12_lift 44 = .ok (.iastore, 1) := by decide +kernel
theorem dX12_lift_45 : decode cX12_lift 45 = .ok (.aload_n 0, 1) := by decide +kernel
theorem dX12_lift_46 : decode cX12_lift 46 = .ok (.invokevirtual 193, 3) := by decide +kernel
theorem dX12_lift_49 : decode cX12_lift 49 = .ok (.iload_n 2, 1) := by decide +kernel
theorem dX12_lift_50 : decode cX12_lift 50 = .ok (.ireturn, 1) := by decide +kernel
theorem dX12_pass_0 : decode cX12_pass 0 = .ok (.aload_n 0, 1) := by decide +kernel
theorem dX12_pass_1 : decode cX12_pass 1 = .ok (.iload_n 1, 1) := by decide +kernel
theorem dX12_pass_2 : decode cX12_pass 2 = .ok (.iconst 1, 1) := by decide +kernel
theorem dX12_pass_3 : decode cX12_pass 3 = .ok (.if_icmp .ge 7, 3) := by decide +kernel
theorem dX12_pass_6 : decode cX12_pass 6 = .ok (.iconst 1, 1) := by decide +kernel
theorem dX12_pass_7 : decode cX12_pass 7 = .ok (.goto 19, 3) := by decide +kernel
theorem dX12_pass_10 : decode cX12_pass 10 = .ok (.iload_n 1, 1) := by decide +kernel
theorem dX12_pass_11 : decode cX12_pass 11 = .ok (.bipush 30, 2) := by decide +kernel
theorem dX12_pass_13 : decode cX12_pass 13 = .ok (.aload_n 0, 1) := by decide +kernel
theorem dX12_pass_14 : decode cX12_pass 14 = .ok (.getfield 164, 3) := by decide +kernel
theorem dX12_pass_17 : decode cX12_pass 17 = .ok (.isub, 1) := by decide +kernel
theorem dX12_pass_18 : decode cX12_pass 18 = .ok (.if_icmp .le 7, 3) := by decide +kernel
theorem dX12_pass_21 : decode cX12_pass 21 = .ok (.iconst 2, 1) := by decide +kernel
theorem dX12_pass_22 : decode cX12_pass 22 = .ok (.goto 4, 3) := by decide +kernel
theorem dX12_pass_25 : decode cX12_pass 25 = .ok (.iconst 0, 1) := by decide +kernel
theorem dX12_pass_26 : decode cX12_pass 26 = .ok (.invokevirtual 144, 3) := by decide +kernel
theorem dX12_pass_29 : decode cX12_pass 29 = .ok (.ifCond .ne 5, 3) := by decide +kernel
theorem dX12_pass_32 : decode cX12_pass 32 = .ok (.iconst 0, 1) := by decide +kernel
theorem dX12_pass_33 : decode cX12_pass 33 = .ok (.ireturn, 1) := by decide +kernel
theorem dX12_pass_34 : decode cX12_pass 34 = .ok (.iconst 0, 1) := by decide +kernel
theorem dX12_pass_35 : decode cX12_pass 35 = .ok (.istore_n 2, 1) := by decide +kernel
theorem dX12_pass_36 : decode cX12_pass 36 = .ok (.iload_n 2, 1) := by decide +kernel
theorem dX12_pass_37 : decode cX12_pass 37 = .ok (.iload_n 1, 1) := by decide +kernel
theorem dX12_pass_38 : decode cX12_pass 38 = .ok (.if_icmp .ge 55, 3) := by decide +kernel
theorem dX12_pass_41 : decode cX12_pass 41 = .ok (.aload_n 0, 1) := by decide +kernel
theorem dX12_pass_42 : decode cX12_pass 42 = .ok (.dup, 1) := by decide +kernel
theorem dX12_pass_43 : decode cX12_pass 43 = .ok (.getfield 164, 3) := by decide +kernel
theorem dX12_pass_46 : decode cX12_pass 46 = .ok (.iconst 1, 1) := by decide +kernel
theorem dX12_pass_47 : decode cX12_pass 47 = .ok (.iadd, 1) := by decide +kernel
theorem dX12_pass_48 : decode cX12_pass 48 = .ok (.putfield 164, 3) := by decide +kernel
theorem dX12_pass_51 : decode cX12_pass 51 = .ok (.iconst 0, 1) := by decide +kernel
theorem dX12_pass_52 : decode cX12_pass 52 = .ok (.istore_n 3, 1) := by decide +kernel
theorem dX12_pass_53 : decode cX12_pass 53 = .ok (.iload_n 3, 1) := by decide +kernel
theorem dX12_pass_54 : decode cX12_pass 54 = .ok (.aload_n 0, 1) := by decide +kernel
theorem dX12_pass_55 : decode cX12_pass 55 = .ok (.getfield 93, 3) := by decide +kernel
theorem dX12_pass_58 : decode cX12_pass 58 = .ok (.if_icmp .ge 25, 3) := by decide +kernel
theorem dX12_pass_61 : decode cX12_pass 61 = .ok (.aload_n 0, 1) := by decide +kernel
theorem dX12_pass_62 : decode cX12_pass 62 = .ok (.getfield 164, 3) := by decide +kernel
theorem dX12_pass_65 : decode cX12_pass 65 = .ok (.bipush 6, 2) := by decide +kernel
theorem dX12_pass_67 : decode cX12_pass 67 = .ok (.if_icmp .ne 16, 3) := by decide +kernel
theorem dX12_pass_70 : decode cX12_pass 70 = .ok (.aload_n 0, 1) := by decide +kernel
theorem dX12_pass_71 : decode cX12_pass 71 = .ok (.getfield 22, 3) := by decide +kernel
theorem dX12_pass_74 : decode cX12_pass 74 = .ok (.iload_n 3, 1) := by decide +kernel
theorem dX12_pass_75 : decode cX12_pass 75 = .ok (.iconst 0, 1) := by decide +kernel
theorem dX12_pass_76 : decode cX12_pass 76 = .ok (.iastore, 1) := by decide +kernel
theorem dX12_pass_77 : decode cX12_pass 77 = .ok (.iinc 3 1, 3) := by decide +kernel
theorem dX12_pass_80 : decode cX12_pass 80 = .ok (.goto (-27), 3) := by decide +kernel
theorem dX12_pass_83 : decode cX12_pass 83 = .ok (.aload_n 0, 1) := by decide +kernel
theorem dX12_pass_84 : decode cX12_pass 84 = .ok (.invokevirtual 193, 3) := by decide +kernel
theorem dX12_pass_87 : decode cX12_pass 87 = .ok (.iinc 2 1, 3) := by decide +kernel
theorem dX12_pass_90 : decode cX12_pass 90 = .ok (.goto (-54), 3) := by decide +kernel
theorem dX12_pass_93 : decode cX12_pass 93 = .ok (.aload_n 0, 1) := by decide +kernel
theorem dX12_pass_94 : decode cX12_pass 94 = .ok (.getfield 164, 3) := by decide +kernel
theorem dX12_pass_97 : decode cX12_pass 97 = .ok (.ireturn, 1) := by decide +kernel
theorem dX12_day_0 : decode cX12_day 0 = .ok (.aload_n 0, 1) := by decide +kernel
theorem dX12_day_1 : decode cX12_day 1 = .ok (.iconst 0, 1) := by decide +kernel
theorem dX12_day_2 : decode cX12_day 2 = .ok (.putfield 89, 3) := by decide +kernel
theorem dX12_day_5 : decode cX12_day 5 = .ok (.aload_n 0, 1) := by decide +kernel
theorem dX12_day_6 : decode cX12_day 6 = .ok (.getfield 164, 3) := by decide +kernel
theorem dX12_day_9 : decode cX12_day 9 = .ok (.ireturn, 1) := by decide +kernel
theorem dX12_term_0 : decode cX12_term 0 = .ok (.aload_n 0, 1) := by decide +kernel
theorem dX12_term_1 : decode cX12_term 1 = .ok (.iconst 0, 1) := by decide +kernel
theorem dX12_term_2 : decode cX12_term 2 = .ok (.putfield 89, 3) := by decide +kernel
theorem dX12_term_5 : decode cX12_term 5 = .ok (.aload_n 0, 1) := by decide +kernel
theorem dX12_term_6 : decode cX12_term 6 = .ok (.getfield 199, 3) := by decide +kernel
theorem dX12_term_9 : decode cX12_term 9 = .ok (.ireturn, 1) := by decide +kernel
theorem dX12_isInOrWaits_0 : decode cX12_isInOrWaits 0 = .ok (.aload_n 0, 1) := by decide +kernel
theorem dX12_isInOrWaits_1 : decode cX12_isInOrWaits 1 = .ok (.getfield 31, 3) := by decide +kernel
theorem dX12_isInOrWaits_4 : decode cX12_isInOrWaits 4 = .ok (.iload_n 1, 1) := by decide +kernel
theorem dX12_isInOrWaits_5 : decode cX12_isInOrWaits 5 = .ok (.iaload, 1) := by decide +kernel
theorem dX12_isInOrWaits_6 : decode cX12_isInOrWaits 6 = .ok (.iload_n 2, 1) := by decide +kernel
theorem dX12_isInOrWaits_7 : decode cX12_isInOrWaits 7 = .ok (.invokestatic 106, 3) := by decide +kernel
theorem dX12_isInOrWaits_10 : decode cX12_isInOrWaits 10 = .ok (.ifCond .ne 13, 3) := by decide +kernel
theorem dX12_isInOrWaits_13 : decode cX12_isInOrWaits 13 = .ok (.aload_n 0, 1) := by decide +kernel
theorem dX12_isInOrWaits_14 : decode cX12_isInOrWaits 14 = .ok (.iload_n 2, 1) := by decide +kernel
theorem dX12_isInOrWaits_15 : decode cX12_isInOrWaits 15 = .ok (.iload_n 1, 1) := by decide +kernel
theorem dX12_isInOrWaits_16 : decode cX12_isInOrWaits 16 = .ok (.invokevirtual 202, 3) := by decide +kernel
theorem dX12_isInOrWaits_19 : decode cX12_isInOrWaits 19 = .ok (.iconst (-1), 1) := by decide +kernel
theorem dX12_isInOrWaits_20 : decode cX12_isInOrWaits 20 = .ok (.if_icmp .eq 7, 3) := by decide +kernel
theorem dX12_isInOrWaits_23 : decode cX12_isInOrWaits 23 = .ok (.iconst 1, 1) := by decide +kernel
theorem dX12_isInOrWaits_24 : decode cX12_isInOrWaits 24 = .ok (.goto 4, 3) := by decide +kernel
theorem dX12_isInOrWaits_27 : decode cX12_isInOrWaits 27 = .ok (.iconst 0, 1) := by decide +kernel
theorem dX12_isInOrWaits_28 : decode cX12_isInOrWaits 28 = .ok (.ireturn, 1) := by decide +kernel
theorem dX12_isTired_0 : decode cX12_isTired 0 = .ok (.aload_n 0, 1) := by decide +kernel
theorem dX12_isTired_1 : decode cX12_isTired 1 = .ok (.getfield 40, 3) := by decide +kernel
theorem dX12_isTired_4 : decode cX12_isTired 4 = .ok (.iload_n 1, 1) := by decide +kernel
theorem dX12_isTired_5 : decode cX12_isTired 5 = .ok (.iload_n 2, 1) := by decide +kernel
theorem dX12_isTired_6 : decode cX12_isTired 6 = .ok (.invokestatic 110, 3) := by decide +kernel
theorem dX12_isTired_9 : decode cX12_isTired 9 = .ok (.iaload, 1) := by decide +kernel
theorem dX12_isTired_10 : decode cX12_isTired 10 = .ok (.iconst 3, 1) := by decide +kernel
theorem dX12_isTired_11 : decode cX12_isTired 11 = .ok (.if_icmp .ne 7, 3) := by decide +kernel
theorem dX12_isTired_14 : decode cX12_isTired 14 = .ok (.iconst 1, 1) := by decide +kernel
theorem dX12_isTired_15 : decode cX12_isTired 15 = .ok (.goto 4, 3) := by decide +kernel
theorem dX12_isTired_18 : decode cX12_isTired 18 = .ok (.iconst 0, 1) := by decide +kernel
theorem dX12_isTired_19 : decode cX12_isTired 19 = .ok (.ireturn, 1) := by decide +kernel
theorem dX12_isClosed_0 : decode cX12_isClosed 0 = .ok (.aload_n 0, 1) := by decide +kernel
theorem dX12_isClosed_1 : decode cX12_isClosed 1 = .ok (.iload_n 2, 1) := by decide +kernel
theorem dX12_isClosed_2 : decode cX12_isClosed 2 = .ok (.aload_n 0, 1) := by decide +kernel
theorem dX12_isClosed_3 : decode cX12_isClosed 3 = .ok (.getfield 28, 3) := by decide +kernel
theorem dX12_isClosed_6 : decode cX12_isClosed 6 = .ok (.iload_n 1, 1) := by decide +kernel
theorem dX12_isClosed_7 : decode cX12_isClosed 7 = .ok (.iaload, 1) := by decide +kernel
theorem dX12_isClosed_8 : decode cX12_isClosed 8 = .ok (.invokevirtual 170, 3) := by decide +kernel
theorem dX12_isClosed_11 : decode cX12_isClosed 11 = .ok (.ifCond .ne 18, 3) := by decide +kernel
theorem dX12_isClosed_14 : decode cX12_isClosed 14 = .ok (.aload_n 0, 1) := by decide +kernel
theorem dX12_isClosed_15 : decode cX12_isClosed 15 = .ok (.getfield 22, 3) := by decide +kernel
theorem dX12_isClosed_18 : decode cX12_isClosed 18 = .ok (.iload_n 2, 1) := by decide +kernel
theorem dX12_isClosed_19 : decode cX12_isClosed 19 = .ok (.iaload, 1) := by decide +kernel
theorem dX12_isClosed_20 : decode cX12_isClosed 20 = .ok (.bipush 6, 2) := by decide +kernel
theorem dX12_isClosed_22 : decode cX12_isClosed 22 = .ok (.if_icmp .ne 7, 3) := by decide +kernel
theorem dX12_isClosed_25 : decode cX12_isClosed 25 = .ok (.iconst 1, 1) := by decide +kernel
theorem dX12_isClosed_26 : decode cX12_isClosed 26 = .ok (.goto 4, 3) := by decide +kernel
theorem dX12_isClosed_29 : decode cX12_isClosed 29 = .ok (.iconst 0, 1) := by decide +kernel
theorem dX12_isClosed_30 : decode cX12_isClosed 30 = .ok (.ireturn, 1) := by decide +kernel
theorem dX12_enrollFault_0 : decode cX12_enrollFault 0 = .ok (.aload_n 0, 1) := by decide +kernel
theorem dX12_enrollFault_1 : decode cX12_enrollFault 1 = .ok (.iload_n 1, 1) := by decide +kernel
theorem dX12_enrollFault_2 : decode cX12_enrollFault 2 = .ok (.invokevirtual 158, 3) := by decide +kernel
theorem dX12_enrollFault_5 : decode cX12_enrollFault 5 = .ok (.ifCond .eq 11, 3) := by decide +kernel
theorem dX12_enrollFault_8 : decode cX12_enrollFault 8 = .ok (.aload_n 0, 1) := by decide +kernel
theorem dX12_enrollFault_9 : decode cX12_enrollFault 9 = .ok (.iload_n 2, 1) := by decide +kernel
theorem dX12_enrollFault_10 : decode cX12_enrollFault 10 = .ok (.invokevirtual 151, 3) := by decide +kernel
theorem dX12_enrollFault_13 : decode cX12_enrollFault 13 = .ok (.ifCond .ne 5, 3) := by decide +kernel
theorem dX12_enrollFault_16 : decode cX12_enrollFault 16 = .ok (.iconst 1, 1) := by decide +kernel
theorem dX12_enrollFault_17 : decode cX12_enrollFault 17 = .ok (.ireturn, 1) := by decide +kernel
theorem dX12_enrollFault_18 : decode cX12_enrollFault 18 = .ok (.aload_n 0, 1) := by decide +kernel
theorem dX12_enrollFault_19 : decode cX12_enrollFault 19 = .ok (.getfield 164, 3) := by decide +kernel
theorem dX12_enrollFault_22 : decode cX12_enrollFault 22 = .ok (.iconst 5, 1) := by decide +kernel
theorem dX12_enrollFault_23 : decode cX12_enrollFault 23 = .ok (.if_icmp .le 7, 3) := by decide +kernel
theorem dX12_enrollFault_26 : decode cX12_enrollFault 26 = .ok (.iconst 2, 1) := by decide +kernel
theorem dX12_enrollFault_27 : decode cX12_enrollFault 27 = .ok (.goto 66, 3) := by decide +kernel
theorem dX12_enrollFault_30 : decode cX12_enrollFault 30 = .ok (.aload_n 0, 1) := by decide +kernel
theorem dX12_enrollFault_31 : decode cX12_enrollFault 31 = .ok (.iload_n 1, 1) := by decide +kernel
theorem dX12_enrollFault_32 : decode cX12_enrollFault 32 = .ok (.iload_n 2, 1) := by decide +kernel
theorem dX12_enrollFault_33 : decode cX12_enrollFault 33 = .ok (.invokevirtual 205, 3) := by decide +kernel
theorem dX12_enrollFault_36 : decode cX12_enrollFault 36 = .ok (.ifCond .eq 7, 3) := by decide +kernel
theorem dX12_enrollFault_39 : decode cX12_enrollFault 39 = .ok (.iconst 3, 1) := by decide +kernel
theorem dX12_enrollFault_40 : decode cX12_enrollFault 40 = .ok (.goto 53, 3) := by decide +kernel
theorem dX12_enrollFault_43 : decode cX12_enrollFault 43 = .ok (.aload_n 0, 1) := by decide +kernel
theorem dX12_enrollFault_44 : decode cX12_enrollFault 44 = .ok (.iload_n 1, 1) := by decide +kernel
theorem dX12_enrollFault_45 : decode cX12_enrollFault 45 = .ok (.iload_n 2, 1) := by decide +kernel
theorem dX12_enrollFault_46 : decode cX12_enrollFault 46 = .ok (.invokevirtual 176, 3) := by decide +kernel
theorem dX12_enrollFault_49 : decode cX12_enrollFault 49 = .ok (.ifCond .eq 12, 3) := by decide +kernel
theorem dX12_enrollFault_52 : decode cX12_enrollFault 52 = .ok (.aload_n 0, 1) := by decide +kernel
theorem dX12_enrollFault_53 : decode cX12_enrollFault 53 = .ok (.iload_n 1, 1) := by decide +kernel
theorem dX12_enrollFault_54 : decode cX12_enrollFault 54 = .ok (.iload_n 2, 1) := by decide +kernel
theorem dX12_enrollFault_55 : decode cX12_enrollFault 55 = .ok (.invokevirtual 208, 3) := by decide +kernel
theorem dX12_enrollFault_58 : decode cX12_enrollFault 58 = .ok (.ifCond .eq 7, 3) := by decide +kernel
theorem dX12_enrollFault_61 : decode cX12_enrollFault 61 = .ok (.iconst 4, 1) := by decide +kernel
theorem dX12_enrollFault_62 : decode cX12_enrollFault 62 = .ok (.goto 31, 3) := by decide +kernel
theorem dX12_enrollFault_65 : decode cX12_enrollFault 65 = .ok (.aload_n 0, 1) := by decide +kernel
theorem dX12_enrollFault_66 : decode cX12_enrollFault 66 = .ok (.iload_n 1, 1) := by decide +kernel
theorem dX12_enrollFault_67 : decode cX12_enrollFault 67 = .ok (.iload_n 2, 1) := by decide +kernel
theorem dX12_enrollFault_68 : decode cX12_enrollFault 68 = .ok (.invokevirtual 173, 3) := by decide +kernel
theorem dX12_enrollFault_71 : decode cX12_enrollFault 71 = .ok (.ifCond .ne 7, 3) := by decide +kernel
theorem dX12_enrollFault_74 : decode cX12_enrollFault 74 = .ok (.iconst 5, 1) := by decide +kernel
theorem dX12_enrollFault_75 : decode cX12_enrollFault 75 = .ok (.goto 18, 3) := by decide +kernel
theorem dX12_enrollFault_78 : decode cX12_enrollFault 78 = .ok (.aload_n 0, 1) := by decide +kernel
theorem dX12_enrollFault_79 : decode cX12_enrollFault 79 = .ok (.iload_n 1, 1) := by decide +kernel
theorem dX12_enrollFault_80 : decode cX12_enrollFault 80 = .ok (.iload_n 2, 1) := by decide +kernel
theorem dX12_enrollFault_81 : decode cX12_enrollFault 81 = .ok (.invokevirtual 211, 3) := by decide +kernel
theorem dX12_enrollFault_84 : decode cX12_enrollFault 84 = .ok (.ifCond .eq 8, 3) := by decide +kernel
theorem dX12_enrollFault_87 : decode cX12_enrollFault 87 = .ok (.bipush 6, 2) := by decide +kernel
theorem dX12_enrollFault_89 : decode cX12_enrollFault 89 = .ok (.goto 4, 3) := by decide +kernel
theorem dX12_enrollFault_92 : decode cX12_enrollFault 92 = .ok (.iconst 0, 1) := by decide +kernel
theorem dX12_enrollFault_93 : decode cX12_enrollFault 93 = .ok (.ireturn, 1) := by decide +kernel
theorem dX12_enroll_0 : decode cX12_enroll 0 = .ok (.aload_n 0, 1) := by decide +kernel
theorem dX12_enroll_1 : decode cX12_enroll 1 = .ok (.aload_n 0, 1) := by decide +kernel
theorem dX12_enroll_2 : decode cX12_enroll 2 = .ok (.iload_n 1, 1) := by decide +kernel
theorem dX12_enroll_3 : decode cX12_enroll 3 = .ok (.iload_n 2, 1) := by decide +kernel
theorem dX12_enroll_4 : decode cX12_enroll 4 = .ok (.invokevirtual 214, 3) := by decide +kernel
theorem dX12_enroll_7 : decode cX12_enroll 7 = .ok (.invokevirtual 144, 3) := by decide +kernel
theorem dX12_enroll_10 : decode cX12_enroll 10 = .ok (.ifCond .ne 5, 3) := by decide +kernel
theorem dX12_enroll_13 : decode cX12_enroll 13 = .ok (.iconst 0, 1) := by decide +kernel
theorem dX12_enroll_14 : decode cX12_enroll 14 = .ok (.ireturn, 1) := by decide +kernel
theorem dX12_enroll_15 : decode cX12_enroll 15 = .ok (.aload_n 0, 1) := by decide +kernel
theorem dX12_enroll_16 : decode cX12_enroll 16 = .ok (.iload_n 2, 1) := by decide +kernel
theorem dX12_enroll_17 : decode cX12_enroll 17 = .ok (.aload_n 0, 1) := by decide +kernel
theorem dX12_enroll_18 : decode cX12_enroll 18 = .ok (.getfield 28, 3) := by decide +kernel
theorem dX12_enroll_21 : decode cX12_enroll 21 = .ok (.iload_n 1, 1) := by decide +kernel
theorem dX12_enroll_22 : decode cX12_enroll 22 = .ok (.iaload, 1) := by decide +kernel
theorem dX12_enroll_23 : decode cX12_enroll 23 = .ok (.invokevirtual 170, 3) := by decide +kernel
theorem dX12_enroll_26 : decode cX12_enroll 26 = .ok (.ifCond .le 7, 3) := by decide +kernel
theorem dX12_enroll_29 : decode cX12_enroll 29 = .ok (.iconst 1, 1) := by decide +kernel
theorem dX12_enroll_30 : decode cX12_enroll 30 = .ok (.goto 4, 3) := by decide +kernel
theorem dX12_enroll_33 : decode cX12_enroll 33 = .ok (.iconst 0, 1) := by decide +kernel
theorem dX12_enroll_34 : decode cX12_enroll 34 = .ok (.istore_n 3, 1) := by decide +kernel
theorem dX12_enroll_35 : decode cX12_enroll 35 = .ok (.iload_n 3, 1) := by decide +kernel
theorem dX12_enroll_36 : decode cX12_enroll 36 = .ok (.ifCond .eq 18, 3) := by decide +kernel
theorem dX12_enroll_39 : decode cX12_enroll 39 = .ok (.aload_n 0, 1) := by decide +kernel
theorem dX12_enroll_40 : decode cX12_enroll 40 = .ok (.getfield 31, 3) := by decide +kernel
theorem dX12_enroll_43 : decode cX12_enroll 43 = .ok (.iload_n 1, 1) := by decide +kernel
theorem dX12_enroll_44 : decode cX12_enroll 44 = .ok (.dup2, 1) := by decide +kernel
theorem dX12_enroll_45 : decode cX12_enroll 45 = .ok (.iaload, 1) := by decide +kernel
theorem dX12_enroll_46 : decode cX12_enroll 46 = .ok (.iconst 1, 1) := by decide +kernel
theorem dX12_enroll_47 : decode cX12_enroll 47 = .ok (.iload_n 2, 1) := by decide +kernel
theorem dX12_enroll_48 : decode cX12_enroll 48 = .ok (.ishl, 1) := by decide +kernel
theorem dX12_enroll_49 : decode cX12_enroll 49 = .ok (.ior, 1) := by decide +kernel
theorem dX12_enroll_50 : decode cX12_enroll 50 = .ok (.iastore, 1) := by decide +kernel
theorem dX12_enroll_51 : decode cX12_enroll 51 = .ok (.goto 30, 3) := by decide +kernel
theorem dX12_enroll_54 : decode cX12_enroll 54 = .ok (.aload_n 0, 1) := by decide +kernel
theorem dX12_enroll_55 : decode cX12_enroll 55 = .ok (.getfield 25, 3) := by decide +kernel
theorem dX12_enroll_58 : decode cX12_enroll 58 = .ok (.bipush 6, 2) := by decide +kernel
theorem dX12_enroll_60 : decode cX12_enroll 60 = .ok (.iload_n 2, 1) := by decide +kernel
theorem dX12_enroll_61 : decode cX12_enroll 61 = .ok (.imul, 1) := by decide +kernel
theorem dX12_enroll_62 : decode cX12_enroll 62 = .ok (.aload_n 0, 1) := by decide +kernel
theorem dX12_enroll_63 : decode cX12_enroll 63 = .ok (.getfield 22, 3) := by decide +kernel
theorem dX12_enroll_66 : decode cX12_enroll 66 = .ok (.iload_n 2, 1) := by decide +kernel
theorem dX12_enroll_67 : decode cX12_enroll 67 = .ok (.iaload, 1) := by decide +kernel
theorem dX12_enroll_68 : decode cX12_enroll 68 = .ok (.iadd, 1) := by decide +kernel
theorem dX12_enroll_69 : decode cX12_enroll 69 = .ok (.iload_n 1, 1) := by decide +kernel
theorem dX12_enroll_70 : decode cX12_enroll 70 = .ok (.iastore, 1) := by decide +kernel
theorem dX12_enroll_71 : decode cX12_enroll 71 = .ok (.aload_n 0, 1) := by decide +kernel
theorem dX12_enroll_72 : decode cX12_enroll 72 = .ok (.getfield 22, 3) := by decide +kernel
theorem dX12_enroll_75 : decode cX12_enroll 75 = .ok (.iload_n 2, 1) := by decide +kernel
theorem dX12_enroll_76 : decode cX12_enroll 76 = .ok (.dup2, 1) := by decide +kernel
theorem dX12_enroll_77 : decode cX12_enroll 77 = .ok (.iaload, 1) := by decide +kernel
theorem dX12_enroll_78 : decode cX12_enroll 78 = .ok (.iconst 1, 1) := by decide +kernel
theorem dX12_enroll_79 : decode cX12_enroll 79 = .ok (.iadd, 1) := by decide +kernel
theorem dX12_enroll_80 : decode cX12_enroll 80 = .ok (.iastore, 1) := by decide +kernel
theorem dX12_enroll_81 : decode cX12_enroll 81 = .ok (.aload_n 0, 1) := by decide +kernel
theorem dX12_enroll_82 : decode cX12_enroll 82 = .ok (.invokevirtual 193, 3) := by decide +kernel
theorem dX12_enroll_85 : decode cX12_enroll 85 = .ok (.iload_n 3, 1) := by decide +kernel
theorem dX12_enroll_86 : decode cX12_enroll 86 = .ok (.ifCond .eq 8, 3) := by decide +kernel
theorem dX12_enroll_89 : decode cX12_enroll 89 = .ok (.bipush 101, 2) := by decide +kernel
theorem dX12_enroll_91 : decode cX12_enroll 91 = .ok (.goto 5, 3) := by decide +kernel
theorem dX12_enroll_94 : decode cX12_enroll 94 = .ok (.bipush 119, 2) := by decide +kernel
theorem dX12_enroll_96 : decode cX12_enroll 96 = .ok (.ireturn, 1) := by decide +kernel
theorem dX12_wouldBe_0 : decode cX12_wouldBe 0 = .ok (.aload_n 0, 1) := by decide +kernel
theorem dX12_wouldBe_1 : decode cX12_wouldBe 1 = .ok (.getfield 164, 3) := by decide +kernel
theorem dX12_wouldBe_4 : decode cX12_wouldBe 4 = .ok (.iconst 5, 1) := by decide +kernel
theorem dX12_wouldBe_5 : decode cX12_wouldBe 5 = .ok (.if_icmp .le 6, 3) := by decide +kernel
theorem dX12_wouldBe_8 : decode cX12_wouldBe 8 = .ok (.bipush 100, 2) := by decide +kernel
theorem dX12_wouldBe_10 : decode cX12_wouldBe 10 = .ok (.ireturn, 1) := by decide +kernel
theorem dX12_wouldBe_11 : decode cX12_wouldBe 11 = .ok (.aload_n 0, 1) := by decide +kernel
theorem dX12_wouldBe_12 : decode cX12_wouldBe 12 = .ok (.iload_n 1, 1) := by decide +kernel
theorem dX12_wouldBe_13 : decode cX12_wouldBe 13 = .ok (.iload_n 2, 1) := by decide +kernel
theorem dX12_wouldBe_14 : decode cX12_wouldBe 14 = .ok (.invokevirtual 205, 3) := by decide +kernel
theorem dX12_wouldBe_17 : decode cX12_wouldBe 17 = .ok (.ifCond .eq 6, 3) := by decide +kernel
theorem dX12_wouldBe_20 : decode cX12_wouldBe 20 = .ok (.bipush 105, 2) := by decide +kernel
theorem dX12_wouldBe_22 : decode cX12_wouldBe 22 = .ok (.ireturn, 1) := by decide +kernel
theorem dX12_wouldBe_23 : decode cX12_wouldBe 23 = .ok (.aload_n 0, 1) := by decide +kernel
theorem dX12_wouldBe_24 : decode cX12_wouldBe 24 = .ok (.iload_n 1, 1) := by decide +kernel
theorem dX12_wouldBe_25 : decode cX12_wouldBe 25 = .ok (.iload_n 2, 1) := by decide +kernel
theorem dX12_wouldBe_26 : decode cX12_wouldBe 26 = .ok (.invokevirtual 176, 3) := by decide +kernel
theorem dX12_wouldBe_29 : decode cX12_wouldBe 29 = .ok (.ifCond .ne 6, 3) := by decide +kernel
theorem dX12_wouldBe_32 : decode cX12_wouldBe 32 = .ok (.bipush 114, 2) := by decide +kernel
theorem dX12_wouldBe_34 : decode cX12_wouldBe 34 = .ok (.ireturn, 1) := by decide +kernel
theorem dX12_wouldBe_35 : decode cX12_wouldBe 35 = .ok (.aload_n 0, 1) := by decide +kernel
theorem dX12_wouldBe_36 : decode cX12_wouldBe 36 = .ok (.iload_n 1, 1) := by decide +kernel
theorem dX12_wouldBe_37 : decode cX12_wouldBe 37 = .ok (.iload_n 2, 1) := by decide +kernel
theorem dX12_wouldBe_38 : decode cX12_wouldBe 38 = .ok (.invokevirtual 208, 3) := by decide +kernel
theorem dX12_wouldBe_41 : decode cX12_wouldBe 41 = .ok (.ifCond .eq 6, 3) := by decide +kernel
theorem dX12_wouldBe_44 : decode cX12_wouldBe 44 = .ok (.bipush 97, 2) := by decide +kernel
theorem dX12_wouldBe_46 : decode cX12_wouldBe 46 = .ok (.ireturn, 1) := by decide +kernel
theorem dX12_wouldBe_47 : decode cX12_wouldBe 47 = .ok (.aload_n 0, 1) := by decide +kernel
theorem dX12_wouldBe_48 : decode cX12_wouldBe 48 = .ok (.iload_n 1, 1) := by decide +kernel
theorem dX12_wouldBe_49 : decode cX12_wouldBe 49 = .ok (.iload_n 2, 1) := by decide +kernel
theorem dX12_wouldBe_50 : decode cX12_wouldBe 50 = .ok (.invokevirtual 173, 3) := by decide +kernel
theorem dX12_wouldBe_53 : decode cX12_wouldBe 53 = .ok (.ifCond .ne 6, 3) := by decide +kernel
theorem dX12_wouldBe_56 : decode cX12_wouldBe 56 = .ok (.bipush 99, 2) := by decide +kernel
theorem dX12_wouldBe_58 : decode cX12_wouldBe 58 = .ok (.ireturn, 1) := by decide +kernel
theorem dX12_wouldBe_59 : decode cX12_wouldBe 59 = .ok (.aload_n 0, 1) := by decide +kernel
theorem dX12_wouldBe_60 : decode cX12_wouldBe 60 = .ok (.iload_n 2, 1) := by decide +kernel
theorem dX12_wouldBe_61 : decode cX12_wouldBe 61 = .ok (.aload_n 0, 1) := by decide +kernel
theorem dX12_wouldBe_62 : decode cX12_wouldBe 62 = .ok (.getfield 28, 3) := by decide +kernel
theorem dX12_wouldBe_65 : decode cX12_wouldBe 65 = .ok (.iload_n 1, 1) := by decide +kernel
theorem dX12_wouldBe_66 : decode cX12_wouldBe 66 = .ok (.iaload, 1) := by decide +kernel
theorem dX12_wouldBe_67 : decode cX12_wouldBe 67 = .ok (.invokevirtual 170, 3) := by decide +kernel
theorem dX12_wouldBe_70 : decode cX12_wouldBe 70 = .ok (.ifCond .le 8, 3) := by decide +kernel
theorem dX12_wouldBe_73 : decode cX12_wouldBe 73 = .ok (.bipush 101, 2) := by decide +kernel
theorem dX12_wouldBe_75 : decode cX12_wouldBe 75 = .ok (.goto 21, 3) := by decide +kernel
theorem dX12_wouldBe_78 : decode cX12_wouldBe 78 = .ok (.aload_n 0, 1) := by decide +kernel
theorem dX12_wouldBe_79 : decode cX12_wouldBe 79 = .ok (.getfield 22, 3) := by decide +kernel
theorem dX12_wouldBe_82 : decode cX12_wouldBe 82 = .ok (.iload_n 2, 1) := by decide +kernel
theorem dX12_wouldBe_83 : decode cX12_wouldBe 83 = .ok (.iaload, 1) := by decide +kernel
theorem dX12_wouldBe_84 : decode cX12_wouldBe 84 = .ok (.bipush 6, 2) := by decide +kernel
theorem dX12_wouldBe_86 : decode cX12_wouldBe 86 = .ok (.if_icmp .ne 8, 3) := by decide +kernel
theorem dX12_wouldBe_89 : decode cX12_wouldBe 89 = .ok (.bipush 102, 2) := by decide +kernel
theorem dX12_wouldBe_91 : decode cX12_wouldBe 91 = .ok (.goto 5, 3) := by decide +kernel
theorem dX12_wouldBe_94 : decode cX12_wouldBe 94 = .ok (.bipush 119, 2) := by decide +kernel
theorem dX12_wouldBe_96 : decode cX12_wouldBe 96 = .ok (.ireturn, 1) := by decide +kernel
theorem dX12_outcome_0 : decode cX12_outcome 0 = .ok (.aload_n 0, 1) := by decide +kernel
theorem dX12_outcome_1 : decode cX12_outcome 1 = .ok (.aload_n 0, 1) := by decide +kernel
theorem dX12_outcome_2 : decode cX12_outcome 2 = .ok (.iload_n 1, 1) := by decide +kernel
theorem dX12_outcome_3 : decode cX12_outcome 3 = .ok (.invokevirtual 158, 3) := by decide +kernel
theorem dX12_outcome_6 : decode cX12_outcome 6 = .ok (.ifCond .eq 15, 3) := by decide +kernel
theorem dX12_outcome_9 : decode cX12_outcome 9 = .ok (.aload_n 0, 1) := by decide +kernel
theorem dX12_outcome_10 : decode cX12_outcome 10 = .ok (.iload_n 2, 1) := by decide +kernel
theorem dX12_outcome_11 : decode cX12_outcome 11 = .ok (.invokevirtual 151, 3) := by decide +kernel
theorem dX12_outcome_14 : decode cX12_outcome 14 = .ok (.ifCond .eq 7, 3) := by decide +kernel
theorem dX12_outcome_17 : decode cX12_outcome 17 = .ok (.iconst 0, 1) := by decide +kernel
theorem dX12_outcome_18 : decode cX12_outcome 18 = .ok (.goto 4, 3) := by decide +kernel
theorem dX12_outcome_21 : decode cX12_outcome 21 = .ok (.iconst 1, 1) := by decide +kernel
theorem dX12_outcome_22 : decode cX12_outcome 22 = .ok (.invokevirtual 144, 3) := by decide +kernel
theorem dX12_outcome_25 : decode cX12_outcome 25 = .ok (.ifCond .eq 12, 3) := by decide +kernel
theorem dX12_outcome_28 : decode cX12_outcome 28 = .ok (.aload_n 0, 1) := by decide +kernel
theorem dX12_outcome_29 : decode cX12_outcome 29 = .ok (.iload_n 1, 1) := by decide +kernel
theorem dX12_outcome_30 : decode cX12_outcome 30 = .ok (.iload_n 2, 1) := by decide +kernel
theorem dX12_outcome_31 : decode cX12_outcome 31 = .ok (.invokevirtual 217, 3) := by decide +kernel
theorem dX12_outcome_34 : decode cX12_outcome 34 = .ok (.goto 4, 3) := by decide +kernel
theorem dX12_outcome_37 : decode cX12_outcome 37 = .ok (.iconst 0, 1) := by decide +kernel
theorem dX12_outcome_38 : decode cX12_outcome 38 = .ok (.ireturn, 1) := by decide +kernel
theorem dX12_drop_0 : decode cX12_drop 0 = .ok (.aload_n 0, 1) := by decide +kernel
theorem dX12_drop_1 : decode cX12_drop 1 = .ok (.iload_n 1, 1) := by decide +kernel
theorem dX12_drop_2 : decode cX12_drop 2 = .ok (.invokevirtual 158, 3) := by decide +kernel
theorem dX12_drop_5 : decode cX12_drop 5 = .ok (.ifCond .eq 11, 3) := by decide +kernel
theorem dX12_drop_8 : decode cX12_drop 8 = .ok (.aload_n 0, 1) := by decide +kernel
theorem dX12_drop_9 : decode cX12_drop 9 = .ok (.iload_n 2, 1) := by decide +kernel
theorem dX12_drop_10 : decode cX12_drop 10 = .ok (.invokevirtual 151, 3) := by decide +kernel
theorem dX12_drop_13 : decode cX12_drop 13 = .ok (.ifCond .ne 7, 3) := by decide +kernel
theorem dX12_drop_16 : decode cX12_drop 16 = .ok (.iconst 1, 1) := by decide +kernel
theorem dX12_drop_17 : decode cX12_drop 17 = .ok (.goto 30, 3) := by decide +kernel
theorem dX12_drop_20 : decode cX12_drop 20 = .ok (.aload_n 0, 1) := by decide +kernel
theorem dX12_drop_21 : decode cX12_drop 21 = .ok (.iload_n 1, 1) := by decide +kernel
theorem dX12_drop_22 : decode cX12_drop 22 = .ok (.iload_n 2, 1) := by decide +kernel
theorem dX12_drop_23 : decode cX12_drop 23 = .ok (.invokevirtual 205, 3) := by decide +kernel
theorem dX12_drop_26 : decode cX12_drop 26 = .ok (.ifCond .ne 7, 3) := by decide +kernel
theorem dX12_drop_29 : decode cX12_drop 29 = .ok (.iconst 2, 1) := by decide +kernel
theorem dX12_drop_30 : decode cX12_drop 30 = .ok (.goto 17, 3) := by decide +kernel
theorem dX12_drop_33 : decode cX12_drop 33 = .ok (.aload_n 0, 1) := by decide +kernel
theorem dX12_drop_34 : decode cX12_drop 34 = .ok (.getfield 164, 3) := by decide +kernel
theorem dX12_drop_37 : decode cX12_drop 37 = .ok (.bipush 20, 2) := by decide +kernel
theorem dX12_drop_39 : decode cX12_drop 39 = .ok (.if_icmp .le 7, 3) := by decide +kernel
theorem dX12_drop_42 : decode cX12_drop 42 = .ok (.iconst 3, 1) := by decide +kernel
theorem dX12_drop_43 : decode cX12_drop 43 = .ok (.goto 4, 3) := by decide +kernel
theorem dX12_drop_46 : decode cX12_drop 46 = .ok (.iconst 0, 1) := by decide +kernel
theorem dX12_drop_47 : decode cX12_drop 47 = .ok (.istore_n 3, 1) := by decide +kernel
theorem dX12_drop_48 : decode cX12_drop 48 = .ok (.aload_n 0, 1) := by decide +kernel
theorem dX12_drop_49 : decode cX12_drop 49 = .ok (.iload_n 3, 1) := by decide +kernel
theorem dX12_drop_50 : decode cX12_drop 50 = .ok (.invokevirtual 144, 3) := by decide +kernel
theorem dX12_drop_53 : decode cX12_drop 53 = .ok (.ifCond .ne 5, 3) := by decide +kernel
theorem dX12_drop_56 : decode cX12_drop 56 = .ok (.iconst 0, 1) := by decide +kernel
theorem dX12_drop_57 : decode cX12_drop 57 = .ok (.ireturn, 1) := by decide +kernel
theorem dX12_drop_58 : decode cX12_drop 58 = .ok (.aload_n 0, 1) := by decide +kernel
theorem dX12_drop_59 : decode cX12_drop 59 = .ok (.getfield 31, 3) := by decide +kernel
theorem dX12_drop_62 : decode cX12_drop 62 = .ok (.iload_n 1, 1) := by decide +kernel
theorem dX12_drop_63 : decode cX12_drop 63 = .ok (.iaload, 1) := by decide +kernel
theorem dX12_drop_64 : decode cX12_drop 64 = .ok (.iload_n 2, 1) := by decide +kernel
theorem dX12_drop_65 : decode cX12_drop 65 = .ok (.invokestatic 106, 3) := by decide +kernel
theorem dX12_drop_68 : decode cX12_drop 68 = .ok (.istore 4, 2) := by decide +kernel
theorem dX12_drop_70 : decode cX12_drop 70 = .ok (.iload 4, 2) := by decide +kernel
theorem dX12_drop_72 : decode cX12_drop 72 = .ok (.ifCond .eq 12, 3) := by decide +kernel
theorem dX12_drop_75 : decode cX12_drop 75 = .ok (.aload_n 0, 1) := by decide +kernel
theorem dX12_drop_76 : decode cX12_drop 76 = .ok (.iload_n 1, 1) := by decide +kernel
theorem dX12_drop_77 : decode cX12_drop 77 = .ok (.iload_n 2, 1) := by decide +kernel
theorem dX12_drop_78 : decode cX12_drop 78 = .ok (.invokevirtual 221, 3) := by decide +kernel
theorem dX12_drop_81 : decode cX12_drop 81 = .ok (.goto 14, 3) := by decide +kernel
theorem dX12_drop_84 : decode cX12_drop 84 = .ok (.aload_n 0, 1) := by decide +kernel
theorem dX12_drop_85 : decode cX12_drop 85 = .ok (.iload_n 2, 1) := by decide +kernel
theorem dX12_drop_86 : decode cX12_drop 86 = .ok (.aload_n 0, 1) := by decide +kernel
theorem dX12_drop_87 : decode cX12_drop 87 = .ok (.iload_n 2, 1) := by decide +kernel
theorem dX12_drop_88 : decode cX12_drop 88 = .ok (.iload_n 1, 1) := by decide +kernel
theorem dX12_drop_89 : decode cX12_drop 89 = .ok (.invokevirtual 202, 3) := by decide +kernel
theorem dX12_drop_92 : decode cX12_drop 92 = .ok (.invokevirtual 182, 3) := by decide +kernel
theorem dX12_drop_95 : decode cX12_drop 95 = .ok (.aload_n 0, 1) := by decide +kernel
theorem dX12_drop_96 : decode cX12_drop 96 = .ok (.invokevirtual 193, 3) := by decide +kernel
theorem dX12_drop_99 : decode cX12_drop 99 = .ok (.iload 4, 2) := by decide +kernel
theorem dX12_drop_101 : decode cX12_drop 101 = .ok (.ifCond .ne 8, 3) := by decide +kernel
theorem dX12_drop_104 : decode cX12_drop 104 = .ok (.bipush 108, 2) := by decide +kernel
theorem dX12_drop_106 : decode cX12_drop 106 = .ok (.goto 19, 3) := by decide +kernel
theorem dX12_drop_109 : decode cX12_drop 109 = .ok (.aload_n 0, 1) := by decide +kernel
theorem dX12_drop_110 : decode cX12_drop 110 = .ok (.getfield 164, 3) := by decide +kernel
theorem dX12_drop_113 : decode cX12_drop 113 = .ok (.bipush 8, 2) := by decide +kernel
theorem dX12_drop_115 : decode cX12_drop 115 = .ok (.if_icmp .gt 8, 3) := by decide +kernel
theorem dX12_drop_118 : decode cX12_drop 118 = .ok (.bipush 100, 2) := by decide +kernel
theorem dX12_drop_120 : decode cX12_drop 120 = .ok (.goto 5, 3) := by decide +kernel
theorem dX12_drop_123 : decode cX12_drop 123 = .ok (.bipush 119, 2) := by decide +kernel
theorem dX12_drop_125 : decode cX12_drop 125 = .ok (.ireturn, 1) := by decide +kernel
theorem dX12_swapFault_0 : decode cX12_swapFault 0 = .ok (.aload_n 0, 1) := by decide +kernel
theorem dX12_swapFault_1 : decode cX12_swapFault 1 = .ok (.iload_n 1, 1) := by decide +kernel
theorem dX12_swapFault_2 : decode cX12_swapFault 2 = .ok (.invokevirtual 158, 3) := by decide +kernel
theorem dX12_swapFault_5 : decode cX12_swapFault 5 = .ok (.ifCond .eq 19, 3) := by decide +kernel
theorem dX12_swapFault_8 : decode cX12_swapFault 8 = .ok (.aload_n 0, 1) := by decide +kernel
theorem dX12_swapFault_9 : decode cX12_swapFault 9 = .ok (.iload_n 2, 1) := by decide +kernel
theorem dX12_swapFault_10 : decode cX12_swapFault 10 = .ok (.invokevirtual 151, 3) := by decide +kernel
theorem dX12_swapFault_13 : decode cX12_swapFault 13 = .ok (.ifCond .eq 11, 3) := by decide +kernel
theorem dX12_swapFault_16 : decode cX12_swapFault 16 = .ok (.aload_n 0, 1) := by decide +kernel
theorem dX12_swapFault_17 : decode cX12_swapFault 17 = .ok (.iload_n 3, 1) := by decide +kernel
theorem dX12_swapFault_18 : decode cX12_swapFault 18 = .ok (.invokevirtual 151, 3) := by decide +kernel
theorem dX12_swapFault_21 : decode cX12_swapFault 21 = .ok (.ifCond .ne 5, 3) := by decide +kernel
theorem dX12_swapFault_24 : decode cX12_swapFault 24 = .ok (.iconst 1, 1) := by decide +kernel
theorem dX12_swapFault_25 : decode cX12_swapFault 25 = .ok (.ireturn, 1) := by decide +kernel
theorem dX12_swapFault_26 : decode cX12_swapFault 26 = .ok (.aload_n 0, 1) := by decide +kernel
theorem dX12_swapFault_27 : decode cX12_swapFault 27 = .ok (.getfield 164, 3) := by decide +kernel
theorem dX12_swapFault_30 : decode cX12_swapFault 30 = .ok (.iconst 5, 1) := by decide +kernel
theorem dX12_swapFault_31 : decode cX12_swapFault 31 = .ok (.if_icmp .le 7, 3) := by decide +kernel
theorem dX12_swapFault_34 : decode cX12_swapFault 34 = .ok (.iconst 2, 1) := by decide +kernel
theorem dX12_swapFault_35 : decode cX12_swapFault 35 = .ok (.goto 43, 3) := by decide +kernel
theorem dX12_swapFault_38 : decode cX12_swapFault 38 = .ok (.aload_n 0, 1) := by decide +kernel
theorem dX12_swapFault_39 : decode cX12_swapFault 39 = .ok (.getfield 31, 3) := by decide +kernel
theorem dX12_swapFault_42 : decode cX12_swapFault 42 = .ok (.iload_n 1, 1) := by decide +kernel
theorem dX12_swapFault_43 : decode cX12_swapFault 43 = .ok (.iaload, 1) := by decide +kernel
theorem dX12_swapFault_44 : decode cX12_swapFault 44 = .ok (.iload_n 2, 1) := by decide +kernel
theorem dX12_swapFault_45 : decode cX12_swapFault 45 = .ok (.invokestatic 106, 3) := by decide +kernel
theorem dX12_swapFault_48 : decode cX12_swapFault 48 = .ok (.ifCond .ne 7, 3) := by decide +kernel
theorem dX12_swapFault_51 : decode cX12_swapFault 51 = .ok (.iconst 3, 1) := by decide +kernel
theorem dX12_swapFault_52 : decode cX12_swapFault 52 = .ok (.goto 26, 3) := by decide +kernel
theorem dX12_swapFault_55 : decode cX12_swapFault 55 = .ok (.aload_n 0, 1) := by decide +kernel
theorem dX12_swapFault_56 : decode cX12_swapFault 56 = .ok (.getfield 31, 3) := by decide +kernel
theorem dX12_swapFault_59 : decode cX12_swapFault 59 = .ok (.iload_n 1, 1) := by decide +kernel
theorem dX12_swapFault_60 : decode cX12_swapFault 60 = .ok (.iaload, 1) := by decide +kernel
theorem dX12_swapFault_61 : decode cX12_swapFault 61 = .ok (.iload_n 3, 1) := by decide +kernel
theorem dX12_swapFault_62 : decode cX12_swapFault 62 = .ok (.invokestatic 106, 3) := by decide +kernel
theorem dX12_swapFault_65 : decode cX12_swapFault 65 = .ok (.ifCond .ne 8, 3) := by decide +kernel
theorem dX12_swapFault_68 : decode cX12_swapFault 68 = .ok (.iload_n 2, 1) := by decide +kernel
theorem dX12_swapFault_69 : decode cX12_swapFault 69 = .ok (.iload_n 3, 1) := by decide +kernel
theorem dX12_swapFault_70 : decode cX12_swapFault 70 = .ok (.if_icmp .ne 7, 3) := by decide +kernel
theorem dX12_swapFault_73 : decode cX12_swapFault 73 = .ok (.iconst 4, 1) := by decide +kernel
theorem dX12_swapFault_74 : decode cX12_swapFault 74 = .ok (.goto 4, 3) := by decide +kernel
theorem dX12_swapFault_77 : decode cX12_swapFault 77 = .ok (.iconst 0, 1) := by decide +kernel
theorem dX12_swapFault_78 : decode cX12_swapFault 78 = .ok (.ireturn, 1) := by decide +kernel
theorem dX12_swap_0 : decode cX12_swap 0 = .ok (.aload_n 0, 1) := by decide +kernel
theorem dX12_swap_1 : decode cX12_swap 1 = .ok (.aload_n 0, 1) := by decide +kernel
theorem dX12_swap_2 : decode cX12_swap 2 = .ok (.iload_n 1, 1) := by decide +kernel
theorem dX12_swap_3 : decode cX12_swap 3 = .ok (.iload_n 2, 1) := by decide +kernel
theorem dX12_swap_4 : decode cX12_swap 4 = .ok (.iload_n 3, 1) := by decide +kernel
theorem dX12_swap_5 : decode cX12_swap 5 = .ok (.invokevirtual 224, 3) := by decide +kernel
theorem dX12_swap_8 : decode cX12_swap 8 = .ok (.invokevirtual 144, 3) := by decide +kernel
theorem dX12_swap_11 : decode cX12_swap 11 = .ok (.ifCond .ne 5, 3) := by decide +kernel
theorem dX12_swap_14 : decode cX12_swap 14 = .ok (.iconst 0, 1) := by decide +kernel
theorem dX12_swap_15 : decode cX12_swap 15 = .ok (.ireturn, 1) := by decide +kernel
theorem dX12_swap_16 : decode cX12_swap 16 = .ok (.aload_n 0, 1) := by decide +kernel
theorem dX12_swap_17 : decode cX12_swap 17 = .ok (.getfield 31, 3) := by decide +kernel
theorem dX12_swap_20 : decode cX12_swap 20 = .ok (.iload_n 1, 1) := by decide +kernel
theorem dX12_swap_21 : decode cX12_swap 21 = .ok (.iaload, 1) := by decide +kernel
theorem dX12_swap_22 : decode cX12_swap 22 = .ok (.istore 4, 2) := by decide +kernel
theorem dX12_swap_24 : decode cX12_swap 24 = .ok (.aload_n 0, 1) := by decide +kernel
theorem dX12_swap_25 : decode cX12_swap 25 = .ok (.iload_n 1, 1) := by decide +kernel
theorem dX12_swap_26 : decode cX12_swap 26 = .ok (.iload_n 2, 1) := by decide +kernel
theorem dX12_swap_27 : decode cX12_swap 27 = .ok (.invokevirtual 221, 3) := by decide +kernel
theorem dX12_swap_30 : decode cX12_swap 30 = .ok (.aload_n 0, 1) := by decide +kernel
theorem dX12_swap_31 : decode cX12_swap 31 = .ok (.iload_n 1, 1) := by decide +kernel
theorem dX12_swap_32 : decode cX12_swap 32 = .ok (.iload_n 3, 1) := by decide +kernel
theorem dX12_swap_33 : decode cX12_swap 33 = .ok (.invokevirtual 176, 3) := by decide +kernel
theorem dX12_swap_36 : decode cX12_swap 36 = .ok (.ifCond .eq 26, 3) := by decide +kernel
theorem dX12_swap_39 : decode cX12_swap 39 = .ok (.aload_n 0, 1) := by decide +kernel
theorem dX12_swap_40 : decode cX12_swap 40 = .ok (.iload_n 1, 1) := by decide +kernel
theorem dX12_swap_41 : decode cX12_swap 41 = .ok (.iload_n 3, 1) := by decide +kernel
theorem dX12_swap_42 : decode cX12_swap 42 = .ok (.invokevirtual 208, 3) := by decide +kernel
theorem dX12_swap_45 : decode cX12_swap 45 = .ok (.ifCond .ne 17, 3) := by decide +kernel
theorem dX12_swap_48 : decode cX12_swap 48 = .ok (.aload_n 0, 1) := by decide +kernel
theorem dX12_swap_49 : decode cX12_swap 49 = .ok (.iload_n 3, 1) := by decide +kernel
theorem dX12_swap_50 : decode cX12_swap 50 = .ok (.aload_n 0, 1) := by decide +kernel
theorem dX12_swap_51 : decode cX12_swap 51 = .ok (.getfield 28, 3) := by decide +kernel
theorem dX12_swap_54 : decode cX12_swap 54 = .ok (.iload_n 1, 1) := by decide +kernel
theorem dX12_swap_55 : decode cX12_swap 55 = .ok (.iaload, 1) := by decide +kernel
theorem dX12_swap_56 : decode cX12_swap 56 = .ok (.invokevirtual 170, 3) := by decide +kernel
theorem dX12_swap_59 : decode cX12_swap 59 = .ok (.ifCond .ne 7, 3) := by decide +kernel
theorem dX12_swap_62 : decode cX12_swap 62 = .ok (.iconst 1, 1) := by decide +kernel
theorem dX12_swap_63 : decode cX12_swap 63 = .ok (.goto 4, 3) := by decide +kernel
theorem dX12_swap_66 : decode cX12_swap 66 = .ok (.iconst 0, 1) := by decide +kernel
theorem dX12_swap_67 : decode cX12_swap 67 = .ok (.istore 5, 2) := by decide +kernel
theorem dX12_swap_69 : decode cX12_swap 69 = .ok (.aload_n 0, 1) := by decide +kernel
theorem dX12_swap_70 : decode cX12_swap 70 = .ok (.iload 5, 2) := by decide +kernel
theorem dX12_swap_72 : decode cX12_swap 72 = .ok (.ifCond .eq 7, 3) := by decide +kernel
theorem dX12_swap_75 : decode cX12_swap 75 = .ok (.iconst 5, 1) := by decide +kernel
theorem dX12_swap_76 : decode cX12_swap 76 = .ok (.goto 18, 3) := by decide +kernel
theorem dX12_swap_79 : decode cX12_swap 79 = .ok (.aload_n 0, 1) := by decide +kernel
theorem dX12_swap_80 : decode cX12_swap 80 = .ok (.iload_n 1, 1) := by decide +kernel
theorem dX12_swap_81 : decode cX12_swap 81 = .ok (.iload_n 3, 1) := by decide +kernel
theorem dX12_swap_82 : decode cX12_swap 82 = .ok (.invokevirtual 173, 3) := by decide +kernel
theorem dX12_swap_85 : decode cX12_swap 85 = .ok (.ifCond .ne 8, 3) := by decide +kernel
theorem dX12_swap_88 : decode cX12_swap 88 = .ok (.bipush 6, 2) := by decide +kernel
theorem dX12_swap_90 : decode cX12_swap 90 = .ok (.goto 4, 3) := by decide +kernel
theorem dX12_swap_93 : decode cX12_swap 93 = .ok (.iconst 0, 1) := by decide +kernel
theorem dX12_swap_94 : decode cX12_swap 94 = .ok (.invokevirtual 144, 3) := by decide +kernel
theorem dX12_swap_97 : decode cX12_swap 97 = .ok (.ifCond .ne 13, 3) := by decide +kernel
theorem dX12_swap_100 : decode cX12_swap 100 = .ok (.aload_n 0, 1) := by decide +kernel
theorem dX12_swap_101 : decode cX12_swap 101 = .ok (.getfield 31, 3) := by decide +kernel
theorem dX12_swap_104 : decode cX12_swap 104 = .ok (.iload_n 1, 1) := by decide +kernel
theorem dX12_swap_105 : decode cX12_swap 105 = .ok (.iload 4, 2) := by decide +kernel
theorem dX12_swap_107 : decode cX12_swap 107 = .ok (.iastore, 1) := by decide +kernel
theorem dX12_swap_108 : decode cX12_swap 108 = .ok (.iconst 0, 1) := by decide +kernel
theorem dX12_swap_109 : decode cX12_swap 109 = .ok (.ireturn, 1) := by decide +kernel
theorem dX12_swap_110 : decode cX12_swap 110 = .ok (.aload_n 0, 1) := by decide +kernel
theorem dX12_swap_111 : decode cX12_swap 111 = .ok (.iload_n 3, 1) := by decide +kernel
theorem dX12_swap_112 : decode cX12_swap 112 = .ok (.iload_n 1, 1) := by decide +kernel
theorem dX12_swap_113 : decode cX12_swap 113 = .ok (.invokevirtual 202, 3) := by decide +kernel
theorem dX12_swap_116 : decode cX12_swap 116 = .ok (.iconst (-1), 1) := by decide +kernel
theorem dX12_swap_117 : decode cX12_swap 117 = .ok (.if_icmp .eq 14, 3) := by decide +kernel
theorem dX12_swap_120 : decode cX12_swap 120 = .ok (.aload_n 0, 1) := by decide +kernel
theorem dX12_swap_121 : decode cX12_swap 121 = .ok (.iload_n 3, 1) := by decide +kernel
theorem dX12_swap_122 : decode cX12_swap 122 = .ok (.aload_n 0, 1) := by decide +kernel
theorem dX12_swap_123 : decode cX12_swap 123 = .ok (.iload_n 3, 1) := by decide +kernel
theorem dX12_swap_124 : decode cX12_swap 124 = .ok (.iload_n 1, 1) := by decide +kernel
theorem dX12_swap_125 : decode cX12_swap 125 = .ok (.invokevirtual 202, 3) := by decide +kernel
theorem dX12_swap_128 : decode cX12_swap 128 = .ok (.invokevirtual 182, 3) := by decide +kernel
theorem dX12_swap_131 : decode cX12_swap 131 = .ok (.aload_n 0, 1) := by decide +kernel
theorem dX12_swap_132 : decode cX12_swap 132 = .ok (.getfield 31, 3) := by decide +kernel
theorem dX12_swap_135 : decode cX12_swap 135 = .ok (.iload_n 1, 1) := by decide +kernel
theorem dX12_swap_136 : decode cX12_swap 136 = .ok (.dup2, 1) := by decide +kernel
theorem dX12_swap_137 : decode cX12_swap 137 = .ok (.iaload, 1) := by decide +kernel
theorem dX12_swap_138 : decode cX12_swap 138 = .ok (.iconst 1, 1) := by decide +kernel
theorem dX12_swap_139 : decode cX12_swap 139 = .ok (.iload_n 3, 1) := by decide +kernel
theorem dX12_swap_140 : decode cX12_swap 140 = .ok (.ishl, 1) := by decide +kernel
theorem dX12_swap_141 : decode cX12_swap 141 = .ok (.ior, 1) := by decide +kernel
theorem dX12_swap_142 : decode cX12_swap 142 = .ok (.iastore, 1) := by decide +kernel
theorem dX12_swap_143 : decode cX12_swap 143 = .ok (.aload_n 0, 1) := by decide +kernel
theorem dX12_swap_144 : decode cX12_swap 144 = .ok (.invokevirtual 193, 3) := by decide +kernel
theorem dX12_swap_147 : decode cX12_swap 147 = .ok (.aload_n 0, 1) := by decide +kernel
theorem dX12_swap_148 : decode cX12_swap 148 = .ok (.aload_n 0, 1) := by decide +kernel
theorem dX12_swap_149 : decode cX12_swap 149 = .ok (.getfield 31, 3) := by decide +kernel
theorem dX12_swap_152 : decode cX12_swap 152 = .ok (.iload_n 1, 1) := by decide +kernel
theorem dX12_swap_153 : decode cX12_swap 153 = .ok (.iaload, 1) := by decide +kernel
theorem dX12_swap_154 : decode cX12_swap 154 = .ok (.invokevirtual 123, 3) := by decide +kernel
theorem dX12_swap_157 : decode cX12_swap 157 = .ok (.ireturn, 1) := by decide +kernel
theorem dX12_mark_0 : decode cX12_mark 0 = .ok (.aload_n 0, 1) := by decide +kernel
theorem dX12_mark_1 : decode cX12_mark 1 = .ok (.iload_n 1, 1) := by decide +kernel
theorem dX12_mark_2 : decode cX12_mark 2 = .ok (.invokevirtual 158, 3) := by decide +kernel
theorem dX12_mark_5 : decode cX12_mark 5 = .ok (.ifCond .eq 11, 3) := by decide +kernel
theorem dX12_mark_8 : decode cX12_mark 8 = .ok (.aload_n 0, 1) := by decide +kernel
theorem dX12_mark_9 : decode cX12_mark 9 = .ok (.iload_n 2, 1) := by decide +kernel
theorem dX12_mark_10 : decode cX12_mark 10 = .ok (.invokevirtual 151, 3) := by decide +kernel
theorem dX12_mark_13 : decode cX12_mark 13 = .ok (.ifCond .ne 7, 3) := by decide +kernel
theorem dX12_mark_16 : decode cX12_mark 16 = .ok (.iconst 1, 1) := by decide +kernel
theorem dX12_mark_17 : decode cX12_mark 17 = .ok (.goto 48, 3) := by decide +kernel
theorem dX12_mark_20 : decode cX12_mark 20 = .ok (.aload_n 0, 1) := by decide +kernel
theorem dX12_mark_21 : decode cX12_mark 21 = .ok (.getfield 31, 3) := by decide +kernel
theorem dX12_mark_24 : decode cX12_mark 24 = .ok (.iload_n 1, 1) := by decide +kernel
theorem dX12_mark_25 : decode cX12_mark 25 = .ok (.iaload, 1) := by decide +kernel
theorem dX12_mark_26 : decode cX12_mark 26 = .ok (.iload_n 2, 1) := by decide +kernel
theorem dX12_mark_27 : decode cX12_mark 27 = .ok (.invokestatic 106, 3) := by decide +kernel
theorem dX12_mark_30 : decode cX12_mark 30 = .ok (.ifCond .ne 7, 3) := by decide +kernel
theorem dX12_mark_33 : decode cX12_mark 33 = .ok (.iconst 2, 1) := by decide +kernel
theorem dX12_mark_34 : decode cX12_mark 34 = .ok (.goto 31, 3) := by decide +kernel
theorem dX12_mark_37 : decode cX12_mark 37 = .ok (.iload_n 3, 1) := by decide +kernel
theorem dX12_mark_38 : decode cX12_mark 38 = .ok (.iconst 0, 1) := by decide +kernel
theorem dX12_mark_39 : decode cX12_mark 39 = .ok (.bipush 100, 2) := by decide +kernel
theorem dX12_mark_41 : decode cX12_mark 41 = .ok (.invokestatic 96, 3) := by decide +kernel
theorem dX12_mark_44 : decode cX12_mark 44 = .ok (.ifCond .ne 7, 3) := by decide +kernel
theorem dX12_mark_47 : decode cX12_mark 47 = .ok (.iconst 3, 1) := by decide +kernel
theorem dX12_mark_48 : decode cX12_mark 48 = .ok (.goto 17, 3) := by decide +kernel
theorem dX12_mark_51 : decode cX12_mark 51 = .ok (.aload_n 0, 1) := by decide +kernel
theorem dX12_mark_52 : decode cX12_mark 52 = .ok (.getfield 164, 3) := by decide +kernel
theorem dX12_mark_55 : decode cX12_mark 55 = .ok (.bipush 20, 2) := by decide +kernel
theorem dX12_mark_57 : decode cX12_mark 57 = .ok (.if_icmp .gt 7, 3) := by decide +kernel
theorem dX12_mark_60 : decode cX12_mark 60 = .ok (.iconst 4, 1) := by decide +kernel
theorem dX12_mark_61 : decode cX12_mark 61 = .ok (.goto 4, 3) := by decide +kernel
theorem dX12_mark_64 : decode cX12_mark 64 = .ok (.iconst 0, 1) := by decide +kernel
theorem dX12_mark_65 : decode cX12_mark 65 = .ok (.istore 4, 2) := by decide +kernel
theorem dX12_mark_67 : decode cX12_mark 67 = .ok (.aload_n 0, 1) := by decide +kernel
theorem dX12_mark_68 : decode cX12_mark 68 = .ok (.iload 4, 2) := by decide +kernel
theorem dX12_mark_70 : decode cX12_mark 70 = .ok (.invokevirtual 144, 3) := by decide +kernel
theorem dX12_mark_73 : decode cX12_mark 73 = .ok (.ifCond .ne 5, 3) := by decide +kernel
theorem dX12_mark_76 : decode cX12_mark 76 = .ok (.iconst 0, 1) := by decide +kernel
theorem dX12_mark_77 : decode cX12_mark 77 = .ok (.ireturn, 1) := by decide +kernel
theorem dX12_mark_78 : decode cX12_mark 78 = .ok (.aload_n 0, 1) := by decide +kernel
theorem dX12_mark_79 : decode cX12_mark 79 = .ok (.getfield 37, 3) := by decide +kernel
theorem dX12_mark_82 : decode cX12_mark 82 = .ok (.iload_n 1, 1) := by decide +kernel
theorem dX12_mark_83 : decode cX12_mark 83 = .ok (.iload_n 2, 1) := by decide +kernel
theorem dX12_mark_84 : decode cX12_mark 84 = .ok (.invokestatic 110, 3) := by decide +kernel
theorem dX12_mark_87 : decode cX12_mark 87 = .ok (.iaload, 1) := by decide +kernel
theorem dX12_mark_88 : decode cX12_mark 88 = .ok (.iconst (-1), 1) := by decide +kernel
theorem dX12_mark_89 : decode cX12_mark 89 = .ok (.if_icmp .eq 7, 3) := by decide +kernel
theorem dX12_mark_92 : decode cX12_mark 92 = .ok (.iconst 1, 1) := by decide +kernel
theorem dX12_mark_93 : decode cX12_mark 93 = .ok (.goto 4, 3) := by decide +kernel
theorem dX12_mark_96 : decode cX12_mark 96 = .ok (.iconst 0, 1) := by decide +kernel
theorem dX12_mark_97 : decode cX12_mark 97 = .ok (.istore 5, 2) := by decide +kernel
theorem dX12_mark_99 : decode cX12_mark 99 = .ok (.aload_n 0, 1) := by decide +kernel
theorem dX12_mark_100 : decode cX12_mark 100 = .ok (.getfield 37, 3) := by decide +kernel
theorem dX12_mark_103 : decode cX12_mark 103 = .ok (.iload_n 1, 1) := by decide +kernel
theorem dX12_mark_104 : decode cX12_mark 104 = .ok (.iload_n 2, 1) := by decide +kernel
theorem dX12_mark_105 : decode cX12_mark 105 = .ok (.invokestatic 110, 3) := by decide +kernel
theorem dX12_mark_108 : decode cX12_mark 108 = .ok (.iload_n 3, 1) := by decide +kernel
theorem dX12_mark_109 : decode cX12_mark 109 = .ok (.iastore, 1) := by decide +kernel
theorem dX12_mark_110 : decode cX12_mark 110 = .ok (.iload 5, 2) := by decide +kernel
theorem dX12_mark_112 : decode cX12_mark 112 = .ok (.ireturn, 1) := by decide +kernel
theorem dX12_endTerm_0 : decode cX12_endTerm 0 = .ok (.aload_n 0, 1) := by decide +kernel
theorem dX12_endTerm_1 : decode cX12_endTerm 1 = .ok (.aload_n 0, 1) := by decide +kernel
theorem dX12_endTerm_2 : decode cX12_endTerm 2 = .ok (.getfield 164, 3) := by decide +kernel
theorem dX12_endTerm_5 : decode cX12_endTerm 5 = .ok (.bipush 20, 2) := by decide +kernel
theorem dX12_endTerm_7 : decode cX12_endTerm 7 = .ok (.if_icmp .gt 7, 3) := by decide +kernel
theorem dX12_endTerm_10 : decode cX12_endTerm 10 = .ok (.iconst 1, 1) := by decide +kernel
theorem dX12_endTerm_11 : decode cX12_endTerm 11 = .ok (.goto 4, 3) := by decide +kernel
theorem dX12_endTerm_14 : decode cX12_endTerm 14 = .ok (.iconst 0, 1) := by decide +kernel
theorem dX12_endTerm_15 : decode cX12_endTerm 15 = .ok (.invokevirtual 144, 3) := by decide +kernel
theorem dX12_endTerm_18 : decode cX12_endTerm 18 = .ok (.ifCond .ne 5, 3) := by decide +kernel
theorem dX12_endTerm_21 : decode cX12_endTerm 21 = .ok (.iconst 0, 1) := by decide +kernel
theorem dX12_endTerm_22 : decode cX12_endTerm 22 = .ok (.ireturn, 1) := by decide +kernel
theorem dX12_endTerm_23 : decode cX12_endTerm 23 = .ok (.iconst 0, 1) := by decide +kernel
theorem dX12_endTerm_24 : decode cX12_endTerm 24 = .ok (.istore_n 1, 1) := by decide +kernel
theorem dX12_endTerm_25 : decode cX12_endTerm 25 = .ok (.iconst 0, 1) := by decide +kernel
theorem dX12_endTerm_26 : decode cX12_endTerm 26 = .ok (.istore_n 2, 1) := by decide +kernel
theorem dX12_endTerm_27 : decode cX12_endTerm 27 = .ok (.iload_n 2, 1) := by decide +kernel
theorem dX12_endTerm_28 : decode cX12_endTerm 28 = .ok (.aload_n 0, 1) := by decide +kernel
theorem dX12_endTerm_29 : decode cX12_endTerm 29 = .ok (.getfield 100, 3) := by decide +kernel
theorem dX12_endTerm_32 : decode cX12_endTerm 32 = .ok (.if_icmp .ge 93, 3) := by decide +kernel
theorem dX12_endTerm_35 : decode cX12_endTerm 35 = .ok (.iconst 0, 1) := by decide +kernel
theorem dX12_endTerm_36 : decode cX12_endTerm 36 = .ok (.istore_n 3, 1) := by decide +kernel
theorem dX12_endTerm_37 : decode cX12_endTerm 37 = .ok (.iload_n 3, 1) := by decide +kernel
theorem dX12_endTerm_38 : decode cX12_endTerm 38 = .ok (.aload_n 0, 1) := by decide +kernel
theorem dX12_endTerm_39 : decode cX12_endTerm 39 = .ok (.getfield 93, 3) := by decide +kernel
theorem dX12_endTerm_42 : decode cX12_endTerm 42 = .ok (.if_icmp .ge 70, 3) := by decide +kernel
theorem dX12_endTerm_45 : decode cX12_endTerm 45 = .ok (.aload_n 0, 1) := by decide +kernel
theorem dX12_endTerm_46 : decode cX12_endTerm 46 = .ok (.getfield 31, 3) := by decide +kernel
theorem dX12_endTerm_49 : decode cX12_endTerm 49 = .ok (.iload_n 2, 1) := by decide +kernel
theorem dX12_endTerm_50 : decode cX12_endTerm 50 = .ok (.iaload, 1) := by decide +kernel
theorem dX12_endTerm_51 : decode cX12_endTerm 51 = .ok (.iload_n 3, 1) := by decide +kernel
theorem dX12_endTerm_52 : decode cX12_endTerm 52 = .ok (.invokestatic 106, 3) := by decide +kernel
theorem dX12_endTerm_55 : decode cX12_endTerm 55 = .ok (.ifCond .eq 40, 3) := by decide +kernel
theorem dX12_endTerm_58 : decode cX12_endTerm 58 = .ok (.aload_n 0, 1) := by decide +kernel
theorem dX12_endTerm_59 : decode cX12_endTerm 59 = .ok (.iload_n 2, 1) := by decide +kernel
theorem dX12_endTerm_60 : decode cX12_endTerm 60 = .ok (.iload_n 3, 1) := by decide +kernel
theorem dX12_endTerm_61 : decode cX12_endTerm 61 = .ok (.aload_n 0, 1) := by decide +kernel
theorem dX12_endTerm_62 : decode cX12_endTerm 62 = .ok (.getfield 37, 3) := by decide +kernel
theorem dX12_endTerm_65 : decode cX12_endTerm 65 = .ok (.iload_n 2, 1) := by decide +kernel
theorem dX12_endTerm_66 : decode cX12_endTerm 66 = .ok (.iload_n 3, 1) := by decide +kernel
theorem dX12_endTerm_67 : decode cX12_endTerm 67 = .ok (.invokestatic 110, 3) := by decide +kernel
theorem dX12_endTerm_70 : decode cX12_endTerm 70 = .ok (.iaload, 1) := by decide +kernel
theorem dX12_endTerm_71 : decode cX12_endTerm 71 = .ok (.iconst (-1), 1) := by decide +kernel
theorem dX12_endTerm_72 : decode cX12_endTerm 72 = .ok (.if_icmp .ne 7, 3) := by decide +kernel
theorem dX12_endTerm_75 : decode cX12_endTerm 75 = .ok (.iconst 0, 1) := by decide +kernel
theorem dX12_endTerm_76 : decode cX12_endTerm 76 = .ok (.goto 13, 3) := by decide +kernel
theorem dX12_endTerm_79 : decode cX12_endTerm 79 = .ok (.aload_n 0, 1) := by decide +kernel
theorem dX12_endTerm_80 : decode cX12_endTerm 80 = .ok (.getfield 37, 3) := by decide +kernel
theorem dX12_endTerm_83 : decode cX12_endTerm 83 = .ok (.iload_n 2, 1) := by decide +kernel
theorem dX12_endTerm_84 : decode cX12_endTerm 84 = .ok (.iload_n 3, 1) := by decide +kernel
theorem dX12_endTerm_85 : decode cX12_endTerm 85 = .ok (.invokestatic 110, 3) := by decide +kernel
theorem dX12_endTerm_88 : decode cX12_endTerm 88 = .ok (.iaload, 1) := by decide +kernel
theorem dX12_endTerm_89 : decode cX12_endTerm 89 = .ok (.invokevirtual 190, 3) := by decide +kernel
theorem dX12_endTerm_92 : decode cX12_endTerm 92 = .ok (.iinc 1 1, 3) := by decide +kernel
theorem dX12_endTerm_95 : decode cX12_endTerm 95 = .ok (.aload_n 0, 1) := by decide +kernel
theorem dX12_endTerm_96 : decode cX12_endTerm 96 = .ok (.getfield 37, 3) := by decide +kernel
theorem dX12_endTerm_99 : decode cX12_endTerm 99 = .ok (.iload_n 2, 1) := by decide +kernel
theorem dX12_endTerm_100 : decode cX12_endTerm 100 = .ok (.iload_n 3, 1) := by decide +kernel
theorem dX12_endTerm_101 : decode cX12_endTerm 101 = .ok (.invokestatic 110, 3) := by decide +kernel
theorem dX12_endTerm_104 : decode cX12_endTerm 104 = .ok (.iconst (-1), 1) := by decide +kernel
theorem dX12_endTerm_105 : decode cX12_endTerm 105 = .ok (.iastore, 1) := by decide +kernel
theorem dX12_endTerm_106 : decode cX12_endTerm 106 = .ok (.iinc 3 1, 3) := by decide +kernel
theorem dX12_endTerm_109 : decode cX12_endTerm 109 = .ok (.goto (-72), 3) := by decide +kernel
theorem dX12_endTerm_112 : decode cX12_endTerm 112 = .ok (.aload_n 0, 1) := by decide +kernel
theorem dX12_endTerm_113 : decode cX12_endTerm 113 = .ok (.getfield 31, 3) := by decide +kernel
theorem dX12_endTerm_116 : decode cX12_endTerm 116 = .ok (.iload_n 2, 1) := by decide +kernel
theorem dX12_endTerm_117 : decode cX12_endTerm 117 = .ok (.iconst 0, 1) := by decide +kernel
theorem dX12_endTerm_118 : decode cX12_endTerm 118 = .ok (.iastore, 1) := by decide +kernel
theorem dX12_endTerm_119 : decode cX12_endTerm 119 = .ok (.iinc 2 1, 3) := by decide +kernel
theorem dX12_endTerm_122 : decode cX12_endTerm 122 = .ok (.goto (-95), 3) := by decide +kernel
theorem dX12_endTerm_125 : decode cX12_endTerm 125 = .ok (.aload_n 0, 1) := by decide +kernel
theorem dX12_endTerm_126 : decode cX12_endTerm 126 = .ok (.iconst 0, 1) := by decide +kernel
theorem dX12_endTerm_127 : decode cX12_endTerm 127 = .ok (.putfield 164, 3) := by decide +kernel
theorem dX12_endTerm_130 : decode cX12_endTerm 130 = .ok (.aload_n 0, 1) := by decide +kernel
theorem dX12_endTerm_131 : decode cX12_endTerm 131 = .ok (.dup, 1) := by decide +kernel
theorem dX12_endTerm_132 : decode cX12_endTerm 132 = .ok (.getfield 199, 3) := by decide +kernel
theorem dX12_endTerm_135 : decode cX12_endTerm 135 = .ok (.iconst 1, 1) := by decide +kernel
theorem dX12_endTerm_136 : decode cX12_endTerm 136 = .ok (.iadd, 1) := by decide +kernel
theorem dX12_endTerm_137 : decode cX12_endTerm 137 = .ok (.putfield 199, 3) := by decide +kernel
theorem dX12_endTerm_140 : decode cX12_endTerm 140 = .ok (.iload_n 1, 1) := by decide +kernel
theorem dX12_endTerm_141 : decode cX12_endTerm 141 = .ok (.ireturn, 1) := by decide +kernel
theorem dX12_moveIn_0 : decode cX12_moveIn 0 = .ok (.aload_n 0, 1) := by decide +kernel
theorem dX12_moveIn_1 : decode cX12_moveIn 1 = .ok (.iload_n 1, 1) := by decide +kernel
theorem dX12_moveIn_2 : decode cX12_moveIn 2 = .ok (.invokevirtual 158, 3) := by decide +kernel
theorem dX12_moveIn_5 : decode cX12_moveIn 5 = .ok (.ifCond .eq 11, 3) := by decide +kernel
theorem dX12_moveIn_8 : decode cX12_moveIn 8 = .ok (.aload_n 0, 1) := by decide +kernel
theorem dX12_moveIn_9 : decode cX12_moveIn 9 = .ok (.iload_n 2, 1) := by decide +kernel
theorem dX12_moveIn_10 : decode cX12_moveIn 10 = .ok (.invokevirtual 151, 3) := by decide +kernel
theorem dX12_moveIn_13 : decode cX12_moveIn 13 = .ok (.ifCond .ne 7, 3) := by decide +kernel
theorem dX12_moveIn_16 : decode cX12_moveIn 16 = .ok (.iconst 1, 1) := by decide +kernel
theorem dX12_moveIn_17 : decode cX12_moveIn 17 = .ok (.goto 17, 3) := by decide +kernel
theorem dX12_moveIn_20 : decode cX12_moveIn 20 = .ok (.aload_n 0, 1) := by decide +kernel
theorem dX12_moveIn_21 : decode cX12_moveIn 21 = .ok (.iload_n 1, 1) := by decide +kernel
theorem dX12_moveIn_22 : decode cX12_moveIn 22 = .ok (.iload_n 2, 1) := by decide +kernel
theorem dX12_moveIn_23 : decode cX12_moveIn 23 = .ok (.invokevirtual 117, 3) := by decide +kernel
theorem dX12_moveIn_26 : decode cX12_moveIn 26 = .ok (.ifCond .eq 7, 3) := by decide +kernel
theorem dX12_moveIn_29 : decode cX12_moveIn 29 = .ok (.iconst 2, 1) := by decide +kernel
theorem dX12_moveIn_30 : decode cX12_moveIn 30 = .ok (.goto 4, 3) := by decide +kernel
theorem dX12_moveIn_33 : decode cX12_moveIn 33 = .ok (.iconst 0, 1) := by decide +kernel
theorem dX12_moveIn_34 : decode cX12_moveIn 34 = .ok (.istore_n 3, 1) := by decide +kernel
theorem dX12_moveIn_35 : decode cX12_moveIn 35 = .ok (.iload_n 3, 1) := by decide +kernel
theorem dX12_moveIn_36 : decode cX12_moveIn 36 = .ok (.ifCond .ne 29, 3) := by decide +kernel
theorem dX12_moveIn_39 : decode cX12_moveIn 39 = .ok (.aload_n 0, 1) := by decide +kernel
theorem dX12_moveIn_40 : decode cX12_moveIn 40 = .ok (.aload_n 0, 1) := by decide +kernel
theorem dX12_moveIn_41 : decode cX12_moveIn 41 = .ok (.getfield 34, 3) := by decide +kernel
theorem dX12_moveIn_44 : decode cX12_moveIn 44 = .ok (.iload_n 1, 1) := by decide +kernel
theorem dX12_moveIn_45 : decode cX12_moveIn 45 = .ok (.iaload, 1) := by decide +kernel
theorem dX12_moveIn_46 : decode cX12_moveIn 46 = .ok (.invokevirtual 123, 3) := by decide +kernel
theorem dX12_moveIn_49 : decode cX12_moveIn 49 = .ok (.aload_n 0, 1) := by decide +kernel
theorem dX12_moveIn_50 : decode cX12_moveIn 50 = .ok (.getfield 9, 3) := by decide +kernel
theorem dX12_moveIn_53 : decode cX12_moveIn 53 = .ok (.iload_n 2, 1) := by decide +kernel
theorem dX12_moveIn_54 : decode cX12_moveIn 54 = .ok (.iaload, 1) := by decide +kernel
theorem dX12_moveIn_55 : decode cX12_moveIn 55 = .ok (.iadd, 1) := by decide +kernel
theorem dX12_moveIn_56 : decode cX12_moveIn 56 = .ok (.bipush 12, 2) := by decide +kernel
theorem dX12_moveIn_58 : decode cX12_moveIn 58 = .ok (.if_icmp .le 7, 3) := by decide +kernel
theorem dX12_moveIn_61 : decode cX12_moveIn 61 = .ok (.iconst 3, 1) := by decide +kernel
theorem dX12_moveIn_62 : decode cX12_moveIn 62 = .ok (.goto 4, 3) := by decide +kernel
theorem dX12_moveIn_65 : decode cX12_moveIn 65 = .ok (.iload_n 3, 1) := by decide +kernel
theorem dX12_moveIn_66 : decode cX12_moveIn 66 = .ok (.istore_n 3, 1) := by decide +kernel
theorem dX12_moveIn_67 : decode cX12_moveIn 67 = .ok (.aload_n 0, 1) := by decide +kernel
theorem dX12_moveIn_68 : decode cX12_moveIn 68 = .ok (.iload_n 3, 1) := by decide +kernel
theorem dX12_moveIn_69 : decode cX12_moveIn 69 = .ok (.invokevirtual 144, 3) := by decide +kernel
theorem dX12_moveIn_72 : decode cX12_moveIn 72 = .ok (.ifCond .ne 5, 3) := by decide +kernel
theorem dX12_moveIn_75 : decode cX12_moveIn 75 = .ok (.iconst 0, 1) := by decide +kernel
theorem dX12_moveIn_76 : decode cX12_moveIn 76 = .ok (.ireturn, 1) := by decide +kernel
theorem dX12_moveIn_77 : decode cX12_moveIn 77 = .ok (.aload_n 0, 1) := by decide +kernel
theorem dX12_moveIn_78 : decode cX12_moveIn 78 = .ok (.getfield 34, 3) := by decide +kernel
theorem dX12_moveIn_81 : decode cX12_moveIn 81 = .ok (.iload_n 1, 1) := by decide +kernel
theorem dX12_moveIn_82 : decode cX12_moveIn 82 = .ok (.dup2, 1) := by decide +kernel
theorem dX12_moveIn_83 : decode cX12_moveIn 83 = .ok (.iaload, 1) := by decide +kernel
theorem dX12_moveIn_84 : decode cX12_moveIn 84 = .ok (.iconst 1, 1) := by decide +kernel
theorem dX12_moveIn_85 : decode cX12_moveIn 85 = .ok (.iload_n 2, 1) := by decide +kernel
theorem dX12_moveIn_86 : decode cX12_moveIn 86 = .ok (.ishl, 1) := by decide +kernel
theorem dX12_moveIn_87 : decode cX12_moveIn 87 = .ok (.ior, 1) := by decide +kernel
theorem dX12_moveIn_88 : decode cX12_moveIn 88 = .ok (.iastore, 1) := by decide +kernel
theorem dX12_moveIn_89 : decode cX12_moveIn 89 = .ok (.aload_n 0, 1) := by decide +kernel
theorem dX12_moveIn_90 : decode cX12_moveIn 90 = .ok (.invokevirtual 193, 3) := by decide +kernel
theorem dX12_moveIn_93 : decode cX12_moveIn 93 = .ok (.aload_n 0, 1) := by decide +kernel
theorem dX12_moveIn_94 : decode cX12_moveIn 94 = .ok (.aload_n 0, 1) := by decide +kernel
theorem dX12_moveIn_95 : decode cX12_moveIn 95 = .ok (.getfield 34, 3) := by decide +kernel
theorem dX12_moveIn_98 : decode cX12_moveIn 98 = .ok (.iload_n 1, 1) := by decide +kernel
theorem dX12_moveIn_99 : decode cX12_moveIn 99 = .ok (.iaload, 1) := by decide +kernel
theorem dX12_moveIn_100 : decode cX12_moveIn 100 = .ok (.invokevirtual 123, 3) := by decide +kernel
theorem dX12_moveIn_103 : decode cX12_moveIn 103 = .ok (.ireturn, 1) := by decide +kernel
theorem dX12_bestMark_0 : decode cX12_bestMark 0 = .ok (.aload_n 0, 1) := by decide +kernel
theorem dX12_bestMark_1 : decode cX12_bestMark 1 = .ok (.iload_n 1, 1) := by decide +kernel
theorem dX12_bestMark_2 : decode cX12_bestMark 2 = .ok (.invokevirtual 158, 3) := by decide +kernel
theorem dX12_bestMark_5 : decode cX12_bestMark 5 = .ok (.ifCond .eq 11, 3) := by decide +kernel
theorem dX12_bestMark_8 : decode cX12_bestMark 8 = .ok (.aload_n 0, 1) := by decide +kernel
theorem dX12_bestMark_9 : decode cX12_bestMark 9 = .ok (.iload_n 2, 1) := by decide +kernel
theorem dX12_bestMark_10 : decode cX12_bestMark 10 = .ok (.invokevirtual 151, 3) := by decide +kernel
theorem dX12_bestMark_13 : decode cX12_bestMark 13 = .ok (.ifCond .ne 7, 3) := by decide +kernel
theorem dX12_bestMark_16 : decode cX12_bestMark 16 = .ok (.iconst 1, 1) := by decide +kernel
theorem dX12_bestMark_17 : decode cX12_bestMark 17 = .ok (.goto 18, 3) := by decide +kernel
theorem dX12_bestMark_20 : decode cX12_bestMark 20 = .ok (.aload_n 0, 1) := by decide +kernel
theorem dX12_bestMark_21 : decode cX12_bestMark 21 = .ok (.iload_n 1, 1) := by decide +kernel
theorem dX12_bestMark_22 : decode cX12_bestMark 22 = .ok (.iload_n 2, 1) := by decide +kernel
theorem dX12_bestMark_23 : decode cX12_bestMark 23 = .ok (.invokevirtual 114, 3) := by decide +kernel
theorem dX12_bestMark_26 : decode cX12_bestMark 26 = .ok (.iconst (-1), 1) := by decide +kernel
theorem dX12_bestMark_27 : decode cX12_bestMark 27 = .ok (.if_icmp .ne 7, 3) := by decide +kernel
theorem dX12_bestMark_30 : decode cX12_bestMark 30 = .ok (.iconst 2, 1) := by decide +kernel
theorem dX12_bestMark_31 : decode cX12_bestMark 31 = .ok (.goto 4, 3) := by decide +kernel
theorem dX12_bestMark_34 : decode cX12_bestMark 34 = .ok (.iconst 0, 1) := by decide +kernel
theorem dX12_bestMark_35 : decode cX12_bestMark 35 = .ok (.istore_n 3, 1) := by decide +kernel
theorem dX12_bestMark_36 : decode cX12_bestMark 36 = .ok (.aload_n 0, 1) := by decide +kernel
theorem dX12_bestMark_37 : decode cX12_bestMark 37 = .ok (.iload_n 3, 1) := by decide +kernel
theorem dX12_bestMark_38 : decode cX12_bestMark 38 = .ok (.invokevirtual 144, 3) := by decide +kernel
theorem dX12_bestMark_41 : decode cX12_bestMark 41 = .ok (.ifCond .eq 12, 3) := by decide +kernel
theorem dX12_bestMark_44 : decode cX12_bestMark 44 = .ok (.aload_n 0, 1) := by decide +kernel
theorem dX12_bestMark_45 : decode cX12_bestMark 45 = .ok (.iload_n 1, 1) := by decide +kernel
theorem dX12_bestMark_46 : decode cX12_bestMark 46 = .ok (.iload_n 2, 1) := by decide +kernel
theorem dX12_bestMark_47 : decode cX12_bestMark 47 = .ok (.invokevirtual 114, 3) := by decide +kernel
theorem dX12_bestMark_50 : decode cX12_bestMark 50 = .ok (.goto 4, 3) := by decide +kernel
theorem dX12_bestMark_53 : decode cX12_bestMark 53 = .ok (.iconst 0, 1) := by decide +kernel
theorem dX12_bestMark_54 : decode cX12_bestMark 54 = .ok (.ireturn, 1) := by decide +kernel
theorem dX12_attempts_0 : decode cX12_attempts 0 = .ok (.aload_n 0, 1) := by decide +kernel
theorem dX12_attempts_1 : decode cX12_attempts 1 = .ok (.aload_n 0, 1) := by decide +kernel
theorem dX12_attempts_2 : decode cX12_attempts 2 = .ok (.iload_n 1, 1) := by decide +kernel
theorem dX12_attempts_3 : decode cX12_attempts 3 = .ok (.invokevirtual 158, 3) := by decide +kernel
theorem dX12_attempts_6 : decode cX12_attempts 6 = .ok (.ifCond .eq 15, 3) := by decide +kernel
theorem dX12_attempts_9 : decode cX12_attempts 9 = .ok (.aload_n 0, 1) := by decide +kernel
theorem dX12_attempts_10 : decode cX12_attempts 10 = .ok (.iload_n 2, 1) := by decide +kernel
theorem dX12_attempts_11 : decode cX12_attempts 11 = .ok (.invokevirtual 151, 3) := by decide +kernel
theorem dX12_attempts_14 : decode cX12_attempts 14 = .ok (.ifCond .eq 7, 3) := by decide +kernel
theorem dX12_attempts_17 : decode cX12_attempts 17 = .ok (.iconst 0, 1) := by decide +kernel
theorem dX12_attempts_18 : decode cX12_attempts 18 = .ok (.goto 4, 3) := by decide +kernel
theorem dX12_attempts_21 : decode cX12_attempts 21 = .ok (.iconst 1, 1) := by decide +kernel
theorem dX12_attempts_22 : decode cX12_attempts 22 = .ok (.invokevirtual 144, 3) := by decide +kernel
theorem dX12_attempts_25 : decode cX12_attempts 25 = .ok (.ifCond .eq 16, 3) := by decide +kernel
theorem dX12_attempts_28 : decode cX12_attempts 28 = .ok (.aload_n 0, 1) := by decide +kernel
theorem dX12_attempts_29 : decode cX12_attempts 29 = .ok (.getfield 40, 3) := by decide +kernel
theorem dX12_attempts_32 : decode cX12_attempts 32 = .ok (.iload_n 1, 1) := by decide +kernel
theorem dX12_attempts_33 : decode cX12_attempts 33 = .ok (.iload_n 2, 1) := by decide +kernel
theorem dX12_attempts_34 : decode cX12_attempts 34 = .ok (.invokestatic 110, 3) := by decide +kernel
theorem dX12_attempts_37 : decode cX12_attempts 37 = .ok (.iaload, 1) := by decide +kernel
theorem dX12_attempts_38 : decode cX12_attempts 38 = .ok (.goto 4, 3) := by decide +kernel
theorem dX12_attempts_41 : decode cX12_attempts 41 = .ok (.iconst 0, 1) := by decide +kernel
theorem dX12_attempts_42 : decode cX12_attempts 42 = .ok (.ireturn, 1) := by decide +kernel
theorem dX12_earnedCredits_0 : decode cX12_earnedCredits 0 = .ok (.aload_n 0, 1) := by decide +kernel
theorem dX12_earnedCredits_1 : decode cX12_earnedCredits 1 = .ok (.aload_n 0, 1) := by decide +kernel
theorem dX12_earnedCredits_2 : decode cX12_earnedCredits 2 = .ok (.iload_n 1, 1) := by decide +kernel
theorem dX12_earnedCredits_3 : decode cX12_earnedCredits 3 = .ok (.invokevirtual 158, 3) := by decide +kernel
theorem dX12_earnedCredits_6 : decode cX12_earnedCredits 6 = .ok (.ifCond .eq 7, 3) := by decide +kernel
theorem dX12_earnedCredits_9 : decode cX12_earnedCredits 9 = .ok (.iconst 0, 1) := by decide +kernel
theorem dX12_earnedCredits_10 : decode cX12_earnedCredits 10 = .ok (.goto 4, 3) := by decide +kernel
theorem dX12_earnedCredits_13 : decode cX12_earnedCredits 13 = .ok (.iconst 1, 1) := by decide +kernel
theorem dX12_earnedCredits_14 : decode cX12_earnedCredits 14 = .ok (.invokevirtual 144, 3) := by decide +kernel
theorem dX12_earnedCredits_17 : decode cX12_earnedCredits 17 = .ok (.ifCond .eq 11, 3) := by decide +kernel
theorem dX12_earnedCredits_20 : decode cX12_earnedCredits 20 = .ok (.aload_n 0, 1) := by decide +kernel
theorem dX12_earnedCredits_21 : decode cX12_earnedCredits 21 = .ok (.iload_n 1, 1) := by decide +kernel
theorem dX12_earnedCredits_22 : decode cX12_earnedCredits 22 = .ok (.invokevirtual 127, 3) := by decide +kernel
theorem dX12_earnedCredits_25 : decode cX12_earnedCredits 25 = .ok (.goto 4, 3) := by decide +kernel
theorem dX12_earnedCredits_28 : decode cX12_earnedCredits 28 = .ok (.iconst 0, 1) := by decide +kernel
theorem dX12_earnedCredits_29 : decode cX12_earnedCredits 29 = .ok (.ireturn, 1) := by decide +kernel
theorem dX12_allEarned_0 : decode cX12_allEarned 0 = .ok (.aload_n 0, 1) := by decide +kernel
theorem dX12_allEarned_1 : decode cX12_allEarned 1 = .ok (.iconst 0, 1) := by decide +kernel
theorem dX12_allEarned_2 : decode cX12_allEarned 2 = .ok (.putfield 89, 3) := by decide +kernel
theorem dX12_allEarned_5 : decode cX12_allEarned 5 = .ok (.lconst 0, 1) := by decide +kernel
theorem dX12_allEarned_6 : decode cX12_allEarned 6 = .ok (.lstore_n 1, 1) := by decide +kernel
theorem dX12_allEarned_7 : decode cX12_allEarned 7 = .ok (.iconst 0, 1) := by decide +kernel
theorem dX12_allEarned_8 : decode cX12_allEarned 8 = .ok (.istore_n 3, 1) := by decide +kernel
theorem dX12_allEarned_9 : decode cX12_allEarned 9 = .ok (.iload_n 3, 1) := by decide +kernel
theorem dX12_allEarned_10 : decode cX12_allEarned 10 = .ok (.aload_n 0, 1) := by decide +kernel
theorem dX12_allEarned_11 : decode cX12_allEarned 11 = .ok (.getfield 100, 3) := by decide +kernel
theorem dX12_allEarned_14 : decode cX12_allEarned 14 = .ok (.if_icmp .ge 18, 3) := by decide +kernel
theorem dX12_allEarned_17 : decode cX12_allEarned 17 = .ok (.lload_n 1, 1) := by decide +kernel
theorem dX12_allEarned_18 : decode cX12_allEarned 18 = .ok (.aload_n 0, 1) := by decide +kernel
theorem dX12_allEarned_19 : decode cX12_allEarned 19 = .ok (.iload_n 3, 1) := by decide +kernel
theorem dX12_allEarned_20 : decode cX12_allEarned 20 = .ok (.invokevirtual 127, 3) := by decide +kernel
theorem dX12_allEarned_23 : decode cX12_allEarned 23 = .ok (.i2l, 1) := by decide +kernel
theorem dX12_allEarned_24 : decode cX12_allEarned 24 = .ok (.ladd, 1) := by decide +kernel
theorem dX12_allEarned_25 : decode cX12_allEarned 25 = .ok (.lstore_n 1, 1) := by decide +kernel
theorem dX12_allEarned_26 : decode cX12_allEarned 26 = .ok (.iinc 3 1, 3) := by decide +kernel
theorem dX12_allEarned_29 : decode cX12_allEarned 29 = .ok (.goto (-20), 3) := by decide +kernel
theorem dX12_allEarned_32 : decode cX12_allEarned 32 = .ok (.lload_n 1, 1) := by decide +kernel
theorem dX12_allEarned_33 : decode cX12_allEarned 33 = .ok (.lreturn, 1) := by decide +kernel
theorem dX12_lastMark_0 : decode cX12_lastMark 0 = .ok (.iconst (-1), 1) := by decide +kernel
theorem dX12_lastMark_1 : decode cX12_lastMark 1 = .ok (.istore_n 3, 1) := by decide +kernel
theorem dX12_lastMark_2 : decode cX12_lastMark 2 = .ok (.iconst 0, 1) := by decide +kernel
theorem dX12_lastMark_3 : decode cX12_lastMark 3 = .ok (.istore 4, 2) := by decide +kernel
theorem dX12_lastMark_5 : decode cX12_lastMark 5 = .ok (.iload 4, 2) := by decide +kernel
theorem dX12_lastMark_7 : decode cX12_lastMark 7 = .ok (.aload_n 0, 1) := by decide +kernel
theorem dX12_lastMark_8 : decode cX12_lastMark 8 = .ok (.getfield 40, 3) := by decide +kernel
theorem dX12_lastMark_11 : decode cX12_lastMark 11 = .ok (.iload_n 1, 1) := by decide +kernel
theorem dX12_lastMark_12 : decode cX12_lastMark 12 = .ok (.iload_n 2, 1) := by decide +kernel
theorem dX12_lastMark_13 : decode cX12_lastMark 13 = .ok (.invokestatic 110, 3) := by decide +kernel
theorem dX12_lastMark_16 : decode cX12_lastMark 16 = .ok (.iaload, 1) := by decide +kernel
theorem dX12_lastMark_17 : decode cX12_lastMark 17 = .ok (.if_icmp .ge 39, 3) := by decide +kernel
theorem dX12_lastMark_20 : decode cX12_lastMark 20 = .ok (.aload_n 0, 1) := by decide +kernel
theorem dX12_lastMark_21 : decode cX12_lastMark 21 = .ok (.getfield 43, 3) := by decide +kernel
theorem dX12_lastMark_24 : decode cX12_lastMark 24 = .ok (.iconst 3, 1) := by decide +kernel
theorem dX12_lastMark_25 : decode cX12_lastMark 25 = .ok (.iload_n 1, 1) := by decide +kernel
theorem dX12_lastMark_26 : decode cX12_lastMark 26 = .ok (.iload_n 2, 1) := by decide +kernel
theorem dX12_lastMark_27 : decode cX12_lastMark 27 = .ok (.invokestatic 110, 3) := by decide +kernel
theorem dX12_lastMark_30 : decode cX12_lastMark 30 = .ok (.imul, 1) := by decide +kernel
theorem dX12_lastMark_31 : decode cX12_lastMark 31 = .ok (.iload 4, 2) := by decide +kernel
theorem dX12_lastMark_33 : decode cX12_lastMark 33 = .ok (.iadd, 1) := by decide +kernel
theorem dX12_lastMark_34 : decode cX12_lastMark 34 = .ok (.iaload, 1) := by decide +kernel
theorem dX12_lastMark_35 : decode cX12_lastMark 35 = .ok (.istore 5, 2) := by decide +kernel
theorem dX12_lastMark_37 : decode cX12_lastMark 37 = .ok (.iload 5, 2) := by decide +kernel
theorem dX12_lastMark_39 : decode cX12_lastMark 39 = .ok (.iconst (-1), 1) := by decide +kernel
theorem dX12_lastMark_40 : decode cX12_lastMark 40 = .ok (.if_icmp .ne 7, 3) := by decide +kernel
theorem dX12_lastMark_43 : decode cX12_lastMark 43 = .ok (.iload_n 3, 1) := by decide +kernel
theorem dX12_lastMark_44 : decode cX12_lastMark 44 = .ok (.goto 5, 3) := by decide +kernel
theorem dX12_lastMark_47 : decode cX12_lastMark 47 = .ok (.iload 5, 2) := by decide +kernel
theorem dX12_lastMark_49 : decode cX12_lastMark 49 = .ok (.istore_n 3, 1) := by decide +kernel
theorem dX12_lastMark_50 : decode cX12_lastMark 50 = .ok (.iinc 4 1, 3) := by decide +kernel
theorem dX12_lastMark_53 : decode cX12_lastMark 53 = .ok (.goto (-48), 3) := by decide +kernel
theorem dX12_lastMark_56 : decode cX12_lastMark 56 = .ok (.iload_n 3, 1) := by decide +kernel
theorem dX12_lastMark_57 : decode cX12_lastMark 57 = .ok (.ireturn, 1) := by decide +kernel
theorem dX12_average_0 : decode cX12_average 0 = .ok (.iconst 0, 1) := by decide +kernel
theorem dX12_average_1 : decode cX12_average 1 = .ok (.istore_n 2, 1) := by decide +kernel
theorem dX12_average_2 : decode cX12_average 2 = .ok (.iconst 0, 1) := by decide +kernel
theorem dX12_average_3 : decode cX12_average 3 = .ok (.istore_n 3, 1) := by decide +kernel
theorem dX12_average_4 : decode cX12_average 4 = .ok (.iconst 0, 1) := by decide +kernel
theorem dX12_average_5 : decode cX12_average 5 = .ok (.istore 4, 2) := by decide +kernel
theorem dX12_average_7 : decode cX12_average 7 = .ok (.iload 4, 2) := by decide +kernel
theorem dX12_average_9 : decode cX12_average 9 = .ok (.aload_n 0, 1) := by decide +kernel
theorem dX12_average_10 : decode cX12_average 10 = .ok (.getfield 93, 3) := by decide +kernel
theorem dX12_average_13 : decode cX12_average 13 = .ok (.if_icmp .ge 69, 3) := by decide +kernel
theorem dX12_average_16 : decode cX12_average 16 = .ok (.aload_n 0, 1) := by decide +kernel
theorem dX12_average_17 : decode cX12_average 17 = .ok (.iload_n 1, 1) := by decide +kernel
theorem dX12_average_18 : decode cX12_average 18 = .ok (.invokevirtual 158, 3) := by decide +kernel
theorem dX12_average_21 : decode cX12_average 21 = .ok (.ifCond .eq 61, 3) := by decide +kernel
theorem dX12_average_24 : decode cX12_average 24 = .ok (.aload_n 0, 1) := by decide +kernel
theorem dX12_average_25 : decode cX12_average 25 = .ok (.iload_n 1, 1) := by decide +kernel
theorem dX12_average_26 : decode cX12_average 26 = .ok (.iload 4, 2) := by decide +kernel
theorem dX12_average_28 : decode cX12_average 28 = .ok (.invokevirtual 227, 3) := by decide +kernel
theorem dX12_average_31 : decode cX12_average 31 = .ok (.istore 5, 2) := by decide +kernel
theorem dX12_average_33 : decode cX12_average 33 = .ok (.iload_n 2, 1) := by decide +kernel
theorem dX12_average_34 : decode cX12_average 34 = .ok (.iload 5, 2) := by decide +kernel
theorem dX12_average_36 : decode cX12_average 36 = .ok (.iconst (-1), 1) := by decide +kernel
theorem dX12_average_37 : decode cX12_average 37 = .ok (.if_icmp .ne 7, 3) := by decide +kernel
theorem dX12_average_40 : decode cX12_average 40 = .ok (.iconst 0, 1) := by decide +kernel
theorem dX12_average_41 : decode cX12_average 41 = .ok (.goto 13, 3) := by decide +kernel
theorem dX12_average_44 : decode cX12_average 44 = .ok (.iload 5, 2) := by decide +kernel
theorem dX12_average_46 : decode cX12_average 46 = .ok (.aload_n 0, 1) := by decide +kernel
theorem dX12_average_47 : decode cX12_average 47 = .ok (.getfield 9, 3) := by decide +kernel
theorem dX12_average_50 : decode cX12_average 50 = .ok (.iload 4, 2) := by decide +kernel
theorem dX12_average_52 : decode cX12_average 52 = .ok (.iaload, 1) := by decide +kernel
theorem dX12_average_53 : decode cX12_average 53 = .ok (.imul, 1) := by decide +kernel
theorem dX12_average_54 : decode cX12_average 54 = .ok (.iadd, 1) := by decide +kernel
theorem dX12_average_55 : decode cX12_average 55 = .ok (.istore_n 2, 1) := by decide +kernel
theorem dX12_average_56 : decode cX12_average 56 = .ok (.iload_n 3, 1) := by decide +kernel
theorem dX12_average_57 : decode cX12_average 57 = .ok (.iload 5, 2) := by decide +kernel
theorem dX12_average_59 : decode cX12_average 59 = .ok (.iconst (-1), 1) := by decide +kernel
theorem dX12_average_60 : decode cX12_average 60 = .ok (.if_icmp .ne 7, 3) := by decide +kernel
theorem dX12_average_63 : decode cX12_average 63 = .ok (.iconst 0, 1) := by decide +kernel
theorem dX12_average_64 : decode cX12_average 64 = .ok (.goto 10, 3) := by decide +kernel
theorem dX12_average_67 : decode cX12_average 67 = .ok (.aload_n 0, 1) := by decide +kernel
theorem dX12_average_68 : decode cX12_average 68 = .ok (.getfield 9, 3) := by decide +kernel
theorem dX12_average_71 : decode cX12_average 71 = .ok (.iload 4, 2) := by decide +kernel
theorem dX12_average_73 : decode cX12_average 73 = .ok (.iaload, 1) := by decide +kernel
theorem dX12_average_74 : decode cX12_average 74 = .ok (.iadd, 1) := by decide +kernel
theorem dX12_average_75 : decode cX12_average 75 = .ok (.istore_n 3, 1) := by decide +kernel
theorem dX12_average_76 : decode cX12_average 76 = .ok (.iinc 4 1, 3) := by decide +kernel
theorem dX12_average_79 : decode cX12_average 79 = .ok (.goto (-72), 3) := by decide +kernel
theorem dX12_average_82 : decode cX12_average 82 = .ok (.aload_n 0, 1) := by decide +kernel
theorem dX12_average_83 : decode cX12_average 83 = .ok (.aload_n 0, 1) := by decide +kernel
theorem dX12_average_84 : decode cX12_average 84 = .ok (.iload_n 1, 1) := by decide +kernel
theorem dX12_average_85 : decode cX12_average 85 = .ok (.invokevirtual 158, 3) := by decide +kernel
theorem dX12_average_88 : decode cX12_average 88 = .ok (.ifCond .ne 7, 3) := by decide +kernel
theorem dX12_average_91 : decode cX12_average 91 = .ok (.iconst 1, 1) := by decide +kernel
theorem dX12_average_92 : decode cX12_average 92 = .ok (.goto 12, 3) := by decide +kernel
theorem dX12_average_95 : decode cX12_average 95 = .ok (.iload_n 3, 1) := by decide +kernel
theorem dX12_average_96 : decode cX12_average 96 = .ok (.ifCond .ne 7, 3) := by decide +kernel
theorem dX12_average_99 : decode cX12_average 99 = .ok (.iconst 2, 1) := by decide +kernel
theorem dX12_average_100 : decode cX12_average 100 = .ok (.goto 4, 3) := by decide +kernel
theorem dX12_average_103 : decode cX12_average 103 = .ok (.iconst 0, 1) := by decide +kernel
theorem dX12_average_104 : decode cX12_average 104 = .ok (.invokevirtual 144, 3) := by decide +kernel
theorem dX12_average_107 : decode cX12_average 107 = .ok (.ifCond .eq 11, 3) := by decide +kernel
theorem dX12_average_110 : decode cX12_average 110 = .ok (.iload_n 2, 1) := by decide +kernel
theorem dX12_average_111 : decode cX12_average 111 = .ok (.i2d, 1) := by decide +kernel
theorem dX12_average_112 : decode cX12_average 112 = .ok (.iload_n 3, 1) := by decide +kernel
theorem dX12_average_113 : decode cX12_average 113 = .ok (.i2d, 1) := by decide +kernel
theorem dX12_average_114 : decode cX12_average 114 = .ok (.ddiv, 1) := by decide +kernel
theorem dX12_average_115 : decode cX12_average 115 = .ok (.goto 4, 3) := by decide +kernel
theorem dX12_average_118 : decode cX12_average 118 = .ok (.dconst 0, 1) := by decide +kernel
theorem dX12_average_119 : decode cX12_average 119 = .ok (.dreturn, 1) := by decide +kernel
theorem dX12_load_0 : decode cX12_load 0 = .ok (.aload_n 0, 1) := by decide +kernel
theorem dX12_load_1 : decode cX12_load 1 = .ok (.aload_n 0, 1) := by decide +kernel
theorem dX12_load_2 : decode cX12_load 2 = .ok (.iload_n 1, 1) := by decide +kernel
theorem dX12_load_3 : decode cX12_load 3 = .ok (.invokevirtual 158, 3) := by decide +kernel
theorem dX12_load_6 : decode cX12_load 6 = .ok (.ifCond .eq 7, 3) := by decide +kernel
theorem dX12_load_9 : decode cX12_load 9 = .ok (.iconst 0, 1) := by decide +kernel
theorem dX12_load_10 : decode cX12_load 10 = .ok (.goto 4, 3) := by decide +kernel
theorem dX12_load_13 : decode cX12_load 13 = .ok (.iconst 1, 1) := by decide +kernel
theorem dX12_load_14 : decode cX12_load 14 = .ok (.invokevirtual 144, 3) := by decide +kernel
theorem dX12_load_17 : decode cX12_load 17 = .ok (.ifCond .eq 16, 3) := by decide +kernel
theorem dX12_load_20 : decode cX12_load 20 = .ok (.aload_n 0, 1) := by decide +kernel
theorem dX12_load_21 : decode cX12_load 21 = .ok (.aload_n 0, 1) := by decide +kernel
theorem dX12_load_22 : decode cX12_load 22 = .ok (.getfield 31, 3) := by decide +kernel
theorem dX12_load_25 : decode cX12_load 25 = .ok (.iload_n 1, 1) := by decide +kernel
theorem dX12_load_26 : decode cX12_load 26 = .ok (.iaload, 1) := by decide +kernel
theorem dX12_load_27 : decode cX12_load 27 = .ok (.invokevirtual 123, 3) := by decide +kernel
theorem dX12_load_30 : decode cX12_load 30 = .ok (.goto 4, 3) := by decide +kernel
theorem dX12_load_33 : decode cX12_load 33 = .ok (.iconst 0, 1) := by decide +kernel
theorem dX12_load_34 : decode cX12_load 34 = .ok (.ireturn, 1) := by decide +kernel
theorem dX12_isEnrolled_0 : decode cX12_isEnrolled 0 = .ok (.aload_n 0, 1) := by decide +kernel
theorem dX12_isEnrolled_1 : decode cX12_isEnrolled 1 = .ok (.aload_n 0, 1) := by decide +kernel
theorem dX12_isEnrolled_2 : decode cX12_isEnrolled 2 = .ok (.iload_n 1, 1) := by decide +kernel
theorem dX12_isEnrolled_3 : decode cX12_isEnrolled 3 = .ok (.invokevirtual 158, 3) := by decide +kernel
theorem dX12_isEnrolled_6 : decode cX12_isEnrolled 6 = .ok (.ifCond .eq 15, 3) := by decide +kernel
theorem dX12_isEnrolled_9 : decode cX12_isEnrolled 9 = .ok (.aload_n 0, 1) := by decide +kernel
theorem dX12_isEnrolled_10 : decode cX12_isEnrolled 10 = .ok (.iload_n 2, 1) := by decide +kernel
theorem dX12_isEnrolled_11 : decode cX12_isEnrolled 11 = .ok (.invokevirtual 151, 3) := by decide +kernel
theorem dX12_isEnrolled_14 : decode cX12_isEnrolled 14 = .ok (.ifCond .eq 7, 3) := by decide +kernel
theorem dX12_isEnrolled_17 : decode cX12_isEnrolled 17 = .ok (.iconst 0, 1) := by decide +kernel
theorem dX12_isEnrolled_18 : decode cX12_isEnrolled 18 = .ok (.goto 4, 3) := by decide +kernel
theorem dX12_isEnrolled_21 : decode cX12_isEnrolled 21 = .ok (.iconst 1, 1) := by decide +kernel
theorem dX12_isEnrolled_22 : decode cX12_isEnrolled 22 = .ok (.invokevirtual 144, 3) := by decide +kernel
theorem dX12_isEnrolled_25 : decode cX12_isEnrolled 25 = .ok (.ifCond .eq 20, 3) := by decide +kernel
theorem dX12_isEnrolled_28 : decode cX12_isEnrolled 28 = .ok (.aload_n 0, 1) := by decide +kernel
theorem dX12_isEnrolled_29 : decode cX12_isEnrolled 29 = .ok (.getfield 31, 3) := by decide +kernel
theorem dX12_isEnrolled_32 : decode cX12_isEnrolled 32 = .ok (.iload_n 1, 1) := by decide +kernel
theorem dX12_isEnrolled_33 : decode cX12_isEnrolled 33 = .ok (.iaload, 1) := by decide +kernel
theorem dX12_isEnrolled_34 : decode cX12_isEnrolled 34 = .ok (.iload_n 2, 1) := by decide +kernel
theorem dX12_isEnrolled_35 : decode cX12_isEnrolled 35 = .ok (.invokestatic 106, 3) := by decide +kernel
theorem dX12_isEnrolled_38 : decode cX12_isEnrolled 38 = .ok (.ifCond .eq 7, 3) := by decide +kernel
theorem dX12_isEnrolled_41 : decode cX12_isEnrolled 41 = .ok (.iconst 1, 1) := by decide +kernel
theorem dX12_isEnrolled_42 : decode cX12_isEnrolled 42 = .ok (.goto 4, 3) := by decide +kernel
theorem dX12_isEnrolled_45 : decode cX12_isEnrolled 45 = .ok (.iconst 0, 1) := by decide +kernel
theorem dX12_isEnrolled_46 : decode cX12_isEnrolled 46 = .ok (.ireturn, 1) := by decide +kernel
theorem dX12_enrolled_0 : decode cX12_enrolled 0 = .ok (.aload_n 0, 1) := by decide +kernel
theorem dX12_enrolled_1 : decode cX12_enrolled 1 = .ok (.aload_n 0, 1) := by decide +kernel
theorem dX12_enrolled_2 : decode cX12_enrolled 2 = .ok (.iload_n 1, 1) := by decide +kernel
theorem dX12_enrolled_3 : decode cX12_enrolled 3 = .ok (.invokevirtual 151, 3) := by decide +kernel
theorem dX12_enrolled_6 : decode cX12_enrolled 6 = .ok (.ifCond .eq 7, 3) := by decide +kernel
theorem dX12_enrolled_9 : decode cX12_enrolled 9 = .ok (.iconst 0, 1) := by decide +kernel
theorem dX12_enrolled_10 : decode cX12_enrolled 10 = .ok (.goto 4, 3) := by decide +kernel
theorem dX12_enrolled_13 : decode cX12_enrolled 13 = .ok (.iconst 1, 1) := by decide +kernel
theorem dX12_enrolled_14 : decode cX12_enrolled 14 = .ok (.invokevirtual 144, 3) := by decide +kernel
theorem dX12_enrolled_17 : decode cX12_enrolled 17 = .ok (.ifCond .eq 11, 3) := by decide +kernel
theorem dX12_enrolled_20 : decode cX12_enrolled 20 = .ok (.aload_n 0, 1) := by decide +kernel
theorem dX12_enrolled_21 : decode cX12_enrolled 21 = .ok (.iload_n 1, 1) := by decide +kernel
theorem dX12_enrolled_22 : decode cX12_enrolled 22 = .ok (.invokevirtual 161, 3) := by decide +kernel
theorem dX12_enrolled_25 : decode cX12_enrolled 25 = .ok (.goto 4, 3) := by decide +kernel
theorem dX12_enrolled_28 : decode cX12_enrolled 28 = .ok (.iconst 0, 1) := by decide +kernel
theorem dX12_enrolled_29 : decode cX12_enrolled 29 = .ok (.ireturn, 1) := by decide +kernel
theorem dX12_waiting_0 : decode cX12_waiting 0 = .ok (.aload_n 0, 1) := by decide +kernel
theorem dX12_waiting_1 : decode cX12_waiting 1 = .ok (.aload_n 0, 1) := by decide +kernel
theorem dX12_waiting_2 : decode cX12_waiting 2 = .ok (.iload_n 1, 1) := by decide +kernel
theorem dX12_waiting_3 : decode cX12_waiting 3 = .ok (.invokevirtual 151, 3) := by decide +kernel
theorem dX12_waiting_6 : decode cX12_waiting 6 = .ok (.ifCond .eq 7, 3) := by decide +kernel
theorem dX12_waiting_9 : decode cX12_waiting 9 = .ok (.iconst 0, 1) := by decide +kernel
theorem dX12_waiting_10 : decode cX12_waiting 10 = .ok (.goto 4, 3) := by decide +kernel
theorem dX12_waiting_13 : decode cX12_waiting 13 = .ok (.iconst 1, 1) := by decide +kernel
theorem dX12_waiting_14 : decode cX12_waiting 14 = .ok (.invokevirtual 144, 3) := by decide +kernel
theorem dX12_waiting_17 : decode cX12_waiting 17 = .ok (.ifCond .eq 12, 3) := by decide +kernel
theorem dX12_waiting_20 : decode cX12_waiting 20 = .ok (.aload_n 0, 1) := by decide +kernel
theorem dX12_waiting_21 : decode cX12_waiting 21 = .ok (.getfield 22, 3) := by decide +kernel
theorem dX12_waiting_24 : decode cX12_waiting 24 = .ok (.iload_n 1, 1) := by decide +kernel
theorem dX12_waiting_25 : decode cX12_waiting 25 = .ok (.iaload, 1) := by decide +kernel
theorem dX12_waiting_26 : decode cX12_waiting 26 = .ok (.goto 4, 3) := by decide +kernel
theorem dX12_waiting_29 : decode cX12_waiting 29 = .ok (.iconst 0, 1) := by decide +kernel
theorem dX12_waiting_30 : decode cX12_waiting 30 = .ok (.ireturn, 1) := by decide +kernel
theorem dX12_placeOf_0 : decode cX12_placeOf 0 = .ok (.aload_n 0, 1) := by decide +kernel
theorem dX12_placeOf_1 : decode cX12_placeOf 1 = .ok (.iload_n 1, 1) := by decide +kernel
theorem dX12_placeOf_2 : decode cX12_placeOf 2 = .ok (.invokevirtual 158, 3) := by decide +kernel
theorem dX12_placeOf_5 : decode cX12_placeOf 5 = .ok (.ifCond .eq 11, 3) := by decide +kernel
theorem dX12_placeOf_8 : decode cX12_placeOf 8 = .ok (.aload_n 0, 1) := by decide +kernel
theorem dX12_placeOf_9 : decode cX12_placeOf 9 = .ok (.iload_n 2, 1) := by decide +kernel
theorem dX12_placeOf_10 : decode cX12_placeOf 10 = .ok (.invokevirtual 151, 3) := by decide +kernel
theorem dX12_placeOf_13 : decode cX12_placeOf 13 = .ok (.ifCond .ne 7, 3) := by decide +kernel
theorem dX12_placeOf_16 : decode cX12_placeOf 16 = .ok (.iconst 1, 1) := by decide +kernel
theorem dX12_placeOf_17 : decode cX12_placeOf 17 = .ok (.goto 18, 3) := by decide +kernel
theorem dX12_placeOf_20 : decode cX12_placeOf 20 = .ok (.aload_n 0, 1) := by decide +kernel
theorem dX12_placeOf_21 : decode cX12_placeOf 21 = .ok (.iload_n 2, 1) := by decide +kernel
theorem dX12_placeOf_22 : decode cX12_placeOf 22 = .ok (.iload_n 1, 1) := by decide +kernel
theorem dX12_placeOf_23 : decode cX12_placeOf 23 = .ok (.invokevirtual 202, 3) := by decide +kernel
theorem dX12_placeOf_26 : decode cX12_placeOf 26 = .ok (.iconst (-1), 1) := by decide +kernel
theorem dX12_placeOf_27 : decode cX12_placeOf 27 = .ok (.if_icmp .ne 7, 3) := by decide +kernel
theorem dX12_placeOf_30 : decode cX12_placeOf 30 = .ok (.iconst 2, 1) := by decide +kernel
theorem dX12_placeOf_31 : decode cX12_placeOf 31 = .ok (.goto 4, 3) := by decide +kernel
theorem dX12_placeOf_34 : decode cX12_placeOf 34 = .ok (.iconst 0, 1) := by decide +kernel
theorem dX12_placeOf_35 : decode cX12_placeOf 35 = .ok (.istore_n 3, 1) := by decide +kernel
theorem dX12_placeOf_36 : decode cX12_placeOf 36 = .ok (.aload_n 0, 1) := by decide +kernel
theorem dX12_placeOf_37 : decode cX12_placeOf 37 = .ok (.iload_n 3, 1) := by decide +kernel
theorem dX12_placeOf_38 : decode cX12_placeOf 38 = .ok (.invokevirtual 144, 3) := by decide +kernel
theorem dX12_placeOf_41 : decode cX12_placeOf 41 = .ok (.ifCond .eq 12, 3) := by decide +kernel
theorem dX12_placeOf_44 : decode cX12_placeOf 44 = .ok (.aload_n 0, 1) := by decide +kernel
theorem dX12_placeOf_45 : decode cX12_placeOf 45 = .ok (.iload_n 2, 1) := by decide +kernel
theorem dX12_placeOf_46 : decode cX12_placeOf 46 = .ok (.iload_n 1, 1) := by decide +kernel
theorem dX12_placeOf_47 : decode cX12_placeOf 47 = .ok (.invokevirtual 202, 3) := by decide +kernel
theorem dX12_placeOf_50 : decode cX12_placeOf 50 = .ok (.goto 4, 3) := by decide +kernel
theorem dX12_placeOf_53 : decode cX12_placeOf 53 = .ok (.iconst 0, 1) := by decide +kernel
theorem dX12_placeOf_54 : decode cX12_placeOf 54 = .ok (.ireturn, 1) := by decide +kernel
theorem dX12_freeSeats_0 : decode cX12_freeSeats 0 = .ok (.aload_n 0, 1) := by decide +kernel
theorem dX12_freeSeats_1 : decode cX12_freeSeats 1 = .ok (.aload_n 0, 1) := by decide +kernel
theorem dX12_freeSeats_2 : decode cX12_freeSeats 2 = .ok (.iload_n 1, 1) := by decide +kernel
theorem dX12_freeSeats_3 : decode cX12_freeSeats 3 = .ok (.invokevirtual 151, 3) := by decide +kernel
theorem dX12_freeSeats_6 : decode cX12_freeSeats 6 = .ok (.ifCond .ne 7, 3) := by decide +kernel
theorem dX12_freeSeats_9 : decode cX12_freeSeats 9 = .ok (.iconst 1, 1) := by decide +kernel
theorem dX12_freeSeats_10 : decode cX12_freeSeats 10 = .ok (.goto 17, 3) := by decide +kernel
theorem dX12_freeSeats_13 : decode cX12_freeSeats 13 = .ok (.iload_n 2, 1) := by decide +kernel
theorem dX12_freeSeats_14 : decode cX12_freeSeats 14 = .ok (.iconst 0, 1) := by decide +kernel
theorem dX12_freeSeats_15 : decode cX12_freeSeats 15 = .ok (.iconst 3, 1) := by decide +kernel
theorem dX12_freeSeats_16 : decode cX12_freeSeats 16 = .ok (.invokestatic 96, 3) := by decide +kernel
theorem dX12_freeSeats_19 : decode cX12_freeSeats 19 = .ok (.ifCond .ne 7, 3) := by decide +kernel
theorem dX12_freeSeats_22 : decode cX12_freeSeats 22 = .ok (.iconst 2, 1) := by decide +kernel
theorem dX12_freeSeats_23 : decode cX12_freeSeats 23 = .ok (.goto 4, 3) := by decide +kernel
theorem dX12_freeSeats_26 : decode cX12_freeSeats 26 = .ok (.iconst 0, 1) := by decide +kernel
theorem dX12_freeSeats_27 : decode cX12_freeSeats 27 = .ok (.invokevirtual 144, 3) := by decide +kernel
theorem dX12_freeSeats_30 : decode cX12_freeSeats 30 = .ok (.ifCond .eq 12, 3) := by decide +kernel
theorem dX12_freeSeats_33 : decode cX12_freeSeats 33 = .ok (.aload_n 0, 1) := by decide +kernel
theorem dX12_freeSeats_34 : decode cX12_freeSeats 34 = .ok (.iload_n 1, 1) := by decide +kernel
theorem dX12_freeSeats_35 : decode cX12_freeSeats 35 = .ok (.iload_n 2, 1) := by decide +kernel
theorem dX12_freeSeats_36 : decode cX12_freeSeats 36 = .ok (.invokevirtual 170, 3) := by decide +kernel
theorem dX12_freeSeats_39 : decode cX12_freeSeats 39 = .ok (.goto 4, 3) := by decide +kernel
theorem dX12_freeSeats_42 : decode cX12_freeSeats 42 = .ok (.iconst 0, 1) := by decide +kernel
theorem dX12_freeSeats_43 : decode cX12_freeSeats 43 = .ok (.ireturn, 1) := by decide +kernel
theorem dX12_share_0 : decode cX12_share 0 = .ok (.aload_n 0, 1) := by decide +kernel
theorem dX12_share_1 : decode cX12_share 1 = .ok (.aload_n 0, 1) := by decide +kernel
theorem dX12_share_2 : decode cX12_share 2 = .ok (.iload_n 1, 1) := by decide +kernel
theorem dX12_share_3 : decode cX12_share 3 = .ok (.invokevirtual 151, 3) := by decide +kernel
theorem dX12_share_6 : decode cX12_share 6 = .ok (.ifCond .eq 7, 3) := by decide +kernel
theorem dX12_share_9 : decode cX12_share 9 = .ok (.iconst 0, 1) := by decide +kernel
theorem dX12_share_10 : decode cX12_share 10 = .ok (.goto 4, 3) := by decide +kernel
theorem dX12_share_13 : decode cX12_share 13 = .ok (.iconst 1, 1) := by decide +kernel
theorem dX12_share_14 : decode cX12_share 14 = .ok (.invokevirtual 144, 3) := by decide +kernel
theorem dX12_share_17 : decode cX12_share 17 = .ok (.ifCond .eq 20, 3) := by decide +kernel
theorem dX12_share_20 : decode cX12_share 20 = .ok (.aload_n 0, 1) := by decide +kernel
theorem dX12_share_21 : decode cX12_share 21 = .ok (.iload_n 1, 1) := by decide +kernel
theorem dX12_share_22 : decode cX12_share 22 = .ok (.invokevirtual 161, 3) := by decide +kernel
theorem dX12_share_25 : decode cX12_share 25 = .ok (.i2f, 1) := by decide +kernel
theorem dX12_share_26 : decode cX12_share 26 = .ok (.aload_n 0, 1) := by decide +kernel
theorem dX12_share_27 : decode cX12_share 27 = .ok (.getfield 13, 3) := by decide +kernel
theorem dX12_share_30 : decode cX12_share 30 = .ok (.iload_n 1, 1) := by decide +kernel
theorem dX12_share_31 : decode cX12_share 31 = .ok (.iaload, 1) := by decide +kernel
theorem dX12_share_32 : decode cX12_share 32 = .ok (.i2f, 1) := by decide +kernel
theorem dX12_share_33 : decode cX12_share 33 = .ok (.fdiv, 1) := by decide +kernel
theorem dX12_share_34 : decode cX12_share 34 = .ok (.goto 4, 3) := by decide +kernel
theorem dX12_share_37 : decode cX12_share 37 = .ok (.fconst 0, 1) := by decide +kernel
theorem dX12_share_38 : decode cX12_share 38 = .ok (.freturn, 1) := by decide +kernel
theorem dX12_reasonOf_0 : decode cX12_reasonOf 0 = .ok (.aload_n 0, 1) := by decide +kernel
theorem dX12_reasonOf_1 : decode cX12_reasonOf 1 = .ok (.getfield 19, 3) := by decide +kernel
theorem dX12_reasonOf_4 : decode cX12_reasonOf 4 = .ok (.iload_n 2, 1) := by decide +kernel
theorem dX12_reasonOf_5 : decode cX12_reasonOf 5 = .ok (.iaload, 1) := by decide +kernel
theorem dX12_reasonOf_6 : decode cX12_reasonOf 6 = .ok (.istore_n 3, 1) := by decide +kernel
theorem dX12_reasonOf_7 : decode cX12_reasonOf 7 = .ok (.aload_n 0, 1) := by decide +kernel
theorem dX12_reasonOf_8 : decode cX12_reasonOf 8 = .ok (.iconst 1, 1) := by decide +kernel
theorem dX12_reasonOf_9 : decode cX12_reasonOf 9 = .ok (.putfield 230, 3) := by decide +kernel
theorem dX12_reasonOf_12 : decode cX12_reasonOf 12 = .ok (.aload_n 0, 1) := by decide +kernel
theorem dX12_reasonOf_13 : decode cX12_reasonOf 13 = .ok (.getfield 46, 3) := by decide +kernel
theorem dX12_reasonOf_16 : decode cX12_reasonOf 16 = .ok (.iload_n 3, 1) := by decide +kernel
theorem dX12_reasonOf_17 : decode cX12_reasonOf 17 = .ok (.iaload, 1) := by decide +kernel
theorem dX12_reasonOf_18 : decode cX12_reasonOf 18 = .ok (.iconst 3, 1) := by decide +kernel
theorem dX12_reasonOf_19 : decode cX12_reasonOf 19 = .ok (.iconst 5, 1) := by decide +kernel
theorem dX12_reasonOf_20 : decode cX12_reasonOf 20 = .ok (.invokestatic 96, 3) := by decide +kernel
theorem dX12_reasonOf_23 : decode cX12_reasonOf 23 = .ok (.ifCond .eq 69, 3) := by decide +kernel
theorem dX12_reasonOf_26 : decode cX12_reasonOf 26 = .ok (.aload_n 0, 1) := by decide +kernel
theorem dX12_reasonOf_27 : decode cX12_reasonOf 27 = .ok (.aload_n 0, 1) := by decide +kernel
theorem dX12_reasonOf_28 : decode cX12_reasonOf 28 = .ok (.getfield 49, 3) := by decide +kernel
theorem dX12_reasonOf_31 : decode cX12_reasonOf 31 = .ok (.iload_n 3, 1) := by decide +kernel
theorem dX12_reasonOf_32 : decode cX12_reasonOf 32 = .ok (.iaload, 1) := by decide +kernel
theorem dX12_reasonOf_33 : decode cX12_reasonOf 33 = .ok (.iload_n 1, 1) := by decide +kernel
theorem dX12_reasonOf_34 : decode cX12_reasonOf 34 = .ok (.invokevirtual 130, 3) := by decide +kernel
theorem dX12_reasonOf_37 : decode cX12_reasonOf 37 = .ok (.ifCond .ne 12, 3) := by decide +kernel
theorem dX12_reasonOf_40 : decode cX12_reasonOf 40 = .ok (.aload_n 0, 1) := by decide +kernel
theorem dX12_reasonOf_41 : decode cX12_reasonOf 41 = .ok (.getfield 49, 3) := by decide +kernel
theorem dX12_reasonOf_44 : decode cX12_reasonOf 44 = .ok (.iload_n 3, 1) := by decide +kernel
theorem dX12_reasonOf_45 : decode cX12_reasonOf 45 = .ok (.iaload, 1) := by decide +kernel
theorem dX12_reasonOf_46 : decode cX12_reasonOf 46 = .ok (.goto 32, 3) := by decide +kernel
theorem dX12_reasonOf_49 : decode cX12_reasonOf 49 = .ok (.aload_n 0, 1) := by decide +kernel
theorem dX12_reasonOf_50 : decode cX12_reasonOf 50 = .ok (.aload_n 0, 1) := by decide +kernel
theorem dX12_reasonOf_51 : decode cX12_reasonOf 51 = .ok (.getfield 52, 3) := by decide +kernel
theorem dX12_reasonOf_54 : decode cX12_reasonOf 54 = .ok (.iload_n 3, 1) := by decide +kernel
theorem dX12_reasonOf_55 : decode cX12_reasonOf 55 = .ok (.iaload, 1) := by decide +kernel
theorem dX12_reasonOf_56 : decode cX12_reasonOf 56 = .ok (.iload_n 1, 1) := by decide +kernel
theorem dX12_reasonOf_57 : decode cX12_reasonOf 57 = .ok (.invokevirtual 130, 3) := by decide +kernel
theorem dX12_reasonOf_60 : decode cX12_reasonOf 60 = .ok (.ifCond .ne 12, 3) := by decide +kernel
theorem dX12_reasonOf_63 : decode cX12_reasonOf 63 = .ok (.aload_n 0, 1) := by decide +kernel
theorem dX12_reasonOf_64 : decode cX12_reasonOf 64 = .ok (.getfield 52, 3) := by decide +kernel
theorem dX12_reasonOf_67 : decode cX12_reasonOf 67 = .ok (.iload_n 3, 1) := by decide +kernel
theorem dX12_reasonOf_68 : decode cX12_reasonOf 68 = .ok (.iaload, 1) := by decide +kernel
theorem dX12_reasonOf_69 : decode cX12_reasonOf 69 = .ok (.goto 9, 3) := by decide +kernel
theorem dX12_reasonOf_72 : decode cX12_reasonOf 72 = .ok (.aload_n 0, 1) := by decide +kernel
theorem dX12_reasonOf_73 : decode cX12_reasonOf 73 = .ok (.getfield 55, 3) := by decide +kernel
theorem dX12_reasonOf_76 : decode cX12_reasonOf 76 = .ok (.iload_n 3, 1) := by decide +kernel
theorem dX12_reasonOf_77 : decode cX12_reasonOf 77 = .ok (.iaload, 1) := by decide +kernel
theorem dX12_reasonOf_78 : decode cX12_reasonOf 78 = .ok (.istore_n 3, 1) := by decide +kernel
theorem dX12_reasonOf_79 : decode cX12_reasonOf 79 = .ok (.aload_n 0, 1) := by decide +kernel
theorem dX12_reasonOf_80 : decode cX12_reasonOf 80 = .ok (.dup, 1) := by decide +kernel
theorem dX12_reasonOf_81 : decode cX12_reasonOf 81 = .ok (.getfield 230, 3) := by decide +kernel
theorem dX12_reasonOf_84 : decode cX12_reasonOf 84 = .ok (.iconst 1, 1) := by decide +kernel
theorem dX12_reasonOf_85 : decode cX12_reasonOf 85 = .ok (.iadd, 1) := by decide +kernel
theorem dX12_reasonOf_86 : decode cX12_reasonOf 86 = .ok (.putfield 230, 3) := by decide +kernel
theorem dX12_reasonOf_89 : decode cX12_reasonOf 89 = .ok (.goto (-77), 3) := by decide +kernel
theorem dX12_reasonOf_92 : decode cX12_reasonOf 92 = .ok (.iload_n 3, 1) := by decide +kernel
theorem dX12_reasonOf_93 : decode cX12_reasonOf 93 = .ok (.ireturn, 1) := by decide +kernel
theorem dX12_whyFault_0 : decode cX12_whyFault 0 = .ok (.aload_n 0, 1) := by decide +kernel
theorem dX12_whyFault_1 : decode cX12_whyFault 1 = .ok (.iload_n 1, 1) := by decide +kernel
theorem dX12_whyFault_2 : decode cX12_whyFault 2 = .ok (.invokevirtual 158, 3) := by decide +kernel
theorem dX12_whyFault_5 : decode cX12_whyFault 5 = .ok (.ifCond .eq 11, 3) := by decide +kernel
theorem dX12_whyFault_8 : decode cX12_whyFault 8 = .ok (.aload_n 0, 1) := by decide +kernel
theorem dX12_whyFault_9 : decode cX12_whyFault 9 = .ok (.iload_n 2, 1) := by decide +kernel
theorem dX12_whyFault_10 : decode cX12_whyFault 10 = .ok (.invokevirtual 151, 3) := by decide +kernel
theorem dX12_whyFault_13 : decode cX12_whyFault 13 = .ok (.ifCond .ne 7, 3) := by decide +kernel
theorem dX12_whyFault_16 : decode cX12_whyFault 16 = .ok (.iconst 1, 1) := by decide +kernel
theorem dX12_whyFault_17 : decode cX12_whyFault 17 = .ok (.goto 36, 3) := by decide +kernel
theorem dX12_whyFault_20 : decode cX12_whyFault 20 = .ok (.aload_n 0, 1) := by decide +kernel
theorem dX12_whyFault_21 : decode cX12_whyFault 21 = .ok (.getfield 19, 3) := by decide +kernel
theorem dX12_whyFault_24 : decode cX12_whyFault 24 = .ok (.iload_n 2, 1) := by decide +kernel
theorem dX12_whyFault_25 : decode cX12_whyFault 25 = .ok (.iaload, 1) := by decide +kernel
theorem dX12_whyFault_26 : decode cX12_whyFault 26 = .ok (.iconst (-1), 1) := by decide +kernel
theorem dX12_whyFault_27 : decode cX12_whyFault 27 = .ok (.if_icmp .ne 7, 3) := by decide +kernel
theorem dX12_whyFault_30 : decode cX12_whyFault 30 = .ok (.iconst 2, 1) := by decide +kernel
theorem dX12_whyFault_31 : decode cX12_whyFault 31 = .ok (.goto 22, 3) := by decide +kernel
theorem dX12_whyFault_34 : decode cX12_whyFault 34 = .ok (.aload_n 0, 1) := by decide +kernel
theorem dX12_whyFault_35 : decode cX12_whyFault 35 = .ok (.aload_n 0, 1) := by decide +kernel
theorem dX12_whyFault_36 : decode cX12_whyFault 36 = .ok (.getfield 19, 3) := by decide +kernel
theorem dX12_whyFault_39 : decode cX12_whyFault 39 = .ok (.iload_n 2, 1) := by decide +kernel
theorem dX12_whyFault_40 : decode cX12_whyFault 40 = .ok (.iaload, 1) := by decide +kernel
theorem dX12_whyFault_41 : decode cX12_whyFault 41 = .ok (.iload_n 1, 1) := by decide +kernel
theorem dX12_whyFault_42 : decode cX12_whyFault 42 = .ok (.invokevirtual 130, 3) := by decide +kernel
theorem dX12_whyFault_45 : decode cX12_whyFault 45 = .ok (.ifCond .eq 7, 3) := by decide +kernel
theorem dX12_whyFault_48 : decode cX12_whyFault 48 = .ok (.iconst 3, 1) := by decide +kernel
theorem dX12_whyFault_49 : decode cX12_whyFault 49 = .ok (.goto 4, 3) := by decide +kernel
theorem dX12_whyFault_52 : decode cX12_whyFault 52 = .ok (.iconst 0, 1) := by decide +kernel
theorem dX12_whyFault_53 : decode cX12_whyFault 53 = .ok (.ireturn, 1) := by decide +kernel
theorem dX12_whyNot_0 : decode cX12_whyNot 0 = .ok (.aload_n 0, 1) := by decide +kernel
theorem dX12_whyNot_1 : decode cX12_whyNot 1 = .ok (.aload_n 0, 1) := by decide +kernel
theorem dX12_whyNot_2 : decode cX12_whyNot 2 = .ok (.iload_n 1, 1) := by decide +kernel
theorem dX12_whyNot_3 : decode cX12_whyNot 3 = .ok (.iload_n 2, 1) := by decide +kernel
theorem dX12_whyNot_4 : decode cX12_whyNot 4 = .ok (.invokevirtual 233, 3) := by decide +kernel
theorem dX12_whyNot_7 : decode cX12_whyNot 7 = .ok (.invokevirtual 144, 3) := by decide +kernel
theorem dX12_whyNot_10 : decode cX12_whyNot 10 = .ok (.ifCond .eq 12, 3) := by decide +kernel
theorem dX12_whyNot_13 : decode cX12_whyNot 13 = .ok (.aload_n 0, 1) := by decide +kernel
theorem dX12_whyNot_14 : decode cX12_whyNot 14 = .ok (.iload_n 1, 1) := by decide +kernel
theorem dX12_whyNot_15 : decode cX12_whyNot 15 = .ok (.iload_n 2, 1) := by decide +kernel
theorem dX12_whyNot_16 : decode cX12_whyNot 16 = .ok (.invokevirtual 236, 3) := by decide +kernel
theorem dX12_whyNot_19 : decode cX12_whyNot 19 = .ok (.goto 4, 3) := by decide +kernel
theorem dX12_whyNot_22 : decode cX12_whyNot 22 = .ok (.iconst 0, 1) := by decide +kernel
theorem dX12_whyNot_23 : decode cX12_whyNot 23 = .ok (.ireturn, 1) := by decide +kernel
theorem dX12_whyLong_0 : decode cX12_whyLong 0 = .ok (.aload_n 0, 1) := by decide +kernel
theorem dX12_whyLong_1 : decode cX12_whyLong 1 = .ok (.aload_n 0, 1) := by decide +kernel
theorem dX12_whyLong_2 : decode cX12_whyLong 2 = .ok (.iload_n 1, 1) := by decide +kernel
theorem dX12_whyLong_3 : decode cX12_whyLong 3 = .ok (.iload_n 2, 1) := by decide +kernel
theorem dX12_whyLong_4 : decode cX12_whyLong 4 = .ok (.invokevirtual 233, 3) := by decide +kernel
