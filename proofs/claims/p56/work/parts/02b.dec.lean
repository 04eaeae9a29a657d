theorem dX11_creditsMovedIn_2 : decode cX11_creditsMovedIn 2 = .ok (.iconst 0, 1) := by decide +kernel
theorem dX11_creditsMovedIn_3 : decode cX11_creditsMovedIn 3 = .ok (.istore_n 3, 1) := by decide +kernel
theorem dX11_creditsMovedIn_4 : decode cX11_creditsMovedIn 4 = .ok (.iload_n 3, 1) := by decide +kernel
theorem dX11_creditsMovedIn_5 : decode cX11_creditsMovedIn 5 = .ok (.aload_n 0, 1) := by decide +kernel
theorem dX11_creditsMovedIn_6 : decode cX11_creditsMovedIn 6 = .ok (.getfield 12, 3) := by decide +kernel
theorem dX11_creditsMovedIn_9 : decode cX11_creditsMovedIn 9 = .ok (.invokevirtual 70, 3) := by decide +kernel
theorem dX11_creditsMovedIn_12 : decode cX11_creditsMovedIn 12 = .ok (.if_icmp .ge 35, 3) := by decide +kernel
theorem dX11_creditsMovedIn_15 : decode cX11_creditsMovedIn 15 = .ok (.aload_n 1, 1) := by decide +kernel
theorem dX11_creditsMovedIn_16 : decode cX11_creditsMovedIn 16 = .ok (.getfield 425, 3) := by decide +kernel
theorem dX11_creditsMovedIn_19 : decode cX11_creditsMovedIn 19 = .ok (.iload_n 3, 1) := by decide +kernel
theorem dX11_creditsMovedIn_20 : decode cX11_creditsMovedIn 20 = .ok (.baload, 1) := by decide +kernel
theorem dX11_creditsMovedIn_21 : decode cX11_creditsMovedIn 21 = .ok (.ifCond .eq 20, 3) := by decide +kernel
theorem dX11_creditsMovedIn_24 : decode cX11_creditsMovedIn 24 = .ok (.iload_n 2, 1) := by decide +kernel
theorem dX11_creditsMovedIn_25 : decode cX11_creditsMovedIn 25 = .ok (.aload_n 0, 1) := by decide +kernel
theorem dX11_creditsMovedIn_26 : decode cX11_creditsMovedIn 26 = .ok (.getfield 12, 3) := by decide +kernel
theorem dX11_creditsMovedIn_29 : decode cX11_creditsMovedIn 29 = .ok (.iload_n 3, 1) := by decide +kernel
theorem dX11_creditsMovedIn_30 : decode cX11_creditsMovedIn 30 = .ok (.invokevirtual 276, 3) := by decide +kernel
theorem dX11_creditsMovedIn_33 : decode cX11_creditsMovedIn 33 = .ok (.checkcast 79, 3) := by decide +kernel
theorem dX11_creditsMovedIn_36 : decode cX11_creditsMovedIn 36 = .ok (.getfield 292, 3) := by decide +kernel
theorem dX11_creditsMovedIn_39 : decode cX11_creditsMovedIn 39 = .ok (.iadd, 1) := by decide +kernel
theorem dX11_creditsMovedIn_40 : decode cX11_creditsMovedIn 40 = .ok (.istore_n 2, 1) := by decide +kernel
theorem dX11_creditsMovedIn_41 : decode cX11_creditsMovedIn 41 = .ok (.iinc 3 1, 3) := by decide +kernel
theorem dX11_creditsMovedIn_44 : decode cX11_creditsMovedIn 44 = .ok (.goto (-40), 3) := by decide +kernel
theorem dX11_creditsMovedIn_47 : decode cX11_creditsMovedIn 47 = .ok (.iload_n 2, 1) := by decide +kernel
theorem dX11_creditsMovedIn_48 : decode cX11_creditsMovedIn 48 = .ok (.ireturn, 1) := by decide +kernel
theorem dX11_loadOn_0 : decode cX11_loadOn 0 = .ok (.iconst 0, 1) := by decide +kernel
theorem dX11_loadOn_1 : decode cX11_loadOn 1 = .ok (.istore_n 2, 1) := by decide +kernel
theorem dX11_loadOn_2 : decode cX11_loadOn 2 = .ok (.iconst 0, 1) := by decide +kernel
theorem dX11_loadOn_3 : decode cX11_loadOn 3 = .ok (.istore_n 3, 1) := by decide +kernel
theorem dX11_loadOn_4 : decode cX11_loadOn 4 = .ok (.iload_n 3, 1) := by decide +kernel
theorem dX11_loadOn_5 : decode cX11_loadOn 5 = .ok (.aload_n 0, 1) := by decide +kernel
theorem dX11_loadOn_6 : decode cX11_loadOn 6 = .ok (.getfield 12, 3) := by decide +kernel
theorem dX11_loadOn_9 : decode cX11_loadOn 9 = .ok (.invokevirtual 70, 3) := by decide +kernel
theorem dX11_loadOn_12 : decode cX11_loadOn 12 = .ok (.if_icmp .ge 35, 3) := by decide +kernel
theorem dX11_loadOn_15 : decode cX11_loadOn 15 = .ok (.aload_n 1, 1) := by decide +kernel
theorem dX11_loadOn_16 : decode cX11_loadOn 16 = .ok (.getfield 214, 3) := by decide +kernel
theorem dX11_loadOn_19 : decode cX11_loadOn 19 = .ok (.iload_n 3, 1) := by decide +kernel
theorem dX11_loadOn_20 : decode cX11_loadOn 20 = .ok (.baload, 1) := by decide +kernel
theorem dX11_loadOn_21 : decode cX11_loadOn 21 = .ok (.ifCond .eq 20, 3) := by decide +kernel
theorem dX11_loadOn_24 : decode cX11_loadOn 24 = .ok (.iload_n 2, 1) := by decide +kernel
theorem dX11_loadOn_25 : decode cX11_loadOn 25 = .ok (.aload_n 0, 1) := by decide +kernel
theorem dX11_loadOn_26 : decode cX11_loadOn 26 = .ok (.getfield 12, 3) := by decide +kernel
theorem dX11_loadOn_29 : decode cX11_loadOn 29 = .ok (.iload_n 3, 1) := by decide +kernel
theorem dX11_loadOn_30 : decode cX11_loadOn 30 = .ok (.invokevirtual 276, 3) := by decide +kernel
theorem dX11_loadOn_33 : decode cX11_loadOn 33 = .ok (.checkcast 79, 3) := by decide +kernel
theorem dX11_loadOn_36 : decode cX11_loadOn 36 = .ok (.getfield 292, 3) := by decide +kernel
theorem dX11_loadOn_39 : decode cX11_loadOn 39 = .ok (.iadd, 1) := by decide +kernel
theorem dX11_loadOn_40 : decode cX11_loadOn 40 = .ok (.istore_n 2, 1) := by decide +kernel
theorem dX11_loadOn_41 : decode cX11_loadOn 41 = .ok (.iinc 3 1, 3) := by decide +kernel
theorem dX11_loadOn_44 : decode cX11_loadOn 44 = .ok (.goto (-40), 3) := by decide +kernel
theorem dX11_loadOn_47 : decode cX11_loadOn 47 = .ok (.iload_n 2, 1) := by decide +kernel
theorem dX11_loadOn_48 : decode cX11_loadOn 48 = .ok (.ireturn, 1) := by decide +kernel
theorem dX11_canBear_0 : decode cX11_canBear 0 = .ok (.aload_n 0, 1) := by decide +kernel
theorem dX11_canBear_1 : decode cX11_canBear 1 = .ok (.aload_n 1, 1) := by decide +kernel
theorem dX11_canBear_2 : decode cX11_canBear 2 = .ok (.invokevirtual 266, 3) := by decide +kernel
theorem dX11_canBear_5 : decode cX11_canBear 5 = .ok (.aload_n 2, 1) := by decide +kernel
theorem dX11_canBear_6 : decode cX11_canBear 6 = .ok (.getfield 292, 3) := by decide +kernel
theorem dX11_canBear_9 : decode cX11_canBear 9 = .ok (.iadd, 1) := by decide +kernel
theorem dX11_canBear_10 : decode cX11_canBear 10 = .ok (.bipush 18, 2) := by decide +kernel
theorem dX11_canBear_12 : decode cX11_canBear 12 = .ok (.if_icmp .gt 7, 3) := by decide +kernel
theorem dX11_canBear_15 : decode cX11_canBear 15 = .ok (.iconst 1, 1) := by decide +kernel
theorem dX11_canBear_16 : decode cX11_canBear 16 = .ok (.goto 4, 3) := by decide +kernel
theorem dX11_canBear_19 : decode cX11_canBear 19 = .ok (.iconst 0, 1) := by decide +kernel
theorem dX11_canBear_20 : decode cX11_canBear 20 = .ok (.ireturn, 1) := by decide +kernel
theorem dX11_takersOf_0 : decode cX11_takersOf 0 = .ok (.iconst 0, 1) := by decide +kernel
theorem dX11_takersOf_1 : decode cX11_takersOf 1 = .ok (.istore_n 2, 1) := by decide +kernel
theorem dX11_takersOf_2 : decode cX11_takersOf 2 = .ok (.iconst 0, 1) := by decide +kernel
theorem dX11_takersOf_3 : decode cX11_takersOf 3 = .ok (.istore_n 3, 1) := by decide +kernel
theorem dX11_takersOf_4 : decode cX11_takersOf 4 = .ok (.iload_n 3, 1) := by decide +kernel
theorem dX11_takersOf_5 : decode cX11_takersOf 5 = .ok (.aload_n 0, 1) := by decide +kernel
theorem dX11_takersOf_6 : decode cX11_takersOf 6 = .ok (.getfield 16, 3) := by decide +kernel
theorem dX11_takersOf_9 : decode cX11_takersOf 9 = .ok (.invokevirtual 70, 3) := by decide +kernel
theorem dX11_takersOf_12 : decode cX11_takersOf 12 = .ok (.if_icmp .ge 34, 3) := by decide +kernel
theorem dX11_takersOf_15 : decode cX11_takersOf 15 = .ok (.aload_n 0, 1) := by decide +kernel
theorem dX11_takersOf_16 : decode cX11_takersOf 16 = .ok (.getfield 16, 3) := by decide +kernel
theorem dX11_takersOf_19 : decode cX11_takersOf 19 = .ok (.iload_n 3, 1) := by decide +kernel
theorem dX11_takersOf_20 : decode cX11_takersOf 20 = .ok (.invokevirtual 276, 3) := by decide +kernel
theorem dX11_takersOf_23 : decode cX11_takersOf 23 = .ok (.checkcast 29, 3) := by decide +kernel
theorem dX11_takersOf_26 : decode cX11_takersOf 26 = .ok (.getfield 214, 3) := by decide +kernel
theorem dX11_takersOf_29 : decode cX11_takersOf 29 = .ok (.aload_n 1, 1) := by decide +kernel
theorem dX11_takersOf_30 : decode cX11_takersOf 30 = .ok (.getfield 428, 3) := by decide +kernel
theorem dX11_takersOf_33 : decode cX11_takersOf 33 = .ok (.baload, 1) := by decide +kernel
theorem dX11_takersOf_34 : decode cX11_takersOf 34 = .ok (.ifCond .eq 6, 3) := by decide +kernel
theorem dX11_takersOf_37 : decode cX11_takersOf 37 = .ok (.iinc 2 1, 3) := by decide +kernel
theorem dX11_takersOf_40 : decode cX11_takersOf 40 = .ok (.iinc 3 1, 3) := by decide +kernel
theorem dX11_takersOf_43 : decode cX11_takersOf 43 = .ok (.goto (-39), 3) := by decide +kernel
theorem dX11_takersOf_46 : decode cX11_takersOf 46 = .ok (.iload_n 2, 1) := by decide +kernel
theorem dX11_takersOf_47 : decode cX11_takersOf 47 = .ok (.ireturn, 1) := by decide +kernel
theorem dX11_takersOfMajor_0 : decode cX11_takersOfMajor 0 = .ok (.iconst 0, 1) := by decide +kernel
theorem dX11_takersOfMajor_1 : decode cX11_takersOfMajor 1 = .ok (.istore_n 3, 1) := by decide +kernel
theorem dX11_takersOfMajor_2 : decode cX11_takersOfMajor 2 = .ok (.iconst 0, 1) := by decide +kernel
theorem dX11_takersOfMajor_3 : decode cX11_takersOfMajor 3 = .ok (.istore 4, 2) := by decide +kernel
theorem dX11_takersOfMajor_5 : decode cX11_takersOfMajor 5 = .ok (.iload 4, 2) := by decide +kernel
theorem dX11_takersOfMajor_7 : decode cX11_takersOfMajor 7 = .ok (.aload_n 0, 1) := by decide +kernel
theorem dX11_takersOfMajor_8 : decode cX11_takersOfMajor 8 = .ok (.getfield 16, 3) := by decide +kernel
theorem dX11_takersOfMajor_11 : decode cX11_takersOfMajor 11 = .ok (.invokevirtual 70, 3) := by decide +kernel
theorem dX11_takersOfMajor_14 : decode cX11_takersOfMajor 14 = .ok (.if_icmp .ge 48, 3) := by decide +kernel
theorem dX11_takersOfMajor_17 : decode cX11_takersOfMajor 17 = .ok (.aload_n 0, 1) := by decide +kernel
theorem dX11_takersOfMajor_18 : decode cX11_takersOfMajor 18 = .ok (.getfield 16, 3) := by decide +kernel
theorem dX11_takersOfMajor_21 : decode cX11_takersOfMajor 21 = .ok (.iload 4, 2) := by decide +kernel
theorem dX11_takersOfMajor_23 : decode cX11_takersOfMajor 23 = .ok (.invokevirtual 276, 3) := by decide +kernel
theorem dX11_takersOfMajor_26 : decode cX11_takersOfMajor 26 = .ok (.checkcast 29, 3) := by decide +kernel
theorem dX11_takersOfMajor_29 : decode cX11_takersOfMajor 29 = .ok (.astore 5, 2) := by decide +kernel
theorem dX11_takersOfMajor_31 : decode cX11_takersOfMajor 31 = .ok (.aload 5, 2) := by decide +kernel
theorem dX11_takersOfMajor_33 : decode cX11_takersOfMajor 33 = .ok (.getfield 214, 3) := by decide +kernel
theorem dX11_takersOfMajor_36 : decode cX11_takersOfMajor 36 = .ok (.aload_n 1, 1) := by decide +kernel
theorem dX11_takersOfMajor_37 : decode cX11_takersOfMajor 37 = .ok (.getfield 428, 3) := by decide +kernel
theorem dX11_takersOfMajor_40 : decode cX11_takersOfMajor 40 = .ok (.baload, 1) := by decide +kernel
theorem dX11_takersOfMajor_41 : decode cX11_takersOfMajor 41 = .ok (.ifCond .eq 15, 3) := by decide +kernel
theorem dX11_takersOfMajor_44 : decode cX11_takersOfMajor 44 = .ok (.aload 5, 2) := by decide +kernel
theorem dX11_takersOfMajor_46 : decode cX11_takersOfMajor 46 = .ok (.getfield 97, 3) := by decide +kernel
theorem dX11_takersOfMajor_49 : decode cX11_takersOfMajor 49 = .ok (.iload_n 2, 1) := by decide +kernel
theorem dX11_takersOfMajor_50 : decode cX11_takersOfMajor 50 = .ok (.if_icmp .ne 6, 3) := by decide +kernel
theorem dX11_takersOfMajor_53 : decode cX11_takersOfMajor 53 = .ok (.iinc 3 1, 3) := by decide +kernel
theorem dX11_takersOfMajor_56 : decode cX11_takersOfMajor 56 = .ok (.iinc 4 1, 3) := by decide +kernel
theorem dX11_takersOfMajor_59 : decode cX11_takersOfMajor 59 = .ok (.goto (-54), 3) := by decide +kernel
theorem dX11_takersOfMajor_62 : decode cX11_takersOfMajor 62 = .ok (.iload_n 3, 1) := by decide +kernel
theorem dX11_takersOfMajor_63 : decode cX11_takersOfMajor 63 = .ok (.ireturn, 1) := by decide +kernel
theorem dX11_freeFor_0 : decode cX11_freeFor 0 = .ok (.aload_n 1, 1) := by decide +kernel
theorem dX11_freeFor_1 : decode cX11_freeFor 1 = .ok (.getfield 113, 3) := by decide +kernel
theorem dX11_freeFor_4 : decode cX11_freeFor 4 = .ok (.aload_n 0, 1) := by decide +kernel
theorem dX11_freeFor_5 : decode cX11_freeFor 5 = .ok (.aload_n 1, 1) := by decide +kernel
theorem dX11_freeFor_6 : decode cX11_freeFor 6 = .ok (.invokevirtual 314, 3) := by decide +kernel
theorem dX11_freeFor_9 : decode cX11_freeFor 9 = .ok (.isub, 1) := by decide +kernel
theorem dX11_freeFor_10 : decode cX11_freeFor 10 = .ok (.istore_n 3, 1) := by decide +kernel
theorem dX11_freeFor_11 : decode cX11_freeFor 11 = .ok (.aload_n 0, 1) := by decide +kernel
theorem dX11_freeFor_12 : decode cX11_freeFor 12 = .ok (.getfield 180, 3) := by decide +kernel
theorem dX11_freeFor_15 : decode cX11_freeFor 15 = .ok (.iconst 3, 1) := by decide +kernel
theorem dX11_freeFor_16 : decode cX11_freeFor 16 = .ok (.if_icmp .gt 46, 3) := by decide +kernel
theorem dX11_freeFor_19 : decode cX11_freeFor 19 = .ok (.iconst 0, 1) := by decide +kernel
theorem dX11_freeFor_20 : decode cX11_freeFor 20 = .ok (.istore 4, 2) := by decide +kernel
theorem dX11_freeFor_22 : decode cX11_freeFor 22 = .ok (.iload 4, 2) := by decide +kernel
theorem dX11_freeFor_24 : decode cX11_freeFor 24 = .ok (.iconst 4, 1) := by decide +kernel
theorem dX11_freeFor_25 : decode cX11_freeFor 25 = .ok (.if_icmp .ge 37, 3) := by decide +kernel
theorem dX11_freeFor_28 : decode cX11_freeFor 28 = .ok (.iload 4, 2) := by decide +kernel
theorem dX11_freeFor_30 : decode cX11_freeFor 30 = .ok (.iload_n 2, 1) := by decide +kernel
theorem dX11_freeFor_31 : decode cX11_freeFor 31 = .ok (.if_icmp .eq 25, 3) := by decide +kernel
theorem dX11_freeFor_34 : decode cX11_freeFor 34 = .ok (.iload_n 3, 1) := by decide +kernel
theorem dX11_freeFor_35 : decode cX11_freeFor 35 = .ok (.iconst 0, 1) := by decide +kernel
theorem dX11_freeFor_36 : decode cX11_freeFor 36 = .ok (.aload_n 1, 1) := by decide +kernel
theorem dX11_freeFor_37 : decode cX11_freeFor 37 = .ok (.getfield 110, 3) := by decide +kernel
theorem dX11_freeFor_40 : decode cX11_freeFor 40 = .ok (.iload 4, 2) := by decide +kernel
theorem dX11_freeFor_42 : decode cX11_freeFor 42 = .ok (.iaload, 1) := by decide +kernel
theorem dX11_freeFor_43 : decode cX11_freeFor 43 = .ok (.aload_n 0, 1) := by decide +kernel
theorem dX11_freeFor_44 : decode cX11_freeFor 44 = .ok (.aload_n 1, 1) := by decide +kernel
theorem dX11_freeFor_45 : decode cX11_freeFor 45 = .ok (.iload 4, 2) := by decide +kernel
theorem dX11_freeFor_47 : decode cX11_freeFor 47 = .ok (.invokevirtual 431, 3) := by decide +kernel
theorem dX11_freeFor_50 : decode cX11_freeFor 50 = .ok (.isub, 1) := by decide +kernel
theorem dX11_freeFor_51 : decode cX11_freeFor 51 = .ok (.invokestatic 153, 3) := by decide +kernel
theorem dX11_freeFor_54 : decode cX11_freeFor 54 = .ok (.isub, 1) := by decide +kernel
theorem dX11_freeFor_55 : decode cX11_freeFor 55 = .ok (.istore_n 3, 1) := by decide +kernel
theorem dX11_freeFor_56 : decode cX11_freeFor 56 = .ok (.iinc 4 1, 3) := by decide +kernel
theorem dX11_freeFor_59 : decode cX11_freeFor 59 = .ok (.goto (-37), 3) := by decide +kernel
theorem dX11_freeFor_62 : decode cX11_freeFor 62 = .ok (.iconst 0, 1) := by decide +kernel
theorem dX11_freeFor_63 : decode cX11_freeFor 63 = .ok (.iload_n 3, 1) := by decide +kernel
theorem dX11_freeFor_64 : decode cX11_freeFor 64 = .ok (.invokestatic 153, 3) := by decide +kernel
theorem dX11_freeFor_67 : decode cX11_freeFor 67 = .ok (.ireturn, 1) := by decide +kernel
theorem dX11_letterFor_0 : decode cX11_letterFor 0 = .ok (.aload_n 0, 1) := by decide +kernel
theorem dX11_letterFor_1 : decode cX11_letterFor 1 = .ok (.getfield 180, 3) := by decide +kernel
theorem dX11_letterFor_4 : decode cX11_letterFor 4 = .ok (.iconst 5, 1) := by decide +kernel
theorem dX11_letterFor_5 : decode cX11_letterFor 5 = .ok (.if_icmp .le 6, 3) := by decide +kernel
theorem dX11_letterFor_8 : decode cX11_letterFor 8 = .ok (.bipush 100, 2) := by decide +kernel
theorem dX11_letterFor_10 : decode cX11_letterFor 10 = .ok (.ireturn, 1) := by decide +kernel
theorem dX11_letterFor_11 : decode cX11_letterFor 11 = .ok (.aload_n 1, 1) := by decide +kernel
theorem dX11_letterFor_12 : decode cX11_letterFor 12 = .ok (.getfield 214, 3) := by decide +kernel
theorem dX11_letterFor_15 : decode cX11_letterFor 15 = .ok (.aload_n 2, 1) := by decide +kernel
theorem dX11_letterFor_16 : decode cX11_letterFor 16 = .ok (.getfield 428, 3) := by decide +kernel
theorem dX11_letterFor_19 : decode cX11_letterFor 19 = .ok (.baload, 1) := by decide +kernel
theorem dX11_letterFor_20 : decode cX11_letterFor 20 = .ok (.ifCond .ne 12, 3) := by decide +kernel
theorem dX11_letterFor_23 : decode cX11_letterFor 23 = .ok (.aload_n 2, 1) := by decide +kernel
theorem dX11_letterFor_24 : decode cX11_letterFor 24 = .ok (.aload_n 1, 1) := by decide +kernel
theorem dX11_letterFor_25 : decode cX11_letterFor 25 = .ok (.invokevirtual 220, 3) := by decide +kernel
theorem dX11_letterFor_28 : decode cX11_letterFor 28 = .ok (.iconst (-1), 1) := by decide +kernel
theorem dX11_letterFor_29 : decode cX11_letterFor 29 = .ok (.if_icmp .eq 6, 3) := by decide +kernel
theorem dX11_letterFor_32 : decode cX11_letterFor 32 = .ok (.bipush 105, 2) := by decide +kernel
theorem dX11_letterFor_34 : decode cX11_letterFor 34 = .ok (.ireturn, 1) := by decide +kernel
theorem dX11_letterFor_35 : decode cX11_letterFor 35 = .ok (.aload_n 0, 1) := by decide +kernel
theorem dX11_letterFor_36 : decode cX11_letterFor 36 = .ok (.aload_n 1, 1) := by decide +kernel
theorem dX11_letterFor_37 : decode cX11_letterFor 37 = .ok (.aload_n 2, 1) := by decide +kernel
theorem dX11_letterFor_38 : decode cX11_letterFor 38 = .ok (.invokevirtual 250, 3) := by decide +kernel
theorem dX11_letterFor_41 : decode cX11_letterFor 41 = .ok (.ifCond .ne 6, 3) := by decide +kernel
theorem dX11_letterFor_44 : decode cX11_letterFor 44 = .ok (.bipush 114, 2) := by decide +kernel
theorem dX11_letterFor_46 : decode cX11_letterFor 46 = .ok (.ireturn, 1) := by decide +kernel
theorem dX11_letterFor_47 : decode cX11_letterFor 47 = .ok (.aload_n 1, 1) := by decide +kernel
theorem dX11_letterFor_48 : decode cX11_letterFor 48 = .ok (.getfield 254, 3) := by decide +kernel
theorem dX11_letterFor_51 : decode cX11_letterFor 51 = .ok (.aload_n 2, 1) := by decide +kernel
theorem dX11_letterFor_52 : decode cX11_letterFor 52 = .ok (.getfield 428, 3) := by decide +kernel
theorem dX11_letterFor_55 : decode cX11_letterFor 55 = .ok (.iaload, 1) := by decide +kernel
theorem dX11_letterFor_56 : decode cX11_letterFor 56 = .ok (.iconst 3, 1) := by decide +kernel
theorem dX11_letterFor_57 : decode cX11_letterFor 57 = .ok (.if_icmp .lt 6, 3) := by decide +kernel
theorem dX11_letterFor_60 : decode cX11_letterFor 60 = .ok (.bipush 97, 2) := by decide +kernel
theorem dX11_letterFor_62 : decode cX11_letterFor 62 = .ok (.ireturn, 1) := by decide +kernel
theorem dX11_letterFor_63 : decode cX11_letterFor 63 = .ok (.aload_n 0, 1) := by decide +kernel
theorem dX11_letterFor_64 : decode cX11_letterFor 64 = .ok (.aload_n 1, 1) := by decide +kernel
theorem dX11_letterFor_65 : decode cX11_letterFor 65 = .ok (.aload_n 2, 1) := by decide +kernel
theorem dX11_letterFor_66 : decode cX11_letterFor 66 = .ok (.invokevirtual 261, 3) := by decide +kernel
theorem dX11_letterFor_69 : decode cX11_letterFor 69 = .ok (.ifCond .ne 6, 3) := by decide +kernel
theorem dX11_letterFor_72 : decode cX11_letterFor 72 = .ok (.bipush 99, 2) := by decide +kernel
theorem dX11_letterFor_74 : decode cX11_letterFor 74 = .ok (.ireturn, 1) := by decide +kernel
theorem dX11_letterFor_75 : decode cX11_letterFor 75 = .ok (.aload_n 0, 1) := by decide +kernel
theorem dX11_letterFor_76 : decode cX11_letterFor 76 = .ok (.aload_n 2, 1) := by decide +kernel
theorem dX11_letterFor_77 : decode cX11_letterFor 77 = .ok (.aload_n 1, 1) := by decide +kernel
theorem dX11_letterFor_78 : decode cX11_letterFor 78 = .ok (.getfield 97, 3) := by decide +kernel
theorem dX11_letterFor_81 : decode cX11_letterFor 81 = .ok (.invokevirtual 257, 3) := by decide +kernel
theorem dX11_letterFor_84 : decode cX11_letterFor 84 = .ok (.ifCond .le 6, 3) := by decide +kernel
theorem dX11_letterFor_87 : decode cX11_letterFor 87 = .ok (.bipush 101, 2) := by decide +kernel
theorem dX11_letterFor_89 : decode cX11_letterFor 89 = .ok (.ireturn, 1) := by decide +kernel
theorem dX11_letterFor_90 : decode cX11_letterFor 90 = .ok (.aload_n 2, 1) := by decide +kernel
theorem dX11_letterFor_91 : decode cX11_letterFor 91 = .ok (.getfield 217, 3) := by decide +kernel
theorem dX11_letterFor_94 : decode cX11_letterFor 94 = .ok (.invokevirtual 70, 3) := by decide +kernel
theorem dX11_letterFor_97 : decode cX11_letterFor 97 = .ok (.bipush 6, 2) := by decide +kernel
theorem dX11_letterFor_99 : decode cX11_letterFor 99 = .ok (.if_icmp .lt 8, 3) := by decide +kernel
theorem dX11_letterFor_102 : decode cX11_letterFor 102 = .ok (.bipush 102, 2) := by decide +kernel
theorem dX11_letterFor_104 : decode cX11_letterFor 104 = .ok (.goto 5, 3) := by decide +kernel
theorem dX11_letterFor_107 : decode cX11_letterFor 107 = .ok (.bipush 119, 2) := by decide +kernel
theorem dX11_letterFor_109 : decode cX11_letterFor 109 = .ok (.ireturn, 1) := by decide +kernel
theorem dX11_canTakeSeat_0 : decode cX11_canTakeSeat 0 = .ok (.aload_n 0, 1) := by decide +kernel
theorem dX11_canTakeSeat_1 : decode cX11_canTakeSeat 1 = .ok (.aload_n 2, 1) := by decide +kernel
theorem dX11_canTakeSeat_2 : decode cX11_canTakeSeat 2 = .ok (.aload_n 1, 1) := by decide +kernel
theorem dX11_canTakeSeat_3 : decode cX11_canTakeSeat 3 = .ok (.getfield 97, 3) := by decide +kernel
theorem dX11_canTakeSeat_6 : decode cX11_canTakeSeat 6 = .ok (.invokevirtual 257, 3) := by decide +kernel
theorem dX11_canTakeSeat_9 : decode cX11_canTakeSeat 9 = .ok (.ifCond .le 25, 3) := by decide +kernel
theorem dX11_canTakeSeat_12 : decode cX11_canTakeSeat 12 = .ok (.aload_n 0, 1) := by decide +kernel
theorem dX11_canTakeSeat_13 : decode cX11_canTakeSeat 13 = .ok (.aload_n 1, 1) := by decide +kernel
theorem dX11_canTakeSeat_14 : decode cX11_canTakeSeat 14 = .ok (.aload_n 2, 1) := by decide +kernel
theorem dX11_canTakeSeat_15 : decode cX11_canTakeSeat 15 = .ok (.invokevirtual 261, 3) := by decide +kernel
theorem dX11_canTakeSeat_18 : decode cX11_canTakeSeat 18 = .ok (.ifCond .eq 16, 3) := by decide +kernel
theorem dX11_canTakeSeat_21 : decode cX11_canTakeSeat 21 = .ok (.aload_n 0, 1) := by decide +kernel
theorem dX11_canTakeSeat_22 : decode cX11_canTakeSeat 22 = .ok (.aload_n 1, 1) := by decide +kernel
theorem dX11_canTakeSeat_23 : decode cX11_canTakeSeat 23 = .ok (.aload_n 2, 1) := by decide +kernel
theorem dX11_canTakeSeat_24 : decode cX11_canTakeSeat 24 = .ok (.invokevirtual 250, 3) := by decide +kernel
theorem dX11_canTakeSeat_27 : decode cX11_canTakeSeat 27 = .ok (.ifCond .eq 7, 3) := by decide +kernel
theorem dX11_canTakeSeat_30 : decode cX11_canTakeSeat 30 = .ok (.iconst 1, 1) := by decide +kernel
theorem dX11_canTakeSeat_31 : decode cX11_canTakeSeat 31 = .ok (.goto 4, 3) := by decide +kernel
theorem dX11_canTakeSeat_34 : decode cX11_canTakeSeat 34 = .ok (.iconst 0, 1) := by decide +kernel
theorem dX11_canTakeSeat_35 : decode cX11_canTakeSeat 35 = .ok (.ireturn, 1) := by decide +kernel
theorem dX11_giveOutSeats_0 : decode cX11_giveOutSeats 0 = .ok (.aload_n 0, 1) := by decide +kernel
theorem dX11_giveOutSeats_1 : decode cX11_giveOutSeats 1 = .ok (.getfield 180, 3) := by decide +kernel
theorem dX11_giveOutSeats_4 : decode cX11_giveOutSeats 4 = .ok (.iconst 5, 1) := by decide +kernel
theorem dX11_giveOutSeats_5 : decode cX11_giveOutSeats 5 = .ok (.if_icmp .le 4, 3) := by decide +kernel
theorem dX11_giveOutSeats_8 : decode cX11_giveOutSeats 8 = .ok (.return_, 1) := by decide +kernel
theorem dX11_giveOutSeats_9 : decode cX11_giveOutSeats 9 = .ok (.iconst 0, 1) := by decide +kernel
theorem dX11_giveOutSeats_10 : decode cX11_giveOutSeats 10 = .ok (.istore_n 1, 1) := by decide +kernel
theorem dX11_giveOutSeats_11 : decode cX11_giveOutSeats 11 = .ok (.iconst 0, 1) := by decide +kernel
theorem dX11_giveOutSeats_12 : decode cX11_giveOutSeats 12 = .ok (.istore_n 2, 1) := by decide +kernel
theorem dX11_giveOutSeats_13 : decode cX11_giveOutSeats 13 = .ok (.iload_n 2, 1) := by decide +kernel
theorem dX11_giveOutSeats_14 : decode cX11_giveOutSeats 14 = .ok (.sipush 2420, 3) := by decide +kernel
theorem dX11_giveOutSeats_17 : decode cX11_giveOutSeats 17 = .ok (.if_icmp .ge 46, 3) := by decide +kernel
theorem dX11_giveOutSeats_20 : decode cX11_giveOutSeats 20 = .ok (.iload_n 1, 1) := by decide +kernel
theorem dX11_giveOutSeats_21 : decode cX11_giveOutSeats 21 = .ok (.aload_n 0, 1) := by decide +kernel
theorem dX11_giveOutSeats_22 : decode cX11_giveOutSeats 22 = .ok (.getfield 12, 3) := by decide +kernel
theorem dX11_giveOutSeats_25 : decode cX11_giveOutSeats 25 = .ok (.invokevirtual 70, 3) := by decide +kernel
theorem dX11_giveOutSeats_28 : decode cX11_giveOutSeats 28 = .ok (.if_icmp .ge 35, 3) := by decide +kernel
theorem dX11_giveOutSeats_31 : decode cX11_giveOutSeats 31 = .ok (.aload_n 0, 1) := by decide +kernel
theorem dX11_giveOutSeats_32 : decode cX11_giveOutSeats 32 = .ok (.aload_n 0, 1) := by decide +kernel
theorem dX11_giveOutSeats_33 : decode cX11_giveOutSeats 33 = .ok (.getfield 12, 3) := by decide +kernel
theorem dX11_giveOutSeats_36 : decode cX11_giveOutSeats 36 = .ok (.iload_n 1, 1) := by decide +kernel
theorem dX11_giveOutSeats_37 : decode cX11_giveOutSeats 37 = .ok (.invokevirtual 276, 3) := by decide +kernel
theorem dX11_giveOutSeats_40 : decode cX11_giveOutSeats 40 = .ok (.checkcast 79, 3) := by decide +kernel
theorem dX11_giveOutSeats_43 : decode cX11_giveOutSeats 43 = .ok (.invokevirtual 434, 3) := by decide +kernel
theorem dX11_giveOutSeats_46 : decode cX11_giveOutSeats 46 = .ok (.ifCond .eq 7, 3) := by decide +kernel
theorem dX11_giveOutSeats_49 : decode cX11_giveOutSeats 49 = .ok (.iconst 0, 1) := by decide +kernel
theorem dX11_giveOutSeats_50 : decode cX11_giveOutSeats 50 = .ok (.goto 6, 3) := by decide +kernel
theorem dX11_giveOutSeats_53 : decode cX11_giveOutSeats 53 = .ok (.iload_n 1, 1) := by decide +kernel
theorem dX11_giveOutSeats_54 : decode cX11_giveOutSeats 54 = .ok (.iconst 1, 1) := by decide +kernel
theorem dX11_giveOutSeats_55 : decode cX11_giveOutSeats 55 = .ok (.iadd, 1) := by decide +kernel
theorem dX11_giveOutSeats_56 : decode cX11_giveOutSeats 56 = .ok (.istore_n 1, 1) := by decide +kernel
theorem dX11_giveOutSeats_57 : decode cX11_giveOutSeats 57 = .ok (.iinc 2 1, 3) := by decide +kernel
theorem dX11_giveOutSeats_60 : decode cX11_giveOutSeats 60 = .ok (.goto (-47), 3) := by decide +kernel
theorem dX11_giveOutSeats_63 : decode cX11_giveOutSeats 63 = .ok (.return_, 1) := by decide +kernel
theorem dX11_giveSeatIn_0 : decode cX11_giveSeatIn 0 = .ok (.iconst 0, 1) := by decide +kernel
theorem dX11_giveSeatIn_1 : decode cX11_giveSeatIn 1 = .ok (.istore_n 2, 1) := by decide +kernel
theorem dX11_giveSeatIn_2 : decode cX11_giveSeatIn 2 = .ok (.iload_n 2, 1) := by decide +kernel
theorem dX11_giveSeatIn_3 : decode cX11_giveSeatIn 3 = .ok (.aload_n 1, 1) := by decide +kernel
theorem dX11_giveSeatIn_4 : decode cX11_giveSeatIn 4 = .ok (.getfield 217, 3) := by decide +kernel
theorem dX11_giveSeatIn_7 : decode cX11_giveSeatIn 7 = .ok (.invokevirtual 70, 3) := by decide +kernel
theorem dX11_giveSeatIn_10 : decode cX11_giveSeatIn 10 = .ok (.if_icmp .ge 51, 3) := by decide +kernel
theorem dX11_giveSeatIn_13 : decode cX11_giveSeatIn 13 = .ok (.aload_n 1, 1) := by decide +kernel
theorem dX11_giveSeatIn_14 : decode cX11_giveSeatIn 14 = .ok (.getfield 217, 3) := by decide +kernel
theorem dX11_giveSeatIn_17 : decode cX11_giveSeatIn 17 = .ok (.iload_n 2, 1) := by decide +kernel
theorem dX11_giveSeatIn_18 : decode cX11_giveSeatIn 18 = .ok (.invokevirtual 276, 3) := by decide +kernel
theorem dX11_giveSeatIn_21 : decode cX11_giveSeatIn 21 = .ok (.checkcast 29, 3) := by decide +kernel
theorem dX11_giveSeatIn_24 : decode cX11_giveSeatIn 24 = .ok (.astore_n 3, 1) := by decide +kernel
theorem dX11_giveSeatIn_25 : decode cX11_giveSeatIn 25 = .ok (.aload_n 0, 1) := by decide +kernel
theorem dX11_giveSeatIn_26 : decode cX11_giveSeatIn 26 = .ok (.aload_n 3, 1) := by decide +kernel
theorem dX11_giveSeatIn_27 : decode cX11_giveSeatIn 27 = .ok (.aload_n 1, 1) := by decide +kernel
theorem dX11_giveSeatIn_28 : decode cX11_giveSeatIn 28 = .ok (.invokevirtual 437, 3) := by decide +kernel
theorem dX11_giveSeatIn_31 : decode cX11_giveSeatIn 31 = .ok (.ifCond .eq 24, 3) := by decide +kernel
theorem dX11_giveSeatIn_34 : decode cX11_giveSeatIn 34 = .ok (.aload_n 1, 1) := by decide +kernel
theorem dX11_giveSeatIn_35 : decode cX11_giveSeatIn 35 = .ok (.getfield 217, 3) := by decide +kernel
theorem dX11_giveSeatIn_38 : decode cX11_giveSeatIn 38 = .ok (.iload_n 2, 1) := by decide +kernel
theorem dX11_giveSeatIn_39 : decode cX11_giveSeatIn 39 = .ok (.invokevirtual 440, 3) := by decide +kernel
theorem dX11_giveSeatIn_42 : decode cX11_giveSeatIn 42 = .ok (.pop, 1) := by decide +kernel
theorem dX11_giveSeatIn_43 : decode cX11_giveSeatIn 43 = .ok (.aload_n 3, 1) := by decide +kernel
theorem dX11_giveSeatIn_44 : decode cX11_giveSeatIn 44 = .ok (.getfield 214, 3) := by decide +kernel
theorem dX11_giveSeatIn_47 : decode cX11_giveSeatIn 47 = .ok (.aload_n 1, 1) := by decide +kernel
theorem dX11_giveSeatIn_48 : decode cX11_giveSeatIn 48 = .ok (.getfield 428, 3) := by decide +kernel
theorem dX11_giveSeatIn_51 : decode cX11_giveSeatIn 51 = .ok (.iconst 1, 1) := by decide +kernel
theorem dX11_giveSeatIn_52 : decode cX11_giveSeatIn 52 = .ok (.bastore, 1) := by decide +kernel
theorem dX11_giveSeatIn_53 : decode cX11_giveSeatIn 53 = .ok (.iconst 1, 1) := by decide +kernel
theorem dX11_giveSeatIn_54 : decode cX11_giveSeatIn 54 = .ok (.ireturn, 1) := by decide +kernel
theorem dX11_giveSeatIn_55 : decode cX11_giveSeatIn 55 = .ok (.iinc 2 1, 3) := by decide +kernel
theorem dX11_giveSeatIn_58 : decode cX11_giveSeatIn 58 = .ok (.goto (-56), 3) := by decide +kernel
theorem dX11_giveSeatIn_61 : decode cX11_giveSeatIn 61 = .ok (.iconst 0, 1) := by decide +kernel
theorem dX11_giveSeatIn_62 : decode cX11_giveSeatIn 62 = .ok (.ireturn, 1) := by decide +kernel
theorem dX11_emptyWaitingLists_0 : decode cX11_emptyWaitingLists 0 = .ok (.iconst 0, 1) := by decide +kernel
theorem dX11_emptyWaitingLists_1 : decode cX11_emptyWaitingLists 1 = .ok (.istore_n 1, 1) := by decide +kernel
theorem dX11_emptyWaitingLists_2 : decode cX11_emptyWaitingLists 2 = .ok (.iload_n 1, 1) := by decide +kernel
theorem dX11_emptyWaitingLists_3 : decode cX11_emptyWaitingLists 3 = .ok (.aload_n 0, 1) := by decide +kernel
theorem dX11_emptyWaitingLists_4 : decode cX11_emptyWaitingLists 4 = .ok (.getfield 12, 3) := by decide +kernel
theorem dX11_emptyWaitingLists_7 : decode cX11_emptyWaitingLists 7 = .ok (.invokevirtual 70, 3) := by decide +kernel
theorem dX11_emptyWaitingLists_10 : decode cX11_emptyWaitingLists 10 = .ok (.if_icmp .ge 26, 3) := by decide +kernel
theorem dX11_emptyWaitingLists_13 : decode cX11_emptyWaitingLists 13 = .ok (.aload_n 0, 1) := by decide +kernel
theorem dX11_emptyWaitingLists_14 : decode cX11_emptyWaitingLists 14 = .ok (.getfield 12, 3) := by decide +kernel
theorem dX11_emptyWaitingLists_17 : decode cX11_emptyWaitingLists 17 = .ok (.iload_n 1, 1) := by decide +kernel
theorem dX11_emptyWaitingLists_18 : decode cX11_emptyWaitingLists 18 = .ok (.invokevirtual 276, 3) := by decide +kernel
theorem dX11_emptyWaitingLists_21 : decode cX11_emptyWaitingLists 21 = .ok (.checkcast 79, 3) := by decide +kernel
theorem dX11_emptyWaitingLists_24 : decode cX11_emptyWaitingLists 24 = .ok (.getfield 217, 3) := by decide +kernel
theorem dX11_emptyWaitingLists_27 : decode cX11_emptyWaitingLists 27 = .ok (.invokevirtual 443, 3) := by decide +kernel
theorem dX11_emptyWaitingLists_30 : decode cX11_emptyWaitingLists 30 = .ok (.iinc 1 1, 3) := by decide +kernel
theorem dX11_emptyWaitingLists_33 : decode cX11_emptyWaitingLists 33 = .ok (.goto (-31), 3) := by decide +kernel
theorem dX11_emptyWaitingLists_36 : decode cX11_emptyWaitingLists 36 = .ok (.return_, 1) := by decide +kernel
theorem dX11_isWithdrawalDay_0 : decode cX11_isWithdrawalDay 0 = .ok (.aload_n 0, 1) := by decide +kernel
theorem dX11_isWithdrawalDay_1 : decode cX11_isWithdrawalDay 1 = .ok (.getfield 180, 3) := by decide +kernel
theorem dX11_isWithdrawalDay_4 : decode cX11_isWithdrawalDay 4 = .ok (.bipush 9, 2) := by decide +kernel
theorem dX11_isWithdrawalDay_6 : decode cX11_isWithdrawalDay 6 = .ok (.bipush 20, 2) := by decide +kernel
theorem dX11_isWithdrawalDay_8 : decode cX11_isWithdrawalDay 8 = .ok (.invokestatic 59, 3) := by decide +kernel
theorem dX11_isWithdrawalDay_11 : decode cX11_isWithdrawalDay 11 = .ok (.ireturn, 1) := by decide +kernel
theorem dX11_endWithOthers_0 : decode cX11_endWithOthers 0 = .ok (.iload_n 2, 1) := by decide +kernel
theorem dX11_endWithOthers_1 : decode cX11_endWithOthers 1 = .ok (.istore_n 3, 1) := by decide +kernel
theorem dX11_endWithOthers_2 : decode cX11_endWithOthers 2 = .ok (.iconst 0, 1) := by decide +kernel
theorem dX11_endWithOthers_3 : decode cX11_endWithOthers 3 = .ok (.istore 4, 2) := by decide +kernel
theorem dX11_endWithOthers_5 : decode cX11_endWithOthers 5 = .ok (.iload 4, 2) := by decide +kernel
theorem dX11_endWithOthers_7 : decode cX11_endWithOthers 7 = .ok (.bipush 20, 2) := by decide +kernel
theorem dX11_endWithOthers_9 : decode cX11_endWithOthers 9 = .ok (.if_icmp .ge 40, 3) := by decide +kernel
theorem dX11_endWithOthers_12 : decode cX11_endWithOthers 12 = .ok (.iload_n 3, 1) := by decide +kernel
theorem dX11_endWithOthers_13 : decode cX11_endWithOthers 13 = .ok (.iconst (-1), 1) := by decide +kernel
theorem dX11_endWithOthers_14 : decode cX11_endWithOthers 14 = .ok (.if_icmp .eq 35, 3) := by decide +kernel
theorem dX11_endWithOthers_17 : decode cX11_endWithOthers 17 = .ok (.aload_n 1, 1) := by decide +kernel
theorem dX11_endWithOthers_18 : decode cX11_endWithOthers 18 = .ok (.getfield 214, 3) := by decide +kernel
theorem dX11_endWithOthers_21 : decode cX11_endWithOthers 21 = .ok (.iload_n 3, 1) := by decide +kernel
theorem dX11_endWithOthers_22 : decode cX11_endWithOthers 22 = .ok (.iconst 0, 1) := by decide +kernel
theorem dX11_endWithOthers_23 : decode cX11_endWithOthers 23 = .ok (.bastore, 1) := by decide +kernel
theorem dX11_endWithOthers_24 : decode cX11_endWithOthers 24 = .ok (.aload_n 0, 1) := by decide +kernel
theorem dX11_endWithOthers_25 : decode cX11_endWithOthers 25 = .ok (.invokevirtual 236, 3) := by decide +kernel
theorem dX11_endWithOthers_28 : decode cX11_endWithOthers 28 = .ok (.ifCond .eq 9, 3) := by decide +kernel
theorem dX11_endWithOthers_31 : decode cX11_endWithOthers 31 = .ok (.aload_n 1, 1) := by decide +kernel
theorem dX11_endWithOthers_32 : decode cX11_endWithOthers 32 = .ok (.iload_n 3, 1) := by decide +kernel
theorem dX11_endWithOthers_33 : decode cX11_endWithOthers 33 = .ok (.iconst (-1), 1) := by decide +kernel
theorem dX11_endWithOthers_34 : decode cX11_endWithOthers 34 = .ok (.invokevirtual 422, 3) := by decide +kernel
theorem dX11_endWithOthers_37 : decode cX11_endWithOthers 37 = .ok (.aload_n 0, 1) := by decide +kernel
theorem dX11_endWithOthers_38 : decode cX11_endWithOthers 38 = .ok (.aload_n 1, 1) := by decide +kernel
theorem dX11_endWithOthers_39 : decode cX11_endWithOthers 39 = .ok (.invokevirtual 446, 3) := by decide +kernel
theorem dX11_endWithOthers_42 : decode cX11_endWithOthers 42 = .ok (.istore_n 3, 1) := by decide +kernel
theorem dX11_endWithOthers_43 : decode cX11_endWithOthers 43 = .ok (.iinc 4 1, 3) := by decide +kernel
theorem dX11_endWithOthers_46 : decode cX11_endWithOthers 46 = .ok (.goto (-41), 3) := by decide +kernel
theorem dX11_endWithOthers_49 : decode cX11_endWithOthers 49 = .ok (.return_, 1) := by decide +kernel
theorem dX11_firstUnmet_0 : decode cX11_firstUnmet 0 = .ok (.aload_n 0, 1) := by decide +kernel
theorem dX11_firstUnmet_1 : decode cX11_firstUnmet 1 = .ok (.aload_n 1, 1) := by decide +kernel
theorem dX11_firstUnmet_2 : decode cX11_firstUnmet 2 = .ok (.invokevirtual 167, 3) := by decide +kernel
theorem dX11_firstUnmet_5 : decode cX11_firstUnmet 5 = .ok (.lstore_n 2, 1) := by decide +kernel
theorem dX11_firstUnmet_6 : decode cX11_firstUnmet 6 = .ok (.iconst 0, 1) := by decide +kernel
theorem dX11_firstUnmet_7 : decode cX11_firstUnmet 7 = .ok (.istore 4, 2) := by decide +kernel
theorem dX11_firstUnmet_9 : decode cX11_firstUnmet 9 = .ok (.iload 4, 2) := by decide +kernel
theorem dX11_firstUnmet_11 : decode cX11_firstUnmet 11 = .ok (.aload_n 0, 1) := by decide +kernel
theorem dX11_firstUnmet_12 : decode cX11_firstUnmet 12 = .ok (.getfield 12, 3) := by decide +kernel
theorem dX11_firstUnmet_15 : decode cX11_firstUnmet 15 = .ok (.invokevirtual 70, 3) := by decide +kernel
theorem dX11_firstUnmet_18 : decode cX11_firstUnmet 18 = .ok (.if_icmp .ge 44, 3) := by decide +kernel
theorem dX11_firstUnmet_21 : decode cX11_firstUnmet 21 = .ok (.aload_n 1, 1) := by decide +kernel
theorem dX11_firstUnmet_22 : decode cX11_firstUnmet 22 = .ok (.getfield 214, 3) := by decide +kernel
theorem dX11_firstUnmet_25 : decode cX11_firstUnmet 25 = .ok (.iload 4, 2) := by decide +kernel
theorem dX11_firstUnmet_27 : decode cX11_firstUnmet 27 = .ok (.baload, 1) := by decide +kernel
theorem dX11_firstUnmet_28 : decode cX11_firstUnmet 28 = .ok (.ifCond .eq 28, 3) := by decide +kernel
theorem dX11_firstUnmet_31 : decode cX11_firstUnmet 31 = .ok (.aload_n 0, 1) := by decide +kernel
theorem dX11_firstUnmet_32 : decode cX11_firstUnmet 32 = .ok (.getfield 12, 3) := by decide +kernel
theorem dX11_firstUnmet_35 : decode cX11_firstUnmet 35 = .ok (.iload 4, 2) := by decide +kernel
theorem dX11_firstUnmet_37 : decode cX11_firstUnmet 37 = .ok (.invokevirtual 276, 3) := by decide +kernel
theorem dX11_firstUnmet_40 : decode cX11_firstUnmet 40 = .ok (.checkcast 79, 3) := by decide +kernel
theorem dX11_firstUnmet_43 : decode cX11_firstUnmet 43 = .ok (.getfield 175, 3) := by decide +kernel
theorem dX11_firstUnmet_46 : decode cX11_firstUnmet 46 = .ok (.lload_n 2, 1) := by decide +kernel
theorem dX11_firstUnmet_47 : decode cX11_firstUnmet 47 = .ok (.invokestatic 171, 3) := by decide +kernel
theorem dX11_firstUnmet_50 : decode cX11_firstUnmet 50 = .ok (.ifCond .ne 6, 3) := by decide +kernel
theorem dX11_firstUnmet_53 : decode cX11_firstUnmet 53 = .ok (.iload 4, 2) := by decide +kernel
theorem dX11_firstUnmet_55 : decode cX11_firstUnmet 55 = .ok (.ireturn, 1) := by decide +kernel
theorem dX11_firstUnmet_56 : decode cX11_firstUnmet 56 = .ok (.iinc 4 1, 3) := by decide +kernel
theorem dX11_firstUnmet_59 : decode cX11_firstUnmet 59 = .ok (.goto (-50), 3) := by decide +kernel
theorem dX11_firstUnmet_62 : decode cX11_firstUnmet 62 = .ok (.iconst (-1), 1) := by decide +kernel
theorem dX11_firstUnmet_63 : decode cX11_firstUnmet 63 = .ok (.ireturn, 1) := by decide +kernel
theorem dX11_isCourseSound_0 : decode cX11_isCourseSound 0 = .ok (.aload_n 0, 1) := by decide +kernel
theorem dX11_isCourseSound_1 : decode cX11_isCourseSound 1 = .ok (.aload_n 1, 1) := by decide +kernel
theorem dX11_isCourseSound_2 : decode cX11_isCourseSound 2 = .ok (.invokevirtual 314, 3) := by decide +kernel
theorem dX11_isCourseSound_5 : decode cX11_isCourseSound 5 = .ok (.aload_n 1, 1) := by decide +kernel
theorem dX11_isCourseSound_6 : decode cX11_isCourseSound 6 = .ok (.getfield 113, 3) := by decide +kernel
theorem dX11_isCourseSound_9 : decode cX11_isCourseSound 9 = .ok (.if_icmp .le 5, 3) := by decide +kernel
theorem dX11_isCourseSound_12 : decode cX11_isCourseSound 12 = .ok (.iconst 0, 1) := by decide +kernel
theorem dX11_isCourseSound_13 : decode cX11_isCourseSound 13 = .ok (.ireturn, 1) := by decide +kernel
theorem dX11_isCourseSound_14 : decode cX11_isCourseSound 14 = .ok (.iconst 0, 1) := by decide +kernel
theorem dX11_isCourseSound_15 : decode cX11_isCourseSound 15 = .ok (.istore_n 2, 1) := by decide +kernel
theorem dX11_isCourseSound_16 : decode cX11_isCourseSound 16 = .ok (.iload_n 2, 1) := by decide +kernel
theorem dX11_isCourseSound_17 : decode cX11_isCourseSound 17 = .ok (.aload_n 1, 1) := by decide +kernel
theorem dX11_isCourseSound_18 : decode cX11_isCourseSound 18 = .ok (.getfield 217, 3) := by decide +kernel
theorem dX11_isCourseSound_21 : decode cX11_isCourseSound 21 = .ok (.invokevirtual 70, 3) := by decide +kernel
theorem dX11_isCourseSound_24 : decode cX11_isCourseSound 24 = .ok (.if_icmp .ge 44, 3) := by decide +kernel
theorem dX11_isCourseSound_27 : decode cX11_isCourseSound 27 = .ok (.aload_n 1, 1) := by decide +kernel
theorem dX11_isCourseSound_28 : decode cX11_isCourseSound 28 = .ok (.getfield 217, 3) := by decide +kernel
theorem dX11_isCourseSound_31 : decode cX11_isCourseSound 31 = .ok (.iload_n 2, 1) := by decide +kernel
theorem dX11_isCourseSound_32 : decode cX11_isCourseSound 32 = .ok (.invokevirtual 276, 3) := by decide +kernel
theorem dX11_isCourseSound_35 : decode cX11_isCourseSound 35 = .ok (.checkcast 29, 3) := by decide +kernel
theorem dX11_isCourseSound_38 : decode cX11_isCourseSound 38 = .ok (.astore_n 3, 1) := by decide +kernel
theorem dX11_isCourseSound_39 : decode cX11_isCourseSound 39 = .ok (.aload_n 3, 1) := by decide +kernel
theorem dX11_isCourseSound_40 : decode cX11_isCourseSound 40 = .ok (.getfield 214, 3) := by decide +kernel
theorem dX11_isCourseSound_43 : decode cX11_isCourseSound 43 = .ok (.aload_n 1, 1) := by decide +kernel
theorem dX11_isCourseSound_44 : decode cX11_isCourseSound 44 = .ok (.getfield 428, 3) := by decide +kernel
theorem dX11_isCourseSound_47 : decode cX11_isCourseSound 47 = .ok (.baload, 1) := by decide +kernel
theorem dX11_isCourseSound_48 : decode cX11_isCourseSound 48 = .ok (.ifCond .ne 12, 3) := by decide +kernel
theorem dX11_isCourseSound_51 : decode cX11_isCourseSound 51 = .ok (.aload_n 0, 1) := by decide +kernel
theorem dX11_isCourseSound_52 : decode cX11_isCourseSound 52 = .ok (.aload_n 3, 1) := by decide +kernel
theorem dX11_isCourseSound_53 : decode cX11_isCourseSound 53 = .ok (.aload_n 1, 1) := by decide +kernel
theorem dX11_isCourseSound_54 : decode cX11_isCourseSound 54 = .ok (.invokevirtual 437, 3) := by decide +kernel
theorem dX11_isCourseSound_57 : decode cX11_isCourseSound 57 = .ok (.ifCond .eq 5, 3) := by decide +kernel
theorem dX11_isCourseSound_60 : decode cX11_isCourseSound 60 = .ok (.iconst 0, 1) := by decide +kernel
theorem dX11_isCourseSound_61 : decode cX11_isCourseSound 61 = .ok (.ireturn, 1) := by decide +kernel
theorem dX11_isCourseSound_62 : decode cX11_isCourseSound 62 = .ok (.iinc 2 1, 3) := by decide +kernel
theorem dX11_isCourseSound_65 : decode cX11_isCourseSound 65 = .ok (.goto (-49), 3) := by decide +kernel
theorem dX11_isCourseSound_68 : decode cX11_isCourseSound 68 = .ok (.iconst 1, 1) := by decide +kernel
theorem dX11_isCourseSound_69 : decode cX11_isCourseSound 69 = .ok (.ireturn, 1) := by decide +kernel
theorem dX11_auditsAgree_0 : decode cX11_auditsAgree 0 = .ok (.aload_n 0, 1) := by decide +kernel
theorem dX11_auditsAgree_1 : decode cX11_auditsAgree 1 = .ok (.getfield 41, 3) := by decide +kernel
theorem dX11_auditsAgree_4 : decode cX11_auditsAgree 4 = .ok (.aload_n 0, 1) := by decide +kernel
theorem dX11_auditsAgree_5 : decode cX11_auditsAgree 5 = .ok (.getfield 22, 3) := by decide +kernel
theorem dX11_auditsAgree_8 : decode cX11_auditsAgree 8 = .ok (.aload_n 1, 1) := by decide +kernel
theorem dX11_auditsAgree_9 : decode cX11_auditsAgree 9 = .ok (.iconst 0, 1) := by decide +kernel
theorem dX11_auditsAgree_10 : decode cX11_auditsAgree 10 = .ok (.invokevirtual 363, 3) := by decide +kernel
theorem dX11_auditsAgree_13 : decode cX11_auditsAgree 13 = .ok (.aload_n 0, 1) := by decide +kernel
theorem dX11_auditsAgree_14 : decode cX11_auditsAgree 14 = .ok (.getfield 41, 3) := by decide +kernel
theorem dX11_auditsAgree_17 : decode cX11_auditsAgree 17 = .ok (.invokevirtual 370, 3) := by decide +kernel
theorem dX11_auditsAgree_20 : decode cX11_auditsAgree 20 = .ok (.istore_n 2, 1) := by decide +kernel
theorem dX11_auditsAgree_21 : decode cX11_auditsAgree 21 = .ok (.aload_n 0, 1) := by decide +kernel
theorem dX11_auditsAgree_22 : decode cX11_auditsAgree 22 = .ok (.getfield 41, 3) := by decide +kernel
theorem dX11_auditsAgree_25 : decode cX11_auditsAgree 25 = .ok (.invokevirtual 367, 3) := by decide +kernel
theorem dX11_auditsAgree_28 : decode cX11_auditsAgree 28 = .ok (.iload_n 2, 1) := by decide +kernel
theorem dX11_auditsAgree_29 : decode cX11_auditsAgree 29 = .ok (.if_icmp .ne 25, 3) := by decide +kernel
theorem dX11_auditsAgree_32 : decode cX11_auditsAgree 32 = .ok (.aload_n 0, 1) := by decide +kernel
theorem dX11_auditsAgree_33 : decode cX11_auditsAgree 33 = .ok (.getfield 41, 3) := by decide +kernel
theorem dX11_auditsAgree_36 : decode cX11_auditsAgree 36 = .ok (.invokevirtual 373, 3) := by decide +kernel
theorem dX11_auditsAgree_39 : decode cX11_auditsAgree 39 = .ok (.aload_n 0, 1) := by decide +kernel
theorem dX11_auditsAgree_40 : decode cX11_auditsAgree 40 = .ok (.getfield 41, 3) := by decide +kernel
theorem dX11_auditsAgree_43 : decode cX11_auditsAgree 43 = .ok (.iload_n 2, 1) := by decide +kernel
theorem dX11_auditsAgree_44 : decode cX11_auditsAgree 44 = .ok (.invokevirtual 376, 3) := by decide +kernel
theorem dX11_auditsAgree_47 : decode cX11_auditsAgree 47 = .ok (.if_icmp .ne 7, 3) := by decide +kernel
theorem dX11_auditsAgree_50 : decode cX11_auditsAgree 50 = .ok (.iconst 1, 1) := by decide +kernel
theorem dX11_auditsAgree_51 : decode cX11_auditsAgree 51 = .ok (.goto 4, 3) := by decide +kernel
theorem dX11_auditsAgree_54 : decode cX11_auditsAgree 54 = .ok (.iconst 0, 1) := by decide +kernel
theorem dX11_auditsAgree_55 : decode cX11_auditsAgree 55 = .ok (.ireturn, 1) := by decide +kernel
theorem dX12_init_0 : decode cX12_init 0 = .ok (.aload_n 0, 1) := by decide +kernel
theorem dX12_init_1 : decode cX12_init 1 = .ok (.invokespecial 1, 3) := by decide +kernel
theorem dX12_init_4 : decode cX12_init 4 = .ok (.aload_n 0, 1) := by decide +kernel
theorem dX12_init_5 : decode cX12_init 5 = .ok (.bipush 12, 2) := by decide +kernel
theorem dX12_init_7 : decode cX12_init 7 = .ok (.newarray .int, 2) := by decide +kernel
theorem dX12_init_9 : decode cX12_init 9 = .ok (.putfield 9, 3) := by decide +kernel
theorem dX12_init_12 : decode cX12_init 12 = .ok (.aload_n 0, 1) := by decide +kernel
theorem dX12_init_13 : decode cX12_init 13 = .ok (.bipush 12, 2) := by decide +kernel
theorem dX12_init_15 : decode cX12_init 15 = .ok (.newarray .int, 2) := by decide +kernel
theorem dX12_init_17 : decode cX12_init 17 = .ok (.putfield 13, 3) := by decide +kernel
theorem dX12_init_20 : decode cX12_init 20 = .ok (.aload_n 0, 1) := by decide +kernel
theorem dX12_init_21 : decode cX12_init 21 = .ok (.bipush 12, 2) := by decide +kernel
theorem dX12_init_23 : decode cX12_init 23 = .ok (.newarray .int, 2) := by decide +kernel
theorem dX12_init_25 : decode cX12_init 25 = .ok (.putfield 16, 3) := by decide +kernel
theorem dX12_init_28 : decode cX12_init 28 = .ok (.aload_n 0, 1) := by decide +kernel
theorem dX12_init_29 : decode cX12_init 29 = .ok (.bipush 12, 2) := by decide +kernel
theorem dX12_init_31 : decode cX12_init 31 = .ok (.newarray .int, 2) := by decide +kernel
theorem dX12_init_33 : decode cX12_init 33 = .ok (.putfield 19, 3) := by decide +kernel
theorem dX12_init_36 : decode cX12_init 36 = .ok (.aload_n 0, 1) := by decide +kernel
theorem dX12_init_37 : decode cX12_init 37 = .ok (.iconst 5, 1) := by decide +kernel
theorem dX12_init_38 : decode cX12_init 38 = .ok (.newarray .int, 2) := by decide +kernel
theorem dX12_init_40 : decode cX12_init 40 = .ok (.dup, 1) := by decide +kernel
theorem dX12_init_41 : decode cX12_init 41 = .ok (.iconst 0, 1) := by decide +kernel
theorem dX12_init_42 : decode cX12_init 42 = .ok (.iconst (-1), 1) := by decide +kernel
theorem dX12_init_43 : decode cX12_init 43 = .ok (.iastore, 1) := by decide +kernel
theorem dX12_init_44 : decode cX12_init 44 = .ok (.dup, 1) := by decide +kernel
theorem dX12_init_45 : decode cX12_init 45 = .ok (.iconst 1, 1) := by decide +kernel
theorem dX12_init_46 : decode cX12_init 46 = .ok (.iconst (-1), 1) := by decide +kernel
theorem dX12_init_47 : decode cX12_init 47 = .ok (.iastore, 1) := by decide +kernel
theorem dX12_init_48 : decode cX12_init 48 = .ok (.dup, 1) := by decide +kernel
theorem dX12_init_49 : decode cX12_init 49 = .ok (.iconst 2, 1) := by decide +kernel
theorem dX12_init_50 : decode cX12_init 50 = .ok (.iconst (-1), 1) := by decide +kernel
theorem dX12_init_51 : decode cX12_init 51 = .ok (.iastore, 1) := by decide +kernel
theorem dX12_init_52 : decode cX12_init 52 = .ok (.dup, 1) := by decide +kernel
theorem dX12_init_53 : decode cX12_init 53 = .ok (.iconst 3, 1) := by decide +kernel
theorem dX12_init_54 : decode cX12_init 54 = .ok (.iconst (-1), 1) := by decide +kernel
theorem dX12_init_55 : decode cX12_init 55 = .ok (.iastore, 1) := by decide +kernel
theorem dX12_init_56 : decode cX12_init 56 = .ok (.dup, 1) := by decide +kernel
theorem dX12_init_57 : decode cX12_init 57 = .ok (.iconst 4, 1) := by decide +kernel
theorem dX12_init_58 : decode cX12_init 58 = .ok (.iconst (-1), 1) := by decide +kernel
theorem dX12_init_59 : decode cX12_init 59 = .ok (.iastore, 1) := by decide +kernel
theorem dX12_init_60 : decode cX12_init 60 = .ok (.putfield 22, 3) := by decide +kernel
theorem dX12_init_63 : decode cX12_init 63 = .ok (.aload_n 0, 1) := by decide +kernel
theorem dX12_init_64 : decode cX12_init 64 = .ok (.iconst 5, 1) := by decide +kernel
theorem dX12_init_65 : decode cX12_init 65 = .ok (.newarray .int, 2) := by decide +kernel
theorem dX12_init_67 : decode cX12_init 67 = .ok (.putfield 25, 3) := by decide +kernel
theorem dX12_init_70 : decode cX12_init 70 = .ok (.aload_n 0, 1) := by decide +kernel
theorem dX12_init_71 : decode cX12_init 71 = .ok (.iconst 5, 1) := by decide +kernel
theorem dX12_init_72 : decode cX12_init 72 = .ok (.newarray .int, 2) := by decide +kernel
theorem dX12_init_74 : decode cX12_init 74 = .ok (.putfield 28, 3) := by decide +kernel
theorem dX12_init_77 : decode cX12_init 77 = .ok (.aload_n 0, 1) := by decide +kernel
theorem dX12_init_78 : decode cX12_init 78 = .ok (.bipush 20, 2) := by decide +kernel
theorem dX12_init_80 : decode cX12_init 80 = .ok (.newarray .int, 2) := by decide +kernel
theorem dX12_init_82 : decode cX12_init 82 = .ok (.putfield 31, 3) := by decide +kernel
theorem dX12_init_85 : decode cX12_init 85 = .ok (.aload_n 0, 1) := by decide +kernel
theorem dX12_init_86 : decode cX12_init 86 = .ok (.iconst 5, 1) := by decide +kernel
theorem dX12_init_87 : decode cX12_init 87 = .ok (.newarray .int, 2) := by decide +kernel
theorem dX12_init_89 : decode cX12_init 89 = .ok (.putfield 34, 3) := by decide +kernel
theorem dX12_init_92 : decode cX12_init 92 = .ok (.return_, 1) := by decide +kernel
theorem dX12_holds_0 : decode cX12_holds 0 = .ok (.aload_n 0, 1) := by decide +kernel
theorem dX12_holds_1 : decode cX12_holds 1 = .ok (.getfield 9, 3) := by decide +kernel
theorem dX12_holds_4 : decode cX12_holds 4 = .ok (.iload_n 2, 1) := by decide +kernel
theorem dX12_holds_5 : decode cX12_holds 5 = .ok (.iaload, 1) := by decide +kernel
theorem dX12_holds_6 : decode cX12_holds 6 = .ok (.tableswitch 276 0 5 #[38, 64, 100, 120, 156, 192], 38) := by decide +kernel
theorem dX12_holds_44 : decode cX12_holds 44 = .ok (.aload_n 1, 1) := by decide +kernel
theorem dX12_holds_45 : decode cX12_holds 45 = .ok (.iload_n 3, 1) := by decide +kernel
theorem dX12_holds_46 : decode cX12_holds 46 = .ok (.aload_n 0, 1) := by decide +kernel
theorem dX12_holds_47 : decode cX12_holds 47 = .ok (.getfield 13, 3) := by decide +kernel
theorem dX12_holds_50 : decode cX12_holds 50 = .ok (.iload_n 2, 1) := by decide +kernel
theorem dX12_holds_51 : decode cX12_holds 51 = .ok (.iaload, 1) := by decide +kernel
theorem dX12_holds_52 : decode cX12_holds 52 = .ok (.invokestatic 37, 3) := by decide +kernel
theorem dX12_holds_55 : decode cX12_holds 55 = .ok (.aload_n 0, 1) := by decide +kernel
theorem dX12_holds_56 : decode cX12_holds 56 = .ok (.getfield 16, 3) := by decide +kernel
theorem dX12_holds_59 : decode cX12_holds 59 = .ok (.iload_n 2, 1) := by decide +kernel
theorem dX12_holds_60 : decode cX12_holds 60 = .ok (.iaload, 1) := by decide +kernel
theorem dX12_holds_61 : decode cX12_holds 61 = .ok (.if_icmp .lt 7, 3) := by decide +kernel
theorem dX12_holds_64 : decode cX12_holds 64 = .ok (.iconst 1, 1) := by decide +kernel
theorem dX12_holds_65 : decode cX12_holds 65 = .ok (.goto 4, 3) := by decide +kernel
theorem dX12_holds_68 : decode cX12_holds 68 = .ok (.iconst 0, 1) := by decide +kernel
theorem dX12_holds_69 : decode cX12_holds 69 = .ok (.ireturn, 1) := by decide +kernel
theorem dX12_holds_70 : decode cX12_holds 70 = .ok (.aload_n 1, 1) := by decide +kernel
theorem dX12_holds_71 : decode cX12_holds 71 = .ok (.iload_n 3, 1) := by decide +kernel
theorem dX12_holds_72 : decode cX12_holds 72 = .ok (.aload_n 0, 1) := by decide +kernel
theorem dX12_holds_73 : decode cX12_holds 73 = .ok (.getfield 13, 3) := by decide +kernel
theorem dX12_holds_76 : decode cX12_holds 76 = .ok (.iload_n 2, 1) := by decide +kernel
theorem dX12_holds_77 : decode cX12_holds 77 = .ok (.iaload, 1) := by decide +kernel
theorem dX12_holds_78 : decode cX12_holds 78 = .ok (.invokevirtual 43, 3) := by decide +kernel
theorem dX12_holds_81 : decode cX12_holds 81 = .ok (.ifCond .ne 19, 3) := by decide +kernel
theorem dX12_holds_84 : decode cX12_holds 84 = .ok (.aload_n 1, 1) := by decide +kernel
theorem dX12_holds_85 : decode cX12_holds 85 = .ok (.iload_n 3, 1) := by decide +kernel
theorem dX12_holds_86 : decode cX12_holds 86 = .ok (.aload_n 0, 1) := by decide +kernel
theorem dX12_holds_87 : decode cX12_holds 87 = .ok (.getfield 13, 3) := by decide +kernel
theorem dX12_holds_90 : decode cX12_holds 90 = .ok (.iload_n 2, 1) := by decide +kernel
theorem dX12_holds_91 : decode cX12_holds 91 = .ok (.iaload, 1) := by decide +kernel
theorem dX12_holds_92 : decode cX12_holds 92 = .ok (.invokestatic 37, 3) := by decide +kernel
theorem dX12_holds_95 : decode cX12_holds 95 = .ok (.bipush 50, 2) := by decide +kernel
theorem dX12_holds_97 : decode cX12_holds 97 = .ok (.if_icmp .lt 7, 3) := by decide +kernel
theorem dX12_holds_100 : decode cX12_holds 100 = .ok (.iconst 1, 1) := by decide +kernel
theorem dX12_holds_101 : decode cX12_holds 101 = .ok (.goto 4, 3) := by decide +kernel
theorem dX12_holds_104 : decode cX12_holds 104 = .ok (.iconst 0, 1) := by decide +kernel
theorem dX12_holds_105 : decode cX12_holds 105 = .ok (.ireturn, 1) := by decide +kernel
theorem dX12_holds_106 : decode cX12_holds 106 = .ok (.aload_n 1, 1) := by decide +kernel
theorem dX12_holds_107 : decode cX12_holds 107 = .ok (.iload_n 3, 1) := by decide +kernel
theorem dX12_holds_108 : decode cX12_holds 108 = .ok (.invokevirtual 49, 3) := by decide +kernel
theorem dX12_holds_111 : decode cX12_holds 111 = .ok (.aload_n 0, 1) := by decide +kernel
theorem dX12_holds_112 : decode cX12_holds 112 = .ok (.getfield 13, 3) := by decide +kernel
theorem dX12_holds_115 : decode cX12_holds 115 = .ok (.iload_n 2, 1) := by decide +kernel
theorem dX12_holds_116 : decode cX12_holds 116 = .ok (.iaload, 1) := by decide +kernel
theorem dX12_holds_117 : decode cX12_holds 117 = .ok (.if_icmp .lt 7, 3) := by decide +kernel
theorem dX12_holds_120 : decode cX12_holds 120 = .ok (.iconst 1, 1) := by decide +kernel
theorem dX12_holds_121 : decode cX12_holds 121 = .ok (.goto 4, 3) := by decide +kernel
theorem dX12_holds_124 : decode cX12_holds 124 = .ok (.iconst 0, 1) := by decide +kernel
theorem dX12_holds_125 : decode cX12_holds 125 = .ok (.ireturn, 1) := by decide +kernel
theorem dX12_holds_126 : decode cX12_holds 126 = .ok (.aload_n 0, 1) := by decide +kernel
theorem dX12_holds_127 : decode cX12_holds 127 = .ok (.aload_n 1, 1) := by decide +kernel
theorem dX12_holds_128 : decode cX12_holds 128 = .ok (.aload_n 0, 1) := by decide +kernel
theorem dX12_holds_129 : decode cX12_holds 129 = .ok (.getfield 13, 3) := by decide +kernel
theorem dX12_holds_132 : decode cX12_holds 132 = .ok (.iload_n 2, 1) := by decide +kernel
theorem dX12_holds_133 : decode cX12_holds 133 = .ok (.iaload, 1) := by decide +kernel
theorem dX12_holds_134 : decode cX12_holds 134 = .ok (.iload_n 3, 1) := by decide +kernel
theorem dX12_holds_135 : decode cX12_holds 135 = .ok (.invokevirtual 53, 3) := by decide +kernel
theorem dX12_holds_138 : decode cX12_holds 138 = .ok (.ifCond .eq 22, 3) := by decide +kernel
theorem dX12_holds_141 : decode cX12_holds 141 = .ok (.aload_n 0, 1) := by decide +kernel
theorem dX12_holds_142 : decode cX12_holds 142 = .ok (.aload_n 1, 1) := by decide +kernel
theorem dX12_holds_143 : decode cX12_holds 143 = .ok (.aload_n 0, 1) := by decide +kernel
theorem dX12_holds_144 : decode cX12_holds 144 = .ok (.getfield 16, 3) := by decide +kernel
theorem dX12_holds_147 : decode cX12_holds 147 = .ok (.iload_n 2, 1) := by decide +kernel
theorem dX12_holds_148 : decode cX12_holds 148 = .ok (.iaload, 1) := by decide +kernel
theorem dX12_holds_149 : decode cX12_holds 149 = .ok (.iload_n 3, 1) := by decide +kernel
theorem dX12_holds_150 : decode cX12_holds 150 = .ok (.invokevirtual 53, 3) := by decide +kernel
theorem dX12_holds_153 : decode cX12_holds 153 = .ok (.ifCond .eq 7, 3) := by decide +kernel
theorem dX12_holds_156 : decode cX12_holds 156 = .ok (.iconst 1, 1) := by decide +kernel
theorem dX12_holds_157 : decode cX12_holds 157 = .ok (.goto 4, 3) := by decide +kernel
theorem dX12_holds_160 : decode cX12_holds 160 = .ok (.iconst 0, 1) := by decide +kernel
theorem dX12_holds_161 : decode cX12_holds 161 = .ok (.ireturn, 1) := by decide +kernel
theorem dX12_holds_162 : decode cX12_holds 162 = .ok (.aload_n 0, 1) := by decide +kernel
theorem dX12_holds_163 : decode cX12_holds 163 = .ok (.aload_n 1, 1) := by decide +kernel
theorem dX12_holds_164 : decode cX12_holds 164 = .ok (.aload_n 0, 1) := by decide +kernel
theorem dX12_holds_165 : decode cX12_holds 165 = .ok (.getfield 13, 3) := by decide +kernel
theorem dX12_holds_168 : decode cX12_holds 168 = .ok (.iload_n 2, 1) := by decide +kernel
theorem dX12_holds_169 : decode cX12_holds 169 = .ok (.iaload, 1) := by decide +kernel
theorem dX12_holds_170 : decode cX12_holds 170 = .ok (.iload_n 3, 1) := by decide +kernel
theorem dX12_holds_171 : decode cX12_holds 171 = .ok (.invokevirtual 53, 3) := by decide +kernel
theorem dX12_holds_174 : decode cX12_holds 174 = .ok (.ifCond .ne 18, 3) := by decide +kernel
theorem dX12_holds_177 : decode cX12_holds 177 = .ok (.aload_n 0, 1) := by decide +kernel
theorem dX12_holds_178 : decode cX12_holds 178 = .ok (.aload_n 1, 1) := by decide +kernel
theorem dX12_holds_179 : decode cX12_holds 179 = .ok (.aload_n 0, 1) := by decide +kernel
theorem dX12_holds_180 : decode cX12_holds 180 = .ok (.getfield 16, 3) := by decide +kernel
theorem dX12_holds_183 : decode cX12_holds 183 = .ok (.iload_n 2, 1) := by decide +kernel
theorem dX12_holds_184 : decode cX12_holds 184 = .ok (.iaload, 1) := by decide +kernel
theorem dX12_holds_185 : decode cX12_holds 185 = .ok (.iload_n 3, 1) := by decide +kernel
theorem dX12_holds_186 : decode cX12_holds 186 = .ok (.invokevirtual 53, 3) := by decide +kernel
theorem dX12_holds_189 : decode cX12_holds 189 = .ok (.ifCond .eq 7, 3) := by decide +kernel
theorem dX12_holds_192 : decode cX12_holds 192 = .ok (.iconst 1, 1) := by decide +kernel
theorem dX12_holds_193 : decode cX12_holds 193 = .ok (.goto 4, 3) := by decide +kernel
theorem dX12_holds_196 : decode cX12_holds 196 = .ok (.iconst 0, 1) := by decide +kernel
theorem dX12_holds_197 : decode cX12_holds 197 = .ok (.ireturn, 1) := by decide +kernel
theorem dX12_holds_198 : decode cX12_holds 198 = .ok (.aload_n 0, 1) := by decide +kernel
theorem dX12_holds_199 : decode cX12_holds 199 = .ok (.aload_n 1, 1) := by decide +kernel
theorem dX12_holds_200 : decode cX12_holds 200 = .ok (.aload_n 0, 1) := by decide +kernel
theorem dX12_holds_201 : decode cX12_holds 201 = .ok (.getfield 13, 3) := by decide +kernel
theorem dX12_holds_204 : decode cX12_holds 204 = .ok (.iload_n 2, 1) := by decide +kernel
theorem dX12_holds_205 : decode cX12_holds 205 = .ok (.iaload, 1) := by decide +kernel
theorem dX12_holds_206 : decode cX12_holds 206 = .ok (.iload_n 3, 1) := by decide +kernel
theorem dX12_holds_207 : decode cX12_holds 207 = .ok (.invokevirtual 53, 3) := by decide +kernel
theorem dX12_holds_210 : decode cX12_holds 210 = .ok (.ifCond .eq 7, 3) := by decide +kernel
theorem dX12_holds_213 : decode cX12_holds 213 = .ok (.iconst 1, 1) := by decide +kernel
theorem dX12_holds_214 : decode cX12_holds 214 = .ok (.goto 4, 3) := by decide +kernel
theorem dX12_holds_217 : decode cX12_holds 217 = .ok (.iconst 0, 1) := by decide +kernel
theorem dX12_holds_218 : decode cX12_holds 218 = .ok (.istore 4, 2) := by decide +kernel
theorem dX12_holds_220 : decode cX12_holds 220 = .ok (.iload 4, 2) := by decide +kernel
theorem dX12_holds_222 : decode cX12_holds 222 = .ok (.aload_n 0, 1) := by decide +kernel
theorem dX12_holds_223 : decode cX12_holds 223 = .ok (.aload_n 1, 1) := by decide +kernel
theorem dX12_holds_224 : decode cX12_holds 224 = .ok (.aload_n 0, 1) := by decide +kernel
theorem dX12_holds_225 : decode cX12_holds 225 = .ok (.getfield 16, 3) := by decide +kernel
theorem dX12_holds_228 : decode cX12_holds 228 = .ok (.iload_n 2, 1) := by decide +kernel
theorem dX12_holds_229 : decode cX12_holds 229 = .ok (.iaload, 1) := by decide +kernel
theorem dX12_holds_230 : decode cX12_holds 230 = .ok (.iload_n 3, 1) := by decide +kernel
theorem dX12_holds_231 : decode cX12_holds 231 = .ok (.invokevirtual 53, 3) := by decide +kernel
theorem dX12_holds_234 : decode cX12_holds 234 = .ok (.ifCond .eq 7, 3) := by decide +kernel
theorem dX12_holds_237 : decode cX12_holds 237 = .ok (.iconst 1, 1) := by decide +kernel
theorem dX12_holds_238 : decode cX12_holds 238 = .ok (.goto 4, 3) := by decide +kernel
theorem dX12_holds_241 : decode cX12_holds 241 = .ok (.iconst 0, 1) := by decide +kernel
theorem dX12_holds_242 : decode cX12_holds 242 = .ok (.iadd, 1) := by decide +kernel
theorem dX12_holds_243 : decode cX12_holds 243 = .ok (.istore 4, 2) := by decide +kernel
theorem dX12_holds_245 : decode cX12_holds 245 = .ok (.iload 4, 2) := by decide +kernel
theorem dX12_holds_247 : decode cX12_holds 247 = .ok (.aload_n 0, 1) := by decide +kernel
theorem dX12_holds_248 : decode cX12_holds 248 = .ok (.aload_n 1, 1) := by decide +kernel
theorem dX12_holds_249 : decode cX12_holds 249 = .ok (.aload_n 0, 1) := by decide +kernel
theorem dX12_holds_250 : decode cX12_holds 250 = .ok (.getfield 19, 3) := by decide +kernel
theorem dX12_holds_253 : decode cX12_holds 253 = .ok (.iload_n 2, 1) := by decide +kernel
theorem dX12_holds_254 : decode cX12_holds 254 = .ok (.iaload, 1) := by decide +kernel
theorem dX12_holds_255 : decode cX12_holds 255 = .ok (.iload_n 3, 1) := by decide +kernel
theorem dX12_holds_256 : decode cX12_holds 256 = .ok (.invokevirtual 53, 3) := by decide +kernel
theorem dX12_holds_259 : decode cX12_holds 259 = .ok (.ifCond .eq 7, 3) := by decide +kernel
theorem dX12_holds_262 : decode cX12_holds 262 = .ok (.iconst 1, 1) := by decide +kernel
theorem dX12_holds_263 : decode cX12_holds 263 = .ok (.goto 4, 3) := by decide +kernel
theorem dX12_holds_266 : decode cX12_holds 266 = .ok (.iconst 0, 1) := by decide +kernel
theorem dX12_holds_267 : decode cX12_holds 267 = .ok (.iadd, 1) := by decide +kernel
theorem dX12_holds_268 : decode cX12_holds 268 = .ok (.istore 4, 2) := by decide +kernel
theorem dX12_holds_270 : decode cX12_holds 270 = .ok (.iload 4, 2) := by decide +kernel
theorem dX12_holds_272 : decode cX12_holds 272 = .ok (.iconst 1, 1) := by decide +kernel
theorem dX12_holds_273 : decode cX12_holds 273 = .ok (.if_icmp .le 7, 3) := by decide +kernel
theorem dX12_holds_276 : decode cX12_holds 276 = .ok (.iconst 1, 1) := by decide +kernel
theorem dX12_holds_277 : decode cX12_holds 277 = .ok (.goto 4, 3) := by decide +kernel
theorem dX12_holds_280 : decode cX12_holds 280 = .ok (.iconst 0, 1) := by decide +kernel
theorem dX12_holds_281 : decode cX12_holds 281 = .ok (.ireturn, 1) := by decide +kernel
theorem dX12_holds_282 : decode cX12_holds 282 = .ok (.aload_n 0, 1) := by decide +kernel
theorem dX12_holds_283 : decode cX12_holds 283 = .ok (.aload_n 1, 1) := by decide +kernel
theorem dX12_holds_284 : decode cX12_holds 284 = .ok (.aload_n 0, 1) := by decide +kernel
theorem dX12_holds_285 : decode cX12_holds 285 = .ok (.getfield 13, 3) := by decide +kernel
theorem dX12_holds_288 : decode cX12_holds 288 = .ok (.iload_n 2, 1) := by decide +kernel
theorem dX12_holds_289 : decode cX12_holds 289 = .ok (.iaload, 1) := by decide +kernel
theorem dX12_holds_290 : decode cX12_holds 290 = .ok (.iload_n 3, 1) := by decide +kernel
theorem dX12_holds_291 : decode cX12_holds 291 = .ok (.invokevirtual 53, 3) := by decide +kernel
theorem dX12_holds_294 : decode cX12_holds 294 = .ok (.ifCond .ne 7, 3) := by decide +kernel
theorem dX12_holds_297 : decode cX12_holds 297 = .ok (.iconst 1, 1) := by decide +kernel
theorem dX12_holds_298 : decode cX12_holds 298 = .ok (.goto 4, 3) := by decide +kernel
theorem dX12_holds_301 : decode cX12_holds 301 = .ok (.iconst 0, 1) := by decide +kernel
theorem dX12_holds_302 : decode cX12_holds 302 = .ok (.ireturn, 1) := by decide +kernel
theorem dX12_may_0 : decode cX12_may 0 = .ok (.aload_n 0, 1) := by decide +kernel
theorem dX12_may_1 : decode cX12_may 1 = .ok (.getfield 22, 3) := by decide +kernel
theorem dX12_may_4 : decode cX12_may 4 = .ok (.iload_n 3, 1) := by decide +kernel
theorem dX12_may_5 : decode cX12_may 5 = .ok (.iaload, 1) := by decide +kernel
theorem dX12_may_6 : decode cX12_may 6 = .ok (.ifCond .lt 18, 3) := by decide +kernel
theorem dX12_may_9 : decode cX12_may 9 = .ok (.aload_n 0, 1) := by decide +kernel
theorem dX12_may_10 : decode cX12_may 10 = .ok (.aload_n 1, 1) := by decide +kernel
theorem dX12_may_11 : decode cX12_may 11 = .ok (.aload_n 0, 1) := by decide +kernel
theorem dX12_may_12 : decode cX12_may 12 = .ok (.getfield 22, 3) := by decide +kernel
theorem dX12_may_15 : decode cX12_may 15 = .ok (.iload_n 3, 1) := by decide +kernel
theorem dX12_may_16 : decode cX12_may 16 = .ok (.iaload, 1) := by decide +kernel
theorem dX12_may_17 : decode cX12_may 17 = .ok (.iload_n 2, 1) := by decide +kernel
theorem dX12_may_18 : decode cX12_may 18 = .ok (.invokevirtual 53, 3) := by decide +kernel
theorem dX12_may_21 : decode cX12_may 21 = .ok (.ifCond .eq 7, 3) := by decide +kernel
theorem dX12_may_24 : decode cX12_may 24 = .ok (.iconst 1, 1) := by decide +kernel
theorem dX12_may_25 : decode cX12_may 25 = .ok (.goto 4, 3) := by decide +kernel
theorem dX12_may_28 : decode cX12_may 28 = .ok (.iconst 0, 1) := by decide +kernel
theorem dX12_may_29 : decode cX12_may 29 = .ok (.ireturn, 1) := by decide +kernel
theorem dX12_load_0 : decode cX12_load 0 = .ok (.iconst 0, 1) := by decide +kernel
theorem dX12_load_1 : decode cX12_load 1 = .ok (.istore_n 3, 1) := by decide +kernel
theorem dX12_load_2 : decode cX12_load 2 = .ok (.iconst 0, 1) := by decide +kernel
theorem dX12_load_3 : decode cX12_load 3 = .ok (.istore 4, 2) := by decide +kernel
theorem dX12_load_5 : decode cX12_load 5 = .ok (.iload 4, 2) := by decide +kernel
theorem dX12_load_7 : decode cX12_load 7 = .ok (.iconst 5, 1) := by decide +kernel
theorem dX12_load_8 : decode cX12_load 8 = .ok (.if_icmp .ge 33, 3) := by decide +kernel
theorem dX12_load_11 : decode cX12_load 11 = .ok (.iload_n 3, 1) := by decide +kernel
theorem dX12_load_12 : decode cX12_load 12 = .ok (.aload_n 1, 1) := by decide +kernel
theorem dX12_load_13 : decode cX12_load 13 = .ok (.iload_n 2, 1) := by decide +kernel
theorem dX12_load_14 : decode cX12_load 14 = .ok (.iload 4, 2) := by decide +kernel
theorem dX12_load_16 : decode cX12_load 16 = .ok (.invokevirtual 43, 3) := by decide +kernel
theorem dX12_load_19 : decode cX12_load 19 = .ok (.ifCond .eq 13, 3) := by decide +kernel
theorem dX12_load_22 : decode cX12_load 22 = .ok (.aload_n 0, 1) := by decide +kernel
theorem dX12_load_23 : decode cX12_load 23 = .ok (.getfield 25, 3) := by decide +kernel
theorem dX12_load_26 : decode cX12_load 26 = .ok (.iload 4, 2) := by decide +kernel
theorem dX12_load_28 : decode cX12_load 28 = .ok (.iaload, 1) := by decide +kernel
theorem dX12_load_29 : decode cX12_load 29 = .ok (.goto 4, 3) := by decide +kernel
theorem dX12_load_32 : decode cX12_load 32 = .ok (.iconst 0, 1) := by decide +kernel
theorem dX12_load_33 : decode cX12_load 33 = .ok (.iadd, 1) := by decide +kernel
theorem dX12_load_34 : decode cX12_load 34 = .ok (.istore_n 3, 1) := by decide +kernel
theorem dX12_load_35 : decode cX12_load 35 = .ok (.iinc 4 1, 3) := by decide +kernel
theorem dX12_load_38 : decode cX12_load 38 = .ok (.goto (-33), 3) := by decide +kernel
theorem dX12_load_41 : decode cX12_load 41 = .ok (.iload_n 3, 1) := by decide +kernel
theorem dX12_load_42 : decode cX12_load 42 = .ok (.ireturn, 1) := by decide +kernel
theorem dX12_earned_0 : decode cX12_earned 0 = .ok (.iconst 0, 1) := by decide +kernel
theorem dX12_earned_1 : decode cX12_earned 1 = .ok (.istore_n 3, 1) := by decide +kernel
theorem dX12_earned_2 : decode cX12_earned 2 = .ok (.iconst 0, 1) := by decide +kernel
theorem dX12_earned_3 : decode cX12_earned 3 = .ok (.istore 4, 2) := by decide +kernel
theorem dX12_earned_5 : decode cX12_earned 5 = .ok (.iload 4, 2) := by decide +kernel
theorem dX12_earned_7 : decode cX12_earned 7 = .ok (.iconst 5, 1) := by decide +kernel
theorem dX12_earned_8 : decode cX12_earned 8 = .ok (.if_icmp .ge 35, 3) := by decide +kernel
theorem dX12_earned_11 : decode cX12_earned 11 = .ok (.iload_n 3, 1) := by decide +kernel
theorem dX12_earned_12 : decode cX12_earned 12 = .ok (.aload_n 1, 1) := by decide +kernel
theorem dX12_earned_13 : decode cX12_earned 13 = .ok (.iload_n 2, 1) := by decide +kernel
theorem dX12_earned_14 : decode cX12_earned 14 = .ok (.iload 4, 2) := by decide +kernel
theorem dX12_earned_16 : decode cX12_earned 16 = .ok (.invokestatic 37, 3) := by decide +kernel
theorem dX12_earned_19 : decode cX12_earned 19 = .ok (.bipush 50, 2) := by decide +kernel
theorem dX12_earned_21 : decode cX12_earned 21 = .ok (.if_icmp .lt 13, 3) := by decide +kernel
theorem dX12_earned_24 : decode cX12_earned 24 = .ok (.aload_n 0, 1) := by decide +kernel
theorem dX12_earned_25 : decode cX12_earned 25 = .ok (.getfield 25, 3) := by decide +kernel
theorem dX12_earned_28 : decode cX12_earned 28 = .ok (.iload 4, 2) := by decide +kernel
theorem dX12_earned_30 : decode cX12_earned 30 = .ok (.iaload, 1) := by decide +kernel
theorem dX12_earned_31 : decode cX12_earned 31 = .ok (.goto 4, 3) := by decide +kernel
theorem dX12_earned_34 : decode cX12_earned 34 = .ok (.iconst 0, 1) := by decide +kernel
theorem dX12_earned_35 : decode cX12_earned 35 = .ok (.iadd, 1) := by decide +kernel
theorem dX12_earned_36 : decode cX12_earned 36 = .ok (.istore_n 3, 1) := by decide +kernel
theorem dX12_earned_37 : decode cX12_earned 37 = .ok (.iinc 4 1, 3) := by decide +kernel
theorem dX12_earned_40 : decode cX12_earned 40 = .ok (.goto (-35), 3) := by decide +kernel
theorem dX12_earned_43 : decode cX12_earned 43 = .ok (.iload_n 3, 1) := by decide +kernel
theorem dX12_earned_44 : decode cX12_earned 44 = .ok (.ireturn, 1) := by decide +kernel
theorem dX12_of_0 : decode cX12_of 0 = .ok (.iconst 0, 1) := by decide +kernel
theorem dX12_of_1 : decode cX12_of 1 = .ok (.istore 4, 2) := by decide +kernel
theorem dX12_of_3 : decode cX12_of 3 = .ok (.iconst 0, 1) := by decide +kernel
theorem dX12_of_4 : decode cX12_of 4 = .ok (.istore 5, 2) := by decide +kernel
theorem dX12_of_6 : decode cX12_of 6 = .ok (.iload 5, 2) := by decide +kernel
theorem dX12_of_8 : decode cX12_of 8 = .ok (.iconst 5, 1) := by decide +kernel
theorem dX12_of_9 : decode cX12_of 9 = .ok (.if_icmp .ge 44, 3) := by decide +kernel
theorem dX12_of_12 : decode cX12_of 12 = .ok (.iload 4, 2) := by decide +kernel
theorem dX12_of_14 : decode cX12_of 14 = .ok (.aload_n 1, 1) := by decide +kernel
theorem dX12_of_15 : decode cX12_of 15 = .ok (.iload 5, 2) := by decide +kernel
theorem dX12_of_17 : decode cX12_of 17 = .ok (.iload_n 2, 1) := by decide +kernel
theorem dX12_of_18 : decode cX12_of 18 = .ok (.invokevirtual 43, 3) := by decide +kernel
theorem dX12_of_21 : decode cX12_of 21 = .ok (.ifCond .eq 22, 3) := by decide +kernel
theorem dX12_of_24 : decode cX12_of 24 = .ok (.iload_n 3, 1) := by decide +kernel
theorem dX12_of_25 : decode cX12_of 25 = .ok (.ifCond .lt 14, 3) := by decide +kernel
theorem dX12_of_28 : decode cX12_of 28 = .ok (.aload_n 0, 1) := by decide +kernel
theorem dX12_of_29 : decode cX12_of 29 = .ok (.getfield 34, 3) := by decide +kernel
theorem dX12_of_32 : decode cX12_of 32 = .ok (.iload 5, 2) := by decide +kernel
theorem dX12_of_34 : decode cX12_of 34 = .ok (.iaload, 1) := by decide +kernel
theorem dX12_of_35 : decode cX12_of 35 = .ok (.iload_n 3, 1) := by decide +kernel
theorem dX12_of_36 : decode cX12_of 36 = .ok (.if_icmp .ne 7, 3) := by decide +kernel
theorem dX12_of_39 : decode cX12_of 39 = .ok (.iconst 1, 1) := by decide +kernel
theorem dX12_of_40 : decode cX12_of 40 = .ok (.goto 4, 3) := by decide +kernel
theorem dX12_of_43 : decode cX12_of 43 = .ok (.iconst 0, 1) := by decide +kernel
theorem dX12_of_44 : decode cX12_of 44 = .ok (.iadd, 1) := by decide +kernel
theorem dX12_of_45 : decode cX12_of 45 = .ok (.istore 4, 2) := by decide +kernel
theorem dX12_of_47 : decode cX12_of 47 = .ok (.iinc 5 1, 3) := by decide +kernel
theorem dX12_of_50 : decode cX12_of 50 = .ok (.goto (-44), 3) := by decide +kernel
theorem dX12_of_53 : decode cX12_of 53 = .ok (.iload 4, 2) := by decide +kernel
theorem dX12_of_55 : decode cX12_of 55 = .ok (.ireturn, 1) := by decide +kernel
theorem dX12_free_0 : decode cX12_free 0 = .ok (.aload_n 0, 1) := by decide +kernel
theorem dX12_free_1 : decode cX12_free 1 = .ok (.getfield 28, 3) := by decide +kernel
theorem dX12_free_4 : decode cX12_free 4 = .ok (.iload_n 2, 1) := by decide +kernel
theorem dX12_free_5 : decode cX12_free 5 = .ok (.iaload, 1) := by decide +kernel
theorem dX12_free_6 : decode cX12_free 6 = .ok (.aload_n 0, 1) := by decide +kernel
theorem dX12_free_7 : decode cX12_free 7 = .ok (.aload_n 1, 1) := by decide +kernel
theorem dX12_free_8 : decode cX12_free 8 = .ok (.iload_n 2, 1) := by decide +kernel
theorem dX12_free_9 : decode cX12_free 9 = .ok (.iconst (-1), 1) := by decide +kernel
theorem dX12_free_10 : decode cX12_free 10 = .ok (.invokevirtual 57, 3) := by decide +kernel
theorem dX12_free_13 : decode cX12_free 13 = .ok (.isub, 1) := by decide +kernel
theorem dX12_free_14 : decode cX12_free 14 = .ok (.istore 4, 2) := by decide +kernel
theorem dX12_free_16 : decode cX12_free 16 = .ok (.iconst 0, 1) := by decide +kernel
theorem dX12_free_17 : decode cX12_free 17 = .ok (.istore 5, 2) := by decide +kernel
theorem dX12_free_19 : decode cX12_free 19 = .ok (.iload 5, 2) := by decide +kernel
theorem dX12_free_21 : decode cX12_free 21 = .ok (.iconst 4, 1) := by decide +kernel
theorem dX12_free_22 : decode cX12_free 22 = .ok (.if_icmp .ge 56, 3) := by decide +kernel
theorem dX12_free_25 : decode cX12_free 25 = .ok (.aload_n 1, 1) := by decide +kernel
theorem dX12_free_26 : decode cX12_free 26 = .ok (.invokevirtual 60, 3) := by decide +kernel
theorem dX12_free_29 : decode cX12_free 29 = .ok (.iconst 4, 1) := by decide +kernel
theorem dX12_free_30 : decode cX12_free 30 = .ok (.if_icmp .ge 48, 3) := by decide +kernel
theorem dX12_free_33 : decode cX12_free 33 = .ok (.iload 4, 2) := by decide +kernel
theorem dX12_free_35 : decode cX12_free 35 = .ok (.iload 5, 2) := by decide +kernel
theorem dX12_free_37 : decode cX12_free 37 = .ok (.iload_n 3, 1) := by decide +kernel
theorem dX12_free_38 : decode cX12_free 38 = .ok (.if_icmp .ne 7, 3) := by decide +kernel
theorem dX12_free_41 : decode cX12_free 41 = .ok (.iconst 0, 1) := by decide +kernel
theorem dX12_free_42 : decode cX12_free 42 = .ok (.goto 27, 3) := by decide +kernel
theorem dX12_free_45 : decode cX12_free 45 = .ok (.iconst 0, 1) := by decide +kernel
theorem dX12_free_46 : decode cX12_free 46 = .ok (.aload_n 0, 1) := by decide +kernel
theorem dX12_free_47 : decode cX12_free 47 = .ok (.getfield 31, 3) := by decide +kernel
theorem dX12_free_50 : decode cX12_free 50 = .ok (.iconst 4, 1) := by decide +kernel
theorem dX12_free_51 : decode cX12_free 51 = .ok (.iload_n 2, 1) := by decide +kernel
theorem dX12_free_52 : decode cX12_free 52 = .ok (.imul, 1) := by decide +kernel
theorem dX12_free_53 : decode cX12_free 53 = .ok (.iload 5, 2) := by decide +kernel
theorem dX12_free_55 : decode cX12_free 55 = .ok (.iadd, 1) := by decide +kernel
theorem dX12_free_56 : decode cX12_free 56 = .ok (.iaload, 1) := by decide +kernel
theorem dX12_free_57 : decode cX12_free 57 = .ok (.aload_n 0, 1) := by decide +kernel
theorem dX12_free_58 : decode cX12_free 58 = .ok (.aload_n 1, 1) := by decide +kernel
theorem dX12_free_59 : decode cX12_free 59 = .ok (.iload_n 2, 1) := by decide +kernel
theorem dX12_free_60 : decode cX12_free 60 = .ok (.iload 5, 2) := by decide +kernel
theorem dX12_free_62 : decode cX12_free 62 = .ok (.invokevirtual 57, 3) := by decide +kernel
theorem dX12_free_65 : decode cX12_free 65 = .ok (.isub, 1) := by decide +kernel
theorem dX12_free_66 : decode cX12_free 66 = .ok (.invokestatic 64, 3) := by decide +kernel
theorem dX12_free_69 : decode cX12_free 69 = .ok (.isub, 1) := by decide +kernel
theorem dX12_free_70 : decode cX12_free 70 = .ok (.istore 4, 2) := by decide +kernel
theorem dX12_free_72 : decode cX12_free 72 = .ok (.iinc 5 1, 3) := by decide +kernel
theorem dX12_free_75 : decode cX12_free 75 = .ok (.goto (-56), 3) := by decide +kernel
theorem dX12_free_78 : decode cX12_free 78 = .ok (.iconst 0, 1) := by decide +kernel
theorem dX12_free_79 : decode cX12_free 79 = .ok (.iload 4, 2) := by decide +kernel
theorem dX12_free_81 : decode cX12_free 81 = .ok (.invokestatic 64, 3) := by decide +kernel
theorem dX12_free_84 : decode cX12_free 84 = .ok (.ireturn, 1) := by decide +kernel
theorem dX12_would_0 : decode cX12_would 0 = .ok (.aload_n 1, 1) := by decide +kernel
theorem dX12_would_1 : decode cX12_would 1 = .ok (.invokevirtual 60, 3) := by decide +kernel
theorem dX12_would_4 : decode cX12_would 4 = .ok (.iconst 5, 1) := by decide +kernel
theorem dX12_would_5 : decode cX12_would 5 = .ok (.if_icmp .le 6, 3) := by decide +kernel
theorem dX12_would_8 : decode cX12_would 8 = .ok (.bipush 100, 2) := by decide +kernel
theorem dX12_would_10 : decode cX12_would 10 = .ok (.ireturn, 1) := by decide +kernel
theorem dX12_would_11 : decode cX12_would 11 = .ok (.aload_n 1, 1) := by decide +kernel
theorem dX12_would_12 : decode cX12_would 12 = .ok (.iload_n 2, 1) := by decide +kernel
theorem dX12_would_13 : decode cX12_would 13 = .ok (.iload_n 3, 1) := by decide +kernel
theorem dX12_would_14 : decode cX12_would 14 = .ok (.invokevirtual 43, 3) := by decide +kernel
theorem dX12_would_17 : decode cX12_would 17 = .ok (.ifCond .ne 12, 3) := by decide +kernel
theorem dX12_would_20 : decode cX12_would 20 = .ok (.aload_n 1, 1) := by decide +kernel
theorem dX12_would_21 : decode cX12_would 21 = .ok (.iload_n 2, 1) := by decide +kernel
theorem dX12_would_22 : decode cX12_would 22 = .ok (.iload_n 3, 1) := by decide +kernel
theorem dX12_would_23 : decode cX12_would 23 = .ok (.invokestatic 70, 3) := by decide +kernel
theorem dX12_would_26 : decode cX12_would 26 = .ok (.ifCond .lt 6, 3) := by decide +kernel
theorem dX12_would_29 : decode cX12_would 29 = .ok (.bipush 105, 2) := by decide +kernel
theorem dX12_would_31 : decode cX12_would 31 = .ok (.ireturn, 1) := by decide +kernel
theorem dX12_would_32 : decode cX12_would 32 = .ok (.aload_n 0, 1) := by decide +kernel
theorem dX12_would_33 : decode cX12_would 33 = .ok (.aload_n 1, 1) := by decide +kernel
theorem dX12_would_34 : decode cX12_would 34 = .ok (.iload_n 2, 1) := by decide +kernel
theorem dX12_would_35 : decode cX12_would 35 = .ok (.iload_n 3, 1) := by decide +kernel
theorem dX12_would_36 : decode cX12_would 36 = .ok (.invokevirtual 73, 3) := by decide +kernel
theorem dX12_would_39 : decode cX12_would 39 = .ok (.ifCond .ne 6, 3) := by decide +kernel
theorem dX12_would_42 : decode cX12_would 42 = .ok (.bipush 114, 2) := by decide +kernel
theorem dX12_would_44 : decode cX12_would 44 = .ok (.ireturn, 1) := by decide +kernel
theorem dX12_would_45 : decode cX12_would 45 = .ok (.aload_n 1, 1) := by decide +kernel
theorem dX12_would_46 : decode cX12_would 46 = .ok (.iload_n 2, 1) := by decide +kernel
theorem dX12_would_47 : decode cX12_would 47 = .ok (.iload_n 3, 1) := by decide +kernel
theorem dX12_would_48 : decode cX12_would 48 = .ok (.invokevirtual 76, 3) := by decide +kernel
theorem dX12_would_51 : decode cX12_would 51 = .ok (.iconst 3, 1) := by decide +kernel
theorem dX12_would_52 : decode cX12_would 52 = .ok (.if_icmp .ne 6, 3) := by decide +kernel
theorem dX12_would_55 : decode cX12_would 55 = .ok (.bipush 97, 2) := by decide +kernel
theorem dX12_would_57 : decode cX12_would 57 = .ok (.ireturn, 1) := by decide +kernel
theorem dX12_would_58 : decode cX12_would 58 = .ok (.aload_n 0, 1) := by decide +kernel
theorem dX12_would_59 : decode cX12_would 59 = .ok (.aload_n 1, 1) := by decide +kernel
theorem dX12_would_60 : decode cX12_would 60 = .ok (.iload_n 2, 1) := by decide +kernel
theorem dX12_would_61 : decode cX12_would 61 = .ok (.invokevirtual 79, 3) := by decide +kernel
theorem dX12_would_64 : decode cX12_would 64 = .ok (.aload_n 0, 1) := by decide +kernel
theorem dX12_would_65 : decode cX12_would 65 = .ok (.getfield 25, 3) := by decide +kernel
theorem dX12_would_68 : decode cX12_would 68 = .ok (.iload_n 3, 1) := by decide +kernel
theorem dX12_would_69 : decode cX12_would 69 = .ok (.iaload, 1) := by decide +kernel
theorem dX12_would_70 : decode cX12_would 70 = .ok (.iadd, 1) := by decide +kernel
theorem dX12_would_71 : decode cX12_would 71 = .ok (.bipush 18, 2) := by decide +kernel
theorem dX12_would_73 : decode cX12_would 73 = .ok (.if_icmp .le 6, 3) := by decide +kernel
theorem dX12_would_76 : decode cX12_would 76 = .ok (.bipush 99, 2) := by decide +kernel
theorem dX12_would_78 : decode cX12_would 78 = .ok (.ireturn, 1) := by decide +kernel
theorem dX12_would_79 : decode cX12_would 79 = .ok (.aload_n 0, 1) := by decide +kernel
theorem dX12_would_80 : decode cX12_would 80 = .ok (.aload_n 1, 1) := by decide +kernel
theorem dX12_would_81 : decode cX12_would 81 = .ok (.iload_n 3, 1) := by decide +kernel
theorem dX12_would_82 : decode cX12_would 82 = .ok (.aload_n 0, 1) := by decide +kernel
theorem dX12_would_83 : decode cX12_would 83 = .ok (.getfield 34, 3) := by decide +kernel
theorem dX12_would_86 : decode cX12_would 86 = .ok (.iload_n 2, 1) := by decide +kernel
theorem dX12_would_87 : decode cX12_would 87 = .ok (.iaload, 1) := by decide +kernel
theorem dX12_would_88 : decode cX12_would 88 = .ok (.invokevirtual 83, 3) := by decide +kernel
theorem dX12_would_91 : decode cX12_would 91 = .ok (.ifCond .le 8, 3) := by decide +kernel
theorem dX12_would_94 : decode cX12_would 94 = .ok (.bipush 101, 2) := by decide +kernel
theorem dX12_would_96 : decode cX12_would 96 = .ok (.goto 20, 3) := by decide +kernel
theorem dX12_would_99 : decode cX12_would 99 = .ok (.aload_n 1, 1) := by decide +kernel
theorem dX12_would_100 : decode cX12_would 100 = .ok (.iload_n 3, 1) := by decide +kernel
theorem dX12_would_101 : decode cX12_would 101 = .ok (.invokevirtual 86, 3) := by decide +kernel
theorem dX12_would_104 : decode cX12_would 104 = .ok (.bipush 6, 2) := by decide +kernel
theorem dX12_would_106 : decode cX12_would 106 = .ok (.if_icmp .ne 8, 3) := by decide +kernel
theorem dX12_would_109 : decode cX12_would 109 = .ok (.bipush 102, 2) := by decide +kernel
theorem dX12_would_111 : decode cX12_would 111 = .ok (.goto 5, 3) := by decide +kernel
theorem dX12_would_114 : decode cX12_would 114 = .ok (.bipush 119, 2) := by decide +kernel
theorem dX12_would_116 : decode cX12_would 116 = .ok (.ireturn, 1) := by decide +kernel
theorem dJx00060_init_a7421_0 : decode cJx00060_init_a7421 0 = .ok (.aload_n 0, 1) := by decide +kernel
theorem dJx00060_init_a7421_1 : decode cJx00060_init_a7421 1 = .ok (.aload_n 1, 1) := by decide +kernel
theorem dJx00060_init_a7421_2 : decode cJx00060_init_a7421 2 = .ok (.invokespecial 7, 3) := by decide +kernel
theorem dJx00060_init_a7421_5 : decode cJx00060_init_a7421 5 = .ok (.return_, 1) := by decide +kernel
theorem dJ9_max_7cf53_0 : decode cJ9_max_7cf53 0 = .ok (.iload_n 0, 1) := by decide +kernel
theorem dJ9_max_7cf53_1 : decode cJ9_max_7cf53 1 = .ok (.iload_n 1, 1) := by decide +kernel
theorem dJ9_max_7cf53_2 : decode cJ9_max_7cf53 2 = .ok (.if_icmp .lt 7, 3) := by decide +kernel
theorem dJ9_max_7cf53_5 : decode cJ9_max_7cf53 5 = .ok (.iload_n 0, 1) := by decide +kernel
theorem dJ9_max_7cf53_6 : decode cJ9_max_7cf53 6 = .ok (.goto 4, 3) := by decide +kernel
theorem dJ9_max_7cf53_9 : decode cJ9_max_7cf53 9 = .ok (.iload_n 1, 1) := by decide +kernel
theorem dJ9_max_7cf53_10 : decode cJ9_max_7cf53 10 = .ok (.ireturn, 1) := by decide +kernel
theorem dJ9_min_7cf53_0 : decode cJ9_min_7cf53 0 = .ok (.iload_n 0, 1) := by decide +kernel
theorem dJ9_min_7cf53_1 : decode cJ9_min_7cf53 1 = .ok (.iload_n 1, 1) := by decide +kernel
theorem dJ9_min_7cf53_2 : decode cJ9_min_7cf53 2 = .ok (.if_icmp .gt 7, 3) := by decide +kernel
theorem dJ9_min_7cf53_5 : decode cJ9_min_7cf53 5 = .ok (.iload_n 0, 1) := by decide +kernel
theorem dJ9_min_7cf53_6 : decode cJ9_min_7cf53 6 = .ok (.goto 4, 3) := by decide +kernel
theorem dJ9_min_7cf53_9 : decode cJ9_min_7cf53 9 = .ok (.iload_n 1, 1) := by decide +kernel
theorem dJ9_min_7cf53_10 : decode cJ9_min_7cf53 10 = .ok (.ireturn, 1) := by decide +kernel
theorem dJxa1e45_init_da8c8_0 : decode cJxa1e45_init_da8c8 0 = .ok (.aload_n 0, 1) := by decide +kernel
theorem dJxa1e45_init_da8c8_1 : decode cJxa1e45_init_da8c8 1 = .ok (.invokespecial 1, 3) := by decide +kernel
theorem dJxa1e45_init_da8c8_4 : decode cJxa1e45_init_da8c8 4 = .ok (.return_, 1) := by decide +kernel
theorem dJxc12de_init_da8c8_0 : decode cJxc12de_init_da8c8 0 = .ok (.aload_n 0, 1) := by decide +kernel
theorem dJxc12de_init_da8c8_1 : decode cJxc12de_init_da8c8 1 = .ok (.invokespecial 1, 3) := by decide +kernel
theorem dJxc12de_init_da8c8_4 : decode cJxc12de_init_da8c8 4 = .ok (.aload_n 0, 1) := by decide +kernel
theorem dJxc12de_init_da8c8_5 : decode cJxc12de_init_da8c8 5 = .ok (.iconst 0, 1) := by decide +kernel
theorem dJxc12de_init_da8c8_6 : decode cJxc12de_init_da8c8 6 = .ok (.putfield 7, 3) := by decide +kernel
theorem dJxc12de_init_da8c8_9 : decode cJxc12de_init_da8c8 9 = .ok (.return_, 1) := by decide +kernel
theorem dJx4a65c_init_da8c8_0 : decode cJx4a65c_init_da8c8 0 = .ok (.aload_n 0, 1) := by decide +kernel
theorem dJx4a65c_init_da8c8_1 : decode cJx4a65c_init_da8c8 1 = .ok (.invokespecial 1, 3) := by decide +kernel
theorem dJx4a65c_init_da8c8_4 : decode cJx4a65c_init_da8c8 4 = .ok (.aload_n 0, 1) := by decide +kernel
theorem dJx4a65c_init_da8c8_5 : decode cJx4a65c_init_da8c8 5 = .ok (.getstatic 39, 3) := by decide +kernel
theorem dJx4a65c_init_da8c8_8 : decode cJx4a65c_init_da8c8 8 = .ok (.putfield 9, 3) := by decide +kernel
theorem dJx4a65c_init_da8c8_11 : decode cJx4a65c_init_da8c8 11 = .ok (.return_, 1) := by decide +kernel
theorem dJx4a65c_grow_92f84_0 : decode cJx4a65c_grow_92f84 0 = .ok (.aload_n 0, 1) := by decide +kernel
theorem dJx4a65c_grow_92f84_1 : decode cJx4a65c_grow_92f84 1 = .ok (.getfield 9, 3) := by decide +kernel
theorem dJx4a65c_grow_92f84_4 : decode cJx4a65c_grow_92f84 4 = .ok (.arraylength, 1) := by decide +kernel
theorem dJx4a65c_grow_92f84_5 : decode cJx4a65c_grow_92f84 5 = .ok (.istore_n 2, 1) := by decide +kernel
theorem dJx4a65c_grow_92f84_6 : decode cJx4a65c_grow_92f84 6 = .ok (.iload_n 2, 1) := by decide +kernel
theorem dJx4a65c_grow_92f84_7 : decode cJx4a65c_grow_92f84 7 = .ok (.ifCond .gt 13, 3) := by decide +kernel
theorem dJx4a65c_grow_92f84_10 : decode cJx4a65c_grow_92f84 10 = .ok (.aload_n 0, 1) := by decide +kernel
theorem dJx4a65c_grow_92f84_11 : decode cJx4a65c_grow_92f84 11 = .ok (.getfield 9, 3) := by decide +kernel
theorem dJx4a65c_grow_92f84_14 : decode cJx4a65c_grow_92f84 14 = .ok (.getstatic 39, 3) := by decide +kernel
theorem dJx4a65c_grow_92f84_17 : decode cJx4a65c_grow_92f84 17 = .ok (.if_acmp .eq 28, 3) := by decide +kernel
theorem dJx4a65c_grow_92f84_20 : decode cJx4a65c_grow_92f84 20 = .ok (.iload_n 2, 1) := by decide +kernel
theorem dJx4a65c_grow_92f84_21 : decode cJx4a65c_grow_92f84 21 = .ok (.iload_n 1, 1) := by decide +kernel
theorem dJx4a65c_grow_92f84_22 : decode cJx4a65c_grow_92f84 22 = .ok (.iload_n 2, 1) := by decide +kernel
theorem dJx4a65c_grow_92f84_23 : decode cJx4a65c_grow_92f84 23 = .ok (.isub, 1) := by decide +kernel
theorem dJx4a65c_grow_92f84_24 : decode cJx4a65c_grow_92f84 24 = .ok (.iload_n 2, 1) := by decide +kernel
theorem dJx4a65c_grow_92f84_25 : decode cJx4a65c_grow_92f84 25 = .ok (.iconst 1, 1) := by decide +kernel
theorem dJx4a65c_grow_92f84_26 : decode cJx4a65c_grow_92f84 26 = .ok (.ishr, 1) := by decide +kernel
theorem dJx4a65c_grow_92f84_27 : decode cJx4a65c_grow_92f84 27 = .ok (.invokestatic 73, 3) := by decide +kernel
theorem dJx4a65c_grow_92f84_30 : decode cJx4a65c_grow_92f84 30 = .ok (.istore_n 3, 1) := by decide +kernel
theorem dJx4a65c_grow_92f84_31 : decode cJx4a65c_grow_92f84 31 = .ok (.aload_n 0, 1) := by decide +kernel
theorem dJx4a65c_grow_92f84_32 : decode cJx4a65c_grow_92f84 32 = .ok (.aload_n 0, 1) := by decide +kernel
theorem dJx4a65c_grow_92f84_33 : decode cJx4a65c_grow_92f84 33 = .ok (.getfield 9, 3) := by decide +kernel
theorem dJx4a65c_grow_92f84_36 : decode cJx4a65c_grow_92f84 36 = .ok (.iload_n 3, 1) := by decide +kernel
theorem dJx4a65c_grow_92f84_37 : decode cJx4a65c_grow_92f84 37 = .ok (.invokestatic 66, 3) := by decide +kernel
theorem dJx4a65c_grow_92f84_40 : decode cJx4a65c_grow_92f84 40 = .ok (.dup_x1, 1) := by decide +kernel
theorem dJx4a65c_grow_92f84_41 : decode cJx4a65c_grow_92f84 41 = .ok (.putfield 9, 3) := by decide +kernel
theorem dJx4a65c_grow_92f84_44 : decode cJx4a65c_grow_92f84 44 = .ok (.areturn, 1) := by decide +kernel
theorem dJx4a65c_grow_92f84_45 : decode cJx4a65c_grow_92f84 45 = .ok (.aload_n 0, 1) := by decide +kernel
theorem dJx4a65c_grow_92f84_46 : decode cJx4a65c_grow_92f84 46 = .ok (.bipush 10, 2) := by decide +kernel
theorem dJx4a65c_grow_92f84_48 : decode cJx4a65c_grow_92f84 48 = .ok (.iload_n 1, 1) := by decide +kernel
theorem dJx4a65c_grow_92f84_49 : decode cJx4a65c_grow_92f84 49 = .ok (.invokestatic 79, 3) := by decide +kernel
theorem dJx4a65c_grow_92f84_52 : decode cJx4a65c_grow_92f84 52 = .ok (.anewarray 7, 3) := by decide +kernel
theorem dJx4a65c_grow_92f84_55 : decode cJx4a65c_grow_92f84 55 = .ok (.dup_x1, 1) := by decide +kernel
theorem dJx4a65c_grow_92f84_56 : decode cJx4a65c_grow_92f84 56 = .ok (.putfield 9, 3) := by decide +kernel
theorem dJx4a65c_grow_92f84_59 : decode cJx4a65c_grow_92f84 59 = .ok (.areturn, 1) := by decide +kernel
theorem dJx4a65c_grow_d5877_0 : decode cJx4a65c_grow_d5877 0 = .ok (.aload_n 0, 1) := by decide +kernel
theorem dJx4a65c_grow_d5877_1 : decode cJx4a65c_grow_d5877 1 = .ok (.aload_n 0, 1) := by decide +kernel
theorem dJx4a65c_grow_d5877_2 : decode cJx4a65c_grow_d5877 2 = .ok (.getfield 48, 3) := by decide +kernel
theorem dJx4a65c_grow_d5877_5 : decode cJx4a65c_grow_d5877 5 = .ok (.iconst 1, 1) := by decide +kernel
theorem dJx4a65c_grow_d5877_6 : decode cJx4a65c_grow_d5877 6 = .ok (.iadd, 1) := by decide +kernel
theorem dJx4a65c_grow_d5877_7 : decode cJx4a65c_grow_d5877 7 = .ok (.invokevirtual 69, 3) := by decide +kernel
theorem dJx4a65c_grow_d5877_10 : decode cJx4a65c_grow_d5877 10 = .ok (.areturn, 1) := by decide +kernel
theorem dJx4a65c_size_8abf5_0 : decode cJx4a65c_size_8abf5 0 = .ok (.aload_n 0, 1) := by decide +kernel
theorem dJx4a65c_size_8abf5_1 : decode cJx4a65c_size_8abf5 1 = .ok (.getfield 48, 3) := by decide +kernel
theorem dJx4a65c_size_8abf5_4 : decode cJx4a65c_size_8abf5 4 = .ok (.ireturn, 1) := by decide +kernel
theorem dJx4a65c_elementData_915e3_0 : decode cJx4a65c_elementData_915e3 0 = .ok (.aload_n 0, 1) := by decide +kernel
theorem dJx4a65c_elementData_915e3_1 : decode cJx4a65c_elementData_915e3 1 = .ok (.getfield 9, 3) := by decide +kernel
theorem dJx4a65c_elementData_915e3_4 : decode cJx4a65c_elementData_915e3 4 = .ok (.iload_n 1, 1) := by decide +kernel
theorem dJx4a65c_elementData_915e3_5 : decode cJx4a65c_elementData_915e3 5 = .ok (.aaload, 1) := by decide +kernel
theorem dJx4a65c_elementData_915e3_6 : decode cJx4a65c_elementData_915e3 6 = .ok (.areturn, 1) := by decide +kernel
theorem dJx4a65c_get_915e3_0 : decode cJx4a65c_get_915e3 0 = .ok (.iload_n 1, 1) := by decide +kernel
theorem dJx4a65c_get_915e3_1 : decode cJx4a65c_get_915e3 1 = .ok (.aload_n 0, 1) := by decide +kernel
theorem dJx4a65c_get_915e3_2 : decode cJx4a65c_get_915e3 2 = .ok (.getfield 48, 3) := by decide +kernel
theorem dJx4a65c_get_915e3_5 : decode cJx4a65c_get_915e3 5 = .ok (.invokestatic 118, 3) := by decide +kernel
theorem dJx4a65c_get_915e3_8 : decode cJx4a65c_get_915e3 8 = .ok (.pop, 1) := by decide +kernel
theorem dJx4a65c_get_915e3_9 : decode cJx4a65c_get_915e3 9 = .ok (.aload_n 0, 1) := by decide +kernel
theorem dJx4a65c_get_915e3_10 : decode cJx4a65c_get_915e3 10 = .ok (.iload_n 1, 1) := by decide +kernel
theorem dJx4a65c_get_915e3_11 : decode cJx4a65c_get_915e3 11 = .ok (.invokevirtual 123, 3) := by decide +kernel
theorem dJx4a65c_get_915e3_14 : decode cJx4a65c_get_915e3 14 = .ok (.areturn, 1) := by decide +kernel
theorem dJx4a65c_add_72be8_0 : decode cJx4a65c_add_72be8 0 = .ok (.iload_n 3, 1) := by decide +kernel
theorem dJx4a65c_add_72be8_1 : decode cJx4a65c_add_72be8 1 = .ok (.aload_n 2, 1) := by decide +kernel
theorem dJx4a65c_add_72be8_2 : decode cJx4a65c_add_72be8 2 = .ok (.arraylength, 1) := by decide +kernel
theorem dJx4a65c_add_72be8_3 : decode cJx4a65c_add_72be8 3 = .ok (.if_icmp .ne 8, 3) := by decide +kernel
theorem dJx4a65c_add_72be8_6 : decode cJx4a65c_add_72be8 6 = .ok (.aload_n 0, 1) := by decide +kernel
theorem dJx4a65c_add_72be8_7 : decode cJx4a65c_add_72be8 7 = .ok (.invokevirtual 129, 3) := by decide +kernel
theorem dJx4a65c_add_72be8_10 : decode cJx4a65c_add_72be8 10 = .ok (.astore_n 2, 1) := by decide +kernel
theorem dJx4a65c_add_72be8_11 : decode cJx4a65c_add_72be8 11 = .ok (.aload_n 2, 1) := by decide +kernel
theorem dJx4a65c_add_72be8_12 : decode cJx4a65c_add_72be8 12 = .ok (.iload_n 3, 1) := by decide +kernel
theorem dJx4a65c_add_72be8_13 : decode cJx4a65c_add_72be8 13 = .ok (.aload_n 1, 1) := by decide +kernel
theorem dJx4a65c_add_72be8_14 : decode cJx4a65c_add_72be8 14 = .ok (.aastore, 1) := by decide +kernel
theorem dJx4a65c_add_72be8_15 : decode cJx4a65c_add_72be8 15 = .ok (.aload_n 0, 1) := by decide +kernel
theorem dJx4a65c_add_72be8_16 : decode cJx4a65c_add_72be8 16 = .ok (.iload_n 3, 1) := by decide +kernel
theorem dJx4a65c_add_72be8_17 : decode cJx4a65c_add_72be8 17 = .ok (.iconst 1, 1) := by decide +kernel
theorem dJx4a65c_add_72be8_18 : decode cJx4a65c_add_72be8 18 = .ok (.iadd, 1) := by decide +kernel
theorem dJx4a65c_add_72be8_19 : decode cJx4a65c_add_72be8 19 = .ok (.putfield 48, 3) := by decide +kernel
theorem dJx4a65c_add_72be8_22 : decode cJx4a65c_add_72be8 22 = .ok (.return_, 1) := by decide +kernel
theorem dJx4a65c_add_9ea2d_0 : decode cJx4a65c_add_9ea2d 0 = .ok (.aload_n 0, 1) := by decide +kernel
theorem dJx4a65c_add_9ea2d_1 : decode cJx4a65c_add_9ea2d 1 = .ok (.dup, 1) := by decide +kernel
theorem dJx4a65c_add_9ea2d_2 : decode cJx4a65c_add_9ea2d 2 = .ok (.getfield 63, 3) := by decide +kernel
theorem dJx4a65c_add_9ea2d_5 : decode cJx4a65c_add_9ea2d 5 = .ok (.iconst 1, 1) := by decide +kernel
theorem dJx4a65c_add_9ea2d_6 : decode cJx4a65c_add_9ea2d 6 = .ok (.iadd, 1) := by decide +kernel
theorem dJx4a65c_add_9ea2d_7 : decode cJx4a65c_add_9ea2d 7 = .ok (.putfield 63, 3) := by decide +kernel
theorem dJx4a65c_add_9ea2d_10 : decode cJx4a65c_add_9ea2d 10 = .ok (.aload_n 0, 1) := by decide +kernel
theorem dJx4a65c_add_9ea2d_11 : decode cJx4a65c_add_9ea2d 11 = .ok (.aload_n 1, 1) := by decide +kernel
theorem dJx4a65c_add_9ea2d_12 : decode cJx4a65c_add_9ea2d 12 = .ok (.aload_n 0, 1) := by decide +kernel
theorem dJx4a65c_add_9ea2d_13 : decode cJx4a65c_add_9ea2d 13 = .ok (.getfield 9, 3) := by decide +kernel
theorem dJx4a65c_add_9ea2d_16 : decode cJx4a65c_add_9ea2d 16 = .ok (.aload_n 0, 1) := by decide +kernel
theorem dJx4a65c_add_9ea2d_17 : decode cJx4a65c_add_9ea2d 17 = .ok (.getfield 48, 3) := by decide +kernel
theorem dJx4a65c_add_9ea2d_20 : decode cJx4a65c_add_9ea2d 20 = .ok (.invokevirtual 131, 3) := by decide +kernel
theorem dJx4a65c_add_9ea2d_23 : decode cJx4a65c_add_9ea2d 23 = .ok (.iconst 1, 1) := by decide +kernel
theorem dJx4a65c_add_9ea2d_24 : decode cJx4a65c_add_9ea2d 24 = .ok (.ireturn, 1) := by decide +kernel
theorem dJx4a65c_remove_915e3_0 : decode cJx4a65c_remove_915e3 0 = .ok (.iload_n 1, 1) := by decide +kernel
theorem dJx4a65c_remove_915e3_1 : decode cJx4a65c_remove_915e3 1 = .ok (.aload_n 0, 1) := by decide +kernel
theorem dJx4a65c_remove_915e3_2 : decode cJx4a65c_remove_915e3 2 = .ok (.getfield 48, 3) := by decide +kernel
theorem dJx4a65c_remove_915e3_5 : decode cJx4a65c_remove_915e3 5 = .ok (.invokestatic 118, 3) := by decide +kernel
theorem dJx4a65c_remove_915e3_8 : decode cJx4a65c_remove_915e3 8 = .ok (.pop, 1) := by decide +kernel
theorem dJx4a65c_remove_915e3_9 : decode cJx4a65c_remove_915e3 9 = .ok (.aload_n 0, 1) := by decide +kernel
theorem dJx4a65c_remove_915e3_10 : decode cJx4a65c_remove_915e3 10 = .ok (.getfield 9, 3) := by decide +kernel
theorem dJx4a65c_remove_915e3_13 : decode cJx4a65c_remove_915e3 13 = .ok (.astore_n 2, 1) := by decide +kernel
theorem dJx4a65c_remove_915e3_14 : decode cJx4a65c_remove_915e3 14 = .ok (.aload_n 2, 1) := by decide +kernel
theorem dJx4a65c_remove_915e3_15 : decode cJx4a65c_remove_915e3 15 = .ok (.iload_n 1, 1) := by decide +kernel
theorem dJx4a65c_remove_915e3_16 : decode cJx4a65c_remove_915e3 16 = .ok (.aaload, 1) := by decide +kernel
theorem dJx4a65c_remove_915e3_17 : decode cJx4a65c_remove_915e3 17 = .ok (.astore_n 3, 1) := by decide +kernel
theorem dJx4a65c_remove_915e3_18 : decode cJx4a65c_remove_915e3 18 = .ok (.aload_n 0, 1) := by decide +kernel
theorem dJx4a65c_remove_915e3_19 : decode cJx4a65c_remove_915e3 19 = .ok (.aload_n 2, 1) := by decide +kernel
theorem dJx4a65c_remove_915e3_20 : decode cJx4a65c_remove_915e3 20 = .ok (.iload_n 1, 1) := by decide +kernel
theorem dJx4a65c_remove_915e3_21 : decode cJx4a65c_remove_915e3 21 = .ok (.invokevirtual 144, 3) := by decide +kernel
theorem dJx4a65c_remove_915e3_24 : decode cJx4a65c_remove_915e3 24 = .ok (.aload_n 3, 1) := by decide +kernel
theorem dJx4a65c_remove_915e3_25 : decode cJx4a65c_remove_915e3 25 = .ok (.areturn, 1) := by decide +kernel
theorem dJx4a65c_fastRemove_b59b0_0 : decode cJx4a65c_fastRemove_b59b0 0 = .ok (.aload_n 0, 1) := by decide +kernel
theorem dJx4a65c_fastRemove_b59b0_1 : decode cJx4a65c_fastRemove_b59b0 1 = .ok (.dup, 1) := by decide +kernel
theorem dJx4a65c_fastRemove_b59b0_2 : decode cJx4a65c_fastRemove_b59b0 2 = .ok (.getfield 63, 3) := by decide +kernel
theorem dJx4a65c_fastRemove_b59b0_5 : decode cJx4a65c_fastRemove_b59b0 5 = .ok (.iconst 1, 1) := by decide +kernel
theorem dJx4a65c_fastRemove_b59b0_6 : decode cJx4a65c_fastRemove_b59b0 6 = .ok (.iadd, 1) := by decide +kernel
theorem dJx4a65c_fastRemove_b59b0_7 : decode cJx4a65c_fastRemove_b59b0 7 = .ok (.putfield 63, 3) := by decide +kernel
theorem dJx4a65c_fastRemove_b59b0_10 : decode cJx4a65c_fastRemove_b59b0 10 = .ok (.aload_n 0, 1) := by decide +kernel
theorem dJx4a65c_fastRemove_b59b0_11 : decode cJx4a65c_fastRemove_b59b0 11 = .ok (.getfield 48, 3) := by decide +kernel
theorem dJx4a65c_fastRemove_b59b0_14 : decode cJx4a65c_fastRemove_b59b0 14 = .ok (.iconst 1, 1) := by decide +kernel
theorem dJx4a65c_fastRemove_b59b0_15 : decode cJx4a65c_fastRemove_b59b0 15 = .ok (.isub, 1) := by decide +kernel
theorem dJx4a65c_fastRemove_b59b0_16 : decode cJx4a65c_fastRemove_b59b0 16 = .ok (.dup, 1) := by decide +kernel
theorem dJx4a65c_fastRemove_b59b0_17 : decode cJx4a65c_fastRemove_b59b0 17 = .ok (.istore_n 3, 1) := by decide +kernel
theorem dJx4a65c_fastRemove_b59b0_18 : decode cJx4a65c_fastRemove_b59b0 18 = .ok (.iload_n 2, 1) := by decide +kernel
theorem dJx4a65c_fastRemove_b59b0_19 : decode cJx4a65c_fastRemove_b59b0 19 = .ok (.if_icmp .le 15, 3) := by decide +kernel
theorem dJx4a65c_fastRemove_b59b0_22 : decode cJx4a65c_fastRemove_b59b0 22 = .ok (.aload_n 1, 1) := by decide +kernel
theorem dJx4a65c_fastRemove_b59b0_23 : decode cJx4a65c_fastRemove_b59b0 23 = .ok (.iload_n 2, 1) := by decide +kernel
theorem dJx4a65c_fastRemove_b59b0_24 : decode cJx4a65c_fastRemove_b59b0 24 = .ok (.iconst 1, 1) := by decide +kernel
theorem dJx4a65c_fastRemove_b59b0_25 : decode cJx4a65c_fastRemove_b59b0 25 = .ok (.iadd, 1) := by decide +kernel
theorem dJx4a65c_fastRemove_b59b0_26 : decode cJx4a65c_fastRemove_b59b0 26 = .ok (.aload_n 1, 1) := by decide +kernel
theorem dJx4a65c_fastRemove_b59b0_27 : decode cJx4a65c_fastRemove_b59b0 27 = .ok (.iload_n 2, 1) := by decide +kernel
theorem dJx4a65c_fastRemove_b59b0_28 : decode cJx4a65c_fastRemove_b59b0 28 = .ok (.iload_n 3, 1) := by decide +kernel
theorem dJx4a65c_fastRemove_b59b0_29 : decode cJx4a65c_fastRemove_b59b0 29 = .ok (.iload_n 2, 1) := by decide +kernel
theorem dJx4a65c_fastRemove_b59b0_30 : decode cJx4a65c_fastRemove_b59b0 30 = .ok (.isub, 1) := by decide +kernel
theorem dJx4a65c_fastRemove_b59b0_31 : decode cJx4a65c_fastRemove_b59b0 31 = .ok (.invokestatic 112, 3) := by decide +kernel
theorem dJx4a65c_fastRemove_b59b0_34 : decode cJx4a65c_fastRemove_b59b0 34 = .ok (.aload_n 1, 1) := by decide +kernel
theorem dJx4a65c_fastRemove_b59b0_35 : decode cJx4a65c_fastRemove_b59b0 35 = .ok (.aload_n 0, 1) := by decide +kernel
theorem dJx4a65c_fastRemove_b59b0_36 : decode cJx4a65c_fastRemove_b59b0 36 = .ok (.iload_n 3, 1) := by decide +kernel
theorem dJx4a65c_fastRemove_b59b0_37 : decode cJx4a65c_fastRemove_b59b0 37 = .ok (.dup_x1, 1) := by decide +kernel
theorem dJx4a65c_fastRemove_b59b0_38 : decode cJx4a65c_fastRemove_b59b0 38 = .ok (.putfield 48, 3) := by decide +kernel
theorem dJx4a65c_fastRemove_b59b0_41 : decode cJx4a65c_fastRemove_b59b0 41 = .ok (.aconst_null, 1) := by decide +kernel
theorem dJx4a65c_fastRemove_b59b0_42 : decode cJx4a65c_fastRemove_b59b0 42 = .ok (.aastore, 1) := by decide +kernel
theorem dJx4a65c_fastRemove_b59b0_43 : decode cJx4a65c_fastRemove_b59b0 43 = .ok (.return_, 1) := by decide +kernel
theorem dJx4a65c_clear_da8c8_0 : decode cJx4a65c_clear_da8c8 0 = .ok (.aload_n 0, 1) := by decide +kernel
theorem dJx4a65c_clear_da8c8_1 : decode cJx4a65c_clear_da8c8 1 = .ok (.dup, 1) := by decide +kernel
theorem dJx4a65c_clear_da8c8_2 : decode cJx4a65c_clear_da8c8 2 = .ok (.getfield 63, 3) := by decide +kernel
theorem dJx4a65c_clear_da8c8_5 : decode cJx4a65c_clear_da8c8 5 = .ok (.iconst 1, 1) := by decide +kernel
theorem dJx4a65c_clear_da8c8_6 : decode cJx4a65c_clear_da8c8 6 = .ok (.iadd, 1) := by decide +kernel
theorem dJx4a65c_clear_da8c8_7 : decode cJx4a65c_clear_da8c8 7 = .ok (.putfield 63, 3) := by decide +kernel
theorem dJx4a65c_clear_da8c8_10 : decode cJx4a65c_clear_da8c8 10 = .ok (.aload_n 0, 1) := by decide +kernel
theorem dJx4a65c_clear_da8c8_11 : decode cJx4a65c_clear_da8c8 11 = .ok (.getfield 9, 3) := by decide +kernel
theorem dJx4a65c_clear_da8c8_14 : decode cJx4a65c_clear_da8c8 14 = .ok (.astore_n 1, 1) := by decide +kernel
theorem dJx4a65c_clear_da8c8_15 : decode cJx4a65c_clear_da8c8 15 = .ok (.aload_n 0, 1) := by decide +kernel
theorem dJx4a65c_clear_da8c8_16 : decode cJx4a65c_clear_da8c8 16 = .ok (.getfield 48, 3) := by decide +kernel
theorem dJx4a65c_clear_da8c8_19 : decode cJx4a65c_clear_da8c8 19 = .ok (.istore_n 2, 1) := by decide +kernel
theorem dJx4a65c_clear_da8c8_20 : decode cJx4a65c_clear_da8c8 20 = .ok (.aload_n 0, 1) := by decide +kernel
theorem dJx4a65c_clear_da8c8_21 : decode cJx4a65c_clear_da8c8 21 = .ok (.iconst 0, 1) := by decide +kernel
theorem dJx4a65c_clear_da8c8_22 : decode cJx4a65c_clear_da8c8 22 = .ok (.dup_x1, 1) := by decide +kernel
theorem dJx4a65c_clear_da8c8_23 : decode cJx4a65c_clear_da8c8 23 = .ok (.putfield 48, 3) := by decide +kernel
theorem dJx4a65c_clear_da8c8_26 : decode cJx4a65c_clear_da8c8 26 = .ok (.istore_n 3, 1) := by decide +kernel
theorem dJx4a65c_clear_da8c8_27 : decode cJx4a65c_clear_da8c8 27 = .ok (.iload_n 3, 1) := by decide +kernel
theorem dJx4a65c_clear_da8c8_28 : decode cJx4a65c_clear_da8c8 28 = .ok (.iload_n 2, 1) := by decide +kernel
theorem dJx4a65c_clear_da8c8_29 : decode cJx4a65c_clear_da8c8 29 = .ok (.if_icmp .ge 13, 3) := by decide +kernel
theorem dJx4a65c_clear_da8c8_32 : decode cJx4a65c_clear_da8c8 32 = .ok (.aload_n 1, 1) := by decide +kernel
theorem dJx4a65c_clear_da8c8_33 : decode cJx4a65c_clear_da8c8 33 = .ok (.iload_n 3, 1) := by decide +kernel
theorem dJx4a65c_clear_da8c8_34 : decode cJx4a65c_clear_da8c8 34 = .ok (.aconst_null, 1) := by decide +kernel
theorem dJx4a65c_clear_da8c8_35 : decode cJx4a65c_clear_da8c8 35 = .ok (.aastore, 1) := by decide +kernel
theorem dJx4a65c_clear_da8c8_36 : decode cJx4a65c_clear_da8c8 36 = .ok (.iinc 3 1, 3) := by decide +kernel
theorem dJx4a65c_clear_da8c8_39 : decode cJx4a65c_clear_da8c8 39 = .ok (.goto (-12), 3) := by decide +kernel
theorem dJx4a65c_clear_da8c8_42 : decode cJx4a65c_clear_da8c8 42 = .ok (.return_, 1) := by decide +kernel
theorem dJ7_fill_53178_0 : decode cJ7_fill_53178 0 = .ok (.iconst 0, 1) := by decide +kernel
theorem dJ7_fill_53178_1 : decode cJ7_fill_53178 1 = .ok (.istore_n 2, 1) := by decide +kernel
theorem dJ7_fill_53178_2 : decode cJ7_fill_53178 2 = .ok (.aload_n 0, 1) := by decide +kernel
theorem dJ7_fill_53178_3 : decode cJ7_fill_53178 3 = .ok (.arraylength, 1) := by decide +kernel
theorem dJ7_fill_53178_4 : decode cJ7_fill_53178 4 = .ok (.istore_n 3, 1) := by decide +kernel
theorem dJ7_fill_53178_5 : decode cJ7_fill_53178 5 = .ok (.iload_n 2, 1) := by decide +kernel
theorem dJ7_fill_53178_6 : decode cJ7_fill_53178 6 = .ok (.iload_n 3, 1) := by decide +kernel
theorem dJ7_fill_53178_7 : decode cJ7_fill_53178 7 = .ok (.if_icmp .ge 13, 3) := by decide +kernel
theorem dJ7_fill_53178_10 : decode cJ7_fill_53178 10 = .ok (.aload_n 0, 1) := by decide +kernel
theorem dJ7_fill_53178_11 : decode cJ7_fill_53178 11 = .ok (.iload_n 2, 1) := by decide +kernel
theorem dJ7_fill_53178_12 : decode cJ7_fill_53178 12 = .ok (.iload_n 1, 1) := by decide +kernel
theorem dJ7_fill_53178_13 : decode cJ7_fill_53178 13 = .ok (.iastore, 1) := by decide +kernel
theorem dJ7_fill_53178_14 : decode cJ7_fill_53178 14 = .ok (.iinc 2 1, 3) := by decide +kernel
theorem dJ7_fill_53178_17 : decode cJ7_fill_53178 17 = .ok (.goto (-12), 3) := by decide +kernel
theorem dJ7_fill_53178_20 : decode cJ7_fill_53178 20 = .ok (.return_, 1) := by decide +kernel
theorem dJ7_copyOf_1904c_0 : decode cJ7_copyOf_1904c 0 = .ok (.aload_n 0, 1) := by decide +kernel
theorem dJ7_copyOf_1904c_1 : decode cJ7_copyOf_1904c 1 = .ok (.iload_n 1, 1) := by decide +kernel
theorem dJ7_copyOf_1904c_2 : decode cJ7_copyOf_1904c 2 = .ok (.aload_n 0, 1) := by decide +kernel
theorem dJ7_copyOf_1904c_3 : decode cJ7_copyOf_1904c 3 = .ok (.invokevirtual 86, 3) := by decide +kernel
theorem dJ7_copyOf_1904c_6 : decode cJ7_copyOf_1904c 6 = .ok (.invokestatic 300, 3) := by decide +kernel
theorem dJ7_copyOf_1904c_9 : decode cJ7_copyOf_1904c 9 = .ok (.areturn, 1) := by decide +kernel
theorem dJ7_copyOf_6403c_0 : decode cJ7_copyOf_6403c 0 = .ok (.aload_n 2, 1) := by decide +kernel
theorem dJ7_copyOf_6403c_1 : decode cJ7_copyOf_6403c 1 = .ok (.ldc 110, 2) := by decide +kernel
theorem dJ7_copyOf_6403c_3 : decode cJ7_copyOf_6403c 3 = .ok (.if_acmp .ne 10, 3) := by decide +kernel
theorem dJ7_copyOf_6403c_6 : decode cJ7_copyOf_6403c 6 = .ok (.iload_n 1, 1) := by decide +kernel
theorem dJ7_copyOf_6403c_7 : decode cJ7_copyOf_6403c 7 = .ok (.anewarray 2, 3) := by decide +kernel
theorem dJ7_copyOf_6403c_10 : decode cJ7_copyOf_6403c 10 = .ok (.goto 14, 3) := by decide +kernel
theorem dJ7_copyOf_6403c_13 : decode cJ7_copyOf_6403c 13 = .ok (.aload_n 2, 1) := by decide +kernel
theorem dJ7_copyOf_6403c_14 : decode cJ7_copyOf_6403c 14 = .ok (.invokevirtual 90, 3) := by decide +kernel
theorem dJ7_copyOf_6403c_17 : decode cJ7_copyOf_6403c 17 = .ok (.iload_n 1, 1) := by decide +kernel
theorem dJ7_copyOf_6403c_18 : decode cJ7_copyOf_6403c 18 = .ok (.invokestatic 95, 3) := by decide +kernel
theorem dJ7_copyOf_6403c_21 : decode cJ7_copyOf_6403c 21 = .ok (.checkcast 110, 3) := by decide +kernel
theorem dJ7_copyOf_6403c_24 : decode cJ7_copyOf_6403c 24 = .ok (.astore_n 3, 1) := by decide +kernel
theorem dJ7_copyOf_6403c_25 : decode cJ7_copyOf_6403c 25 = .ok (.aload_n 0, 1) := by decide +kernel
theorem dJ7_copyOf_6403c_26 : decode cJ7_copyOf_6403c 26 = .ok (.iconst 0, 1) := by decide +kernel
theorem dJ7_copyOf_6403c_27 : decode cJ7_copyOf_6403c 27 = .ok (.aload_n 3, 1) := by decide +kernel
theorem dJ7_copyOf_6403c_28 : decode cJ7_copyOf_6403c 28 = .ok (.iconst 0, 1) := by decide +kernel
theorem dJ7_copyOf_6403c_29 : decode cJ7_copyOf_6403c 29 = .ok (.aload_n 0, 1) := by decide +kernel
theorem dJ7_copyOf_6403c_30 : decode cJ7_copyOf_6403c 30 = .ok (.arraylength, 1) := by decide +kernel
theorem dJ7_copyOf_6403c_31 : decode cJ7_copyOf_6403c 31 = .ok (.iload_n 1, 1) := by decide +kernel
theorem dJ7_copyOf_6403c_32 : decode cJ7_copyOf_6403c 32 = .ok (.invokestatic 304, 3) := by decide +kernel
theorem dJ7_copyOf_6403c_35 : decode cJ7_copyOf_6403c 35 = .ok (.invokestatic 150, 3) := by decide +kernel
theorem dJ7_copyOf_6403c_38 : decode cJ7_copyOf_6403c 38 = .ok (.aload_n 3, 1) := by decide +kernel
theorem dJ7_copyOf_6403c_39 : decode cJ7_copyOf_6403c 39 = .ok (.areturn, 1) := by decide +kernel
theorem dJ15_checkIndex_7cf53_0 : decode cJ15_checkIndex_7cf53 0 = .ok (.iload_n 0, 1) := by decide +kernel
theorem dJ15_checkIndex_7cf53_1 : decode cJ15_checkIndex_7cf53 1 = .ok (.iload_n 1, 1) := by decide +kernel
theorem dJ15_checkIndex_7cf53_2 : decode cJ15_checkIndex_7cf53 2 = .ok (.aconst_null, 1) := by decide +kernel
theorem dJ15_checkIndex_7cf53_3 : decode cJ15_checkIndex_7cf53 3 = .ok (.invokestatic 105, 3) := by decide +kernel
theorem dJ15_checkIndex_7cf53_6 : decode cJ15_checkIndex_7cf53 6 = .ok (.ireturn, 1) := by decide +kernel
theorem dJ8_newLength_cabcc_0 : decode cJ8_newLength_cabcc 0 = .ok (.iload_n 0, 1) := by decide +kernel
theorem dJ8_newLength_cabcc_1 : decode cJ8_newLength_cabcc 1 = .ok (.iload_n 1, 1) := by decide +kernel
theorem dJ8_newLength_cabcc_2 : decode cJ8_newLength_cabcc 2 = .ok (.iload_n 2, 1) := by decide +kernel
theorem dJ8_newLength_cabcc_3 : decode cJ8_newLength_cabcc 3 = .ok (.invokestatic 194, 3) := by decide +kernel
theorem dJ8_newLength_cabcc_6 : decode cJ8_newLength_cabcc 6 = .ok (.iadd, 1) := by decide +kernel
theorem dJ8_newLength_cabcc_7 : decode cJ8_newLength_cabcc 7 = .ok (.istore_n 3, 1) := by decide +kernel
theorem dJ8_newLength_cabcc_8 : decode cJ8_newLength_cabcc 8 = .ok (.iconst 0, 1) := by decide +kernel
theorem dJ8_newLength_cabcc_9 : decode cJ8_newLength_cabcc 9 = .ok (.iload_n 3, 1) := by decide +kernel
theorem dJ8_newLength_cabcc_10 : decode cJ8_newLength_cabcc 10 = .ok (.if_icmp .ge 11, 3) := by decide +kernel
theorem dJ8_newLength_cabcc_13 : decode cJ8_newLength_cabcc 13 = .ok (.iload_n 3, 1) := by decide +kernel
theorem dJ8_newLength_cabcc_14 : decode cJ8_newLength_cabcc 14 = .ok (.ldc 200, 2) := by decide +kernel
theorem dJ8_newLength_cabcc_16 : decode cJ8_newLength_cabcc 16 = .ok (.if_icmp .gt 5, 3) := by decide +kernel
theorem dJ8_newLength_cabcc_19 : decode cJ8_newLength_cabcc 19 = .ok (.iload_n 3, 1) := by decide +kernel
theorem dJ8_newLength_cabcc_20 : decode cJ8_newLength_cabcc 20 = .ok (.ireturn, 1) := by decide +kernel
theorem dJ8_newLength_cabcc_21 : decode cJ8_newLength_cabcc 21 = .ok (.iload_n 0, 1) := by decide +kernel
theorem dJ8_newLength_cabcc_22 : decode cJ8_newLength_cabcc 22 = .ok (.iload_n 1, 1) := by decide +kernel
theorem dJ8_newLength_cabcc_23 : decode cJ8_newLength_cabcc 23 = .ok (.invokestatic 201, 3) := by decide +kernel
theorem dJ8_newLength_cabcc_26 : decode cJ8_newLength_cabcc 26 = .ok (.ireturn, 1) := by decide +kernel
theorem dJ8_hugeLength_7cf53_0 : decode cJ8_hugeLength_7cf53 0 = .ok (.iload_n 0, 1) := by decide +kernel
theorem dJ8_hugeLength_7cf53_1 : decode cJ8_hugeLength_7cf53 1 = .ok (.iload_n 1, 1) := by decide +kernel
theorem dJ8_hugeLength_7cf53_2 : decode cJ8_hugeLength_7cf53 2 = .ok (.iadd, 1) := by decide +kernel
theorem dJ8_hugeLength_7cf53_3 : decode cJ8_hugeLength_7cf53 3 = .ok (.istore_n 2, 1) := by decide +kernel
theorem dJ8_hugeLength_7cf53_4 : decode cJ8_hugeLength_7cf53 4 = .ok (.iload_n 2, 1) := by decide +kernel
theorem dJ8_hugeLength_7cf53_5 : decode cJ8_hugeLength_7cf53 5 = .ok (.ifCond .ge 44, 3) := by decide +kernel
theorem dJ8_hugeLength_7cf53_8 : decode cJ8_hugeLength_7cf53 8 = .ok (.new 204, 3) := by decide +kernel
theorem dJ8_hugeLength_7cf53_11 : decode cJ8_hugeLength_7cf53 11 = .ok (.dup, 1) := by decide +kernel
theorem dJ8_hugeLength_7cf53_12 : decode cJ8_hugeLength_7cf53 12 = .ok (.new 89, 3) := by decide +kernel
theorem dJ8_hugeLength_7cf53_15 : decode cJ8_hugeLength_7cf53 15 = .ok (.dup, 1) := by decide +kernel
theorem dJ8_hugeLength_7cf53_16 : decode cJ8_hugeLength_7cf53 16 = .ok (.invokespecial 91, 3) := by decide +kernel
theorem dJ8_hugeLength_7cf53_19 : decode cJ8_hugeLength_7cf53 19 = .ok (.ldc 206, 2) := by decide +kernel
theorem dJ8_hugeLength_7cf53_21 : decode cJ8_hugeLength_7cf53 21 = .ok (.invokevirtual 94, 3) := by decide +kernel
theorem dJ8_hugeLength_7cf53_24 : decode cJ8_hugeLength_7cf53 24 = .ok (.iload_n 0, 1) := by decide +kernel
theorem dJ8_hugeLength_7cf53_25 : decode cJ8_hugeLength_7cf53 25 = .ok (.invokevirtual 98, 3) := by decide +kernel
theorem dJ8_hugeLength_7cf53_28 : decode cJ8_hugeLength_7cf53 28 = .ok (.ldc 208, 2) := by decide +kernel
theorem dJ8_hugeLength_7cf53_30 : decode cJ8_hugeLength_7cf53 30 = .ok (.invokevirtual 94, 3) := by decide +kernel
theorem dJ8_hugeLength_7cf53_33 : decode cJ8_hugeLength_7cf53 33 = .ok (.iload_n 1, 1) := by decide +kernel
theorem dJ8_hugeLength_7cf53_34 : decode cJ8_hugeLength_7cf53 34 = .ok (.invokevirtual 98, 3) := by decide +kernel
theorem dJ8_hugeLength_7cf53_37 : decode cJ8_hugeLength_7cf53 37 = .ok (.ldc 210, 2) := by decide +kernel
theorem dJ8_hugeLength_7cf53_39 : decode cJ8_hugeLength_7cf53 39 = .ok (.invokevirtual 94, 3) := by decide +kernel
theorem dJ8_hugeLength_7cf53_42 : decode cJ8_hugeLength_7cf53 42 = .ok (.invokevirtual 101, 3) := by decide +kernel
theorem dJ8_hugeLength_7cf53_45 : decode cJ8_hugeLength_7cf53 45 = .ok (.invokespecial 212, 3) := by decide +kernel
theorem dJ8_hugeLength_7cf53_48 : decode cJ8_hugeLength_7cf53 48 = .ok (.athrow, 1) := by decide +kernel
theorem dJ8_hugeLength_7cf53_49 : decode cJ8_hugeLength_7cf53 49 = .ok (.iload_n 2, 1) := by decide +kernel
theorem dJ8_hugeLength_7cf53_50 : decode cJ8_hugeLength_7cf53 50 = .ok (.ldc 200, 2) := by decide +kernel
theorem dJ8_hugeLength_7cf53_52 : decode cJ8_hugeLength_7cf53 52 = .ok (.if_icmp .gt 6, 3) := by decide +kernel
theorem dJ8_hugeLength_7cf53_55 : decode cJ8_hugeLength_7cf53 55 = .ok (.ldc 200, 2) := by decide +kernel
theorem dJ8_hugeLength_7cf53_57 : decode cJ8_hugeLength_7cf53 57 = .ok (.ireturn, 1) := by decide +kernel
theorem dJ8_hugeLength_7cf53_58 : decode cJ8_hugeLength_7cf53 58 = .ok (.iload_n 2, 1) := by decide +kernel
theorem dJ8_hugeLength_7cf53_59 : decode cJ8_hugeLength_7cf53 59 = .ok (.ireturn, 1) := by decide +kernel
theorem dJ3_checkIndex_8e157_0 : decode cJ3_checkIndex_8e157 0 = .ok (.iload_n 0, 1) := by decide +kernel
theorem dJ3_checkIndex_8e157_1 : decode cJ3_checkIndex_8e157 1 = .ok (.ifCond .lt 8, 3) := by decide +kernel
theorem dJ3_checkIndex_8e157_4 : decode cJ3_checkIndex_8e157 4 = .ok (.iload_n 0, 1) := by decide +kernel
theorem dJ3_checkIndex_8e157_5 : decode cJ3_checkIndex_8e157 5 = .ok (.iload_n 1, 1) := by decide +kernel
theorem dJ3_checkIndex_8e157_6 : decode cJ3_checkIndex_8e157 6 = .ok (.if_icmp .lt 10, 3) := by decide +kernel
theorem dJ3_checkIndex_8e157_9 : decode cJ3_checkIndex_8e157 9 = .ok (.aload_n 2, 1) := by decide +kernel
theorem dJ3_checkIndex_8e157_10 : decode cJ3_checkIndex_8e157 10 = .ok (.iload_n 0, 1) := by decide +kernel
theorem dJ3_checkIndex_8e157_11 : decode cJ3_checkIndex_8e157 11 = .ok (.iload_n 1, 1) := by decide +kernel
theorem dJ3_checkIndex_8e157_12 : decode cJ3_checkIndex_8e157 12 = .ok (.invokestatic 95, 3) := by decide +kernel
theorem dJ3_checkIndex_8e157_15 : decode cJ3_checkIndex_8e157 15 = .ok (.athrow, 1) := by decide +kernel
theorem dJ3_checkIndex_8e157_16 : decode cJ3_checkIndex_8e157 16 = .ok (.iload_n 0, 1) := by decide +kernel
theorem dJ3_checkIndex_8e157_17 : decode cJ3_checkIndex_8e157 17 = .ok (.ireturn, 1) := by decide +kernel
theorem dL_cell_0 : decode cL_cell 0 = .ok (.iload_n 1, 1) := by decide +kernel
theorem dL_cell_1 : decode cL_cell 1 = .ok (.aload_n 0, 1) := by decide +kernel
theorem dL_cell_2 : decode cL_cell 2 = .ok (.arraylength, 1) := by decide +kernel
theorem dL_cell_3 : decode cL_cell 3 = .ok (.if_icmp .ge 9, 3) := by decide +kernel
theorem dL_cell_6 : decode cL_cell 6 = .ok (.aload_n 0, 1) := by decide +kernel
theorem dL_cell_7 : decode cL_cell 7 = .ok (.iload_n 1, 1) := by decide +kernel
theorem dL_cell_8 : decode cL_cell 8 = .ok (.iaload, 1) := by decide +kernel
theorem dL_cell_9 : decode cL_cell 9 = .ok (.goto 10, 3) := by decide +kernel
theorem dL_cell_12 : decode cL_cell 12 = .ok (.ldc 7, 2) := by decide +kernel
theorem dL_cell_14 : decode cL_cell 14 = .ok (.iload_n 1, 1) := by decide +kernel
theorem dL_cell_15 : decode cL_cell 15 = .ok (.imul, 1) := by decide +kernel
theorem dL_cell_16 : decode cL_cell 16 = .ok (.bipush 77, 2) := by decide +kernel
theorem dL_cell_18 : decode cL_cell 18 = .ok (.iadd, 1) := by decide +kernel
theorem dL_cell_19 : decode cL_cell 19 = .ok (.ireturn, 1) := by decide +kernel
theorem dL_low_0 : decode cL_low 0 = .ok (.iload_n 0, 1) := by decide +kernel
theorem dL_low_1 : decode cL_low 1 = .ok (.ldc 8, 2) := by decide +kernel
theorem dL_low_3 : decode cL_low 3 = .ok (.iand, 1) := by decide +kernel
theorem dL_low_4 : decode cL_low 4 = .ok (.iload_n 1, 1) := by decide +kernel
theorem dL_low_5 : decode cL_low 5 = .ok (.irem, 1) := by decide +kernel
theorem dL_low_6 : decode cL_low 6 = .ok (.ireturn, 1) := by decide +kernel
theorem dL_best_0 : decode cL_best 0 = .ok (.aload_n 0, 1) := by decide +kernel
theorem dL_best_1 : decode cL_best 1 = .ok (.iload_n 1, 1) := by decide +kernel
theorem dL_best_2 : decode cL_best 2 = .ok (.iload_n 2, 1) := by decide +kernel
theorem dL_best_3 : decode cL_best 3 = .ok (.invokevirtual 9, 3) := by decide +kernel
theorem dL_best_6 : decode cL_best 6 = .ok (.ireturn, 1) := by decide +kernel
theorem dL_best_7 : decode cL_best 7 = .ok (.astore_n 3, 1) := by decide +kernel
theorem dL_best_8 : decode cL_best 8 = .ok (.iconst (-1), 1) := by decide +kernel
theorem dL_best_9 : decode cL_best 9 = .ok (.ireturn, 1) := by decide +kernel
theorem dL_enroll_0 : decode cL_enroll 0 = .ok (.aload_n 0, 1) := by decide +kernel
theorem dL_enroll_1 : decode cL_enroll 1 = .ok (.iload_n 1, 1) := by decide +kernel
theorem dL_enroll_2 : decode cL_enroll 2 = .ok (.iload_n 2, 1) := by decide +kernel
theorem dL_enroll_3 : decode cL_enroll 3 = .ok (.invokevirtual 17, 3) := by decide +kernel
theorem dL_enroll_6 : decode cL_enroll 6 = .ok (.ireturn, 1) := by decide +kernel
theorem dL_enroll_7 : decode cL_enroll 7 = .ok (.astore_n 3, 1) := by decide +kernel
theorem dL_enroll_8 : decode cL_enroll 8 = .ok (.bipush 63, 2) := by decide +kernel
theorem dL_enroll_10 : decode cL_enroll 10 = .ok (.ireturn, 1) := by decide +kernel
theorem dL_enroll_11 : decode cL_enroll 11 = .ok (.astore_n 3, 1) := by decide +kernel
theorem dL_enroll_12 : decode cL_enroll 12 = .ok (.bipush 100, 2) := by decide +kernel
theorem dL_enroll_14 : decode cL_enroll 14 = .ok (.ireturn, 1) := by decide +kernel
theorem dL_enroll_15 : decode cL_enroll 15 = .ok (.astore_n 3, 1) := by decide +kernel
theorem dL_enroll_16 : decode cL_enroll 16 = .ok (.bipush 105, 2) := by decide +kernel
theorem dL_enroll_18 : decode cL_enroll 18 = .ok (.ireturn, 1) := by decide +kernel
theorem dL_enroll_19 : decode cL_enroll 19 = .ok (.astore_n 3, 1) := by decide +kernel
theorem dL_enroll_20 : decode cL_enroll 20 = .ok (.bipush 114, 2) := by decide +kernel
theorem dL_enroll_22 : decode cL_enroll 22 = .ok (.ireturn, 1) := by decide +kernel
theorem dL_enroll_23 : decode cL_enroll 23 = .ok (.astore_n 3, 1) := by decide +kernel
theorem dL_enroll_24 : decode cL_enroll 24 = .ok (.bipush 99, 2) := by decide +kernel
theorem dL_enroll_26 : decode cL_enroll 26 = .ok (.ireturn, 1) := by decide +kernel
theorem dL_enroll_27 : decode cL_enroll 27 = .ok (.astore_n 3, 1) := by decide +kernel
theorem dL_enroll_28 : decode cL_enroll 28 = .ok (.bipush 102, 2) := by decide +kernel
theorem dL_enroll_30 : decode cL_enroll 30 = .ok (.ireturn, 1) := by decide +kernel
theorem dL_moveIn_0 : decode cL_moveIn 0 = .ok (.aload_n 0, 1) := by decide +kernel
theorem dL_moveIn_1 : decode cL_moveIn 1 = .ok (.iload_n 1, 1) := by decide +kernel
theorem dL_moveIn_2 : decode cL_moveIn 2 = .ok (.iload_n 2, 1) := by decide +kernel
theorem dL_moveIn_3 : decode cL_moveIn 3 = .ok (.invokevirtual 31, 3) := by decide +kernel
theorem dL_moveIn_6 : decode cL_moveIn 6 = .ok (.ireturn, 1) := by decide +kernel
theorem dL_moveIn_7 : decode cL_moveIn 7 = .ok (.astore_n 3, 1) := by decide +kernel
theorem dL_moveIn_8 : decode cL_moveIn 8 = .ok (.iconst (-1), 1) := by decide +kernel
theorem dL_moveIn_9 : decode cL_moveIn 9 = .ok (.ireturn, 1) := by decide +kernel
theorem dL_moveIn_10 : decode cL_moveIn 10 = .ok (.astore_n 3, 1) := by decide +kernel
theorem dL_moveIn_11 : decode cL_moveIn 11 = .ok (.bipush (-2), 2) := by decide +kernel
theorem dL_moveIn_13 : decode cL_moveIn 13 = .ok (.ireturn, 1) := by decide +kernel
theorem dL_moveIn_14 : decode cL_moveIn 14 = .ok (.astore_n 3, 1) := by decide +kernel
theorem dL_moveIn_15 : decode cL_moveIn 15 = .ok (.bipush (-3), 2) := by decide +kernel
theorem dL_moveIn_17 : decode cL_moveIn 17 = .ok (.ireturn, 1) := by decide +kernel
theorem dL_place_0 : decode cL_place 0 = .ok (.aload_n 0, 1) := by decide +kernel
theorem dL_place_1 : decode cL_place 1 = .ok (.iload_n 1, 1) := by decide +kernel
theorem dL_place_2 : decode cL_place 2 = .ok (.iload_n 2, 1) := by decide +kernel
theorem dL_place_3 : decode cL_place 3 = .ok (.invokevirtual 34, 3) := by decide +kernel
theorem dL_place_6 : decode cL_place 6 = .ok (.ireturn, 1) := by decide +kernel
theorem dL_place_7 : decode cL_place 7 = .ok (.astore_n 3, 1) := by decide +kernel
theorem dL_place_8 : decode cL_place 8 = .ok (.iconst (-1), 1) := by decide +kernel
theorem dL_place_9 : decode cL_place 9 = .ok (.ireturn, 1) := by decide +kernel
theorem dL_office_0 : decode cL_office 0 = .ok (.new 37, 3) := by decide +kernel
theorem dL_office_3 : decode cL_office 3 = .ok (.dup, 1) := by decide +kernel
theorem dL_office_4 : decode cL_office 4 = .ok (.invokespecial 39, 3) := by decide +kernel
theorem dL_office_7 : decode cL_office 7 = .ok (.astore_n 2, 1) := by decide +kernel
theorem dL_office_8 : decode cL_office 8 = .ok (.iconst 1, 1) := by decide +kernel
theorem dL_office_9 : decode cL_office 9 = .ok (.istore_n 3, 1) := by decide +kernel
theorem dL_office_10 : decode cL_office 10 = .ok (.iconst 0, 1) := by decide +kernel
theorem dL_office_11 : decode cL_office 11 = .ok (.istore 4, 2) := by decide +kernel
theorem dL_office_13 : decode cL_office 13 = .ok (.iload 4, 2) := by decide +kernel
theorem dL_office_15 : decode cL_office 15 = .ok (.iconst 5, 1) := by decide +kernel
theorem dL_office_16 : decode cL_office 16 = .ok (.if_icmp .ge 89, 3) := by decide +kernel
theorem dL_office_19 : decode cL_office 19 = .ok (.aload_n 2, 1) := by decide +kernel
theorem dL_office_20 : decode cL_office 20 = .ok (.getfield 40, 3) := by decide +kernel
theorem dL_office_23 : decode cL_office 23 = .ok (.iload 4, 2) := by decide +kernel
theorem dL_office_25 : decode cL_office 25 = .ok (.iconst 1, 1) := by decide +kernel
theorem dL_office_26 : decode cL_office 26 = .ok (.aload_n 1, 1) := by decide +kernel
theorem dL_office_27 : decode cL_office 27 = .ok (.iconst 0, 1) := by decide +kernel
theorem dL_office_28 : decode cL_office 28 = .ok (.invokestatic 44, 3) := by decide +kernel
theorem dL_office_31 : decode cL_office 31 = .ok (.iconst 3, 1) := by decide +kernel
theorem dL_office_32 : decode cL_office 32 = .ok (.iload 4, 2) := by decide +kernel
theorem dL_office_34 : decode cL_office 34 = .ok (.imul, 1) := by decide +kernel
theorem dL_office_35 : decode cL_office 35 = .ok (.ishr, 1) := by decide +kernel
theorem dL_office_36 : decode cL_office 36 = .ok (.bipush 6, 2) := by decide +kernel
theorem dL_office_38 : decode cL_office 38 = .ok (.invokestatic 50, 3) := by decide +kernel
theorem dL_office_41 : decode cL_office 41 = .ok (.iadd, 1) := by decide +kernel
theorem dL_office_42 : decode cL_office 42 = .ok (.iastore, 1) := by decide +kernel
theorem dL_office_43 : decode cL_office 43 = .ok (.aload_n 2, 1) := by decide +kernel
theorem dL_office_44 : decode cL_office 44 = .ok (.getfield 53, 3) := by decide +kernel
theorem dL_office_47 : decode cL_office 47 = .ok (.iload 4, 2) := by decide +kernel
theorem dL_office_49 : decode cL_office 49 = .ok (.iconst 1, 1) := by decide +kernel
theorem dL_office_50 : decode cL_office 50 = .ok (.aload_n 1, 1) := by decide +kernel
theorem dL_office_51 : decode cL_office 51 = .ok (.iconst 1, 1) := by decide +kernel
theorem dL_office_52 : decode cL_office 52 = .ok (.invokestatic 44, 3) := by decide +kernel
theorem dL_office_55 : decode cL_office 55 = .ok (.iconst 2, 1) := by decide +kernel
theorem dL_office_56 : decode cL_office 56 = .ok (.iload 4, 2) := by decide +kernel
theorem dL_office_58 : decode cL_office 58 = .ok (.imul, 1) := by decide +kernel
theorem dL_office_59 : decode cL_office 59 = .ok (.ishr, 1) := by decide +kernel
theorem dL_office_60 : decode cL_office 60 = .ok (.iconst 3, 1) := by decide +kernel
theorem dL_office_61 : decode cL_office 61 = .ok (.invokestatic 50, 3) := by decide +kernel
theorem dL_office_64 : decode cL_office 64 = .ok (.iadd, 1) := by decide +kernel
theorem dL_office_65 : decode cL_office 65 = .ok (.iastore, 1) := by decide +kernel
theorem dL_office_66 : decode cL_office 66 = .ok (.iload_n 3, 1) := by decide +kernel
theorem dL_office_67 : decode cL_office 67 = .ok (.ifCond .eq 30, 3) := by decide +kernel
theorem dL_office_70 : decode cL_office 70 = .ok (.aload_n 0, 1) := by decide +kernel
theorem dL_office_71 : decode cL_office 71 = .ok (.aload_n 2, 1) := by decide +kernel
theorem dL_office_72 : decode cL_office 72 = .ok (.getfield 40, 3) := by decide +kernel
theorem dL_office_75 : decode cL_office 75 = .ok (.iload 4, 2) := by decide +kernel
theorem dL_office_77 : decode cL_office 77 = .ok (.iaload, 1) := by decide +kernel
theorem dL_office_78 : decode cL_office 78 = .ok (.aload_n 2, 1) := by decide +kernel
theorem dL_office_79 : decode cL_office 79 = .ok (.getfield 53, 3) := by decide +kernel
theorem dL_office_82 : decode cL_office 82 = .ok (.iload 4, 2) := by decide +kernel
theorem dL_office_84 : decode cL_office 84 = .ok (.iaload, 1) := by decide +kernel
theorem dL_office_85 : decode cL_office 85 = .ok (.invokevirtual 56, 3) := by decide +kernel
theorem dL_office_88 : decode cL_office 88 = .ok (.iload 4, 2) := by decide +kernel
theorem dL_office_90 : decode cL_office 90 = .ok (.if_icmp .ne 7, 3) := by decide +kernel
theorem dL_office_93 : decode cL_office 93 = .ok (.iconst 1, 1) := by decide +kernel
theorem dL_office_94 : decode cL_office 94 = .ok (.goto 4, 3) := by decide +kernel
theorem dL_office_97 : decode cL_office 97 = .ok (.iconst 0, 1) := by decide +kernel
theorem dL_office_98 : decode cL_office 98 = .ok (.istore_n 3, 1) := by decide +kernel
theorem dL_office_99 : decode cL_office 99 = .ok (.iinc 4 1, 3) := by decide +kernel
theorem dL_office_102 : decode cL_office 102 = .ok (.goto (-89), 3) := by decide +kernel
theorem dL_office_105 : decode cL_office 105 = .ok (.iconst 0, 1) := by decide +kernel
theorem dL_office_106 : decode cL_office 106 = .ok (.istore 4, 2) := by decide +kernel
theorem dL_office_108 : decode cL_office 108 = .ok (.iload 4, 2) := by decide +kernel
theorem dL_office_110 : decode cL_office 110 = .ok (.iconst 5, 1) := by decide +kernel
theorem dL_office_111 : decode cL_office 111 = .ok (.if_icmp .ge 56, 3) := by decide +kernel
theorem dL_office_114 : decode cL_office 114 = .ok (.aload_n 2, 1) := by decide +kernel
theorem dL_office_115 : decode cL_office 115 = .ok (.getfield 59, 3) := by decide +kernel
theorem dL_office_118 : decode cL_office 118 = .ok (.iload 4, 2) := by decide +kernel
theorem dL_office_120 : decode cL_office 120 = .ok (.aload_n 1, 1) := by decide +kernel
theorem dL_office_121 : decode cL_office 121 = .ok (.iconst 2, 1) := by decide +kernel
theorem dL_office_122 : decode cL_office 122 = .ok (.invokestatic 44, 3) := by decide +kernel
theorem dL_office_125 : decode cL_office 125 = .ok (.iconst 2, 1) := by decide +kernel
theorem dL_office_126 : decode cL_office 126 = .ok (.iload 4, 2) := by decide +kernel
theorem dL_office_128 : decode cL_office 128 = .ok (.imul, 1) := by decide +kernel
theorem dL_office_129 : decode cL_office 129 = .ok (.ishr, 1) := by decide +kernel
theorem dL_office_130 : decode cL_office 130 = .ok (.iconst 4, 1) := by decide +kernel
theorem dL_office_131 : decode cL_office 131 = .ok (.invokestatic 50, 3) := by decide +kernel
theorem dL_office_134 : decode cL_office 134 = .ok (.iastore, 1) := by decide +kernel
theorem dL_office_135 : decode cL_office 135 = .ok (.iload_n 3, 1) := by decide +kernel
theorem dL_office_136 : decode cL_office 136 = .ok (.ifCond .eq 23, 3) := by decide +kernel
theorem dL_office_139 : decode cL_office 139 = .ok (.aload_n 0, 1) := by decide +kernel
theorem dL_office_140 : decode cL_office 140 = .ok (.aload_n 2, 1) := by decide +kernel
theorem dL_office_141 : decode cL_office 141 = .ok (.getfield 59, 3) := by decide +kernel
theorem dL_office_144 : decode cL_office 144 = .ok (.iload 4, 2) := by decide +kernel
theorem dL_office_146 : decode cL_office 146 = .ok (.iaload, 1) := by decide +kernel
theorem dL_office_147 : decode cL_office 147 = .ok (.invokevirtual 62, 3) := by decide +kernel
theorem dL_office_150 : decode cL_office 150 = .ok (.iload 4, 2) := by decide +kernel
theorem dL_office_152 : decode cL_office 152 = .ok (.if_icmp .ne 7, 3) := by decide +kernel
theorem dL_office_155 : decode cL_office 155 = .ok (.iconst 1, 1) := by decide +kernel
theorem dL_office_156 : decode cL_office 156 = .ok (.goto 4, 3) := by decide +kernel
theorem dL_office_159 : decode cL_office 159 = .ok (.iconst 0, 1) := by decide +kernel
theorem dL_office_160 : decode cL_office 160 = .ok (.istore_n 3, 1) := by decide +kernel
theorem dL_office_161 : decode cL_office 161 = .ok (.iinc 4 1, 3) := by decide +kernel
theorem dL_office_164 : decode cL_office 164 = .ok (.goto (-56), 3) := by decide +kernel
theorem dL_office_167 : decode cL_office 167 = .ok (.iconst 0, 1) := by decide +kernel
theorem dL_office_168 : decode cL_office 168 = .ok (.istore 4, 2) := by decide +kernel
theorem dL_office_170 : decode cL_office 170 = .ok (.iload 4, 2) := by decide +kernel
theorem dL_office_172 : decode cL_office 172 = .ok (.bipush 12, 2) := by decide +kernel
theorem dL_office_174 : decode cL_office 174 = .ok (.if_icmp .ge 233, 3) := by decide +kernel
theorem dL_office_177 : decode cL_office 177 = .ok (.iload_n 3, 1) := by decide +kernel
theorem dL_office_178 : decode cL_office 178 = .ok (.ifCond .eq 229, 3) := by decide +kernel
theorem dL_office_181 : decode cL_office 181 = .ok (.aload_n 1, 1) := by decide +kernel
theorem dL_office_182 : decode cL_office 182 = .ok (.iconst 3, 1) := by decide +kernel
theorem dL_office_183 : decode cL_office 183 = .ok (.iload 4, 2) := by decide +kernel
theorem dL_office_185 : decode cL_office 185 = .ok (.iadd, 1) := by decide +kernel
theorem dL_office_186 : decode cL_office 186 = .ok (.invokestatic 44, 3) := by decide +kernel
theorem dL_office_189 : decode cL_office 189 = .ok (.istore 5, 2) := by decide +kernel
theorem dL_office_191 : decode cL_office 191 = .ok (.aload_n 2, 1) := by decide +kernel
theorem dL_office_192 : decode cL_office 192 = .ok (.getfield 66, 3) := by decide +kernel
theorem dL_office_195 : decode cL_office 195 = .ok (.iload 4, 2) := by decide +kernel
theorem dL_office_197 : decode cL_office 197 = .ok (.iload 4, 2) := by decide +kernel
theorem dL_office_199 : decode cL_office 199 = .ok (.iconst 4, 1) := by decide +kernel
theorem dL_office_200 : decode cL_office 200 = .ok (.if_icmp .ge 12, 3) := by decide +kernel
theorem dL_office_203 : decode cL_office 203 = .ok (.iload 5, 2) := by decide +kernel
theorem dL_office_205 : decode cL_office 205 = .ok (.iconst 3, 1) := by decide +kernel
theorem dL_office_206 : decode cL_office 206 = .ok (.invokestatic 50, 3) := by decide +kernel
theorem dL_office_209 : decode cL_office 209 = .ok (.goto 10, 3) := by decide +kernel
theorem dL_office_212 : decode cL_office 212 = .ok (.iload 5, 2) := by decide +kernel
theorem dL_office_214 : decode cL_office 214 = .ok (.bipush 7, 2) := by decide +kernel
theorem dL_office_216 : decode cL_office 216 = .ok (.invokestatic 50, 3) := by decide +kernel
theorem dL_office_219 : decode cL_office 219 = .ok (.iastore, 1) := by decide +kernel
theorem dL_office_220 : decode cL_office 220 = .ok (.aload_n 2, 1) := by decide +kernel
theorem dL_office_221 : decode cL_office 221 = .ok (.getfield 69, 3) := by decide +kernel
theorem dL_office_224 : decode cL_office 224 = .ok (.iload 4, 2) := by decide +kernel
theorem dL_office_226 : decode cL_office 226 = .ok (.aload_n 2, 1) := by decide +kernel
theorem dL_office_227 : decode cL_office 227 = .ok (.getfield 66, 3) := by decide +kernel
theorem dL_office_230 : decode cL_office 230 = .ok (.iload 4, 2) := by decide +kernel
theorem dL_office_232 : decode cL_office 232 = .ok (.iaload, 1) := by decide +kernel
theorem dL_office_233 : decode cL_office 233 = .ok (.iconst 2, 1) := by decide +kernel
theorem dL_office_234 : decode cL_office 234 = .ok (.if_icmp .ne 15, 3) := by decide +kernel
theorem dL_office_237 : decode cL_office 237 = .ok (.iload 5, 2) := by decide +kernel
theorem dL_office_239 : decode cL_office 239 = .ok (.iconst 3, 1) := by decide +kernel
theorem dL_office_240 : decode cL_office 240 = .ok (.ishr, 1) := by decide +kernel
theorem dL_office_241 : decode cL_office 241 = .ok (.bipush 9, 2) := by decide +kernel
theorem dL_office_243 : decode cL_office 243 = .ok (.invokestatic 50, 3) := by decide +kernel
theorem dL_office_246 : decode cL_office 246 = .ok (.goto 39, 3) := by decide +kernel
theorem dL_office_249 : decode cL_office 249 = .ok (.aload_n 2, 1) := by decide +kernel
theorem dL_office_250 : decode cL_office 250 = .ok (.getfield 66, 3) := by decide +kernel
theorem dL_office_253 : decode cL_office 253 = .ok (.iload 4, 2) := by decide +kernel
theorem dL_office_255 : decode cL_office 255 = .ok (.iaload, 1) := by decide +kernel
theorem dL_office_256 : decode cL_office 256 = .ok (.iconst 3, 1) := by decide +kernel
theorem dL_office_257 : decode cL_office 257 = .ok (.if_icmp .ge 14, 3) := by decide +kernel
theorem dL_office_260 : decode cL_office 260 = .ok (.iload 5, 2) := by decide +kernel
theorem dL_office_262 : decode cL_office 262 = .ok (.iconst 3, 1) := by decide +kernel
theorem dL_office_263 : decode cL_office 263 = .ok (.ishr, 1) := by decide +kernel
theorem dL_office_264 : decode cL_office 264 = .ok (.iconst 5, 1) := by decide +kernel
theorem dL_office_265 : decode cL_office 265 = .ok (.invokestatic 50, 3) := by decide +kernel
theorem dL_office_268 : decode cL_office 268 = .ok (.goto 17, 3) := by decide +kernel
theorem dL_office_271 : decode cL_office 271 = .ok (.iload 5, 2) := by decide +kernel
theorem dL_office_273 : decode cL_office 273 = .ok (.iconst 3, 1) := by decide +kernel
theorem dL_office_274 : decode cL_office 274 = .ok (.ishr, 1) := by decide +kernel
theorem dL_office_275 : decode cL_office 275 = .ok (.iload 4, 2) := by decide +kernel
theorem dL_office_277 : decode cL_office 277 = .ok (.bipush 6, 2) := by decide +kernel
theorem dL_office_279 : decode cL_office 279 = .ok (.invokestatic 72, 3) := by decide +kernel
theorem dL_office_282 : decode cL_office 282 = .ok (.invokestatic 50, 3) := by decide +kernel
theorem dL_office_285 : decode cL_office 285 = .ok (.iastore, 1) := by decide +kernel
theorem dL_office_286 : decode cL_office 286 = .ok (.aload_n 2, 1) := by decide +kernel
theorem dL_office_287 : decode cL_office 287 = .ok (.getfield 77, 3) := by decide +kernel
theorem dL_office_290 : decode cL_office 290 = .ok (.iload 4, 2) := by decide +kernel
theorem dL_office_292 : decode cL_office 292 = .ok (.aload_n 2, 1) := by decide +kernel
theorem dL_office_293 : decode cL_office 293 = .ok (.getfield 66, 3) := by decide +kernel
theorem dL_office_296 : decode cL_office 296 = .ok (.iload 4, 2) := by decide +kernel
theorem dL_office_298 : decode cL_office 298 = .ok (.iaload, 1) := by decide +kernel
theorem dL_office_299 : decode cL_office 299 = .ok (.ifCond .ne 16, 3) := by decide +kernel
theorem dL_office_302 : decode cL_office 302 = .ok (.iload 5, 2) := by decide +kernel
theorem dL_office_304 : decode cL_office 304 = .ok (.bipush 6, 2) := by decide +kernel
theorem dL_office_306 : decode cL_office 306 = .ok (.ishr, 1) := by decide +kernel
theorem dL_office_307 : decode cL_office 307 = .ok (.bipush 101, 2) := by decide +kernel
theorem dL_office_309 : decode cL_office 309 = .ok (.invokestatic 50, 3) := by decide +kernel
theorem dL_office_312 : decode cL_office 312 = .ok (.goto 33, 3) := by decide +kernel
theorem dL_office_315 : decode cL_office 315 = .ok (.aload_n 2, 1) := by decide +kernel
theorem dL_office_316 : decode cL_office 316 = .ok (.getfield 66, 3) := by decide +kernel
theorem dL_office_319 : decode cL_office 319 = .ok (.iload 4, 2) := by decide +kernel
theorem dL_office_321 : decode cL_office 321 = .ok (.iaload, 1) := by decide +kernel
theorem dL_office_322 : decode cL_office 322 = .ok (.iconst 3, 1) := by decide +kernel
theorem dL_office_323 : decode cL_office 323 = .ok (.if_icmp .ge 7, 3) := by decide +kernel
theorem dL_office_326 : decode cL_office 326 = .ok (.iconst 0, 1) := by decide +kernel
theorem dL_office_327 : decode cL_office 327 = .ok (.goto 18, 3) := by decide +kernel
theorem dL_office_330 : decode cL_office 330 = .ok (.iload 5, 2) := by decide +kernel
theorem dL_office_332 : decode cL_office 332 = .ok (.bipush 6, 2) := by decide +kernel
theorem dL_office_334 : decode cL_office 334 = .ok (.ishr, 1) := by decide +kernel
theorem dL_office_335 : decode cL_office 335 = .ok (.iload 4, 2) := by decide +kernel
theorem dL_office_337 : decode cL_office 337 = .ok (.bipush 6, 2) := by decide +kernel
theorem dL_office_339 : decode cL_office 339 = .ok (.invokestatic 72, 3) := by decide +kernel
theorem dL_office_342 : decode cL_office 342 = .ok (.invokestatic 50, 3) := by decide +kernel
theorem dL_office_345 : decode cL_office 345 = .ok (.iastore, 1) := by decide +kernel
theorem dL_office_346 : decode cL_office 346 = .ok (.aload_n 2, 1) := by decide +kernel
theorem dL_office_347 : decode cL_office 347 = .ok (.getfield 80, 3) := by decide +kernel
theorem dL_office_350 : decode cL_office 350 = .ok (.iload 4, 2) := by decide +kernel
theorem dL_office_352 : decode cL_office 352 = .ok (.aload_n 2, 1) := by decide +kernel
theorem dL_office_353 : decode cL_office 353 = .ok (.getfield 66, 3) := by decide +kernel
theorem dL_office_356 : decode cL_office 356 = .ok (.iload 4, 2) := by decide +kernel
theorem dL_office_358 : decode cL_office 358 = .ok (.iaload, 1) := by decide +kernel
theorem dL_office_359 : decode cL_office 359 = .ok (.iconst 3, 1) := by decide +kernel
theorem dL_office_360 : decode cL_office 360 = .ok (.if_icmp .ge 7, 3) := by decide +kernel
theorem dL_office_363 : decode cL_office 363 = .ok (.iconst 0, 1) := by decide +kernel
theorem dL_office_364 : decode cL_office 364 = .ok (.goto 18, 3) := by decide +kernel
theorem dL_office_367 : decode cL_office 367 = .ok (.iload 5, 2) := by decide +kernel
theorem dL_office_369 : decode cL_office 369 = .ok (.bipush 13, 2) := by decide +kernel
theorem dL_office_371 : decode cL_office 371 = .ok (.ishr, 1) := by decide +kernel
theorem dL_office_372 : decode cL_office 372 = .ok (.iload 4, 2) := by decide +kernel
theorem dL_office_374 : decode cL_office 374 = .ok (.bipush 6, 2) := by decide +kernel
theorem dL_office_376 : decode cL_office 376 = .ok (.invokestatic 72, 3) := by decide +kernel
theorem dL_office_379 : decode cL_office 379 = .ok (.invokestatic 50, 3) := by decide +kernel
theorem dL_office_382 : decode cL_office 382 = .ok (.iastore, 1) := by decide +kernel
theorem dL_office_383 : decode cL_office 383 = .ok (.aload_n 0, 1) := by decide +kernel
theorem dL_office_384 : decode cL_office 384 = .ok (.aload_n 2, 1) := by decide +kernel
theorem dL_office_385 : decode cL_office 385 = .ok (.iload 4, 2) := by decide +kernel
theorem dL_office_387 : decode cL_office 387 = .ok (.invokestatic 83, 3) := by decide +kernel
theorem dL_office_390 : decode cL_office 390 = .ok (.iload 4, 2) := by decide +kernel
theorem dL_office_392 : decode cL_office 392 = .ok (.if_icmp .ne 7, 3) := by decide +kernel
theorem dL_office_395 : decode cL_office 395 = .ok (.iconst 1, 1) := by decide +kernel
theorem dL_office_396 : decode cL_office 396 = .ok (.goto 4, 3) := by decide +kernel
theorem dL_office_399 : decode cL_office 399 = .ok (.iconst 0, 1) := by decide +kernel
theorem dL_office_400 : decode cL_office 400 = .ok (.istore_n 3, 1) := by decide +kernel
theorem dL_office_401 : decode cL_office 401 = .ok (.iinc 4 1, 3) := by decide +kernel
theorem dL_office_404 : decode cL_office 404 = .ok (.goto (-234), 3) := by decide +kernel
theorem dL_office_407 : decode cL_office 407 = .ok (.iload_n 3, 1) := by decide +kernel
theorem dL_office_408 : decode cL_office 408 = .ok (.ifCond .eq 7, 3) := by decide +kernel
theorem dL_office_411 : decode cL_office 411 = .ok (.aload_n 2, 1) := by decide +kernel
theorem dL_office_412 : decode cL_office 412 = .ok (.goto 4, 3) := by decide +kernel
theorem dL_office_415 : decode cL_office 415 = .ok (.aconst_null, 1) := by decide +kernel
theorem dL_office_416 : decode cL_office 416 = .ok (.areturn, 1) := by decide +kernel
theorem dL_adds_0 : decode cL_adds 0 = .ok (.aload_n 1, 1) := by decide +kernel
theorem dL_adds_1 : decode cL_adds 1 = .ok (.getfield 66, 3) := by decide +kernel
theorem dL_adds_4 : decode cL_adds 4 = .ok (.iload_n 2, 1) := by decide +kernel
theorem dL_adds_5 : decode cL_adds 5 = .ok (.iaload, 1) := by decide +kernel
theorem dL_adds_6 : decode cL_adds 6 = .ok (.tableswitch 134 0 5 #[38, 55, 66, 77, 94, 111], 38) := by decide +kernel
theorem dL_adds_44 : decode cL_adds 44 = .ok (.aload_n 0, 1) := by decide +kernel
theorem dL_adds_45 : decode cL_adds 45 = .ok (.aload_n 1, 1) := by decide +kernel
theorem dL_adds_46 : decode cL_adds 46 = .ok (.getfield 69, 3) := by decide +kernel
theorem dL_adds_49 : decode cL_adds 49 = .ok (.iload_n 2, 1) := by decide +kernel
theorem dL_adds_50 : decode cL_adds 50 = .ok (.iaload, 1) := by decide +kernel
theorem dL_adds_51 : decode cL_adds 51 = .ok (.aload_n 1, 1) := by decide +kernel
theorem dL_adds_52 : decode cL_adds 52 = .ok (.getfield 77, 3) := by decide +kernel
theorem dL_adds_55 : decode cL_adds 55 = .ok (.iload_n 2, 1) := by decide +kernel
theorem dL_adds_56 : decode cL_adds 56 = .ok (.iaload, 1) := by decide +kernel
theorem dL_adds_57 : decode cL_adds 57 = .ok (.invokevirtual 87, 3) := by decide +kernel
theorem dL_adds_60 : decode cL_adds 60 = .ok (.ireturn, 1) := by decide +kernel
theorem dL_adds_61 : decode cL_adds 61 = .ok (.aload_n 0, 1) := by decide +kernel
theorem dL_adds_62 : decode cL_adds 62 = .ok (.aload_n 1, 1) := by decide +kernel
theorem dL_adds_63 : decode cL_adds 63 = .ok (.getfield 69, 3) := by decide +kernel
theorem dL_adds_66 : decode cL_adds 66 = .ok (.iload_n 2, 1) := by decide +kernel
theorem dL_adds_67 : decode cL_adds 67 = .ok (.iaload, 1) := by decide +kernel
theorem dL_adds_68 : decode cL_adds 68 = .ok (.invokevirtual 90, 3) := by decide +kernel
theorem dL_adds_71 : decode cL_adds 71 = .ok (.ireturn, 1) := by decide +kernel
theorem dL_adds_72 : decode cL_adds 72 = .ok (.aload_n 0, 1) := by decide +kernel
theorem dL_adds_73 : decode cL_adds 73 = .ok (.aload_n 1, 1) := by decide +kernel
theorem dL_adds_74 : decode cL_adds 74 = .ok (.getfield 69, 3) := by decide +kernel
theorem dL_adds_77 : decode cL_adds 77 = .ok (.iload_n 2, 1) := by decide +kernel
theorem dL_adds_78 : decode cL_adds 78 = .ok (.iaload, 1) := by decide +kernel
theorem dL_adds_79 : decode cL_adds 79 = .ok (.invokevirtual 93, 3) := by decide +kernel
theorem dL_adds_82 : decode cL_adds 82 = .ok (.ireturn, 1) := by decide +kernel
theorem dL_adds_83 : decode cL_adds 83 = .ok (.aload_n 0, 1) := by decide +kernel
theorem dL_adds_84 : decode cL_adds 84 = .ok (.aload_n 1, 1) := by decide +kernel
theorem dL_adds_85 : decode cL_adds 85 = .ok (.getfield 69, 3) := by decide +kernel
theorem dL_adds_88 : decode cL_adds 88 = .ok (.iload_n 2, 1) := by decide +kernel
theorem dL_adds_89 : decode cL_adds 89 = .ok (.iaload, 1) := by decide +kernel
theorem dL_adds_90 : decode cL_adds 90 = .ok (.aload_n 1, 1) := by decide +kernel
theorem dL_adds_91 : decode cL_adds 91 = .ok (.getfield 77, 3) := by decide +kernel
theorem dL_adds_94 : decode cL_adds 94 = .ok (.iload_n 2, 1) := by decide +kernel
theorem dL_adds_95 : decode cL_adds 95 = .ok (.iaload, 1) := by decide +kernel
theorem dL_adds_96 : decode cL_adds 96 = .ok (.invokevirtual 96, 3) := by decide +kernel
theorem dL_adds_99 : decode cL_adds 99 = .ok (.ireturn, 1) := by decide +kernel
theorem dL_adds_100 : decode cL_adds 100 = .ok (.aload_n 0, 1) := by decide +kernel
theorem dL_adds_101 : decode cL_adds 101 = .ok (.aload_n 1, 1) := by decide +kernel
theorem dL_adds_102 : decode cL_adds 102 = .ok (.getfield 69, 3) := by decide +kernel
theorem dL_adds_105 : decode cL_adds 105 = .ok (.iload_n 2, 1) := by decide +kernel
theorem dL_adds_106 : decode cL_adds 106 = .ok (.iaload, 1) := by decide +kernel
theorem dL_adds_107 : decode cL_adds 107 = .ok (.aload_n 1, 1) := by decide +kernel
theorem dL_adds_108 : decode cL_adds 108 = .ok (.getfield 77, 3) := by decide +kernel
theorem dL_adds_111 : decode cL_adds 111 = .ok (.iload_n 2, 1) := by decide +kernel
theorem dL_adds_112 : decode cL_adds 112 = .ok (.iaload, 1) := by decide +kernel
theorem dL_adds_113 : decode cL_adds 113 = .ok (.invokevirtual 99, 3) := by decide +kernel
theorem dL_adds_116 : decode cL_adds 116 = .ok (.ireturn, 1) := by decide +kernel
theorem dL_adds_117 : decode cL_adds 117 = .ok (.aload_n 0, 1) := by decide +kernel
theorem dL_adds_118 : decode cL_adds 118 = .ok (.aload_n 1, 1) := by decide +kernel
theorem dL_adds_119 : decode cL_adds 119 = .ok (.getfield 69, 3) := by decide +kernel
theorem dL_adds_122 : decode cL_adds 122 = .ok (.iload_n 2, 1) := by decide +kernel
theorem dL_adds_123 : decode cL_adds 123 = .ok (.iaload, 1) := by decide +kernel
theorem dL_adds_124 : decode cL_adds 124 = .ok (.aload_n 1, 1) := by decide +kernel
theorem dL_adds_125 : decode cL_adds 125 = .ok (.getfield 77, 3) := by decide +kernel
theorem dL_adds_128 : decode cL_adds 128 = .ok (.iload_n 2, 1) := by decide +kernel
theorem dL_adds_129 : decode cL_adds 129 = .ok (.iaload, 1) := by decide +kernel
theorem dL_adds_130 : decode cL_adds 130 = .ok (.aload_n 1, 1) := by decide +kernel
theorem dL_adds_131 : decode cL_adds 131 = .ok (.getfield 80, 3) := by decide +kernel
theorem dL_adds_134 : decode cL_adds 134 = .ok (.iload_n 2, 1) := by decide +kernel
theorem dL_adds_135 : decode cL_adds 135 = .ok (.iaload, 1) := by decide +kernel
theorem dL_adds_136 : decode cL_adds 136 = .ok (.invokevirtual 102, 3) := by decide +kernel
theorem dL_adds_139 : decode cL_adds 139 = .ok (.ireturn, 1) := by decide +kernel
theorem dL_adds_140 : decode cL_adds 140 = .ok (.aload_n 0, 1) := by decide +kernel
theorem dL_adds_141 : decode cL_adds 141 = .ok (.aload_n 1, 1) := by decide +kernel
theorem dL_adds_142 : decode cL_adds 142 = .ok (.getfield 69, 3) := by decide +kernel
theorem dL_adds_145 : decode cL_adds 145 = .ok (.iload_n 2, 1) := by decide +kernel
theorem dL_adds_146 : decode cL_adds 146 = .ok (.iaload, 1) := by decide +kernel
theorem dL_adds_147 : decode cL_adds 147 = .ok (.invokevirtual 106, 3) := by decide +kernel
theorem dL_adds_150 : decode cL_adds 150 = .ok (.ireturn, 1) := by decide +kernel
theorem dL_agrees_0 : decode cL_agrees 0 = .ok (.iload_n 2, 1) := by decide +kernel
theorem dL_agrees_1 : decode cL_agrees 1 = .ok (.iconst 5, 1) := by decide +kernel
theorem dL_agrees_2 : decode cL_agrees 2 = .ok (.invokestatic 50, 3) := by decide +kernel
theorem dL_agrees_5 : decode cL_agrees 5 = .ok (.istore_n 3, 1) := by decide +kernel
theorem dL_agrees_6 : decode cL_agrees 6 = .ok (.iload_n 2, 1) := by decide +kernel
theorem dL_agrees_7 : decode cL_agrees 7 = .ok (.iconst 3, 1) := by decide +kernel
theorem dL_agrees_8 : decode cL_agrees 8 = .ok (.ishr, 1) := by decide +kernel
theorem dL_agrees_9 : decode cL_agrees 9 = .ok (.bipush 12, 2) := by decide +kernel
theorem dL_agrees_11 : decode cL_agrees 11 = .ok (.invokestatic 50, 3) := by decide +kernel
theorem dL_agrees_14 : decode cL_agrees 14 = .ok (.istore 4, 2) := by decide +kernel
theorem dL_agrees_16 : decode cL_agrees 16 = .ok (.aload_n 0, 1) := by decide +kernel
theorem dL_agrees_17 : decode cL_agrees 17 = .ok (.iload_n 3, 1) := by decide +kernel
theorem dL_agrees_18 : decode cL_agrees 18 = .ok (.iload 4, 2) := by decide +kernel
theorem dL_agrees_20 : decode cL_agrees 20 = .ok (.invokevirtual 109, 3) := by decide +kernel
theorem dL_agrees_23 : decode cL_agrees 23 = .ok (.aload_n 1, 1) := by decide +kernel
theorem dL_agrees_24 : decode cL_agrees 24 = .ok (.aload_n 0, 1) := by decide +kernel
theorem dL_agrees_25 : decode cL_agrees 25 = .ok (.iload 4, 2) := by decide +kernel
theorem dL_agrees_27 : decode cL_agrees 27 = .ok (.iload_n 3, 1) := by decide +kernel
theorem dL_agrees_28 : decode cL_agrees 28 = .ok (.invokevirtual 113, 3) := by decide +kernel
theorem dL_agrees_31 : decode cL_agrees 31 = .ok (.if_icmp .ne 45, 3) := by decide +kernel
theorem dL_agrees_34 : decode cL_agrees 34 = .ok (.aload_n 0, 1) := by decide +kernel
theorem dL_agrees_35 : decode cL_agrees 35 = .ok (.iload_n 3, 1) := by decide +kernel
theorem dL_agrees_36 : decode cL_agrees 36 = .ok (.invokevirtual 116, 3) := by decide +kernel
theorem dL_agrees_39 : decode cL_agrees 39 = .ok (.aload_n 1, 1) := by decide +kernel
theorem dL_agrees_40 : decode cL_agrees 40 = .ok (.aload_n 0, 1) := by decide +kernel
theorem dL_agrees_41 : decode cL_agrees 41 = .ok (.iload_n 3, 1) := by decide +kernel
theorem dL_agrees_42 : decode cL_agrees 42 = .ok (.invokevirtual 119, 3) := by decide +kernel
theorem dL_agrees_45 : decode cL_agrees 45 = .ok (.if_icmp .ne 31, 3) := by decide +kernel
theorem dL_agrees_48 : decode cL_agrees 48 = .ok (.aload_n 0, 1) := by decide +kernel
theorem dL_agrees_49 : decode cL_agrees 49 = .ok (.iload_n 3, 1) := by decide +kernel
theorem dL_agrees_50 : decode cL_agrees 50 = .ok (.invokevirtual 116, 3) := by decide +kernel
theorem dL_agrees_53 : decode cL_agrees 53 = .ok (.bipush 18, 2) := by decide +kernel
theorem dL_agrees_55 : decode cL_agrees 55 = .ok (.if_icmp .gt 21, 3) := by decide +kernel
theorem dL_agrees_58 : decode cL_agrees 58 = .ok (.aload_n 0, 1) := by decide +kernel
theorem dL_agrees_59 : decode cL_agrees 59 = .ok (.iload_n 3, 1) := by decide +kernel
theorem dL_agrees_60 : decode cL_agrees 60 = .ok (.invokevirtual 122, 3) := by decide +kernel
theorem dL_agrees_63 : decode cL_agrees 63 = .ok (.aload_n 1, 1) := by decide +kernel
theorem dL_agrees_64 : decode cL_agrees 64 = .ok (.aload_n 0, 1) := by decide +kernel
theorem dL_agrees_65 : decode cL_agrees 65 = .ok (.iload_n 3, 1) := by decide +kernel
theorem dL_agrees_66 : decode cL_agrees 66 = .ok (.invokevirtual 125, 3) := by decide +kernel
theorem dL_agrees_69 : decode cL_agrees 69 = .ok (.if_icmp .ne 7, 3) := by decide +kernel
theorem dL_agrees_72 : decode cL_agrees 72 = .ok (.iconst 1, 1) := by decide +kernel
theorem dL_agrees_73 : decode cL_agrees 73 = .ok (.goto 4, 3) := by decide +kernel
theorem dL_agrees_76 : decode cL_agrees 76 = .ok (.iconst 0, 1) := by decide +kernel
theorem dL_agrees_77 : decode cL_agrees 77 = .ok (.istore 5, 2) := by decide +kernel
theorem dL_agrees_79 : decode cL_agrees 79 = .ok (.iconst 0, 1) := by decide +kernel
theorem dL_agrees_80 : decode cL_agrees 80 = .ok (.istore 6, 2) := by decide +kernel
theorem dL_agrees_82 : decode cL_agrees 82 = .ok (.iload 6, 2) := by decide +kernel
theorem dL_agrees_84 : decode cL_agrees 84 = .ok (.iconst 5, 1) := by decide +kernel
theorem dL_agrees_85 : decode cL_agrees 85 = .ok (.if_icmp .ge 228, 3) := by decide +kernel
theorem dL_agrees_88 : decode cL_agrees 88 = .ok (.iload 5, 2) := by decide +kernel
theorem dL_agrees_90 : decode cL_agrees 90 = .ok (.ifCond .eq 223, 3) := by decide +kernel
theorem dL_agrees_93 : decode cL_agrees 93 = .ok (.aload_n 0, 1) := by decide +kernel
theorem dL_agrees_94 : decode cL_agrees 94 = .ok (.iload 6, 2) := by decide +kernel
theorem dL_agrees_96 : decode cL_agrees 96 = .ok (.invokevirtual 128, 3) := by decide +kernel
theorem dL_agrees_99 : decode cL_agrees 99 = .ok (.aload_n 1, 1) := by decide +kernel
theorem dL_agrees_100 : decode cL_agrees 100 = .ok (.aload_n 0, 1) := by decide +kernel
theorem dL_agrees_101 : decode cL_agrees 101 = .ok (.iload 6, 2) := by decide +kernel
theorem dL_agrees_103 : decode cL_agrees 103 = .ok (.iconst (-1), 1) := by decide +kernel
theorem dL_agrees_104 : decode cL_agrees 104 = .ok (.invokevirtual 131, 3) := by decide +kernel
theorem dL_agrees_107 : decode cL_agrees 107 = .ok (.if_icmp .ne 80, 3) := by decide +kernel
theorem dL_agrees_110 : decode cL_agrees 110 = .ok (.aload_n 0, 1) := by decide +kernel
theorem dL_agrees_111 : decode cL_agrees 111 = .ok (.iload 6, 2) := by decide +kernel
theorem dL_agrees_113 : decode cL_agrees 113 = .ok (.invokevirtual 128, 3) := by decide +kernel
theorem dL_agrees_116 : decode cL_agrees 116 = .ok (.aload_n 1, 1) := by decide +kernel
theorem dL_agrees_117 : decode cL_agrees 117 = .ok (.getfield 53, 3) := by decide +kernel
theorem dL_agrees_120 : decode cL_agrees 120 = .ok (.iload 6, 2) := by decide +kernel
theorem dL_agrees_122 : decode cL_agrees 122 = .ok (.iaload, 1) := by decide +kernel
theorem dL_agrees_123 : decode cL_agrees 123 = .ok (.if_icmp .gt 64, 3) := by decide +kernel
theorem dL_agrees_126 : decode cL_agrees 126 = .ok (.aload_n 0, 1) := by decide +kernel
theorem dL_agrees_127 : decode cL_agrees 127 = .ok (.iload 6, 2) := by decide +kernel
theorem dL_agrees_129 : decode cL_agrees 129 = .ok (.aload_n 1, 1) := by decide +kernel
theorem dL_agrees_130 : decode cL_agrees 130 = .ok (.getfield 59, 3) := by decide +kernel
theorem dL_agrees_133 : decode cL_agrees 133 = .ok (.iload_n 3, 1) := by decide +kernel
theorem dL_agrees_134 : decode cL_agrees 134 = .ok (.iaload, 1) := by decide +kernel
theorem dL_agrees_135 : decode cL_agrees 135 = .ok (.invokevirtual 135, 3) := by decide +kernel
theorem dL_agrees_138 : decode cL_agrees 138 = .ok (.aload_n 1, 1) := by decide +kernel
theorem dL_agrees_139 : decode cL_agrees 139 = .ok (.aload_n 0, 1) := by decide +kernel
theorem dL_agrees_140 : decode cL_agrees 140 = .ok (.iload 6, 2) := by decide +kernel
theorem dL_agrees_142 : decode cL_agrees 142 = .ok (.aload_n 1, 1) := by decide +kernel
theorem dL_agrees_143 : decode cL_agrees 143 = .ok (.getfield 59, 3) := by decide +kernel
theorem dL_agrees_146 : decode cL_agrees 146 = .ok (.iload_n 3, 1) := by decide +kernel
theorem dL_agrees_147 : decode cL_agrees 147 = .ok (.iaload, 1) := by decide +kernel
theorem dL_agrees_148 : decode cL_agrees 148 = .ok (.invokevirtual 138, 3) := by decide +kernel
theorem dL_agrees_151 : decode cL_agrees 151 = .ok (.if_icmp .ne 36, 3) := by decide +kernel
theorem dL_agrees_154 : decode cL_agrees 154 = .ok (.aload_n 0, 1) := by decide +kernel
theorem dL_agrees_155 : decode cL_agrees 155 = .ok (.iload_n 3, 1) := by decide +kernel
theorem dL_agrees_156 : decode cL_agrees 156 = .ok (.iload 6, 2) := by decide +kernel
theorem dL_agrees_158 : decode cL_agrees 158 = .ok (.invokevirtual 141, 3) := by decide +kernel
theorem dL_agrees_161 : decode cL_agrees 161 = .ok (.aload_n 1, 1) := by decide +kernel
theorem dL_agrees_162 : decode cL_agrees 162 = .ok (.aload_n 0, 1) := by decide +kernel
theorem dL_agrees_163 : decode cL_agrees 163 = .ok (.iload_n 3, 1) := by decide +kernel
theorem dL_agrees_164 : decode cL_agrees 164 = .ok (.iload 6, 2) := by decide +kernel
theorem dL_agrees_166 : decode cL_agrees 166 = .ok (.invokevirtual 144, 3) := by decide +kernel
theorem dL_agrees_169 : decode cL_agrees 169 = .ok (.if_icmp .ne 18, 3) := by decide +kernel
theorem dL_agrees_172 : decode cL_agrees 172 = .ok (.aload_n 0, 1) := by decide +kernel
theorem dL_agrees_173 : decode cL_agrees 173 = .ok (.iload 6, 2) := by decide +kernel
theorem dL_agrees_175 : decode cL_agrees 175 = .ok (.invokevirtual 148, 3) := by decide +kernel
theorem dL_agrees_178 : decode cL_agrees 178 = .ok (.bipush 6, 2) := by decide +kernel
theorem dL_agrees_180 : decode cL_agrees 180 = .ok (.if_icmp .gt 7, 3) := by decide +kernel
theorem dL_agrees_183 : decode cL_agrees 183 = .ok (.iconst 1, 1) := by decide +kernel
theorem dL_agrees_184 : decode cL_agrees 184 = .ok (.goto 4, 3) := by decide +kernel
theorem dL_agrees_187 : decode cL_agrees 187 = .ok (.iconst 0, 1) := by decide +kernel
theorem dL_agrees_188 : decode cL_agrees 188 = .ok (.istore 5, 2) := by decide +kernel
theorem dL_agrees_190 : decode cL_agrees 190 = .ok (.aload_n 0, 1) := by decide +kernel
theorem dL_agrees_191 : decode cL_agrees 191 = .ok (.iload_n 3, 1) := by decide +kernel
theorem dL_agrees_192 : decode cL_agrees 192 = .ok (.iload 6, 2) := by decide +kernel
theorem dL_agrees_194 : decode cL_agrees 194 = .ok (.invokestatic 151, 3) := by decide +kernel
theorem dL_agrees_197 : decode cL_agrees 197 = .ok (.istore 7, 2) := by decide +kernel
theorem dL_agrees_199 : decode cL_agrees 199 = .ok (.iload 5, 2) := by decide +kernel
theorem dL_agrees_201 : decode cL_agrees 201 = .ok (.ifCond .eq 42, 3) := by decide +kernel
theorem dL_agrees_204 : decode cL_agrees 204 = .ok (.iload 7, 2) := by decide +kernel
theorem dL_agrees_206 : decode cL_agrees 206 = .ok (.ifCond .lt 33, 3) := by decide +kernel
theorem dL_agrees_209 : decode cL_agrees 209 = .ok (.iload 7, 2) := by decide +kernel
theorem dL_agrees_211 : decode cL_agrees 211 = .ok (.aload_n 0, 1) := by decide +kernel
theorem dL_agrees_212 : decode cL_agrees 212 = .ok (.iload 6, 2) := by decide +kernel
theorem dL_agrees_214 : decode cL_agrees 214 = .ok (.invokevirtual 148, 3) := by decide +kernel
theorem dL_agrees_217 : decode cL_agrees 217 = .ok (.if_icmp .ge 26, 3) := by decide +kernel
theorem dL_agrees_220 : decode cL_agrees 220 = .ok (.aload_n 0, 1) := by decide +kernel
theorem dL_agrees_221 : decode cL_agrees 221 = .ok (.iload_n 3, 1) := by decide +kernel
theorem dL_agrees_222 : decode cL_agrees 222 = .ok (.iload 6, 2) := by decide +kernel
theorem dL_agrees_224 : decode cL_agrees 224 = .ok (.invokevirtual 154, 3) := by decide +kernel
theorem dL_agrees_227 : decode cL_agrees 227 = .ok (.ifCond .ne 16, 3) := by decide +kernel
theorem dL_agrees_230 : decode cL_agrees 230 = .ok (.aload_n 0, 1) := by decide +kernel
theorem dL_agrees_231 : decode cL_agrees 231 = .ok (.invokevirtual 157, 3) := by decide +kernel
theorem dL_agrees_234 : decode cL_agrees 234 = .ok (.bipush 6, 2) := by decide +kernel
theorem dL_agrees_236 : decode cL_agrees 236 = .ok (.if_icmp .ge 7, 3) := by decide +kernel
theorem dL_agrees_239 : decode cL_agrees 239 = .ok (.iconst 1, 1) := by decide +kernel
theorem dL_agrees_240 : decode cL_agrees 240 = .ok (.goto 4, 3) := by decide +kernel
theorem dL_agrees_243 : decode cL_agrees 243 = .ok (.iconst 0, 1) := by decide +kernel
theorem dL_agrees_244 : decode cL_agrees 244 = .ok (.istore 5, 2) := by decide +kernel
theorem dL_agrees_246 : decode cL_agrees 246 = .ok (.iload 5, 2) := by decide +kernel
theorem dL_agrees_248 : decode cL_agrees 248 = .ok (.ifCond .eq 56, 3) := by decide +kernel
theorem dL_agrees_251 : decode cL_agrees 251 = .ok (.iload 7, 2) := by decide +kernel
theorem dL_agrees_253 : decode cL_agrees 253 = .ok (.ifCond .lt 47, 3) := by decide +kernel
theorem dL_agrees_256 : decode cL_agrees 256 = .ok (.aload_n 0, 1) := by decide +kernel
theorem dL_agrees_257 : decode cL_agrees 257 = .ok (.iload 6, 2) := by decide +kernel
theorem dL_agrees_259 : decode cL_agrees 259 = .ok (.aload_n 1, 1) := by decide +kernel
theorem dL_agrees_260 : decode cL_agrees 260 = .ok (.getfield 59, 3) := by decide +kernel
theorem dL_agrees_263 : decode cL_agrees 263 = .ok (.iload_n 3, 1) := by decide +kernel
theorem dL_agrees_264 : decode cL_agrees 264 = .ok (.iaload, 1) := by decide +kernel
theorem dL_agrees_265 : decode cL_agrees 265 = .ok (.invokevirtual 135, 3) := by decide +kernel
theorem dL_agrees_268 : decode cL_agrees 268 = .ok (.ifCond .eq 32, 3) := by decide +kernel
theorem dL_agrees_271 : decode cL_agrees 271 = .ok (.aload_n 0, 1) := by decide +kernel
theorem dL_agrees_272 : decode cL_agrees 272 = .ok (.iload_n 3, 1) := by decide +kernel
theorem dL_agrees_273 : decode cL_agrees 273 = .ok (.invokevirtual 116, 3) := by decide +kernel
theorem dL_agrees_276 : decode cL_agrees 276 = .ok (.aload_n 1, 1) := by decide +kernel
theorem dL_agrees_277 : decode cL_agrees 277 = .ok (.getfield 40, 3) := by decide +kernel
theorem dL_agrees_280 : decode cL_agrees 280 = .ok (.iload 6, 2) := by decide +kernel
theorem dL_agrees_282 : decode cL_agrees 282 = .ok (.iaload, 1) := by decide +kernel
theorem dL_agrees_283 : decode cL_agrees 283 = .ok (.iadd, 1) := by decide +kernel
theorem dL_agrees_284 : decode cL_agrees 284 = .ok (.bipush 18, 2) := by decide +kernel
theorem dL_agrees_286 : decode cL_agrees 286 = .ok (.if_icmp .gt 14, 3) := by decide +kernel
theorem dL_agrees_289 : decode cL_agrees 289 = .ok (.aload_n 1, 1) := by decide +kernel
theorem dL_agrees_290 : decode cL_agrees 290 = .ok (.aload_n 0, 1) := by decide +kernel
theorem dL_agrees_291 : decode cL_agrees 291 = .ok (.iload_n 3, 1) := by decide +kernel
theorem dL_agrees_292 : decode cL_agrees 292 = .ok (.iload 6, 2) := by decide +kernel
theorem dL_agrees_294 : decode cL_agrees 294 = .ok (.invokevirtual 161, 3) := by decide +kernel
theorem dL_agrees_297 : decode cL_agrees 297 = .ok (.ifCond .ne 7, 3) := by decide +kernel
theorem dL_agrees_300 : decode cL_agrees 300 = .ok (.iconst 1, 1) := by decide +kernel
theorem dL_agrees_301 : decode cL_agrees 301 = .ok (.goto 4, 3) := by decide +kernel
theorem dL_agrees_304 : decode cL_agrees 304 = .ok (.iconst 0, 1) := by decide +kernel
theorem dL_agrees_305 : decode cL_agrees 305 = .ok (.istore 5, 2) := by decide +kernel
theorem dL_agrees_307 : decode cL_agrees 307 = .ok (.iinc 6 1, 3) := by decide +kernel
theorem dL_agrees_310 : decode cL_agrees 310 = .ok (.goto (-228), 3) := by decide +kernel
theorem dL_agrees_313 : decode cL_agrees 313 = .ok (.iload 5, 2) := by decide +kernel
theorem dL_agrees_315 : decode cL_agrees 315 = .ok (.ireturn, 1) := by decide +kernel
theorem dL_enrolls_0 : decode cL_enrolls 0 = .ok (.aload_n 1, 1) := by decide +kernel
theorem dL_enrolls_1 : decode cL_enrolls 1 = .ok (.aload_n 0, 1) := by decide +kernel
theorem dL_enrolls_2 : decode cL_enrolls 2 = .ok (.iload_n 2, 1) := by decide +kernel
theorem dL_enrolls_3 : decode cL_enrolls 3 = .ok (.iload_n 3, 1) := by decide +kernel
theorem dL_enrolls_4 : decode cL_enrolls 4 = .ok (.invokevirtual 144, 3) := by decide +kernel
theorem dL_enrolls_7 : decode cL_enrolls 7 = .ok (.istore 4, 2) := by decide +kernel
theorem dL_enrolls_9 : decode cL_enrolls 9 = .ok (.aload_n 0, 1) := by decide +kernel
theorem dL_enrolls_10 : decode cL_enrolls 10 = .ok (.iload_n 2, 1) := by decide +kernel
theorem dL_enrolls_11 : decode cL_enrolls 11 = .ok (.iload_n 3, 1) := by decide +kernel
theorem dL_enrolls_12 : decode cL_enrolls 12 = .ok (.invokestatic 164, 3) := by decide +kernel
theorem dL_enrolls_15 : decode cL_enrolls 15 = .ok (.istore 5, 2) := by decide +kernel
theorem dL_enrolls_17 : decode cL_enrolls 17 = .ok (.iload 5, 2) := by decide +kernel
theorem dL_enrolls_19 : decode cL_enrolls 19 = .ok (.iload 4, 2) := by decide +kernel
theorem dL_enrolls_21 : decode cL_enrolls 21 = .ok (.bipush 97, 2) := by decide +kernel
theorem dL_enrolls_23 : decode cL_enrolls 23 = .ok (.if_icmp .ne 8, 3) := by decide +kernel
theorem dL_enrolls_26 : decode cL_enrolls 26 = .ok (.bipush 114, 2) := by decide +kernel
theorem dL_enrolls_28 : decode cL_enrolls 28 = .ok (.goto 5, 3) := by decide +kernel
theorem dL_enrolls_31 : decode cL_enrolls 31 = .ok (.iload 4, 2) := by decide +kernel
theorem dL_enrolls_33 : decode cL_enrolls 33 = .ok (.if_icmp .ne 39, 3) := by decide +kernel
theorem dL_enrolls_36 : decode cL_enrolls 36 = .ok (.iload 5, 2) := by decide +kernel
theorem dL_enrolls_38 : decode cL_enrolls 38 = .ok (.bipush 101, 2) := by decide +kernel
theorem dL_enrolls_40 : decode cL_enrolls 40 = .ok (.if_icmp .ne 12, 3) := by decide +kernel
theorem dL_enrolls_43 : decode cL_enrolls 43 = .ok (.aload_n 0, 1) := by decide +kernel
theorem dL_enrolls_44 : decode cL_enrolls 44 = .ok (.iload_n 2, 1) := by decide +kernel
theorem dL_enrolls_45 : decode cL_enrolls 45 = .ok (.iload_n 3, 1) := by decide +kernel
theorem dL_enrolls_46 : decode cL_enrolls 46 = .ok (.invokevirtual 154, 3) := by decide +kernel
theorem dL_enrolls_49 : decode cL_enrolls 49 = .ok (.ifCond .eq 23, 3) := by decide +kernel
theorem dL_enrolls_52 : decode cL_enrolls 52 = .ok (.iload 5, 2) := by decide +kernel
theorem dL_enrolls_54 : decode cL_enrolls 54 = .ok (.bipush 119, 2) := by decide +kernel
theorem dL_enrolls_56 : decode cL_enrolls 56 = .ok (.if_icmp .ne 12, 3) := by decide +kernel
theorem dL_enrolls_59 : decode cL_enrolls 59 = .ok (.aload_n 0, 1) := by decide +kernel
theorem dL_enrolls_60 : decode cL_enrolls 60 = .ok (.iload_n 2, 1) := by decide +kernel
theorem dL_enrolls_61 : decode cL_enrolls 61 = .ok (.iload_n 3, 1) := by decide +kernel
theorem dL_enrolls_62 : decode cL_enrolls 62 = .ok (.invokestatic 151, 3) := by decide +kernel
theorem dL_enrolls_65 : decode cL_enrolls 65 = .ok (.ifCond .lt 7, 3) := by decide +kernel
theorem dL_enrolls_68 : decode cL_enrolls 68 = .ok (.iconst 1, 1) := by decide +kernel
theorem dL_enrolls_69 : decode cL_enrolls 69 = .ok (.goto 4, 3) := by decide +kernel
theorem dL_enrolls_72 : decode cL_enrolls 72 = .ok (.iconst 0, 1) := by decide +kernel
theorem dL_enrolls_73 : decode cL_enrolls 73 = .ok (.ireturn, 1) := by decide +kernel
theorem dL_drops_0 : decode cL_drops 0 = .ok (.aload_n 0, 1) := by decide +kernel
theorem dL_drops_1 : decode cL_drops 1 = .ok (.iload_n 2, 1) := by decide +kernel
theorem dL_drops_2 : decode cL_drops 2 = .ok (.iload_n 3, 1) := by decide +kernel
theorem dL_drops_3 : decode cL_drops 3 = .ok (.invokevirtual 154, 3) := by decide +kernel
theorem dL_drops_6 : decode cL_drops 6 = .ok (.istore 4, 2) := by decide +kernel
theorem dL_drops_8 : decode cL_drops 8 = .ok (.iload 4, 2) := by decide +kernel
theorem dL_drops_10 : decode cL_drops 10 = .ok (.ifCond .ne 12, 3) := by decide +kernel
theorem dL_drops_13 : decode cL_drops 13 = .ok (.aload_n 0, 1) := by decide +kernel
theorem dL_drops_14 : decode cL_drops 14 = .ok (.iload_n 2, 1) := by decide +kernel
theorem dL_drops_15 : decode cL_drops 15 = .ok (.iload_n 3, 1) := by decide +kernel
theorem dL_drops_16 : decode cL_drops 16 = .ok (.invokestatic 151, 3) := by decide +kernel
theorem dL_drops_19 : decode cL_drops 19 = .ok (.ifCond .lt 12, 3) := by decide +kernel
theorem dL_drops_22 : decode cL_drops 22 = .ok (.aload_n 0, 1) := by decide +kernel
theorem dL_drops_23 : decode cL_drops 23 = .ok (.invokevirtual 157, 3) := by decide +kernel
theorem dL_drops_26 : decode cL_drops 26 = .ok (.bipush 20, 2) := by decide +kernel
theorem dL_drops_28 : decode cL_drops 28 = .ok (.if_icmp .le 5, 3) := by decide +kernel
theorem dL_drops_31 : decode cL_drops 31 = .ok (.iconst 1, 1) := by decide +kernel
theorem dL_drops_32 : decode cL_drops 32 = .ok (.ireturn, 1) := by decide +kernel
theorem dL_drops_33 : decode cL_drops 33 = .ok (.aload_n 0, 1) := by decide +kernel
theorem dL_drops_34 : decode cL_drops 34 = .ok (.iload_n 2, 1) := by decide +kernel
theorem dL_drops_35 : decode cL_drops 35 = .ok (.iload_n 3, 1) := by decide +kernel
theorem dL_drops_36 : decode cL_drops 36 = .ok (.invokevirtual 166, 3) := by decide +kernel
theorem dL_drops_39 : decode cL_drops 39 = .ok (.istore 5, 2) := by decide +kernel
theorem dL_drops_41 : decode cL_drops 41 = .ok (.aload_n 0, 1) := by decide +kernel
theorem dL_drops_42 : decode cL_drops 42 = .ok (.invokevirtual 157, 3) := by decide +kernel
theorem dL_drops_45 : decode cL_drops 45 = .ok (.istore 6, 2) := by decide +kernel
theorem dL_drops_47 : decode cL_drops 47 = .ok (.aload_n 0, 1) := by decide +kernel
theorem dL_drops_48 : decode cL_drops 48 = .ok (.iload_n 2, 1) := by decide +kernel
theorem dL_drops_49 : decode cL_drops 49 = .ok (.iload_n 3, 1) := by decide +kernel
theorem dL_drops_50 : decode cL_drops 50 = .ok (.invokevirtual 169, 3) := by decide +kernel
theorem dL_drops_53 : decode cL_drops 53 = .ok (.istore 7, 2) := by decide +kernel
theorem dL_drops_55 : decode cL_drops 55 = .ok (.iload 7, 2) := by decide +kernel
theorem dL_drops_57 : decode cL_drops 57 = .ok (.iload 4, 2) := by decide +kernel
theorem dL_drops_59 : decode cL_drops 59 = .ok (.ifCond .eq 20, 3) := by decide +kernel
theorem dL_drops_62 : decode cL_drops 62 = .ok (.iload 6, 2) := by decide +kernel
theorem dL_drops_64 : decode cL_drops 64 = .ok (.bipush 9, 2) := by decide +kernel
theorem dL_drops_66 : decode cL_drops 66 = .ok (.if_icmp .ge 8, 3) := by decide +kernel
theorem dL_drops_69 : decode cL_drops 69 = .ok (.bipush 100, 2) := by decide +kernel
theorem dL_drops_71 : decode cL_drops 71 = .ok (.goto 10, 3) := by decide +kernel
theorem dL_drops_74 : decode cL_drops 74 = .ok (.bipush 119, 2) := by decide +kernel
theorem dL_drops_76 : decode cL_drops 76 = .ok (.goto 5, 3) := by decide +kernel
theorem dL_drops_79 : decode cL_drops 79 = .ok (.bipush 108, 2) := by decide +kernel
theorem dL_drops_81 : decode cL_drops 81 = .ok (.if_icmp .ne 31, 3) := by decide +kernel
theorem dL_drops_84 : decode cL_drops 84 = .ok (.aload_n 0, 1) := by decide +kernel
theorem dL_drops_85 : decode cL_drops 85 = .ok (.iload_n 2, 1) := by decide +kernel
theorem dL_drops_86 : decode cL_drops 86 = .ok (.iload_n 3, 1) := by decide +kernel
theorem dL_drops_87 : decode cL_drops 87 = .ok (.invokevirtual 166, 3) := by decide +kernel
theorem dL_drops_90 : decode cL_drops 90 = .ok (.iload 5, 2) := by decide +kernel
theorem dL_drops_92 : decode cL_drops 92 = .ok (.iload 7, 2) := by decide +kernel
theorem dL_drops_94 : decode cL_drops 94 = .ok (.bipush 119, 2) := by decide +kernel
theorem dL_drops_96 : decode cL_drops 96 = .ok (.if_icmp .ne 7, 3) := by decide +kernel
theorem dL_drops_99 : decode cL_drops 99 = .ok (.iconst 1, 1) := by decide +kernel
theorem dL_drops_100 : decode cL_drops 100 = .ok (.goto 4, 3) := by decide +kernel
theorem dL_drops_103 : decode cL_drops 103 = .ok (.iconst 0, 1) := by decide +kernel
theorem dL_drops_104 : decode cL_drops 104 = .ok (.iadd, 1) := by decide +kernel
theorem dL_drops_105 : decode cL_drops 105 = .ok (.if_icmp .ne 7, 3) := by decide +kernel
theorem dL_drops_108 : decode cL_drops 108 = .ok (.iconst 1, 1) := by decide +kernel
theorem dL_drops_109 : decode cL_drops 109 = .ok (.goto 4, 3) := by decide +kernel
theorem dL_drops_112 : decode cL_drops 112 = .ok (.iconst 0, 1) := by decide +kernel
theorem dL_drops_113 : decode cL_drops 113 = .ok (.istore 8, 2) := by decide +kernel
theorem dL_drops_115 : decode cL_drops 115 = .ok (.iconst 0, 1) := by decide +kernel
theorem dL_drops_116 : decode cL_drops 116 = .ok (.istore 9, 2) := by decide +kernel
theorem dL_drops_118 : decode cL_drops 118 = .ok (.iload 9, 2) := by decide +kernel
theorem dL_drops_120 : decode cL_drops 120 = .ok (.iconst 5, 1) := by decide +kernel
theorem dL_drops_121 : decode cL_drops 121 = .ok (.if_icmp .ge 53, 3) := by decide +kernel
theorem dL_drops_124 : decode cL_drops 124 = .ok (.iload 4, 2) := by decide +kernel
theorem dL_drops_126 : decode cL_drops 126 = .ok (.ifCond .eq 48, 3) := by decide +kernel
theorem dL_drops_129 : decode cL_drops 129 = .ok (.iload 6, 2) := by decide +kernel
theorem dL_drops_131 : decode cL_drops 131 = .ok (.iconst 5, 1) := by decide +kernel
theorem dL_drops_132 : decode cL_drops 132 = .ok (.if_icmp .le 42, 3) := by decide +kernel
theorem dL_drops_135 : decode cL_drops 135 = .ok (.iload 8, 2) := by decide +kernel
theorem dL_drops_137 : decode cL_drops 137 = .ok (.ifCond .eq 28, 3) := by decide +kernel
theorem dL_drops_140 : decode cL_drops 140 = .ok (.aload_n 0, 1) := by decide +kernel
theorem dL_drops_141 : decode cL_drops 141 = .ok (.iload_n 2, 1) := by decide +kernel
theorem dL_drops_142 : decode cL_drops 142 = .ok (.iload 9, 2) := by decide +kernel
theorem dL_drops_144 : decode cL_drops 144 = .ok (.invokevirtual 154, 3) := by decide +kernel
theorem dL_drops_147 : decode cL_drops 147 = .ok (.ifCond .eq 14, 3) := by decide +kernel
theorem dL_drops_150 : decode cL_drops 150 = .ok (.aload_n 1, 1) := by decide +kernel
theorem dL_drops_151 : decode cL_drops 151 = .ok (.aload_n 0, 1) := by decide +kernel
theorem dL_drops_152 : decode cL_drops 152 = .ok (.iload_n 2, 1) := by decide +kernel
theorem dL_drops_153 : decode cL_drops 153 = .ok (.iload 9, 2) := by decide +kernel
theorem dL_drops_155 : decode cL_drops 155 = .ok (.invokevirtual 161, 3) := by decide +kernel
theorem dL_drops_158 : decode cL_drops 158 = .ok (.ifCond .eq 7, 3) := by decide +kernel
theorem dL_drops_161 : decode cL_drops 161 = .ok (.iconst 1, 1) := by decide +kernel
theorem dL_drops_162 : decode cL_drops 162 = .ok (.goto 4, 3) := by decide +kernel
theorem dL_drops_165 : decode cL_drops 165 = .ok (.iconst 0, 1) := by decide +kernel
theorem dL_drops_166 : decode cL_drops 166 = .ok (.istore 8, 2) := by decide +kernel
theorem dL_drops_168 : decode cL_drops 168 = .ok (.iinc 9 1, 3) := by decide +kernel
theorem dL_drops_171 : decode cL_drops 171 = .ok (.goto (-53), 3) := by decide +kernel
theorem dL_drops_174 : decode cL_drops 174 = .ok (.iload 8, 2) := by decide +kernel
theorem dL_drops_176 : decode cL_drops 176 = .ok (.ireturn, 1) := by decide +kernel
theorem dL_ends_0 : decode cL_ends 0 = .ok (.aload_n 0, 1) := by decide +kernel
theorem dL_ends_1 : decode cL_ends 1 = .ok (.invokevirtual 157, 3) := by decide +kernel
theorem dL_ends_4 : decode cL_ends 4 = .ok (.bipush 21, 2) := by decide +kernel
theorem dL_ends_6 : decode cL_ends 6 = .ok (.if_icmp .ge 34, 3) := by decide +kernel
theorem dL_ends_9 : decode cL_ends 9 = .ok (.aload_n 0, 1) := by decide +kernel
theorem dL_ends_10 : decode cL_ends 10 = .ok (.iconst 1, 1) := by decide +kernel
theorem dL_ends_11 : decode cL_ends 11 = .ok (.iload_n 2, 1) := by decide +kernel
theorem dL_ends_12 : decode cL_ends 12 = .ok (.bipush 8, 2) := by decide +kernel
theorem dL_ends_14 : decode cL_ends 14 = .ok (.invokestatic 50, 3) := by decide +kernel
theorem dL_ends_17 : decode cL_ends 17 = .ok (.iadd, 1) := by decide +kernel
theorem dL_ends_18 : decode cL_ends 18 = .ok (.bipush 30, 2) := by decide +kernel
theorem dL_ends_20 : decode cL_ends 20 = .ok (.aload_n 0, 1) := by decide +kernel
theorem dL_ends_21 : decode cL_ends 21 = .ok (.invokevirtual 157, 3) := by decide +kernel
theorem dL_ends_24 : decode cL_ends 24 = .ok (.isub, 1) := by decide +kernel
theorem dL_ends_25 : decode cL_ends 25 = .ok (.invokestatic 72, 3) := by decide +kernel
theorem dL_ends_28 : decode cL_ends 28 = .ok (.invokevirtual 172, 3) := by decide +kernel
theorem dL_ends_31 : decode cL_ends 31 = .ok (.ifCond .le 7, 3) := by decide +kernel
theorem dL_ends_34 : decode cL_ends 34 = .ok (.iconst 1, 1) := by decide +kernel
theorem dL_ends_35 : decode cL_ends 35 = .ok (.goto 4, 3) := by decide +kernel
theorem dL_ends_38 : decode cL_ends 38 = .ok (.iconst 0, 1) := by decide +kernel
theorem dL_ends_39 : decode cL_ends 39 = .ok (.ireturn, 1) := by decide +kernel
theorem dL_ends_40 : decode cL_ends 40 = .ok (.iconst 0, 1) := by decide +kernel
theorem dL_ends_41 : decode cL_ends 41 = .ok (.istore_n 3, 1) := by decide +kernel
theorem dL_ends_42 : decode cL_ends 42 = .ok (.iconst 5, 1) := by decide +kernel
theorem dL_ends_43 : decode cL_ends 43 = .ok (.newarray .int, 2) := by decide +kernel
theorem dL_ends_45 : decode cL_ends 45 = .ok (.astore 4, 2) := by decide +kernel
theorem dL_ends_47 : decode cL_ends 47 = .ok (.iload_n 2, 1) := by decide +kernel
theorem dL_ends_48 : decode cL_ends 48 = .ok (.iconst 3, 1) := by decide +kernel
theorem dL_ends_49 : decode cL_ends 49 = .ok (.ishr, 1) := by decide +kernel
theorem dL_ends_50 : decode cL_ends 50 = .ok (.iconst 5, 1) := by decide +kernel
theorem dL_ends_51 : decode cL_ends 51 = .ok (.invokestatic 50, 3) := by decide +kernel
theorem dL_ends_54 : decode cL_ends 54 = .ok (.istore 5, 2) := by decide +kernel
theorem dL_ends_56 : decode cL_ends 56 = .ok (.iconst 0, 1) := by decide +kernel
theorem dL_ends_57 : decode cL_ends 57 = .ok (.istore 6, 2) := by decide +kernel
theorem dL_ends_59 : decode cL_ends 59 = .ok (.iload 6, 2) := by decide +kernel
theorem dL_ends_61 : decode cL_ends 61 = .ok (.iconst 5, 1) := by decide +kernel
theorem dL_ends_62 : decode cL_ends 62 = .ok (.if_icmp .ge 85, 3) := by decide +kernel
theorem dL_ends_65 : decode cL_ends 65 = .ok (.iload_n 3, 1) := by decide +kernel
theorem dL_ends_66 : decode cL_ends 66 = .ok (.aload_n 1, 1) := by decide +kernel
theorem dL_ends_67 : decode cL_ends 67 = .ok (.aload_n 0, 1) := by decide +kernel
theorem dL_ends_68 : decode cL_ends 68 = .ok (.iload 6, 2) := by decide +kernel
theorem dL_ends_70 : decode cL_ends 70 = .ok (.iconst (-1), 1) := by decide +kernel
theorem dL_ends_71 : decode cL_ends 71 = .ok (.invokevirtual 131, 3) := by decide +kernel
theorem dL_ends_74 : decode cL_ends 74 = .ok (.iadd, 1) := by decide +kernel
theorem dL_ends_75 : decode cL_ends 75 = .ok (.istore_n 3, 1) := by decide +kernel
theorem dL_ends_76 : decode cL_ends 76 = .ok (.aload 4, 2) := by decide +kernel
theorem dL_ends_78 : decode cL_ends 78 = .ok (.iload 6, 2) := by decide +kernel
theorem dL_ends_80 : decode cL_ends 80 = .ok (.aload_n 0, 1) := by decide +kernel
theorem dL_ends_81 : decode cL_ends 81 = .ok (.iload 5, 2) := by decide +kernel
theorem dL_ends_83 : decode cL_ends 83 = .ok (.iload 6, 2) := by decide +kernel
theorem dL_ends_85 : decode cL_ends 85 = .ok (.invokevirtual 166, 3) := by decide +kernel
theorem dL_ends_88 : decode cL_ends 88 = .ok (.aload_n 0, 1) := by decide +kernel
theorem dL_ends_89 : decode cL_ends 89 = .ok (.iload 5, 2) := by decide +kernel
theorem dL_ends_91 : decode cL_ends 91 = .ok (.iload 6, 2) := by decide +kernel
theorem dL_ends_93 : decode cL_ends 93 = .ok (.invokevirtual 154, 3) := by decide +kernel
theorem dL_ends_96 : decode cL_ends 96 = .ok (.ifCond .eq 7, 3) := by decide +kernel
theorem dL_ends_99 : decode cL_ends 99 = .ok (.iconst 1, 1) := by decide +kernel
theorem dL_ends_100 : decode cL_ends 100 = .ok (.goto 4, 3) := by decide +kernel
theorem dL_ends_103 : decode cL_ends 103 = .ok (.iconst 0, 1) := by decide +kernel
theorem dL_ends_104 : decode cL_ends 104 = .ok (.iadd, 1) := by decide +kernel
theorem dL_ends_105 : decode cL_ends 105 = .ok (.iastore, 1) := by decide +kernel
theorem dL_ends_106 : decode cL_ends 106 = .ok (.aload_n 0, 1) := by decide +kernel
theorem dL_ends_107 : decode cL_ends 107 = .ok (.iload 5, 2) := by decide +kernel
theorem dL_ends_109 : decode cL_ends 109 = .ok (.iload 6, 2) := by decide +kernel
theorem dL_ends_111 : decode cL_ends 111 = .ok (.invokevirtual 154, 3) := by decide +kernel
theorem dL_ends_114 : decode cL_ends 114 = .ok (.ifCond .eq 27, 3) := by decide +kernel
theorem dL_ends_117 : decode cL_ends 117 = .ok (.aload_n 0, 1) := by decide +kernel
theorem dL_ends_118 : decode cL_ends 118 = .ok (.iload 5, 2) := by decide +kernel
theorem dL_ends_120 : decode cL_ends 120 = .ok (.iload 6, 2) := by decide +kernel
theorem dL_ends_122 : decode cL_ends 122 = .ok (.iload_n 2, 1) := by decide +kernel
theorem dL_ends_123 : decode cL_ends 123 = .ok (.iconst 4, 1) := by decide +kernel
theorem dL_ends_124 : decode cL_ends 124 = .ok (.iload 6, 2) := by decide +kernel
theorem dL_ends_126 : decode cL_ends 126 = .ok (.iadd, 1) := by decide +kernel
theorem dL_ends_127 : decode cL_ends 127 = .ok (.ishr, 1) := by decide +kernel
theorem dL_ends_128 : decode cL_ends 128 = .ok (.bipush 101, 2) := by decide +kernel
theorem dL_ends_130 : decode cL_ends 130 = .ok (.invokestatic 50, 3) := by decide +kernel
theorem dL_ends_133 : decode cL_ends 133 = .ok (.invokevirtual 175, 3) := by decide +kernel
theorem dL_ends_136 : decode cL_ends 136 = .ok (.ifCond .eq 5, 3) := by decide +kernel
theorem dL_ends_139 : decode cL_ends 139 = .ok (.iconst 0, 1) := by decide +kernel
theorem dL_ends_140 : decode cL_ends 140 = .ok (.ireturn, 1) := by decide +kernel
theorem dL_ends_141 : decode cL_ends 141 = .ok (.iinc 6 1, 3) := by decide +kernel
theorem dL_ends_144 : decode cL_ends 144 = .ok (.goto (-85), 3) := by decide +kernel
theorem dL_ends_147 : decode cL_ends 147 = .ok (.aload_n 0, 1) := by decide +kernel
theorem dL_ends_148 : decode cL_ends 148 = .ok (.invokevirtual 179, 3) := by decide +kernel
theorem dL_ends_151 : decode cL_ends 151 = .ok (.iload_n 3, 1) := by decide +kernel
theorem dL_ends_152 : decode cL_ends 152 = .ok (.if_icmp .ne 14, 3) := by decide +kernel
theorem dL_ends_155 : decode cL_ends 155 = .ok (.aload_n 0, 1) := by decide +kernel
theorem dL_ends_156 : decode cL_ends 156 = .ok (.invokevirtual 157, 3) := by decide +kernel
theorem dL_ends_159 : decode cL_ends 159 = .ok (.ifCond .ne 7, 3) := by decide +kernel
theorem dL_ends_162 : decode cL_ends 162 = .ok (.iconst 1, 1) := by decide +kernel
theorem dL_ends_163 : decode cL_ends 163 = .ok (.goto 4, 3) := by decide +kernel
theorem dL_ends_166 : decode cL_ends 166 = .ok (.iconst 0, 1) := by decide +kernel
theorem dL_ends_167 : decode cL_ends 167 = .ok (.istore 6, 2) := by decide +kernel
theorem dL_ends_169 : decode cL_ends 169 = .ok (.iconst 0, 1) := by decide +kernel
theorem dL_ends_170 : decode cL_ends 170 = .ok (.istore 7, 2) := by decide +kernel
theorem dL_ends_172 : decode cL_ends 172 = .ok (.iload 7, 2) := by decide +kernel
theorem dL_ends_174 : decode cL_ends 174 = .ok (.iconst 5, 1) := by decide +kernel
theorem dL_ends_175 : decode cL_ends 175 = .ok (.if_icmp .ge 48, 3) := by decide +kernel
theorem dL_ends_178 : decode cL_ends 178 = .ok (.iload 6, 2) := by decide +kernel
theorem dL_ends_180 : decode cL_ends 180 = .ok (.ifCond .eq 34, 3) := by decide +kernel
theorem dL_ends_183 : decode cL_ends 183 = .ok (.aload_n 0, 1) := by decide +kernel
theorem dL_ends_184 : decode cL_ends 184 = .ok (.iload 5, 2) := by decide +kernel
theorem dL_ends_186 : decode cL_ends 186 = .ok (.iload 7, 2) := by decide +kernel
theorem dL_ends_188 : decode cL_ends 188 = .ok (.invokevirtual 166, 3) := by decide +kernel
theorem dL_ends_191 : decode cL_ends 191 = .ok (.aload 4, 2) := by decide +kernel
theorem dL_ends_193 : decode cL_ends 193 = .ok (.iload 7, 2) := by decide +kernel
theorem dL_ends_195 : decode cL_ends 195 = .ok (.iaload, 1) := by decide +kernel
theorem dL_ends_196 : decode cL_ends 196 = .ok (.if_icmp .ne 18, 3) := by decide +kernel
theorem dL_ends_199 : decode cL_ends 199 = .ok (.aload_n 0, 1) := by decide +kernel
theorem dL_ends_200 : decode cL_ends 200 = .ok (.iload 5, 2) := by decide +kernel
theorem dL_ends_202 : decode cL_ends 202 = .ok (.iload 7, 2) := by decide +kernel
theorem dL_ends_204 : decode cL_ends 204 = .ok (.invokevirtual 154, 3) := by decide +kernel
theorem dL_ends_207 : decode cL_ends 207 = .ok (.ifCond .ne 7, 3) := by decide +kernel
theorem dL_ends_210 : decode cL_ends 210 = .ok (.iconst 1, 1) := by decide +kernel
theorem dL_ends_211 : decode cL_ends 211 = .ok (.goto 4, 3) := by decide +kernel
theorem dL_ends_214 : decode cL_ends 214 = .ok (.iconst 0, 1) := by decide +kernel
theorem dL_ends_215 : decode cL_ends 215 = .ok (.istore 6, 2) := by decide +kernel
theorem dL_ends_217 : decode cL_ends 217 = .ok (.iinc 7 1, 3) := by decide +kernel
theorem dL_ends_220 : decode cL_ends 220 = .ok (.goto (-48), 3) := by decide +kernel
theorem dL_ends_223 : decode cL_ends 223 = .ok (.iload 6, 2) := by decide +kernel
theorem dL_ends_225 : decode cL_ends 225 = .ok (.ireturn, 1) := by decide +kernel
theorem dL_changes_0 : decode cL_changes 0 = .ok (.iload_n 2, 1) := by decide +kernel
theorem dL_changes_1 : decode cL_changes 1 = .ok (.iconst 3, 1) := by decide +kernel
theorem dL_changes_2 : decode cL_changes 2 = .ok (.ishr, 1) := by decide +kernel
theorem dL_changes_3 : decode cL_changes 3 = .ok (.iconst 5, 1) := by decide +kernel
theorem dL_changes_4 : decode cL_changes 4 = .ok (.invokestatic 50, 3) := by decide +kernel
theorem dL_changes_7 : decode cL_changes 7 = .ok (.istore_n 3, 1) := by decide +kernel
theorem dL_changes_8 : decode cL_changes 8 = .ok (.iload_n 2, 1) := by decide +kernel
theorem dL_changes_9 : decode cL_changes 9 = .ok (.bipush 6, 2) := by decide +kernel
theorem dL_changes_11 : decode cL_changes 11 = .ok (.ishr, 1) := by decide +kernel
theorem dL_changes_12 : decode cL_changes 12 = .ok (.iconst 4, 1) := by decide +kernel
