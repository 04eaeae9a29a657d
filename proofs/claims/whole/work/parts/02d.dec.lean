theorem dX12_whyLong_7 : decode cX12_whyLong 7 = .ok (.invokevirtual 144, 3) := by decide +kernel
theorem dX12_whyLong_10 : decode cX12_whyLong 10 = .ok (.ifCond .ne 5, 3) := by decide +kernel
theorem dX12_whyLong_13 : decode cX12_whyLong 13 = .ok (.iconst 0, 1) := by decide +kernel
theorem dX12_whyLong_14 : decode cX12_whyLong 14 = .ok (.ireturn, 1) := by decide +kernel
theorem dX12_whyLong_15 : decode cX12_whyLong 15 = .ok (.aload_n 0, 1) := by decide +kernel
theorem dX12_whyLong_16 : decode cX12_whyLong 16 = .ok (.iload_n 1, 1) := by decide +kernel
theorem dX12_whyLong_17 : decode cX12_whyLong 17 = .ok (.iload_n 2, 1) := by decide +kernel
theorem dX12_whyLong_18 : decode cX12_whyLong 18 = .ok (.invokevirtual 236, 3) := by decide +kernel
theorem dX12_whyLong_21 : decode cX12_whyLong 21 = .ok (.istore_n 3, 1) := by decide +kernel
theorem dX12_whyLong_22 : decode cX12_whyLong 22 = .ok (.aload_n 0, 1) := by decide +kernel
theorem dX12_whyLong_23 : decode cX12_whyLong 23 = .ok (.getfield 230, 3) := by decide +kernel
theorem dX12_whyLong_26 : decode cX12_whyLong 26 = .ok (.ireturn, 1) := by decide +kernel
theorem dX12_termsUntil_0 : decode cX12_termsUntil 0 = .ok (.aload_n 0, 1) := by decide +kernel
theorem dX12_termsUntil_1 : decode cX12_termsUntil 1 = .ok (.iconst 0, 1) := by decide +kernel
theorem dX12_termsUntil_2 : decode cX12_termsUntil 2 = .ok (.putfield 120, 3) := by decide +kernel
theorem dX12_termsUntil_5 : decode cX12_termsUntil 5 = .ok (.iconst 1, 1) := by decide +kernel
theorem dX12_termsUntil_6 : decode cX12_termsUntil 6 = .ok (.istore_n 2, 1) := by decide +kernel
theorem dX12_termsUntil_7 : decode cX12_termsUntil 7 = .ok (.iload_n 2, 1) := by decide +kernel
theorem dX12_termsUntil_8 : decode cX12_termsUntil 8 = .ok (.aload_n 0, 1) := by decide +kernel
theorem dX12_termsUntil_9 : decode cX12_termsUntil 9 = .ok (.getfield 93, 3) := by decide +kernel
theorem dX12_termsUntil_12 : decode cX12_termsUntil 12 = .ok (.if_icmp .gt 85, 3) := by decide +kernel
theorem dX12_termsUntil_15 : decode cX12_termsUntil 15 = .ok (.iconst 0, 1) := by decide +kernel
theorem dX12_termsUntil_16 : decode cX12_termsUntil 16 = .ok (.istore_n 3, 1) := by decide +kernel
theorem dX12_termsUntil_17 : decode cX12_termsUntil 17 = .ok (.iconst 0, 1) := by decide +kernel
theorem dX12_termsUntil_18 : decode cX12_termsUntil 18 = .ok (.istore 4, 2) := by decide +kernel
theorem dX12_termsUntil_20 : decode cX12_termsUntil 20 = .ok (.iload 4, 2) := by decide +kernel
theorem dX12_termsUntil_22 : decode cX12_termsUntil 22 = .ok (.aload_n 0, 1) := by decide +kernel
theorem dX12_termsUntil_23 : decode cX12_termsUntil 23 = .ok (.getfield 93, 3) := by decide +kernel
theorem dX12_termsUntil_26 : decode cX12_termsUntil 26 = .ok (.if_icmp .ge 42, 3) := by decide +kernel
theorem dX12_termsUntil_29 : decode cX12_termsUntil 29 = .ok (.iload_n 3, 1) := by decide +kernel
theorem dX12_termsUntil_30 : decode cX12_termsUntil 30 = .ok (.aload_n 0, 1) := by decide +kernel
theorem dX12_termsUntil_31 : decode cX12_termsUntil 31 = .ok (.getfield 120, 3) := by decide +kernel
theorem dX12_termsUntil_34 : decode cX12_termsUntil 34 = .ok (.iload 4, 2) := by decide +kernel
theorem dX12_termsUntil_36 : decode cX12_termsUntil 36 = .ok (.invokestatic 106, 3) := by decide +kernel
theorem dX12_termsUntil_39 : decode cX12_termsUntil 39 = .ok (.ifCond .ne 20, 3) := by decide +kernel
theorem dX12_termsUntil_42 : decode cX12_termsUntil 42 = .ok (.aload_n 0, 1) := by decide +kernel
theorem dX12_termsUntil_43 : decode cX12_termsUntil 43 = .ok (.iconst (-1), 1) := by decide +kernel
theorem dX12_termsUntil_44 : decode cX12_termsUntil 44 = .ok (.iload 4, 2) := by decide +kernel
theorem dX12_termsUntil_46 : decode cX12_termsUntil 46 = .ok (.invokevirtual 176, 3) := by decide +kernel
theorem dX12_termsUntil_49 : decode cX12_termsUntil 49 = .ok (.ifCond .eq 10, 3) := by decide +kernel
theorem dX12_termsUntil_52 : decode cX12_termsUntil 52 = .ok (.iconst 1, 1) := by decide +kernel
theorem dX12_termsUntil_53 : decode cX12_termsUntil 53 = .ok (.iload 4, 2) := by decide +kernel
theorem dX12_termsUntil_55 : decode cX12_termsUntil 55 = .ok (.ishl, 1) := by decide +kernel
theorem dX12_termsUntil_56 : decode cX12_termsUntil 56 = .ok (.goto 4, 3) := by decide +kernel
theorem dX12_termsUntil_59 : decode cX12_termsUntil 59 = .ok (.iconst 0, 1) := by decide +kernel
theorem dX12_termsUntil_60 : decode cX12_termsUntil 60 = .ok (.ior, 1) := by decide +kernel
theorem dX12_termsUntil_61 : decode cX12_termsUntil 61 = .ok (.istore_n 3, 1) := by decide +kernel
theorem dX12_termsUntil_62 : decode cX12_termsUntil 62 = .ok (.iinc 4 1, 3) := by decide +kernel
theorem dX12_termsUntil_65 : decode cX12_termsUntil 65 = .ok (.goto (-45), 3) := by decide +kernel
theorem dX12_termsUntil_68 : decode cX12_termsUntil 68 = .ok (.aload_n 0, 1) := by decide +kernel
theorem dX12_termsUntil_69 : decode cX12_termsUntil 69 = .ok (.dup, 1) := by decide +kernel
theorem dX12_termsUntil_70 : decode cX12_termsUntil 70 = .ok (.getfield 120, 3) := by decide +kernel
theorem dX12_termsUntil_73 : decode cX12_termsUntil 73 = .ok (.iload_n 3, 1) := by decide +kernel
theorem dX12_termsUntil_74 : decode cX12_termsUntil 74 = .ok (.ior, 1) := by decide +kernel
theorem dX12_termsUntil_75 : decode cX12_termsUntil 75 = .ok (.putfield 120, 3) := by decide +kernel
theorem dX12_termsUntil_78 : decode cX12_termsUntil 78 = .ok (.aload_n 0, 1) := by decide +kernel
theorem dX12_termsUntil_79 : decode cX12_termsUntil 79 = .ok (.getfield 120, 3) := by decide +kernel
theorem dX12_termsUntil_82 : decode cX12_termsUntil 82 = .ok (.iload_n 1, 1) := by decide +kernel
theorem dX12_termsUntil_83 : decode cX12_termsUntil 83 = .ok (.invokestatic 106, 3) := by decide +kernel
theorem dX12_termsUntil_86 : decode cX12_termsUntil 86 = .ok (.ifCond .eq 5, 3) := by decide +kernel
theorem dX12_termsUntil_89 : decode cX12_termsUntil 89 = .ok (.iload_n 2, 1) := by decide +kernel
theorem dX12_termsUntil_90 : decode cX12_termsUntil 90 = .ok (.ireturn, 1) := by decide +kernel
theorem dX12_termsUntil_91 : decode cX12_termsUntil 91 = .ok (.iinc 2 1, 3) := by decide +kernel
theorem dX12_termsUntil_94 : decode cX12_termsUntil 94 = .ok (.goto (-87), 3) := by decide +kernel
theorem dX12_termsUntil_97 : decode cX12_termsUntil 97 = .ok (.iconst (-1), 1) := by decide +kernel
theorem dX12_termsUntil_98 : decode cX12_termsUntil 98 = .ok (.ireturn, 1) := by decide +kernel
theorem dX12_termsTo_0 : decode cX12_termsTo 0 = .ok (.aload_n 0, 1) := by decide +kernel
theorem dX12_termsTo_1 : decode cX12_termsTo 1 = .ok (.iload_n 1, 1) := by decide +kernel
theorem dX12_termsTo_2 : decode cX12_termsTo 2 = .ok (.invokevirtual 151, 3) := by decide +kernel
theorem dX12_termsTo_5 : decode cX12_termsTo 5 = .ok (.ifCond .eq 11, 3) := by decide +kernel
theorem dX12_termsTo_8 : decode cX12_termsTo 8 = .ok (.aload_n 0, 1) := by decide +kernel
theorem dX12_termsTo_9 : decode cX12_termsTo 9 = .ok (.iload_n 1, 1) := by decide +kernel
theorem dX12_termsTo_10 : decode cX12_termsTo 10 = .ok (.invokevirtual 239, 3) := by decide +kernel
theorem dX12_termsTo_13 : decode cX12_termsTo 13 = .ok (.goto 4, 3) := by decide +kernel
theorem dX12_termsTo_16 : decode cX12_termsTo 16 = .ok (.iconst 0, 1) := by decide +kernel
theorem dX12_termsTo_17 : decode cX12_termsTo 17 = .ok (.istore_n 2, 1) := by decide +kernel
theorem dX12_termsTo_18 : decode cX12_termsTo 18 = .ok (.aload_n 0, 1) := by decide +kernel
theorem dX12_termsTo_19 : decode cX12_termsTo 19 = .ok (.aload_n 0, 1) := by decide +kernel
theorem dX12_termsTo_20 : decode cX12_termsTo 20 = .ok (.iload_n 1, 1) := by decide +kernel
theorem dX12_termsTo_21 : decode cX12_termsTo 21 = .ok (.invokevirtual 151, 3) := by decide +kernel
theorem dX12_termsTo_24 : decode cX12_termsTo 24 = .ok (.ifCond .ne 7, 3) := by decide +kernel
theorem dX12_termsTo_27 : decode cX12_termsTo 27 = .ok (.iconst 1, 1) := by decide +kernel
theorem dX12_termsTo_28 : decode cX12_termsTo 28 = .ok (.goto 13, 3) := by decide +kernel
theorem dX12_termsTo_31 : decode cX12_termsTo 31 = .ok (.iload_n 2, 1) := by decide +kernel
theorem dX12_termsTo_32 : decode cX12_termsTo 32 = .ok (.iconst (-1), 1) := by decide +kernel
theorem dX12_termsTo_33 : decode cX12_termsTo 33 = .ok (.if_icmp .ne 7, 3) := by decide +kernel
theorem dX12_termsTo_36 : decode cX12_termsTo 36 = .ok (.iconst 2, 1) := by decide +kernel
theorem dX12_termsTo_37 : decode cX12_termsTo 37 = .ok (.goto 4, 3) := by decide +kernel
theorem dX12_termsTo_40 : decode cX12_termsTo 40 = .ok (.iconst 0, 1) := by decide +kernel
theorem dX12_termsTo_41 : decode cX12_termsTo 41 = .ok (.invokevirtual 144, 3) := by decide +kernel
theorem dX12_termsTo_44 : decode cX12_termsTo 44 = .ok (.ifCond .eq 7, 3) := by decide +kernel
theorem dX12_termsTo_47 : decode cX12_termsTo 47 = .ok (.iload_n 2, 1) := by decide +kernel
theorem dX12_termsTo_48 : decode cX12_termsTo 48 = .ok (.goto 4, 3) := by decide +kernel
theorem dX12_termsTo_51 : decode cX12_termsTo 51 = .ok (.iconst 0, 1) := by decide +kernel
theorem dX12_termsTo_52 : decode cX12_termsTo 52 = .ok (.ireturn, 1) := by decide +kernel
theorem dX12_writes_0 : decode cX12_writes 0 = .ok (.aload_n 0, 1) := by decide +kernel
theorem dX12_writes_1 : decode cX12_writes 1 = .ok (.getfield 76, 3) := by decide +kernel
theorem dX12_writes_4 : decode cX12_writes 4 = .ok (.aload_n 0, 1) := by decide +kernel
theorem dX12_writes_5 : decode cX12_writes 5 = .ok (.getfield 242, 3) := by decide +kernel
theorem dX12_writes_8 : decode cX12_writes 8 = .ok (.iload_n 1, 1) := by decide +kernel
theorem dX12_writes_9 : decode cX12_writes 9 = .ok (.iastore, 1) := by decide +kernel
theorem dX12_writes_10 : decode cX12_writes 10 = .ok (.aload_n 0, 1) := by decide +kernel
theorem dX12_writes_11 : decode cX12_writes 11 = .ok (.dup, 1) := by decide +kernel
theorem dX12_writes_12 : decode cX12_writes 12 = .ok (.getfield 242, 3) := by decide +kernel
theorem dX12_writes_15 : decode cX12_writes 15 = .ok (.iconst 1, 1) := by decide +kernel
theorem dX12_writes_16 : decode cX12_writes 16 = .ok (.iadd, 1) := by decide +kernel
theorem dX12_writes_17 : decode cX12_writes 17 = .ok (.putfield 242, 3) := by decide +kernel
theorem dX12_writes_20 : decode cX12_writes 20 = .ok (.return_, 1) := by decide +kernel
theorem dX12_writesNumber_0 : decode cX12_writesNumber 0 = .ok (.iload_n 1, 1) := by decide +kernel
theorem dX12_writesNumber_1 : decode cX12_writesNumber 1 = .ok (.bipush 99, 2) := by decide +kernel
theorem dX12_writesNumber_3 : decode cX12_writesNumber 3 = .ok (.if_icmp .le 14, 3) := by decide +kernel
theorem dX12_writesNumber_6 : decode cX12_writesNumber 6 = .ok (.aload_n 0, 1) := by decide +kernel
theorem dX12_writesNumber_7 : decode cX12_writesNumber 7 = .ok (.bipush 48, 2) := by decide +kernel
theorem dX12_writesNumber_9 : decode cX12_writesNumber 9 = .ok (.iload_n 1, 1) := by decide +kernel
theorem dX12_writesNumber_10 : decode cX12_writesNumber 10 = .ok (.bipush 100, 2) := by decide +kernel
theorem dX12_writesNumber_12 : decode cX12_writesNumber 12 = .ok (.idiv, 1) := by decide +kernel
theorem dX12_writesNumber_13 : decode cX12_writesNumber 13 = .ok (.iadd, 1) := by decide +kernel
theorem dX12_writesNumber_14 : decode cX12_writesNumber 14 = .ok (.invokevirtual 245, 3) := by decide +kernel
theorem dX12_writesNumber_17 : decode cX12_writesNumber 17 = .ok (.iload_n 1, 1) := by decide +kernel
theorem dX12_writesNumber_18 : decode cX12_writesNumber 18 = .ok (.bipush 9, 2) := by decide +kernel
theorem dX12_writesNumber_20 : decode cX12_writesNumber 20 = .ok (.if_icmp .le 17, 3) := by decide +kernel
theorem dX12_writesNumber_23 : decode cX12_writesNumber 23 = .ok (.aload_n 0, 1) := by decide +kernel
theorem dX12_writesNumber_24 : decode cX12_writesNumber 24 = .ok (.bipush 48, 2) := by decide +kernel
theorem dX12_writesNumber_26 : decode cX12_writesNumber 26 = .ok (.iload_n 1, 1) := by decide +kernel
theorem dX12_writesNumber_27 : decode cX12_writesNumber 27 = .ok (.bipush 10, 2) := by decide +kernel
theorem dX12_writesNumber_29 : decode cX12_writesNumber 29 = .ok (.idiv, 1) := by decide +kernel
theorem dX12_writesNumber_30 : decode cX12_writesNumber 30 = .ok (.bipush 10, 2) := by decide +kernel
theorem dX12_writesNumber_32 : decode cX12_writesNumber 32 = .ok (.irem, 1) := by decide +kernel
theorem dX12_writesNumber_33 : decode cX12_writesNumber 33 = .ok (.iadd, 1) := by decide +kernel
theorem dX12_writesNumber_34 : decode cX12_writesNumber 34 = .ok (.invokevirtual 245, 3) := by decide +kernel
theorem dX12_writesNumber_37 : decode cX12_writesNumber 37 = .ok (.aload_n 0, 1) := by decide +kernel
theorem dX12_writesNumber_38 : decode cX12_writesNumber 38 = .ok (.bipush 48, 2) := by decide +kernel
theorem dX12_writesNumber_40 : decode cX12_writesNumber 40 = .ok (.iload_n 1, 1) := by decide +kernel
theorem dX12_writesNumber_41 : decode cX12_writesNumber 41 = .ok (.bipush 10, 2) := by decide +kernel
theorem dX12_writesNumber_43 : decode cX12_writesNumber 43 = .ok (.irem, 1) := by decide +kernel
theorem dX12_writesNumber_44 : decode cX12_writesNumber 44 = .ok (.iadd, 1) := by decide +kernel
theorem dX12_writesNumber_45 : decode cX12_writesNumber 45 = .ok (.invokevirtual 245, 3) := by decide +kernel
theorem dX12_writesNumber_48 : decode cX12_writesNumber 48 = .ok (.return_, 1) := by decide +kernel
theorem dX12_writesCourse_0 : decode cX12_writesCourse 0 = .ok (.aload_n 0, 1) := by decide +kernel
theorem dX12_writesCourse_1 : decode cX12_writesCourse 1 = .ok (.iload_n 2, 1) := by decide +kernel
theorem dX12_writesCourse_2 : decode cX12_writesCourse 2 = .ok (.invokevirtual 249, 3) := by decide +kernel
theorem dX12_writesCourse_5 : decode cX12_writesCourse 5 = .ok (.aload_n 0, 1) := by decide +kernel
theorem dX12_writesCourse_6 : decode cX12_writesCourse 6 = .ok (.bipush 61, 2) := by decide +kernel
theorem dX12_writesCourse_8 : decode cX12_writesCourse 8 = .ok (.invokevirtual 245, 3) := by decide +kernel
theorem dX12_writesCourse_11 : decode cX12_writesCourse 11 = .ok (.aload_n 0, 1) := by decide +kernel
theorem dX12_writesCourse_12 : decode cX12_writesCourse 12 = .ok (.getfield 34, 3) := by decide +kernel
theorem dX12_writesCourse_15 : decode cX12_writesCourse 15 = .ok (.iload_n 1, 1) := by decide +kernel
theorem dX12_writesCourse_16 : decode cX12_writesCourse 16 = .ok (.iaload, 1) := by decide +kernel
theorem dX12_writesCourse_17 : decode cX12_writesCourse 17 = .ok (.iload_n 2, 1) := by decide +kernel
theorem dX12_writesCourse_18 : decode cX12_writesCourse 18 = .ok (.invokestatic 106, 3) := by decide +kernel
theorem dX12_writesCourse_21 : decode cX12_writesCourse 21 = .ok (.ifCond .ne 7, 3) := by decide +kernel
theorem dX12_writesCourse_24 : decode cX12_writesCourse 24 = .ok (.iconst 1, 1) := by decide +kernel
theorem dX12_writesCourse_25 : decode cX12_writesCourse 25 = .ok (.goto 4, 3) := by decide +kernel
theorem dX12_writesCourse_28 : decode cX12_writesCourse 28 = .ok (.iconst 0, 1) := by decide +kernel
theorem dX12_writesCourse_29 : decode cX12_writesCourse 29 = .ok (.istore_n 3, 1) := by decide +kernel
theorem dX12_writesCourse_30 : decode cX12_writesCourse 30 = .ok (.iload_n 3, 1) := by decide +kernel
theorem dX12_writesCourse_31 : decode cX12_writesCourse 31 = .ok (.ifCond .ne 9, 3) := by decide +kernel
theorem dX12_writesCourse_34 : decode cX12_writesCourse 34 = .ok (.aload_n 0, 1) := by decide +kernel
theorem dX12_writesCourse_35 : decode cX12_writesCourse 35 = .ok (.bipush 84, 2) := by decide +kernel
theorem dX12_writesCourse_37 : decode cX12_writesCourse 37 = .ok (.invokevirtual 245, 3) := by decide +kernel
theorem dX12_writesCourse_40 : decode cX12_writesCourse 40 = .ok (.iconst 0, 1) := by decide +kernel
theorem dX12_writesCourse_41 : decode cX12_writesCourse 41 = .ok (.istore 4, 2) := by decide +kernel
theorem dX12_writesCourse_43 : decode cX12_writesCourse 43 = .ok (.iload 4, 2) := by decide +kernel
theorem dX12_writesCourse_45 : decode cX12_writesCourse 45 = .ok (.aload_n 0, 1) := by decide +kernel
theorem dX12_writesCourse_46 : decode cX12_writesCourse 46 = .ok (.getfield 40, 3) := by decide +kernel
theorem dX12_writesCourse_49 : decode cX12_writesCourse 49 = .ok (.iload_n 1, 1) := by decide +kernel
theorem dX12_writesCourse_50 : decode cX12_writesCourse 50 = .ok (.iload_n 2, 1) := by decide +kernel
theorem dX12_writesCourse_51 : decode cX12_writesCourse 51 = .ok (.invokestatic 110, 3) := by decide +kernel
theorem dX12_writesCourse_54 : decode cX12_writesCourse 54 = .ok (.iaload, 1) := by decide +kernel
theorem dX12_writesCourse_55 : decode cX12_writesCourse 55 = .ok (.if_icmp .ge 59, 3) := by decide +kernel
theorem dX12_writesCourse_58 : decode cX12_writesCourse 58 = .ok (.iload_n 3, 1) := by decide +kernel
theorem dX12_writesCourse_59 : decode cX12_writesCourse 59 = .ok (.ifCond .ne 9, 3) := by decide +kernel
theorem dX12_writesCourse_62 : decode cX12_writesCourse 62 = .ok (.aload_n 0, 1) := by decide +kernel
theorem dX12_writesCourse_63 : decode cX12_writesCourse 63 = .ok (.bipush 44, 2) := by decide +kernel
theorem dX12_writesCourse_65 : decode cX12_writesCourse 65 = .ok (.invokevirtual 245, 3) := by decide +kernel
theorem dX12_writesCourse_68 : decode cX12_writesCourse 68 = .ok (.iconst 0, 1) := by decide +kernel
theorem dX12_writesCourse_69 : decode cX12_writesCourse 69 = .ok (.istore_n 3, 1) := by decide +kernel
theorem dX12_writesCourse_70 : decode cX12_writesCourse 70 = .ok (.aload_n 0, 1) := by decide +kernel
theorem dX12_writesCourse_71 : decode cX12_writesCourse 71 = .ok (.getfield 43, 3) := by decide +kernel
theorem dX12_writesCourse_74 : decode cX12_writesCourse 74 = .ok (.iconst 3, 1) := by decide +kernel
theorem dX12_writesCourse_75 : decode cX12_writesCourse 75 = .ok (.iload_n 1, 1) := by decide +kernel
theorem dX12_writesCourse_76 : decode cX12_writesCourse 76 = .ok (.iload_n 2, 1) := by decide +kernel
theorem dX12_writesCourse_77 : decode cX12_writesCourse 77 = .ok (.invokestatic 110, 3) := by decide +kernel
theorem dX12_writesCourse_80 : decode cX12_writesCourse 80 = .ok (.imul, 1) := by decide +kernel
theorem dX12_writesCourse_81 : decode cX12_writesCourse 81 = .ok (.iload 4, 2) := by decide +kernel
theorem dX12_writesCourse_83 : decode cX12_writesCourse 83 = .ok (.iadd, 1) := by decide +kernel
theorem dX12_writesCourse_84 : decode cX12_writesCourse 84 = .ok (.iaload, 1) := by decide +kernel
theorem dX12_writesCourse_85 : decode cX12_writesCourse 85 = .ok (.istore 5, 2) := by decide +kernel
theorem dX12_writesCourse_87 : decode cX12_writesCourse 87 = .ok (.iload 5, 2) := by decide +kernel
theorem dX12_writesCourse_89 : decode cX12_writesCourse 89 = .ok (.iconst (-1), 1) := by decide +kernel
theorem dX12_writesCourse_90 : decode cX12_writesCourse 90 = .ok (.if_icmp .ne 12, 3) := by decide +kernel
theorem dX12_writesCourse_93 : decode cX12_writesCourse 93 = .ok (.aload_n 0, 1) := by decide +kernel
theorem dX12_writesCourse_94 : decode cX12_writesCourse 94 = .ok (.bipush 87, 2) := by decide +kernel
theorem dX12_writesCourse_96 : decode cX12_writesCourse 96 = .ok (.invokevirtual 245, 3) := by decide +kernel
theorem dX12_writesCourse_99 : decode cX12_writesCourse 99 = .ok (.goto 9, 3) := by decide +kernel
theorem dX12_writesCourse_102 : decode cX12_writesCourse 102 = .ok (.aload_n 0, 1) := by decide +kernel
theorem dX12_writesCourse_103 : decode cX12_writesCourse 103 = .ok (.iload 5, 2) := by decide +kernel
theorem dX12_writesCourse_105 : decode cX12_writesCourse 105 = .ok (.invokevirtual 249, 3) := by decide +kernel
theorem dX12_writesCourse_108 : decode cX12_writesCourse 108 = .ok (.iinc 4 1, 3) := by decide +kernel
theorem dX12_writesCourse_111 : decode cX12_writesCourse 111 = .ok (.goto (-68), 3) := by decide +kernel
theorem dX12_writesCourse_114 : decode cX12_writesCourse 114 = .ok (.aload_n 0, 1) := by decide +kernel
theorem dX12_writesCourse_115 : decode cX12_writesCourse 115 = .ok (.bipush 59, 2) := by decide +kernel
theorem dX12_writesCourse_117 : decode cX12_writesCourse 117 = .ok (.invokevirtual 245, 3) := by decide +kernel
theorem dX12_writesCourse_120 : decode cX12_writesCourse 120 = .ok (.return_, 1) := by decide +kernel
theorem dX12_writesAll_0 : decode cX12_writesAll 0 = .ok (.aload_n 0, 1) := by decide +kernel
theorem dX12_writesAll_1 : decode cX12_writesAll 1 = .ok (.iconst 0, 1) := by decide +kernel
theorem dX12_writesAll_2 : decode cX12_writesAll 2 = .ok (.putfield 242, 3) := by decide +kernel
theorem dX12_writesAll_5 : decode cX12_writesAll 5 = .ok (.iconst 0, 1) := by decide +kernel
theorem dX12_writesAll_6 : decode cX12_writesAll 6 = .ok (.istore_n 2, 1) := by decide +kernel
theorem dX12_writesAll_7 : decode cX12_writesAll 7 = .ok (.iload_n 2, 1) := by decide +kernel
theorem dX12_writesAll_8 : decode cX12_writesAll 8 = .ok (.aload_n 0, 1) := by decide +kernel
theorem dX12_writesAll_9 : decode cX12_writesAll 9 = .ok (.getfield 93, 3) := by decide +kernel
theorem dX12_writesAll_12 : decode cX12_writesAll 12 = .ok (.if_icmp .ge 41, 3) := by decide +kernel
theorem dX12_writesAll_15 : decode cX12_writesAll 15 = .ok (.aload_n 0, 1) := by decide +kernel
theorem dX12_writesAll_16 : decode cX12_writesAll 16 = .ok (.getfield 34, 3) := by decide +kernel
theorem dX12_writesAll_19 : decode cX12_writesAll 19 = .ok (.iload_n 1, 1) := by decide +kernel
theorem dX12_writesAll_20 : decode cX12_writesAll 20 = .ok (.iaload, 1) := by decide +kernel
theorem dX12_writesAll_21 : decode cX12_writesAll 21 = .ok (.iload_n 2, 1) := by decide +kernel
theorem dX12_writesAll_22 : decode cX12_writesAll 22 = .ok (.invokestatic 106, 3) := by decide +kernel
theorem dX12_writesAll_25 : decode cX12_writesAll 25 = .ok (.ifCond .ne 16, 3) := by decide +kernel
theorem dX12_writesAll_28 : decode cX12_writesAll 28 = .ok (.aload_n 0, 1) := by decide +kernel
theorem dX12_writesAll_29 : decode cX12_writesAll 29 = .ok (.getfield 40, 3) := by decide +kernel
theorem dX12_writesAll_32 : decode cX12_writesAll 32 = .ok (.iload_n 1, 1) := by decide +kernel
theorem dX12_writesAll_33 : decode cX12_writesAll 33 = .ok (.iload_n 2, 1) := by decide +kernel
theorem dX12_writesAll_34 : decode cX12_writesAll 34 = .ok (.invokestatic 110, 3) := by decide +kernel
theorem dX12_writesAll_37 : decode cX12_writesAll 37 = .ok (.iaload, 1) := by decide +kernel
theorem dX12_writesAll_38 : decode cX12_writesAll 38 = .ok (.ifCond .le 9, 3) := by decide +kernel
theorem dX12_writesAll_41 : decode cX12_writesAll 41 = .ok (.aload_n 0, 1) := by decide +kernel
theorem dX12_writesAll_42 : decode cX12_writesAll 42 = .ok (.iload_n 1, 1) := by decide +kernel
theorem dX12_writesAll_43 : decode cX12_writesAll 43 = .ok (.iload_n 2, 1) := by decide +kernel
theorem dX12_writesAll_44 : decode cX12_writesAll 44 = .ok (.invokevirtual 252, 3) := by decide +kernel
theorem dX12_writesAll_47 : decode cX12_writesAll 47 = .ok (.iinc 2 1, 3) := by decide +kernel
theorem dX12_writesAll_50 : decode cX12_writesAll 50 = .ok (.goto (-43), 3) := by decide +kernel
theorem dX12_writesAll_53 : decode cX12_writesAll 53 = .ok (.return_, 1) := by decide +kernel
theorem dX12_transcriptLength_0 : decode cX12_transcriptLength 0 = .ok (.aload_n 0, 1) := by decide +kernel
theorem dX12_transcriptLength_1 : decode cX12_transcriptLength 1 = .ok (.aload_n 0, 1) := by decide +kernel
theorem dX12_transcriptLength_2 : decode cX12_transcriptLength 2 = .ok (.iload_n 1, 1) := by decide +kernel
theorem dX12_transcriptLength_3 : decode cX12_transcriptLength 3 = .ok (.invokevirtual 158, 3) := by decide +kernel
theorem dX12_transcriptLength_6 : decode cX12_transcriptLength 6 = .ok (.ifCond .eq 7, 3) := by decide +kernel
theorem dX12_transcriptLength_9 : decode cX12_transcriptLength 9 = .ok (.iconst 0, 1) := by decide +kernel
theorem dX12_transcriptLength_10 : decode cX12_transcriptLength 10 = .ok (.goto 4, 3) := by decide +kernel
theorem dX12_transcriptLength_13 : decode cX12_transcriptLength 13 = .ok (.iconst 1, 1) := by decide +kernel
theorem dX12_transcriptLength_14 : decode cX12_transcriptLength 14 = .ok (.invokevirtual 144, 3) := by decide +kernel
theorem dX12_transcriptLength_17 : decode cX12_transcriptLength 17 = .ok (.ifCond .ne 5, 3) := by decide +kernel
theorem dX12_transcriptLength_20 : decode cX12_transcriptLength 20 = .ok (.iconst 0, 1) := by decide +kernel
theorem dX12_transcriptLength_21 : decode cX12_transcriptLength 21 = .ok (.ireturn, 1) := by decide +kernel
theorem dX12_transcriptLength_22 : decode cX12_transcriptLength 22 = .ok (.aload_n 0, 1) := by decide +kernel
theorem dX12_transcriptLength_23 : decode cX12_transcriptLength 23 = .ok (.iload_n 1, 1) := by decide +kernel
theorem dX12_transcriptLength_24 : decode cX12_transcriptLength 24 = .ok (.invokevirtual 255, 3) := by decide +kernel
theorem dX12_transcriptLength_27 : decode cX12_transcriptLength 27 = .ok (.aload_n 0, 1) := by decide +kernel
theorem dX12_transcriptLength_28 : decode cX12_transcriptLength 28 = .ok (.getfield 242, 3) := by decide +kernel
theorem dX12_transcriptLength_31 : decode cX12_transcriptLength 31 = .ok (.ireturn, 1) := by decide +kernel
theorem dX12_transcriptAt_0 : decode cX12_transcriptAt 0 = .ok (.aload_n 0, 1) := by decide +kernel
theorem dX12_transcriptAt_1 : decode cX12_transcriptAt 1 = .ok (.iconst 0, 1) := by decide +kernel
theorem dX12_transcriptAt_2 : decode cX12_transcriptAt 2 = .ok (.putfield 242, 3) := by decide +kernel
theorem dX12_transcriptAt_5 : decode cX12_transcriptAt 5 = .ok (.aload_n 0, 1) := by decide +kernel
theorem dX12_transcriptAt_6 : decode cX12_transcriptAt 6 = .ok (.iload_n 1, 1) := by decide +kernel
theorem dX12_transcriptAt_7 : decode cX12_transcriptAt 7 = .ok (.invokevirtual 158, 3) := by decide +kernel
theorem dX12_transcriptAt_10 : decode cX12_transcriptAt 10 = .ok (.ifCond .eq 8, 3) := by decide +kernel
theorem dX12_transcriptAt_13 : decode cX12_transcriptAt 13 = .ok (.aload_n 0, 1) := by decide +kernel
theorem dX12_transcriptAt_14 : decode cX12_transcriptAt 14 = .ok (.iload_n 1, 1) := by decide +kernel
theorem dX12_transcriptAt_15 : decode cX12_transcriptAt 15 = .ok (.invokevirtual 255, 3) := by decide +kernel
theorem dX12_transcriptAt_18 : decode cX12_transcriptAt 18 = .ok (.aload_n 0, 1) := by decide +kernel
theorem dX12_transcriptAt_19 : decode cX12_transcriptAt 19 = .ok (.iload_n 2, 1) := by decide +kernel
theorem dX12_transcriptAt_20 : decode cX12_transcriptAt 20 = .ok (.iconst 0, 1) := by decide +kernel
theorem dX12_transcriptAt_21 : decode cX12_transcriptAt 21 = .ok (.aload_n 0, 1) := by decide +kernel
theorem dX12_transcriptAt_22 : decode cX12_transcriptAt 22 = .ok (.getfield 242, 3) := by decide +kernel
theorem dX12_transcriptAt_25 : decode cX12_transcriptAt 25 = .ok (.iconst 1, 1) := by decide +kernel
theorem dX12_transcriptAt_26 : decode cX12_transcriptAt 26 = .ok (.isub, 1) := by decide +kernel
theorem dX12_transcriptAt_27 : decode cX12_transcriptAt 27 = .ok (.invokestatic 96, 3) := by decide +kernel
theorem dX12_transcriptAt_30 : decode cX12_transcriptAt 30 = .ok (.ifCond .eq 7, 3) := by decide +kernel
theorem dX12_transcriptAt_33 : decode cX12_transcriptAt 33 = .ok (.iconst 0, 1) := by decide +kernel
theorem dX12_transcriptAt_34 : decode cX12_transcriptAt 34 = .ok (.goto 4, 3) := by decide +kernel
theorem dX12_transcriptAt_37 : decode cX12_transcriptAt 37 = .ok (.iconst 1, 1) := by decide +kernel
theorem dX12_transcriptAt_38 : decode cX12_transcriptAt 38 = .ok (.invokevirtual 144, 3) := by decide +kernel
theorem dX12_transcriptAt_41 : decode cX12_transcriptAt 41 = .ok (.ifCond .eq 13, 3) := by decide +kernel
theorem dX12_transcriptAt_44 : decode cX12_transcriptAt 44 = .ok (.aload_n 0, 1) := by decide +kernel
theorem dX12_transcriptAt_45 : decode cX12_transcriptAt 45 = .ok (.getfield 76, 3) := by decide +kernel
theorem dX12_transcriptAt_48 : decode cX12_transcriptAt 48 = .ok (.iload_n 2, 1) := by decide +kernel
theorem dX12_transcriptAt_49 : decode cX12_transcriptAt 49 = .ok (.iaload, 1) := by decide +kernel
theorem dX12_transcriptAt_50 : decode cX12_transcriptAt 50 = .ok (.i2c, 1) := by decide +kernel
theorem dX12_transcriptAt_51 : decode cX12_transcriptAt 51 = .ok (.goto 4, 3) := by decide +kernel
theorem dX12_transcriptAt_54 : decode cX12_transcriptAt 54 = .ok (.iconst 0, 1) := by decide +kernel
theorem dX12_transcriptAt_55 : decode cX12_transcriptAt 55 = .ok (.ireturn, 1) := by decide +kernel
theorem dX12_rulesOf_0 : decode cX12_rulesOf 0 = .ok (.iconst 0, 1) := by decide +kernel
theorem dX12_rulesOf_1 : decode cX12_rulesOf 1 = .ok (.istore_n 2, 1) := by decide +kernel
theorem dX12_rulesOf_2 : decode cX12_rulesOf 2 = .ok (.iconst 0, 1) := by decide +kernel
theorem dX12_rulesOf_3 : decode cX12_rulesOf 3 = .ok (.istore_n 3, 1) := by decide +kernel
theorem dX12_rulesOf_4 : decode cX12_rulesOf 4 = .ok (.iload_n 3, 1) := by decide +kernel
theorem dX12_rulesOf_5 : decode cX12_rulesOf 5 = .ok (.aload_n 0, 1) := by decide +kernel
theorem dX12_rulesOf_6 : decode cX12_rulesOf 6 = .ok (.getfield 258, 3) := by decide +kernel
theorem dX12_rulesOf_9 : decode cX12_rulesOf 9 = .ok (.if_icmp .ge 27, 3) := by decide +kernel
theorem dX12_rulesOf_12 : decode cX12_rulesOf 12 = .ok (.iload_n 2, 1) := by decide +kernel
theorem dX12_rulesOf_13 : decode cX12_rulesOf 13 = .ok (.aload_n 0, 1) := by decide +kernel
theorem dX12_rulesOf_14 : decode cX12_rulesOf 14 = .ok (.getfield 61, 3) := by decide +kernel
theorem dX12_rulesOf_17 : decode cX12_rulesOf 17 = .ok (.iload_n 3, 1) := by decide +kernel
theorem dX12_rulesOf_18 : decode cX12_rulesOf 18 = .ok (.iaload, 1) := by decide +kernel
theorem dX12_rulesOf_19 : decode cX12_rulesOf 19 = .ok (.iload_n 1, 1) := by decide +kernel
theorem dX12_rulesOf_20 : decode cX12_rulesOf 20 = .ok (.if_icmp .ne 7, 3) := by decide +kernel
theorem dX12_rulesOf_23 : decode cX12_rulesOf 23 = .ok (.iconst 1, 1) := by decide +kernel
theorem dX12_rulesOf_24 : decode cX12_rulesOf 24 = .ok (.goto 4, 3) := by decide +kernel
theorem dX12_rulesOf_27 : decode cX12_rulesOf 27 = .ok (.iconst 0, 1) := by decide +kernel
theorem dX12_rulesOf_28 : decode cX12_rulesOf 28 = .ok (.iadd, 1) := by decide +kernel
theorem dX12_rulesOf_29 : decode cX12_rulesOf 29 = .ok (.istore_n 2, 1) := by decide +kernel
theorem dX12_rulesOf_30 : decode cX12_rulesOf 30 = .ok (.iinc 3 1, 3) := by decide +kernel
theorem dX12_rulesOf_33 : decode cX12_rulesOf 33 = .ok (.goto (-29), 3) := by decide +kernel
theorem dX12_rulesOf_36 : decode cX12_rulesOf 36 = .ok (.iload_n 2, 1) := by decide +kernel
theorem dX12_rulesOf_37 : decode cX12_rulesOf 37 = .ok (.ireturn, 1) := by decide +kernel
theorem dX12_addRule_0 : decode cX12_addRule 0 = .ok (.iload_n 1, 1) := by decide +kernel
theorem dX12_addRule_1 : decode cX12_addRule 1 = .ok (.iconst 0, 1) := by decide +kernel
theorem dX12_addRule_2 : decode cX12_addRule 2 = .ok (.iconst 3, 1) := by decide +kernel
theorem dX12_addRule_3 : decode cX12_addRule 3 = .ok (.invokestatic 96, 3) := by decide +kernel
theorem dX12_addRule_6 : decode cX12_addRule 6 = .ok (.ifCond .eq 22, 3) := by decide +kernel
theorem dX12_addRule_9 : decode cX12_addRule 9 = .ok (.iload_n 2, 1) := by decide +kernel
theorem dX12_addRule_10 : decode cX12_addRule 10 = .ok (.iconst 1, 1) := by decide +kernel
theorem dX12_addRule_11 : decode cX12_addRule 11 = .ok (.iconst 3, 1) := by decide +kernel
theorem dX12_addRule_12 : decode cX12_addRule 12 = .ok (.invokestatic 96, 3) := by decide +kernel
theorem dX12_addRule_15 : decode cX12_addRule 15 = .ok (.ifCond .eq 13, 3) := by decide +kernel
theorem dX12_addRule_18 : decode cX12_addRule 18 = .ok (.iload_n 3, 1) := by decide +kernel
theorem dX12_addRule_19 : decode cX12_addRule 19 = .ok (.iconst 0, 1) := by decide +kernel
theorem dX12_addRule_20 : decode cX12_addRule 20 = .ok (.bipush 100, 2) := by decide +kernel
theorem dX12_addRule_22 : decode cX12_addRule 22 = .ok (.invokestatic 96, 3) := by decide +kernel
theorem dX12_addRule_25 : decode cX12_addRule 25 = .ok (.ifCond .ne 7, 3) := by decide +kernel
theorem dX12_addRule_28 : decode cX12_addRule 28 = .ok (.iconst 1, 1) := by decide +kernel
theorem dX12_addRule_29 : decode cX12_addRule 29 = .ok (.goto 17, 3) := by decide +kernel
theorem dX12_addRule_32 : decode cX12_addRule 32 = .ok (.aload_n 0, 1) := by decide +kernel
theorem dX12_addRule_33 : decode cX12_addRule 33 = .ok (.iload_n 1, 1) := by decide +kernel
theorem dX12_addRule_34 : decode cX12_addRule 34 = .ok (.invokevirtual 261, 3) := by decide +kernel
theorem dX12_addRule_37 : decode cX12_addRule 37 = .ok (.iconst 4, 1) := by decide +kernel
theorem dX12_addRule_38 : decode cX12_addRule 38 = .ok (.if_icmp .ne 7, 3) := by decide +kernel
theorem dX12_addRule_41 : decode cX12_addRule 41 = .ok (.iconst 2, 1) := by decide +kernel
theorem dX12_addRule_42 : decode cX12_addRule 42 = .ok (.goto 4, 3) := by decide +kernel
theorem dX12_addRule_45 : decode cX12_addRule 45 = .ok (.iconst 0, 1) := by decide +kernel
theorem dX12_addRule_46 : decode cX12_addRule 46 = .ok (.istore 4, 2) := by decide +kernel
theorem dX12_addRule_48 : decode cX12_addRule 48 = .ok (.aload_n 0, 1) := by decide +kernel
theorem dX12_addRule_49 : decode cX12_addRule 49 = .ok (.iload 4, 2) := by decide +kernel
theorem dX12_addRule_51 : decode cX12_addRule 51 = .ok (.invokevirtual 144, 3) := by decide +kernel
theorem dX12_addRule_54 : decode cX12_addRule 54 = .ok (.ifCond .ne 5, 3) := by decide +kernel
theorem dX12_addRule_57 : decode cX12_addRule 57 = .ok (.iconst 0, 1) := by decide +kernel
theorem dX12_addRule_58 : decode cX12_addRule 58 = .ok (.ireturn, 1) := by decide +kernel
theorem dX12_addRule_59 : decode cX12_addRule 59 = .ok (.aload_n 0, 1) := by decide +kernel
theorem dX12_addRule_60 : decode cX12_addRule 60 = .ok (.getfield 61, 3) := by decide +kernel
theorem dX12_addRule_63 : decode cX12_addRule 63 = .ok (.aload_n 0, 1) := by decide +kernel
theorem dX12_addRule_64 : decode cX12_addRule 64 = .ok (.getfield 258, 3) := by decide +kernel
theorem dX12_addRule_67 : decode cX12_addRule 67 = .ok (.iload_n 1, 1) := by decide +kernel
theorem dX12_addRule_68 : decode cX12_addRule 68 = .ok (.iastore, 1) := by decide +kernel
theorem dX12_addRule_69 : decode cX12_addRule 69 = .ok (.aload_n 0, 1) := by decide +kernel
theorem dX12_addRule_70 : decode cX12_addRule 70 = .ok (.getfield 64, 3) := by decide +kernel
theorem dX12_addRule_73 : decode cX12_addRule 73 = .ok (.aload_n 0, 1) := by decide +kernel
theorem dX12_addRule_74 : decode cX12_addRule 74 = .ok (.getfield 258, 3) := by decide +kernel
theorem dX12_addRule_77 : decode cX12_addRule 77 = .ok (.iload_n 2, 1) := by decide +kernel
theorem dX12_addRule_78 : decode cX12_addRule 78 = .ok (.iastore, 1) := by decide +kernel
theorem dX12_addRule_79 : decode cX12_addRule 79 = .ok (.aload_n 0, 1) := by decide +kernel
theorem dX12_addRule_80 : decode cX12_addRule 80 = .ok (.getfield 67, 3) := by decide +kernel
theorem dX12_addRule_83 : decode cX12_addRule 83 = .ok (.aload_n 0, 1) := by decide +kernel
theorem dX12_addRule_84 : decode cX12_addRule 84 = .ok (.getfield 258, 3) := by decide +kernel
theorem dX12_addRule_87 : decode cX12_addRule 87 = .ok (.iload_n 3, 1) := by decide +kernel
theorem dX12_addRule_88 : decode cX12_addRule 88 = .ok (.iastore, 1) := by decide +kernel
theorem dX12_addRule_89 : decode cX12_addRule 89 = .ok (.aload_n 0, 1) := by decide +kernel
theorem dX12_addRule_90 : decode cX12_addRule 90 = .ok (.getfield 70, 3) := by decide +kernel
theorem dX12_addRule_93 : decode cX12_addRule 93 = .ok (.aload_n 0, 1) := by decide +kernel
theorem dX12_addRule_94 : decode cX12_addRule 94 = .ok (.getfield 258, 3) := by decide +kernel
theorem dX12_addRule_97 : decode cX12_addRule 97 = .ok (.iconst 0, 1) := by decide +kernel
theorem dX12_addRule_98 : decode cX12_addRule 98 = .ok (.iastore, 1) := by decide +kernel
theorem dX12_addRule_99 : decode cX12_addRule 99 = .ok (.aload_n 0, 1) := by decide +kernel
theorem dX12_addRule_100 : decode cX12_addRule 100 = .ok (.dup, 1) := by decide +kernel
theorem dX12_addRule_101 : decode cX12_addRule 101 = .ok (.getfield 258, 3) := by decide +kernel
theorem dX12_addRule_104 : decode cX12_addRule 104 = .ok (.iconst 1, 1) := by decide +kernel
theorem dX12_addRule_105 : decode cX12_addRule 105 = .ok (.iadd, 1) := by decide +kernel
theorem dX12_addRule_106 : decode cX12_addRule 106 = .ok (.putfield 258, 3) := by decide +kernel
theorem dX12_addRule_109 : decode cX12_addRule 109 = .ok (.aload_n 0, 1) := by decide +kernel
theorem dX12_addRule_110 : decode cX12_addRule 110 = .ok (.getfield 258, 3) := by decide +kernel
theorem dX12_addRule_113 : decode cX12_addRule 113 = .ok (.iconst 1, 1) := by decide +kernel
theorem dX12_addRule_114 : decode cX12_addRule 114 = .ok (.isub, 1) := by decide +kernel
theorem dX12_addRule_115 : decode cX12_addRule 115 = .ok (.ireturn, 1) := by decide +kernel
theorem dX12_allow_0 : decode cX12_allow 0 = .ok (.aload_n 0, 1) := by decide +kernel
theorem dX12_allow_1 : decode cX12_allow 1 = .ok (.iload_n 1, 1) := by decide +kernel
theorem dX12_allow_2 : decode cX12_allow 2 = .ok (.iconst 0, 1) := by decide +kernel
theorem dX12_allow_3 : decode cX12_allow 3 = .ok (.aload_n 0, 1) := by decide +kernel
theorem dX12_allow_4 : decode cX12_allow 4 = .ok (.getfield 258, 3) := by decide +kernel
theorem dX12_allow_7 : decode cX12_allow 7 = .ok (.iconst 1, 1) := by decide +kernel
theorem dX12_allow_8 : decode cX12_allow 8 = .ok (.isub, 1) := by decide +kernel
theorem dX12_allow_9 : decode cX12_allow 9 = .ok (.invokestatic 96, 3) := by decide +kernel
theorem dX12_allow_12 : decode cX12_allow 12 = .ok (.ifCond .ne 7, 3) := by decide +kernel
theorem dX12_allow_15 : decode cX12_allow 15 = .ok (.iconst 1, 1) := by decide +kernel
theorem dX12_allow_16 : decode cX12_allow 16 = .ok (.goto 16, 3) := by decide +kernel
theorem dX12_allow_19 : decode cX12_allow 19 = .ok (.aload_n 0, 1) := by decide +kernel
theorem dX12_allow_20 : decode cX12_allow 20 = .ok (.iload_n 2, 1) := by decide +kernel
theorem dX12_allow_21 : decode cX12_allow 21 = .ok (.invokevirtual 151, 3) := by decide +kernel
theorem dX12_allow_24 : decode cX12_allow 24 = .ok (.ifCond .ne 7, 3) := by decide +kernel
theorem dX12_allow_27 : decode cX12_allow 27 = .ok (.iconst 2, 1) := by decide +kernel
theorem dX12_allow_28 : decode cX12_allow 28 = .ok (.goto 4, 3) := by decide +kernel
theorem dX12_allow_31 : decode cX12_allow 31 = .ok (.iconst 0, 1) := by decide +kernel
theorem dX12_allow_32 : decode cX12_allow 32 = .ok (.invokevirtual 144, 3) := by decide +kernel
theorem dX12_allow_35 : decode cX12_allow 35 = .ok (.ifCond .ne 5, 3) := by decide +kernel
theorem dX12_allow_38 : decode cX12_allow 38 = .ok (.iconst 0, 1) := by decide +kernel
theorem dX12_allow_39 : decode cX12_allow 39 = .ok (.ireturn, 1) := by decide +kernel
theorem dX12_allow_40 : decode cX12_allow 40 = .ok (.aload_n 0, 1) := by decide +kernel
theorem dX12_allow_41 : decode cX12_allow 41 = .ok (.getfield 70, 3) := by decide +kernel
theorem dX12_allow_44 : decode cX12_allow 44 = .ok (.iload_n 1, 1) := by decide +kernel
theorem dX12_allow_45 : decode cX12_allow 45 = .ok (.iaload, 1) := by decide +kernel
theorem dX12_allow_46 : decode cX12_allow 46 = .ok (.iload_n 2, 1) := by decide +kernel
theorem dX12_allow_47 : decode cX12_allow 47 = .ok (.invokestatic 106, 3) := by decide +kernel
theorem dX12_allow_50 : decode cX12_allow 50 = .ok (.ifCond .ne 7, 3) := by decide +kernel
theorem dX12_allow_53 : decode cX12_allow 53 = .ok (.iconst 1, 1) := by decide +kernel
theorem dX12_allow_54 : decode cX12_allow 54 = .ok (.goto 4, 3) := by decide +kernel
theorem dX12_allow_57 : decode cX12_allow 57 = .ok (.iconst 0, 1) := by decide +kernel
theorem dX12_allow_58 : decode cX12_allow 58 = .ok (.istore_n 3, 1) := by decide +kernel
theorem dX12_allow_59 : decode cX12_allow 59 = .ok (.aload_n 0, 1) := by decide +kernel
theorem dX12_allow_60 : decode cX12_allow 60 = .ok (.getfield 70, 3) := by decide +kernel
theorem dX12_allow_63 : decode cX12_allow 63 = .ok (.iload_n 1, 1) := by decide +kernel
theorem dX12_allow_64 : decode cX12_allow 64 = .ok (.dup2, 1) := by decide +kernel
theorem dX12_allow_65 : decode cX12_allow 65 = .ok (.iaload, 1) := by decide +kernel
theorem dX12_allow_66 : decode cX12_allow 66 = .ok (.iconst 1, 1) := by decide +kernel
theorem dX12_allow_67 : decode cX12_allow 67 = .ok (.iload_n 2, 1) := by decide +kernel
theorem dX12_allow_68 : decode cX12_allow 68 = .ok (.ishl, 1) := by decide +kernel
theorem dX12_allow_69 : decode cX12_allow 69 = .ok (.ior, 1) := by decide +kernel
theorem dX12_allow_70 : decode cX12_allow 70 = .ok (.iastore, 1) := by decide +kernel
theorem dX12_allow_71 : decode cX12_allow 71 = .ok (.iload_n 3, 1) := by decide +kernel
theorem dX12_allow_72 : decode cX12_allow 72 = .ok (.ireturn, 1) := by decide +kernel
theorem dX12_looksAt_0 : decode cX12_looksAt 0 = .ok (.aload_n 0, 1) := by decide +kernel
theorem dX12_looksAt_1 : decode cX12_looksAt 1 = .ok (.iload_n 1, 1) := by decide +kernel
theorem dX12_looksAt_2 : decode cX12_looksAt 2 = .ok (.putfield 264, 3) := by decide +kernel
theorem dX12_looksAt_5 : decode cX12_looksAt 5 = .ok (.aload_n 0, 1) := by decide +kernel
theorem dX12_looksAt_6 : decode cX12_looksAt 6 = .ok (.iload_n 2, 1) := by decide +kernel
theorem dX12_looksAt_7 : decode cX12_looksAt 7 = .ok (.putfield 267, 3) := by decide +kernel
theorem dX12_looksAt_10 : decode cX12_looksAt 10 = .ok (.aload_n 0, 1) := by decide +kernel
theorem dX12_looksAt_11 : decode cX12_looksAt 11 = .ok (.iconst 0, 1) := by decide +kernel
theorem dX12_looksAt_12 : decode cX12_looksAt 12 = .ok (.putfield 271, 3) := by decide +kernel
theorem dX12_looksAt_15 : decode cX12_looksAt 15 = .ok (.iconst 0, 1) := by decide +kernel
theorem dX12_looksAt_16 : decode cX12_looksAt 16 = .ok (.istore_n 3, 1) := by decide +kernel
theorem dX12_looksAt_17 : decode cX12_looksAt 17 = .ok (.iload_n 3, 1) := by decide +kernel
theorem dX12_looksAt_18 : decode cX12_looksAt 18 = .ok (.aload_n 0, 1) := by decide +kernel
theorem dX12_looksAt_19 : decode cX12_looksAt 19 = .ok (.getfield 258, 3) := by decide +kernel
theorem dX12_looksAt_22 : decode cX12_looksAt 22 = .ok (.if_icmp .ge 59, 3) := by decide +kernel
theorem dX12_looksAt_25 : decode cX12_looksAt 25 = .ok (.aload_n 0, 1) := by decide +kernel
theorem dX12_looksAt_26 : decode cX12_looksAt 26 = .ok (.getfield 61, 3) := by decide +kernel
theorem dX12_looksAt_29 : decode cX12_looksAt 29 = .ok (.iload_n 3, 1) := by decide +kernel
theorem dX12_looksAt_30 : decode cX12_looksAt 30 = .ok (.iaload, 1) := by decide +kernel
theorem dX12_looksAt_31 : decode cX12_looksAt 31 = .ok (.aload_n 0, 1) := by decide +kernel
theorem dX12_looksAt_32 : decode cX12_looksAt 32 = .ok (.getfield 28, 3) := by decide +kernel
theorem dX12_looksAt_35 : decode cX12_looksAt 35 = .ok (.iload_n 1, 1) := by decide +kernel
theorem dX12_looksAt_36 : decode cX12_looksAt 36 = .ok (.iaload, 1) := by decide +kernel
theorem dX12_looksAt_37 : decode cX12_looksAt 37 = .ok (.if_icmp .ne 38, 3) := by decide +kernel
theorem dX12_looksAt_40 : decode cX12_looksAt 40 = .ok (.aload_n 0, 1) := by decide +kernel
theorem dX12_looksAt_41 : decode cX12_looksAt 41 = .ok (.getfield 79, 3) := by decide +kernel
theorem dX12_looksAt_44 : decode cX12_looksAt 44 = .ok (.aload_n 0, 1) := by decide +kernel
theorem dX12_looksAt_45 : decode cX12_looksAt 45 = .ok (.getfield 271, 3) := by decide +kernel
theorem dX12_looksAt_48 : decode cX12_looksAt 48 = .ok (.iload_n 3, 1) := by decide +kernel
theorem dX12_looksAt_49 : decode cX12_looksAt 49 = .ok (.iastore, 1) := by decide +kernel
theorem dX12_looksAt_50 : decode cX12_looksAt 50 = .ok (.aload_n 0, 1) := by decide +kernel
theorem dX12_looksAt_51 : decode cX12_looksAt 51 = .ok (.getfield 82, 3) := by decide +kernel
theorem dX12_looksAt_54 : decode cX12_looksAt 54 = .ok (.aload_n 0, 1) := by decide +kernel
theorem dX12_looksAt_55 : decode cX12_looksAt 55 = .ok (.getfield 271, 3) := by decide +kernel
theorem dX12_looksAt_58 : decode cX12_looksAt 58 = .ok (.aload_n 0, 1) := by decide +kernel
theorem dX12_looksAt_59 : decode cX12_looksAt 59 = .ok (.getfield 64, 3) := by decide +kernel
theorem dX12_looksAt_62 : decode cX12_looksAt 62 = .ok (.iload_n 3, 1) := by decide +kernel
theorem dX12_looksAt_63 : decode cX12_looksAt 63 = .ok (.iaload, 1) := by decide +kernel
theorem dX12_looksAt_64 : decode cX12_looksAt 64 = .ok (.iastore, 1) := by decide +kernel
theorem dX12_looksAt_65 : decode cX12_looksAt 65 = .ok (.aload_n 0, 1) := by decide +kernel
theorem dX12_looksAt_66 : decode cX12_looksAt 66 = .ok (.dup, 1) := by decide +kernel
theorem dX12_looksAt_67 : decode cX12_looksAt 67 = .ok (.getfield 271, 3) := by decide +kernel
theorem dX12_looksAt_70 : decode cX12_looksAt 70 = .ok (.iconst 1, 1) := by decide +kernel
theorem dX12_looksAt_71 : decode cX12_looksAt 71 = .ok (.iadd, 1) := by decide +kernel
theorem dX12_looksAt_72 : decode cX12_looksAt 72 = .ok (.putfield 271, 3) := by decide +kernel
theorem dX12_looksAt_75 : decode cX12_looksAt 75 = .ok (.iinc 3 1, 3) := by decide +kernel
theorem dX12_looksAt_78 : decode cX12_looksAt 78 = .ok (.goto (-61), 3) := by decide +kernel
theorem dX12_looksAt_81 : decode cX12_looksAt 81 = .ok (.return_, 1) := by decide +kernel
theorem dX12_counts_0 : decode cX12_counts 0 = .ok (.aload_n 0, 1) := by decide +kernel
theorem dX12_counts_1 : decode cX12_counts 1 = .ok (.getfield 267, 3) := by decide +kernel
theorem dX12_counts_4 : decode cX12_counts 4 = .ok (.ifCond .eq 24, 3) := by decide +kernel
theorem dX12_counts_7 : decode cX12_counts 7 = .ok (.aload_n 0, 1) := by decide +kernel
theorem dX12_counts_8 : decode cX12_counts 8 = .ok (.getfield 31, 3) := by decide +kernel
theorem dX12_counts_11 : decode cX12_counts 11 = .ok (.aload_n 0, 1) := by decide +kernel
theorem dX12_counts_12 : decode cX12_counts 12 = .ok (.getfield 264, 3) := by decide +kernel
theorem dX12_counts_15 : decode cX12_counts 15 = .ok (.iaload, 1) := by decide +kernel
theorem dX12_counts_16 : decode cX12_counts 16 = .ok (.iload_n 1, 1) := by decide +kernel
theorem dX12_counts_17 : decode cX12_counts 17 = .ok (.invokestatic 106, 3) := by decide +kernel
theorem dX12_counts_20 : decode cX12_counts 20 = .ok (.ifCond .eq 8, 3) := by decide +kernel
theorem dX12_counts_23 : decode cX12_counts 23 = .ok (.bipush 100, 2) := by decide +kernel
theorem dX12_counts_25 : decode cX12_counts 25 = .ok (.goto 12, 3) := by decide +kernel
theorem dX12_counts_28 : decode cX12_counts 28 = .ok (.aload_n 0, 1) := by decide +kernel
theorem dX12_counts_29 : decode cX12_counts 29 = .ok (.aload_n 0, 1) := by decide +kernel
theorem dX12_counts_30 : decode cX12_counts 30 = .ok (.getfield 264, 3) := by decide +kernel
theorem dX12_counts_33 : decode cX12_counts 33 = .ok (.iload_n 1, 1) := by decide +kernel
theorem dX12_counts_34 : decode cX12_counts 34 = .ok (.invokevirtual 114, 3) := by decide +kernel
theorem dX12_counts_37 : decode cX12_counts 37 = .ok (.istore_n 3, 1) := by decide +kernel
theorem dX12_counts_38 : decode cX12_counts 38 = .ok (.aload_n 0, 1) := by decide +kernel
theorem dX12_counts_39 : decode cX12_counts 39 = .ok (.getfield 70, 3) := by decide +kernel
theorem dX12_counts_42 : decode cX12_counts 42 = .ok (.iload_n 2, 1) := by decide +kernel
theorem dX12_counts_43 : decode cX12_counts 43 = .ok (.iaload, 1) := by decide +kernel
theorem dX12_counts_44 : decode cX12_counts 44 = .ok (.iload_n 1, 1) := by decide +kernel
theorem dX12_counts_45 : decode cX12_counts 45 = .ok (.invokestatic 106, 3) := by decide +kernel
theorem dX12_counts_48 : decode cX12_counts 48 = .ok (.ifCond .eq 23, 3) := by decide +kernel
theorem dX12_counts_51 : decode cX12_counts 51 = .ok (.iload_n 3, 1) := by decide +kernel
theorem dX12_counts_52 : decode cX12_counts 52 = .ok (.bipush 50, 2) := by decide +kernel
theorem dX12_counts_54 : decode cX12_counts 54 = .ok (.if_icmp .lt 17, 3) := by decide +kernel
theorem dX12_counts_57 : decode cX12_counts 57 = .ok (.iload_n 3, 1) := by decide +kernel
theorem dX12_counts_58 : decode cX12_counts 58 = .ok (.aload_n 0, 1) := by decide +kernel
theorem dX12_counts_59 : decode cX12_counts 59 = .ok (.getfield 67, 3) := by decide +kernel
theorem dX12_counts_62 : decode cX12_counts 62 = .ok (.iload_n 2, 1) := by decide +kernel
theorem dX12_counts_63 : decode cX12_counts 63 = .ok (.iaload, 1) := by decide +kernel
theorem dX12_counts_64 : decode cX12_counts 64 = .ok (.if_icmp .lt 7, 3) := by decide +kernel
theorem dX12_counts_67 : decode cX12_counts 67 = .ok (.iconst 1, 1) := by decide +kernel
theorem dX12_counts_68 : decode cX12_counts 68 = .ok (.goto 4, 3) := by decide +kernel
theorem dX12_counts_71 : decode cX12_counts 71 = .ok (.iconst 0, 1) := by decide +kernel
theorem dX12_counts_72 : decode cX12_counts 72 = .ok (.ireturn, 1) := by decide +kernel
theorem dX12_of_0 : decode cX12_of 0 = .ok (.iload_n 0, 1) := by decide +kernel
theorem dX12_of_1 : decode cX12_of 1 = .ok (.iconst 2, 1) := by decide +kernel
theorem dX12_of_2 : decode cX12_of 2 = .ok (.iload_n 1, 1) := by decide +kernel
theorem dX12_of_3 : decode cX12_of 3 = .ok (.imul, 1) := by decide +kernel
theorem dX12_of_4 : decode cX12_of 4 = .ok (.ishr, 1) := by decide +kernel
theorem dX12_of_5 : decode cX12_of 5 = .ok (.iconst 3, 1) := by decide +kernel
theorem dX12_of_6 : decode cX12_of 6 = .ok (.iand, 1) := by decide +kernel
theorem dX12_of_7 : decode cX12_of 7 = .ok (.ireturn, 1) := by decide +kernel
theorem dX12_canGive_0 : decode cX12_canGive 0 = .ok (.aload_n 0, 1) := by decide +kernel
theorem dX12_canGive_1 : decode cX12_canGive 1 = .ok (.iload_n 2, 1) := by decide +kernel
theorem dX12_canGive_2 : decode cX12_canGive 2 = .ok (.aload_n 0, 1) := by decide +kernel
theorem dX12_canGive_3 : decode cX12_canGive 3 = .ok (.getfield 79, 3) := by decide +kernel
theorem dX12_canGive_6 : decode cX12_canGive 6 = .ok (.iload_n 3, 1) := by decide +kernel
theorem dX12_canGive_7 : decode cX12_canGive 7 = .ok (.iaload, 1) := by decide +kernel
theorem dX12_canGive_8 : decode cX12_canGive 8 = .ok (.invokevirtual 274, 3) := by decide +kernel
theorem dX12_canGive_11 : decode cX12_canGive 11 = .ok (.ifCond .eq 21, 3) := by decide +kernel
theorem dX12_canGive_14 : decode cX12_canGive 14 = .ok (.iload_n 1, 1) := by decide +kernel
theorem dX12_canGive_15 : decode cX12_canGive 15 = .ok (.iload_n 3, 1) := by decide +kernel
theorem dX12_canGive_16 : decode cX12_canGive 16 = .ok (.invokestatic 277, 3) := by decide +kernel
theorem dX12_canGive_19 : decode cX12_canGive 19 = .ok (.aload_n 0, 1) := by decide +kernel
theorem dX12_canGive_20 : decode cX12_canGive 20 = .ok (.getfield 82, 3) := by decide +kernel
theorem dX12_canGive_23 : decode cX12_canGive 23 = .ok (.iload_n 3, 1) := by decide +kernel
theorem dX12_canGive_24 : decode cX12_canGive 24 = .ok (.iaload, 1) := by decide +kernel
theorem dX12_canGive_25 : decode cX12_canGive 25 = .ok (.if_icmp .ge 7, 3) := by decide +kernel
theorem dX12_canGive_28 : decode cX12_canGive 28 = .ok (.iconst 1, 1) := by decide +kernel
theorem dX12_canGive_29 : decode cX12_canGive 29 = .ok (.goto 4, 3) := by decide +kernel
theorem dX12_canGive_32 : decode cX12_canGive 32 = .ok (.iconst 0, 1) := by decide +kernel
theorem dX12_canGive_33 : decode cX12_canGive 33 = .ok (.ireturn, 1) := by decide +kernel
theorem dX12_mostFrom_0 : decode cX12_mostFrom 0 = .ok (.iconst 0, 1) := by decide +kernel
theorem dX12_mostFrom_1 : decode cX12_mostFrom 1 = .ok (.istore_n 3, 1) := by decide +kernel
theorem dX12_mostFrom_2 : decode cX12_mostFrom 2 = .ok (.iload_n 3, 1) := by decide +kernel
theorem dX12_mostFrom_3 : decode cX12_mostFrom 3 = .ok (.sipush 256, 3) := by decide +kernel
theorem dX12_mostFrom_6 : decode cX12_mostFrom 6 = .ok (.if_icmp .ge 25, 3) := by decide +kernel
theorem dX12_mostFrom_9 : decode cX12_mostFrom 9 = .ok (.aload_n 0, 1) := by decide +kernel
theorem dX12_mostFrom_10 : decode cX12_mostFrom 10 = .ok (.getfield 85, 3) := by decide +kernel
theorem dX12_mostFrom_13 : decode cX12_mostFrom 13 = .ok (.iload_n 3, 1) := by decide +kernel
theorem dX12_mostFrom_14 : decode cX12_mostFrom 14 = .ok (.iload_n 3, 1) := by decide +kernel
theorem dX12_mostFrom_15 : decode cX12_mostFrom 15 = .ok (.iload_n 1, 1) := by decide +kernel
theorem dX12_mostFrom_16 : decode cX12_mostFrom 16 = .ok (.if_icmp .ne 7, 3) := by decide +kernel
theorem dX12_mostFrom_19 : decode cX12_mostFrom 19 = .ok (.iconst 1, 1) := by decide +kernel
theorem dX12_mostFrom_20 : decode cX12_mostFrom 20 = .ok (.goto 4, 3) := by decide +kernel
theorem dX12_mostFrom_23 : decode cX12_mostFrom 23 = .ok (.iconst 0, 1) := by decide +kernel
theorem dX12_mostFrom_24 : decode cX12_mostFrom 24 = .ok (.bastore, 1) := by decide +kernel
theorem dX12_mostFrom_25 : decode cX12_mostFrom 25 = .ok (.iinc 3 1, 3) := by decide +kernel
theorem dX12_mostFrom_28 : decode cX12_mostFrom 28 = .ok (.goto (-26), 3) := by decide +kernel
theorem dX12_mostFrom_31 : decode cX12_mostFrom 31 = .ok (.iload_n 2, 1) := by decide +kernel
theorem dX12_mostFrom_32 : decode cX12_mostFrom 32 = .ok (.istore_n 3, 1) := by decide +kernel
theorem dX12_mostFrom_33 : decode cX12_mostFrom 33 = .ok (.iload_n 3, 1) := by decide +kernel
theorem dX12_mostFrom_34 : decode cX12_mostFrom 34 = .ok (.aload_n 0, 1) := by decide +kernel
theorem dX12_mostFrom_35 : decode cX12_mostFrom 35 = .ok (.getfield 93, 3) := by decide +kernel
theorem dX12_mostFrom_38 : decode cX12_mostFrom 38 = .ok (.if_icmp .ge 80, 3) := by decide +kernel
theorem dX12_mostFrom_41 : decode cX12_mostFrom 41 = .ok (.sipush 255, 3) := by decide +kernel
theorem dX12_mostFrom_44 : decode cX12_mostFrom 44 = .ok (.istore 4, 2) := by decide +kernel
theorem dX12_mostFrom_46 : decode cX12_mostFrom 46 = .ok (.iload 4, 2) := by decide +kernel
theorem dX12_mostFrom_48 : decode cX12_mostFrom 48 = .ok (.ifCond .lt 64, 3) := by decide +kernel
theorem dX12_mostFrom_51 : decode cX12_mostFrom 51 = .ok (.iconst 0, 1) := by decide +kernel
theorem dX12_mostFrom_52 : decode cX12_mostFrom 52 = .ok (.istore 5, 2) := by decide +kernel
theorem dX12_mostFrom_54 : decode cX12_mostFrom 54 = .ok (.iload 5, 2) := by decide +kernel
theorem dX12_mostFrom_56 : decode cX12_mostFrom 56 = .ok (.aload_n 0, 1) := by decide +kernel
theorem dX12_mostFrom_57 : decode cX12_mostFrom 57 = .ok (.getfield 271, 3) := by decide +kernel
theorem dX12_mostFrom_60 : decode cX12_mostFrom 60 = .ok (.if_icmp .ge 46, 3) := by decide +kernel
theorem dX12_mostFrom_63 : decode cX12_mostFrom 63 = .ok (.aload_n 0, 1) := by decide +kernel
theorem dX12_mostFrom_64 : decode cX12_mostFrom 64 = .ok (.getfield 85, 3) := by decide +kernel
theorem dX12_mostFrom_67 : decode cX12_mostFrom 67 = .ok (.iload 4, 2) := by decide +kernel
theorem dX12_mostFrom_69 : decode cX12_mostFrom 69 = .ok (.baload, 1) := by decide +kernel
theorem dX12_mostFrom_70 : decode cX12_mostFrom 70 = .ok (.ifCond .eq 36, 3) := by decide +kernel
theorem dX12_mostFrom_73 : decode cX12_mostFrom 73 = .ok (.aload_n 0, 1) := by decide +kernel
theorem dX12_mostFrom_74 : decode cX12_mostFrom 74 = .ok (.iload 4, 2) := by decide +kernel
theorem dX12_mostFrom_76 : decode cX12_mostFrom 76 = .ok (.iload_n 3, 1) := by decide +kernel
theorem dX12_mostFrom_77 : decode cX12_mostFrom 77 = .ok (.iload 5, 2) := by decide +kernel
theorem dX12_mostFrom_79 : decode cX12_mostFrom 79 = .ok (.invokevirtual 280, 3) := by decide +kernel
theorem dX12_mostFrom_82 : decode cX12_mostFrom 82 = .ok (.ifCond .eq 18, 3) := by decide +kernel
theorem dX12_mostFrom_85 : decode cX12_mostFrom 85 = .ok (.aload_n 0, 1) := by decide +kernel
theorem dX12_mostFrom_86 : decode cX12_mostFrom 86 = .ok (.getfield 85, 3) := by decide +kernel
theorem dX12_mostFrom_89 : decode cX12_mostFrom 89 = .ok (.iload 4, 2) := by decide +kernel
theorem dX12_mostFrom_91 : decode cX12_mostFrom 91 = .ok (.iconst 1, 1) := by decide +kernel
theorem dX12_mostFrom_92 : decode cX12_mostFrom 92 = .ok (.iconst 2, 1) := by decide +kernel
theorem dX12_mostFrom_93 : decode cX12_mostFrom 93 = .ok (.iload 5, 2) := by decide +kernel
theorem dX12_mostFrom_95 : decode cX12_mostFrom 95 = .ok (.imul, 1) := by decide +kernel
theorem dX12_mostFrom_96 : decode cX12_mostFrom 96 = .ok (.ishl, 1) := by decide +kernel
theorem dX12_mostFrom_97 : decode cX12_mostFrom 97 = .ok (.iadd, 1) := by decide +kernel
theorem dX12_mostFrom_98 : decode cX12_mostFrom 98 = .ok (.iconst 1, 1) := by decide +kernel
theorem dX12_mostFrom_99 : decode cX12_mostFrom 99 = .ok (.bastore, 1) := by decide +kernel
theorem dX12_mostFrom_100 : decode cX12_mostFrom 100 = .ok (.iinc 5 1, 3) := by decide +kernel
theorem dX12_mostFrom_103 : decode cX12_mostFrom 103 = .ok (.goto (-49), 3) := by decide +kernel
theorem dX12_mostFrom_106 : decode cX12_mostFrom 106 = .ok (.iinc 4 (-1), 3) := by decide +kernel
theorem dX12_mostFrom_109 : decode cX12_mostFrom 109 = .ok (.goto (-63), 3) := by decide +kernel
theorem dX12_mostFrom_112 : decode cX12_mostFrom 112 = .ok (.iinc 3 1, 3) := by decide +kernel
theorem dX12_mostFrom_115 : decode cX12_mostFrom 115 = .ok (.goto (-82), 3) := by decide +kernel
theorem dX12_mostFrom_118 : decode cX12_mostFrom 118 = .ok (.iconst 0, 1) := by decide +kernel
theorem dX12_mostFrom_119 : decode cX12_mostFrom 119 = .ok (.istore_n 3, 1) := by decide +kernel
theorem dX12_mostFrom_120 : decode cX12_mostFrom 120 = .ok (.iconst 0, 1) := by decide +kernel
theorem dX12_mostFrom_121 : decode cX12_mostFrom 121 = .ok (.istore 4, 2) := by decide +kernel
theorem dX12_mostFrom_123 : decode cX12_mostFrom 123 = .ok (.iload 4, 2) := by decide +kernel
theorem dX12_mostFrom_125 : decode cX12_mostFrom 125 = .ok (.sipush 256, 3) := by decide +kernel
theorem dX12_mostFrom_128 : decode cX12_mostFrom 128 = .ok (.if_icmp .ge 61, 3) := by decide +kernel
theorem dX12_mostFrom_131 : decode cX12_mostFrom 131 = .ok (.iload 4, 2) := by decide +kernel
theorem dX12_mostFrom_133 : decode cX12_mostFrom 133 = .ok (.iconst 0, 1) := by decide +kernel
theorem dX12_mostFrom_134 : decode cX12_mostFrom 134 = .ok (.invokestatic 277, 3) := by decide +kernel
theorem dX12_mostFrom_137 : decode cX12_mostFrom 137 = .ok (.iload 4, 2) := by decide +kernel
theorem dX12_mostFrom_139 : decode cX12_mostFrom 139 = .ok (.iconst 1, 1) := by decide +kernel
theorem dX12_mostFrom_140 : decode cX12_mostFrom 140 = .ok (.invokestatic 277, 3) := by decide +kernel
theorem dX12_mostFrom_143 : decode cX12_mostFrom 143 = .ok (.iadd, 1) := by decide +kernel
theorem dX12_mostFrom_144 : decode cX12_mostFrom 144 = .ok (.iload 4, 2) := by decide +kernel
theorem dX12_mostFrom_146 : decode cX12_mostFrom 146 = .ok (.iconst 2, 1) := by decide +kernel
theorem dX12_mostFrom_147 : decode cX12_mostFrom 147 = .ok (.invokestatic 277, 3) := by decide +kernel
theorem dX12_mostFrom_150 : decode cX12_mostFrom 150 = .ok (.iadd, 1) := by decide +kernel
theorem dX12_mostFrom_151 : decode cX12_mostFrom 151 = .ok (.iload 4, 2) := by decide +kernel
theorem dX12_mostFrom_153 : decode cX12_mostFrom 153 = .ok (.iconst 3, 1) := by decide +kernel
theorem dX12_mostFrom_154 : decode cX12_mostFrom 154 = .ok (.invokestatic 277, 3) := by decide +kernel
theorem dX12_mostFrom_157 : decode cX12_mostFrom 157 = .ok (.iadd, 1) := by decide +kernel
theorem dX12_mostFrom_158 : decode cX12_mostFrom 158 = .ok (.istore 5, 2) := by decide +kernel
theorem dX12_mostFrom_160 : decode cX12_mostFrom 160 = .ok (.aload_n 0, 1) := by decide +kernel
theorem dX12_mostFrom_161 : decode cX12_mostFrom 161 = .ok (.getfield 85, 3) := by decide +kernel
theorem dX12_mostFrom_164 : decode cX12_mostFrom 164 = .ok (.iload 4, 2) := by decide +kernel
theorem dX12_mostFrom_166 : decode cX12_mostFrom 166 = .ok (.baload, 1) := by decide +kernel
theorem dX12_mostFrom_167 : decode cX12_mostFrom 167 = .ok (.ifCond .eq 14, 3) := by decide +kernel
theorem dX12_mostFrom_170 : decode cX12_mostFrom 170 = .ok (.iload 5, 2) := by decide +kernel
theorem dX12_mostFrom_172 : decode cX12_mostFrom 172 = .ok (.iload_n 3, 1) := by decide +kernel
theorem dX12_mostFrom_173 : decode cX12_mostFrom 173 = .ok (.if_icmp .le 8, 3) := by decide +kernel
theorem dX12_mostFrom_176 : decode cX12_mostFrom 176 = .ok (.iload 5, 2) := by decide +kernel
theorem dX12_mostFrom_178 : decode cX12_mostFrom 178 = .ok (.goto 4, 3) := by decide +kernel
theorem dX12_mostFrom_181 : decode cX12_mostFrom 181 = .ok (.iload_n 3, 1) := by decide +kernel
theorem dX12_mostFrom_182 : decode cX12_mostFrom 182 = .ok (.istore_n 3, 1) := by decide +kernel
theorem dX12_mostFrom_183 : decode cX12_mostFrom 183 = .ok (.iinc 4 1, 3) := by decide +kernel
theorem dX12_mostFrom_186 : decode cX12_mostFrom 186 = .ok (.goto (-63), 3) := by decide +kernel
theorem dX12_mostFrom_189 : decode cX12_mostFrom 189 = .ok (.iload_n 3, 1) := by decide +kernel
theorem dX12_mostFrom_190 : decode cX12_mostFrom 190 = .ok (.ireturn, 1) := by decide +kernel
theorem dX12_mostOf_0 : decode cX12_mostOf 0 = .ok (.aload_n 0, 1) := by decide +kernel
theorem dX12_mostOf_1 : decode cX12_mostOf 1 = .ok (.iload_n 1, 1) := by decide +kernel
theorem dX12_mostOf_2 : decode cX12_mostOf 2 = .ok (.iload_n 2, 1) := by decide +kernel
theorem dX12_mostOf_3 : decode cX12_mostOf 3 = .ok (.invokevirtual 283, 3) := by decide +kernel
theorem dX12_mostOf_6 : decode cX12_mostOf 6 = .ok (.aload_n 0, 1) := by decide +kernel
theorem dX12_mostOf_7 : decode cX12_mostOf 7 = .ok (.iconst 0, 1) := by decide +kernel
theorem dX12_mostOf_8 : decode cX12_mostOf 8 = .ok (.iconst 0, 1) := by decide +kernel
theorem dX12_mostOf_9 : decode cX12_mostOf 9 = .ok (.invokevirtual 287, 3) := by decide +kernel
theorem dX12_mostOf_12 : decode cX12_mostOf 12 = .ok (.ireturn, 1) := by decide +kernel
theorem dX12_mostMet_0 : decode cX12_mostMet 0 = .ok (.aload_n 0, 1) := by decide +kernel
theorem dX12_mostMet_1 : decode cX12_mostMet 1 = .ok (.aload_n 0, 1) := by decide +kernel
theorem dX12_mostMet_2 : decode cX12_mostMet 2 = .ok (.iload_n 1, 1) := by decide +kernel
theorem dX12_mostMet_3 : decode cX12_mostMet 3 = .ok (.invokevirtual 158, 3) := by decide +kernel
theorem dX12_mostMet_6 : decode cX12_mostMet 6 = .ok (.ifCond .eq 7, 3) := by decide +kernel
theorem dX12_mostMet_9 : decode cX12_mostMet 9 = .ok (.iconst 0, 1) := by decide +kernel
theorem dX12_mostMet_10 : decode cX12_mostMet 10 = .ok (.goto 4, 3) := by decide +kernel
theorem dX12_mostMet_13 : decode cX12_mostMet 13 = .ok (.iconst 1, 1) := by decide +kernel
theorem dX12_mostMet_14 : decode cX12_mostMet 14 = .ok (.invokevirtual 144, 3) := by decide +kernel
theorem dX12_mostMet_17 : decode cX12_mostMet 17 = .ok (.ifCond .eq 12, 3) := by decide +kernel
theorem dX12_mostMet_20 : decode cX12_mostMet 20 = .ok (.aload_n 0, 1) := by decide +kernel
theorem dX12_mostMet_21 : decode cX12_mostMet 21 = .ok (.iload_n 1, 1) := by decide +kernel
theorem dX12_mostMet_22 : decode cX12_mostMet 22 = .ok (.iconst 0, 1) := by decide +kernel
theorem dX12_mostMet_23 : decode cX12_mostMet 23 = .ok (.invokevirtual 290, 3) := by decide +kernel
theorem dX12_mostMet_26 : decode cX12_mostMet 26 = .ok (.goto 4, 3) := by decide +kernel
theorem dX12_mostMet_29 : decode cX12_mostMet 29 = .ok (.iconst 0, 1) := by decide +kernel
theorem dX12_mostMet_30 : decode cX12_mostMet 30 = .ok (.ireturn, 1) := by decide +kernel
theorem dX12_mostMetByTrial_0 : decode cX12_mostMetByTrial 0 = .ok (.aload_n 0, 1) := by decide +kernel
theorem dX12_mostMetByTrial_1 : decode cX12_mostMetByTrial 1 = .ok (.iload_n 1, 1) := by decide +kernel
theorem dX12_mostMetByTrial_2 : decode cX12_mostMetByTrial 2 = .ok (.invokevirtual 294, 3) := by decide +kernel
theorem dX12_mostMetByTrial_5 : decode cX12_mostMetByTrial 5 = .ok (.ireturn, 1) := by decide +kernel
theorem dX12_mostMetIf_0 : decode cX12_mostMetIf 0 = .ok (.aload_n 0, 1) := by decide +kernel
theorem dX12_mostMetIf_1 : decode cX12_mostMetIf 1 = .ok (.aload_n 0, 1) := by decide +kernel
theorem dX12_mostMetIf_2 : decode cX12_mostMetIf 2 = .ok (.iload_n 1, 1) := by decide +kernel
theorem dX12_mostMetIf_3 : decode cX12_mostMetIf 3 = .ok (.invokevirtual 158, 3) := by decide +kernel
theorem dX12_mostMetIf_6 : decode cX12_mostMetIf 6 = .ok (.ifCond .eq 7, 3) := by decide +kernel
theorem dX12_mostMetIf_9 : decode cX12_mostMetIf 9 = .ok (.iconst 0, 1) := by decide +kernel
theorem dX12_mostMetIf_10 : decode cX12_mostMetIf 10 = .ok (.goto 4, 3) := by decide +kernel
theorem dX12_mostMetIf_13 : decode cX12_mostMetIf 13 = .ok (.iconst 1, 1) := by decide +kernel
theorem dX12_mostMetIf_14 : decode cX12_mostMetIf 14 = .ok (.invokevirtual 144, 3) := by decide +kernel
theorem dX12_mostMetIf_17 : decode cX12_mostMetIf 17 = .ok (.ifCond .eq 12, 3) := by decide +kernel
theorem dX12_mostMetIf_20 : decode cX12_mostMetIf 20 = .ok (.aload_n 0, 1) := by decide +kernel
theorem dX12_mostMetIf_21 : decode cX12_mostMetIf 21 = .ok (.iload_n 1, 1) := by decide +kernel
theorem dX12_mostMetIf_22 : decode cX12_mostMetIf 22 = .ok (.iconst 1, 1) := by decide +kernel
theorem dX12_mostMetIf_23 : decode cX12_mostMetIf 23 = .ok (.invokevirtual 290, 3) := by decide +kernel
theorem dX12_mostMetIf_26 : decode cX12_mostMetIf 26 = .ok (.goto 4, 3) := by decide +kernel
theorem dX12_mostMetIf_29 : decode cX12_mostMetIf 29 = .ok (.iconst 0, 1) := by decide +kernel
theorem dX12_mostMetIf_30 : decode cX12_mostMetIf 30 = .ok (.ireturn, 1) := by decide +kernel
theorem dX12_lackingOf_0 : decode cX12_lackingOf 0 = .ok (.aload_n 0, 1) := by decide +kernel
theorem dX12_lackingOf_1 : decode cX12_lackingOf 1 = .ok (.iload_n 1, 1) := by decide +kernel
theorem dX12_lackingOf_2 : decode cX12_lackingOf 2 = .ok (.iconst 0, 1) := by decide +kernel
theorem dX12_lackingOf_3 : decode cX12_lackingOf 3 = .ok (.invokevirtual 290, 3) := by decide +kernel
theorem dX12_lackingOf_6 : decode cX12_lackingOf 6 = .ok (.istore_n 2, 1) := by decide +kernel
theorem dX12_lackingOf_7 : decode cX12_lackingOf 7 = .ok (.iconst 0, 1) := by decide +kernel
theorem dX12_lackingOf_8 : decode cX12_lackingOf 8 = .ok (.istore_n 3, 1) := by decide +kernel
theorem dX12_lackingOf_9 : decode cX12_lackingOf 9 = .ok (.iconst 0, 1) := by decide +kernel
theorem dX12_lackingOf_10 : decode cX12_lackingOf 10 = .ok (.istore 4, 2) := by decide +kernel
theorem dX12_lackingOf_12 : decode cX12_lackingOf 12 = .ok (.iload 4, 2) := by decide +kernel
theorem dX12_lackingOf_14 : decode cX12_lackingOf 14 = .ok (.aload_n 0, 1) := by decide +kernel
theorem dX12_lackingOf_15 : decode cX12_lackingOf 15 = .ok (.getfield 271, 3) := by decide +kernel
theorem dX12_lackingOf_18 : decode cX12_lackingOf 18 = .ok (.if_icmp .ge 57, 3) := by decide +kernel
theorem dX12_lackingOf_21 : decode cX12_lackingOf 21 = .ok (.aload_n 0, 1) := by decide +kernel
theorem dX12_lackingOf_22 : decode cX12_lackingOf 22 = .ok (.getfield 82, 3) := by decide +kernel
theorem dX12_lackingOf_25 : decode cX12_lackingOf 25 = .ok (.iload 4, 2) := by decide +kernel
theorem dX12_lackingOf_27 : decode cX12_lackingOf 27 = .ok (.dup2, 1) := by decide +kernel
theorem dX12_lackingOf_28 : decode cX12_lackingOf 28 = .ok (.iaload, 1) := by decide +kernel
theorem dX12_lackingOf_29 : decode cX12_lackingOf 29 = .ok (.iconst 1, 1) := by decide +kernel
theorem dX12_lackingOf_30 : decode cX12_lackingOf 30 = .ok (.isub, 1) := by decide +kernel
theorem dX12_lackingOf_31 : decode cX12_lackingOf 31 = .ok (.iastore, 1) := by decide +kernel
theorem dX12_lackingOf_32 : decode cX12_lackingOf 32 = .ok (.iload_n 3, 1) := by decide +kernel
theorem dX12_lackingOf_33 : decode cX12_lackingOf 33 = .ok (.aload_n 0, 1) := by decide +kernel
theorem dX12_lackingOf_34 : decode cX12_lackingOf 34 = .ok (.iconst 0, 1) := by decide +kernel
theorem dX12_lackingOf_35 : decode cX12_lackingOf 35 = .ok (.iconst 0, 1) := by decide +kernel
theorem dX12_lackingOf_36 : decode cX12_lackingOf 36 = .ok (.invokevirtual 287, 3) := by decide +kernel
theorem dX12_lackingOf_39 : decode cX12_lackingOf 39 = .ok (.iload_n 2, 1) := by decide +kernel
theorem dX12_lackingOf_40 : decode cX12_lackingOf 40 = .ok (.if_icmp .ne 15, 3) := by decide +kernel
theorem dX12_lackingOf_43 : decode cX12_lackingOf 43 = .ok (.iconst 1, 1) := by decide +kernel
theorem dX12_lackingOf_44 : decode cX12_lackingOf 44 = .ok (.aload_n 0, 1) := by decide +kernel
theorem dX12_lackingOf_45 : decode cX12_lackingOf 45 = .ok (.getfield 79, 3) := by decide +kernel
theorem dX12_lackingOf_48 : decode cX12_lackingOf 48 = .ok (.iload 4, 2) := by decide +kernel
theorem dX12_lackingOf_50 : decode cX12_lackingOf 50 = .ok (.iaload, 1) := by decide +kernel
theorem dX12_lackingOf_51 : decode cX12_lackingOf 51 = .ok (.ishl, 1) := by decide +kernel
theorem dX12_lackingOf_52 : decode cX12_lackingOf 52 = .ok (.goto 4, 3) := by decide +kernel
theorem dX12_lackingOf_55 : decode cX12_lackingOf 55 = .ok (.iconst 0, 1) := by decide +kernel
theorem dX12_lackingOf_56 : decode cX12_lackingOf 56 = .ok (.iadd, 1) := by decide +kernel
theorem dX12_lackingOf_57 : decode cX12_lackingOf 57 = .ok (.istore_n 3, 1) := by decide +kernel
theorem dX12_lackingOf_58 : decode cX12_lackingOf 58 = .ok (.aload_n 0, 1) := by decide +kernel
theorem dX12_lackingOf_59 : decode cX12_lackingOf 59 = .ok (.getfield 82, 3) := by decide +kernel
theorem dX12_lackingOf_62 : decode cX12_lackingOf 62 = .ok (.iload 4, 2) := by decide +kernel
theorem dX12_lackingOf_64 : decode cX12_lackingOf 64 = .ok (.dup2, 1) := by decide +kernel
theorem dX12_lackingOf_65 : decode cX12_lackingOf 65 = .ok (.iaload, 1) := by decide +kernel
theorem dX12_lackingOf_66 : decode cX12_lackingOf 66 = .ok (.iconst 1, 1) := by decide +kernel
theorem dX12_lackingOf_67 : decode cX12_lackingOf 67 = .ok (.iadd, 1) := by decide +kernel
theorem dX12_lackingOf_68 : decode cX12_lackingOf 68 = .ok (.iastore, 1) := by decide +kernel
theorem dX12_lackingOf_69 : decode cX12_lackingOf 69 = .ok (.iinc 4 1, 3) := by decide +kernel
theorem dX12_lackingOf_72 : decode cX12_lackingOf 72 = .ok (.goto (-60), 3) := by decide +kernel
theorem dX12_lackingOf_75 : decode cX12_lackingOf 75 = .ok (.iload_n 3, 1) := by decide +kernel
theorem dX12_lackingOf_76 : decode cX12_lackingOf 76 = .ok (.ireturn, 1) := by decide +kernel
theorem dX12_lackingRules_0 : decode cX12_lackingRules 0 = .ok (.aload_n 0, 1) := by decide +kernel
theorem dX12_lackingRules_1 : decode cX12_lackingRules 1 = .ok (.aload_n 0, 1) := by decide +kernel
theorem dX12_lackingRules_2 : decode cX12_lackingRules 2 = .ok (.iload_n 1, 1) := by decide +kernel
theorem dX12_lackingRules_3 : decode cX12_lackingRules 3 = .ok (.invokevirtual 158, 3) := by decide +kernel
theorem dX12_lackingRules_6 : decode cX12_lackingRules 6 = .ok (.ifCond .eq 7, 3) := by decide +kernel
theorem dX12_lackingRules_9 : decode cX12_lackingRules 9 = .ok (.iconst 0, 1) := by decide +kernel
theorem dX12_lackingRules_10 : decode cX12_lackingRules 10 = .ok (.goto 4, 3) := by decide +kernel
theorem dX12_lackingRules_13 : decode cX12_lackingRules 13 = .ok (.iconst 1, 1) := by decide +kernel
theorem dX12_lackingRules_14 : decode cX12_lackingRules 14 = .ok (.invokevirtual 144, 3) := by decide +kernel
theorem dX12_lackingRules_17 : decode cX12_lackingRules 17 = .ok (.ifCond .eq 11, 3) := by decide +kernel
theorem dX12_lackingRules_20 : decode cX12_lackingRules 20 = .ok (.aload_n 0, 1) := by decide +kernel
theorem dX12_lackingRules_21 : decode cX12_lackingRules 21 = .ok (.iload_n 1, 1) := by decide +kernel
theorem dX12_lackingRules_22 : decode cX12_lackingRules 22 = .ok (.invokevirtual 297, 3) := by decide +kernel
theorem dX12_lackingRules_25 : decode cX12_lackingRules 25 = .ok (.goto 4, 3) := by decide +kernel
theorem dX12_lackingRules_28 : decode cX12_lackingRules 28 = .ok (.iconst 0, 1) := by decide +kernel
theorem dX12_lackingRules_29 : decode cX12_lackingRules 29 = .ok (.ireturn, 1) := by decide +kernel
theorem dX12_lackingByTrial_0 : decode cX12_lackingByTrial 0 = .ok (.aload_n 0, 1) := by decide +kernel
theorem dX12_lackingByTrial_1 : decode cX12_lackingByTrial 1 = .ok (.iload_n 1, 1) := by decide +kernel
theorem dX12_lackingByTrial_2 : decode cX12_lackingByTrial 2 = .ok (.invokevirtual 300, 3) := by decide +kernel
theorem dX12_lackingByTrial_5 : decode cX12_lackingByTrial 5 = .ok (.ireturn, 1) := by decide +kernel
theorem dX12_givenTo_0 : decode cX12_givenTo 0 = .ok (.aload_n 0, 1) := by decide +kernel
theorem dX12_givenTo_1 : decode cX12_givenTo 1 = .ok (.iload_n 1, 1) := by decide +kernel
theorem dX12_givenTo_2 : decode cX12_givenTo 2 = .ok (.iconst 0, 1) := by decide +kernel
theorem dX12_givenTo_3 : decode cX12_givenTo 3 = .ok (.invokevirtual 290, 3) := by decide +kernel
theorem dX12_givenTo_6 : decode cX12_givenTo 6 = .ok (.istore_n 3, 1) := by decide +kernel
theorem dX12_givenTo_7 : decode cX12_givenTo 7 = .ok (.iconst 0, 1) := by decide +kernel
theorem dX12_givenTo_8 : decode cX12_givenTo 8 = .ok (.istore 4, 2) := by decide +kernel
theorem dX12_givenTo_10 : decode cX12_givenTo 10 = .ok (.iconst (-1), 1) := by decide +kernel
theorem dX12_givenTo_11 : decode cX12_givenTo 11 = .ok (.istore 5, 2) := by decide +kernel
theorem dX12_givenTo_13 : decode cX12_givenTo 13 = .ok (.iconst 0, 1) := by decide +kernel
theorem dX12_givenTo_14 : decode cX12_givenTo 14 = .ok (.istore 6, 2) := by decide +kernel
theorem dX12_givenTo_16 : decode cX12_givenTo 16 = .ok (.iload 6, 2) := by decide +kernel
theorem dX12_givenTo_18 : decode cX12_givenTo 18 = .ok (.iload_n 2, 1) := by decide +kernel
theorem dX12_givenTo_19 : decode cX12_givenTo 19 = .ok (.if_icmp .gt 107, 3) := by decide +kernel
theorem dX12_givenTo_22 : decode cX12_givenTo 22 = .ok (.iconst (-1), 1) := by decide +kernel
theorem dX12_givenTo_23 : decode cX12_givenTo 23 = .ok (.istore 5, 2) := by decide +kernel
theorem dX12_givenTo_25 : decode cX12_givenTo 25 = .ok (.aload_n 0, 1) := by decide +kernel
theorem dX12_givenTo_26 : decode cX12_givenTo 26 = .ok (.getfield 271, 3) := by decide +kernel
theorem dX12_givenTo_29 : decode cX12_givenTo 29 = .ok (.iconst 1, 1) := by decide +kernel
theorem dX12_givenTo_30 : decode cX12_givenTo 30 = .ok (.isub, 1) := by decide +kernel
theorem dX12_givenTo_31 : decode cX12_givenTo 31 = .ok (.istore 7, 2) := by decide +kernel
theorem dX12_givenTo_33 : decode cX12_givenTo 33 = .ok (.iload 7, 2) := by decide +kernel
theorem dX12_givenTo_35 : decode cX12_givenTo 35 = .ok (.ifCond .lt 64, 3) := by decide +kernel
theorem dX12_givenTo_38 : decode cX12_givenTo 38 = .ok (.aload_n 0, 1) := by decide +kernel
theorem dX12_givenTo_39 : decode cX12_givenTo 39 = .ok (.iload 4, 2) := by decide +kernel
theorem dX12_givenTo_41 : decode cX12_givenTo 41 = .ok (.iload 6, 2) := by decide +kernel
theorem dX12_givenTo_43 : decode cX12_givenTo 43 = .ok (.iload 7, 2) := by decide +kernel
theorem dX12_givenTo_45 : decode cX12_givenTo 45 = .ok (.invokevirtual 280, 3) := by decide +kernel
theorem dX12_givenTo_48 : decode cX12_givenTo 48 = .ok (.ifCond .eq 28, 3) := by decide +kernel
theorem dX12_givenTo_51 : decode cX12_givenTo 51 = .ok (.aload_n 0, 1) := by decide +kernel
theorem dX12_givenTo_52 : decode cX12_givenTo 52 = .ok (.iload 4, 2) := by decide +kernel
theorem dX12_givenTo_54 : decode cX12_givenTo 54 = .ok (.iconst 1, 1) := by decide +kernel
theorem dX12_givenTo_55 : decode cX12_givenTo 55 = .ok (.iconst 2, 1) := by decide +kernel
theorem dX12_givenTo_56 : decode cX12_givenTo 56 = .ok (.iload 7, 2) := by decide +kernel
theorem dX12_givenTo_58 : decode cX12_givenTo 58 = .ok (.imul, 1) := by decide +kernel
theorem dX12_givenTo_59 : decode cX12_givenTo 59 = .ok (.ishl, 1) := by decide +kernel
theorem dX12_givenTo_60 : decode cX12_givenTo 60 = .ok (.iadd, 1) := by decide +kernel
theorem dX12_givenTo_61 : decode cX12_givenTo 61 = .ok (.iload 6, 2) := by decide +kernel
theorem dX12_givenTo_63 : decode cX12_givenTo 63 = .ok (.iconst 1, 1) := by decide +kernel
theorem dX12_givenTo_64 : decode cX12_givenTo 64 = .ok (.iadd, 1) := by decide +kernel
theorem dX12_givenTo_65 : decode cX12_givenTo 65 = .ok (.invokevirtual 287, 3) := by decide +kernel
theorem dX12_givenTo_68 : decode cX12_givenTo 68 = .ok (.iload_n 3, 1) := by decide +kernel
theorem dX12_givenTo_69 : decode cX12_givenTo 69 = .ok (.if_icmp .ne 7, 3) := by decide +kernel
theorem dX12_givenTo_72 : decode cX12_givenTo 72 = .ok (.iconst 1, 1) := by decide +kernel
theorem dX12_givenTo_73 : decode cX12_givenTo 73 = .ok (.goto 4, 3) := by decide +kernel
theorem dX12_givenTo_76 : decode cX12_givenTo 76 = .ok (.iconst 0, 1) := by decide +kernel
theorem dX12_givenTo_77 : decode cX12_givenTo 77 = .ok (.istore 8, 2) := by decide +kernel
theorem dX12_givenTo_79 : decode cX12_givenTo 79 = .ok (.iload 8, 2) := by decide +kernel
theorem dX12_givenTo_81 : decode cX12_givenTo 81 = .ok (.ifCond .eq 8, 3) := by decide +kernel
theorem dX12_givenTo_84 : decode cX12_givenTo 84 = .ok (.iload 7, 2) := by decide +kernel
theorem dX12_givenTo_86 : decode cX12_givenTo 86 = .ok (.goto 5, 3) := by decide +kernel
theorem dX12_givenTo_89 : decode cX12_givenTo 89 = .ok (.iload 5, 2) := by decide +kernel
theorem dX12_givenTo_91 : decode cX12_givenTo 91 = .ok (.istore 5, 2) := by decide +kernel
theorem dX12_givenTo_93 : decode cX12_givenTo 93 = .ok (.iinc 7 (-1), 3) := by decide +kernel
theorem dX12_givenTo_96 : decode cX12_givenTo 96 = .ok (.goto (-63), 3) := by decide +kernel
theorem dX12_givenTo_99 : decode cX12_givenTo 99 = .ok (.iload 4, 2) := by decide +kernel
theorem dX12_givenTo_101 : decode cX12_givenTo 101 = .ok (.iload 5, 2) := by decide +kernel
theorem dX12_givenTo_103 : decode cX12_givenTo 103 = .ok (.iconst (-1), 1) := by decide +kernel
theorem dX12_givenTo_104 : decode cX12_givenTo 104 = .ok (.if_icmp .ne 7, 3) := by decide +kernel
theorem dX12_givenTo_107 : decode cX12_givenTo 107 = .ok (.iconst 0, 1) := by decide +kernel
theorem dX12_givenTo_108 : decode cX12_givenTo 108 = .ok (.goto 9, 3) := by decide +kernel
theorem dX12_givenTo_111 : decode cX12_givenTo 111 = .ok (.iconst 1, 1) := by decide +kernel
theorem dX12_givenTo_112 : decode cX12_givenTo 112 = .ok (.iconst 2, 1) := by decide +kernel
theorem dX12_givenTo_113 : decode cX12_givenTo 113 = .ok (.iload 5, 2) := by decide +kernel
theorem dX12_givenTo_115 : decode cX12_givenTo 115 = .ok (.imul, 1) := by decide +kernel
theorem dX12_givenTo_116 : decode cX12_givenTo 116 = .ok (.ishl, 1) := by decide +kernel
theorem dX12_givenTo_117 : decode cX12_givenTo 117 = .ok (.iadd, 1) := by decide +kernel
theorem dX12_givenTo_118 : decode cX12_givenTo 118 = .ok (.istore 4, 2) := by decide +kernel
theorem dX12_givenTo_120 : decode cX12_givenTo 120 = .ok (.iinc 6 1, 3) := by decide +kernel
theorem dX12_givenTo_123 : decode cX12_givenTo 123 = .ok (.goto (-107), 3) := by decide +kernel
theorem dX12_givenTo_126 : decode cX12_givenTo 126 = .ok (.iload 5, 2) := by decide +kernel
theorem dX12_givenTo_128 : decode cX12_givenTo 128 = .ok (.ireturn, 1) := by decide +kernel
theorem dX12_ruleFor_0 : decode cX12_ruleFor 0 = .ok (.aload_n 0, 1) := by decide +kernel
theorem dX12_ruleFor_1 : decode cX12_ruleFor 1 = .ok (.iload_n 1, 1) := by decide +kernel
theorem dX12_ruleFor_2 : decode cX12_ruleFor 2 = .ok (.invokevirtual 158, 3) := by decide +kernel
theorem dX12_ruleFor_5 : decode cX12_ruleFor 5 = .ok (.ifCond .eq 15, 3) := by decide +kernel
theorem dX12_ruleFor_8 : decode cX12_ruleFor 8 = .ok (.aload_n 0, 1) := by decide +kernel
theorem dX12_ruleFor_9 : decode cX12_ruleFor 9 = .ok (.iload_n 2, 1) := by decide +kernel
theorem dX12_ruleFor_10 : decode cX12_ruleFor 10 = .ok (.invokevirtual 151, 3) := by decide +kernel
theorem dX12_ruleFor_13 : decode cX12_ruleFor 13 = .ok (.ifCond .eq 7, 3) := by decide +kernel
theorem dX12_ruleFor_16 : decode cX12_ruleFor 16 = .ok (.iconst 1, 1) := by decide +kernel
theorem dX12_ruleFor_17 : decode cX12_ruleFor 17 = .ok (.goto 4, 3) := by decide +kernel
theorem dX12_ruleFor_20 : decode cX12_ruleFor 20 = .ok (.iconst 0, 1) := by decide +kernel
theorem dX12_ruleFor_21 : decode cX12_ruleFor 21 = .ok (.istore_n 3, 1) := by decide +kernel
theorem dX12_ruleFor_22 : decode cX12_ruleFor 22 = .ok (.iload_n 3, 1) := by decide +kernel
theorem dX12_ruleFor_23 : decode cX12_ruleFor 23 = .ok (.ifCond .eq 12, 3) := by decide +kernel
theorem dX12_ruleFor_26 : decode cX12_ruleFor 26 = .ok (.aload_n 0, 1) := by decide +kernel
theorem dX12_ruleFor_27 : decode cX12_ruleFor 27 = .ok (.iload_n 1, 1) := by decide +kernel
theorem dX12_ruleFor_28 : decode cX12_ruleFor 28 = .ok (.iload_n 2, 1) := by decide +kernel
theorem dX12_ruleFor_29 : decode cX12_ruleFor 29 = .ok (.invokevirtual 303, 3) := by decide +kernel
theorem dX12_ruleFor_32 : decode cX12_ruleFor 32 = .ok (.goto 4, 3) := by decide +kernel
theorem dX12_ruleFor_35 : decode cX12_ruleFor 35 = .ok (.iconst (-1), 1) := by decide +kernel
theorem dX12_ruleFor_36 : decode cX12_ruleFor 36 = .ok (.istore 4, 2) := by decide +kernel
theorem dX12_ruleFor_38 : decode cX12_ruleFor 38 = .ok (.aload_n 0, 1) := by decide +kernel
theorem dX12_ruleFor_39 : decode cX12_ruleFor 39 = .ok (.iload_n 3, 1) := by decide +kernel
theorem dX12_ruleFor_40 : decode cX12_ruleFor 40 = .ok (.ifCond .ne 7, 3) := by decide +kernel
theorem dX12_ruleFor_43 : decode cX12_ruleFor 43 = .ok (.iconst 1, 1) := by decide +kernel
theorem dX12_ruleFor_44 : decode cX12_ruleFor 44 = .ok (.goto 14, 3) := by decide +kernel
theorem dX12_ruleFor_47 : decode cX12_ruleFor 47 = .ok (.iload 4, 2) := by decide +kernel
theorem dX12_ruleFor_49 : decode cX12_ruleFor 49 = .ok (.iconst (-1), 1) := by decide +kernel
theorem dX12_ruleFor_50 : decode cX12_ruleFor 50 = .ok (.if_icmp .ne 7, 3) := by decide +kernel
theorem dX12_ruleFor_53 : decode cX12_ruleFor 53 = .ok (.iconst 2, 1) := by decide +kernel
theorem dX12_ruleFor_54 : decode cX12_ruleFor 54 = .ok (.goto 4, 3) := by decide +kernel
theorem dX12_ruleFor_57 : decode cX12_ruleFor 57 = .ok (.iconst 0, 1) := by decide +kernel
theorem dX12_ruleFor_58 : decode cX12_ruleFor 58 = .ok (.invokevirtual 144, 3) := by decide +kernel
theorem dX12_ruleFor_61 : decode cX12_ruleFor 61 = .ok (.ifCond .eq 13, 3) := by decide +kernel
theorem dX12_ruleFor_64 : decode cX12_ruleFor 64 = .ok (.aload_n 0, 1) := by decide +kernel
theorem dX12_ruleFor_65 : decode cX12_ruleFor 65 = .ok (.getfield 79, 3) := by decide +kernel
theorem dX12_ruleFor_68 : decode cX12_ruleFor 68 = .ok (.iload 4, 2) := by decide +kernel
theorem dX12_ruleFor_70 : decode cX12_ruleFor 70 = .ok (.iaload, 1) := by decide +kernel
theorem dX12_ruleFor_71 : decode cX12_ruleFor 71 = .ok (.goto 4, 3) := by decide +kernel
theorem dX12_ruleFor_74 : decode cX12_ruleFor 74 = .ok (.iconst 0, 1) := by decide +kernel
theorem dX12_ruleFor_75 : decode cX12_ruleFor 75 = .ok (.ireturn, 1) := by decide +kernel
theorem dX12_setDegree_0 : decode cX12_setDegree 0 = .ok (.aload_n 0, 1) := by decide +kernel
theorem dX12_setDegree_1 : decode cX12_setDegree 1 = .ok (.iload_n 1, 1) := by decide +kernel
theorem dX12_setDegree_2 : decode cX12_setDegree 2 = .ok (.iconst 0, 1) := by decide +kernel
theorem dX12_setDegree_3 : decode cX12_setDegree 3 = .ok (.iconst 3, 1) := by decide +kernel
theorem dX12_setDegree_4 : decode cX12_setDegree 4 = .ok (.invokestatic 96, 3) := by decide +kernel
theorem dX12_setDegree_7 : decode cX12_setDegree 7 = .ok (.ifCond .eq 13, 3) := by decide +kernel
theorem dX12_setDegree_10 : decode cX12_setDegree 10 = .ok (.iload_n 2, 1) := by decide +kernel
theorem dX12_setDegree_11 : decode cX12_setDegree 11 = .ok (.iconst 0, 1) := by decide +kernel
theorem dX12_setDegree_12 : decode cX12_setDegree 12 = .ok (.bipush 120, 2) := by decide +kernel
theorem dX12_setDegree_14 : decode cX12_setDegree 14 = .ok (.invokestatic 96, 3) := by decide +kernel
theorem dX12_setDegree_17 : decode cX12_setDegree 17 = .ok (.ifCond .ne 7, 3) := by decide +kernel
theorem dX12_setDegree_20 : decode cX12_setDegree 20 = .ok (.iconst 1, 1) := by decide +kernel
theorem dX12_setDegree_21 : decode cX12_setDegree 21 = .ok (.goto 4, 3) := by decide +kernel
theorem dX12_setDegree_24 : decode cX12_setDegree 24 = .ok (.iconst 0, 1) := by decide +kernel
theorem dX12_setDegree_25 : decode cX12_setDegree 25 = .ok (.invokevirtual 144, 3) := by decide +kernel
theorem dX12_setDegree_28 : decode cX12_setDegree 28 = .ok (.ifCond .ne 5, 3) := by decide +kernel
theorem dX12_setDegree_31 : decode cX12_setDegree 31 = .ok (.iconst 0, 1) := by decide +kernel
theorem dX12_setDegree_32 : decode cX12_setDegree 32 = .ok (.ireturn, 1) := by decide +kernel
theorem dX12_setDegree_33 : decode cX12_setDegree 33 = .ok (.aload_n 0, 1) := by decide +kernel
theorem dX12_setDegree_34 : decode cX12_setDegree 34 = .ok (.getfield 73, 3) := by decide +kernel
theorem dX12_setDegree_37 : decode cX12_setDegree 37 = .ok (.iload_n 1, 1) := by decide +kernel
theorem dX12_setDegree_38 : decode cX12_setDegree 38 = .ok (.iaload, 1) := by decide +kernel
theorem dX12_setDegree_39 : decode cX12_setDegree 39 = .ok (.istore_n 3, 1) := by decide +kernel
theorem dX12_setDegree_40 : decode cX12_setDegree 40 = .ok (.aload_n 0, 1) := by decide +kernel
theorem dX12_setDegree_41 : decode cX12_setDegree 41 = .ok (.getfield 73, 3) := by decide +kernel
theorem dX12_setDegree_44 : decode cX12_setDegree 44 = .ok (.iload_n 1, 1) := by decide +kernel
theorem dX12_setDegree_45 : decode cX12_setDegree 45 = .ok (.iload_n 2, 1) := by decide +kernel
theorem dX12_setDegree_46 : decode cX12_setDegree 46 = .ok (.iastore, 1) := by decide +kernel
theorem dX12_setDegree_47 : decode cX12_setDegree 47 = .ok (.iload_n 3, 1) := by decide +kernel
theorem dX12_setDegree_48 : decode cX12_setDegree 48 = .ok (.ireturn, 1) := by decide +kernel
theorem dX12_canGraduate_0 : decode cX12_canGraduate 0 = .ok (.aload_n 0, 1) := by decide +kernel
theorem dX12_canGraduate_1 : decode cX12_canGraduate 1 = .ok (.aload_n 0, 1) := by decide +kernel
theorem dX12_canGraduate_2 : decode cX12_canGraduate 2 = .ok (.iload_n 1, 1) := by decide +kernel
theorem dX12_canGraduate_3 : decode cX12_canGraduate 3 = .ok (.invokevirtual 158, 3) := by decide +kernel
theorem dX12_canGraduate_6 : decode cX12_canGraduate 6 = .ok (.ifCond .eq 7, 3) := by decide +kernel
theorem dX12_canGraduate_9 : decode cX12_canGraduate 9 = .ok (.iconst 0, 1) := by decide +kernel
theorem dX12_canGraduate_10 : decode cX12_canGraduate 10 = .ok (.goto 4, 3) := by decide +kernel
theorem dX12_canGraduate_13 : decode cX12_canGraduate 13 = .ok (.iconst 1, 1) := by decide +kernel
theorem dX12_canGraduate_14 : decode cX12_canGraduate 14 = .ok (.invokevirtual 144, 3) := by decide +kernel
theorem dX12_canGraduate_17 : decode cX12_canGraduate 17 = .ok (.ifCond .ne 5, 3) := by decide +kernel
theorem dX12_canGraduate_20 : decode cX12_canGraduate 20 = .ok (.iconst 0, 1) := by decide +kernel
theorem dX12_canGraduate_21 : decode cX12_canGraduate 21 = .ok (.ireturn, 1) := by decide +kernel
theorem dX12_canGraduate_22 : decode cX12_canGraduate 22 = .ok (.aload_n 0, 1) := by decide +kernel
theorem dX12_canGraduate_23 : decode cX12_canGraduate 23 = .ok (.iload_n 1, 1) := by decide +kernel
theorem dX12_canGraduate_24 : decode cX12_canGraduate 24 = .ok (.iconst 0, 1) := by decide +kernel
theorem dX12_canGraduate_25 : decode cX12_canGraduate 25 = .ok (.invokevirtual 290, 3) := by decide +kernel
theorem dX12_canGraduate_28 : decode cX12_canGraduate 28 = .ok (.istore_n 2, 1) := by decide +kernel
theorem dX12_canGraduate_29 : decode cX12_canGraduate 29 = .ok (.iconst 0, 1) := by decide +kernel
theorem dX12_canGraduate_30 : decode cX12_canGraduate 30 = .ok (.istore_n 3, 1) := by decide +kernel
theorem dX12_canGraduate_31 : decode cX12_canGraduate 31 = .ok (.iconst 0, 1) := by decide +kernel
theorem dX12_canGraduate_32 : decode cX12_canGraduate 32 = .ok (.istore 4, 2) := by decide +kernel
theorem dX12_canGraduate_34 : decode cX12_canGraduate 34 = .ok (.iload 4, 2) := by decide +kernel
theorem dX12_canGraduate_36 : decode cX12_canGraduate 36 = .ok (.aload_n 0, 1) := by decide +kernel
theorem dX12_canGraduate_37 : decode cX12_canGraduate 37 = .ok (.getfield 271, 3) := by decide +kernel
theorem dX12_canGraduate_40 : decode cX12_canGraduate 40 = .ok (.if_icmp .ge 19, 3) := by decide +kernel
theorem dX12_canGraduate_43 : decode cX12_canGraduate 43 = .ok (.iload_n 3, 1) := by decide +kernel
theorem dX12_canGraduate_44 : decode cX12_canGraduate 44 = .ok (.aload_n 0, 1) := by decide +kernel
theorem dX12_canGraduate_45 : decode cX12_canGraduate 45 = .ok (.getfield 82, 3) := by decide +kernel
theorem dX12_canGraduate_48 : decode cX12_canGraduate 48 = .ok (.iload 4, 2) := by decide +kernel
theorem dX12_canGraduate_50 : decode cX12_canGraduate 50 = .ok (.iaload, 1) := by decide +kernel
theorem dX12_canGraduate_51 : decode cX12_canGraduate 51 = .ok (.iadd, 1) := by decide +kernel
theorem dX12_canGraduate_52 : decode cX12_canGraduate 52 = .ok (.istore_n 3, 1) := by decide +kernel
theorem dX12_canGraduate_53 : decode cX12_canGraduate 53 = .ok (.iinc 4 1, 3) := by decide +kernel
theorem dX12_canGraduate_56 : decode cX12_canGraduate 56 = .ok (.goto (-22), 3) := by decide +kernel
theorem dX12_canGraduate_59 : decode cX12_canGraduate 59 = .ok (.iload_n 2, 1) := by decide +kernel
theorem dX12_canGraduate_60 : decode cX12_canGraduate 60 = .ok (.iload_n 3, 1) := by decide +kernel
theorem dX12_canGraduate_61 : decode cX12_canGraduate 61 = .ok (.if_icmp .ne 26, 3) := by decide +kernel
theorem dX12_canGraduate_64 : decode cX12_canGraduate 64 = .ok (.aload_n 0, 1) := by decide +kernel
theorem dX12_canGraduate_65 : decode cX12_canGraduate 65 = .ok (.iload_n 1, 1) := by decide +kernel
theorem dX12_canGraduate_66 : decode cX12_canGraduate 66 = .ok (.invokevirtual 127, 3) := by decide +kernel
theorem dX12_canGraduate_69 : decode cX12_canGraduate 69 = .ok (.aload_n 0, 1) := by decide +kernel
theorem dX12_canGraduate_70 : decode cX12_canGraduate 70 = .ok (.getfield 73, 3) := by decide +kernel
theorem dX12_canGraduate_73 : decode cX12_canGraduate 73 = .ok (.aload_n 0, 1) := by decide +kernel
theorem dX12_canGraduate_74 : decode cX12_canGraduate 74 = .ok (.getfield 28, 3) := by decide +kernel
theorem dX12_canGraduate_77 : decode cX12_canGraduate 77 = .ok (.iload_n 1, 1) := by decide +kernel
theorem dX12_canGraduate_78 : decode cX12_canGraduate 78 = .ok (.iaload, 1) := by decide +kernel
theorem dX12_canGraduate_79 : decode cX12_canGraduate 79 = .ok (.iaload, 1) := by decide +kernel
theorem dX12_canGraduate_80 : decode cX12_canGraduate 80 = .ok (.if_icmp .lt 7, 3) := by decide +kernel
theorem dX12_canGraduate_83 : decode cX12_canGraduate 83 = .ok (.iconst 1, 1) := by decide +kernel
theorem dX12_canGraduate_84 : decode cX12_canGraduate 84 = .ok (.goto 4, 3) := by decide +kernel
theorem dX12_canGraduate_87 : decode cX12_canGraduate 87 = .ok (.iconst 0, 1) := by decide +kernel
theorem dX12_canGraduate_88 : decode cX12_canGraduate 88 = .ok (.ireturn, 1) := by decide +kernel
theorem dX12_isSoundFor_0 : decode cX12_isSoundFor 0 = .ok (.aload_n 0, 1) := by decide +kernel
theorem dX12_isSoundFor_1 : decode cX12_isSoundFor 1 = .ok (.aload_n 0, 1) := by decide +kernel
theorem dX12_isSoundFor_2 : decode cX12_isSoundFor 2 = .ok (.getfield 31, 3) := by decide +kernel
theorem dX12_isSoundFor_5 : decode cX12_isSoundFor 5 = .ok (.iload_n 1, 1) := by decide +kernel
theorem dX12_isSoundFor_6 : decode cX12_isSoundFor 6 = .ok (.iaload, 1) := by decide +kernel
theorem dX12_isSoundFor_7 : decode cX12_isSoundFor 7 = .ok (.invokevirtual 123, 3) := by decide +kernel
theorem dX12_isSoundFor_10 : decode cX12_isSoundFor 10 = .ok (.bipush 18, 2) := by decide +kernel
theorem dX12_isSoundFor_12 : decode cX12_isSoundFor 12 = .ok (.if_icmp .gt 7, 3) := by decide +kernel
theorem dX12_isSoundFor_15 : decode cX12_isSoundFor 15 = .ok (.iconst 1, 1) := by decide +kernel
theorem dX12_isSoundFor_16 : decode cX12_isSoundFor 16 = .ok (.goto 4, 3) := by decide +kernel
theorem dX12_isSoundFor_19 : decode cX12_isSoundFor 19 = .ok (.iconst 0, 1) := by decide +kernel
theorem dX12_isSoundFor_20 : decode cX12_isSoundFor 20 = .ok (.istore_n 2, 1) := by decide +kernel
theorem dX12_isSoundFor_21 : decode cX12_isSoundFor 21 = .ok (.iconst 0, 1) := by decide +kernel
theorem dX12_isSoundFor_22 : decode cX12_isSoundFor 22 = .ok (.istore_n 3, 1) := by decide +kernel
theorem dX12_isSoundFor_23 : decode cX12_isSoundFor 23 = .ok (.iload_n 3, 1) := by decide +kernel
theorem dX12_isSoundFor_24 : decode cX12_isSoundFor 24 = .ok (.aload_n 0, 1) := by decide +kernel
theorem dX12_isSoundFor_25 : decode cX12_isSoundFor 25 = .ok (.getfield 93, 3) := by decide +kernel
theorem dX12_isSoundFor_28 : decode cX12_isSoundFor 28 = .ok (.if_icmp .ge 51, 3) := by decide +kernel
theorem dX12_isSoundFor_31 : decode cX12_isSoundFor 31 = .ok (.iload_n 2, 1) := by decide +kernel
theorem dX12_isSoundFor_32 : decode cX12_isSoundFor 32 = .ok (.ifCond .eq 39, 3) := by decide +kernel
theorem dX12_isSoundFor_35 : decode cX12_isSoundFor 35 = .ok (.aload_n 0, 1) := by decide +kernel
theorem dX12_isSoundFor_36 : decode cX12_isSoundFor 36 = .ok (.iload_n 3, 1) := by decide +kernel
theorem dX12_isSoundFor_37 : decode cX12_isSoundFor 37 = .ok (.iload_n 1, 1) := by decide +kernel
theorem dX12_isSoundFor_38 : decode cX12_isSoundFor 38 = .ok (.invokevirtual 202, 3) := by decide +kernel
theorem dX12_isSoundFor_41 : decode cX12_isSoundFor 41 = .ok (.iconst (-1), 1) := by decide +kernel
theorem dX12_isSoundFor_42 : decode cX12_isSoundFor 42 = .ok (.if_icmp .eq 25, 3) := by decide +kernel
theorem dX12_isSoundFor_45 : decode cX12_isSoundFor 45 = .ok (.aload_n 0, 1) := by decide +kernel
theorem dX12_isSoundFor_46 : decode cX12_isSoundFor 46 = .ok (.getfield 31, 3) := by decide +kernel
theorem dX12_isSoundFor_49 : decode cX12_isSoundFor 49 = .ok (.iload_n 1, 1) := by decide +kernel
theorem dX12_isSoundFor_50 : decode cX12_isSoundFor 50 = .ok (.iaload, 1) := by decide +kernel
theorem dX12_isSoundFor_51 : decode cX12_isSoundFor 51 = .ok (.iload_n 3, 1) := by decide +kernel
theorem dX12_isSoundFor_52 : decode cX12_isSoundFor 52 = .ok (.invokestatic 106, 3) := by decide +kernel
theorem dX12_isSoundFor_55 : decode cX12_isSoundFor 55 = .ok (.ifCond .ne 16, 3) := by decide +kernel
theorem dX12_isSoundFor_58 : decode cX12_isSoundFor 58 = .ok (.aload_n 0, 1) := by decide +kernel
theorem dX12_isSoundFor_59 : decode cX12_isSoundFor 59 = .ok (.iload_n 1, 1) := by decide +kernel
theorem dX12_isSoundFor_60 : decode cX12_isSoundFor 60 = .ok (.iload_n 3, 1) := by decide +kernel
theorem dX12_isSoundFor_61 : decode cX12_isSoundFor 61 = .ok (.invokevirtual 179, 3) := by decide +kernel
theorem dX12_isSoundFor_64 : decode cX12_isSoundFor 64 = .ok (.ifCond .ne 7, 3) := by decide +kernel
theorem dX12_isSoundFor_67 : decode cX12_isSoundFor 67 = .ok (.iconst 1, 1) := by decide +kernel
theorem dX12_isSoundFor_68 : decode cX12_isSoundFor 68 = .ok (.goto 4, 3) := by decide +kernel
theorem dX12_isSoundFor_71 : decode cX12_isSoundFor 71 = .ok (.iconst 0, 1) := by decide +kernel
theorem dX12_isSoundFor_72 : decode cX12_isSoundFor 72 = .ok (.istore_n 2, 1) := by decide +kernel
theorem dX12_isSoundFor_73 : decode cX12_isSoundFor 73 = .ok (.iinc 3 1, 3) := by decide +kernel
theorem dX12_isSoundFor_76 : decode cX12_isSoundFor 76 = .ok (.goto (-53), 3) := by decide +kernel
theorem dX12_isSoundFor_79 : decode cX12_isSoundFor 79 = .ok (.iload_n 2, 1) := by decide +kernel
theorem dX12_isSoundFor_80 : decode cX12_isSoundFor 80 = .ok (.ireturn, 1) := by decide +kernel
theorem dX12_isSound_0 : decode cX12_isSound 0 = .ok (.aload_n 0, 1) := by decide +kernel
theorem dX12_isSound_1 : decode cX12_isSound 1 = .ok (.iconst 0, 1) := by decide +kernel
theorem dX12_isSound_2 : decode cX12_isSound 2 = .ok (.putfield 89, 3) := by decide +kernel
theorem dX12_isSound_5 : decode cX12_isSound 5 = .ok (.iconst 1, 1) := by decide +kernel
theorem dX12_isSound_6 : decode cX12_isSound 6 = .ok (.istore_n 1, 1) := by decide +kernel
theorem dX12_isSound_7 : decode cX12_isSound 7 = .ok (.iconst 0, 1) := by decide +kernel
theorem dX12_isSound_8 : decode cX12_isSound 8 = .ok (.istore_n 2, 1) := by decide +kernel
theorem dX12_isSound_9 : decode cX12_isSound 9 = .ok (.iload_n 2, 1) := by decide +kernel
theorem dX12_isSound_10 : decode cX12_isSound 10 = .ok (.aload_n 0, 1) := by decide +kernel
theorem dX12_isSound_11 : decode cX12_isSound 11 = .ok (.getfield 93, 3) := by decide +kernel
theorem dX12_isSound_14 : decode cX12_isSound 14 = .ok (.if_icmp .ge 33, 3) := by decide +kernel
theorem dX12_isSound_17 : decode cX12_isSound 17 = .ok (.iload_n 1, 1) := by decide +kernel
theorem dX12_isSound_18 : decode cX12_isSound 18 = .ok (.ifCond .eq 21, 3) := by decide +kernel
theorem dX12_isSound_21 : decode cX12_isSound 21 = .ok (.aload_n 0, 1) := by decide +kernel
theorem dX12_isSound_22 : decode cX12_isSound 22 = .ok (.iload_n 2, 1) := by decide +kernel
theorem dX12_isSound_23 : decode cX12_isSound 23 = .ok (.invokevirtual 161, 3) := by decide +kernel
theorem dX12_isSound_26 : decode cX12_isSound 26 = .ok (.aload_n 0, 1) := by decide +kernel
theorem dX12_isSound_27 : decode cX12_isSound 27 = .ok (.getfield 13, 3) := by decide +kernel
theorem dX12_isSound_30 : decode cX12_isSound 30 = .ok (.iload_n 2, 1) := by decide +kernel
theorem dX12_isSound_31 : decode cX12_isSound 31 = .ok (.iaload, 1) := by decide +kernel
theorem dX12_isSound_32 : decode cX12_isSound 32 = .ok (.if_icmp .gt 7, 3) := by decide +kernel
theorem dX12_isSound_35 : decode cX12_isSound 35 = .ok (.iconst 1, 1) := by decide +kernel
theorem dX12_isSound_36 : decode cX12_isSound 36 = .ok (.goto 4, 3) := by decide +kernel
theorem dX12_isSound_39 : decode cX12_isSound 39 = .ok (.iconst 0, 1) := by decide +kernel
theorem dX12_isSound_40 : decode cX12_isSound 40 = .ok (.istore_n 1, 1) := by decide +kernel
theorem dX12_isSound_41 : decode cX12_isSound 41 = .ok (.iinc 2 1, 3) := by decide +kernel
theorem dX12_isSound_44 : decode cX12_isSound 44 = .ok (.goto (-35), 3) := by decide +kernel
theorem dX12_isSound_47 : decode cX12_isSound 47 = .ok (.iconst 0, 1) := by decide +kernel
theorem dX12_isSound_48 : decode cX12_isSound 48 = .ok (.istore_n 2, 1) := by decide +kernel
theorem dX12_isSound_49 : decode cX12_isSound 49 = .ok (.iload_n 2, 1) := by decide +kernel
theorem dX12_isSound_50 : decode cX12_isSound 50 = .ok (.aload_n 0, 1) := by decide +kernel
theorem dX12_isSound_51 : decode cX12_isSound 51 = .ok (.getfield 100, 3) := by decide +kernel
theorem dX12_isSound_54 : decode cX12_isSound 54 = .ok (.if_icmp .ge 27, 3) := by decide +kernel
theorem dX12_isSound_57 : decode cX12_isSound 57 = .ok (.iload_n 1, 1) := by decide +kernel
theorem dX12_isSound_58 : decode cX12_isSound 58 = .ok (.ifCond .eq 15, 3) := by decide +kernel
theorem dX12_isSound_61 : decode cX12_isSound 61 = .ok (.aload_n 0, 1) := by decide +kernel
theorem dX12_isSound_62 : decode cX12_isSound 62 = .ok (.iload_n 2, 1) := by decide +kernel
theorem dX12_isSound_63 : decode cX12_isSound 63 = .ok (.invokevirtual 306, 3) := by decide +kernel
theorem dX12_isSound_66 : decode cX12_isSound 66 = .ok (.ifCond .eq 7, 3) := by decide +kernel
theorem dX12_isSound_69 : decode cX12_isSound 69 = .ok (.iconst 1, 1) := by decide +kernel
theorem dX12_isSound_70 : decode cX12_isSound 70 = .ok (.goto 4, 3) := by decide +kernel
theorem dX12_isSound_73 : decode cX12_isSound 73 = .ok (.iconst 0, 1) := by decide +kernel
theorem dX12_isSound_74 : decode cX12_isSound 74 = .ok (.istore_n 1, 1) := by decide +kernel
theorem dX12_isSound_75 : decode cX12_isSound 75 = .ok (.iinc 2 1, 3) := by decide +kernel
theorem dX12_isSound_78 : decode cX12_isSound 78 = .ok (.goto (-29), 3) := by decide +kernel
theorem dX12_isSound_81 : decode cX12_isSound 81 = .ok (.iload_n 1, 1) := by decide +kernel
theorem dX12_isSound_82 : decode cX12_isSound 82 = .ok (.ireturn, 1) := by decide +kernel
theorem dJx00060_init_a7421_0 : decode cJx00060_init_a7421 0 = .ok (.aload_n 0, 1) := by decide +kernel
theorem dJx00060_init_a7421_1 : decode cJx00060_init_a7421 1 = .ok (.aload_n 1, 1) := by decide +kernel
theorem dJx00060_init_a7421_2 : decode cJx00060_init_a7421 2 = .ok (.invokespecial 7, 3) := by decide +kernel
theorem dJx00060_init_a7421_5 : decode cJx00060_init_a7421 5 = .ok (.return_, 1) := by decide +kernel
theorem dJ9_max_7cf53_0 : decode cJ9_max_7cf53 0 = .ok (.iload_n 0, 1) := by decide +kernel
theorem dJ9_max_7cf53_1 : decode cJ9_max_7cf53 1 = .ok (.iload_n 1, 1) := by decide +kernel
theorem dJ9_max_7cf53_2 : decode cJ9_max_7cf53 2 = .ok (.if_icmp .lt 7, 3) := by decide +kernel
theorem dJ9_max_7cf53_5 : decode cJ9_max_7cf53 5 = .ok (.iload_n 0, 1) := by decide +kernel
theorem dJ9_max_7cf53_6 : decode cJ9_max_7cf53 6 = .ok (.goto 4, 3) := by decide +kernel
theorem dJ9_max_7cf53_9 : decode cJ9_max_7cf53 9 = .ok (.iload_n 1, 1) := by decide +kernel
theorem dJ9_max_7cf53_10 : decode cJ9_max_7cf53 10 = .ok (.ireturn, 1) := by decide +kernel
theorem dJ9_min_7cf53_0 : decode cJ9_min_7cf53 0 = .ok (.iload_n 0, 1) := by decide +kernel
theorem dJ9_min_7cf53_1 : decode cJ9_min_7cf53 1 = .ok (.iload_n 1, 1) := by decide +kernel
theorem dJ9_min_7cf53_2 : decode cJ9_min_7cf53 2 = .ok (.if_icmp .gt 7, 3) := by decide +kernel
theorem dJ9_min_7cf53_5 : decode cJ9_min_7cf53 5 = .ok (.iload_n 0, 1) := by decide +kernel
theorem dJ9_min_7cf53_6 : decode cJ9_min_7cf53 6 = .ok (.goto 4, 3) := by decide +kernel
theorem dJ9_min_7cf53_9 : decode cJ9_min_7cf53 9 = .ok (.iload_n 1, 1) := by decide +kernel
theorem dJ9_min_7cf53_10 : decode cJ9_min_7cf53 10 = .ok (.ireturn, 1) := by decide +kernel
theorem dJxa1e45_init_da8c8_0 : decode cJxa1e45_init_da8c8 0 = .ok (.aload_n 0, 1) := by decide +kernel
theorem dJxa1e45_init_da8c8_1 : decode cJxa1e45_init_da8c8 1 = .ok (.invokespecial 1, 3) := by decide +kernel
theorem dJxa1e45_init_da8c8_4 : decode cJxa1e45_init_da8c8 4 = .ok (.return_, 1) := by decide +kernel
theorem dJxc12de_init_da8c8_0 : decode cJxc12de_init_da8c8 0 = .ok (.aload_n 0, 1) := by decide +kernel
theorem dJxc12de_init_da8c8_1 : decode cJxc12de_init_da8c8 1 = .ok (.invokespecial 1, 3) := by decide +kernel
theorem dJxc12de_init_da8c8_4 : decode cJxc12de_init_da8c8 4 = .ok (.aload_n 0, 1) := by decide +kernel
theorem dJxc12de_init_da8c8_5 : decode cJxc12de_init_da8c8 5 = .ok (.iconst 0, 1) := by decide +kernel
theorem dJxc12de_init_da8c8_6 : decode cJxc12de_init_da8c8 6 = .ok (.putfield 7, 3) := by decide +kernel
theorem dJxc12de_init_da8c8_9 : decode cJxc12de_init_da8c8 9 = .ok (.return_, 1) := by decide +kernel
theorem dJx4a65c_init_da8c8_0 : decode cJx4a65c_init_da8c8 0 = .ok (.aload_n 0, 1) := by decide +kernel
theorem dJx4a65c_init_da8c8_1 : decode cJx4a65c_init_da8c8 1 = .ok (.invokespecial 1, 3) := by decide +kernel
theorem dJx4a65c_init_da8c8_4 : decode cJx4a65c_init_da8c8 4 = .ok (.aload_n 0, 1) := by decide +kernel
theorem dJx4a65c_init_da8c8_5 : decode cJx4a65c_init_da8c8 5 = .ok (.getstatic 39, 3) := by decide +kernel
theorem dJx4a65c_init_da8c8_8 : decode cJx4a65c_init_da8c8 8 = .ok (.putfield 9, 3) := by decide +kernel
theorem dJx4a65c_init_da8c8_11 : decode cJx4a65c_init_da8c8 11 = .ok (.return_, 1) := by decide +kernel
theorem dJx4a65c_grow_92f84_0 : decode cJx4a65c_grow_92f84 0 = .ok (.aload_n 0, 1) := by decide +kernel
theorem dJx4a65c_grow_92f84_1 : decode cJx4a65c_grow_92f84 1 = .ok (.getfield 9, 3) := by decide +kernel
theorem dJx4a65c_grow_92f84_4 : decode cJx4a65c_grow_92f84 4 = .ok (.arraylength, 1) := by decide +kernel
theorem dJx4a65c_grow_92f84_5 : decode cJx4a65c_grow_92f84 5 = .ok (.istore_n 2, 1) := by decide +kernel
theorem dJx4a65c_grow_92f84_6 : decode cJx4a65c_grow_92f84 6 = .ok (.iload_n 2, 1) := by decide +kernel
theorem dJx4a65c_grow_92f84_7 : decode cJx4a65c_grow_92f84 7 = .ok (.ifCond .gt 13, 3) := by decide +kernel
theorem dJx4a65c_grow_92f84_10 : decode cJx4a65c_grow_92f84 10 = .ok (.aload_n 0, 1) := by decide +kernel
theorem dJx4a65c_grow_92f84_11 : decode cJx4a65c_grow_92f84 11 = .ok (.getfield 9, 3) := by decide +kernel
theorem dJx4a65c_grow_92f84_14 : decode cJx4a65c_grow_92f84 14 = .ok (.getstatic 39, 3) := by decide +kernel
theorem dJx4a65c_grow_92f84_17 : decode cJx4a65c_grow_92f84 17 = .ok (.if_acmp .eq 28, 3) := by decide +kernel
theorem dJx4a65c_grow_92f84_20 : decode cJx4a65c_grow_92f84 20 = .ok (.iload_n 2, 1) := by decide +kernel
theorem dJx4a65c_grow_92f84_21 : decode cJx4a65c_grow_92f84 21 = .ok (.iload_n 1, 1) := by decide +kernel
theorem dJx4a65c_grow_92f84_22 : decode cJx4a65c_grow_92f84 22 = .ok (.iload_n 2, 1) := by decide +kernel
theorem dJx4a65c_grow_92f84_23 : decode cJx4a65c_grow_92f84 23 = .ok (.isub, 1) := by decide +kernel
theorem dJx4a65c_grow_92f84_24 : decode cJx4a65c_grow_92f84 24 = .ok (.iload_n 2, 1) := by decide +kernel
theorem dJx4a65c_grow_92f84_25 : decode cJx4a65c_grow_92f84 25 = .ok (.iconst 1, 1) := by decide +kernel
theorem dJx4a65c_grow_92f84_26 : decode cJx4a65c_grow_92f84 26 = .ok (.ishr, 1) := by decide +kernel
theorem dJx4a65c_grow_92f84_27 : decode cJx4a65c_grow_92f84 27 = .ok (.invokestatic 73, 3) := by decide +kernel
theorem dJx4a65c_grow_92f84_30 : decode cJx4a65c_grow_92f84 30 = .ok (.istore_n 3, 1) := by decide +kernel
theorem dJx4a65c_grow_92f84_31 : decode cJx4a65c_grow_92f84 31 = .ok (.aload_n 0, 1) := by decide +kernel
theorem dJx4a65c_grow_92f84_32 : decode cJx4a65c_grow_92f84 32 = .ok (.aload_n 0, 1) := by decide +kernel
theorem dJx4a65c_grow_92f84_33 : decode cJx4a65c_grow_92f84 33 = .ok (.getfield 9, 3) := by decide +kernel
theorem dJx4a65c_grow_92f84_36 : decode cJx4a65c_grow_92f84 36 = .ok (.iload_n 3, 1) := by decide +kernel
theorem dJx4a65c_grow_92f84_37 : decode cJx4a65c_grow_92f84 37 = .ok (.invokestatic 66, 3) := by decide +kernel
theorem dJx4a65c_grow_92f84_40 : decode cJx4a65c_grow_92f84 40 = .ok (.dup_x1, 1) := by decide +kernel
theorem dJx4a65c_grow_92f84_41 : decode cJx4a65c_grow_92f84 41 = .ok (.putfield 9, 3) := by decide +kernel
theorem dJx4a65c_grow_92f84_44 : decode cJx4a65c_grow_92f84 44 = .ok (.areturn, 1) := by decide +kernel
theorem dJx4a65c_grow_92f84_45 : decode cJx4a65c_grow_92f84 45 = .ok (.aload_n 0, 1) := by decide +kernel
theorem dJx4a65c_grow_92f84_46 : decode cJx4a65c_grow_92f84 46 = .ok (.bipush 10, 2) := by decide +kernel
theorem dJx4a65c_grow_92f84_48 : decode cJx4a65c_grow_92f84 48 = .ok (.iload_n 1, 1) := by decide +kernel
theorem dJx4a65c_grow_92f84_49 : decode cJx4a65c_grow_92f84 49 = .ok (.invokestatic 79, 3) := by decide +kernel
theorem dJx4a65c_grow_92f84_52 : decode cJx4a65c_grow_92f84 52 = .ok (.anewarray 7, 3) := by decide +kernel
theorem dJx4a65c_grow_92f84_55 : decode cJx4a65c_grow_92f84 55 = .ok (.dup_x1, 1) := by decide +kernel
theorem dJx4a65c_grow_92f84_56 : decode cJx4a65c_grow_92f84 56 = .ok (.putfield 9, 3) := by decide +kernel
theorem dJx4a65c_grow_92f84_59 : decode cJx4a65c_grow_92f84 59 = .ok (.areturn, 1) := by decide +kernel
theorem dJx4a65c_grow_d5877_0 : decode cJx4a65c_grow_d5877 0 = .ok (.aload_n 0, 1) := by decide +kernel
theorem dJx4a65c_grow_d5877_1 : decode cJx4a65c_grow_d5877 1 = .ok (.aload_n 0, 1) := by decide +kernel
theorem dJx4a65c_grow_d5877_2 : decode cJx4a65c_grow_d5877 2 = .ok (.getfield 48, 3) := by decide +kernel
theorem dJx4a65c_grow_d5877_5 : decode cJx4a65c_grow_d5877 5 = .ok (.iconst 1, 1) := by decide +kernel
theorem dJx4a65c_grow_d5877_6 : decode cJx4a65c_grow_d5877 6 = .ok (.iadd, 1) := by decide +kernel
theorem dJx4a65c_grow_d5877_7 : decode cJx4a65c_grow_d5877 7 = .ok (.invokevirtual 69, 3) := by decide +kernel
theorem dJx4a65c_grow_d5877_10 : decode cJx4a65c_grow_d5877 10 = .ok (.areturn, 1) := by decide +kernel
theorem dJx4a65c_size_8abf5_0 : decode cJx4a65c_size_8abf5 0 = .ok (.aload_n 0, 1) := by decide +kernel
theorem dJx4a65c_size_8abf5_1 : decode cJx4a65c_size_8abf5 1 = .ok (.getfield 48, 3) := by decide +kernel
theorem dJx4a65c_size_8abf5_4 : decode cJx4a65c_size_8abf5 4 = .ok (.ireturn, 1) := by decide +kernel
theorem dJx4a65c_elementData_915e3_0 : decode cJx4a65c_elementData_915e3 0 = .ok (.aload_n 0, 1) := by decide +kernel
theorem dJx4a65c_elementData_915e3_1 : decode cJx4a65c_elementData_915e3 1 = .ok (.getfield 9, 3) := by decide +kernel
theorem dJx4a65c_elementData_915e3_4 : decode cJx4a65c_elementData_915e3 4 = .ok (.iload_n 1, 1) := by decide +kernel
theorem dJx4a65c_elementData_915e3_5 : decode cJx4a65c_elementData_915e3 5 = .ok (.aaload, 1) := by decide +kernel
theorem dJx4a65c_elementData_915e3_6 : decode cJx4a65c_elementData_915e3 6 = .ok (.areturn, 1) := by decide +kernel
theorem dJx4a65c_get_915e3_0 : decode cJx4a65c_get_915e3 0 = .ok (.iload_n 1, 1) := by decide +kernel
theorem dJx4a65c_get_915e3_1 : decode cJx4a65c_get_915e3 1 = .ok (.aload_n 0, 1) := by decide +kernel
theorem dJx4a65c_get_915e3_2 : decode cJx4a65c_get_915e3 2 = .ok (.getfield 48, 3) := by decide +kernel
theorem dJx4a65c_get_915e3_5 : decode cJx4a65c_get_915e3 5 = .ok (.invokestatic 118, 3) := by decide +kernel
theorem dJx4a65c_get_915e3_8 : decode cJx4a65c_get_915e3 8 = .ok (.pop, 1) := by decide +kernel
theorem dJx4a65c_get_915e3_9 : decode cJx4a65c_get_915e3 9 = .ok (.aload_n 0, 1) := by decide +kernel
theorem dJx4a65c_get_915e3_10 : decode cJx4a65c_get_915e3 10 = .ok (.iload_n 1, 1) := by decide +kernel
theorem dJx4a65c_get_915e3_11 : decode cJx4a65c_get_915e3 11 = .ok (.invokevirtual 123, 3) := by decide +kernel
theorem dJx4a65c_get_915e3_14 : decode cJx4a65c_get_915e3 14 = .ok (.areturn, 1) := by decide +kernel
theorem dJx4a65c_add_72be8_0 : decode cJx4a65c_add_72be8 0 = .ok (.iload_n 3, 1) := by decide +kernel
theorem dJx4a65c_add_72be8_1 : decode cJx4a65c_add_72be8 1 = .ok (.aload_n 2, 1) := by decide +kernel
theorem dJx4a65c_add_72be8_2 : decode cJx4a65c_add_72be8 2 = .ok (.arraylength, 1) := by decide +kernel
theorem dJx4a65c_add_72be8_3 : decode cJx4a65c_add_72be8 3 = .ok (.if_icmp .ne 8, 3) := by decide +kernel
theorem dJx4a65c_add_72be8_6 : decode cJx4a65c_add_72be8 6 = .ok (.aload_n 0, 1) := by decide +kernel
theorem dJx4a65c_add_72be8_7 : decode cJx4a65c_add_72be8 7 = .ok (.invokevirtual 129, 3) := by decide +kernel
theorem dJx4a65c_add_72be8_10 : decode cJx4a65c_add_72be8 10 = .ok (.astore_n 2, 1) := by decide +kernel
theorem dJx4a65c_add_72be8_11 : decode cJx4a65c_add_72be8 11 = .ok (.aload_n 2, 1) := by decide +kernel
theorem dJx4a65c_add_72be8_12 : decode cJx4a65c_add_72be8 12 = .ok (.iload_n 3, 1) := by decide +kernel
theorem dJx4a65c_add_72be8_13 : decode cJx4a65c_add_72be8 13 = .ok (.aload_n 1, 1) := by decide +kernel
theorem dJx4a65c_add_72be8_14 : decode cJx4a65c_add_72be8 14 = .ok (.aastore, 1) := by decide +kernel
theorem dJx4a65c_add_72be8_15 : decode cJx4a65c_add_72be8 15 = .ok (.aload_n 0, 1) := by decide +kernel
theorem dJx4a65c_add_72be8_16 : decode cJx4a65c_add_72be8 16 = .ok (.iload_n 3, 1) := by decide +kernel
theorem dJx4a65c_add_72be8_17 : decode cJx4a65c_add_72be8 17 = .ok (.iconst 1, 1) := by decide +kernel
theorem dJx4a65c_add_72be8_18 : decode cJx4a65c_add_72be8 18 = .ok (.iadd, 1) := by decide +kernel
theorem dJx4a65c_add_72be8_19 : decode cJx4a65c_add_72be8 19 = .ok (.putfield 48, 3) := by decide +kernel
theorem dJx4a65c_add_72be8_22 : decode cJx4a65c_add_72be8 22 = .ok (.return_, 1) := by decide +kernel
theorem dJx4a65c_add_9ea2d_0 : decode cJx4a65c_add_9ea2d 0 = .ok (.aload_n 0, 1) := by decide +kernel
theorem dJx4a65c_add_9ea2d_1 : decode cJx4a65c_add_9ea2d 1 = .ok (.dup, 1) := by decide +kernel
theorem dJx4a65c_add_9ea2d_2 : decode cJx4a65c_add_9ea2d 2 = .ok (.getfield 63, 3) := by decide +kernel
theorem dJx4a65c_add_9ea2d_5 : decode cJx4a65c_add_9ea2d 5 = .ok (.iconst 1, 1) := by decide +kernel
theorem dJx4a65c_add_9ea2d_6 : decode cJx4a65c_add_9ea2d 6 = .ok (.iadd, 1) := by decide +kernel
theorem dJx4a65c_add_9ea2d_7 : decode cJx4a65c_add_9ea2d 7 = .ok (.putfield 63, 3) := by decide +kernel
theorem dJx4a65c_add_9ea2d_10 : decode cJx4a65c_add_9ea2d 10 = .ok (.aload_n 0, 1) := by decide +kernel
theorem dJx4a65c_add_9ea2d_11 : decode cJx4a65c_add_9ea2d 11 = .ok (.aload_n 1, 1) := by decide +kernel
theorem dJx4a65c_add_9ea2d_12 : decode cJx4a65c_add_9ea2d 12 = .ok (.aload_n 0, 1) := by decide +kernel
theorem dJx4a65c_add_9ea2d_13 : decode cJx4a65c_add_9ea2d 13 = .ok (.getfield 9, 3) := by decide +kernel
theorem dJx4a65c_add_9ea2d_16 : decode cJx4a65c_add_9ea2d 16 = .ok (.aload_n 0, 1) := by decide +kernel
theorem dJx4a65c_add_9ea2d_17 : decode cJx4a65c_add_9ea2d 17 = .ok (.getfield 48, 3) := by decide +kernel
theorem dJx4a65c_add_9ea2d_20 : decode cJx4a65c_add_9ea2d 20 = .ok (.invokevirtual 131, 3) := by decide +kernel
theorem dJx4a65c_add_9ea2d_23 : decode cJx4a65c_add_9ea2d 23 = .ok (.iconst 1, 1) := by decide +kernel
theorem dJx4a65c_add_9ea2d_24 : decode cJx4a65c_add_9ea2d 24 = .ok (.ireturn, 1) := by decide +kernel
theorem dJx4a65c_remove_915e3_0 : decode cJx4a65c_remove_915e3 0 = .ok (.iload_n 1, 1) := by decide +kernel
theorem dJx4a65c_remove_915e3_1 : decode cJx4a65c_remove_915e3 1 = .ok (.aload_n 0, 1) := by decide +kernel
theorem dJx4a65c_remove_915e3_2 : decode cJx4a65c_remove_915e3 2 = .ok (.getfield 48, 3) := by decide +kernel
theorem dJx4a65c_remove_915e3_5 : decode cJx4a65c_remove_915e3 5 = .ok (.invokestatic 118, 3) := by decide +kernel
theorem dJx4a65c_remove_915e3_8 : decode cJx4a65c_remove_915e3 8 = .ok (.pop, 1) := by decide +kernel
theorem dJx4a65c_remove_915e3_9 : decode cJx4a65c_remove_915e3 9 = .ok (.aload_n 0, 1) := by decide +kernel
theorem dJx4a65c_remove_915e3_10 : decode cJx4a65c_remove_915e3 10 = .ok (.getfield 9, 3) := by decide +kernel
theorem dJx4a65c_remove_915e3_13 : decode cJx4a65c_remove_915e3 13 = .ok (.astore_n 2, 1) := by decide +kernel
theorem dJx4a65c_remove_915e3_14 : decode cJx4a65c_remove_915e3 14 = .ok (.aload_n 2, 1) := by decide +kernel
theorem dJx4a65c_remove_915e3_15 : decode cJx4a65c_remove_915e3 15 = .ok (.iload_n 1, 1) := by decide +kernel
theorem dJx4a65c_remove_915e3_16 : decode cJx4a65c_remove_915e3 16 = .ok (.aaload, 1) := by decide +kernel
theorem dJx4a65c_remove_915e3_17 : decode cJx4a65c_remove_915e3 17 = .ok (.astore_n 3, 1) := by decide +kernel
theorem dJx4a65c_remove_915e3_18 : decode cJx4a65c_remove_915e3 18 = .ok (.aload_n 0, 1) := by decide +kernel
theorem dJx4a65c_remove_915e3_19 : decode cJx4a65c_remove_915e3 19 = .ok (.aload_n 2, 1) := by decide +kernel
theorem dJx4a65c_remove_915e3_20 : decode cJx4a65c_remove_915e3 20 = .ok (.iload_n 1, 1) := by decide +kernel
theorem dJx4a65c_remove_915e3_21 : decode cJx4a65c_remove_915e3 21 = .ok (.invokevirtual 144, 3) := by decide +kernel
theorem dJx4a65c_remove_915e3_24 : decode cJx4a65c_remove_915e3 24 = .ok (.aload_n 3, 1) := by decide +kernel
theorem dJx4a65c_remove_915e3_25 : decode cJx4a65c_remove_915e3 25 = .ok (.areturn, 1) := by decide +kernel
theorem dJx4a65c_fastRemove_b59b0_0 : decode cJx4a65c_fastRemove_b59b0 0 = .ok (.aload_n 0, 1) := by decide +kernel
theorem dJx4a65c_fastRemove_b59b0_1 : decode cJx4a65c_fastRemove_b59b0 1 = .ok (.dup, 1) := by decide +kernel
theorem dJx4a65c_fastRemove_b59b0_2 : decode cJx4a65c_fastRemove_b59b0 2 = .ok (.getfield 63, 3) := by decide +kernel
theorem dJx4a65c_fastRemove_b59b0_5 : decode cJx4a65c_fastRemove_b59b0 5 = .ok (.iconst 1, 1) := by decide +kernel
theorem dJx4a65c_fastRemove_b59b0_6 : decode cJx4a65c_fastRemove_b59b0 6 = .ok (.iadd, 1) := by decide +kernel
theorem dJx4a65c_fastRemove_b59b0_7 : decode cJx4a65c_fastRemove_b59b0 7 = .ok (.putfield 63, 3) := by decide +kernel
theorem dJx4a65c_fastRemove_b59b0_10 : decode cJx4a65c_fastRemove_b59b0 10 = .ok (.aload_n 0, 1) := by decide +kernel
theorem dJx4a65c_fastRemove_b59b0_11 : decode cJx4a65c_fastRemove_b59b0 11 = .ok (.getfield 48, 3) := by decide +kernel
theorem dJx4a65c_fastRemove_b59b0_14 : decode cJx4a65c_fastRemove_b59b0 14 = .ok (.iconst 1, 1) := by decide +kernel
theorem dJx4a65c_fastRemove_b59b0_15 : decode cJx4a65c_fastRemove_b59b0 15 = .ok (.isub, 1) := by decide +kernel
theorem dJx4a65c_fastRemove_b59b0_16 : decode cJx4a65c_fastRemove_b59b0 16 = .ok (.dup, 1) := by decide +kernel
theorem dJx4a65c_fastRemove_b59b0_17 : decode cJx4a65c_fastRemove_b59b0 17 = .ok (.istore_n 3, 1) := by decide +kernel
theorem dJx4a65c_fastRemove_b59b0_18 : decode cJx4a65c_fastRemove_b59b0 18 = .ok (.iload_n 2, 1) := by decide +kernel
theorem dJx4a65c_fastRemove_b59b0_19 : decode cJx4a65c_fastRemove_b59b0 19 = .ok (.if_icmp .le 15, 3) := by decide +kernel
theorem dJx4a65c_fastRemove_b59b0_22 : decode cJx4a65c_fastRemove_b59b0 22 = .ok (.aload_n 1, 1) := by decide +kernel
theorem dJx4a65c_fastRemove_b59b0_23 : decode cJx4a65c_fastRemove_b59b0 23 = .ok (.iload_n 2, 1) := by decide +kernel
theorem dJx4a65c_fastRemove_b59b0_24 : decode cJx4a65c_fastRemove_b59b0 24 = .ok (.iconst 1, 1) := by decide +kernel
theorem dJx4a65c_fastRemove_b59b0_25 : decode cJx4a65c_fastRemove_b59b0 25 = .ok (.iadd, 1) := by decide +kernel
theorem dJx4a65c_fastRemove_b59b0_26 : decode cJx4a65c_fastRemove_b59b0 26 = .ok (.aload_n 1, 1) := by decide +kernel
theorem dJx4a65c_fastRemove_b59b0_27 : decode cJx4a65c_fastRemove_b59b0 27 = .ok (.iload_n 2, 1) := by decide +kernel
theorem dJx4a65c_fastRemove_b59b0_28 : decode cJx4a65c_fastRemove_b59b0 28 = .ok (.iload_n 3, 1) := by decide +kernel
theorem dJx4a65c_fastRemove_b59b0_29 : decode cJx4a65c_fastRemove_b59b0 29 = .ok (.iload_n 2, 1) := by decide +kernel
theorem dJx4a65c_fastRemove_b59b0_30 : decode cJx4a65c_fastRemove_b59b0 30 = .ok (.isub, 1) := by decide +kernel
theorem dJx4a65c_fastRemove_b59b0_31 : decode cJx4a65c_fastRemove_b59b0 31 = .ok (.invokestatic 112, 3) := by decide +kernel
theorem dJx4a65c_fastRemove_b59b0_34 : decode cJx4a65c_fastRemove_b59b0 34 = .ok (.aload_n 1, 1) := by decide +kernel
theorem dJx4a65c_fastRemove_b59b0_35 : decode cJx4a65c_fastRemove_b59b0 35 = .ok (.aload_n 0, 1) := by decide +kernel
theorem dJx4a65c_fastRemove_b59b0_36 : decode cJx4a65c_fastRemove_b59b0 36 = .ok (.iload_n 3, 1) := by decide +kernel
theorem dJx4a65c_fastRemove_b59b0_37 : decode cJx4a65c_fastRemove_b59b0 37 = .ok (.dup_x1, 1) := by decide +kernel
theorem dJx4a65c_fastRemove_b59b0_38 : decode cJx4a65c_fastRemove_b59b0 38 = .ok (.putfield 48, 3) := by decide +kernel
theorem dJx4a65c_fastRemove_b59b0_41 : decode cJx4a65c_fastRemove_b59b0 41 = .ok (.aconst_null, 1) := by decide +kernel
theorem dJx4a65c_fastRemove_b59b0_42 : decode cJx4a65c_fastRemove_b59b0 42 = .ok (.aastore, 1) := by decide +kernel
theorem dJx4a65c_fastRemove_b59b0_43 : decode cJx4a65c_fastRemove_b59b0 43 = .ok (.return_, 1) := by decide +kernel
theorem dJx4a65c_clear_da8c8_0 : decode cJx4a65c_clear_da8c8 0 = .ok (.aload_n 0, 1) := by decide +kernel
theorem dJx4a65c_clear_da8c8_1 : decode cJx4a65c_clear_da8c8 1 = .ok (.dup, 1) := by decide +kernel
theorem dJx4a65c_clear_da8c8_2 : decode cJx4a65c_clear_da8c8 2 = .ok (.getfield 63, 3) := by decide +kernel
theorem dJx4a65c_clear_da8c8_5 : decode cJx4a65c_clear_da8c8 5 = .ok (.iconst 1, 1) := by decide +kernel
theorem dJx4a65c_clear_da8c8_6 : decode cJx4a65c_clear_da8c8 6 = .ok (.iadd, 1) := by decide +kernel
theorem dJx4a65c_clear_da8c8_7 : decode cJx4a65c_clear_da8c8 7 = .ok (.putfield 63, 3) := by decide +kernel
theorem dJx4a65c_clear_da8c8_10 : decode cJx4a65c_clear_da8c8 10 = .ok (.aload_n 0, 1) := by decide +kernel
theorem dJx4a65c_clear_da8c8_11 : decode cJx4a65c_clear_da8c8 11 = .ok (.getfield 9, 3) := by decide +kernel
theorem dJx4a65c_clear_da8c8_14 : decode cJx4a65c_clear_da8c8 14 = .ok (.astore_n 1, 1) := by decide +kernel
theorem dJx4a65c_clear_da8c8_15 : decode cJx4a65c_clear_da8c8 15 = .ok (.aload_n 0, 1) := by decide +kernel
theorem dJx4a65c_clear_da8c8_16 : decode cJx4a65c_clear_da8c8 16 = .ok (.getfield 48, 3) := by decide +kernel
theorem dJx4a65c_clear_da8c8_19 : decode cJx4a65c_clear_da8c8 19 = .ok (.istore_n 2, 1) := by decide +kernel
theorem dJx4a65c_clear_da8c8_20 : decode cJx4a65c_clear_da8c8 20 = .ok (.aload_n 0, 1) := by decide +kernel
theorem dJx4a65c_clear_da8c8_21 : decode cJx4a65c_clear_da8c8 21 = .ok (.iconst 0, 1) := by decide +kernel
theorem dJx4a65c_clear_da8c8_22 : decode cJx4a65c_clear_da8c8 22 = .ok (.dup_x1, 1) := by decide +kernel
theorem dJx4a65c_clear_da8c8_23 : decode cJx4a65c_clear_da8c8 23 = .ok (.putfield 48, 3) := by decide +kernel
theorem dJx4a65c_clear_da8c8_26 : decode cJx4a65c_clear_da8c8 26 = .ok (.istore_n 3, 1) := by decide +kernel
theorem dJx4a65c_clear_da8c8_27 : decode cJx4a65c_clear_da8c8 27 = .ok (.iload_n 3, 1) := by decide +kernel
theorem dJx4a65c_clear_da8c8_28 : decode cJx4a65c_clear_da8c8 28 = .ok (.iload_n 2, 1) := by decide +kernel
theorem dJx4a65c_clear_da8c8_29 : decode cJx4a65c_clear_da8c8 29 = .ok (.if_icmp .ge 13, 3) := by decide +kernel
theorem dJx4a65c_clear_da8c8_32 : decode cJx4a65c_clear_da8c8 32 = .ok (.aload_n 1, 1) := by decide +kernel
theorem dJx4a65c_clear_da8c8_33 : decode cJx4a65c_clear_da8c8 33 = .ok (.iload_n 3, 1) := by decide +kernel
theorem dJx4a65c_clear_da8c8_34 : decode cJx4a65c_clear_da8c8 34 = .ok (.aconst_null, 1) := by decide +kernel
theorem dJx4a65c_clear_da8c8_35 : decode cJx4a65c_clear_da8c8 35 = .ok (.aastore, 1) := by decide +kernel
theorem dJx4a65c_clear_da8c8_36 : decode cJx4a65c_clear_da8c8 36 = .ok (.iinc 3 1, 3) := by decide +kernel
theorem dJx4a65c_clear_da8c8_39 : decode cJx4a65c_clear_da8c8 39 = .ok (.goto (-12), 3) := by decide +kernel
theorem dJx4a65c_clear_da8c8_42 : decode cJx4a65c_clear_da8c8 42 = .ok (.return_, 1) := by decide +kernel
theorem dJ7_fill_53178_0 : decode cJ7_fill_53178 0 = .ok (.iconst 0, 1) := by decide +kernel
theorem dJ7_fill_53178_1 : decode cJ7_fill_53178 1 = .ok (.istore_n 2, 1) := by decide +kernel
theorem dJ7_fill_53178_2 : decode cJ7_fill_53178 2 = .ok (.aload_n 0, 1) := by decide +kernel
theorem dJ7_fill_53178_3 : decode cJ7_fill_53178 3 = .ok (.arraylength, 1) := by decide +kernel
theorem dJ7_fill_53178_4 : decode cJ7_fill_53178 4 = .ok (.istore_n 3, 1) := by decide +kernel
theorem dJ7_fill_53178_5 : decode cJ7_fill_53178 5 = .ok (.iload_n 2, 1) := by decide +kernel
theorem dJ7_fill_53178_6 : decode cJ7_fill_53178 6 = .ok (.iload_n 3, 1) := by decide +kernel
theorem dJ7_fill_53178_7 : decode cJ7_fill_53178 7 = .ok (.if_icmp .ge 13, 3) := by decide +kernel
theorem dJ7_fill_53178_10 : decode cJ7_fill_53178 10 = .ok (.aload_n 0, 1) := by decide +kernel
theorem dJ7_fill_53178_11 : decode cJ7_fill_53178 11 = .ok (.iload_n 2, 1) := by decide +kernel
theorem dJ7_fill_53178_12 : decode cJ7_fill_53178 12 = .ok (.iload_n 1, 1) := by decide +kernel
theorem dJ7_fill_53178_13 : decode cJ7_fill_53178 13 = .ok (.iastore, 1) := by decide +kernel
theorem dJ7_fill_53178_14 : decode cJ7_fill_53178 14 = .ok (.iinc 2 1, 3) := by decide +kernel
theorem dJ7_fill_53178_17 : decode cJ7_fill_53178 17 = .ok (.goto (-12), 3) := by decide +kernel
theorem dJ7_fill_53178_20 : decode cJ7_fill_53178 20 = .ok (.return_, 1) := by decide +kernel
theorem dJ7_copyOf_1904c_0 : decode cJ7_copyOf_1904c 0 = .ok (.aload_n 0, 1) := by decide +kernel
theorem dJ7_copyOf_1904c_1 : decode cJ7_copyOf_1904c 1 = .ok (.iload_n 1, 1) := by decide +kernel
theorem dJ7_copyOf_1904c_2 : decode cJ7_copyOf_1904c 2 = .ok (.aload_n 0, 1) := by decide +kernel
theorem dJ7_copyOf_1904c_3 : decode cJ7_copyOf_1904c 3 = .ok (.invokevirtual 86, 3) := by decide +kernel
theorem dJ7_copyOf_1904c_6 : decode cJ7_copyOf_1904c 6 = .ok (.invokestatic 300, 3) := by decide +kernel
theorem dJ7_copyOf_1904c_9 : decode cJ7_copyOf_1904c 9 = .ok (.areturn, 1) := by decide +kernel
theorem dJ7_copyOf_6403c_0 : decode cJ7_copyOf_6403c 0 = .ok (.aload_n 2, 1) := by decide +kernel
theorem dJ7_copyOf_6403c_1 : decode cJ7_copyOf_6403c 1 = .ok (.ldc 110, 2) := by decide +kernel
theorem dJ7_copyOf_6403c_3 : decode cJ7_copyOf_6403c 3 = .ok (.if_acmp .ne 10, 3) := by decide +kernel
theorem dJ7_copyOf_6403c_6 : decode cJ7_copyOf_6403c 6 = .ok (.iload_n 1, 1) := by decide +kernel
theorem dJ7_copyOf_6403c_7 : decode cJ7_copyOf_6403c 7 = .ok (.anewarray 2, 3) := by decide +kernel
theorem dJ7_copyOf_6403c_10 : decode cJ7_copyOf_6403c 10 = .ok (.goto 14, 3) := by decide +kernel
theorem dJ7_copyOf_6403c_13 : decode cJ7_copyOf_6403c 13 = .ok (.aload_n 2, 1) := by decide +kernel
theorem dJ7_copyOf_6403c_14 : decode cJ7_copyOf_6403c 14 = .ok (.invokevirtual 90, 3) := by decide +kernel
theorem dJ7_copyOf_6403c_17 : decode cJ7_copyOf_6403c 17 = .ok (.iload_n 1, 1) := by decide +kernel
theorem dJ7_copyOf_6403c_18 : decode cJ7_copyOf_6403c 18 = .ok (.invokestatic 95, 3) := by decide +kernel
theorem dJ7_copyOf_6403c_21 : decode cJ7_copyOf_6403c 21 = .ok (.checkcast 110, 3) := by decide +kernel
theorem dJ7_copyOf_6403c_24 : decode cJ7_copyOf_6403c 24 = .ok (.astore_n 3, 1) := by decide +kernel
theorem dJ7_copyOf_6403c_25 : decode cJ7_copyOf_6403c 25 = .ok (.aload_n 0, 1) := by decide +kernel
theorem dJ7_copyOf_6403c_26 : decode cJ7_copyOf_6403c 26 = .ok (.iconst 0, 1) := by decide +kernel
theorem dJ7_copyOf_6403c_27 : decode cJ7_copyOf_6403c 27 = .ok (.aload_n 3, 1) := by decide +kernel
theorem dJ7_copyOf_6403c_28 : decode cJ7_copyOf_6403c 28 = .ok (.iconst 0, 1) := by decide +kernel
theorem dJ7_copyOf_6403c_29 : decode cJ7_copyOf_6403c 29 = .ok (.aload_n 0, 1) := by decide +kernel
theorem dJ7_copyOf_6403c_30 : decode cJ7_copyOf_6403c 30 = .ok (.arraylength, 1) := by decide +kernel
theorem dJ7_copyOf_6403c_31 : decode cJ7_copyOf_6403c 31 = .ok (.iload_n 1, 1) := by decide +kernel
theorem dJ7_copyOf_6403c_32 : decode cJ7_copyOf_6403c 32 = .ok (.invokestatic 304, 3) := by decide +kernel
theorem dJ7_copyOf_6403c_35 : decode cJ7_copyOf_6403c 35 = .ok (.invokestatic 150, 3) := by decide +kernel
theorem dJ7_copyOf_6403c_38 : decode cJ7_copyOf_6403c 38 = .ok (.aload_n 3, 1) := by decide +kernel
theorem dJ7_copyOf_6403c_39 : decode cJ7_copyOf_6403c 39 = .ok (.areturn, 1) := by decide +kernel
theorem dJ15_checkIndex_7cf53_0 : decode cJ15_checkIndex_7cf53 0 = .ok (.iload_n 0, 1) := by decide +kernel
theorem dJ15_checkIndex_7cf53_1 : decode cJ15_checkIndex_7cf53 1 = .ok (.iload_n 1, 1) := by decide +kernel
theorem dJ15_checkIndex_7cf53_2 : decode cJ15_checkIndex_7cf53 2 = .ok (.aconst_null, 1) := by decide +kernel
theorem dJ15_checkIndex_7cf53_3 : decode cJ15_checkIndex_7cf53 3 = .ok (.invokestatic 105, 3) := by decide +kernel
theorem dJ15_checkIndex_7cf53_6 : decode cJ15_checkIndex_7cf53 6 = .ok (.ireturn, 1) := by decide +kernel
theorem dJ8_newLength_cabcc_0 : decode cJ8_newLength_cabcc 0 = .ok (.iload_n 0, 1) := by decide +kernel
theorem dJ8_newLength_cabcc_1 : decode cJ8_newLength_cabcc 1 = .ok (.iload_n 1, 1) := by decide +kernel
theorem dJ8_newLength_cabcc_2 : decode cJ8_newLength_cabcc 2 = .ok (.iload_n 2, 1) := by decide +kernel
theorem dJ8_newLength_cabcc_3 : decode cJ8_newLength_cabcc 3 = .ok (.invokestatic 194, 3) := by decide +kernel
theorem dJ8_newLength_cabcc_6 : decode cJ8_newLength_cabcc 6 = .ok (.iadd, 1) := by decide +kernel
theorem dJ8_newLength_cabcc_7 : decode cJ8_newLength_cabcc 7 = .ok (.istore_n 3, 1) := by decide +kernel
theorem dJ8_newLength_cabcc_8 : decode cJ8_newLength_cabcc 8 = .ok (.iconst 0, 1) := by decide +kernel
theorem dJ8_newLength_cabcc_9 : decode cJ8_newLength_cabcc 9 = .ok (.iload_n 3, 1) := by decide +kernel
theorem dJ8_newLength_cabcc_10 : decode cJ8_newLength_cabcc 10 = .ok (.if_icmp .ge 11, 3) := by decide +kernel
theorem dJ8_newLength_cabcc_13 : decode cJ8_newLength_cabcc 13 = .ok (.iload_n 3, 1) := by decide +kernel
theorem dJ8_newLength_cabcc_14 : decode cJ8_newLength_cabcc 14 = .ok (.ldc 200, 2) := by decide +kernel
theorem dJ8_newLength_cabcc_16 : decode cJ8_newLength_cabcc 16 = .ok (.if_icmp .gt 5, 3) := by decide +kernel
theorem dJ8_newLength_cabcc_19 : decode cJ8_newLength_cabcc 19 = .ok (.iload_n 3, 1) := by decide +kernel
theorem dJ8_newLength_cabcc_20 : decode cJ8_newLength_cabcc 20 = .ok (.ireturn, 1) := by decide +kernel
theorem dJ8_newLength_cabcc_21 : decode cJ8_newLength_cabcc 21 = .ok (.iload_n 0, 1) := by decide +kernel
theorem dJ8_newLength_cabcc_22 : decode cJ8_newLength_cabcc 22 = .ok (.iload_n 1, 1) := by decide +kernel
theorem dJ8_newLength_cabcc_23 : decode cJ8_newLength_cabcc 23 = .ok (.invokestatic 201, 3) := by decide +kernel
theorem dJ8_newLength_cabcc_26 : decode cJ8_newLength_cabcc 26 = .ok (.ireturn, 1) := by decide +kernel
theorem dJ8_hugeLength_7cf53_0 : decode cJ8_hugeLength_7cf53 0 = .ok (.iload_n 0, 1) := by decide +kernel
theorem dJ8_hugeLength_7cf53_1 : decode cJ8_hugeLength_7cf53 1 = .ok (.iload_n 1, 1) := by decide +kernel
theorem dJ8_hugeLength_7cf53_2 : decode cJ8_hugeLength_7cf53 2 = .ok (.iadd, 1) := by decide +kernel
theorem dJ8_hugeLength_7cf53_3 : decode cJ8_hugeLength_7cf53 3 = .ok (.istore_n 2, 1) := by decide +kernel
theorem dJ8_hugeLength_7cf53_4 : decode cJ8_hugeLength_7cf53 4 = .ok (.iload_n 2, 1) := by decide +kernel
theorem dJ8_hugeLength_7cf53_5 : decode cJ8_hugeLength_7cf53 5 = .ok (.ifCond .ge 44, 3) := by decide +kernel
theorem dJ8_hugeLength_7cf53_8 : decode cJ8_hugeLength_7cf53 8 = .ok (.new 204, 3) := by decide +kernel
theorem dJ8_hugeLength_7cf53_11 : decode cJ8_hugeLength_7cf53 11 = .ok (.dup, 1) := by decide +kernel
theorem dJ8_hugeLength_7cf53_12 : decode cJ8_hugeLength_7cf53 12 = .ok (.new 89, 3) := by decide +kernel
theorem dJ8_hugeLength_7cf53_15 : decode cJ8_hugeLength_7cf53 15 = .ok (.dup, 1) := by decide +kernel
theorem dJ8_hugeLength_7cf53_16 : decode cJ8_hugeLength_7cf53 16 = .ok (.invokespecial 91, 3) := by decide +kernel
theorem dJ8_hugeLength_7cf53_19 : decode cJ8_hugeLength_7cf53 19 = .ok (.ldc 206, 2) := by decide +kernel
theorem dJ8_hugeLength_7cf53_21 : decode cJ8_hugeLength_7cf53 21 = .ok (.invokevirtual 94, 3) := by decide +kernel
theorem dJ8_hugeLength_7cf53_24 : decode cJ8_hugeLength_7cf53 24 = .ok (.iload_n 0, 1) := by decide +kernel
theorem dJ8_hugeLength_7cf53_25 : decode cJ8_hugeLength_7cf53 25 = .ok (.invokevirtual 98, 3) := by decide +kernel
theorem dJ8_hugeLength_7cf53_28 : decode cJ8_hugeLength_7cf53 28 = .ok (.ldc 208, 2) := by decide +kernel
theorem dJ8_hugeLength_7cf53_30 : decode cJ8_hugeLength_7cf53 30 = .ok (.invokevirtual 94, 3) := by decide +kernel
theorem dJ8_hugeLength_7cf53_33 : decode cJ8_hugeLength_7cf53 33 = .ok (.iload_n 1, 1) := by decide +kernel
theorem dJ8_hugeLength_7cf53_34 : decode cJ8_hugeLength_7cf53 34 = .ok (.invokevirtual 98, 3) := by decide +kernel
theorem dJ8_hugeLength_7cf53_37 : decode cJ8_hugeLength_7cf53 37 = .ok (.ldc 210, 2) := by decide +kernel
theorem dJ8_hugeLength_7cf53_39 : decode cJ8_hugeLength_7cf53 39 = .ok (.invokevirtual 94, 3) := by decide +kernel
theorem dJ8_hugeLength_7cf53_42 : decode cJ8_hugeLength_7cf53 42 = .ok (.invokevirtual 101, 3) := by decide +kernel
theorem dJ8_hugeLength_7cf53_45 : decode cJ8_hugeLength_7cf53 45 = .ok (.invokespecial 212, 3) := by decide +kernel
theorem dJ8_hugeLength_7cf53_48 : decode cJ8_hugeLength_7cf53 48 = .ok (.athrow, 1) := by decide +kernel
theorem dJ8_hugeLength_7cf53_49 : decode cJ8_hugeLength_7cf53 49 = .ok (.iload_n 2, 1) := by decide +kernel
theorem dJ8_hugeLength_7cf53_50 : decode cJ8_hugeLength_7cf53 50 = .ok (.ldc 200, 2) := by decide +kernel
theorem dJ8_hugeLength_7cf53_52 : decode cJ8_hugeLength_7cf53 52 = .ok (.if_icmp .gt 6, 3) := by decide +kernel
theorem dJ8_hugeLength_7cf53_55 : decode cJ8_hugeLength_7cf53 55 = .ok (.ldc 200, 2) := by decide +kernel
theorem dJ8_hugeLength_7cf53_57 : decode cJ8_hugeLength_7cf53 57 = .ok (.ireturn, 1) := by decide +kernel
theorem dJ8_hugeLength_7cf53_58 : decode cJ8_hugeLength_7cf53 58 = .ok (.iload_n 2, 1) := by decide +kernel
theorem dJ8_hugeLength_7cf53_59 : decode cJ8_hugeLength_7cf53 59 = .ok (.ireturn, 1) := by decide +kernel
theorem dJ3_checkIndex_8e157_0 : decode cJ3_checkIndex_8e157 0 = .ok (.iload_n 0, 1) := by decide +kernel
theorem dJ3_checkIndex_8e157_1 : decode cJ3_checkIndex_8e157 1 = .ok (.ifCond .lt 8, 3) := by decide +kernel
theorem dJ3_checkIndex_8e157_4 : decode cJ3_checkIndex_8e157 4 = .ok (.iload_n 0, 1) := by decide +kernel
theorem dJ3_checkIndex_8e157_5 : decode cJ3_checkIndex_8e157 5 = .ok (.iload_n 1, 1) := by decide +kernel
theorem dJ3_checkIndex_8e157_6 : decode cJ3_checkIndex_8e157 6 = .ok (.if_icmp .lt 10, 3) := by decide +kernel
theorem dJ3_checkIndex_8e157_9 : decode cJ3_checkIndex_8e157 9 = .ok (.aload_n 2, 1) := by decide +kernel
theorem dJ3_checkIndex_8e157_10 : decode cJ3_checkIndex_8e157 10 = .ok (.iload_n 0, 1) := by decide +kernel
theorem dJ3_checkIndex_8e157_11 : decode cJ3_checkIndex_8e157 11 = .ok (.iload_n 1, 1) := by decide +kernel
theorem dJ3_checkIndex_8e157_12 : decode cJ3_checkIndex_8e157 12 = .ok (.invokestatic 95, 3) := by decide +kernel
theorem dJ3_checkIndex_8e157_15 : decode cJ3_checkIndex_8e157 15 = .ok (.athrow, 1) := by decide +kernel
theorem dJ3_checkIndex_8e157_16 : decode cJ3_checkIndex_8e157 16 = .ok (.iload_n 0, 1) := by decide +kernel
theorem dJ3_checkIndex_8e157_17 : decode cJ3_checkIndex_8e157 17 = .ok (.ireturn, 1) := by decide +kernel
theorem dL_addCourse_0 : decode cL_addCourse 0 = .ok (.aload_n 3, 1) := by decide +kernel
theorem dL_addCourse_1 : decode cL_addCourse 1 = .ok (.iconst 0, 1) := by decide +kernel
theorem dL_addCourse_2 : decode cL_addCourse 2 = .ok (.aload_n 0, 1) := by decide +kernel
theorem dL_addCourse_3 : decode cL_addCourse 3 = .ok (.iload_n 1, 1) := by decide +kernel
theorem dL_addCourse_4 : decode cL_addCourse 4 = .ok (.iload_n 2, 1) := by decide +kernel
theorem dL_addCourse_5 : decode cL_addCourse 5 = .ok (.invokevirtual 7, 3) := by decide +kernel
theorem dL_addCourse_8 : decode cL_addCourse 8 = .ok (.i2l, 1) := by decide +kernel
theorem dL_addCourse_9 : decode cL_addCourse 9 = .ok (.lastore, 1) := by decide +kernel
theorem dL_addCourse_10 : decode cL_addCourse 10 = .ok (.goto 11, 3) := by decide +kernel
theorem dL_addCourse_13 : decode cL_addCourse 13 = .ok (.astore 4, 2) := by decide +kernel
theorem dL_addCourse_15 : decode cL_addCourse 15 = .ok (.iconst 1, 1) := by decide +kernel
theorem dL_addCourse_16 : decode cL_addCourse 16 = .ok (.ireturn, 1) := by decide +kernel
theorem dL_addCourse_17 : decode cL_addCourse 17 = .ok (.astore 4, 2) := by decide +kernel
theorem dL_addCourse_19 : decode cL_addCourse 19 = .ok (.iconst 2, 1) := by decide +kernel
theorem dL_addCourse_20 : decode cL_addCourse 20 = .ok (.ireturn, 1) := by decide +kernel
theorem dL_addCourse_21 : decode cL_addCourse 21 = .ok (.iconst 0, 1) := by decide +kernel
theorem dL_addCourse_22 : decode cL_addCourse 22 = .ok (.ireturn, 1) := by decide +kernel
theorem dL_addStudent_0 : decode cL_addStudent 0 = .ok (.aload_n 2, 1) := by decide +kernel
theorem dL_addStudent_1 : decode cL_addStudent 1 = .ok (.iconst 0, 1) := by decide +kernel
theorem dL_addStudent_2 : decode cL_addStudent 2 = .ok (.aload_n 0, 1) := by decide +kernel
theorem dL_addStudent_3 : decode cL_addStudent 3 = .ok (.iload_n 1, 1) := by decide +kernel
theorem dL_addStudent_4 : decode cL_addStudent 4 = .ok (.invokevirtual 17, 3) := by decide +kernel
theorem dL_addStudent_7 : decode cL_addStudent 7 = .ok (.i2l, 1) := by decide +kernel
theorem dL_addStudent_8 : decode cL_addStudent 8 = .ok (.lastore, 1) := by decide +kernel
theorem dL_addStudent_9 : decode cL_addStudent 9 = .ok (.goto 9, 3) := by decide +kernel
theorem dL_addStudent_12 : decode cL_addStudent 12 = .ok (.astore_n 3, 1) := by decide +kernel
theorem dL_addStudent_13 : decode cL_addStudent 13 = .ok (.iconst 1, 1) := by decide +kernel
theorem dL_addStudent_14 : decode cL_addStudent 14 = .ok (.ireturn, 1) := by decide +kernel
theorem dL_addStudent_15 : decode cL_addStudent 15 = .ok (.astore_n 3, 1) := by decide +kernel
theorem dL_addStudent_16 : decode cL_addStudent 16 = .ok (.iconst 2, 1) := by decide +kernel
theorem dL_addStudent_17 : decode cL_addStudent 17 = .ok (.ireturn, 1) := by decide +kernel
theorem dL_addStudent_18 : decode cL_addStudent 18 = .ok (.iconst 0, 1) := by decide +kernel
theorem dL_addStudent_19 : decode cL_addStudent 19 = .ok (.ireturn, 1) := by decide +kernel
theorem dL_changeMajor_0 : decode cL_changeMajor 0 = .ok (.aload_n 3, 1) := by decide +kernel
theorem dL_changeMajor_1 : decode cL_changeMajor 1 = .ok (.iconst 0, 1) := by decide +kernel
theorem dL_changeMajor_2 : decode cL_changeMajor 2 = .ok (.aload_n 0, 1) := by decide +kernel
theorem dL_changeMajor_3 : decode cL_changeMajor 3 = .ok (.iload_n 1, 1) := by decide +kernel
theorem dL_changeMajor_4 : decode cL_changeMajor 4 = .ok (.iload_n 2, 1) := by decide +kernel
theorem dL_changeMajor_5 : decode cL_changeMajor 5 = .ok (.invokevirtual 21, 3) := by decide +kernel
theorem dL_changeMajor_8 : decode cL_changeMajor 8 = .ok (.i2l, 1) := by decide +kernel
theorem dL_changeMajor_9 : decode cL_changeMajor 9 = .ok (.lastore, 1) := by decide +kernel
theorem dL_changeMajor_10 : decode cL_changeMajor 10 = .ok (.goto 11, 3) := by decide +kernel
theorem dL_changeMajor_13 : decode cL_changeMajor 13 = .ok (.astore 4, 2) := by decide +kernel
theorem dL_changeMajor_15 : decode cL_changeMajor 15 = .ok (.iconst 1, 1) := by decide +kernel
theorem dL_changeMajor_16 : decode cL_changeMajor 16 = .ok (.ireturn, 1) := by decide +kernel
theorem dL_changeMajor_17 : decode cL_changeMajor 17 = .ok (.astore 4, 2) := by decide +kernel
theorem dL_changeMajor_19 : decode cL_changeMajor 19 = .ok (.iconst 2, 1) := by decide +kernel
theorem dL_changeMajor_20 : decode cL_changeMajor 20 = .ok (.ireturn, 1) := by decide +kernel
theorem dL_changeMajor_21 : decode cL_changeMajor 21 = .ok (.iconst 0, 1) := by decide +kernel
theorem dL_changeMajor_22 : decode cL_changeMajor 22 = .ok (.ireturn, 1) := by decide +kernel
theorem dL_majorOf_0 : decode cL_majorOf 0 = .ok (.aload_n 2, 1) := by decide +kernel
theorem dL_majorOf_1 : decode cL_majorOf 1 = .ok (.iconst 0, 1) := by decide +kernel
theorem dL_majorOf_2 : decode cL_majorOf 2 = .ok (.aload_n 0, 1) := by decide +kernel
theorem dL_majorOf_3 : decode cL_majorOf 3 = .ok (.iload_n 1, 1) := by decide +kernel
theorem dL_majorOf_4 : decode cL_majorOf 4 = .ok (.invokevirtual 26, 3) := by decide +kernel
theorem dL_majorOf_7 : decode cL_majorOf 7 = .ok (.i2l, 1) := by decide +kernel
theorem dL_majorOf_8 : decode cL_majorOf 8 = .ok (.lastore, 1) := by decide +kernel
theorem dL_majorOf_9 : decode cL_majorOf 9 = .ok (.goto 6, 3) := by decide +kernel
theorem dL_majorOf_12 : decode cL_majorOf 12 = .ok (.astore_n 3, 1) := by decide +kernel
theorem dL_majorOf_13 : decode cL_majorOf 13 = .ok (.iconst 1, 1) := by decide +kernel
theorem dL_majorOf_14 : decode cL_majorOf 14 = .ok (.ireturn, 1) := by decide +kernel
theorem dL_majorOf_15 : decode cL_majorOf 15 = .ok (.iconst 0, 1) := by decide +kernel
theorem dL_majorOf_16 : decode cL_majorOf 16 = .ok (.ireturn, 1) := by decide +kernel
theorem dL_reserve_0 : decode cL_reserve 0 = .ok (.aload 4, 2) := by decide +kernel
theorem dL_reserve_2 : decode cL_reserve 2 = .ok (.iconst 0, 1) := by decide +kernel
theorem dL_reserve_3 : decode cL_reserve 3 = .ok (.aload_n 0, 1) := by decide +kernel
theorem dL_reserve_4 : decode cL_reserve 4 = .ok (.iload_n 1, 1) := by decide +kernel
theorem dL_reserve_5 : decode cL_reserve 5 = .ok (.iload_n 2, 1) := by decide +kernel
theorem dL_reserve_6 : decode cL_reserve 6 = .ok (.iload_n 3, 1) := by decide +kernel
theorem dL_reserve_7 : decode cL_reserve 7 = .ok (.invokevirtual 29, 3) := by decide +kernel
theorem dL_reserve_10 : decode cL_reserve 10 = .ok (.i2l, 1) := by decide +kernel
theorem dL_reserve_11 : decode cL_reserve 11 = .ok (.lastore, 1) := by decide +kernel
theorem dL_reserve_12 : decode cL_reserve 12 = .ok (.goto 15, 3) := by decide +kernel
theorem dL_reserve_15 : decode cL_reserve 15 = .ok (.astore 5, 2) := by decide +kernel
theorem dL_reserve_17 : decode cL_reserve 17 = .ok (.iconst 1, 1) := by decide +kernel
theorem dL_reserve_18 : decode cL_reserve 18 = .ok (.ireturn, 1) := by decide +kernel
theorem dL_reserve_19 : decode cL_reserve 19 = .ok (.astore 5, 2) := by decide +kernel
theorem dL_reserve_21 : decode cL_reserve 21 = .ok (.iconst 2, 1) := by decide +kernel
theorem dL_reserve_22 : decode cL_reserve 22 = .ok (.ireturn, 1) := by decide +kernel
theorem dL_reserve_23 : decode cL_reserve 23 = .ok (.astore 5, 2) := by decide +kernel
theorem dL_reserve_25 : decode cL_reserve 25 = .ok (.iconst 3, 1) := by decide +kernel
theorem dL_reserve_26 : decode cL_reserve 26 = .ok (.ireturn, 1) := by decide +kernel
theorem dL_reserve_27 : decode cL_reserve 27 = .ok (.iconst 0, 1) := by decide +kernel
theorem dL_reserve_28 : decode cL_reserve 28 = .ok (.ireturn, 1) := by decide +kernel
theorem dL_markFormula_0 : decode cL_markFormula 0 = .ok (.aload_n 3, 1) := by decide +kernel
theorem dL_markFormula_1 : decode cL_markFormula 1 = .ok (.iconst 0, 1) := by decide +kernel
theorem dL_markFormula_2 : decode cL_markFormula 2 = .ok (.aload_n 0, 1) := by decide +kernel
theorem dL_markFormula_3 : decode cL_markFormula 3 = .ok (.iload_n 1, 1) := by decide +kernel
theorem dL_markFormula_4 : decode cL_markFormula 4 = .ok (.iload_n 2, 1) := by decide +kernel
theorem dL_markFormula_5 : decode cL_markFormula 5 = .ok (.invokevirtual 33, 3) := by decide +kernel
theorem dL_markFormula_8 : decode cL_markFormula 8 = .ok (.i2l, 1) := by decide +kernel
theorem dL_markFormula_9 : decode cL_markFormula 9 = .ok (.lastore, 1) := by decide +kernel
theorem dL_markFormula_10 : decode cL_markFormula 10 = .ok (.goto 15, 3) := by decide +kernel
theorem dL_markFormula_13 : decode cL_markFormula 13 = .ok (.astore 4, 2) := by decide +kernel
theorem dL_markFormula_15 : decode cL_markFormula 15 = .ok (.iconst 1, 1) := by decide +kernel
theorem dL_markFormula_16 : decode cL_markFormula 16 = .ok (.ireturn, 1) := by decide +kernel
theorem dL_markFormula_17 : decode cL_markFormula 17 = .ok (.astore 4, 2) := by decide +kernel
theorem dL_markFormula_19 : decode cL_markFormula 19 = .ok (.iconst 2, 1) := by decide +kernel
theorem dL_markFormula_20 : decode cL_markFormula 20 = .ok (.ireturn, 1) := by decide +kernel
theorem dL_markFormula_21 : decode cL_markFormula 21 = .ok (.astore 4, 2) := by decide +kernel
theorem dL_markFormula_23 : decode cL_markFormula 23 = .ok (.iconst 3, 1) := by decide +kernel
theorem dL_markFormula_24 : decode cL_markFormula 24 = .ok (.ireturn, 1) := by decide +kernel
theorem dL_markFormula_25 : decode cL_markFormula 25 = .ok (.iconst 0, 1) := by decide +kernel
theorem dL_markFormula_26 : decode cL_markFormula 26 = .ok (.ireturn, 1) := by decide +kernel
theorem dL_togetherFormula_0 : decode cL_togetherFormula 0 = .ok (.aload_n 2, 1) := by decide +kernel
theorem dL_togetherFormula_1 : decode cL_togetherFormula 1 = .ok (.iconst 0, 1) := by decide +kernel
theorem dL_togetherFormula_2 : decode cL_togetherFormula 2 = .ok (.aload_n 0, 1) := by decide +kernel
theorem dL_togetherFormula_3 : decode cL_togetherFormula 3 = .ok (.iload_n 1, 1) := by decide +kernel
theorem dL_togetherFormula_4 : decode cL_togetherFormula 4 = .ok (.invokevirtual 36, 3) := by decide +kernel
theorem dL_togetherFormula_7 : decode cL_togetherFormula 7 = .ok (.i2l, 1) := by decide +kernel
theorem dL_togetherFormula_8 : decode cL_togetherFormula 8 = .ok (.lastore, 1) := by decide +kernel
theorem dL_togetherFormula_9 : decode cL_togetherFormula 9 = .ok (.goto 9, 3) := by decide +kernel
theorem dL_togetherFormula_12 : decode cL_togetherFormula 12 = .ok (.astore_n 3, 1) := by decide +kernel
theorem dL_togetherFormula_13 : decode cL_togetherFormula 13 = .ok (.iconst 1, 1) := by decide +kernel
theorem dL_togetherFormula_14 : decode cL_togetherFormula 14 = .ok (.ireturn, 1) := by decide +kernel
theorem dL_togetherFormula_15 : decode cL_togetherFormula 15 = .ok (.astore_n 3, 1) := by decide +kernel
theorem dL_togetherFormula_16 : decode cL_togetherFormula 16 = .ok (.iconst 2, 1) := by decide +kernel
theorem dL_togetherFormula_17 : decode cL_togetherFormula 17 = .ok (.ireturn, 1) := by decide +kernel
theorem dL_togetherFormula_18 : decode cL_togetherFormula 18 = .ok (.iconst 0, 1) := by decide +kernel
theorem dL_togetherFormula_19 : decode cL_togetherFormula 19 = .ok (.ireturn, 1) := by decide +kernel
theorem dL_creditsFormula_0 : decode cL_creditsFormula 0 = .ok (.aload_n 2, 1) := by decide +kernel
theorem dL_creditsFormula_1 : decode cL_creditsFormula 1 = .ok (.iconst 0, 1) := by decide +kernel
theorem dL_creditsFormula_2 : decode cL_creditsFormula 2 = .ok (.aload_n 0, 1) := by decide +kernel
theorem dL_creditsFormula_3 : decode cL_creditsFormula 3 = .ok (.iload_n 1, 1) := by decide +kernel
theorem dL_creditsFormula_4 : decode cL_creditsFormula 4 = .ok (.invokevirtual 39, 3) := by decide +kernel
theorem dL_creditsFormula_7 : decode cL_creditsFormula 7 = .ok (.i2l, 1) := by decide +kernel
theorem dL_creditsFormula_8 : decode cL_creditsFormula 8 = .ok (.lastore, 1) := by decide +kernel
theorem dL_creditsFormula_9 : decode cL_creditsFormula 9 = .ok (.goto 9, 3) := by decide +kernel
theorem dL_creditsFormula_12 : decode cL_creditsFormula 12 = .ok (.astore_n 3, 1) := by decide +kernel
theorem dL_creditsFormula_13 : decode cL_creditsFormula 13 = .ok (.iconst 1, 1) := by decide +kernel
theorem dL_creditsFormula_14 : decode cL_creditsFormula 14 = .ok (.ireturn, 1) := by decide +kernel
theorem dL_creditsFormula_15 : decode cL_creditsFormula 15 = .ok (.astore_n 3, 1) := by decide +kernel
theorem dL_creditsFormula_16 : decode cL_creditsFormula 16 = .ok (.iconst 2, 1) := by decide +kernel
theorem dL_creditsFormula_17 : decode cL_creditsFormula 17 = .ok (.ireturn, 1) := by decide +kernel
theorem dL_creditsFormula_18 : decode cL_creditsFormula 18 = .ok (.iconst 0, 1) := by decide +kernel
theorem dL_creditsFormula_19 : decode cL_creditsFormula 19 = .ok (.ireturn, 1) := by decide +kernel
theorem dL_allFormula_0 : decode cL_allFormula 0 = .ok (.aload_n 3, 1) := by decide +kernel
theorem dL_allFormula_1 : decode cL_allFormula 1 = .ok (.iconst 0, 1) := by decide +kernel
theorem dL_allFormula_2 : decode cL_allFormula 2 = .ok (.aload_n 0, 1) := by decide +kernel
theorem dL_allFormula_3 : decode cL_allFormula 3 = .ok (.iload_n 1, 1) := by decide +kernel
theorem dL_allFormula_4 : decode cL_allFormula 4 = .ok (.iload_n 2, 1) := by decide +kernel
theorem dL_allFormula_5 : decode cL_allFormula 5 = .ok (.invokevirtual 42, 3) := by decide +kernel
theorem dL_allFormula_8 : decode cL_allFormula 8 = .ok (.i2l, 1) := by decide +kernel
theorem dL_allFormula_9 : decode cL_allFormula 9 = .ok (.lastore, 1) := by decide +kernel
theorem dL_allFormula_10 : decode cL_allFormula 10 = .ok (.goto 11, 3) := by decide +kernel
theorem dL_allFormula_13 : decode cL_allFormula 13 = .ok (.astore 4, 2) := by decide +kernel
theorem dL_allFormula_15 : decode cL_allFormula 15 = .ok (.iconst 1, 1) := by decide +kernel
theorem dL_allFormula_16 : decode cL_allFormula 16 = .ok (.ireturn, 1) := by decide +kernel
theorem dL_allFormula_17 : decode cL_allFormula 17 = .ok (.astore 4, 2) := by decide +kernel
theorem dL_allFormula_19 : decode cL_allFormula 19 = .ok (.iconst 2, 1) := by decide +kernel
theorem dL_allFormula_20 : decode cL_allFormula 20 = .ok (.ireturn, 1) := by decide +kernel
theorem dL_allFormula_21 : decode cL_allFormula 21 = .ok (.iconst 0, 1) := by decide +kernel
theorem dL_allFormula_22 : decode cL_allFormula 22 = .ok (.ireturn, 1) := by decide +kernel
theorem dL_anyFormula_0 : decode cL_anyFormula 0 = .ok (.aload_n 3, 1) := by decide +kernel
theorem dL_anyFormula_1 : decode cL_anyFormula 1 = .ok (.iconst 0, 1) := by decide +kernel
theorem dL_anyFormula_2 : decode cL_anyFormula 2 = .ok (.aload_n 0, 1) := by decide +kernel
theorem dL_anyFormula_3 : decode cL_anyFormula 3 = .ok (.iload_n 1, 1) := by decide +kernel
theorem dL_anyFormula_4 : decode cL_anyFormula 4 = .ok (.iload_n 2, 1) := by decide +kernel
theorem dL_anyFormula_5 : decode cL_anyFormula 5 = .ok (.invokevirtual 47, 3) := by decide +kernel
theorem dL_anyFormula_8 : decode cL_anyFormula 8 = .ok (.i2l, 1) := by decide +kernel
theorem dL_anyFormula_9 : decode cL_anyFormula 9 = .ok (.lastore, 1) := by decide +kernel
theorem dL_anyFormula_10 : decode cL_anyFormula 10 = .ok (.goto 11, 3) := by decide +kernel
theorem dL_anyFormula_13 : decode cL_anyFormula 13 = .ok (.astore 4, 2) := by decide +kernel
theorem dL_anyFormula_15 : decode cL_anyFormula 15 = .ok (.iconst 1, 1) := by decide +kernel
theorem dL_anyFormula_16 : decode cL_anyFormula 16 = .ok (.ireturn, 1) := by decide +kernel
theorem dL_anyFormula_17 : decode cL_anyFormula 17 = .ok (.astore 4, 2) := by decide +kernel
theorem dL_anyFormula_19 : decode cL_anyFormula 19 = .ok (.iconst 2, 1) := by decide +kernel
theorem dL_anyFormula_20 : decode cL_anyFormula 20 = .ok (.ireturn, 1) := by decide +kernel
theorem dL_anyFormula_21 : decode cL_anyFormula 21 = .ok (.iconst 0, 1) := by decide +kernel
theorem dL_anyFormula_22 : decode cL_anyFormula 22 = .ok (.ireturn, 1) := by decide +kernel
theorem dL_twoFormula_0 : decode cL_twoFormula 0 = .ok (.aload 4, 2) := by decide +kernel
theorem dL_twoFormula_2 : decode cL_twoFormula 2 = .ok (.iconst 0, 1) := by decide +kernel
theorem dL_twoFormula_3 : decode cL_twoFormula 3 = .ok (.aload_n 0, 1) := by decide +kernel
theorem dL_twoFormula_4 : decode cL_twoFormula 4 = .ok (.iload_n 1, 1) := by decide +kernel
theorem dL_twoFormula_5 : decode cL_twoFormula 5 = .ok (.iload_n 2, 1) := by decide +kernel
theorem dL_twoFormula_6 : decode cL_twoFormula 6 = .ok (.iload_n 3, 1) := by decide +kernel
theorem dL_twoFormula_7 : decode cL_twoFormula 7 = .ok (.invokevirtual 50, 3) := by decide +kernel
theorem dL_twoFormula_10 : decode cL_twoFormula 10 = .ok (.i2l, 1) := by decide +kernel
theorem dL_twoFormula_11 : decode cL_twoFormula 11 = .ok (.lastore, 1) := by decide +kernel
theorem dL_twoFormula_12 : decode cL_twoFormula 12 = .ok (.goto 11, 3) := by decide +kernel
theorem dL_twoFormula_15 : decode cL_twoFormula 15 = .ok (.astore 5, 2) := by decide +kernel
theorem dL_twoFormula_17 : decode cL_twoFormula 17 = .ok (.iconst 1, 1) := by decide +kernel
theorem dL_twoFormula_18 : decode cL_twoFormula 18 = .ok (.ireturn, 1) := by decide +kernel
theorem dL_twoFormula_19 : decode cL_twoFormula 19 = .ok (.astore 5, 2) := by decide +kernel
theorem dL_twoFormula_21 : decode cL_twoFormula 21 = .ok (.iconst 2, 1) := by decide +kernel
theorem dL_twoFormula_22 : decode cL_twoFormula 22 = .ok (.ireturn, 1) := by decide +kernel
theorem dL_twoFormula_23 : decode cL_twoFormula 23 = .ok (.iconst 0, 1) := by decide +kernel
theorem dL_twoFormula_24 : decode cL_twoFormula 24 = .ok (.ireturn, 1) := by decide +kernel
theorem dL_noneFormula_0 : decode cL_noneFormula 0 = .ok (.aload_n 2, 1) := by decide +kernel
theorem dL_noneFormula_1 : decode cL_noneFormula 1 = .ok (.iconst 0, 1) := by decide +kernel
theorem dL_noneFormula_2 : decode cL_noneFormula 2 = .ok (.aload_n 0, 1) := by decide +kernel
theorem dL_noneFormula_3 : decode cL_noneFormula 3 = .ok (.iload_n 1, 1) := by decide +kernel
theorem dL_noneFormula_4 : decode cL_noneFormula 4 = .ok (.invokevirtual 53, 3) := by decide +kernel
theorem dL_noneFormula_7 : decode cL_noneFormula 7 = .ok (.i2l, 1) := by decide +kernel
theorem dL_noneFormula_8 : decode cL_noneFormula 8 = .ok (.lastore, 1) := by decide +kernel
theorem dL_noneFormula_9 : decode cL_noneFormula 9 = .ok (.goto 9, 3) := by decide +kernel
theorem dL_noneFormula_12 : decode cL_noneFormula 12 = .ok (.astore_n 3, 1) := by decide +kernel
theorem dL_noneFormula_13 : decode cL_noneFormula 13 = .ok (.iconst 1, 1) := by decide +kernel
theorem dL_noneFormula_14 : decode cL_noneFormula 14 = .ok (.ireturn, 1) := by decide +kernel
theorem dL_noneFormula_15 : decode cL_noneFormula 15 = .ok (.astore_n 3, 1) := by decide +kernel
theorem dL_noneFormula_16 : decode cL_noneFormula 16 = .ok (.iconst 2, 1) := by decide +kernel
theorem dL_noneFormula_17 : decode cL_noneFormula 17 = .ok (.ireturn, 1) := by decide +kernel
theorem dL_noneFormula_18 : decode cL_noneFormula 18 = .ok (.iconst 0, 1) := by decide +kernel
theorem dL_noneFormula_19 : decode cL_noneFormula 19 = .ok (.ireturn, 1) := by decide +kernel
theorem dL_holds_0 : decode cL_holds 0 = .ok (.aload_n 3, 1) := by decide +kernel
theorem dL_holds_1 : decode cL_holds 1 = .ok (.iconst 0, 1) := by decide +kernel
theorem dL_holds_2 : decode cL_holds 2 = .ok (.aload_n 0, 1) := by decide +kernel
theorem dL_holds_3 : decode cL_holds 3 = .ok (.iload_n 1, 1) := by decide +kernel
theorem dL_holds_4 : decode cL_holds 4 = .ok (.iload_n 2, 1) := by decide +kernel
theorem dL_holds_5 : decode cL_holds 5 = .ok (.invokevirtual 56, 3) := by decide +kernel
theorem dL_holds_8 : decode cL_holds 8 = .ok (.ifCond .eq 7, 3) := by decide +kernel
theorem dL_holds_11 : decode cL_holds 11 = .ok (.lconst 1, 1) := by decide +kernel
theorem dL_holds_12 : decode cL_holds 12 = .ok (.goto 4, 3) := by decide +kernel
theorem dL_holds_15 : decode cL_holds 15 = .ok (.lconst 0, 1) := by decide +kernel
theorem dL_holds_16 : decode cL_holds 16 = .ok (.lastore, 1) := by decide +kernel
theorem dL_holds_17 : decode cL_holds 17 = .ok (.goto 11, 3) := by decide +kernel
theorem dL_holds_20 : decode cL_holds 20 = .ok (.astore 4, 2) := by decide +kernel
theorem dL_holds_22 : decode cL_holds 22 = .ok (.iconst 1, 1) := by decide +kernel
theorem dL_holds_23 : decode cL_holds 23 = .ok (.ireturn, 1) := by decide +kernel
theorem dL_holds_24 : decode cL_holds 24 = .ok (.astore 4, 2) := by decide +kernel
theorem dL_holds_26 : decode cL_holds 26 = .ok (.iconst 2, 1) := by decide +kernel
theorem dL_holds_27 : decode cL_holds 27 = .ok (.ireturn, 1) := by decide +kernel
theorem dL_holds_28 : decode cL_holds 28 = .ok (.iconst 0, 1) := by decide +kernel
theorem dL_holds_29 : decode cL_holds 29 = .ok (.ireturn, 1) := by decide +kernel
theorem dL_require_0 : decode cL_require 0 = .ok (.aload_n 3, 1) := by decide +kernel
theorem dL_require_1 : decode cL_require 1 = .ok (.iconst 0, 1) := by decide +kernel
theorem dL_require_2 : decode cL_require 2 = .ok (.aload_n 0, 1) := by decide +kernel
theorem dL_require_3 : decode cL_require 3 = .ok (.iload_n 1, 1) := by decide +kernel
theorem dL_require_4 : decode cL_require 4 = .ok (.iload_n 2, 1) := by decide +kernel
theorem dL_require_5 : decode cL_require 5 = .ok (.invokevirtual 60, 3) := by decide +kernel
theorem dL_require_8 : decode cL_require 8 = .ok (.ifCond .eq 7, 3) := by decide +kernel
theorem dL_require_11 : decode cL_require 11 = .ok (.lconst 1, 1) := by decide +kernel
theorem dL_require_12 : decode cL_require 12 = .ok (.goto 4, 3) := by decide +kernel
theorem dL_require_15 : decode cL_require 15 = .ok (.lconst 0, 1) := by decide +kernel
theorem dL_require_16 : decode cL_require 16 = .ok (.lastore, 1) := by decide +kernel
theorem dL_require_17 : decode cL_require 17 = .ok (.goto 11, 3) := by decide +kernel
theorem dL_require_20 : decode cL_require 20 = .ok (.astore 4, 2) := by decide +kernel
theorem dL_require_22 : decode cL_require 22 = .ok (.iconst 1, 1) := by decide +kernel
theorem dL_require_23 : decode cL_require 23 = .ok (.ireturn, 1) := by decide +kernel
theorem dL_require_24 : decode cL_require 24 = .ok (.astore 4, 2) := by decide +kernel
theorem dL_require_26 : decode cL_require 26 = .ok (.iconst 2, 1) := by decide +kernel
theorem dL_require_27 : decode cL_require 27 = .ok (.ireturn, 1) := by decide +kernel
theorem dL_require_28 : decode cL_require 28 = .ok (.iconst 0, 1) := by decide +kernel
theorem dL_require_29 : decode cL_require 29 = .ok (.ireturn, 1) := by decide +kernel
theorem dL_lift_0 : decode cL_lift 0 = .ok (.aload_n 2, 1) := by decide +kernel
theorem dL_lift_1 : decode cL_lift 1 = .ok (.iconst 0, 1) := by decide +kernel
theorem dL_lift_2 : decode cL_lift 2 = .ok (.aload_n 0, 1) := by decide +kernel
theorem dL_lift_3 : decode cL_lift 3 = .ok (.iload_n 1, 1) := by decide +kernel
theorem dL_lift_4 : decode cL_lift 4 = .ok (.invokevirtual 63, 3) := by decide +kernel
theorem dL_lift_7 : decode cL_lift 7 = .ok (.ifCond .eq 7, 3) := by decide +kernel
theorem dL_lift_10 : decode cL_lift 10 = .ok (.lconst 1, 1) := by decide +kernel
theorem dL_lift_11 : decode cL_lift 11 = .ok (.goto 4, 3) := by decide +kernel
theorem dL_lift_14 : decode cL_lift 14 = .ok (.lconst 0, 1) := by decide +kernel
theorem dL_lift_15 : decode cL_lift 15 = .ok (.lastore, 1) := by decide +kernel
theorem dL_lift_16 : decode cL_lift 16 = .ok (.goto 6, 3) := by decide +kernel
theorem dL_lift_19 : decode cL_lift 19 = .ok (.astore_n 3, 1) := by decide +kernel
theorem dL_lift_20 : decode cL_lift 20 = .ok (.iconst 1, 1) := by decide +kernel
theorem dL_lift_21 : decode cL_lift 21 = .ok (.ireturn, 1) := by decide +kernel
theorem dL_lift_22 : decode cL_lift 22 = .ok (.iconst 0, 1) := by decide +kernel
theorem dL_lift_23 : decode cL_lift 23 = .ok (.ireturn, 1) := by decide +kernel
theorem dL_pass_0 : decode cL_pass 0 = .ok (.aload_n 2, 1) := by decide +kernel
theorem dL_pass_1 : decode cL_pass 1 = .ok (.iconst 0, 1) := by decide +kernel
theorem dL_pass_2 : decode cL_pass 2 = .ok (.aload_n 0, 1) := by decide +kernel
theorem dL_pass_3 : decode cL_pass 3 = .ok (.iload_n 1, 1) := by decide +kernel
theorem dL_pass_4 : decode cL_pass 4 = .ok (.invokevirtual 67, 3) := by decide +kernel
theorem dL_pass_7 : decode cL_pass 7 = .ok (.i2l, 1) := by decide +kernel
theorem dL_pass_8 : decode cL_pass 8 = .ok (.lastore, 1) := by decide +kernel
theorem dL_pass_9 : decode cL_pass 9 = .ok (.goto 9, 3) := by decide +kernel
theorem dL_pass_12 : decode cL_pass 12 = .ok (.astore_n 3, 1) := by decide +kernel
theorem dL_pass_13 : decode cL_pass 13 = .ok (.iconst 1, 1) := by decide +kernel
theorem dL_pass_14 : decode cL_pass 14 = .ok (.ireturn, 1) := by decide +kernel
theorem dL_pass_15 : decode cL_pass 15 = .ok (.astore_n 3, 1) := by decide +kernel
theorem dL_pass_16 : decode cL_pass 16 = .ok (.iconst 2, 1) := by decide +kernel
theorem dL_pass_17 : decode cL_pass 17 = .ok (.ireturn, 1) := by decide +kernel
theorem dL_pass_18 : decode cL_pass 18 = .ok (.iconst 0, 1) := by decide +kernel
theorem dL_pass_19 : decode cL_pass 19 = .ok (.ireturn, 1) := by decide +kernel
theorem dL_enroll_0 : decode cL_enroll 0 = .ok (.aload_n 3, 1) := by decide +kernel
theorem dL_enroll_1 : decode cL_enroll 1 = .ok (.iconst 0, 1) := by decide +kernel
theorem dL_enroll_2 : decode cL_enroll 2 = .ok (.aload_n 0, 1) := by decide +kernel
theorem dL_enroll_3 : decode cL_enroll 3 = .ok (.iload_n 1, 1) := by decide +kernel
theorem dL_enroll_4 : decode cL_enroll 4 = .ok (.iload_n 2, 1) := by decide +kernel
theorem dL_enroll_5 : decode cL_enroll 5 = .ok (.invokevirtual 70, 3) := by decide +kernel
theorem dL_enroll_8 : decode cL_enroll 8 = .ok (.i2l, 1) := by decide +kernel
theorem dL_enroll_9 : decode cL_enroll 9 = .ok (.lastore, 1) := by decide +kernel
theorem dL_enroll_10 : decode cL_enroll 10 = .ok (.goto 28, 3) := by decide +kernel
theorem dL_enroll_13 : decode cL_enroll 13 = .ok (.astore 4, 2) := by decide +kernel
theorem dL_enroll_15 : decode cL_enroll 15 = .ok (.iconst 1, 1) := by decide +kernel
theorem dL_enroll_16 : decode cL_enroll 16 = .ok (.ireturn, 1) := by decide +kernel
theorem dL_enroll_17 : decode cL_enroll 17 = .ok (.astore 4, 2) := by decide +kernel
theorem dL_enroll_19 : decode cL_enroll 19 = .ok (.iconst 2, 1) := by decide +kernel
theorem dL_enroll_20 : decode cL_enroll 20 = .ok (.ireturn, 1) := by decide +kernel
theorem dL_enroll_21 : decode cL_enroll 21 = .ok (.astore 4, 2) := by decide +kernel
theorem dL_enroll_23 : decode cL_enroll 23 = .ok (.iconst 3, 1) := by decide +kernel
theorem dL_enroll_24 : decode cL_enroll 24 = .ok (.ireturn, 1) := by decide +kernel
theorem dL_enroll_25 : decode cL_enroll 25 = .ok (.astore 4, 2) := by decide +kernel
theorem dL_enroll_27 : decode cL_enroll 27 = .ok (.iconst 4, 1) := by decide +kernel
theorem dL_enroll_28 : decode cL_enroll 28 = .ok (.ireturn, 1) := by decide +kernel
theorem dL_enroll_29 : decode cL_enroll 29 = .ok (.astore 4, 2) := by decide +kernel
theorem dL_enroll_31 : decode cL_enroll 31 = .ok (.iconst 5, 1) := by decide +kernel
theorem dL_enroll_32 : decode cL_enroll 32 = .ok (.ireturn, 1) := by decide +kernel
theorem dL_enroll_33 : decode cL_enroll 33 = .ok (.astore 4, 2) := by decide +kernel
theorem dL_enroll_35 : decode cL_enroll 35 = .ok (.bipush 6, 2) := by decide +kernel
theorem dL_enroll_37 : decode cL_enroll 37 = .ok (.ireturn, 1) := by decide +kernel
theorem dL_enroll_38 : decode cL_enroll 38 = .ok (.iconst 0, 1) := by decide +kernel
theorem dL_enroll_39 : decode cL_enroll 39 = .ok (.ireturn, 1) := by decide +kernel
theorem dL_outcome_0 : decode cL_outcome 0 = .ok (.aload_n 3, 1) := by decide +kernel
theorem dL_outcome_1 : decode cL_outcome 1 = .ok (.iconst 0, 1) := by decide +kernel
theorem dL_outcome_2 : decode cL_outcome 2 = .ok (.aload_n 0, 1) := by decide +kernel
theorem dL_outcome_3 : decode cL_outcome 3 = .ok (.iload_n 1, 1) := by decide +kernel
theorem dL_outcome_4 : decode cL_outcome 4 = .ok (.iload_n 2, 1) := by decide +kernel
theorem dL_outcome_5 : decode cL_outcome 5 = .ok (.invokevirtual 78, 3) := by decide +kernel
theorem dL_outcome_8 : decode cL_outcome 8 = .ok (.i2l, 1) := by decide +kernel
theorem dL_outcome_9 : decode cL_outcome 9 = .ok (.lastore, 1) := by decide +kernel
theorem dL_outcome_10 : decode cL_outcome 10 = .ok (.goto 7, 3) := by decide +kernel
theorem dL_outcome_13 : decode cL_outcome 13 = .ok (.astore 4, 2) := by decide +kernel
theorem dL_outcome_15 : decode cL_outcome 15 = .ok (.iconst 1, 1) := by decide +kernel
theorem dL_outcome_16 : decode cL_outcome 16 = .ok (.ireturn, 1) := by decide +kernel
theorem dL_outcome_17 : decode cL_outcome 17 = .ok (.iconst 0, 1) := by decide +kernel
theorem dL_outcome_18 : decode cL_outcome 18 = .ok (.ireturn, 1) := by decide +kernel
theorem dL_drop_0 : decode cL_drop 0 = .ok (.aload_n 3, 1) := by decide +kernel
theorem dL_drop_1 : decode cL_drop 1 = .ok (.iconst 0, 1) := by decide +kernel
theorem dL_drop_2 : decode cL_drop 2 = .ok (.aload_n 0, 1) := by decide +kernel
theorem dL_drop_3 : decode cL_drop 3 = .ok (.iload_n 1, 1) := by decide +kernel
theorem dL_drop_4 : decode cL_drop 4 = .ok (.iload_n 2, 1) := by decide +kernel
theorem dL_drop_5 : decode cL_drop 5 = .ok (.invokevirtual 81, 3) := by decide +kernel
theorem dL_drop_8 : decode cL_drop 8 = .ok (.i2l, 1) := by decide +kernel
theorem dL_drop_9 : decode cL_drop 9 = .ok (.lastore, 1) := by decide +kernel
theorem dL_drop_10 : decode cL_drop 10 = .ok (.goto 15, 3) := by decide +kernel
theorem dL_drop_13 : decode cL_drop 13 = .ok (.astore 4, 2) := by decide +kernel
theorem dL_drop_15 : decode cL_drop 15 = .ok (.iconst 1, 1) := by decide +kernel
theorem dL_drop_16 : decode cL_drop 16 = .ok (.ireturn, 1) := by decide +kernel
theorem dL_drop_17 : decode cL_drop 17 = .ok (.astore 4, 2) := by decide +kernel
theorem dL_drop_19 : decode cL_drop 19 = .ok (.iconst 2, 1) := by decide +kernel
theorem dL_drop_20 : decode cL_drop 20 = .ok (.ireturn, 1) := by decide +kernel
theorem dL_drop_21 : decode cL_drop 21 = .ok (.astore 4, 2) := by decide +kernel
theorem dL_drop_23 : decode cL_drop 23 = .ok (.iconst 3, 1) := by decide +kernel
theorem dL_drop_24 : decode cL_drop 24 = .ok (.ireturn, 1) := by decide +kernel
theorem dL_drop_25 : decode cL_drop 25 = .ok (.iconst 0, 1) := by decide +kernel
theorem dL_drop_26 : decode cL_drop 26 = .ok (.ireturn, 1) := by decide +kernel
theorem dL_swap_0 : decode cL_swap 0 = .ok (.aload 4, 2) := by decide +kernel
theorem dL_swap_2 : decode cL_swap 2 = .ok (.iconst 0, 1) := by decide +kernel
theorem dL_swap_3 : decode cL_swap 3 = .ok (.aload_n 0, 1) := by decide +kernel
theorem dL_swap_4 : decode cL_swap 4 = .ok (.iload_n 1, 1) := by decide +kernel
theorem dL_swap_5 : decode cL_swap 5 = .ok (.iload_n 2, 1) := by decide +kernel
theorem dL_swap_6 : decode cL_swap 6 = .ok (.iload_n 3, 1) := by decide +kernel
theorem dL_swap_7 : decode cL_swap 7 = .ok (.invokevirtual 84, 3) := by decide +kernel
theorem dL_swap_10 : decode cL_swap 10 = .ok (.i2l, 1) := by decide +kernel
theorem dL_swap_11 : decode cL_swap 11 = .ok (.lastore, 1) := by decide +kernel
theorem dL_swap_12 : decode cL_swap 12 = .ok (.goto 28, 3) := by decide +kernel
theorem dL_swap_15 : decode cL_swap 15 = .ok (.astore 5, 2) := by decide +kernel
theorem dL_swap_17 : decode cL_swap 17 = .ok (.iconst 1, 1) := by decide +kernel
theorem dL_swap_18 : decode cL_swap 18 = .ok (.ireturn, 1) := by decide +kernel
theorem dL_swap_19 : decode cL_swap 19 = .ok (.astore 5, 2) := by decide +kernel
theorem dL_swap_21 : decode cL_swap 21 = .ok (.iconst 2, 1) := by decide +kernel
theorem dL_swap_22 : decode cL_swap 22 = .ok (.ireturn, 1) := by decide +kernel
theorem dL_swap_23 : decode cL_swap 23 = .ok (.astore 5, 2) := by decide +kernel
theorem dL_swap_25 : decode cL_swap 25 = .ok (.iconst 3, 1) := by decide +kernel
theorem dL_swap_26 : decode cL_swap 26 = .ok (.ireturn, 1) := by decide +kernel
theorem dL_swap_27 : decode cL_swap 27 = .ok (.astore 5, 2) := by decide +kernel
theorem dL_swap_29 : decode cL_swap 29 = .ok (.iconst 4, 1) := by decide +kernel
theorem dL_swap_30 : decode cL_swap 30 = .ok (.ireturn, 1) := by decide +kernel
theorem dL_swap_31 : decode cL_swap 31 = .ok (.astore 5, 2) := by decide +kernel
theorem dL_swap_33 : decode cL_swap 33 = .ok (.iconst 5, 1) := by decide +kernel
theorem dL_swap_34 : decode cL_swap 34 = .ok (.ireturn, 1) := by decide +kernel
theorem dL_swap_35 : decode cL_swap 35 = .ok (.astore 5, 2) := by decide +kernel
theorem dL_swap_37 : decode cL_swap 37 = .ok (.bipush 6, 2) := by decide +kernel
theorem dL_swap_39 : decode cL_swap 39 = .ok (.ireturn, 1) := by decide +kernel
theorem dL_swap_40 : decode cL_swap 40 = .ok (.iconst 0, 1) := by decide +kernel
theorem dL_swap_41 : decode cL_swap 41 = .ok (.ireturn, 1) := by decide +kernel
theorem dL_mark_0 : decode cL_mark 0 = .ok (.aload 4, 2) := by decide +kernel
theorem dL_mark_2 : decode cL_mark 2 = .ok (.iconst 0, 1) := by decide +kernel
theorem dL_mark_3 : decode cL_mark 3 = .ok (.aload_n 0, 1) := by decide +kernel
theorem dL_mark_4 : decode cL_mark 4 = .ok (.iload_n 1, 1) := by decide +kernel
theorem dL_mark_5 : decode cL_mark 5 = .ok (.iload_n 2, 1) := by decide +kernel
theorem dL_mark_6 : decode cL_mark 6 = .ok (.iload_n 3, 1) := by decide +kernel
theorem dL_mark_7 : decode cL_mark 7 = .ok (.invokevirtual 87, 3) := by decide +kernel
theorem dL_mark_10 : decode cL_mark 10 = .ok (.ifCond .eq 7, 3) := by decide +kernel
theorem dL_mark_13 : decode cL_mark 13 = .ok (.lconst 1, 1) := by decide +kernel
theorem dL_mark_14 : decode cL_mark 14 = .ok (.goto 4, 3) := by decide +kernel
theorem dL_mark_17 : decode cL_mark 17 = .ok (.lconst 0, 1) := by decide +kernel
theorem dL_mark_18 : decode cL_mark 18 = .ok (.lastore, 1) := by decide +kernel
theorem dL_mark_19 : decode cL_mark 19 = .ok (.goto 19, 3) := by decide +kernel
theorem dL_mark_22 : decode cL_mark 22 = .ok (.astore 5, 2) := by decide +kernel
theorem dL_mark_24 : decode cL_mark 24 = .ok (.iconst 1, 1) := by decide +kernel
theorem dL_mark_25 : decode cL_mark 25 = .ok (.ireturn, 1) := by decide +kernel
theorem dL_mark_26 : decode cL_mark 26 = .ok (.astore 5, 2) := by decide +kernel
theorem dL_mark_28 : decode cL_mark 28 = .ok (.iconst 2, 1) := by decide +kernel
theorem dL_mark_29 : decode cL_mark 29 = .ok (.ireturn, 1) := by decide +kernel
theorem dL_mark_30 : decode cL_mark 30 = .ok (.astore 5, 2) := by decide +kernel
theorem dL_mark_32 : decode cL_mark 32 = .ok (.iconst 3, 1) := by decide +kernel
theorem dL_mark_33 : decode cL_mark 33 = .ok (.ireturn, 1) := by decide +kernel
theorem dL_mark_34 : decode cL_mark 34 = .ok (.astore 5, 2) := by decide +kernel
theorem dL_mark_36 : decode cL_mark 36 = .ok (.iconst 4, 1) := by decide +kernel
theorem dL_mark_37 : decode cL_mark 37 = .ok (.ireturn, 1) := by decide +kernel
theorem dL_mark_38 : decode cL_mark 38 = .ok (.iconst 0, 1) := by decide +kernel
theorem dL_mark_39 : decode cL_mark 39 = .ok (.ireturn, 1) := by decide +kernel
theorem dL_endTerm_0 : decode cL_endTerm 0 = .ok (.aload_n 1, 1) := by decide +kernel
theorem dL_endTerm_1 : decode cL_endTerm 1 = .ok (.iconst 0, 1) := by decide +kernel
theorem dL_endTerm_2 : decode cL_endTerm 2 = .ok (.aload_n 0, 1) := by decide +kernel
theorem dL_endTerm_3 : decode cL_endTerm 3 = .ok (.invokevirtual 91, 3) := by decide +kernel
theorem dL_endTerm_6 : decode cL_endTerm 6 = .ok (.i2l, 1) := by decide +kernel
theorem dL_endTerm_7 : decode cL_endTerm 7 = .ok (.lastore, 1) := by decide +kernel
theorem dL_endTerm_8 : decode cL_endTerm 8 = .ok (.goto 6, 3) := by decide +kernel
theorem dL_endTerm_11 : decode cL_endTerm 11 = .ok (.astore_n 2, 1) := by decide +kernel
theorem dL_endTerm_12 : decode cL_endTerm 12 = .ok (.iconst 1, 1) := by decide +kernel
theorem dL_endTerm_13 : decode cL_endTerm 13 = .ok (.ireturn, 1) := by decide +kernel
theorem dL_endTerm_14 : decode cL_endTerm 14 = .ok (.iconst 0, 1) := by decide +kernel
theorem dL_endTerm_15 : decode cL_endTerm 15 = .ok (.ireturn, 1) := by decide +kernel
theorem dL_moveIn_0 : decode cL_moveIn 0 = .ok (.aload_n 3, 1) := by decide +kernel
theorem dL_moveIn_1 : decode cL_moveIn 1 = .ok (.iconst 0, 1) := by decide +kernel
theorem dL_moveIn_2 : decode cL_moveIn 2 = .ok (.aload_n 0, 1) := by decide +kernel
theorem dL_moveIn_3 : decode cL_moveIn 3 = .ok (.iload_n 1, 1) := by decide +kernel
theorem dL_moveIn_4 : decode cL_moveIn 4 = .ok (.iload_n 2, 1) := by decide +kernel
theorem dL_moveIn_5 : decode cL_moveIn 5 = .ok (.invokevirtual 95, 3) := by decide +kernel
theorem dL_moveIn_8 : decode cL_moveIn 8 = .ok (.i2l, 1) := by decide +kernel
theorem dL_moveIn_9 : decode cL_moveIn 9 = .ok (.lastore, 1) := by decide +kernel
theorem dL_moveIn_10 : decode cL_moveIn 10 = .ok (.goto 15, 3) := by decide +kernel
theorem dL_moveIn_13 : decode cL_moveIn 13 = .ok (.astore 4, 2) := by decide +kernel
theorem dL_moveIn_15 : decode cL_moveIn 15 = .ok (.iconst 1, 1) := by decide +kernel
theorem dL_moveIn_16 : decode cL_moveIn 16 = .ok (.ireturn, 1) := by decide +kernel
theorem dL_moveIn_17 : decode cL_moveIn 17 = .ok (.astore 4, 2) := by decide +kernel
theorem dL_moveIn_19 : decode cL_moveIn 19 = .ok (.iconst 2, 1) := by decide +kernel
theorem dL_moveIn_20 : decode cL_moveIn 20 = .ok (.ireturn, 1) := by decide +kernel
theorem dL_moveIn_21 : decode cL_moveIn 21 = .ok (.astore 4, 2) := by decide +kernel
theorem dL_moveIn_23 : decode cL_moveIn 23 = .ok (.iconst 3, 1) := by decide +kernel
theorem dL_moveIn_24 : decode cL_moveIn 24 = .ok (.ireturn, 1) := by decide +kernel
theorem dL_moveIn_25 : decode cL_moveIn 25 = .ok (.iconst 0, 1) := by decide +kernel
theorem dL_moveIn_26 : decode cL_moveIn 26 = .ok (.ireturn, 1) := by decide +kernel
theorem dL_bestMark_0 : decode cL_bestMark 0 = .ok (.aload_n 3, 1) := by decide +kernel
theorem dL_bestMark_1 : decode cL_bestMark 1 = .ok (.iconst 0, 1) := by decide +kernel
theorem dL_bestMark_2 : decode cL_bestMark 2 = .ok (.aload_n 0, 1) := by decide +kernel
theorem dL_bestMark_3 : decode cL_bestMark 3 = .ok (.iload_n 1, 1) := by decide +kernel
theorem dL_bestMark_4 : decode cL_bestMark 4 = .ok (.iload_n 2, 1) := by decide +kernel
theorem dL_bestMark_5 : decode cL_bestMark 5 = .ok (.invokevirtual 98, 3) := by decide +kernel
theorem dL_bestMark_8 : decode cL_bestMark 8 = .ok (.i2l, 1) := by decide +kernel
theorem dL_bestMark_9 : decode cL_bestMark 9 = .ok (.lastore, 1) := by decide +kernel
theorem dL_bestMark_10 : decode cL_bestMark 10 = .ok (.goto 11, 3) := by decide +kernel
theorem dL_bestMark_13 : decode cL_bestMark 13 = .ok (.astore 4, 2) := by decide +kernel
theorem dL_bestMark_15 : decode cL_bestMark 15 = .ok (.iconst 1, 1) := by decide +kernel
theorem dL_bestMark_16 : decode cL_bestMark 16 = .ok (.ireturn, 1) := by decide +kernel
theorem dL_bestMark_17 : decode cL_bestMark 17 = .ok (.astore 4, 2) := by decide +kernel
theorem dL_bestMark_19 : decode cL_bestMark 19 = .ok (.iconst 2, 1) := by decide +kernel
theorem dL_bestMark_20 : decode cL_bestMark 20 = .ok (.ireturn, 1) := by decide +kernel
theorem dL_bestMark_21 : decode cL_bestMark 21 = .ok (.iconst 0, 1) := by decide +kernel
theorem dL_bestMark_22 : decode cL_bestMark 22 = .ok (.ireturn, 1) := by decide +kernel
theorem dL_attempts_0 : decode cL_attempts 0 = .ok (.aload_n 3, 1) := by decide +kernel
theorem dL_attempts_1 : decode cL_attempts 1 = .ok (.iconst 0, 1) := by decide +kernel
theorem dL_attempts_2 : decode cL_attempts 2 = .ok (.aload_n 0, 1) := by decide +kernel
theorem dL_attempts_3 : decode cL_attempts 3 = .ok (.iload_n 1, 1) := by decide +kernel
theorem dL_attempts_4 : decode cL_attempts 4 = .ok (.iload_n 2, 1) := by decide +kernel
theorem dL_attempts_5 : decode cL_attempts 5 = .ok (.invokevirtual 101, 3) := by decide +kernel
theorem dL_attempts_8 : decode cL_attempts 8 = .ok (.i2l, 1) := by decide +kernel
theorem dL_attempts_9 : decode cL_attempts 9 = .ok (.lastore, 1) := by decide +kernel
theorem dL_attempts_10 : decode cL_attempts 10 = .ok (.goto 7, 3) := by decide +kernel
theorem dL_attempts_13 : decode cL_attempts 13 = .ok (.astore 4, 2) := by decide +kernel
theorem dL_attempts_15 : decode cL_attempts 15 = .ok (.iconst 1, 1) := by decide +kernel
theorem dL_attempts_16 : decode cL_attempts 16 = .ok (.ireturn, 1) := by decide +kernel
theorem dL_attempts_17 : decode cL_attempts 17 = .ok (.iconst 0, 1) := by decide +kernel
theorem dL_attempts_18 : decode cL_attempts 18 = .ok (.ireturn, 1) := by decide +kernel
theorem dL_earnedCredits_0 : decode cL_earnedCredits 0 = .ok (.aload_n 2, 1) := by decide +kernel
theorem dL_earnedCredits_1 : decode cL_earnedCredits 1 = .ok (.iconst 0, 1) := by decide +kernel
theorem dL_earnedCredits_2 : decode cL_earnedCredits 2 = .ok (.aload_n 0, 1) := by decide +kernel
theorem dL_earnedCredits_3 : decode cL_earnedCredits 3 = .ok (.iload_n 1, 1) := by decide +kernel
theorem dL_earnedCredits_4 : decode cL_earnedCredits 4 = .ok (.invokevirtual 104, 3) := by decide +kernel
theorem dL_earnedCredits_7 : decode cL_earnedCredits 7 = .ok (.i2l, 1) := by decide +kernel
theorem dL_earnedCredits_8 : decode cL_earnedCredits 8 = .ok (.lastore, 1) := by decide +kernel
theorem dL_earnedCredits_9 : decode cL_earnedCredits 9 = .ok (.goto 6, 3) := by decide +kernel
theorem dL_earnedCredits_12 : decode cL_earnedCredits 12 = .ok (.astore_n 3, 1) := by decide +kernel
theorem dL_earnedCredits_13 : decode cL_earnedCredits 13 = .ok (.iconst 1, 1) := by decide +kernel
theorem dL_earnedCredits_14 : decode cL_earnedCredits 14 = .ok (.ireturn, 1) := by decide +kernel
theorem dL_earnedCredits_15 : decode cL_earnedCredits 15 = .ok (.iconst 0, 1) := by decide +kernel
theorem dL_earnedCredits_16 : decode cL_earnedCredits 16 = .ok (.ireturn, 1) := by decide +kernel
theorem dL_average_0 : decode cL_average 0 = .ok (.aload_n 2, 1) := by decide +kernel
theorem dL_average_1 : decode cL_average 1 = .ok (.iconst 0, 1) := by decide +kernel
theorem dL_average_2 : decode cL_average 2 = .ok (.aload_n 0, 1) := by decide +kernel
theorem dL_average_3 : decode cL_average 3 = .ok (.iload_n 1, 1) := by decide +kernel
theorem dL_average_4 : decode cL_average 4 = .ok (.invokevirtual 107, 3) := by decide +kernel
theorem dL_average_7 : decode cL_average 7 = .ok (.dastore, 1) := by decide +kernel
theorem dL_average_8 : decode cL_average 8 = .ok (.goto 9, 3) := by decide +kernel
theorem dL_average_11 : decode cL_average 11 = .ok (.astore_n 3, 1) := by decide +kernel
theorem dL_average_12 : decode cL_average 12 = .ok (.iconst 1, 1) := by decide +kernel
theorem dL_average_13 : decode cL_average 13 = .ok (.ireturn, 1) := by decide +kernel
theorem dL_average_14 : decode cL_average 14 = .ok (.astore_n 3, 1) := by decide +kernel
theorem dL_average_15 : decode cL_average 15 = .ok (.iconst 2, 1) := by decide +kernel
theorem dL_average_16 : decode cL_average 16 = .ok (.ireturn, 1) := by decide +kernel
theorem dL_average_17 : decode cL_average 17 = .ok (.iconst 0, 1) := by decide +kernel
theorem dL_average_18 : decode cL_average 18 = .ok (.ireturn, 1) := by decide +kernel
theorem dL_load_0 : decode cL_load 0 = .ok (.aload_n 2, 1) := by decide +kernel
theorem dL_load_1 : decode cL_load 1 = .ok (.iconst 0, 1) := by decide +kernel
theorem dL_load_2 : decode cL_load 2 = .ok (.aload_n 0, 1) := by decide +kernel
theorem dL_load_3 : decode cL_load 3 = .ok (.iload_n 1, 1) := by decide +kernel
theorem dL_load_4 : decode cL_load 4 = .ok (.invokevirtual 111, 3) := by decide +kernel
theorem dL_load_7 : decode cL_load 7 = .ok (.i2l, 1) := by decide +kernel
theorem dL_load_8 : decode cL_load 8 = .ok (.lastore, 1) := by decide +kernel
theorem dL_load_9 : decode cL_load 9 = .ok (.goto 6, 3) := by decide +kernel
theorem dL_load_12 : decode cL_load 12 = .ok (.astore_n 3, 1) := by decide +kernel
theorem dL_load_13 : decode cL_load 13 = .ok (.iconst 1, 1) := by decide +kernel
theorem dL_load_14 : decode cL_load 14 = .ok (.ireturn, 1) := by decide +kernel
theorem dL_load_15 : decode cL_load 15 = .ok (.iconst 0, 1) := by decide +kernel
theorem dL_load_16 : decode cL_load 16 = .ok (.ireturn, 1) := by decide +kernel
theorem dL_isEnrolled_0 : decode cL_isEnrolled 0 = .ok (.aload_n 3, 1) := by decide +kernel
theorem dL_isEnrolled_1 : decode cL_isEnrolled 1 = .ok (.iconst 0, 1) := by decide +kernel
theorem dL_isEnrolled_2 : decode cL_isEnrolled 2 = .ok (.aload_n 0, 1) := by decide +kernel
theorem dL_isEnrolled_3 : decode cL_isEnrolled 3 = .ok (.iload_n 1, 1) := by decide +kernel
theorem dL_isEnrolled_4 : decode cL_isEnrolled 4 = .ok (.iload_n 2, 1) := by decide +kernel
theorem dL_isEnrolled_5 : decode cL_isEnrolled 5 = .ok (.invokevirtual 114, 3) := by decide +kernel
theorem dL_isEnrolled_8 : decode cL_isEnrolled 8 = .ok (.ifCond .eq 7, 3) := by decide +kernel
theorem dL_isEnrolled_11 : decode cL_isEnrolled 11 = .ok (.lconst 1, 1) := by decide +kernel
theorem dL_isEnrolled_12 : decode cL_isEnrolled 12 = .ok (.goto 4, 3) := by decide +kernel
theorem dL_isEnrolled_15 : decode cL_isEnrolled 15 = .ok (.lconst 0, 1) := by decide +kernel
theorem dL_isEnrolled_16 : decode cL_isEnrolled 16 = .ok (.lastore, 1) := by decide +kernel
theorem dL_isEnrolled_17 : decode cL_isEnrolled 17 = .ok (.goto 7, 3) := by decide +kernel
theorem dL_isEnrolled_20 : decode cL_isEnrolled 20 = .ok (.astore 4, 2) := by decide +kernel
theorem dL_isEnrolled_22 : decode cL_isEnrolled 22 = .ok (.iconst 1, 1) := by decide +kernel
theorem dL_isEnrolled_23 : decode cL_isEnrolled 23 = .ok (.ireturn, 1) := by decide +kernel
theorem dL_isEnrolled_24 : decode cL_isEnrolled 24 = .ok (.iconst 0, 1) := by decide +kernel
theorem dL_isEnrolled_25 : decode cL_isEnrolled 25 = .ok (.ireturn, 1) := by decide +kernel
theorem dL_enrolled_0 : decode cL_enrolled 0 = .ok (.aload_n 2, 1) := by decide +kernel
theorem dL_enrolled_1 : decode cL_enrolled 1 = .ok (.iconst 0, 1) := by decide +kernel
theorem dL_enrolled_2 : decode cL_enrolled 2 = .ok (.aload_n 0, 1) := by decide +kernel
theorem dL_enrolled_3 : decode cL_enrolled 3 = .ok (.iload_n 1, 1) := by decide +kernel
theorem dL_enrolled_4 : decode cL_enrolled 4 = .ok (.invokevirtual 117, 3) := by decide +kernel
theorem dL_enrolled_7 : decode cL_enrolled 7 = .ok (.i2l, 1) := by decide +kernel
theorem dL_enrolled_8 : decode cL_enrolled 8 = .ok (.lastore, 1) := by decide +kernel
theorem dL_enrolled_9 : decode cL_enrolled 9 = .ok (.goto 6, 3) := by decide +kernel
theorem dL_enrolled_12 : decode cL_enrolled 12 = .ok (.astore_n 3, 1) := by decide +kernel
theorem dL_enrolled_13 : decode cL_enrolled 13 = .ok (.iconst 1, 1) := by decide +kernel
theorem dL_enrolled_14 : decode cL_enrolled 14 = .ok (.ireturn, 1) := by decide +kernel
theorem dL_enrolled_15 : decode cL_enrolled 15 = .ok (.iconst 0, 1) := by decide +kernel
theorem dL_enrolled_16 : decode cL_enrolled 16 = .ok (.ireturn, 1) := by decide +kernel
theorem dL_waiting_0 : decode cL_waiting 0 = .ok (.aload_n 2, 1) := by decide +kernel
theorem dL_waiting_1 : decode cL_waiting 1 = .ok (.iconst 0, 1) := by decide +kernel
theorem dL_waiting_2 : decode cL_waiting 2 = .ok (.aload_n 0, 1) := by decide +kernel
theorem dL_waiting_3 : decode cL_waiting 3 = .ok (.iload_n 1, 1) := by decide +kernel
theorem dL_waiting_4 : decode cL_waiting 4 = .ok (.invokevirtual 120, 3) := by decide +kernel
theorem dL_waiting_7 : decode cL_waiting 7 = .ok (.i2l, 1) := by decide +kernel
theorem dL_waiting_8 : decode cL_waiting 8 = .ok (.lastore, 1) := by decide +kernel
theorem dL_waiting_9 : decode cL_waiting 9 = .ok (.goto 6, 3) := by decide +kernel
theorem dL_waiting_12 : decode cL_waiting 12 = .ok (.astore_n 3, 1) := by decide +kernel
theorem dL_waiting_13 : decode cL_waiting 13 = .ok (.iconst 1, 1) := by decide +kernel
theorem dL_waiting_14 : decode cL_waiting 14 = .ok (.ireturn, 1) := by decide +kernel
theorem dL_waiting_15 : decode cL_waiting 15 = .ok (.iconst 0, 1) := by decide +kernel
theorem dL_waiting_16 : decode cL_waiting 16 = .ok (.ireturn, 1) := by decide +kernel
theorem dL_placeOf_0 : decode cL_placeOf 0 = .ok (.aload_n 3, 1) := by decide +kernel
theorem dL_placeOf_1 : decode cL_placeOf 1 = .ok (.iconst 0, 1) := by decide +kernel
theorem dL_placeOf_2 : decode cL_placeOf 2 = .ok (.aload_n 0, 1) := by decide +kernel
theorem dL_placeOf_3 : decode cL_placeOf 3 = .ok (.iload_n 1, 1) := by decide +kernel
theorem dL_placeOf_4 : decode cL_placeOf 4 = .ok (.iload_n 2, 1) := by decide +kernel
theorem dL_placeOf_5 : decode cL_placeOf 5 = .ok (.invokevirtual 123, 3) := by decide +kernel
theorem dL_placeOf_8 : decode cL_placeOf 8 = .ok (.i2l, 1) := by decide +kernel
theorem dL_placeOf_9 : decode cL_placeOf 9 = .ok (.lastore, 1) := by decide +kernel
theorem dL_placeOf_10 : decode cL_placeOf 10 = .ok (.goto 11, 3) := by decide +kernel
theorem dL_placeOf_13 : decode cL_placeOf 13 = .ok (.astore 4, 2) := by decide +kernel
theorem dL_placeOf_15 : decode cL_placeOf 15 = .ok (.iconst 1, 1) := by decide +kernel
theorem dL_placeOf_16 : decode cL_placeOf 16 = .ok (.ireturn, 1) := by decide +kernel
theorem dL_placeOf_17 : decode cL_placeOf 17 = .ok (.astore 4, 2) := by decide +kernel
theorem dL_placeOf_19 : decode cL_placeOf 19 = .ok (.iconst 2, 1) := by decide +kernel
theorem dL_placeOf_20 : decode cL_placeOf 20 = .ok (.ireturn, 1) := by decide +kernel
theorem dL_placeOf_21 : decode cL_placeOf 21 = .ok (.iconst 0, 1) := by decide +kernel
theorem dL_placeOf_22 : decode cL_placeOf 22 = .ok (.ireturn, 1) := by decide +kernel
theorem dL_freeSeats_0 : decode cL_freeSeats 0 = .ok (.aload_n 3, 1) := by decide +kernel
theorem dL_freeSeats_1 : decode cL_freeSeats 1 = .ok (.iconst 0, 1) := by decide +kernel
theorem dL_freeSeats_2 : decode cL_freeSeats 2 = .ok (.aload_n 0, 1) := by decide +kernel
theorem dL_freeSeats_3 : decode cL_freeSeats 3 = .ok (.iload_n 1, 1) := by decide +kernel
theorem dL_freeSeats_4 : decode cL_freeSeats 4 = .ok (.iload_n 2, 1) := by decide +kernel
theorem dL_freeSeats_5 : decode cL_freeSeats 5 = .ok (.invokevirtual 126, 3) := by decide +kernel
theorem dL_freeSeats_8 : decode cL_freeSeats 8 = .ok (.i2l, 1) := by decide +kernel
theorem dL_freeSeats_9 : decode cL_freeSeats 9 = .ok (.lastore, 1) := by decide +kernel
theorem dL_freeSeats_10 : decode cL_freeSeats 10 = .ok (.goto 11, 3) := by decide +kernel
theorem dL_freeSeats_13 : decode cL_freeSeats 13 = .ok (.astore 4, 2) := by decide +kernel
theorem dL_freeSeats_15 : decode cL_freeSeats 15 = .ok (.iconst 1, 1) := by decide +kernel
theorem dL_freeSeats_16 : decode cL_freeSeats 16 = .ok (.ireturn, 1) := by decide +kernel
theorem dL_freeSeats_17 : decode cL_freeSeats 17 = .ok (.astore 4, 2) := by decide +kernel
theorem dL_freeSeats_19 : decode cL_freeSeats 19 = .ok (.iconst 2, 1) := by decide +kernel
theorem dL_freeSeats_20 : decode cL_freeSeats 20 = .ok (.ireturn, 1) := by decide +kernel
theorem dL_freeSeats_21 : decode cL_freeSeats 21 = .ok (.iconst 0, 1) := by decide +kernel
theorem dL_freeSeats_22 : decode cL_freeSeats 22 = .ok (.ireturn, 1) := by decide +kernel
theorem dL_share_0 : decode cL_share 0 = .ok (.aload_n 2, 1) := by decide +kernel
theorem dL_share_1 : decode cL_share 1 = .ok (.iconst 0, 1) := by decide +kernel
theorem dL_share_2 : decode cL_share 2 = .ok (.aload_n 0, 1) := by decide +kernel
theorem dL_share_3 : decode cL_share 3 = .ok (.iload_n 1, 1) := by decide +kernel
theorem dL_share_4 : decode cL_share 4 = .ok (.invokevirtual 129, 3) := by decide +kernel
theorem dL_share_7 : decode cL_share 7 = .ok (.f2d, 1) := by decide +kernel
theorem dL_share_8 : decode cL_share 8 = .ok (.dastore, 1) := by decide +kernel
theorem dL_share_9 : decode cL_share 9 = .ok (.goto 6, 3) := by decide +kernel
theorem dL_share_12 : decode cL_share 12 = .ok (.astore_n 3, 1) := by decide +kernel
theorem dL_share_13 : decode cL_share 13 = .ok (.iconst 1, 1) := by decide +kernel
theorem dL_share_14 : decode cL_share 14 = .ok (.ireturn, 1) := by decide +kernel
theorem dL_share_15 : decode cL_share 15 = .ok (.iconst 0, 1) := by decide +kernel
theorem dL_share_16 : decode cL_share 16 = .ok (.ireturn, 1) := by decide +kernel
theorem dL_whyNot_0 : decode cL_whyNot 0 = .ok (.aload_n 3, 1) := by decide +kernel
theorem dL_whyNot_1 : decode cL_whyNot 1 = .ok (.iconst 0, 1) := by decide +kernel
theorem dL_whyNot_2 : decode cL_whyNot 2 = .ok (.aload_n 0, 1) := by decide +kernel
theorem dL_whyNot_3 : decode cL_whyNot 3 = .ok (.iload_n 1, 1) := by decide +kernel
theorem dL_whyNot_4 : decode cL_whyNot 4 = .ok (.iload_n 2, 1) := by decide +kernel
theorem dL_whyNot_5 : decode cL_whyNot 5 = .ok (.invokevirtual 133, 3) := by decide +kernel
theorem dL_whyNot_8 : decode cL_whyNot 8 = .ok (.i2l, 1) := by decide +kernel
theorem dL_whyNot_9 : decode cL_whyNot 9 = .ok (.lastore, 1) := by decide +kernel
theorem dL_whyNot_10 : decode cL_whyNot 10 = .ok (.goto 15, 3) := by decide +kernel
theorem dL_whyNot_13 : decode cL_whyNot 13 = .ok (.astore 4, 2) := by decide +kernel
theorem dL_whyNot_15 : decode cL_whyNot 15 = .ok (.iconst 1, 1) := by decide +kernel
theorem dL_whyNot_16 : decode cL_whyNot 16 = .ok (.ireturn, 1) := by decide +kernel
theorem dL_whyNot_17 : decode cL_whyNot 17 = .ok (.astore 4, 2) := by decide +kernel
theorem dL_whyNot_19 : decode cL_whyNot 19 = .ok (.iconst 2, 1) := by decide +kernel
theorem dL_whyNot_20 : decode cL_whyNot 20 = .ok (.ireturn, 1) := by decide +kernel
theorem dL_whyNot_21 : decode cL_whyNot 21 = .ok (.astore 4, 2) := by decide +kernel
theorem dL_whyNot_23 : decode cL_whyNot 23 = .ok (.iconst 3, 1) := by decide +kernel
theorem dL_whyNot_24 : decode cL_whyNot 24 = .ok (.ireturn, 1) := by decide +kernel
theorem dL_whyNot_25 : decode cL_whyNot 25 = .ok (.iconst 0, 1) := by decide +kernel
theorem dL_whyNot_26 : decode cL_whyNot 26 = .ok (.ireturn, 1) := by decide +kernel
theorem dL_whyLong_0 : decode cL_whyLong 0 = .ok (.aload_n 3, 1) := by decide +kernel
theorem dL_whyLong_1 : decode cL_whyLong 1 = .ok (.iconst 0, 1) := by decide +kernel
theorem dL_whyLong_2 : decode cL_whyLong 2 = .ok (.aload_n 0, 1) := by decide +kernel
theorem dL_whyLong_3 : decode cL_whyLong 3 = .ok (.iload_n 1, 1) := by decide +kernel
theorem dL_whyLong_4 : decode cL_whyLong 4 = .ok (.iload_n 2, 1) := by decide +kernel
theorem dL_whyLong_5 : decode cL_whyLong 5 = .ok (.invokevirtual 136, 3) := by decide +kernel
theorem dL_whyLong_8 : decode cL_whyLong 8 = .ok (.i2l, 1) := by decide +kernel
theorem dL_whyLong_9 : decode cL_whyLong 9 = .ok (.lastore, 1) := by decide +kernel
theorem dL_whyLong_10 : decode cL_whyLong 10 = .ok (.goto 15, 3) := by decide +kernel
theorem dL_whyLong_13 : decode cL_whyLong 13 = .ok (.astore 4, 2) := by decide +kernel
theorem dL_whyLong_15 : decode cL_whyLong 15 = .ok (.iconst 1, 1) := by decide +kernel
theorem dL_whyLong_16 : decode cL_whyLong 16 = .ok (.ireturn, 1) := by decide +kernel
theorem dL_whyLong_17 : decode cL_whyLong 17 = .ok (.astore 4, 2) := by decide +kernel
theorem dL_whyLong_19 : decode cL_whyLong 19 = .ok (.iconst 2, 1) := by decide +kernel
theorem dL_whyLong_20 : decode cL_whyLong 20 = .ok (.ireturn, 1) := by decide +kernel
theorem dL_whyLong_21 : decode cL_whyLong 21 = .ok (.astore 4, 2) := by decide +kernel
theorem dL_whyLong_23 : decode cL_whyLong 23 = .ok (.iconst 3, 1) := by decide +kernel
theorem dL_whyLong_24 : decode cL_whyLong 24 = .ok (.ireturn, 1) := by decide +kernel
theorem dL_whyLong_25 : decode cL_whyLong 25 = .ok (.iconst 0, 1) := by decide +kernel
theorem dL_whyLong_26 : decode cL_whyLong 26 = .ok (.ireturn, 1) := by decide +kernel
theorem dL_termsTo_0 : decode cL_termsTo 0 = .ok (.aload_n 2, 1) := by decide +kernel
theorem dL_termsTo_1 : decode cL_termsTo 1 = .ok (.iconst 0, 1) := by decide +kernel
theorem dL_termsTo_2 : decode cL_termsTo 2 = .ok (.aload_n 0, 1) := by decide +kernel
theorem dL_termsTo_3 : decode cL_termsTo 3 = .ok (.iload_n 1, 1) := by decide +kernel
theorem dL_termsTo_4 : decode cL_termsTo 4 = .ok (.invokevirtual 139, 3) := by decide +kernel
theorem dL_termsTo_7 : decode cL_termsTo 7 = .ok (.i2l, 1) := by decide +kernel
theorem dL_termsTo_8 : decode cL_termsTo 8 = .ok (.lastore, 1) := by decide +kernel
theorem dL_termsTo_9 : decode cL_termsTo 9 = .ok (.goto 9, 3) := by decide +kernel
theorem dL_termsTo_12 : decode cL_termsTo 12 = .ok (.astore_n 3, 1) := by decide +kernel
theorem dL_termsTo_13 : decode cL_termsTo 13 = .ok (.iconst 1, 1) := by decide +kernel
theorem dL_termsTo_14 : decode cL_termsTo 14 = .ok (.ireturn, 1) := by decide +kernel
theorem dL_termsTo_15 : decode cL_termsTo 15 = .ok (.astore_n 3, 1) := by decide +kernel
theorem dL_termsTo_16 : decode cL_termsTo 16 = .ok (.iconst 2, 1) := by decide +kernel
theorem dL_termsTo_17 : decode cL_termsTo 17 = .ok (.ireturn, 1) := by decide +kernel
theorem dL_termsTo_18 : decode cL_termsTo 18 = .ok (.iconst 0, 1) := by decide +kernel
theorem dL_termsTo_19 : decode cL_termsTo 19 = .ok (.ireturn, 1) := by decide +kernel
theorem dL_transcriptLength_0 : decode cL_transcriptLength 0 = .ok (.aload_n 2, 1) := by decide +kernel
theorem dL_transcriptLength_1 : decode cL_transcriptLength 1 = .ok (.iconst 0, 1) := by decide +kernel
theorem dL_transcriptLength_2 : decode cL_transcriptLength 2 = .ok (.aload_n 0, 1) := by decide +kernel
