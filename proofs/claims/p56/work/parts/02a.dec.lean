theorem dX0_init_0 : decode cX0_init 0 = .ok (.aload_n 0, 1) := by decide +kernel
theorem dX0_init_1 : decode cX0_init 1 = .ok (.invokespecial 5, 3) := by decide +kernel
theorem dX0_init_4 : decode cX0_init 4 = .ok (.aload_n 0, 1) := by decide +kernel
theorem dX0_init_5 : decode cX0_init 5 = .ok (.iconst 4, 1) := by decide +kernel
theorem dX0_init_6 : decode cX0_init 6 = .ok (.newarray .int, 2) := by decide +kernel
theorem dX0_init_8 : decode cX0_init 8 = .ok (.putfield 11, 3) := by decide +kernel
theorem dX0_init_11 : decode cX0_init 11 = .ok (.aload_n 0, 1) := by decide +kernel
theorem dX0_init_12 : decode cX0_init 12 = .ok (.iconst 4, 1) := by decide +kernel
theorem dX0_init_13 : decode cX0_init 13 = .ok (.newarray .int, 2) := by decide +kernel
theorem dX0_init_15 : decode cX0_init 15 = .ok (.putfield 15, 3) := by decide +kernel
theorem dX0_init_18 : decode cX0_init 18 = .ok (.aload_n 0, 1) := by decide +kernel
theorem dX0_init_19 : decode cX0_init 19 = .ok (.bipush 20, 2) := by decide +kernel
theorem dX0_init_21 : decode cX0_init 21 = .ok (.newarray .int, 2) := by decide +kernel
theorem dX0_init_23 : decode cX0_init 23 = .ok (.putfield 18, 3) := by decide +kernel
theorem dX0_init_26 : decode cX0_init 26 = .ok (.aload_n 0, 1) := by decide +kernel
theorem dX0_init_27 : decode cX0_init 27 = .ok (.iconst 4, 1) := by decide +kernel
theorem dX0_init_28 : decode cX0_init 28 = .ok (.newarray .int, 2) := by decide +kernel
theorem dX0_init_30 : decode cX0_init 30 = .ok (.putfield 21, 3) := by decide +kernel
theorem dX0_init_33 : decode cX0_init 33 = .ok (.aload_n 0, 1) := by decide +kernel
theorem dX0_init_34 : decode cX0_init 34 = .ok (.iconst 4, 1) := by decide +kernel
theorem dX0_init_35 : decode cX0_init 35 = .ok (.newarray .int, 2) := by decide +kernel
theorem dX0_init_37 : decode cX0_init 37 = .ok (.putfield 24, 3) := by decide +kernel
theorem dX0_init_40 : decode cX0_init 40 = .ok (.aload_n 0, 1) := by decide +kernel
theorem dX0_init_41 : decode cX0_init 41 = .ok (.bipush 20, 2) := by decide +kernel
theorem dX0_init_43 : decode cX0_init 43 = .ok (.newarray .int, 2) := by decide +kernel
theorem dX0_init_45 : decode cX0_init 45 = .ok (.putfield 27, 3) := by decide +kernel
theorem dX0_init_48 : decode cX0_init 48 = .ok (.aload_n 0, 1) := by decide +kernel
theorem dX0_init_49 : decode cX0_init 49 = .ok (.iconst 4, 1) := by decide +kernel
theorem dX0_init_50 : decode cX0_init 50 = .ok (.newarray .int, 2) := by decide +kernel
theorem dX0_init_52 : decode cX0_init 52 = .ok (.putfield 30, 3) := by decide +kernel
theorem dX0_init_55 : decode cX0_init 55 = .ok (.aload_n 0, 1) := by decide +kernel
theorem dX0_init_56 : decode cX0_init 56 = .ok (.iconst 4, 1) := by decide +kernel
theorem dX0_init_57 : decode cX0_init 57 = .ok (.newarray .int, 2) := by decide +kernel
theorem dX0_init_59 : decode cX0_init 59 = .ok (.putfield 33, 3) := by decide +kernel
theorem dX0_init_62 : decode cX0_init 62 = .ok (.aload_n 0, 1) := by decide +kernel
theorem dX0_init_63 : decode cX0_init 63 = .ok (.sipush 256, 3) := by decide +kernel
theorem dX0_init_66 : decode cX0_init 66 = .ok (.newarray .boolean, 2) := by decide +kernel
theorem dX0_init_68 : decode cX0_init 68 = .ok (.putfield 36, 3) := by decide +kernel
theorem dX0_init_71 : decode cX0_init 71 = .ok (.return_, 1) := by decide +kernel
theorem dX0_open_0 : decode cX0_open 0 = .ok (.aload_n 0, 1) := by decide +kernel
theorem dX0_open_1 : decode cX0_open 1 = .ok (.iconst 0, 1) := by decide +kernel
theorem dX0_open_2 : decode cX0_open 2 = .ok (.putfield 40, 3) := by decide +kernel
theorem dX0_open_5 : decode cX0_open 5 = .ok (.aload_n 0, 1) := by decide +kernel
theorem dX0_open_6 : decode cX0_open 6 = .ok (.getfield 18, 3) := by decide +kernel
theorem dX0_open_9 : decode cX0_open 9 = .ok (.iconst 0, 1) := by decide +kernel
theorem dX0_open_10 : decode cX0_open 10 = .ok (.invokestatic 44, 3) := by decide +kernel
theorem dX0_open_13 : decode cX0_open 13 = .ok (.iconst 0, 1) := by decide +kernel
theorem dX0_open_14 : decode cX0_open 14 = .ok (.istore 4, 2) := by decide +kernel
theorem dX0_open_16 : decode cX0_open 16 = .ok (.iload 4, 2) := by decide +kernel
theorem dX0_open_18 : decode cX0_open 18 = .ok (.aload_n 1, 1) := by decide +kernel
theorem dX0_open_19 : decode cX0_open 19 = .ok (.invokevirtual 50, 3) := by decide +kernel
theorem dX0_open_22 : decode cX0_open 22 = .ok (.if_icmp .ge 83, 3) := by decide +kernel
theorem dX0_open_25 : decode cX0_open 25 = .ok (.aload_n 1, 1) := by decide +kernel
theorem dX0_open_26 : decode cX0_open 26 = .ok (.iload 4, 2) := by decide +kernel
theorem dX0_open_28 : decode cX0_open 28 = .ok (.invokevirtual 56, 3) := by decide +kernel
theorem dX0_open_31 : decode cX0_open 31 = .ok (.checkcast 60, 3) := by decide +kernel
theorem dX0_open_34 : decode cX0_open 34 = .ok (.astore 5, 2) := by decide +kernel
theorem dX0_open_36 : decode cX0_open 36 = .ok (.aload 5, 2) := by decide +kernel
theorem dX0_open_38 : decode cX0_open 38 = .ok (.getfield 62, 3) := by decide +kernel
theorem dX0_open_41 : decode cX0_open 41 = .ok (.aload_n 2, 1) := by decide +kernel
theorem dX0_open_42 : decode cX0_open 42 = .ok (.getfield 65, 3) := by decide +kernel
theorem dX0_open_45 : decode cX0_open 45 = .ok (.if_icmp .ne 54, 3) := by decide +kernel
theorem dX0_open_48 : decode cX0_open 48 = .ok (.aload_n 0, 1) := by decide +kernel
theorem dX0_open_49 : decode cX0_open 49 = .ok (.getfield 40, 3) := by decide +kernel
theorem dX0_open_52 : decode cX0_open 52 = .ok (.iconst 4, 1) := by decide +kernel
theorem dX0_open_53 : decode cX0_open 53 = .ok (.if_icmp .ge 46, 3) := by decide +kernel
theorem dX0_open_56 : decode cX0_open 56 = .ok (.aload_n 0, 1) := by decide +kernel
theorem dX0_open_57 : decode cX0_open 57 = .ok (.getfield 11, 3) := by decide +kernel
theorem dX0_open_60 : decode cX0_open 60 = .ok (.aload_n 0, 1) := by decide +kernel
theorem dX0_open_61 : decode cX0_open 61 = .ok (.getfield 40, 3) := by decide +kernel
theorem dX0_open_64 : decode cX0_open 64 = .ok (.iload 4, 2) := by decide +kernel
theorem dX0_open_66 : decode cX0_open 66 = .ok (.iastore, 1) := by decide +kernel
theorem dX0_open_67 : decode cX0_open 67 = .ok (.aload_n 0, 1) := by decide +kernel
theorem dX0_open_68 : decode cX0_open 68 = .ok (.getfield 15, 3) := by decide +kernel
theorem dX0_open_71 : decode cX0_open 71 = .ok (.aload_n 0, 1) := by decide +kernel
theorem dX0_open_72 : decode cX0_open 72 = .ok (.getfield 40, 3) := by decide +kernel
theorem dX0_open_75 : decode cX0_open 75 = .ok (.aload 5, 2) := by decide +kernel
theorem dX0_open_77 : decode cX0_open 77 = .ok (.getfield 68, 3) := by decide +kernel
theorem dX0_open_80 : decode cX0_open 80 = .ok (.iastore, 1) := by decide +kernel
theorem dX0_open_81 : decode cX0_open 81 = .ok (.aload_n 0, 1) := by decide +kernel
theorem dX0_open_82 : decode cX0_open 82 = .ok (.aload 5, 2) := by decide +kernel
theorem dX0_open_84 : decode cX0_open 84 = .ok (.aload_n 2, 1) := by decide +kernel
theorem dX0_open_85 : decode cX0_open 85 = .ok (.iload_n 3, 1) := by decide +kernel
theorem dX0_open_86 : decode cX0_open 86 = .ok (.invokevirtual 71, 3) := by decide +kernel
theorem dX0_open_89 : decode cX0_open 89 = .ok (.aload_n 0, 1) := by decide +kernel
theorem dX0_open_90 : decode cX0_open 90 = .ok (.dup, 1) := by decide +kernel
theorem dX0_open_91 : decode cX0_open 91 = .ok (.getfield 40, 3) := by decide +kernel
theorem dX0_open_94 : decode cX0_open 94 = .ok (.iconst 1, 1) := by decide +kernel
theorem dX0_open_95 : decode cX0_open 95 = .ok (.iadd, 1) := by decide +kernel
theorem dX0_open_96 : decode cX0_open 96 = .ok (.putfield 40, 3) := by decide +kernel
theorem dX0_open_99 : decode cX0_open 99 = .ok (.iinc 4 1, 3) := by decide +kernel
theorem dX0_open_102 : decode cX0_open 102 = .ok (.goto (-86), 3) := by decide +kernel
theorem dX0_open_105 : decode cX0_open 105 = .ok (.return_, 1) := by decide +kernel
theorem dX0_noteFits_0 : decode cX0_noteFits 0 = .ok (.iconst 0, 1) := by decide +kernel
theorem dX0_noteFits_1 : decode cX0_noteFits 1 = .ok (.istore 4, 2) := by decide +kernel
theorem dX0_noteFits_3 : decode cX0_noteFits 3 = .ok (.iload 4, 2) := by decide +kernel
theorem dX0_noteFits_5 : decode cX0_noteFits 5 = .ok (.bipush 20, 2) := by decide +kernel
theorem dX0_noteFits_7 : decode cX0_noteFits 7 = .ok (.if_icmp .ge 79, 3) := by decide +kernel
theorem dX0_noteFits_10 : decode cX0_noteFits 10 = .ok (.iload_n 3, 1) := by decide +kernel
theorem dX0_noteFits_11 : decode cX0_noteFits 11 = .ok (.ifCond .eq 18, 3) := by decide +kernel
theorem dX0_noteFits_14 : decode cX0_noteFits 14 = .ok (.aload_n 2, 1) := by decide +kernel
theorem dX0_noteFits_15 : decode cX0_noteFits 15 = .ok (.getfield 75, 3) := by decide +kernel
theorem dX0_noteFits_18 : decode cX0_noteFits 18 = .ok (.iload 4, 2) := by decide +kernel
theorem dX0_noteFits_20 : decode cX0_noteFits 20 = .ok (.baload, 1) := by decide +kernel
theorem dX0_noteFits_21 : decode cX0_noteFits 21 = .ok (.ifCond .eq 8, 3) := by decide +kernel
theorem dX0_noteFits_24 : decode cX0_noteFits 24 = .ok (.bipush 100, 2) := by decide +kernel
theorem dX0_noteFits_26 : decode cX0_noteFits 26 = .ok (.goto 10, 3) := by decide +kernel
theorem dX0_noteFits_29 : decode cX0_noteFits 29 = .ok (.aload_n 2, 1) := by decide +kernel
theorem dX0_noteFits_30 : decode cX0_noteFits 30 = .ok (.getfield 78, 3) := by decide +kernel
theorem dX0_noteFits_33 : decode cX0_noteFits 33 = .ok (.iload 4, 2) := by decide +kernel
theorem dX0_noteFits_35 : decode cX0_noteFits 35 = .ok (.iaload, 1) := by decide +kernel
theorem dX0_noteFits_36 : decode cX0_noteFits 36 = .ok (.istore 5, 2) := by decide +kernel
theorem dX0_noteFits_38 : decode cX0_noteFits 38 = .ok (.aload_n 1, 1) := by decide +kernel
theorem dX0_noteFits_39 : decode cX0_noteFits 39 = .ok (.getfield 81, 3) := by decide +kernel
theorem dX0_noteFits_42 : decode cX0_noteFits 42 = .ok (.iload 4, 2) := by decide +kernel
theorem dX0_noteFits_44 : decode cX0_noteFits 44 = .ok (.baload, 1) := by decide +kernel
theorem dX0_noteFits_45 : decode cX0_noteFits 45 = .ok (.ifCond .eq 35, 3) := by decide +kernel
theorem dX0_noteFits_48 : decode cX0_noteFits 48 = .ok (.iload 5, 2) := by decide +kernel
theorem dX0_noteFits_50 : decode cX0_noteFits 50 = .ok (.bipush 50, 2) := by decide +kernel
theorem dX0_noteFits_52 : decode cX0_noteFits 52 = .ok (.if_icmp .lt 28, 3) := by decide +kernel
theorem dX0_noteFits_55 : decode cX0_noteFits 55 = .ok (.iload 5, 2) := by decide +kernel
theorem dX0_noteFits_57 : decode cX0_noteFits 57 = .ok (.aload_n 1, 1) := by decide +kernel
theorem dX0_noteFits_58 : decode cX0_noteFits 58 = .ok (.getfield 84, 3) := by decide +kernel
theorem dX0_noteFits_61 : decode cX0_noteFits 61 = .ok (.if_icmp .lt 19, 3) := by decide +kernel
theorem dX0_noteFits_64 : decode cX0_noteFits 64 = .ok (.aload_n 0, 1) := by decide +kernel
theorem dX0_noteFits_65 : decode cX0_noteFits 65 = .ok (.getfield 18, 3) := by decide +kernel
theorem dX0_noteFits_68 : decode cX0_noteFits 68 = .ok (.iload 4, 2) := by decide +kernel
theorem dX0_noteFits_70 : decode cX0_noteFits 70 = .ok (.dup2, 1) := by decide +kernel
theorem dX0_noteFits_71 : decode cX0_noteFits 71 = .ok (.iaload, 1) := by decide +kernel
theorem dX0_noteFits_72 : decode cX0_noteFits 72 = .ok (.iconst 1, 1) := by decide +kernel
theorem dX0_noteFits_73 : decode cX0_noteFits 73 = .ok (.aload_n 0, 1) := by decide +kernel
theorem dX0_noteFits_74 : decode cX0_noteFits 74 = .ok (.getfield 40, 3) := by decide +kernel
theorem dX0_noteFits_77 : decode cX0_noteFits 77 = .ok (.ishl, 1) := by decide +kernel
theorem dX0_noteFits_78 : decode cX0_noteFits 78 = .ok (.ior, 1) := by decide +kernel
theorem dX0_noteFits_79 : decode cX0_noteFits 79 = .ok (.iastore, 1) := by decide +kernel
theorem dX0_noteFits_80 : decode cX0_noteFits 80 = .ok (.iinc 4 1, 3) := by decide +kernel
theorem dX0_noteFits_83 : decode cX0_noteFits 83 = .ok (.goto (-80), 3) := by decide +kernel
theorem dX0_noteFits_86 : decode cX0_noteFits 86 = .ok (.return_, 1) := by decide +kernel
theorem dX0_isFit_0 : decode cX0_isFit 0 = .ok (.aload_n 0, 1) := by decide +kernel
theorem dX0_isFit_1 : decode cX0_isFit 1 = .ok (.getfield 18, 3) := by decide +kernel
theorem dX0_isFit_4 : decode cX0_isFit 4 = .ok (.iload_n 1, 1) := by decide +kernel
theorem dX0_isFit_5 : decode cX0_isFit 5 = .ok (.iaload, 1) := by decide +kernel
theorem dX0_isFit_6 : decode cX0_isFit 6 = .ok (.iload_n 2, 1) := by decide +kernel
theorem dX0_isFit_7 : decode cX0_isFit 7 = .ok (.ishr, 1) := by decide +kernel
theorem dX0_isFit_8 : decode cX0_isFit 8 = .ok (.iconst 1, 1) := by decide +kernel
theorem dX0_isFit_9 : decode cX0_isFit 9 = .ok (.iand, 1) := by decide +kernel
theorem dX0_isFit_10 : decode cX0_isFit 10 = .ok (.ifCond .eq 7, 3) := by decide +kernel
theorem dX0_isFit_13 : decode cX0_isFit 13 = .ok (.iconst 1, 1) := by decide +kernel
theorem dX0_isFit_14 : decode cX0_isFit 14 = .ok (.goto 4, 3) := by decide +kernel
theorem dX0_isFit_17 : decode cX0_isFit 17 = .ok (.iconst 0, 1) := by decide +kernel
theorem dX0_isFit_18 : decode cX0_isFit 18 = .ok (.ireturn, 1) := by decide +kernel
theorem dX0_giveAll_0 : decode cX0_giveAll 0 = .ok (.aload_n 0, 1) := by decide +kernel
theorem dX0_giveAll_1 : decode cX0_giveAll 1 = .ok (.getfield 15, 3) := by decide +kernel
theorem dX0_giveAll_4 : decode cX0_giveAll 4 = .ok (.iconst 0, 1) := by decide +kernel
theorem dX0_giveAll_5 : decode cX0_giveAll 5 = .ok (.aload_n 0, 1) := by decide +kernel
theorem dX0_giveAll_6 : decode cX0_giveAll 6 = .ok (.getfield 21, 3) := by decide +kernel
theorem dX0_giveAll_9 : decode cX0_giveAll 9 = .ok (.iconst 0, 1) := by decide +kernel
theorem dX0_giveAll_10 : decode cX0_giveAll 10 = .ok (.iconst 4, 1) := by decide +kernel
theorem dX0_giveAll_11 : decode cX0_giveAll 11 = .ok (.invokestatic 87, 3) := by decide +kernel
theorem dX0_giveAll_14 : decode cX0_giveAll 14 = .ok (.aload_n 0, 1) := by decide +kernel
theorem dX0_giveAll_15 : decode cX0_giveAll 15 = .ok (.iconst 0, 1) := by decide +kernel
theorem dX0_giveAll_16 : decode cX0_giveAll 16 = .ok (.invokevirtual 93, 3) := by decide +kernel
theorem dX0_giveAll_19 : decode cX0_giveAll 19 = .ok (.ireturn, 1) := by decide +kernel
theorem dX0_giveFrom_0 : decode cX0_giveFrom 0 = .ok (.aload_n 0, 1) := by decide +kernel
theorem dX0_giveFrom_1 : decode cX0_giveFrom 1 = .ok (.getfield 27, 3) := by decide +kernel
theorem dX0_giveFrom_4 : decode cX0_giveFrom 4 = .ok (.iconst (-1), 1) := by decide +kernel
theorem dX0_giveFrom_5 : decode cX0_giveFrom 5 = .ok (.invokestatic 44, 3) := by decide +kernel
theorem dX0_giveFrom_8 : decode cX0_giveFrom 8 = .ok (.aload_n 0, 1) := by decide +kernel
theorem dX0_giveFrom_9 : decode cX0_giveFrom 9 = .ok (.getfield 24, 3) := by decide +kernel
theorem dX0_giveFrom_12 : decode cX0_giveFrom 12 = .ok (.iconst 0, 1) := by decide +kernel
theorem dX0_giveFrom_13 : decode cX0_giveFrom 13 = .ok (.invokestatic 44, 3) := by decide +kernel
theorem dX0_giveFrom_16 : decode cX0_giveFrom 16 = .ok (.iconst 0, 1) := by decide +kernel
theorem dX0_giveFrom_17 : decode cX0_giveFrom 17 = .ok (.istore_n 2, 1) := by decide +kernel
theorem dX0_giveFrom_18 : decode cX0_giveFrom 18 = .ok (.iload_n 1, 1) := by decide +kernel
theorem dX0_giveFrom_19 : decode cX0_giveFrom 19 = .ok (.istore_n 3, 1) := by decide +kernel
theorem dX0_giveFrom_20 : decode cX0_giveFrom 20 = .ok (.iload_n 3, 1) := by decide +kernel
theorem dX0_giveFrom_21 : decode cX0_giveFrom 21 = .ok (.bipush 20, 2) := by decide +kernel
theorem dX0_giveFrom_23 : decode cX0_giveFrom 23 = .ok (.if_icmp .ge 29, 3) := by decide +kernel
theorem dX0_giveFrom_26 : decode cX0_giveFrom 26 = .ok (.aload_n 0, 1) := by decide +kernel
theorem dX0_giveFrom_27 : decode cX0_giveFrom 27 = .ok (.getfield 18, 3) := by decide +kernel
theorem dX0_giveFrom_30 : decode cX0_giveFrom 30 = .ok (.iload_n 3, 1) := by decide +kernel
theorem dX0_giveFrom_31 : decode cX0_giveFrom 31 = .ok (.iaload, 1) := by decide +kernel
theorem dX0_giveFrom_32 : decode cX0_giveFrom 32 = .ok (.ifCond .eq 14, 3) := by decide +kernel
theorem dX0_giveFrom_35 : decode cX0_giveFrom 35 = .ok (.aload_n 0, 1) := by decide +kernel
theorem dX0_giveFrom_36 : decode cX0_giveFrom 36 = .ok (.iload_n 3, 1) := by decide +kernel
theorem dX0_giveFrom_37 : decode cX0_giveFrom 37 = .ok (.invokevirtual 97, 3) := by decide +kernel
theorem dX0_giveFrom_40 : decode cX0_giveFrom 40 = .ok (.ifCond .eq 6, 3) := by decide +kernel
theorem dX0_giveFrom_43 : decode cX0_giveFrom 43 = .ok (.iinc 2 1, 3) := by decide +kernel
theorem dX0_giveFrom_46 : decode cX0_giveFrom 46 = .ok (.iinc 3 1, 3) := by decide +kernel
theorem dX0_giveFrom_49 : decode cX0_giveFrom 49 = .ok (.goto (-29), 3) := by decide +kernel
theorem dX0_giveFrom_52 : decode cX0_giveFrom 52 = .ok (.iload_n 2, 1) := by decide +kernel
theorem dX0_giveFrom_53 : decode cX0_giveFrom 53 = .ok (.ireturn, 1) := by decide +kernel
theorem dX0_give_0 : decode cX0_give 0 = .ok (.aload_n 0, 1) := by decide +kernel
theorem dX0_give_1 : decode cX0_give 1 = .ok (.getfield 33, 3) := by decide +kernel
theorem dX0_give_4 : decode cX0_give 4 = .ok (.iconst (-1), 1) := by decide +kernel
theorem dX0_give_5 : decode cX0_give 5 = .ok (.invokestatic 44, 3) := by decide +kernel
theorem dX0_give_8 : decode cX0_give 8 = .ok (.aload_n 0, 1) := by decide +kernel
theorem dX0_give_9 : decode cX0_give 9 = .ok (.iload_n 1, 1) := by decide +kernel
theorem dX0_give_10 : decode cX0_give 10 = .ok (.iconst 0, 1) := by decide +kernel
theorem dX0_give_11 : decode cX0_give 11 = .ok (.invokevirtual 101, 3) := by decide +kernel
theorem dX0_give_14 : decode cX0_give 14 = .ok (.istore_n 2, 1) := by decide +kernel
theorem dX0_give_15 : decode cX0_give 15 = .ok (.iconst 0, 1) := by decide +kernel
theorem dX0_give_16 : decode cX0_give 16 = .ok (.istore_n 3, 1) := by decide +kernel
theorem dX0_give_17 : decode cX0_give 17 = .ok (.iload_n 3, 1) := by decide +kernel
theorem dX0_give_18 : decode cX0_give 18 = .ok (.aload_n 0, 1) := by decide +kernel
theorem dX0_give_19 : decode cX0_give 19 = .ok (.getfield 40, 3) := by decide +kernel
theorem dX0_give_22 : decode cX0_give 22 = .ok (.if_icmp .ge 83, 3) := by decide +kernel
theorem dX0_give_25 : decode cX0_give 25 = .ok (.iload_n 3, 1) := by decide +kernel
theorem dX0_give_26 : decode cX0_give 26 = .ok (.iload_n 2, 1) := by decide +kernel
theorem dX0_give_27 : decode cX0_give 27 = .ok (.if_icmp .ge 78, 3) := by decide +kernel
theorem dX0_give_30 : decode cX0_give 30 = .ok (.aload_n 0, 1) := by decide +kernel
theorem dX0_give_31 : decode cX0_give 31 = .ok (.getfield 30, 3) := by decide +kernel
theorem dX0_give_34 : decode cX0_give 34 = .ok (.iload_n 3, 1) := by decide +kernel
theorem dX0_give_35 : decode cX0_give 35 = .ok (.iaload, 1) := by decide +kernel
theorem dX0_give_36 : decode cX0_give 36 = .ok (.istore 4, 2) := by decide +kernel
theorem dX0_give_38 : decode cX0_give 38 = .ok (.aload_n 0, 1) := by decide +kernel
theorem dX0_give_39 : decode cX0_give 39 = .ok (.getfield 24, 3) := by decide +kernel
theorem dX0_give_42 : decode cX0_give 42 = .ok (.iload 4, 2) := by decide +kernel
theorem dX0_give_44 : decode cX0_give 44 = .ok (.iaload, 1) := by decide +kernel
theorem dX0_give_45 : decode cX0_give 45 = .ok (.aload_n 0, 1) := by decide +kernel
theorem dX0_give_46 : decode cX0_give 46 = .ok (.getfield 21, 3) := by decide +kernel
theorem dX0_give_49 : decode cX0_give 49 = .ok (.iload 4, 2) := by decide +kernel
theorem dX0_give_51 : decode cX0_give 51 = .ok (.iaload, 1) := by decide +kernel
theorem dX0_give_52 : decode cX0_give 52 = .ok (.if_icmp .ge 11, 3) := by decide +kernel
theorem dX0_give_55 : decode cX0_give 55 = .ok (.aload_n 0, 1) := by decide +kernel
theorem dX0_give_56 : decode cX0_give 56 = .ok (.iload 4, 2) := by decide +kernel
theorem dX0_give_58 : decode cX0_give 58 = .ok (.invokevirtual 105, 3) := by decide +kernel
theorem dX0_give_61 : decode cX0_give 61 = .ok (.iconst 1, 1) := by decide +kernel
theorem dX0_give_62 : decode cX0_give 62 = .ok (.ireturn, 1) := by decide +kernel
theorem dX0_give_63 : decode cX0_give 63 = .ok (.iconst 0, 1) := by decide +kernel
theorem dX0_give_64 : decode cX0_give 64 = .ok (.istore 5, 2) := by decide +kernel
theorem dX0_give_66 : decode cX0_give 66 = .ok (.iload 5, 2) := by decide +kernel
theorem dX0_give_68 : decode cX0_give 68 = .ok (.bipush 20, 2) := by decide +kernel
theorem dX0_give_70 : decode cX0_give 70 = .ok (.if_icmp .ge 29, 3) := by decide +kernel
theorem dX0_give_73 : decode cX0_give 73 = .ok (.aload_n 0, 1) := by decide +kernel
theorem dX0_give_74 : decode cX0_give 74 = .ok (.getfield 27, 3) := by decide +kernel
theorem dX0_give_77 : decode cX0_give 77 = .ok (.iload 5, 2) := by decide +kernel
theorem dX0_give_79 : decode cX0_give 79 = .ok (.iaload, 1) := by decide +kernel
theorem dX0_give_80 : decode cX0_give 80 = .ok (.iload 4, 2) := by decide +kernel
theorem dX0_give_82 : decode cX0_give 82 = .ok (.if_icmp .ne 11, 3) := by decide +kernel
theorem dX0_give_85 : decode cX0_give 85 = .ok (.aload_n 0, 1) := by decide +kernel
theorem dX0_give_86 : decode cX0_give 86 = .ok (.iload 5, 2) := by decide +kernel
theorem dX0_give_88 : decode cX0_give 88 = .ok (.iload_n 2, 1) := by decide +kernel
theorem dX0_give_89 : decode cX0_give 89 = .ok (.invokevirtual 101, 3) := by decide +kernel
theorem dX0_give_92 : decode cX0_give 92 = .ok (.istore_n 2, 1) := by decide +kernel
theorem dX0_give_93 : decode cX0_give 93 = .ok (.iinc 5 1, 3) := by decide +kernel
theorem dX0_give_96 : decode cX0_give 96 = .ok (.goto (-30), 3) := by decide +kernel
theorem dX0_give_99 : decode cX0_give 99 = .ok (.iinc 3 1, 3) := by decide +kernel
theorem dX0_give_102 : decode cX0_give 102 = .ok (.goto (-85), 3) := by decide +kernel
theorem dX0_give_105 : decode cX0_give 105 = .ok (.iconst 0, 1) := by decide +kernel
theorem dX0_give_106 : decode cX0_give 106 = .ok (.ireturn, 1) := by decide +kernel
theorem dX0_findSlotsFor_0 : decode cX0_findSlotsFor 0 = .ok (.iload_n 2, 1) := by decide +kernel
theorem dX0_findSlotsFor_1 : decode cX0_findSlotsFor 1 = .ok (.istore_n 3, 1) := by decide +kernel
theorem dX0_findSlotsFor_2 : decode cX0_findSlotsFor 2 = .ok (.iconst 0, 1) := by decide +kernel
theorem dX0_findSlotsFor_3 : decode cX0_findSlotsFor 3 = .ok (.istore 4, 2) := by decide +kernel
theorem dX0_findSlotsFor_5 : decode cX0_findSlotsFor 5 = .ok (.iload 4, 2) := by decide +kernel
theorem dX0_findSlotsFor_7 : decode cX0_findSlotsFor 7 = .ok (.aload_n 0, 1) := by decide +kernel
theorem dX0_findSlotsFor_8 : decode cX0_findSlotsFor 8 = .ok (.getfield 40, 3) := by decide +kernel
theorem dX0_findSlotsFor_11 : decode cX0_findSlotsFor 11 = .ok (.if_icmp .ge 54, 3) := by decide +kernel
theorem dX0_findSlotsFor_14 : decode cX0_findSlotsFor 14 = .ok (.aload_n 0, 1) := by decide +kernel
theorem dX0_findSlotsFor_15 : decode cX0_findSlotsFor 15 = .ok (.iload_n 1, 1) := by decide +kernel
theorem dX0_findSlotsFor_16 : decode cX0_findSlotsFor 16 = .ok (.iload 4, 2) := by decide +kernel
theorem dX0_findSlotsFor_18 : decode cX0_findSlotsFor 18 = .ok (.invokevirtual 109, 3) := by decide +kernel
theorem dX0_findSlotsFor_21 : decode cX0_findSlotsFor 21 = .ok (.ifCond .eq 38, 3) := by decide +kernel
theorem dX0_findSlotsFor_24 : decode cX0_findSlotsFor 24 = .ok (.aload_n 0, 1) := by decide +kernel
theorem dX0_findSlotsFor_25 : decode cX0_findSlotsFor 25 = .ok (.getfield 33, 3) := by decide +kernel
theorem dX0_findSlotsFor_28 : decode cX0_findSlotsFor 28 = .ok (.iload 4, 2) := by decide +kernel
theorem dX0_findSlotsFor_30 : decode cX0_findSlotsFor 30 = .ok (.iaload, 1) := by decide +kernel
theorem dX0_findSlotsFor_31 : decode cX0_findSlotsFor 31 = .ok (.iconst (-1), 1) := by decide +kernel
theorem dX0_findSlotsFor_32 : decode cX0_findSlotsFor 32 = .ok (.if_icmp .ne 27, 3) := by decide +kernel
theorem dX0_findSlotsFor_35 : decode cX0_findSlotsFor 35 = .ok (.iload_n 3, 1) := by decide +kernel
theorem dX0_findSlotsFor_36 : decode cX0_findSlotsFor 36 = .ok (.iconst 4, 1) := by decide +kernel
theorem dX0_findSlotsFor_37 : decode cX0_findSlotsFor 37 = .ok (.if_icmp .ge 22, 3) := by decide +kernel
theorem dX0_findSlotsFor_40 : decode cX0_findSlotsFor 40 = .ok (.aload_n 0, 1) := by decide +kernel
theorem dX0_findSlotsFor_41 : decode cX0_findSlotsFor 41 = .ok (.getfield 33, 3) := by decide +kernel
theorem dX0_findSlotsFor_44 : decode cX0_findSlotsFor 44 = .ok (.iload 4, 2) := by decide +kernel
theorem dX0_findSlotsFor_46 : decode cX0_findSlotsFor 46 = .ok (.iload_n 1, 1) := by decide +kernel
theorem dX0_findSlotsFor_47 : decode cX0_findSlotsFor 47 = .ok (.iastore, 1) := by decide +kernel
theorem dX0_findSlotsFor_48 : decode cX0_findSlotsFor 48 = .ok (.aload_n 0, 1) := by decide +kernel
theorem dX0_findSlotsFor_49 : decode cX0_findSlotsFor 49 = .ok (.getfield 30, 3) := by decide +kernel
theorem dX0_findSlotsFor_52 : decode cX0_findSlotsFor 52 = .ok (.iload_n 3, 1) := by decide +kernel
theorem dX0_findSlotsFor_53 : decode cX0_findSlotsFor 53 = .ok (.iload 4, 2) := by decide +kernel
theorem dX0_findSlotsFor_55 : decode cX0_findSlotsFor 55 = .ok (.iastore, 1) := by decide +kernel
theorem dX0_findSlotsFor_56 : decode cX0_findSlotsFor 56 = .ok (.iinc 3 1, 3) := by decide +kernel
theorem dX0_findSlotsFor_59 : decode cX0_findSlotsFor 59 = .ok (.iinc 4 1, 3) := by decide +kernel
theorem dX0_findSlotsFor_62 : decode cX0_findSlotsFor 62 = .ok (.goto (-57), 3) := by decide +kernel
theorem dX0_findSlotsFor_65 : decode cX0_findSlotsFor 65 = .ok (.iload_n 3, 1) := by decide +kernel
theorem dX0_findSlotsFor_66 : decode cX0_findSlotsFor 66 = .ok (.ireturn, 1) := by decide +kernel
theorem dX0_handOn_0 : decode cX0_handOn 0 = .ok (.aload_n 0, 1) := by decide +kernel
theorem dX0_handOn_1 : decode cX0_handOn 1 = .ok (.getfield 24, 3) := by decide +kernel
theorem dX0_handOn_4 : decode cX0_handOn 4 = .ok (.iload_n 1, 1) := by decide +kernel
theorem dX0_handOn_5 : decode cX0_handOn 5 = .ok (.dup2, 1) := by decide +kernel
theorem dX0_handOn_6 : decode cX0_handOn 6 = .ok (.iaload, 1) := by decide +kernel
theorem dX0_handOn_7 : decode cX0_handOn 7 = .ok (.iconst 1, 1) := by decide +kernel
theorem dX0_handOn_8 : decode cX0_handOn 8 = .ok (.iadd, 1) := by decide +kernel
theorem dX0_handOn_9 : decode cX0_handOn 9 = .ok (.iastore, 1) := by decide +kernel
theorem dX0_handOn_10 : decode cX0_handOn 10 = .ok (.iload_n 1, 1) := by decide +kernel
theorem dX0_handOn_11 : decode cX0_handOn 11 = .ok (.istore_n 2, 1) := by decide +kernel
theorem dX0_handOn_12 : decode cX0_handOn 12 = .ok (.iconst 0, 1) := by decide +kernel
theorem dX0_handOn_13 : decode cX0_handOn 13 = .ok (.istore_n 3, 1) := by decide +kernel
theorem dX0_handOn_14 : decode cX0_handOn 14 = .ok (.iload_n 3, 1) := by decide +kernel
theorem dX0_handOn_15 : decode cX0_handOn 15 = .ok (.aload_n 0, 1) := by decide +kernel
theorem dX0_handOn_16 : decode cX0_handOn 16 = .ok (.getfield 40, 3) := by decide +kernel
theorem dX0_handOn_19 : decode cX0_handOn 19 = .ok (.if_icmp .ge 42, 3) := by decide +kernel
theorem dX0_handOn_22 : decode cX0_handOn 22 = .ok (.iload_n 2, 1) := by decide +kernel
theorem dX0_handOn_23 : decode cX0_handOn 23 = .ok (.iconst (-1), 1) := by decide +kernel
theorem dX0_handOn_24 : decode cX0_handOn 24 = .ok (.if_icmp .eq 37, 3) := by decide +kernel
theorem dX0_handOn_27 : decode cX0_handOn 27 = .ok (.aload_n 0, 1) := by decide +kernel
theorem dX0_handOn_28 : decode cX0_handOn 28 = .ok (.getfield 33, 3) := by decide +kernel
theorem dX0_handOn_31 : decode cX0_handOn 31 = .ok (.iload_n 2, 1) := by decide +kernel
theorem dX0_handOn_32 : decode cX0_handOn 32 = .ok (.iaload, 1) := by decide +kernel
theorem dX0_handOn_33 : decode cX0_handOn 33 = .ok (.istore 4, 2) := by decide +kernel
theorem dX0_handOn_35 : decode cX0_handOn 35 = .ok (.aload_n 0, 1) := by decide +kernel
theorem dX0_handOn_36 : decode cX0_handOn 36 = .ok (.getfield 27, 3) := by decide +kernel
theorem dX0_handOn_39 : decode cX0_handOn 39 = .ok (.iload 4, 2) := by decide +kernel
theorem dX0_handOn_41 : decode cX0_handOn 41 = .ok (.iaload, 1) := by decide +kernel
theorem dX0_handOn_42 : decode cX0_handOn 42 = .ok (.istore 5, 2) := by decide +kernel
theorem dX0_handOn_44 : decode cX0_handOn 44 = .ok (.aload_n 0, 1) := by decide +kernel
theorem dX0_handOn_45 : decode cX0_handOn 45 = .ok (.getfield 27, 3) := by decide +kernel
theorem dX0_handOn_48 : decode cX0_handOn 48 = .ok (.iload 4, 2) := by decide +kernel
theorem dX0_handOn_50 : decode cX0_handOn 50 = .ok (.iload_n 2, 1) := by decide +kernel
theorem dX0_handOn_51 : decode cX0_handOn 51 = .ok (.iastore, 1) := by decide +kernel
theorem dX0_handOn_52 : decode cX0_handOn 52 = .ok (.iload 5, 2) := by decide +kernel
theorem dX0_handOn_54 : decode cX0_handOn 54 = .ok (.istore_n 2, 1) := by decide +kernel
theorem dX0_handOn_55 : decode cX0_handOn 55 = .ok (.iinc 3 1, 3) := by decide +kernel
theorem dX0_handOn_58 : decode cX0_handOn 58 = .ok (.goto (-44), 3) := by decide +kernel
theorem dX0_handOn_61 : decode cX0_handOn 61 = .ok (.return_, 1) := by decide +kernel
theorem dX0_shortRules_0 : decode cX0_shortRules 0 = .ok (.iconst 0, 1) := by decide +kernel
theorem dX0_shortRules_1 : decode cX0_shortRules 1 = .ok (.istore_n 1, 1) := by decide +kernel
theorem dX0_shortRules_2 : decode cX0_shortRules 2 = .ok (.iconst 0, 1) := by decide +kernel
theorem dX0_shortRules_3 : decode cX0_shortRules 3 = .ok (.istore_n 2, 1) := by decide +kernel
theorem dX0_shortRules_4 : decode cX0_shortRules 4 = .ok (.iload_n 2, 1) := by decide +kernel
theorem dX0_shortRules_5 : decode cX0_shortRules 5 = .ok (.aload_n 0, 1) := by decide +kernel
theorem dX0_shortRules_6 : decode cX0_shortRules 6 = .ok (.getfield 40, 3) := by decide +kernel
theorem dX0_shortRules_9 : decode cX0_shortRules 9 = .ok (.if_icmp .ge 30, 3) := by decide +kernel
theorem dX0_shortRules_12 : decode cX0_shortRules 12 = .ok (.aload_n 0, 1) := by decide +kernel
theorem dX0_shortRules_13 : decode cX0_shortRules 13 = .ok (.getfield 24, 3) := by decide +kernel
theorem dX0_shortRules_16 : decode cX0_shortRules 16 = .ok (.iload_n 2, 1) := by decide +kernel
theorem dX0_shortRules_17 : decode cX0_shortRules 17 = .ok (.iaload, 1) := by decide +kernel
theorem dX0_shortRules_18 : decode cX0_shortRules 18 = .ok (.aload_n 0, 1) := by decide +kernel
theorem dX0_shortRules_19 : decode cX0_shortRules 19 = .ok (.getfield 15, 3) := by decide +kernel
theorem dX0_shortRules_22 : decode cX0_shortRules 22 = .ok (.iload_n 2, 1) := by decide +kernel
theorem dX0_shortRules_23 : decode cX0_shortRules 23 = .ok (.iaload, 1) := by decide +kernel
theorem dX0_shortRules_24 : decode cX0_shortRules 24 = .ok (.if_icmp .ge 9, 3) := by decide +kernel
theorem dX0_shortRules_27 : decode cX0_shortRules 27 = .ok (.iload_n 1, 1) := by decide +kernel
theorem dX0_shortRules_28 : decode cX0_shortRules 28 = .ok (.iconst 1, 1) := by decide +kernel
theorem dX0_shortRules_29 : decode cX0_shortRules 29 = .ok (.iload_n 2, 1) := by decide +kernel
theorem dX0_shortRules_30 : decode cX0_shortRules 30 = .ok (.ishl, 1) := by decide +kernel
theorem dX0_shortRules_31 : decode cX0_shortRules 31 = .ok (.ior, 1) := by decide +kernel
theorem dX0_shortRules_32 : decode cX0_shortRules 32 = .ok (.istore_n 1, 1) := by decide +kernel
theorem dX0_shortRules_33 : decode cX0_shortRules 33 = .ok (.iinc 2 1, 3) := by decide +kernel
theorem dX0_shortRules_36 : decode cX0_shortRules 36 = .ok (.goto (-32), 3) := by decide +kernel
theorem dX0_shortRules_39 : decode cX0_shortRules 39 = .ok (.iconst 0, 1) := by decide +kernel
theorem dX0_shortRules_40 : decode cX0_shortRules 40 = .ok (.istore_n 2, 1) := by decide +kernel
theorem dX0_shortRules_41 : decode cX0_shortRules 41 = .ok (.iload_n 2, 1) := by decide +kernel
theorem dX0_shortRules_42 : decode cX0_shortRules 42 = .ok (.aload_n 0, 1) := by decide +kernel
theorem dX0_shortRules_43 : decode cX0_shortRules 43 = .ok (.getfield 40, 3) := by decide +kernel
theorem dX0_shortRules_46 : decode cX0_shortRules 46 = .ok (.if_icmp .ge 55, 3) := by decide +kernel
theorem dX0_shortRules_49 : decode cX0_shortRules 49 = .ok (.iconst 0, 1) := by decide +kernel
theorem dX0_shortRules_50 : decode cX0_shortRules 50 = .ok (.istore_n 3, 1) := by decide +kernel
theorem dX0_shortRules_51 : decode cX0_shortRules 51 = .ok (.iload_n 3, 1) := by decide +kernel
theorem dX0_shortRules_52 : decode cX0_shortRules 52 = .ok (.bipush 20, 2) := by decide +kernel
theorem dX0_shortRules_54 : decode cX0_shortRules 54 = .ok (.if_icmp .ge 41, 3) := by decide +kernel
theorem dX0_shortRules_57 : decode cX0_shortRules 57 = .ok (.aload_n 0, 1) := by decide +kernel
theorem dX0_shortRules_58 : decode cX0_shortRules 58 = .ok (.getfield 27, 3) := by decide +kernel
theorem dX0_shortRules_61 : decode cX0_shortRules 61 = .ok (.iload_n 3, 1) := by decide +kernel
theorem dX0_shortRules_62 : decode cX0_shortRules 62 = .ok (.iaload, 1) := by decide +kernel
theorem dX0_shortRules_63 : decode cX0_shortRules 63 = .ok (.iconst (-1), 1) := by decide +kernel
theorem dX0_shortRules_64 : decode cX0_shortRules 64 = .ok (.if_icmp .eq 25, 3) := by decide +kernel
theorem dX0_shortRules_67 : decode cX0_shortRules 67 = .ok (.aload_n 0, 1) := by decide +kernel
theorem dX0_shortRules_68 : decode cX0_shortRules 68 = .ok (.getfield 18, 3) := by decide +kernel
theorem dX0_shortRules_71 : decode cX0_shortRules 71 = .ok (.iload_n 3, 1) := by decide +kernel
theorem dX0_shortRules_72 : decode cX0_shortRules 72 = .ok (.iaload, 1) := by decide +kernel
theorem dX0_shortRules_73 : decode cX0_shortRules 73 = .ok (.iload_n 1, 1) := by decide +kernel
theorem dX0_shortRules_74 : decode cX0_shortRules 74 = .ok (.iand, 1) := by decide +kernel
theorem dX0_shortRules_75 : decode cX0_shortRules 75 = .ok (.ifCond .eq 14, 3) := by decide +kernel
theorem dX0_shortRules_78 : decode cX0_shortRules 78 = .ok (.iload_n 1, 1) := by decide +kernel
theorem dX0_shortRules_79 : decode cX0_shortRules 79 = .ok (.iconst 1, 1) := by decide +kernel
theorem dX0_shortRules_80 : decode cX0_shortRules 80 = .ok (.aload_n 0, 1) := by decide +kernel
theorem dX0_shortRules_81 : decode cX0_shortRules 81 = .ok (.getfield 27, 3) := by decide +kernel
theorem dX0_shortRules_84 : decode cX0_shortRules 84 = .ok (.iload_n 3, 1) := by decide +kernel
theorem dX0_shortRules_85 : decode cX0_shortRules 85 = .ok (.iaload, 1) := by decide +kernel
theorem dX0_shortRules_86 : decode cX0_shortRules 86 = .ok (.ishl, 1) := by decide +kernel
theorem dX0_shortRules_87 : decode cX0_shortRules 87 = .ok (.ior, 1) := by decide +kernel
theorem dX0_shortRules_88 : decode cX0_shortRules 88 = .ok (.istore_n 1, 1) := by decide +kernel
theorem dX0_shortRules_89 : decode cX0_shortRules 89 = .ok (.iinc 3 1, 3) := by decide +kernel
theorem dX0_shortRules_92 : decode cX0_shortRules 92 = .ok (.goto (-41), 3) := by decide +kernel
theorem dX0_shortRules_95 : decode cX0_shortRules 95 = .ok (.iinc 2 1, 3) := by decide +kernel
theorem dX0_shortRules_98 : decode cX0_shortRules 98 = .ok (.goto (-57), 3) := by decide +kernel
theorem dX0_shortRules_101 : decode cX0_shortRules 101 = .ok (.aload_n 0, 1) := by decide +kernel
theorem dX0_shortRules_102 : decode cX0_shortRules 102 = .ok (.iload_n 1, 1) := by decide +kernel
theorem dX0_shortRules_103 : decode cX0_shortRules 103 = .ok (.invokevirtual 113, 3) := by decide +kernel
theorem dX0_shortRules_106 : decode cX0_shortRules 106 = .ok (.ireturn, 1) := by decide +kernel
theorem dX0_ruleBits_0 : decode cX0_ruleBits 0 = .ok (.iconst 0, 1) := by decide +kernel
theorem dX0_ruleBits_1 : decode cX0_ruleBits 1 = .ok (.istore_n 2, 1) := by decide +kernel
theorem dX0_ruleBits_2 : decode cX0_ruleBits 2 = .ok (.iconst 0, 1) := by decide +kernel
theorem dX0_ruleBits_3 : decode cX0_ruleBits 3 = .ok (.istore_n 3, 1) := by decide +kernel
theorem dX0_ruleBits_4 : decode cX0_ruleBits 4 = .ok (.iload_n 3, 1) := by decide +kernel
theorem dX0_ruleBits_5 : decode cX0_ruleBits 5 = .ok (.aload_n 0, 1) := by decide +kernel
theorem dX0_ruleBits_6 : decode cX0_ruleBits 6 = .ok (.getfield 40, 3) := by decide +kernel
theorem dX0_ruleBits_9 : decode cX0_ruleBits 9 = .ok (.if_icmp .ge 28, 3) := by decide +kernel
theorem dX0_ruleBits_12 : decode cX0_ruleBits 12 = .ok (.iload_n 1, 1) := by decide +kernel
theorem dX0_ruleBits_13 : decode cX0_ruleBits 13 = .ok (.iload_n 3, 1) := by decide +kernel
theorem dX0_ruleBits_14 : decode cX0_ruleBits 14 = .ok (.ishr, 1) := by decide +kernel
theorem dX0_ruleBits_15 : decode cX0_ruleBits 15 = .ok (.iconst 1, 1) := by decide +kernel
theorem dX0_ruleBits_16 : decode cX0_ruleBits 16 = .ok (.iand, 1) := by decide +kernel
theorem dX0_ruleBits_17 : decode cX0_ruleBits 17 = .ok (.ifCond .eq 14, 3) := by decide +kernel
theorem dX0_ruleBits_20 : decode cX0_ruleBits 20 = .ok (.iload_n 2, 1) := by decide +kernel
theorem dX0_ruleBits_21 : decode cX0_ruleBits 21 = .ok (.iconst 1, 1) := by decide +kernel
theorem dX0_ruleBits_22 : decode cX0_ruleBits 22 = .ok (.aload_n 0, 1) := by decide +kernel
theorem dX0_ruleBits_23 : decode cX0_ruleBits 23 = .ok (.getfield 11, 3) := by decide +kernel
theorem dX0_ruleBits_26 : decode cX0_ruleBits 26 = .ok (.iload_n 3, 1) := by decide +kernel
theorem dX0_ruleBits_27 : decode cX0_ruleBits 27 = .ok (.iaload, 1) := by decide +kernel
theorem dX0_ruleBits_28 : decode cX0_ruleBits 28 = .ok (.ishl, 1) := by decide +kernel
theorem dX0_ruleBits_29 : decode cX0_ruleBits 29 = .ok (.ior, 1) := by decide +kernel
theorem dX0_ruleBits_30 : decode cX0_ruleBits 30 = .ok (.istore_n 2, 1) := by decide +kernel
theorem dX0_ruleBits_31 : decode cX0_ruleBits 31 = .ok (.iinc 3 1, 3) := by decide +kernel
theorem dX0_ruleBits_34 : decode cX0_ruleBits 34 = .ok (.goto (-30), 3) := by decide +kernel
theorem dX0_ruleBits_37 : decode cX0_ruleBits 37 = .ok (.iload_n 2, 1) := by decide +kernel
theorem dX0_ruleBits_38 : decode cX0_ruleBits 38 = .ok (.ireturn, 1) := by decide +kernel
theorem dX0_tryAll_0 : decode cX0_tryAll 0 = .ok (.aload_n 0, 1) := by decide +kernel
theorem dX0_tryAll_1 : decode cX0_tryAll 1 = .ok (.getfield 36, 3) := by decide +kernel
theorem dX0_tryAll_4 : decode cX0_tryAll 4 = .ok (.iconst 0, 1) := by decide +kernel
theorem dX0_tryAll_5 : decode cX0_tryAll 5 = .ok (.iconst 1, 1) := by decide +kernel
theorem dX0_tryAll_6 : decode cX0_tryAll 6 = .ok (.bastore, 1) := by decide +kernel
theorem dX0_tryAll_7 : decode cX0_tryAll 7 = .ok (.iconst 1, 1) := by decide +kernel
theorem dX0_tryAll_8 : decode cX0_tryAll 8 = .ok (.istore_n 1, 1) := by decide +kernel
theorem dX0_tryAll_9 : decode cX0_tryAll 9 = .ok (.iload_n 1, 1) := by decide +kernel
theorem dX0_tryAll_10 : decode cX0_tryAll 10 = .ok (.aload_n 0, 1) := by decide +kernel
theorem dX0_tryAll_11 : decode cX0_tryAll 11 = .ok (.invokevirtual 116, 3) := by decide +kernel
theorem dX0_tryAll_14 : decode cX0_tryAll 14 = .ok (.if_icmp .ge 16, 3) := by decide +kernel
theorem dX0_tryAll_17 : decode cX0_tryAll 17 = .ok (.aload_n 0, 1) := by decide +kernel
theorem dX0_tryAll_18 : decode cX0_tryAll 18 = .ok (.getfield 36, 3) := by decide +kernel
theorem dX0_tryAll_21 : decode cX0_tryAll 21 = .ok (.iload_n 1, 1) := by decide +kernel
theorem dX0_tryAll_22 : decode cX0_tryAll 22 = .ok (.iconst 0, 1) := by decide +kernel
theorem dX0_tryAll_23 : decode cX0_tryAll 23 = .ok (.bastore, 1) := by decide +kernel
theorem dX0_tryAll_24 : decode cX0_tryAll 24 = .ok (.iinc 1 1, 3) := by decide +kernel
theorem dX0_tryAll_27 : decode cX0_tryAll 27 = .ok (.goto (-18), 3) := by decide +kernel
theorem dX0_tryAll_30 : decode cX0_tryAll 30 = .ok (.iconst 0, 1) := by decide +kernel
theorem dX0_tryAll_31 : decode cX0_tryAll 31 = .ok (.istore_n 1, 1) := by decide +kernel
theorem dX0_tryAll_32 : decode cX0_tryAll 32 = .ok (.iload_n 1, 1) := by decide +kernel
theorem dX0_tryAll_33 : decode cX0_tryAll 33 = .ok (.bipush 20, 2) := by decide +kernel
theorem dX0_tryAll_35 : decode cX0_tryAll 35 = .ok (.if_icmp .ge 23, 3) := by decide +kernel
theorem dX0_tryAll_38 : decode cX0_tryAll 38 = .ok (.aload_n 0, 1) := by decide +kernel
theorem dX0_tryAll_39 : decode cX0_tryAll 39 = .ok (.getfield 18, 3) := by decide +kernel
theorem dX0_tryAll_42 : decode cX0_tryAll 42 = .ok (.iload_n 1, 1) := by decide +kernel
theorem dX0_tryAll_43 : decode cX0_tryAll 43 = .ok (.iaload, 1) := by decide +kernel
theorem dX0_tryAll_44 : decode cX0_tryAll 44 = .ok (.ifCond .eq 8, 3) := by decide +kernel
theorem dX0_tryAll_47 : decode cX0_tryAll 47 = .ok (.aload_n 0, 1) := by decide +kernel
theorem dX0_tryAll_48 : decode cX0_tryAll 48 = .ok (.iload_n 1, 1) := by decide +kernel
theorem dX0_tryAll_49 : decode cX0_tryAll 49 = .ok (.invokevirtual 119, 3) := by decide +kernel
theorem dX0_tryAll_52 : decode cX0_tryAll 52 = .ok (.iinc 1 1, 3) := by decide +kernel
theorem dX0_tryAll_55 : decode cX0_tryAll 55 = .ok (.goto (-23), 3) := by decide +kernel
theorem dX0_tryAll_58 : decode cX0_tryAll 58 = .ok (.aload_n 0, 1) := by decide +kernel
theorem dX0_tryAll_59 : decode cX0_tryAll 59 = .ok (.iconst (-1), 1) := by decide +kernel
theorem dX0_tryAll_60 : decode cX0_tryAll 60 = .ok (.invokevirtual 122, 3) := by decide +kernel
theorem dX0_tryAll_63 : decode cX0_tryAll 63 = .ok (.ireturn, 1) := by decide +kernel
theorem dX0_trials_0 : decode cX0_trials 0 = .ok (.iconst 1, 1) := by decide +kernel
theorem dX0_trials_1 : decode cX0_trials 1 = .ok (.iconst 2, 1) := by decide +kernel
theorem dX0_trials_2 : decode cX0_trials 2 = .ok (.aload_n 0, 1) := by decide +kernel
theorem dX0_trials_3 : decode cX0_trials 3 = .ok (.getfield 40, 3) := by decide +kernel
theorem dX0_trials_6 : decode cX0_trials 6 = .ok (.imul, 1) := by decide +kernel
theorem dX0_trials_7 : decode cX0_trials 7 = .ok (.ishl, 1) := by decide +kernel
theorem dX0_trials_8 : decode cX0_trials 8 = .ok (.ireturn, 1) := by decide +kernel
theorem dX0_tryCourse_0 : decode cX0_tryCourse 0 = .ok (.aload_n 0, 1) := by decide +kernel
theorem dX0_tryCourse_1 : decode cX0_tryCourse 1 = .ok (.invokevirtual 116, 3) := by decide +kernel
theorem dX0_tryCourse_4 : decode cX0_tryCourse 4 = .ok (.iconst 1, 1) := by decide +kernel
theorem dX0_tryCourse_5 : decode cX0_tryCourse 5 = .ok (.isub, 1) := by decide +kernel
theorem dX0_tryCourse_6 : decode cX0_tryCourse 6 = .ok (.istore_n 2, 1) := by decide +kernel
theorem dX0_tryCourse_7 : decode cX0_tryCourse 7 = .ok (.iload_n 2, 1) := by decide +kernel
theorem dX0_tryCourse_8 : decode cX0_tryCourse 8 = .ok (.ifCond .lt 70, 3) := by decide +kernel
theorem dX0_tryCourse_11 : decode cX0_tryCourse 11 = .ok (.iconst 0, 1) := by decide +kernel
theorem dX0_tryCourse_12 : decode cX0_tryCourse 12 = .ok (.istore_n 3, 1) := by decide +kernel
theorem dX0_tryCourse_13 : decode cX0_tryCourse 13 = .ok (.iload_n 3, 1) := by decide +kernel
theorem dX0_tryCourse_14 : decode cX0_tryCourse 14 = .ok (.aload_n 0, 1) := by decide +kernel
theorem dX0_tryCourse_15 : decode cX0_tryCourse 15 = .ok (.getfield 40, 3) := by decide +kernel
theorem dX0_tryCourse_18 : decode cX0_tryCourse 18 = .ok (.if_icmp .ge 54, 3) := by decide +kernel
theorem dX0_tryCourse_21 : decode cX0_tryCourse 21 = .ok (.aload_n 0, 1) := by decide +kernel
theorem dX0_tryCourse_22 : decode cX0_tryCourse 22 = .ok (.getfield 36, 3) := by decide +kernel
theorem dX0_tryCourse_25 : decode cX0_tryCourse 25 = .ok (.iload_n 2, 1) := by decide +kernel
theorem dX0_tryCourse_26 : decode cX0_tryCourse 26 = .ok (.baload, 1) := by decide +kernel
theorem dX0_tryCourse_27 : decode cX0_tryCourse 27 = .ok (.ifCond .eq 45, 3) := by decide +kernel
theorem dX0_tryCourse_30 : decode cX0_tryCourse 30 = .ok (.aload_n 0, 1) := by decide +kernel
theorem dX0_tryCourse_31 : decode cX0_tryCourse 31 = .ok (.iload_n 1, 1) := by decide +kernel
theorem dX0_tryCourse_32 : decode cX0_tryCourse 32 = .ok (.iload_n 3, 1) := by decide +kernel
theorem dX0_tryCourse_33 : decode cX0_tryCourse 33 = .ok (.invokevirtual 109, 3) := by decide +kernel
theorem dX0_tryCourse_36 : decode cX0_tryCourse 36 = .ok (.ifCond .eq 30, 3) := by decide +kernel
theorem dX0_tryCourse_39 : decode cX0_tryCourse 39 = .ok (.iload_n 2, 1) := by decide +kernel
theorem dX0_tryCourse_40 : decode cX0_tryCourse 40 = .ok (.iload_n 3, 1) := by decide +kernel
theorem dX0_tryCourse_41 : decode cX0_tryCourse 41 = .ok (.invokestatic 125, 3) := by decide +kernel
theorem dX0_tryCourse_44 : decode cX0_tryCourse 44 = .ok (.aload_n 0, 1) := by decide +kernel
theorem dX0_tryCourse_45 : decode cX0_tryCourse 45 = .ok (.getfield 15, 3) := by decide +kernel
theorem dX0_tryCourse_48 : decode cX0_tryCourse 48 = .ok (.iload_n 3, 1) := by decide +kernel
theorem dX0_tryCourse_49 : decode cX0_tryCourse 49 = .ok (.iaload, 1) := by decide +kernel
theorem dX0_tryCourse_50 : decode cX0_tryCourse 50 = .ok (.if_icmp .ge 16, 3) := by decide +kernel
theorem dX0_tryCourse_53 : decode cX0_tryCourse 53 = .ok (.aload_n 0, 1) := by decide +kernel
theorem dX0_tryCourse_54 : decode cX0_tryCourse 54 = .ok (.getfield 36, 3) := by decide +kernel
theorem dX0_tryCourse_57 : decode cX0_tryCourse 57 = .ok (.iload_n 2, 1) := by decide +kernel
theorem dX0_tryCourse_58 : decode cX0_tryCourse 58 = .ok (.iconst 1, 1) := by decide +kernel
theorem dX0_tryCourse_59 : decode cX0_tryCourse 59 = .ok (.iconst 2, 1) := by decide +kernel
theorem dX0_tryCourse_60 : decode cX0_tryCourse 60 = .ok (.iload_n 3, 1) := by decide +kernel
theorem dX0_tryCourse_61 : decode cX0_tryCourse 61 = .ok (.imul, 1) := by decide +kernel
theorem dX0_tryCourse_62 : decode cX0_tryCourse 62 = .ok (.ishl, 1) := by decide +kernel
theorem dX0_tryCourse_63 : decode cX0_tryCourse 63 = .ok (.iadd, 1) := by decide +kernel
theorem dX0_tryCourse_64 : decode cX0_tryCourse 64 = .ok (.iconst 1, 1) := by decide +kernel
theorem dX0_tryCourse_65 : decode cX0_tryCourse 65 = .ok (.bastore, 1) := by decide +kernel
theorem dX0_tryCourse_66 : decode cX0_tryCourse 66 = .ok (.iinc 3 1, 3) := by decide +kernel
theorem dX0_tryCourse_69 : decode cX0_tryCourse 69 = .ok (.goto (-56), 3) := by decide +kernel
theorem dX0_tryCourse_72 : decode cX0_tryCourse 72 = .ok (.iinc 2 (-1), 3) := by decide +kernel
theorem dX0_tryCourse_75 : decode cX0_tryCourse 75 = .ok (.goto (-68), 3) := by decide +kernel
theorem dX0_tryCourse_78 : decode cX0_tryCourse 78 = .ok (.return_, 1) := by decide +kernel
theorem dX0_countIn_0 : decode cX0_countIn 0 = .ok (.iload_n 0, 1) := by decide +kernel
theorem dX0_countIn_1 : decode cX0_countIn 1 = .ok (.iconst 2, 1) := by decide +kernel
theorem dX0_countIn_2 : decode cX0_countIn 2 = .ok (.iload_n 1, 1) := by decide +kernel
theorem dX0_countIn_3 : decode cX0_countIn 3 = .ok (.imul, 1) := by decide +kernel
theorem dX0_countIn_4 : decode cX0_countIn 4 = .ok (.ishr, 1) := by decide +kernel
theorem dX0_countIn_5 : decode cX0_countIn 5 = .ok (.iconst 3, 1) := by decide +kernel
theorem dX0_countIn_6 : decode cX0_countIn 6 = .ok (.iand, 1) := by decide +kernel
theorem dX0_countIn_7 : decode cX0_countIn 7 = .ok (.ireturn, 1) := by decide +kernel
theorem dX0_mostTried_0 : decode cX0_mostTried 0 = .ok (.iconst 0, 1) := by decide +kernel
theorem dX0_mostTried_1 : decode cX0_mostTried 1 = .ok (.istore_n 2, 1) := by decide +kernel
theorem dX0_mostTried_2 : decode cX0_mostTried 2 = .ok (.iconst 0, 1) := by decide +kernel
theorem dX0_mostTried_3 : decode cX0_mostTried 3 = .ok (.istore_n 3, 1) := by decide +kernel
theorem dX0_mostTried_4 : decode cX0_mostTried 4 = .ok (.iload_n 3, 1) := by decide +kernel
theorem dX0_mostTried_5 : decode cX0_mostTried 5 = .ok (.aload_n 0, 1) := by decide +kernel
theorem dX0_mostTried_6 : decode cX0_mostTried 6 = .ok (.invokevirtual 116, 3) := by decide +kernel
theorem dX0_mostTried_9 : decode cX0_mostTried 9 = .ok (.if_icmp .ge 59, 3) := by decide +kernel
theorem dX0_mostTried_12 : decode cX0_mostTried 12 = .ok (.iload_n 1, 1) := by decide +kernel
theorem dX0_mostTried_13 : decode cX0_mostTried 13 = .ok (.iconst (-1), 1) := by decide +kernel
theorem dX0_mostTried_14 : decode cX0_mostTried 14 = .ok (.if_icmp .eq 17, 3) := by decide +kernel
theorem dX0_mostTried_17 : decode cX0_mostTried 17 = .ok (.iload_n 3, 1) := by decide +kernel
theorem dX0_mostTried_18 : decode cX0_mostTried 18 = .ok (.iload_n 1, 1) := by decide +kernel
theorem dX0_mostTried_19 : decode cX0_mostTried 19 = .ok (.invokestatic 125, 3) := by decide +kernel
theorem dX0_mostTried_22 : decode cX0_mostTried 22 = .ok (.aload_n 0, 1) := by decide +kernel
theorem dX0_mostTried_23 : decode cX0_mostTried 23 = .ok (.getfield 15, 3) := by decide +kernel
theorem dX0_mostTried_26 : decode cX0_mostTried 26 = .ok (.iload_n 1, 1) := by decide +kernel
theorem dX0_mostTried_27 : decode cX0_mostTried 27 = .ok (.iaload, 1) := by decide +kernel
theorem dX0_mostTried_28 : decode cX0_mostTried 28 = .ok (.if_icmp .ge 7, 3) := by decide +kernel
theorem dX0_mostTried_31 : decode cX0_mostTried 31 = .ok (.iconst 1, 1) := by decide +kernel
theorem dX0_mostTried_32 : decode cX0_mostTried 32 = .ok (.goto 4, 3) := by decide +kernel
theorem dX0_mostTried_35 : decode cX0_mostTried 35 = .ok (.iconst 0, 1) := by decide +kernel
theorem dX0_mostTried_36 : decode cX0_mostTried 36 = .ok (.istore 4, 2) := by decide +kernel
theorem dX0_mostTried_38 : decode cX0_mostTried 38 = .ok (.aload_n 0, 1) := by decide +kernel
theorem dX0_mostTried_39 : decode cX0_mostTried 39 = .ok (.getfield 36, 3) := by decide +kernel
theorem dX0_mostTried_42 : decode cX0_mostTried 42 = .ok (.iload_n 3, 1) := by decide +kernel
theorem dX0_mostTried_43 : decode cX0_mostTried 43 = .ok (.baload, 1) := by decide +kernel
theorem dX0_mostTried_44 : decode cX0_mostTried 44 = .ok (.ifCond .eq 18, 3) := by decide +kernel
theorem dX0_mostTried_47 : decode cX0_mostTried 47 = .ok (.iload 4, 2) := by decide +kernel
theorem dX0_mostTried_49 : decode cX0_mostTried 49 = .ok (.ifCond .eq 13, 3) := by decide +kernel
theorem dX0_mostTried_52 : decode cX0_mostTried 52 = .ok (.iload_n 2, 1) := by decide +kernel
theorem dX0_mostTried_53 : decode cX0_mostTried 53 = .ok (.aload_n 0, 1) := by decide +kernel
theorem dX0_mostTried_54 : decode cX0_mostTried 54 = .ok (.iload_n 3, 1) := by decide +kernel
theorem dX0_mostTried_55 : decode cX0_mostTried 55 = .ok (.invokevirtual 128, 3) := by decide +kernel
theorem dX0_mostTried_58 : decode cX0_mostTried 58 = .ok (.invokestatic 131, 3) := by decide +kernel
theorem dX0_mostTried_61 : decode cX0_mostTried 61 = .ok (.istore_n 2, 1) := by decide +kernel
theorem dX0_mostTried_62 : decode cX0_mostTried 62 = .ok (.iinc 3 1, 3) := by decide +kernel
theorem dX0_mostTried_65 : decode cX0_mostTried 65 = .ok (.goto (-61), 3) := by decide +kernel
theorem dX0_mostTried_68 : decode cX0_mostTried 68 = .ok (.iload_n 2, 1) := by decide +kernel
theorem dX0_mostTried_69 : decode cX0_mostTried 69 = .ok (.ireturn, 1) := by decide +kernel
theorem dX0_sumOf_0 : decode cX0_sumOf 0 = .ok (.iconst 0, 1) := by decide +kernel
theorem dX0_sumOf_1 : decode cX0_sumOf 1 = .ok (.istore_n 2, 1) := by decide +kernel
theorem dX0_sumOf_2 : decode cX0_sumOf 2 = .ok (.iconst 0, 1) := by decide +kernel
theorem dX0_sumOf_3 : decode cX0_sumOf 3 = .ok (.istore_n 3, 1) := by decide +kernel
theorem dX0_sumOf_4 : decode cX0_sumOf 4 = .ok (.iload_n 3, 1) := by decide +kernel
theorem dX0_sumOf_5 : decode cX0_sumOf 5 = .ok (.aload_n 0, 1) := by decide +kernel
theorem dX0_sumOf_6 : decode cX0_sumOf 6 = .ok (.getfield 40, 3) := by decide +kernel
theorem dX0_sumOf_9 : decode cX0_sumOf 9 = .ok (.if_icmp .ge 17, 3) := by decide +kernel
theorem dX0_sumOf_12 : decode cX0_sumOf 12 = .ok (.iload_n 2, 1) := by decide +kernel
theorem dX0_sumOf_13 : decode cX0_sumOf 13 = .ok (.iload_n 1, 1) := by decide +kernel
theorem dX0_sumOf_14 : decode cX0_sumOf 14 = .ok (.iload_n 3, 1) := by decide +kernel
theorem dX0_sumOf_15 : decode cX0_sumOf 15 = .ok (.invokestatic 125, 3) := by decide +kernel
theorem dX0_sumOf_18 : decode cX0_sumOf 18 = .ok (.iadd, 1) := by decide +kernel
theorem dX0_sumOf_19 : decode cX0_sumOf 19 = .ok (.istore_n 2, 1) := by decide +kernel
theorem dX0_sumOf_20 : decode cX0_sumOf 20 = .ok (.iinc 3 1, 3) := by decide +kernel
theorem dX0_sumOf_23 : decode cX0_sumOf 23 = .ok (.goto (-19), 3) := by decide +kernel
theorem dX0_sumOf_26 : decode cX0_sumOf 26 = .ok (.iload_n 2, 1) := by decide +kernel
theorem dX0_sumOf_27 : decode cX0_sumOf 27 = .ok (.ireturn, 1) := by decide +kernel
theorem dX0_shortRulesByTrial_0 : decode cX0_shortRulesByTrial 0 = .ok (.iconst 0, 1) := by decide +kernel
theorem dX0_shortRulesByTrial_1 : decode cX0_shortRulesByTrial 1 = .ok (.istore_n 2, 1) := by decide +kernel
theorem dX0_shortRulesByTrial_2 : decode cX0_shortRulesByTrial 2 = .ok (.iconst 0, 1) := by decide +kernel
theorem dX0_shortRulesByTrial_3 : decode cX0_shortRulesByTrial 3 = .ok (.istore_n 3, 1) := by decide +kernel
theorem dX0_shortRulesByTrial_4 : decode cX0_shortRulesByTrial 4 = .ok (.iload_n 3, 1) := by decide +kernel
theorem dX0_shortRulesByTrial_5 : decode cX0_shortRulesByTrial 5 = .ok (.aload_n 0, 1) := by decide +kernel
theorem dX0_shortRulesByTrial_6 : decode cX0_shortRulesByTrial 6 = .ok (.getfield 40, 3) := by decide +kernel
theorem dX0_shortRulesByTrial_9 : decode cX0_shortRulesByTrial 9 = .ok (.if_icmp .ge 24, 3) := by decide +kernel
theorem dX0_shortRulesByTrial_12 : decode cX0_shortRulesByTrial 12 = .ok (.aload_n 0, 1) := by decide +kernel
theorem dX0_shortRulesByTrial_13 : decode cX0_shortRulesByTrial 13 = .ok (.iload_n 3, 1) := by decide +kernel
theorem dX0_shortRulesByTrial_14 : decode cX0_shortRulesByTrial 14 = .ok (.invokevirtual 122, 3) := by decide +kernel
theorem dX0_shortRulesByTrial_17 : decode cX0_shortRulesByTrial 17 = .ok (.iload_n 1, 1) := by decide +kernel
theorem dX0_shortRulesByTrial_18 : decode cX0_shortRulesByTrial 18 = .ok (.if_icmp .ne 9, 3) := by decide +kernel
theorem dX0_shortRulesByTrial_21 : decode cX0_shortRulesByTrial 21 = .ok (.iload_n 2, 1) := by decide +kernel
theorem dX0_shortRulesByTrial_22 : decode cX0_shortRulesByTrial 22 = .ok (.iconst 1, 1) := by decide +kernel
theorem dX0_shortRulesByTrial_23 : decode cX0_shortRulesByTrial 23 = .ok (.iload_n 3, 1) := by decide +kernel
theorem dX0_shortRulesByTrial_24 : decode cX0_shortRulesByTrial 24 = .ok (.ishl, 1) := by decide +kernel
theorem dX0_shortRulesByTrial_25 : decode cX0_shortRulesByTrial 25 = .ok (.ior, 1) := by decide +kernel
theorem dX0_shortRulesByTrial_26 : decode cX0_shortRulesByTrial 26 = .ok (.istore_n 2, 1) := by decide +kernel
theorem dX0_shortRulesByTrial_27 : decode cX0_shortRulesByTrial 27 = .ok (.iinc 3 1, 3) := by decide +kernel
theorem dX0_shortRulesByTrial_30 : decode cX0_shortRulesByTrial 30 = .ok (.goto (-26), 3) := by decide +kernel
theorem dX0_shortRulesByTrial_33 : decode cX0_shortRulesByTrial 33 = .ok (.aload_n 0, 1) := by decide +kernel
theorem dX0_shortRulesByTrial_34 : decode cX0_shortRulesByTrial 34 = .ok (.iload_n 2, 1) := by decide +kernel
theorem dX0_shortRulesByTrial_35 : decode cX0_shortRulesByTrial 35 = .ok (.invokevirtual 113, 3) := by decide +kernel
theorem dX0_shortRulesByTrial_38 : decode cX0_shortRulesByTrial 38 = .ok (.ireturn, 1) := by decide +kernel
theorem dX1_init_0 : decode cX1_init 0 = .ok (.aload_n 0, 1) := by decide +kernel
theorem dX1_init_1 : decode cX1_init 1 = .ok (.iload_n 1, 1) := by decide +kernel
theorem dX1_init_2 : decode cX1_init 2 = .ok (.invokespecial 3, 3) := by decide +kernel
theorem dX1_init_5 : decode cX1_init 5 = .ok (.aload_n 0, 1) := by decide +kernel
theorem dX1_init_6 : decode cX1_init 6 = .ok (.iload_n 2, 1) := by decide +kernel
theorem dX1_init_7 : decode cX1_init 7 = .ok (.putfield 9, 3) := by decide +kernel
theorem dX1_init_10 : decode cX1_init 10 = .ok (.aload_n 0, 1) := by decide +kernel
theorem dX1_init_11 : decode cX1_init 11 = .ok (.iload_n 3, 1) := by decide +kernel
theorem dX1_init_12 : decode cX1_init 12 = .ok (.putfield 15, 3) := by decide +kernel
theorem dX1_init_15 : decode cX1_init 15 = .ok (.aload_n 0, 1) := by decide +kernel
theorem dX1_init_16 : decode cX1_init 16 = .ok (.iload 4, 2) := by decide +kernel
theorem dX1_init_18 : decode cX1_init 18 = .ok (.putfield 18, 3) := by decide +kernel
theorem dX1_init_21 : decode cX1_init 21 = .ok (.aload_n 0, 1) := by decide +kernel
theorem dX1_init_22 : decode cX1_init 22 = .ok (.iload 5, 2) := by decide +kernel
theorem dX1_init_24 : decode cX1_init 24 = .ok (.putfield 21, 3) := by decide +kernel
theorem dX1_init_27 : decode cX1_init 27 = .ok (.return_, 1) := by decide +kernel
theorem dX1_isTrue_0 : decode cX1_isTrue 0 = .ok (.iconst 0, 1) := by decide +kernel
theorem dX1_isTrue_1 : decode cX1_isTrue 1 = .ok (.istore 5, 2) := by decide +kernel
theorem dX1_isTrue_3 : decode cX1_isTrue 3 = .ok (.aload_n 0, 1) := by decide +kernel
theorem dX1_isTrue_4 : decode cX1_isTrue 4 = .ok (.getfield 15, 3) := by decide +kernel
theorem dX1_isTrue_7 : decode cX1_isTrue 7 = .ok (.lload_n 3, 1) := by decide +kernel
theorem dX1_isTrue_8 : decode cX1_isTrue 8 = .ok (.invokestatic 24, 3) := by decide +kernel
theorem dX1_isTrue_11 : decode cX1_isTrue 11 = .ok (.ifCond .eq 6, 3) := by decide +kernel
theorem dX1_isTrue_14 : decode cX1_isTrue 14 = .ok (.iinc 5 1, 3) := by decide +kernel
theorem dX1_isTrue_17 : decode cX1_isTrue 17 = .ok (.aload_n 0, 1) := by decide +kernel
theorem dX1_isTrue_18 : decode cX1_isTrue 18 = .ok (.getfield 18, 3) := by decide +kernel
theorem dX1_isTrue_21 : decode cX1_isTrue 21 = .ok (.lload_n 3, 1) := by decide +kernel
theorem dX1_isTrue_22 : decode cX1_isTrue 22 = .ok (.invokestatic 24, 3) := by decide +kernel
theorem dX1_isTrue_25 : decode cX1_isTrue 25 = .ok (.ifCond .eq 6, 3) := by decide +kernel
theorem dX1_isTrue_28 : decode cX1_isTrue 28 = .ok (.iinc 5 1, 3) := by decide +kernel
theorem dX1_isTrue_31 : decode cX1_isTrue 31 = .ok (.aload_n 0, 1) := by decide +kernel
theorem dX1_isTrue_32 : decode cX1_isTrue 32 = .ok (.getfield 21, 3) := by decide +kernel
theorem dX1_isTrue_35 : decode cX1_isTrue 35 = .ok (.iconst (-1), 1) := by decide +kernel
theorem dX1_isTrue_36 : decode cX1_isTrue 36 = .ok (.if_icmp .eq 17, 3) := by decide +kernel
theorem dX1_isTrue_39 : decode cX1_isTrue 39 = .ok (.aload_n 0, 1) := by decide +kernel
theorem dX1_isTrue_40 : decode cX1_isTrue 40 = .ok (.getfield 21, 3) := by decide +kernel
theorem dX1_isTrue_43 : decode cX1_isTrue 43 = .ok (.lload_n 3, 1) := by decide +kernel
theorem dX1_isTrue_44 : decode cX1_isTrue 44 = .ok (.invokestatic 24, 3) := by decide +kernel
theorem dX1_isTrue_47 : decode cX1_isTrue 47 = .ok (.ifCond .eq 6, 3) := by decide +kernel
theorem dX1_isTrue_50 : decode cX1_isTrue 50 = .ok (.iinc 5 1, 3) := by decide +kernel
theorem dX1_isTrue_53 : decode cX1_isTrue 53 = .ok (.iload 5, 2) := by decide +kernel
theorem dX1_isTrue_55 : decode cX1_isTrue 55 = .ok (.aload_n 0, 1) := by decide +kernel
theorem dX1_isTrue_56 : decode cX1_isTrue 56 = .ok (.getfield 9, 3) := by decide +kernel
theorem dX1_isTrue_59 : decode cX1_isTrue 59 = .ok (.if_icmp .lt 7, 3) := by decide +kernel
theorem dX1_isTrue_62 : decode cX1_isTrue 62 = .ok (.iconst 1, 1) := by decide +kernel
theorem dX1_isTrue_63 : decode cX1_isTrue 63 = .ok (.goto 4, 3) := by decide +kernel
theorem dX1_isTrue_66 : decode cX1_isTrue 66 = .ok (.iconst 0, 1) := by decide +kernel
theorem dX1_isTrue_67 : decode cX1_isTrue 67 = .ok (.ireturn, 1) := by decide +kernel
theorem dX2_init_0 : decode cX2_init 0 = .ok (.aload_n 0, 1) := by decide +kernel
theorem dX2_init_1 : decode cX2_init 1 = .ok (.invokespecial 3, 3) := by decide +kernel
theorem dX2_init_4 : decode cX2_init 4 = .ok (.aload_n 0, 1) := by decide +kernel
theorem dX2_init_5 : decode cX2_init 5 = .ok (.iconst 4, 1) := by decide +kernel
theorem dX2_init_6 : decode cX2_init 6 = .ok (.newarray .int, 2) := by decide +kernel
theorem dX2_init_8 : decode cX2_init 8 = .ok (.putfield 9, 3) := by decide +kernel
theorem dX2_init_11 : decode cX2_init 11 = .ok (.aload_n 0, 1) := by decide +kernel
theorem dX2_init_12 : decode cX2_init 12 = .ok (.new 15, 3) := by decide +kernel
theorem dX2_init_15 : decode cX2_init 15 = .ok (.dup, 1) := by decide +kernel
theorem dX2_init_16 : decode cX2_init 16 = .ok (.invokespecial 17, 3) := by decide +kernel
theorem dX2_init_19 : decode cX2_init 19 = .ok (.putfield 18, 3) := by decide +kernel
theorem dX2_init_22 : decode cX2_init 22 = .ok (.aload_n 0, 1) := by decide +kernel
theorem dX2_init_23 : decode cX2_init 23 = .ok (.iconst (-1), 1) := by decide +kernel
theorem dX2_init_24 : decode cX2_init 24 = .ok (.putfield 22, 3) := by decide +kernel
theorem dX2_init_27 : decode cX2_init 27 = .ok (.aload_n 0, 1) := by decide +kernel
theorem dX2_init_28 : decode cX2_init 28 = .ok (.iload_n 1, 1) := by decide +kernel
theorem dX2_init_29 : decode cX2_init 29 = .ok (.putfield 26, 3) := by decide +kernel
theorem dX2_init_32 : decode cX2_init 32 = .ok (.aload_n 0, 1) := by decide +kernel
theorem dX2_init_33 : decode cX2_init 33 = .ok (.iload_n 2, 1) := by decide +kernel
theorem dX2_init_34 : decode cX2_init 34 = .ok (.putfield 29, 3) := by decide +kernel
theorem dX2_init_37 : decode cX2_init 37 = .ok (.aload_n 0, 1) := by decide +kernel
theorem dX2_init_38 : decode cX2_init 38 = .ok (.iload_n 3, 1) := by decide +kernel
theorem dX2_init_39 : decode cX2_init 39 = .ok (.putfield 32, 3) := by decide +kernel
theorem dX2_init_42 : decode cX2_init 42 = .ok (.return_, 1) := by decide +kernel
theorem dX2_allReserved_0 : decode cX2_allReserved 0 = .ok (.iconst 0, 1) := by decide +kernel
theorem dX2_allReserved_1 : decode cX2_allReserved 1 = .ok (.istore_n 1, 1) := by decide +kernel
theorem dX2_allReserved_2 : decode cX2_allReserved 2 = .ok (.iconst 0, 1) := by decide +kernel
theorem dX2_allReserved_3 : decode cX2_allReserved 3 = .ok (.istore_n 2, 1) := by decide +kernel
theorem dX2_allReserved_4 : decode cX2_allReserved 4 = .ok (.iload_n 2, 1) := by decide +kernel
theorem dX2_allReserved_5 : decode cX2_allReserved 5 = .ok (.iconst 4, 1) := by decide +kernel
theorem dX2_allReserved_6 : decode cX2_allReserved 6 = .ok (.if_icmp .ge 18, 3) := by decide +kernel
theorem dX2_allReserved_9 : decode cX2_allReserved 9 = .ok (.iload_n 1, 1) := by decide +kernel
theorem dX2_allReserved_10 : decode cX2_allReserved 10 = .ok (.aload_n 0, 1) := by decide +kernel
theorem dX2_allReserved_11 : decode cX2_allReserved 11 = .ok (.getfield 9, 3) := by decide +kernel
theorem dX2_allReserved_14 : decode cX2_allReserved 14 = .ok (.iload_n 2, 1) := by decide +kernel
theorem dX2_allReserved_15 : decode cX2_allReserved 15 = .ok (.iaload, 1) := by decide +kernel
theorem dX2_allReserved_16 : decode cX2_allReserved 16 = .ok (.iadd, 1) := by decide +kernel
theorem dX2_allReserved_17 : decode cX2_allReserved 17 = .ok (.istore_n 1, 1) := by decide +kernel
theorem dX2_allReserved_18 : decode cX2_allReserved 18 = .ok (.iinc 2 1, 3) := by decide +kernel
theorem dX2_allReserved_21 : decode cX2_allReserved 21 = .ok (.goto (-17), 3) := by decide +kernel
theorem dX2_allReserved_24 : decode cX2_allReserved 24 = .ok (.iload_n 1, 1) := by decide +kernel
theorem dX2_allReserved_25 : decode cX2_allReserved 25 = .ok (.ireturn, 1) := by decide +kernel
theorem dX2_placeFor_0 : decode cX2_placeFor 0 = .ok (.iconst 0, 1) := by decide +kernel
theorem dX2_placeFor_1 : decode cX2_placeFor 1 = .ok (.istore_n 2, 1) := by decide +kernel
theorem dX2_placeFor_2 : decode cX2_placeFor 2 = .ok (.iload_n 2, 1) := by decide +kernel
theorem dX2_placeFor_3 : decode cX2_placeFor 3 = .ok (.aload_n 0, 1) := by decide +kernel
theorem dX2_placeFor_4 : decode cX2_placeFor 4 = .ok (.getfield 18, 3) := by decide +kernel
theorem dX2_placeFor_7 : decode cX2_placeFor 7 = .ok (.invokevirtual 35, 3) := by decide +kernel
theorem dX2_placeFor_10 : decode cX2_placeFor 10 = .ok (.if_icmp .ge 23, 3) := by decide +kernel
theorem dX2_placeFor_13 : decode cX2_placeFor 13 = .ok (.aload_n 0, 1) := by decide +kernel
theorem dX2_placeFor_14 : decode cX2_placeFor 14 = .ok (.getfield 18, 3) := by decide +kernel
theorem dX2_placeFor_17 : decode cX2_placeFor 17 = .ok (.iload_n 2, 1) := by decide +kernel
theorem dX2_placeFor_18 : decode cX2_placeFor 18 = .ok (.invokevirtual 39, 3) := by decide +kernel
theorem dX2_placeFor_21 : decode cX2_placeFor 21 = .ok (.aload_n 1, 1) := by decide +kernel
theorem dX2_placeFor_22 : decode cX2_placeFor 22 = .ok (.if_acmp .ne 5, 3) := by decide +kernel
theorem dX2_placeFor_25 : decode cX2_placeFor 25 = .ok (.iload_n 2, 1) := by decide +kernel
theorem dX2_placeFor_26 : decode cX2_placeFor 26 = .ok (.ireturn, 1) := by decide +kernel
theorem dX2_placeFor_27 : decode cX2_placeFor 27 = .ok (.iinc 2 1, 3) := by decide +kernel
theorem dX2_placeFor_30 : decode cX2_placeFor 30 = .ok (.goto (-28), 3) := by decide +kernel
theorem dX2_placeFor_33 : decode cX2_placeFor 33 = .ok (.iconst (-1), 1) := by decide +kernel
theorem dX2_placeFor_34 : decode cX2_placeFor 34 = .ok (.ireturn, 1) := by decide +kernel
theorem dX2_stopWaiting_0 : decode cX2_stopWaiting 0 = .ok (.aload_n 0, 1) := by decide +kernel
theorem dX2_stopWaiting_1 : decode cX2_stopWaiting 1 = .ok (.aload_n 1, 1) := by decide +kernel
theorem dX2_stopWaiting_2 : decode cX2_stopWaiting 2 = .ok (.invokevirtual 43, 3) := by decide +kernel
theorem dX2_stopWaiting_5 : decode cX2_stopWaiting 5 = .ok (.istore_n 2, 1) := by decide +kernel
theorem dX2_stopWaiting_6 : decode cX2_stopWaiting 6 = .ok (.iload_n 2, 1) := by decide +kernel
theorem dX2_stopWaiting_7 : decode cX2_stopWaiting 7 = .ok (.iconst (-1), 1) := by decide +kernel
theorem dX2_stopWaiting_8 : decode cX2_stopWaiting 8 = .ok (.if_icmp .eq 12, 3) := by decide +kernel
theorem dX2_stopWaiting_11 : decode cX2_stopWaiting 11 = .ok (.aload_n 0, 1) := by decide +kernel
theorem dX2_stopWaiting_12 : decode cX2_stopWaiting 12 = .ok (.getfield 18, 3) := by decide +kernel
theorem dX2_stopWaiting_15 : decode cX2_stopWaiting 15 = .ok (.iload_n 2, 1) := by decide +kernel
theorem dX2_stopWaiting_16 : decode cX2_stopWaiting 16 = .ok (.invokevirtual 47, 3) := by decide +kernel
theorem dX2_stopWaiting_19 : decode cX2_stopWaiting 19 = .ok (.pop, 1) := by decide +kernel
theorem dX2_stopWaiting_20 : decode cX2_stopWaiting 20 = .ok (.return_, 1) := by decide +kernel
theorem dX3_init_0 : decode cX3_init 0 = .ok (.aload_n 0, 1) := by decide +kernel
theorem dX3_init_1 : decode cX3_init 1 = .ok (.iconst 0, 1) := by decide +kernel
theorem dX3_init_2 : decode cX3_init 2 = .ok (.invokespecial 1, 3) := by decide +kernel
theorem dX3_init_5 : decode cX3_init 5 = .ok (.aload_n 0, 1) := by decide +kernel
theorem dX3_init_6 : decode cX3_init 6 = .ok (.iload_n 1, 1) := by decide +kernel
theorem dX3_init_7 : decode cX3_init 7 = .ok (.putfield 7, 3) := by decide +kernel
theorem dX3_init_10 : decode cX3_init 10 = .ok (.return_, 1) := by decide +kernel
theorem dX3_isTrue_0 : decode cX3_isTrue 0 = .ok (.iload_n 2, 1) := by decide +kernel
theorem dX3_isTrue_1 : decode cX3_isTrue 1 = .ok (.aload_n 0, 1) := by decide +kernel
theorem dX3_isTrue_2 : decode cX3_isTrue 2 = .ok (.getfield 7, 3) := by decide +kernel
theorem dX3_isTrue_5 : decode cX3_isTrue 5 = .ok (.if_icmp .lt 7, 3) := by decide +kernel
theorem dX3_isTrue_8 : decode cX3_isTrue 8 = .ok (.iconst 1, 1) := by decide +kernel
theorem dX3_isTrue_9 : decode cX3_isTrue 9 = .ok (.goto 4, 3) := by decide +kernel
theorem dX3_isTrue_12 : decode cX3_isTrue 12 = .ok (.iconst 0, 1) := by decide +kernel
theorem dX3_isTrue_13 : decode cX3_isTrue 13 = .ok (.ireturn, 1) := by decide +kernel
theorem dX4_init_0 : decode cX4_init 0 = .ok (.aload_n 0, 1) := by decide +kernel
theorem dX4_init_1 : decode cX4_init 1 = .ok (.invokespecial 3, 3) := by decide +kernel
theorem dX4_init_4 : decode cX4_init 4 = .ok (.aload_n 0, 1) := by decide +kernel
theorem dX4_init_5 : decode cX4_init 5 = .ok (.iload_n 1, 1) := by decide +kernel
theorem dX4_init_6 : decode cX4_init 6 = .ok (.putfield 9, 3) := by decide +kernel
theorem dX4_init_9 : decode cX4_init 9 = .ok (.return_, 1) := by decide +kernel
theorem dX5_init_0 : decode cX5_init 0 = .ok (.aload_n 0, 1) := by decide +kernel
theorem dX5_init_1 : decode cX5_init 1 = .ok (.iconst 0, 1) := by decide +kernel
theorem dX5_init_2 : decode cX5_init 2 = .ok (.invokespecial 1, 3) := by decide +kernel
theorem dX5_init_5 : decode cX5_init 5 = .ok (.aload_n 0, 1) := by decide +kernel
theorem dX5_init_6 : decode cX5_init 6 = .ok (.iload_n 1, 1) := by decide +kernel
theorem dX5_init_7 : decode cX5_init 7 = .ok (.putfield 7, 3) := by decide +kernel
theorem dX5_init_10 : decode cX5_init 10 = .ok (.aload_n 0, 1) := by decide +kernel
theorem dX5_init_11 : decode cX5_init 11 = .ok (.iload_n 2, 1) := by decide +kernel
theorem dX5_init_12 : decode cX5_init 12 = .ok (.putfield 13, 3) := by decide +kernel
theorem dX5_init_15 : decode cX5_init 15 = .ok (.return_, 1) := by decide +kernel
theorem dX5_isTrue_0 : decode cX5_isTrue 0 = .ok (.aload_n 1, 1) := by decide +kernel
theorem dX5_isTrue_1 : decode cX5_isTrue 1 = .ok (.getfield 16, 3) := by decide +kernel
theorem dX5_isTrue_4 : decode cX5_isTrue 4 = .ok (.aload_n 0, 1) := by decide +kernel
theorem dX5_isTrue_5 : decode cX5_isTrue 5 = .ok (.getfield 7, 3) := by decide +kernel
theorem dX5_isTrue_8 : decode cX5_isTrue 8 = .ok (.iaload, 1) := by decide +kernel
theorem dX5_isTrue_9 : decode cX5_isTrue 9 = .ok (.aload_n 0, 1) := by decide +kernel
theorem dX5_isTrue_10 : decode cX5_isTrue 10 = .ok (.getfield 13, 3) := by decide +kernel
theorem dX5_isTrue_13 : decode cX5_isTrue 13 = .ok (.if_icmp .lt 7, 3) := by decide +kernel
theorem dX5_isTrue_16 : decode cX5_isTrue 16 = .ok (.iconst 1, 1) := by decide +kernel
theorem dX5_isTrue_17 : decode cX5_isTrue 17 = .ok (.goto 4, 3) := by decide +kernel
theorem dX5_isTrue_20 : decode cX5_isTrue 20 = .ok (.iconst 0, 1) := by decide +kernel
theorem dX5_isTrue_21 : decode cX5_isTrue 21 = .ok (.ireturn, 1) := by decide +kernel
theorem dX6_init_0 : decode cX6_init 0 = .ok (.aload_n 0, 1) := by decide +kernel
theorem dX6_init_1 : decode cX6_init 1 = .ok (.iload_n 1, 1) := by decide +kernel
theorem dX6_init_2 : decode cX6_init 2 = .ok (.invokespecial 1, 3) := by decide +kernel
theorem dX6_init_5 : decode cX6_init 5 = .ok (.aload_n 0, 1) := by decide +kernel
theorem dX6_init_6 : decode cX6_init 6 = .ok (.iload_n 2, 1) := by decide +kernel
theorem dX6_init_7 : decode cX6_init 7 = .ok (.putfield 7, 3) := by decide +kernel
theorem dX6_init_10 : decode cX6_init 10 = .ok (.return_, 1) := by decide +kernel
theorem dX6_isTrue_0 : decode cX6_isTrue 0 = .ok (.aload_n 0, 1) := by decide +kernel
theorem dX6_isTrue_1 : decode cX6_isTrue 1 = .ok (.getfield 7, 3) := by decide +kernel
theorem dX6_isTrue_4 : decode cX6_isTrue 4 = .ok (.lload_n 3, 1) := by decide +kernel
theorem dX6_isTrue_5 : decode cX6_isTrue 5 = .ok (.invokestatic 13, 3) := by decide +kernel
theorem dX6_isTrue_8 : decode cX6_isTrue 8 = .ok (.ifCond .ne 7, 3) := by decide +kernel
theorem dX6_isTrue_11 : decode cX6_isTrue 11 = .ok (.iconst 1, 1) := by decide +kernel
theorem dX6_isTrue_12 : decode cX6_isTrue 12 = .ok (.goto 4, 3) := by decide +kernel
theorem dX6_isTrue_15 : decode cX6_isTrue 15 = .ok (.iconst 0, 1) := by decide +kernel
theorem dX6_isTrue_16 : decode cX6_isTrue 16 = .ok (.ireturn, 1) := by decide +kernel
theorem dX8_init_0 : decode cX8_init 0 = .ok (.aload_n 0, 1) := by decide +kernel
theorem dX8_init_1 : decode cX8_init 1 = .ok (.invokespecial 3, 3) := by decide +kernel
theorem dX8_init_4 : decode cX8_init 4 = .ok (.aload_n 0, 1) := by decide +kernel
theorem dX8_init_5 : decode cX8_init 5 = .ok (.bipush 20, 2) := by decide +kernel
theorem dX8_init_7 : decode cX8_init 7 = .ok (.newarray .boolean, 2) := by decide +kernel
theorem dX8_init_9 : decode cX8_init 9 = .ok (.putfield 9, 3) := by decide +kernel
theorem dX8_init_12 : decode cX8_init 12 = .ok (.aload_n 0, 1) := by decide +kernel
theorem dX8_init_13 : decode cX8_init 13 = .ok (.bipush 20, 2) := by decide +kernel
theorem dX8_init_15 : decode cX8_init 15 = .ok (.newarray .boolean, 2) := by decide +kernel
theorem dX8_init_17 : decode cX8_init 17 = .ok (.putfield 15, 3) := by decide +kernel
theorem dX8_init_20 : decode cX8_init 20 = .ok (.aload_n 0, 1) := by decide +kernel
theorem dX8_init_21 : decode cX8_init 21 = .ok (.bipush 20, 2) := by decide +kernel
theorem dX8_init_23 : decode cX8_init 23 = .ok (.newarray .int, 2) := by decide +kernel
theorem dX8_init_25 : decode cX8_init 25 = .ok (.putfield 18, 3) := by decide +kernel
theorem dX8_init_28 : decode cX8_init 28 = .ok (.aload_n 0, 1) := by decide +kernel
theorem dX8_init_29 : decode cX8_init 29 = .ok (.bipush 20, 2) := by decide +kernel
theorem dX8_init_31 : decode cX8_init 31 = .ok (.newarray .int, 2) := by decide +kernel
theorem dX8_init_33 : decode cX8_init 33 = .ok (.putfield 22, 3) := by decide +kernel
theorem dX8_init_36 : decode cX8_init 36 = .ok (.aload_n 0, 1) := by decide +kernel
theorem dX8_init_37 : decode cX8_init 37 = .ok (.bipush 20, 2) := by decide +kernel
theorem dX8_init_39 : decode cX8_init 39 = .ok (.newarray .int, 2) := by decide +kernel
theorem dX8_init_41 : decode cX8_init 41 = .ok (.putfield 25, 3) := by decide +kernel
theorem dX8_init_44 : decode cX8_init 44 = .ok (.aload_n 0, 1) := by decide +kernel
theorem dX8_init_45 : decode cX8_init 45 = .ok (.bipush 20, 2) := by decide +kernel
theorem dX8_init_47 : decode cX8_init 47 = .ok (.iconst 3, 1) := by decide +kernel
theorem dX8_init_48 : decode cX8_init 48 = .ok (.multianewarray 28 2, 4) := by decide +kernel
theorem dX8_init_52 : decode cX8_init 52 = .ok (.putfield 30, 3) := by decide +kernel
theorem dX8_init_55 : decode cX8_init 55 = .ok (.aload_n 0, 1) := by decide +kernel
theorem dX8_init_56 : decode cX8_init 56 = .ok (.iload_n 1, 1) := by decide +kernel
theorem dX8_init_57 : decode cX8_init 57 = .ok (.putfield 33, 3) := by decide +kernel
theorem dX8_init_60 : decode cX8_init 60 = .ok (.aload_n 0, 1) := by decide +kernel
theorem dX8_init_61 : decode cX8_init 61 = .ok (.getfield 18, 3) := by decide +kernel
theorem dX8_init_64 : decode cX8_init 64 = .ok (.iconst (-1), 1) := by decide +kernel
theorem dX8_init_65 : decode cX8_init 65 = .ok (.invokestatic 37, 3) := by decide +kernel
theorem dX8_init_68 : decode cX8_init 68 = .ok (.aload_n 0, 1) := by decide +kernel
theorem dX8_init_69 : decode cX8_init 69 = .ok (.getfield 22, 3) := by decide +kernel
theorem dX8_init_72 : decode cX8_init 72 = .ok (.iconst (-1), 1) := by decide +kernel
theorem dX8_init_73 : decode cX8_init 73 = .ok (.invokestatic 37, 3) := by decide +kernel
theorem dX8_init_76 : decode cX8_init 76 = .ok (.return_, 1) := by decide +kernel
theorem dX8_hasPassed_0 : decode cX8_hasPassed 0 = .ok (.aload_n 0, 1) := by decide +kernel
theorem dX8_hasPassed_1 : decode cX8_hasPassed 1 = .ok (.getfield 22, 3) := by decide +kernel
theorem dX8_hasPassed_4 : decode cX8_hasPassed 4 = .ok (.iload_n 1, 1) := by decide +kernel
theorem dX8_hasPassed_5 : decode cX8_hasPassed 5 = .ok (.iaload, 1) := by decide +kernel
theorem dX8_hasPassed_6 : decode cX8_hasPassed 6 = .ok (.bipush 50, 2) := by decide +kernel
theorem dX8_hasPassed_8 : decode cX8_hasPassed 8 = .ok (.if_icmp .lt 7, 3) := by decide +kernel
theorem dX8_hasPassed_11 : decode cX8_hasPassed 11 = .ok (.iconst 1, 1) := by decide +kernel
theorem dX8_hasPassed_12 : decode cX8_hasPassed 12 = .ok (.goto 4, 3) := by decide +kernel
theorem dX8_hasPassed_15 : decode cX8_hasPassed 15 = .ok (.iconst 0, 1) := by decide +kernel
theorem dX8_hasPassed_16 : decode cX8_hasPassed 16 = .ok (.ireturn, 1) := by decide +kernel
theorem dX8_addAttempt_0 : decode cX8_addAttempt 0 = .ok (.aload_n 0, 1) := by decide +kernel
theorem dX8_addAttempt_1 : decode cX8_addAttempt 1 = .ok (.getfield 25, 3) := by decide +kernel
theorem dX8_addAttempt_4 : decode cX8_addAttempt 4 = .ok (.iload_n 1, 1) := by decide +kernel
theorem dX8_addAttempt_5 : decode cX8_addAttempt 5 = .ok (.iaload, 1) := by decide +kernel
theorem dX8_addAttempt_6 : decode cX8_addAttempt 6 = .ok (.istore_n 3, 1) := by decide +kernel
theorem dX8_addAttempt_7 : decode cX8_addAttempt 7 = .ok (.iload_n 3, 1) := by decide +kernel
theorem dX8_addAttempt_8 : decode cX8_addAttempt 8 = .ok (.iconst 3, 1) := by decide +kernel
theorem dX8_addAttempt_9 : decode cX8_addAttempt 9 = .ok (.if_icmp .ge 37, 3) := by decide +kernel
theorem dX8_addAttempt_12 : decode cX8_addAttempt 12 = .ok (.aload_n 0, 1) := by decide +kernel
theorem dX8_addAttempt_13 : decode cX8_addAttempt 13 = .ok (.getfield 30, 3) := by decide +kernel
theorem dX8_addAttempt_16 : decode cX8_addAttempt 16 = .ok (.iload_n 1, 1) := by decide +kernel
theorem dX8_addAttempt_17 : decode cX8_addAttempt 17 = .ok (.aaload, 1) := by decide +kernel
theorem dX8_addAttempt_18 : decode cX8_addAttempt 18 = .ok (.iload_n 3, 1) := by decide +kernel
theorem dX8_addAttempt_19 : decode cX8_addAttempt 19 = .ok (.iload_n 2, 1) := by decide +kernel
theorem dX8_addAttempt_20 : decode cX8_addAttempt 20 = .ok (.iastore, 1) := by decide +kernel
theorem dX8_addAttempt_21 : decode cX8_addAttempt 21 = .ok (.aload_n 0, 1) := by decide +kernel
theorem dX8_addAttempt_22 : decode cX8_addAttempt 22 = .ok (.getfield 25, 3) := by decide +kernel
theorem dX8_addAttempt_25 : decode cX8_addAttempt 25 = .ok (.iload_n 1, 1) := by decide +kernel
theorem dX8_addAttempt_26 : decode cX8_addAttempt 26 = .ok (.iload_n 3, 1) := by decide +kernel
theorem dX8_addAttempt_27 : decode cX8_addAttempt 27 = .ok (.iconst 1, 1) := by decide +kernel
theorem dX8_addAttempt_28 : decode cX8_addAttempt 28 = .ok (.iadd, 1) := by decide +kernel
theorem dX8_addAttempt_29 : decode cX8_addAttempt 29 = .ok (.iastore, 1) := by decide +kernel
theorem dX8_addAttempt_30 : decode cX8_addAttempt 30 = .ok (.aload_n 0, 1) := by decide +kernel
theorem dX8_addAttempt_31 : decode cX8_addAttempt 31 = .ok (.getfield 22, 3) := by decide +kernel
theorem dX8_addAttempt_34 : decode cX8_addAttempt 34 = .ok (.iload_n 1, 1) := by decide +kernel
theorem dX8_addAttempt_35 : decode cX8_addAttempt 35 = .ok (.aload_n 0, 1) := by decide +kernel
theorem dX8_addAttempt_36 : decode cX8_addAttempt 36 = .ok (.getfield 22, 3) := by decide +kernel
theorem dX8_addAttempt_39 : decode cX8_addAttempt 39 = .ok (.iload_n 1, 1) := by decide +kernel
theorem dX8_addAttempt_40 : decode cX8_addAttempt 40 = .ok (.iaload, 1) := by decide +kernel
theorem dX8_addAttempt_41 : decode cX8_addAttempt 41 = .ok (.iload_n 2, 1) := by decide +kernel
theorem dX8_addAttempt_42 : decode cX8_addAttempt 42 = .ok (.invokestatic 43, 3) := by decide +kernel
theorem dX8_addAttempt_45 : decode cX8_addAttempt 45 = .ok (.iastore, 1) := by decide +kernel
theorem dX8_addAttempt_46 : decode cX8_addAttempt 46 = .ok (.return_, 1) := by decide +kernel
theorem dX8_moveCreditIn_0 : decode cX8_moveCreditIn 0 = .ok (.aload_n 0, 1) := by decide +kernel
theorem dX8_moveCreditIn_1 : decode cX8_moveCreditIn 1 = .ok (.getfield 15, 3) := by decide +kernel
theorem dX8_moveCreditIn_4 : decode cX8_moveCreditIn 4 = .ok (.iload_n 1, 1) := by decide +kernel
theorem dX8_moveCreditIn_5 : decode cX8_moveCreditIn 5 = .ok (.iconst 1, 1) := by decide +kernel
theorem dX8_moveCreditIn_6 : decode cX8_moveCreditIn 6 = .ok (.bastore, 1) := by decide +kernel
theorem dX8_moveCreditIn_7 : decode cX8_moveCreditIn 7 = .ok (.aload_n 0, 1) := by decide +kernel
theorem dX8_moveCreditIn_8 : decode cX8_moveCreditIn 8 = .ok (.getfield 22, 3) := by decide +kernel
theorem dX8_moveCreditIn_11 : decode cX8_moveCreditIn 11 = .ok (.iload_n 1, 1) := by decide +kernel
theorem dX8_moveCreditIn_12 : decode cX8_moveCreditIn 12 = .ok (.aload_n 0, 1) := by decide +kernel
theorem dX8_moveCreditIn_13 : decode cX8_moveCreditIn 13 = .ok (.getfield 22, 3) := by decide +kernel
theorem dX8_moveCreditIn_16 : decode cX8_moveCreditIn 16 = .ok (.iload_n 1, 1) := by decide +kernel
theorem dX8_moveCreditIn_17 : decode cX8_moveCreditIn 17 = .ok (.iaload, 1) := by decide +kernel
theorem dX8_moveCreditIn_18 : decode cX8_moveCreditIn 18 = .ok (.bipush 50, 2) := by decide +kernel
theorem dX8_moveCreditIn_20 : decode cX8_moveCreditIn 20 = .ok (.invokestatic 43, 3) := by decide +kernel
theorem dX8_moveCreditIn_23 : decode cX8_moveCreditIn 23 = .ok (.iastore, 1) := by decide +kernel
theorem dX8_moveCreditIn_24 : decode cX8_moveCreditIn 24 = .ok (.return_, 1) := by decide +kernel
theorem dX8_closeTerm_0 : decode cX8_closeTerm 0 = .ok (.iconst 0, 1) := by decide +kernel
theorem dX8_closeTerm_1 : decode cX8_closeTerm 1 = .ok (.istore_n 1, 1) := by decide +kernel
theorem dX8_closeTerm_2 : decode cX8_closeTerm 2 = .ok (.iconst 0, 1) := by decide +kernel
theorem dX8_closeTerm_3 : decode cX8_closeTerm 3 = .ok (.istore_n 2, 1) := by decide +kernel
theorem dX8_closeTerm_4 : decode cX8_closeTerm 4 = .ok (.iload_n 2, 1) := by decide +kernel
theorem dX8_closeTerm_5 : decode cX8_closeTerm 5 = .ok (.bipush 20, 2) := by decide +kernel
theorem dX8_closeTerm_7 : decode cX8_closeTerm 7 = .ok (.if_icmp .ge 50, 3) := by decide +kernel
theorem dX8_closeTerm_10 : decode cX8_closeTerm 10 = .ok (.aload_n 0, 1) := by decide +kernel
theorem dX8_closeTerm_11 : decode cX8_closeTerm 11 = .ok (.getfield 9, 3) := by decide +kernel
theorem dX8_closeTerm_14 : decode cX8_closeTerm 14 = .ok (.iload_n 2, 1) := by decide +kernel
theorem dX8_closeTerm_15 : decode cX8_closeTerm 15 = .ok (.baload, 1) := by decide +kernel
theorem dX8_closeTerm_16 : decode cX8_closeTerm 16 = .ok (.ifCond .eq 21, 3) := by decide +kernel
theorem dX8_closeTerm_19 : decode cX8_closeTerm 19 = .ok (.aload_n 0, 1) := by decide +kernel
theorem dX8_closeTerm_20 : decode cX8_closeTerm 20 = .ok (.iload_n 2, 1) := by decide +kernel
theorem dX8_closeTerm_21 : decode cX8_closeTerm 21 = .ok (.iconst 0, 1) := by decide +kernel
theorem dX8_closeTerm_22 : decode cX8_closeTerm 22 = .ok (.aload_n 0, 1) := by decide +kernel
theorem dX8_closeTerm_23 : decode cX8_closeTerm 23 = .ok (.getfield 18, 3) := by decide +kernel
theorem dX8_closeTerm_26 : decode cX8_closeTerm 26 = .ok (.iload_n 2, 1) := by decide +kernel
theorem dX8_closeTerm_27 : decode cX8_closeTerm 27 = .ok (.iaload, 1) := by decide +kernel
theorem dX8_closeTerm_28 : decode cX8_closeTerm 28 = .ok (.invokestatic 43, 3) := by decide +kernel
theorem dX8_closeTerm_31 : decode cX8_closeTerm 31 = .ok (.invokevirtual 49, 3) := by decide +kernel
theorem dX8_closeTerm_34 : decode cX8_closeTerm 34 = .ok (.iinc 1 1, 3) := by decide +kernel
theorem dX8_closeTerm_37 : decode cX8_closeTerm 37 = .ok (.aload_n 0, 1) := by decide +kernel
theorem dX8_closeTerm_38 : decode cX8_closeTerm 38 = .ok (.getfield 9, 3) := by decide +kernel
theorem dX8_closeTerm_41 : decode cX8_closeTerm 41 = .ok (.iload_n 2, 1) := by decide +kernel
theorem dX8_closeTerm_42 : decode cX8_closeTerm 42 = .ok (.iconst 0, 1) := by decide +kernel
theorem dX8_closeTerm_43 : decode cX8_closeTerm 43 = .ok (.bastore, 1) := by decide +kernel
theorem dX8_closeTerm_44 : decode cX8_closeTerm 44 = .ok (.aload_n 0, 1) := by decide +kernel
theorem dX8_closeTerm_45 : decode cX8_closeTerm 45 = .ok (.getfield 18, 3) := by decide +kernel
theorem dX8_closeTerm_48 : decode cX8_closeTerm 48 = .ok (.iload_n 2, 1) := by decide +kernel
theorem dX8_closeTerm_49 : decode cX8_closeTerm 49 = .ok (.iconst (-1), 1) := by decide +kernel
theorem dX8_closeTerm_50 : decode cX8_closeTerm 50 = .ok (.iastore, 1) := by decide +kernel
theorem dX8_closeTerm_51 : decode cX8_closeTerm 51 = .ok (.iinc 2 1, 3) := by decide +kernel
theorem dX8_closeTerm_54 : decode cX8_closeTerm 54 = .ok (.goto (-50), 3) := by decide +kernel
theorem dX8_closeTerm_57 : decode cX8_closeTerm 57 = .ok (.iload_n 1, 1) := by decide +kernel
theorem dX8_closeTerm_58 : decode cX8_closeTerm 58 = .ok (.ireturn, 1) := by decide +kernel
theorem dX9_init_0 : decode cX9_init 0 = .ok (.aload_n 0, 1) := by decide +kernel
theorem dX9_init_1 : decode cX9_init 1 = .ok (.iconst 0, 1) := by decide +kernel
theorem dX9_init_2 : decode cX9_init 2 = .ok (.invokespecial 1, 3) := by decide +kernel
theorem dX9_init_5 : decode cX9_init 5 = .ok (.aload_n 0, 1) := by decide +kernel
theorem dX9_init_6 : decode cX9_init 6 = .ok (.iload_n 1, 1) := by decide +kernel
theorem dX9_init_7 : decode cX9_init 7 = .ok (.putfield 7, 3) := by decide +kernel
theorem dX9_init_10 : decode cX9_init 10 = .ok (.return_, 1) := by decide +kernel
theorem dX9_isTrue_0 : decode cX9_isTrue 0 = .ok (.aload_n 1, 1) := by decide +kernel
theorem dX9_isTrue_1 : decode cX9_isTrue 1 = .ok (.getfield 13, 3) := by decide +kernel
theorem dX9_isTrue_4 : decode cX9_isTrue 4 = .ok (.aload_n 0, 1) := by decide +kernel
theorem dX9_isTrue_5 : decode cX9_isTrue 5 = .ok (.getfield 7, 3) := by decide +kernel
theorem dX9_isTrue_8 : decode cX9_isTrue 8 = .ok (.baload, 1) := by decide +kernel
theorem dX9_isTrue_9 : decode cX9_isTrue 9 = .ok (.ifCond .ne 14, 3) := by decide +kernel
theorem dX9_isTrue_12 : decode cX9_isTrue 12 = .ok (.aload_n 1, 1) := by decide +kernel
theorem dX9_isTrue_13 : decode cX9_isTrue 13 = .ok (.aload_n 0, 1) := by decide +kernel
theorem dX9_isTrue_14 : decode cX9_isTrue 14 = .ok (.getfield 7, 3) := by decide +kernel
theorem dX9_isTrue_17 : decode cX9_isTrue 17 = .ok (.invokevirtual 19, 3) := by decide +kernel
theorem dX9_isTrue_20 : decode cX9_isTrue 20 = .ok (.ifCond .eq 7, 3) := by decide +kernel
theorem dX9_isTrue_23 : decode cX9_isTrue 23 = .ok (.iconst 1, 1) := by decide +kernel
theorem dX9_isTrue_24 : decode cX9_isTrue 24 = .ok (.goto 4, 3) := by decide +kernel
theorem dX9_isTrue_27 : decode cX9_isTrue 27 = .ok (.iconst 0, 1) := by decide +kernel
theorem dX9_isTrue_28 : decode cX9_isTrue 28 = .ok (.ireturn, 1) := by decide +kernel
theorem dX10_init_0 : decode cX10_init 0 = .ok (.aload_n 0, 1) := by decide +kernel
theorem dX10_init_1 : decode cX10_init 1 = .ok (.invokespecial 3, 3) := by decide +kernel
theorem dX10_init_4 : decode cX10_init 4 = .ok (.aload_n 0, 1) := by decide +kernel
theorem dX10_init_5 : decode cX10_init 5 = .ok (.sipush 340, 3) := by decide +kernel
theorem dX10_init_8 : decode cX10_init 8 = .ok (.newarray .char, 2) := by decide +kernel
theorem dX10_init_10 : decode cX10_init 10 = .ok (.putfield 11, 3) := by decide +kernel
theorem dX10_init_13 : decode cX10_init 13 = .ok (.return_, 1) := by decide +kernel
theorem dX11_init_0 : decode cX11_init 0 = .ok (.aload_n 0, 1) := by decide +kernel
theorem dX11_init_1 : decode cX11_init 1 = .ok (.invokespecial 3, 3) := by decide +kernel
theorem dX11_init_4 : decode cX11_init 4 = .ok (.aload_n 0, 1) := by decide +kernel
theorem dX11_init_5 : decode cX11_init 5 = .ok (.new 9, 3) := by decide +kernel
theorem dX11_init_8 : decode cX11_init 8 = .ok (.dup, 1) := by decide +kernel
theorem dX11_init_9 : decode cX11_init 9 = .ok (.invokespecial 11, 3) := by decide +kernel
theorem dX11_init_12 : decode cX11_init 12 = .ok (.putfield 12, 3) := by decide +kernel
theorem dX11_init_15 : decode cX11_init 15 = .ok (.aload_n 0, 1) := by decide +kernel
theorem dX11_init_16 : decode cX11_init 16 = .ok (.new 9, 3) := by decide +kernel
theorem dX11_init_19 : decode cX11_init 19 = .ok (.dup, 1) := by decide +kernel
theorem dX11_init_20 : decode cX11_init 20 = .ok (.invokespecial 11, 3) := by decide +kernel
theorem dX11_init_23 : decode cX11_init 23 = .ok (.putfield 16, 3) := by decide +kernel
theorem dX11_init_26 : decode cX11_init 26 = .ok (.aload_n 0, 1) := by decide +kernel
theorem dX11_init_27 : decode cX11_init 27 = .ok (.new 9, 3) := by decide +kernel
theorem dX11_init_30 : decode cX11_init 30 = .ok (.dup, 1) := by decide +kernel
theorem dX11_init_31 : decode cX11_init 31 = .ok (.invokespecial 11, 3) := by decide +kernel
theorem dX11_init_34 : decode cX11_init 34 = .ok (.putfield 19, 3) := by decide +kernel
theorem dX11_init_37 : decode cX11_init 37 = .ok (.aload_n 0, 1) := by decide +kernel
theorem dX11_init_38 : decode cX11_init 38 = .ok (.new 9, 3) := by decide +kernel
theorem dX11_init_41 : decode cX11_init 41 = .ok (.dup, 1) := by decide +kernel
theorem dX11_init_42 : decode cX11_init 42 = .ok (.invokespecial 11, 3) := by decide +kernel
theorem dX11_init_45 : decode cX11_init 45 = .ok (.putfield 22, 3) := by decide +kernel
theorem dX11_init_48 : decode cX11_init 48 = .ok (.aload_n 0, 1) := by decide +kernel
theorem dX11_init_49 : decode cX11_init 49 = .ok (.iconst 4, 1) := by decide +kernel
theorem dX11_init_50 : decode cX11_init 50 = .ok (.newarray .int, 2) := by decide +kernel
theorem dX11_init_52 : decode cX11_init 52 = .ok (.putfield 25, 3) := by decide +kernel
theorem dX11_init_55 : decode cX11_init 55 = .ok (.aload_n 0, 1) := by decide +kernel
theorem dX11_init_56 : decode cX11_init 56 = .ok (.new 29, 3) := by decide +kernel
theorem dX11_init_59 : decode cX11_init 59 = .ok (.dup, 1) := by decide +kernel
theorem dX11_init_60 : decode cX11_init 60 = .ok (.iconst 0, 1) := by decide +kernel
theorem dX11_init_61 : decode cX11_init 61 = .ok (.invokespecial 31, 3) := by decide +kernel
theorem dX11_init_64 : decode cX11_init 64 = .ok (.putfield 34, 3) := by decide +kernel
theorem dX11_init_67 : decode cX11_init 67 = .ok (.aload_n 0, 1) := by decide +kernel
theorem dX11_init_68 : decode cX11_init 68 = .ok (.new 38, 3) := by decide +kernel
theorem dX11_init_71 : decode cX11_init 71 = .ok (.dup, 1) := by decide +kernel
theorem dX11_init_72 : decode cX11_init 72 = .ok (.invokespecial 40, 3) := by decide +kernel
theorem dX11_init_75 : decode cX11_init 75 = .ok (.putfield 41, 3) := by decide +kernel
theorem dX11_init_78 : decode cX11_init 78 = .ok (.aload_n 0, 1) := by decide +kernel
theorem dX11_init_79 : decode cX11_init 79 = .ok (.new 45, 3) := by decide +kernel
theorem dX11_init_82 : decode cX11_init 82 = .ok (.dup, 1) := by decide +kernel
theorem dX11_init_83 : decode cX11_init 83 = .ok (.invokespecial 47, 3) := by decide +kernel
theorem dX11_init_86 : decode cX11_init 86 = .ok (.putfield 48, 3) := by decide +kernel
theorem dX11_init_89 : decode cX11_init 89 = .ok (.aload_n 0, 1) := by decide +kernel
theorem dX11_init_90 : decode cX11_init 90 = .ok (.bipush 20, 2) := by decide +kernel
theorem dX11_init_92 : decode cX11_init 92 = .ok (.newarray .boolean, 2) := by decide +kernel
theorem dX11_init_94 : decode cX11_init 94 = .ok (.putfield 52, 3) := by decide +kernel
theorem dX11_init_97 : decode cX11_init 97 = .ok (.aload_n 0, 1) := by decide +kernel
theorem dX11_init_98 : decode cX11_init 98 = .ok (.bipush 6, 2) := by decide +kernel
theorem dX11_init_100 : decode cX11_init 100 = .ok (.newarray .int, 2) := by decide +kernel
theorem dX11_init_102 : decode cX11_init 102 = .ok (.putfield 56, 3) := by decide +kernel
theorem dX11_init_105 : decode cX11_init 105 = .ok (.return_, 1) := by decide +kernel
theorem dX11_addCourse_0 : decode cX11_addCourse 0 = .ok (.iload_n 1, 1) := by decide +kernel
theorem dX11_addCourse_1 : decode cX11_addCourse 1 = .ok (.iconst 1, 1) := by decide +kernel
theorem dX11_addCourse_2 : decode cX11_addCourse 2 = .ok (.bipush 6, 2) := by decide +kernel
theorem dX11_addCourse_4 : decode cX11_addCourse 4 = .ok (.invokestatic 59, 3) := by decide +kernel
theorem dX11_addCourse_7 : decode cX11_addCourse 7 = .ok (.ifCond .eq 13, 3) := by decide +kernel
theorem dX11_addCourse_10 : decode cX11_addCourse 10 = .ok (.iload_n 2, 1) := by decide +kernel
theorem dX11_addCourse_11 : decode cX11_addCourse 11 = .ok (.iconst 1, 1) := by decide +kernel
theorem dX11_addCourse_12 : decode cX11_addCourse 12 = .ok (.bipush 12, 2) := by decide +kernel
theorem dX11_addCourse_14 : decode cX11_addCourse 14 = .ok (.invokestatic 59, 3) := by decide +kernel
theorem dX11_addCourse_17 : decode cX11_addCourse 17 = .ok (.ifCond .ne 13, 3) := by decide +kernel
theorem dX11_addCourse_20 : decode cX11_addCourse 20 = .ok (.new 63, 3) := by decide +kernel
theorem dX11_addCourse_23 : decode cX11_addCourse 23 = .ok (.dup, 1) := by decide +kernel
theorem dX11_addCourse_24 : decode cX11_addCourse 24 = .ok (.ldc 65, 2) := by decide +kernel
theorem dX11_addCourse_26 : decode cX11_addCourse 26 = .ok (.invokespecial 67, 3) := by decide +kernel
theorem dX11_addCourse_29 : decode cX11_addCourse 29 = .ok (.athrow, 1) := by decide +kernel
theorem dX11_addCourse_30 : decode cX11_addCourse 30 = .ok (.aload_n 0, 1) := by decide +kernel
theorem dX11_addCourse_31 : decode cX11_addCourse 31 = .ok (.getfield 12, 3) := by decide +kernel
theorem dX11_addCourse_34 : decode cX11_addCourse 34 = .ok (.invokevirtual 70, 3) := by decide +kernel
theorem dX11_addCourse_37 : decode cX11_addCourse 37 = .ok (.bipush 20, 2) := by decide +kernel
theorem dX11_addCourse_39 : decode cX11_addCourse 39 = .ok (.if_icmp .lt 13, 3) := by decide +kernel
theorem dX11_addCourse_42 : decode cX11_addCourse 42 = .ok (.new 74, 3) := by decide +kernel
theorem dX11_addCourse_45 : decode cX11_addCourse 45 = .ok (.dup, 1) := by decide +kernel
theorem dX11_addCourse_46 : decode cX11_addCourse 46 = .ok (.ldc 76, 2) := by decide +kernel
theorem dX11_addCourse_48 : decode cX11_addCourse 48 = .ok (.invokespecial 78, 3) := by decide +kernel
theorem dX11_addCourse_51 : decode cX11_addCourse 51 = .ok (.athrow, 1) := by decide +kernel
theorem dX11_addCourse_52 : decode cX11_addCourse 52 = .ok (.aload_n 0, 1) := by decide +kernel
theorem dX11_addCourse_53 : decode cX11_addCourse 53 = .ok (.getfield 12, 3) := by decide +kernel
theorem dX11_addCourse_56 : decode cX11_addCourse 56 = .ok (.new 79, 3) := by decide +kernel
theorem dX11_addCourse_59 : decode cX11_addCourse 59 = .ok (.dup, 1) := by decide +kernel
theorem dX11_addCourse_60 : decode cX11_addCourse 60 = .ok (.aload_n 0, 1) := by decide +kernel
theorem dX11_addCourse_61 : decode cX11_addCourse 61 = .ok (.getfield 12, 3) := by decide +kernel
theorem dX11_addCourse_64 : decode cX11_addCourse 64 = .ok (.invokevirtual 70, 3) := by decide +kernel
theorem dX11_addCourse_67 : decode cX11_addCourse 67 = .ok (.iload_n 1, 1) := by decide +kernel
theorem dX11_addCourse_68 : decode cX11_addCourse 68 = .ok (.iload_n 2, 1) := by decide +kernel
theorem dX11_addCourse_69 : decode cX11_addCourse 69 = .ok (.invokespecial 81, 3) := by decide +kernel
theorem dX11_addCourse_72 : decode cX11_addCourse 72 = .ok (.invokevirtual 84, 3) := by decide +kernel
theorem dX11_addCourse_75 : decode cX11_addCourse 75 = .ok (.pop, 1) := by decide +kernel
theorem dX11_addCourse_76 : decode cX11_addCourse 76 = .ok (.aload_n 0, 1) := by decide +kernel
theorem dX11_addCourse_77 : decode cX11_addCourse 77 = .ok (.getfield 12, 3) := by decide +kernel
theorem dX11_addCourse_80 : decode cX11_addCourse 80 = .ok (.invokevirtual 70, 3) := by decide +kernel
theorem dX11_addCourse_83 : decode cX11_addCourse 83 = .ok (.iconst 1, 1) := by decide +kernel
theorem dX11_addCourse_84 : decode cX11_addCourse 84 = .ok (.isub, 1) := by decide +kernel
theorem dX11_addCourse_85 : decode cX11_addCourse 85 = .ok (.ireturn, 1) := by decide +kernel
theorem dX11_addStudent_0 : decode cX11_addStudent 0 = .ok (.iload_n 1, 1) := by decide +kernel
theorem dX11_addStudent_1 : decode cX11_addStudent 1 = .ok (.invokestatic 88, 3) := by decide +kernel
theorem dX11_addStudent_4 : decode cX11_addStudent 4 = .ok (.aload_n 0, 1) := by decide +kernel
theorem dX11_addStudent_5 : decode cX11_addStudent 5 = .ok (.getfield 16, 3) := by decide +kernel
theorem dX11_addStudent_8 : decode cX11_addStudent 8 = .ok (.invokevirtual 70, 3) := by decide +kernel
theorem dX11_addStudent_11 : decode cX11_addStudent 11 = .ok (.bipush 16, 2) := by decide +kernel
theorem dX11_addStudent_13 : decode cX11_addStudent 13 = .ok (.if_icmp .lt 13, 3) := by decide +kernel
theorem dX11_addStudent_16 : decode cX11_addStudent 16 = .ok (.new 74, 3) := by decide +kernel
theorem dX11_addStudent_19 : decode cX11_addStudent 19 = .ok (.dup, 1) := by decide +kernel
theorem dX11_addStudent_20 : decode cX11_addStudent 20 = .ok (.ldc 91, 2) := by decide +kernel
theorem dX11_addStudent_22 : decode cX11_addStudent 22 = .ok (.invokespecial 78, 3) := by decide +kernel
theorem dX11_addStudent_25 : decode cX11_addStudent 25 = .ok (.athrow, 1) := by decide +kernel
theorem dX11_addStudent_26 : decode cX11_addStudent 26 = .ok (.aload_n 0, 1) := by decide +kernel
theorem dX11_addStudent_27 : decode cX11_addStudent 27 = .ok (.getfield 16, 3) := by decide +kernel
theorem dX11_addStudent_30 : decode cX11_addStudent 30 = .ok (.new 29, 3) := by decide +kernel
theorem dX11_addStudent_33 : decode cX11_addStudent 33 = .ok (.dup, 1) := by decide +kernel
theorem dX11_addStudent_34 : decode cX11_addStudent 34 = .ok (.iload_n 1, 1) := by decide +kernel
theorem dX11_addStudent_35 : decode cX11_addStudent 35 = .ok (.invokespecial 31, 3) := by decide +kernel
theorem dX11_addStudent_38 : decode cX11_addStudent 38 = .ok (.invokevirtual 84, 3) := by decide +kernel
theorem dX11_addStudent_41 : decode cX11_addStudent 41 = .ok (.pop, 1) := by decide +kernel
theorem dX11_addStudent_42 : decode cX11_addStudent 42 = .ok (.aload_n 0, 1) := by decide +kernel
theorem dX11_addStudent_43 : decode cX11_addStudent 43 = .ok (.getfield 16, 3) := by decide +kernel
theorem dX11_addStudent_46 : decode cX11_addStudent 46 = .ok (.invokevirtual 70, 3) := by decide +kernel
theorem dX11_addStudent_49 : decode cX11_addStudent 49 = .ok (.iconst 1, 1) := by decide +kernel
theorem dX11_addStudent_50 : decode cX11_addStudent 50 = .ok (.isub, 1) := by decide +kernel
theorem dX11_addStudent_51 : decode cX11_addStudent 51 = .ok (.ireturn, 1) := by decide +kernel
theorem dX11_changeMajor_0 : decode cX11_changeMajor 0 = .ok (.aload_n 0, 1) := by decide +kernel
theorem dX11_changeMajor_1 : decode cX11_changeMajor 1 = .ok (.iload_n 1, 1) := by decide +kernel
theorem dX11_changeMajor_2 : decode cX11_changeMajor 2 = .ok (.invokevirtual 93, 3) := by decide +kernel
theorem dX11_changeMajor_5 : decode cX11_changeMajor 5 = .ok (.astore_n 3, 1) := by decide +kernel
theorem dX11_changeMajor_6 : decode cX11_changeMajor 6 = .ok (.iload_n 2, 1) := by decide +kernel
theorem dX11_changeMajor_7 : decode cX11_changeMajor 7 = .ok (.invokestatic 88, 3) := by decide +kernel
theorem dX11_changeMajor_10 : decode cX11_changeMajor 10 = .ok (.aload_n 3, 1) := by decide +kernel
theorem dX11_changeMajor_11 : decode cX11_changeMajor 11 = .ok (.getfield 97, 3) := by decide +kernel
theorem dX11_changeMajor_14 : decode cX11_changeMajor 14 = .ok (.istore 4, 2) := by decide +kernel
theorem dX11_changeMajor_16 : decode cX11_changeMajor 16 = .ok (.aload_n 3, 1) := by decide +kernel
theorem dX11_changeMajor_17 : decode cX11_changeMajor 17 = .ok (.iload_n 2, 1) := by decide +kernel
theorem dX11_changeMajor_18 : decode cX11_changeMajor 18 = .ok (.putfield 97, 3) := by decide +kernel
theorem dX11_changeMajor_21 : decode cX11_changeMajor 21 = .ok (.aload_n 0, 1) := by decide +kernel
theorem dX11_changeMajor_22 : decode cX11_changeMajor 22 = .ok (.invokevirtual 101, 3) := by decide +kernel
theorem dX11_changeMajor_25 : decode cX11_changeMajor 25 = .ok (.iload 4, 2) := by decide +kernel
theorem dX11_changeMajor_27 : decode cX11_changeMajor 27 = .ok (.ireturn, 1) := by decide +kernel
theorem dX11_reserve_0 : decode cX11_reserve 0 = .ok (.aload_n 0, 1) := by decide +kernel
theorem dX11_reserve_1 : decode cX11_reserve 1 = .ok (.iload_n 1, 1) := by decide +kernel
theorem dX11_reserve_2 : decode cX11_reserve 2 = .ok (.invokevirtual 104, 3) := by decide +kernel
theorem dX11_reserve_5 : decode cX11_reserve 5 = .ok (.astore 4, 2) := by decide +kernel
theorem dX11_reserve_7 : decode cX11_reserve 7 = .ok (.iload_n 2, 1) := by decide +kernel
theorem dX11_reserve_8 : decode cX11_reserve 8 = .ok (.invokestatic 88, 3) := by decide +kernel
theorem dX11_reserve_11 : decode cX11_reserve 11 = .ok (.iload_n 3, 1) := by decide +kernel
theorem dX11_reserve_12 : decode cX11_reserve 12 = .ok (.ifCond .ge 13, 3) := by decide +kernel
theorem dX11_reserve_15 : decode cX11_reserve 15 = .ok (.new 63, 3) := by decide +kernel
theorem dX11_reserve_18 : decode cX11_reserve 18 = .ok (.dup, 1) := by decide +kernel
theorem dX11_reserve_19 : decode cX11_reserve 19 = .ok (.ldc 108, 2) := by decide +kernel
theorem dX11_reserve_21 : decode cX11_reserve 21 = .ok (.invokespecial 67, 3) := by decide +kernel
theorem dX11_reserve_24 : decode cX11_reserve 24 = .ok (.athrow, 1) := by decide +kernel
theorem dX11_reserve_25 : decode cX11_reserve 25 = .ok (.aload 4, 2) := by decide +kernel
theorem dX11_reserve_27 : decode cX11_reserve 27 = .ok (.getfield 110, 3) := by decide +kernel
theorem dX11_reserve_30 : decode cX11_reserve 30 = .ok (.iload_n 2, 1) := by decide +kernel
theorem dX11_reserve_31 : decode cX11_reserve 31 = .ok (.iaload, 1) := by decide +kernel
theorem dX11_reserve_32 : decode cX11_reserve 32 = .ok (.istore 5, 2) := by decide +kernel
theorem dX11_reserve_34 : decode cX11_reserve 34 = .ok (.iload_n 3, 1) := by decide +kernel
theorem dX11_reserve_35 : decode cX11_reserve 35 = .ok (.aload 4, 2) := by decide +kernel
theorem dX11_reserve_37 : decode cX11_reserve 37 = .ok (.getfield 113, 3) := by decide +kernel
theorem dX11_reserve_40 : decode cX11_reserve 40 = .ok (.aload 4, 2) := by decide +kernel
theorem dX11_reserve_42 : decode cX11_reserve 42 = .ok (.invokevirtual 116, 3) := by decide +kernel
theorem dX11_reserve_45 : decode cX11_reserve 45 = .ok (.iload 5, 2) := by decide +kernel
theorem dX11_reserve_47 : decode cX11_reserve 47 = .ok (.isub, 1) := by decide +kernel
theorem dX11_reserve_48 : decode cX11_reserve 48 = .ok (.isub, 1) := by decide +kernel
theorem dX11_reserve_49 : decode cX11_reserve 49 = .ok (.if_icmp .le 13, 3) := by decide +kernel
theorem dX11_reserve_52 : decode cX11_reserve 52 = .ok (.new 74, 3) := by decide +kernel
theorem dX11_reserve_55 : decode cX11_reserve 55 = .ok (.dup, 1) := by decide +kernel
theorem dX11_reserve_56 : decode cX11_reserve 56 = .ok (.ldc 119, 2) := by decide +kernel
theorem dX11_reserve_58 : decode cX11_reserve 58 = .ok (.invokespecial 78, 3) := by decide +kernel
theorem dX11_reserve_61 : decode cX11_reserve 61 = .ok (.athrow, 1) := by decide +kernel
theorem dX11_reserve_62 : decode cX11_reserve 62 = .ok (.aload 4, 2) := by decide +kernel
theorem dX11_reserve_64 : decode cX11_reserve 64 = .ok (.getfield 110, 3) := by decide +kernel
theorem dX11_reserve_67 : decode cX11_reserve 67 = .ok (.iload_n 2, 1) := by decide +kernel
theorem dX11_reserve_68 : decode cX11_reserve 68 = .ok (.iload_n 3, 1) := by decide +kernel
theorem dX11_reserve_69 : decode cX11_reserve 69 = .ok (.iastore, 1) := by decide +kernel
theorem dX11_reserve_70 : decode cX11_reserve 70 = .ok (.aload_n 0, 1) := by decide +kernel
theorem dX11_reserve_71 : decode cX11_reserve 71 = .ok (.invokevirtual 101, 3) := by decide +kernel
theorem dX11_reserve_74 : decode cX11_reserve 74 = .ok (.iload 5, 2) := by decide +kernel
theorem dX11_reserve_76 : decode cX11_reserve 76 = .ok (.ireturn, 1) := by decide +kernel
theorem dX11_markFormula_0 : decode cX11_markFormula 0 = .ok (.aload_n 0, 1) := by decide +kernel
theorem dX11_markFormula_1 : decode cX11_markFormula 1 = .ok (.iload_n 1, 1) := by decide +kernel
theorem dX11_markFormula_2 : decode cX11_markFormula 2 = .ok (.invokevirtual 104, 3) := by decide +kernel
theorem dX11_markFormula_5 : decode cX11_markFormula 5 = .ok (.pop, 1) := by decide +kernel
theorem dX11_markFormula_6 : decode cX11_markFormula 6 = .ok (.iload_n 2, 1) := by decide +kernel
theorem dX11_markFormula_7 : decode cX11_markFormula 7 = .ok (.invokestatic 121, 3) := by decide +kernel
theorem dX11_markFormula_10 : decode cX11_markFormula 10 = .ok (.aload_n 0, 1) := by decide +kernel
theorem dX11_markFormula_11 : decode cX11_markFormula 11 = .ok (.iconst 0, 1) := by decide +kernel
theorem dX11_markFormula_12 : decode cX11_markFormula 12 = .ok (.invokevirtual 124, 3) := by decide +kernel
theorem dX11_markFormula_15 : decode cX11_markFormula 15 = .ok (.aload_n 0, 1) := by decide +kernel
theorem dX11_markFormula_16 : decode cX11_markFormula 16 = .ok (.new 127, 3) := by decide +kernel
theorem dX11_markFormula_19 : decode cX11_markFormula 19 = .ok (.dup, 1) := by decide +kernel
theorem dX11_markFormula_20 : decode cX11_markFormula 20 = .ok (.iload_n 1, 1) := by decide +kernel
theorem dX11_markFormula_21 : decode cX11_markFormula 21 = .ok (.iload_n 2, 1) := by decide +kernel
theorem dX11_markFormula_22 : decode cX11_markFormula 22 = .ok (.invokespecial 129, 3) := by decide +kernel
theorem dX11_markFormula_25 : decode cX11_markFormula 25 = .ok (.invokevirtual 132, 3) := by decide +kernel
theorem dX11_markFormula_28 : decode cX11_markFormula 28 = .ok (.ireturn, 1) := by decide +kernel
theorem dX11_togetherFormula_0 : decode cX11_togetherFormula 0 = .ok (.aload_n 0, 1) := by decide +kernel
theorem dX11_togetherFormula_1 : decode cX11_togetherFormula 1 = .ok (.iload_n 1, 1) := by decide +kernel
theorem dX11_togetherFormula_2 : decode cX11_togetherFormula 2 = .ok (.invokevirtual 104, 3) := by decide +kernel
theorem dX11_togetherFormula_5 : decode cX11_togetherFormula 5 = .ok (.pop, 1) := by decide +kernel
theorem dX11_togetherFormula_6 : decode cX11_togetherFormula 6 = .ok (.aload_n 0, 1) := by decide +kernel
theorem dX11_togetherFormula_7 : decode cX11_togetherFormula 7 = .ok (.iconst 0, 1) := by decide +kernel
theorem dX11_togetherFormula_8 : decode cX11_togetherFormula 8 = .ok (.invokevirtual 124, 3) := by decide +kernel
theorem dX11_togetherFormula_11 : decode cX11_togetherFormula 11 = .ok (.aload_n 0, 1) := by decide +kernel
theorem dX11_togetherFormula_12 : decode cX11_togetherFormula 12 = .ok (.new 136, 3) := by decide +kernel
theorem dX11_togetherFormula_15 : decode cX11_togetherFormula 15 = .ok (.dup, 1) := by decide +kernel
theorem dX11_togetherFormula_16 : decode cX11_togetherFormula 16 = .ok (.iload_n 1, 1) := by decide +kernel
theorem dX11_togetherFormula_17 : decode cX11_togetherFormula 17 = .ok (.invokespecial 138, 3) := by decide +kernel
theorem dX11_togetherFormula_20 : decode cX11_togetherFormula 20 = .ok (.invokevirtual 132, 3) := by decide +kernel
theorem dX11_togetherFormula_23 : decode cX11_togetherFormula 23 = .ok (.ireturn, 1) := by decide +kernel
theorem dX11_creditsFormula_0 : decode cX11_creditsFormula 0 = .ok (.iload_n 1, 1) := by decide +kernel
theorem dX11_creditsFormula_1 : decode cX11_creditsFormula 1 = .ok (.iconst 0, 1) := by decide +kernel
theorem dX11_creditsFormula_2 : decode cX11_creditsFormula 2 = .ok (.bipush 120, 2) := by decide +kernel
theorem dX11_creditsFormula_4 : decode cX11_creditsFormula 4 = .ok (.invokestatic 59, 3) := by decide +kernel
theorem dX11_creditsFormula_7 : decode cX11_creditsFormula 7 = .ok (.ifCond .ne 13, 3) := by decide +kernel
theorem dX11_creditsFormula_10 : decode cX11_creditsFormula 10 = .ok (.new 63, 3) := by decide +kernel
theorem dX11_creditsFormula_13 : decode cX11_creditsFormula 13 = .ok (.dup, 1) := by decide +kernel
theorem dX11_creditsFormula_14 : decode cX11_creditsFormula 14 = .ok (.ldc 139, 2) := by decide +kernel
theorem dX11_creditsFormula_16 : decode cX11_creditsFormula 16 = .ok (.invokespecial 67, 3) := by decide +kernel
theorem dX11_creditsFormula_19 : decode cX11_creditsFormula 19 = .ok (.athrow, 1) := by decide +kernel
theorem dX11_creditsFormula_20 : decode cX11_creditsFormula 20 = .ok (.aload_n 0, 1) := by decide +kernel
theorem dX11_creditsFormula_21 : decode cX11_creditsFormula 21 = .ok (.iconst 0, 1) := by decide +kernel
theorem dX11_creditsFormula_22 : decode cX11_creditsFormula 22 = .ok (.invokevirtual 124, 3) := by decide +kernel
theorem dX11_creditsFormula_25 : decode cX11_creditsFormula 25 = .ok (.aload_n 0, 1) := by decide +kernel
theorem dX11_creditsFormula_26 : decode cX11_creditsFormula 26 = .ok (.new 141, 3) := by decide +kernel
theorem dX11_creditsFormula_29 : decode cX11_creditsFormula 29 = .ok (.dup, 1) := by decide +kernel
theorem dX11_creditsFormula_30 : decode cX11_creditsFormula 30 = .ok (.iload_n 1, 1) := by decide +kernel
theorem dX11_creditsFormula_31 : decode cX11_creditsFormula 31 = .ok (.invokespecial 143, 3) := by decide +kernel
theorem dX11_creditsFormula_34 : decode cX11_creditsFormula 34 = .ok (.invokevirtual 132, 3) := by decide +kernel
theorem dX11_creditsFormula_37 : decode cX11_creditsFormula 37 = .ok (.ireturn, 1) := by decide +kernel
theorem dX11_allFormula_0 : decode cX11_allFormula 0 = .ok (.iconst 1, 1) := by decide +kernel
theorem dX11_allFormula_1 : decode cX11_allFormula 1 = .ok (.aload_n 0, 1) := by decide +kernel
theorem dX11_allFormula_2 : decode cX11_allFormula 2 = .ok (.iload_n 1, 1) := by decide +kernel
theorem dX11_allFormula_3 : decode cX11_allFormula 3 = .ok (.invokevirtual 144, 3) := by decide +kernel
theorem dX11_allFormula_6 : decode cX11_allFormula 6 = .ok (.getfield 148, 3) := by decide +kernel
theorem dX11_allFormula_9 : decode cX11_allFormula 9 = .ok (.aload_n 0, 1) := by decide +kernel
theorem dX11_allFormula_10 : decode cX11_allFormula 10 = .ok (.iload_n 2, 1) := by decide +kernel
theorem dX11_allFormula_11 : decode cX11_allFormula 11 = .ok (.invokevirtual 144, 3) := by decide +kernel
theorem dX11_allFormula_14 : decode cX11_allFormula 14 = .ok (.getfield 148, 3) := by decide +kernel
theorem dX11_allFormula_17 : decode cX11_allFormula 17 = .ok (.invokestatic 153, 3) := by decide +kernel
theorem dX11_allFormula_20 : decode cX11_allFormula 20 = .ok (.iadd, 1) := by decide +kernel
theorem dX11_allFormula_21 : decode cX11_allFormula 21 = .ok (.istore_n 3, 1) := by decide +kernel
theorem dX11_allFormula_22 : decode cX11_allFormula 22 = .ok (.aload_n 0, 1) := by decide +kernel
theorem dX11_allFormula_23 : decode cX11_allFormula 23 = .ok (.iload_n 3, 1) := by decide +kernel
theorem dX11_allFormula_24 : decode cX11_allFormula 24 = .ok (.invokevirtual 124, 3) := by decide +kernel
theorem dX11_allFormula_27 : decode cX11_allFormula 27 = .ok (.aload_n 0, 1) := by decide +kernel
theorem dX11_allFormula_28 : decode cX11_allFormula 28 = .ok (.new 159, 3) := by decide +kernel
theorem dX11_allFormula_31 : decode cX11_allFormula 31 = .ok (.dup, 1) := by decide +kernel
theorem dX11_allFormula_32 : decode cX11_allFormula 32 = .ok (.iload_n 3, 1) := by decide +kernel
theorem dX11_allFormula_33 : decode cX11_allFormula 33 = .ok (.iconst 2, 1) := by decide +kernel
theorem dX11_allFormula_34 : decode cX11_allFormula 34 = .ok (.iload_n 1, 1) := by decide +kernel
theorem dX11_allFormula_35 : decode cX11_allFormula 35 = .ok (.iload_n 2, 1) := by decide +kernel
theorem dX11_allFormula_36 : decode cX11_allFormula 36 = .ok (.iconst (-1), 1) := by decide +kernel
theorem dX11_allFormula_37 : decode cX11_allFormula 37 = .ok (.invokespecial 161, 3) := by decide +kernel
theorem dX11_allFormula_40 : decode cX11_allFormula 40 = .ok (.invokevirtual 132, 3) := by decide +kernel
theorem dX11_allFormula_43 : decode cX11_allFormula 43 = .ok (.ireturn, 1) := by decide +kernel
theorem dX11_anyFormula_0 : decode cX11_anyFormula 0 = .ok (.iconst 1, 1) := by decide +kernel
theorem dX11_anyFormula_1 : decode cX11_anyFormula 1 = .ok (.aload_n 0, 1) := by decide +kernel
theorem dX11_anyFormula_2 : decode cX11_anyFormula 2 = .ok (.iload_n 1, 1) := by decide +kernel
theorem dX11_anyFormula_3 : decode cX11_anyFormula 3 = .ok (.invokevirtual 144, 3) := by decide +kernel
theorem dX11_anyFormula_6 : decode cX11_anyFormula 6 = .ok (.getfield 148, 3) := by decide +kernel
theorem dX11_anyFormula_9 : decode cX11_anyFormula 9 = .ok (.aload_n 0, 1) := by decide +kernel
theorem dX11_anyFormula_10 : decode cX11_anyFormula 10 = .ok (.iload_n 2, 1) := by decide +kernel
theorem dX11_anyFormula_11 : decode cX11_anyFormula 11 = .ok (.invokevirtual 144, 3) := by decide +kernel
theorem dX11_anyFormula_14 : decode cX11_anyFormula 14 = .ok (.getfield 148, 3) := by decide +kernel
theorem dX11_anyFormula_17 : decode cX11_anyFormula 17 = .ok (.invokestatic 153, 3) := by decide +kernel
theorem dX11_anyFormula_20 : decode cX11_anyFormula 20 = .ok (.iadd, 1) := by decide +kernel
theorem dX11_anyFormula_21 : decode cX11_anyFormula 21 = .ok (.istore_n 3, 1) := by decide +kernel
theorem dX11_anyFormula_22 : decode cX11_anyFormula 22 = .ok (.aload_n 0, 1) := by decide +kernel
theorem dX11_anyFormula_23 : decode cX11_anyFormula 23 = .ok (.iload_n 3, 1) := by decide +kernel
theorem dX11_anyFormula_24 : decode cX11_anyFormula 24 = .ok (.invokevirtual 124, 3) := by decide +kernel
theorem dX11_anyFormula_27 : decode cX11_anyFormula 27 = .ok (.aload_n 0, 1) := by decide +kernel
theorem dX11_anyFormula_28 : decode cX11_anyFormula 28 = .ok (.new 159, 3) := by decide +kernel
theorem dX11_anyFormula_31 : decode cX11_anyFormula 31 = .ok (.dup, 1) := by decide +kernel
theorem dX11_anyFormula_32 : decode cX11_anyFormula 32 = .ok (.iload_n 3, 1) := by decide +kernel
theorem dX11_anyFormula_33 : decode cX11_anyFormula 33 = .ok (.iconst 1, 1) := by decide +kernel
theorem dX11_anyFormula_34 : decode cX11_anyFormula 34 = .ok (.iload_n 1, 1) := by decide +kernel
theorem dX11_anyFormula_35 : decode cX11_anyFormula 35 = .ok (.iload_n 2, 1) := by decide +kernel
theorem dX11_anyFormula_36 : decode cX11_anyFormula 36 = .ok (.iconst (-1), 1) := by decide +kernel
theorem dX11_anyFormula_37 : decode cX11_anyFormula 37 = .ok (.invokespecial 161, 3) := by decide +kernel
theorem dX11_anyFormula_40 : decode cX11_anyFormula 40 = .ok (.invokevirtual 132, 3) := by decide +kernel
theorem dX11_anyFormula_43 : decode cX11_anyFormula 43 = .ok (.ireturn, 1) := by decide +kernel
theorem dX11_twoFormula_0 : decode cX11_twoFormula 0 = .ok (.aload_n 0, 1) := by decide +kernel
theorem dX11_twoFormula_1 : decode cX11_twoFormula 1 = .ok (.iload_n 1, 1) := by decide +kernel
theorem dX11_twoFormula_2 : decode cX11_twoFormula 2 = .ok (.invokevirtual 144, 3) := by decide +kernel
theorem dX11_twoFormula_5 : decode cX11_twoFormula 5 = .ok (.getfield 148, 3) := by decide +kernel
theorem dX11_twoFormula_8 : decode cX11_twoFormula 8 = .ok (.aload_n 0, 1) := by decide +kernel
theorem dX11_twoFormula_9 : decode cX11_twoFormula 9 = .ok (.iload_n 2, 1) := by decide +kernel
theorem dX11_twoFormula_10 : decode cX11_twoFormula 10 = .ok (.invokevirtual 144, 3) := by decide +kernel
theorem dX11_twoFormula_13 : decode cX11_twoFormula 13 = .ok (.getfield 148, 3) := by decide +kernel
theorem dX11_twoFormula_16 : decode cX11_twoFormula 16 = .ok (.invokestatic 153, 3) := by decide +kernel
theorem dX11_twoFormula_19 : decode cX11_twoFormula 19 = .ok (.istore 4, 2) := by decide +kernel
theorem dX11_twoFormula_21 : decode cX11_twoFormula 21 = .ok (.iconst 1, 1) := by decide +kernel
theorem dX11_twoFormula_22 : decode cX11_twoFormula 22 = .ok (.iload 4, 2) := by decide +kernel
theorem dX11_twoFormula_24 : decode cX11_twoFormula 24 = .ok (.aload_n 0, 1) := by decide +kernel
theorem dX11_twoFormula_25 : decode cX11_twoFormula 25 = .ok (.iload_n 3, 1) := by decide +kernel
theorem dX11_twoFormula_26 : decode cX11_twoFormula 26 = .ok (.invokevirtual 144, 3) := by decide +kernel
theorem dX11_twoFormula_29 : decode cX11_twoFormula 29 = .ok (.getfield 148, 3) := by decide +kernel
theorem dX11_twoFormula_32 : decode cX11_twoFormula 32 = .ok (.invokestatic 153, 3) := by decide +kernel
theorem dX11_twoFormula_35 : decode cX11_twoFormula 35 = .ok (.iadd, 1) := by decide +kernel
theorem dX11_twoFormula_36 : decode cX11_twoFormula 36 = .ok (.istore 5, 2) := by decide +kernel
theorem dX11_twoFormula_38 : decode cX11_twoFormula 38 = .ok (.aload_n 0, 1) := by decide +kernel
theorem dX11_twoFormula_39 : decode cX11_twoFormula 39 = .ok (.iload 5, 2) := by decide +kernel
theorem dX11_twoFormula_41 : decode cX11_twoFormula 41 = .ok (.invokevirtual 124, 3) := by decide +kernel
theorem dX11_twoFormula_44 : decode cX11_twoFormula 44 = .ok (.aload_n 0, 1) := by decide +kernel
theorem dX11_twoFormula_45 : decode cX11_twoFormula 45 = .ok (.new 159, 3) := by decide +kernel
theorem dX11_twoFormula_48 : decode cX11_twoFormula 48 = .ok (.dup, 1) := by decide +kernel
theorem dX11_twoFormula_49 : decode cX11_twoFormula 49 = .ok (.iload 5, 2) := by decide +kernel
theorem dX11_twoFormula_51 : decode cX11_twoFormula 51 = .ok (.iconst 2, 1) := by decide +kernel
theorem dX11_twoFormula_52 : decode cX11_twoFormula 52 = .ok (.iload_n 1, 1) := by decide +kernel
theorem dX11_twoFormula_53 : decode cX11_twoFormula 53 = .ok (.iload_n 2, 1) := by decide +kernel
theorem dX11_twoFormula_54 : decode cX11_twoFormula 54 = .ok (.iload_n 3, 1) := by decide +kernel
theorem dX11_twoFormula_55 : decode cX11_twoFormula 55 = .ok (.invokespecial 161, 3) := by decide +kernel
theorem dX11_twoFormula_58 : decode cX11_twoFormula 58 = .ok (.invokevirtual 132, 3) := by decide +kernel
theorem dX11_twoFormula_61 : decode cX11_twoFormula 61 = .ok (.ireturn, 1) := by decide +kernel
theorem dX11_noneFormula_0 : decode cX11_noneFormula 0 = .ok (.iconst 1, 1) := by decide +kernel
theorem dX11_noneFormula_1 : decode cX11_noneFormula 1 = .ok (.aload_n 0, 1) := by decide +kernel
theorem dX11_noneFormula_2 : decode cX11_noneFormula 2 = .ok (.iload_n 1, 1) := by decide +kernel
theorem dX11_noneFormula_3 : decode cX11_noneFormula 3 = .ok (.invokevirtual 144, 3) := by decide +kernel
theorem dX11_noneFormula_6 : decode cX11_noneFormula 6 = .ok (.getfield 148, 3) := by decide +kernel
theorem dX11_noneFormula_9 : decode cX11_noneFormula 9 = .ok (.iadd, 1) := by decide +kernel
theorem dX11_noneFormula_10 : decode cX11_noneFormula 10 = .ok (.istore_n 2, 1) := by decide +kernel
theorem dX11_noneFormula_11 : decode cX11_noneFormula 11 = .ok (.aload_n 0, 1) := by decide +kernel
theorem dX11_noneFormula_12 : decode cX11_noneFormula 12 = .ok (.iload_n 2, 1) := by decide +kernel
theorem dX11_noneFormula_13 : decode cX11_noneFormula 13 = .ok (.invokevirtual 124, 3) := by decide +kernel
theorem dX11_noneFormula_16 : decode cX11_noneFormula 16 = .ok (.aload_n 0, 1) := by decide +kernel
theorem dX11_noneFormula_17 : decode cX11_noneFormula 17 = .ok (.new 164, 3) := by decide +kernel
theorem dX11_noneFormula_20 : decode cX11_noneFormula 20 = .ok (.dup, 1) := by decide +kernel
theorem dX11_noneFormula_21 : decode cX11_noneFormula 21 = .ok (.iload_n 2, 1) := by decide +kernel
theorem dX11_noneFormula_22 : decode cX11_noneFormula 22 = .ok (.iload_n 1, 1) := by decide +kernel
theorem dX11_noneFormula_23 : decode cX11_noneFormula 23 = .ok (.invokespecial 166, 3) := by decide +kernel
theorem dX11_noneFormula_26 : decode cX11_noneFormula 26 = .ok (.invokevirtual 132, 3) := by decide +kernel
theorem dX11_noneFormula_29 : decode cX11_noneFormula 29 = .ok (.ireturn, 1) := by decide +kernel
theorem dX11_holds_0 : decode cX11_holds 0 = .ok (.aload_n 0, 1) := by decide +kernel
theorem dX11_holds_1 : decode cX11_holds 1 = .ok (.iload_n 1, 1) := by decide +kernel
theorem dX11_holds_2 : decode cX11_holds 2 = .ok (.invokevirtual 93, 3) := by decide +kernel
theorem dX11_holds_5 : decode cX11_holds 5 = .ok (.astore_n 3, 1) := by decide +kernel
theorem dX11_holds_6 : decode cX11_holds 6 = .ok (.aload_n 0, 1) := by decide +kernel
theorem dX11_holds_7 : decode cX11_holds 7 = .ok (.iload_n 2, 1) := by decide +kernel
theorem dX11_holds_8 : decode cX11_holds 8 = .ok (.invokevirtual 144, 3) := by decide +kernel
theorem dX11_holds_11 : decode cX11_holds 11 = .ok (.pop, 1) := by decide +kernel
theorem dX11_holds_12 : decode cX11_holds 12 = .ok (.iload_n 2, 1) := by decide +kernel
theorem dX11_holds_13 : decode cX11_holds 13 = .ok (.aload_n 0, 1) := by decide +kernel
theorem dX11_holds_14 : decode cX11_holds 14 = .ok (.aload_n 3, 1) := by decide +kernel
theorem dX11_holds_15 : decode cX11_holds 15 = .ok (.invokevirtual 167, 3) := by decide +kernel
theorem dX11_holds_18 : decode cX11_holds 18 = .ok (.invokestatic 171, 3) := by decide +kernel
theorem dX11_holds_21 : decode cX11_holds 21 = .ok (.ireturn, 1) := by decide +kernel
theorem dX11_require_0 : decode cX11_require 0 = .ok (.aload_n 0, 1) := by decide +kernel
theorem dX11_require_1 : decode cX11_require 1 = .ok (.iload_n 1, 1) := by decide +kernel
theorem dX11_require_2 : decode cX11_require 2 = .ok (.invokevirtual 104, 3) := by decide +kernel
theorem dX11_require_5 : decode cX11_require 5 = .ok (.astore_n 3, 1) := by decide +kernel
theorem dX11_require_6 : decode cX11_require 6 = .ok (.aload_n 0, 1) := by decide +kernel
theorem dX11_require_7 : decode cX11_require 7 = .ok (.iload_n 2, 1) := by decide +kernel
theorem dX11_require_8 : decode cX11_require 8 = .ok (.invokevirtual 144, 3) := by decide +kernel
theorem dX11_require_11 : decode cX11_require 11 = .ok (.pop, 1) := by decide +kernel
theorem dX11_require_12 : decode cX11_require 12 = .ok (.aload_n 3, 1) := by decide +kernel
theorem dX11_require_13 : decode cX11_require 13 = .ok (.getfield 175, 3) := by decide +kernel
theorem dX11_require_16 : decode cX11_require 16 = .ok (.iconst (-1), 1) := by decide +kernel
theorem dX11_require_17 : decode cX11_require 17 = .ok (.if_icmp .eq 7, 3) := by decide +kernel
theorem dX11_require_20 : decode cX11_require 20 = .ok (.iconst 1, 1) := by decide +kernel
theorem dX11_require_21 : decode cX11_require 21 = .ok (.goto 4, 3) := by decide +kernel
theorem dX11_require_24 : decode cX11_require 24 = .ok (.iconst 0, 1) := by decide +kernel
theorem dX11_require_25 : decode cX11_require 25 = .ok (.istore 4, 2) := by decide +kernel
theorem dX11_require_27 : decode cX11_require 27 = .ok (.aload_n 3, 1) := by decide +kernel
theorem dX11_require_28 : decode cX11_require 28 = .ok (.iload_n 2, 1) := by decide +kernel
theorem dX11_require_29 : decode cX11_require 29 = .ok (.putfield 175, 3) := by decide +kernel
theorem dX11_require_32 : decode cX11_require 32 = .ok (.aload_n 0, 1) := by decide +kernel
theorem dX11_require_33 : decode cX11_require 33 = .ok (.invokevirtual 101, 3) := by decide +kernel
theorem dX11_require_36 : decode cX11_require 36 = .ok (.iload 4, 2) := by decide +kernel
theorem dX11_require_38 : decode cX11_require 38 = .ok (.ireturn, 1) := by decide +kernel
theorem dX11_lift_0 : decode cX11_lift 0 = .ok (.aload_n 0, 1) := by decide +kernel
theorem dX11_lift_1 : decode cX11_lift 1 = .ok (.iload_n 1, 1) := by decide +kernel
theorem dX11_lift_2 : decode cX11_lift 2 = .ok (.invokevirtual 104, 3) := by decide +kernel
theorem dX11_lift_5 : decode cX11_lift 5 = .ok (.astore_n 2, 1) := by decide +kernel
theorem dX11_lift_6 : decode cX11_lift 6 = .ok (.aload_n 2, 1) := by decide +kernel
theorem dX11_lift_7 : decode cX11_lift 7 = .ok (.getfield 175, 3) := by decide +kernel
theorem dX11_lift_10 : decode cX11_lift 10 = .ok (.iconst (-1), 1) := by decide +kernel
theorem dX11_lift_11 : decode cX11_lift 11 = .ok (.if_icmp .eq 7, 3) := by decide +kernel
theorem dX11_lift_14 : decode cX11_lift 14 = .ok (.iconst 1, 1) := by decide +kernel
theorem dX11_lift_15 : decode cX11_lift 15 = .ok (.goto 4, 3) := by decide +kernel
theorem dX11_lift_18 : decode cX11_lift 18 = .ok (.iconst 0, 1) := by decide +kernel
theorem dX11_lift_19 : decode cX11_lift 19 = .ok (.istore_n 3, 1) := by decide +kernel
theorem dX11_lift_20 : decode cX11_lift 20 = .ok (.aload_n 2, 1) := by decide +kernel
theorem dX11_lift_21 : decode cX11_lift 21 = .ok (.iconst (-1), 1) := by decide +kernel
theorem dX11_lift_22 : decode cX11_lift 22 = .ok (.putfield 175, 3) := by decide +kernel
theorem dX11_lift_25 : decode cX11_lift 25 = .ok (.aload_n 0, 1) := by decide +kernel
theorem dX11_lift_26 : decode cX11_lift 26 = .ok (.invokevirtual 101, 3) := by decide +kernel
theorem dX11_lift_29 : decode cX11_lift 29 = .ok (.iload_n 3, 1) := by decide +kernel
theorem dX11_lift_30 : decode cX11_lift 30 = .ok (.ireturn, 1) := by decide +kernel
theorem dX11_pass_0 : decode cX11_pass 0 = .ok (.iload_n 1, 1) := by decide +kernel
theorem dX11_pass_1 : decode cX11_pass 1 = .ok (.iconst 1, 1) := by decide +kernel
theorem dX11_pass_2 : decode cX11_pass 2 = .ok (.if_icmp .ge 13, 3) := by decide +kernel
theorem dX11_pass_5 : decode cX11_pass 5 = .ok (.new 63, 3) := by decide +kernel
theorem dX11_pass_8 : decode cX11_pass 8 = .ok (.dup, 1) := by decide +kernel
theorem dX11_pass_9 : decode cX11_pass 9 = .ok (.ldc 178, 2) := by decide +kernel
theorem dX11_pass_11 : decode cX11_pass 11 = .ok (.invokespecial 67, 3) := by decide +kernel
theorem dX11_pass_14 : decode cX11_pass 14 = .ok (.athrow, 1) := by decide +kernel
theorem dX11_pass_15 : decode cX11_pass 15 = .ok (.iload_n 1, 1) := by decide +kernel
theorem dX11_pass_16 : decode cX11_pass 16 = .ok (.bipush 30, 2) := by decide +kernel
theorem dX11_pass_18 : decode cX11_pass 18 = .ok (.aload_n 0, 1) := by decide +kernel
theorem dX11_pass_19 : decode cX11_pass 19 = .ok (.getfield 180, 3) := by decide +kernel
theorem dX11_pass_22 : decode cX11_pass 22 = .ok (.isub, 1) := by decide +kernel
theorem dX11_pass_23 : decode cX11_pass 23 = .ok (.if_icmp .le 13, 3) := by decide +kernel
theorem dX11_pass_26 : decode cX11_pass 26 = .ok (.new 74, 3) := by decide +kernel
theorem dX11_pass_29 : decode cX11_pass 29 = .ok (.dup, 1) := by decide +kernel
theorem dX11_pass_30 : decode cX11_pass 30 = .ok (.ldc 183, 2) := by decide +kernel
theorem dX11_pass_32 : decode cX11_pass 32 = .ok (.invokespecial 78, 3) := by decide +kernel
theorem dX11_pass_35 : decode cX11_pass 35 = .ok (.athrow, 1) := by decide +kernel
theorem dX11_pass_36 : decode cX11_pass 36 = .ok (.iconst 0, 1) := by decide +kernel
theorem dX11_pass_37 : decode cX11_pass 37 = .ok (.istore_n 2, 1) := by decide +kernel
theorem dX11_pass_38 : decode cX11_pass 38 = .ok (.iload_n 2, 1) := by decide +kernel
theorem dX11_pass_39 : decode cX11_pass 39 = .ok (.iload_n 1, 1) := by decide +kernel
theorem dX11_pass_40 : decode cX11_pass 40 = .ok (.if_icmp .ge 36, 3) := by decide +kernel
theorem dX11_pass_43 : decode cX11_pass 43 = .ok (.aload_n 0, 1) := by decide +kernel
theorem dX11_pass_44 : decode cX11_pass 44 = .ok (.dup, 1) := by decide +kernel
theorem dX11_pass_45 : decode cX11_pass 45 = .ok (.getfield 180, 3) := by decide +kernel
theorem dX11_pass_48 : decode cX11_pass 48 = .ok (.iconst 1, 1) := by decide +kernel
theorem dX11_pass_49 : decode cX11_pass 49 = .ok (.iadd, 1) := by decide +kernel
theorem dX11_pass_50 : decode cX11_pass 50 = .ok (.putfield 180, 3) := by decide +kernel
theorem dX11_pass_53 : decode cX11_pass 53 = .ok (.aload_n 0, 1) := by decide +kernel
theorem dX11_pass_54 : decode cX11_pass 54 = .ok (.getfield 180, 3) := by decide +kernel
theorem dX11_pass_57 : decode cX11_pass 57 = .ok (.bipush 6, 2) := by decide +kernel
theorem dX11_pass_59 : decode cX11_pass 59 = .ok (.if_icmp .ne 7, 3) := by decide +kernel
theorem dX11_pass_62 : decode cX11_pass 62 = .ok (.aload_n 0, 1) := by decide +kernel
theorem dX11_pass_63 : decode cX11_pass 63 = .ok (.invokevirtual 185, 3) := by decide +kernel
theorem dX11_pass_66 : decode cX11_pass 66 = .ok (.aload_n 0, 1) := by decide +kernel
theorem dX11_pass_67 : decode cX11_pass 67 = .ok (.invokevirtual 101, 3) := by decide +kernel
theorem dX11_pass_70 : decode cX11_pass 70 = .ok (.iinc 2 1, 3) := by decide +kernel
theorem dX11_pass_73 : decode cX11_pass 73 = .ok (.goto (-35), 3) := by decide +kernel
theorem dX11_pass_76 : decode cX11_pass 76 = .ok (.aload_n 0, 1) := by decide +kernel
theorem dX11_pass_77 : decode cX11_pass 77 = .ok (.getfield 180, 3) := by decide +kernel
theorem dX11_pass_80 : decode cX11_pass 80 = .ok (.ireturn, 1) := by decide +kernel
theorem dX11_day_0 : decode cX11_day 0 = .ok (.aload_n 0, 1) := by decide +kernel
theorem dX11_day_1 : decode cX11_day 1 = .ok (.getfield 180, 3) := by decide +kernel
theorem dX11_day_4 : decode cX11_day 4 = .ok (.ireturn, 1) := by decide +kernel
theorem dX11_enroll_0 : decode cX11_enroll 0 = .ok (.aload_n 0, 1) := by decide +kernel
theorem dX11_enroll_1 : decode cX11_enroll 1 = .ok (.iload_n 1, 1) := by decide +kernel
theorem dX11_enroll_2 : decode cX11_enroll 2 = .ok (.invokevirtual 93, 3) := by decide +kernel
theorem dX11_enroll_5 : decode cX11_enroll 5 = .ok (.astore_n 3, 1) := by decide +kernel
theorem dX11_enroll_6 : decode cX11_enroll 6 = .ok (.aload_n 0, 1) := by decide +kernel
theorem dX11_enroll_7 : decode cX11_enroll 7 = .ok (.iload_n 2, 1) := by decide +kernel
theorem dX11_enroll_8 : decode cX11_enroll 8 = .ok (.invokevirtual 104, 3) := by decide +kernel
theorem dX11_enroll_11 : decode cX11_enroll 11 = .ok (.astore 4, 2) := by decide +kernel
theorem dX11_enroll_13 : decode cX11_enroll 13 = .ok (.aload_n 0, 1) := by decide +kernel
theorem dX11_enroll_14 : decode cX11_enroll 14 = .ok (.aload_n 3, 1) := by decide +kernel
theorem dX11_enroll_15 : decode cX11_enroll 15 = .ok (.aload 4, 2) := by decide +kernel
theorem dX11_enroll_17 : decode cX11_enroll 17 = .ok (.invokevirtual 191, 3) := by decide +kernel
theorem dX11_enroll_20 : decode cX11_enroll 20 = .ok (.istore 5, 2) := by decide +kernel
theorem dX11_enroll_22 : decode cX11_enroll 22 = .ok (.iload 5, 2) := by decide +kernel
theorem dX11_enroll_24 : decode cX11_enroll 24 = .ok (.bipush 100, 2) := by decide +kernel
theorem dX11_enroll_26 : decode cX11_enroll 26 = .ok (.if_icmp .ne 13, 3) := by decide +kernel
theorem dX11_enroll_29 : decode cX11_enroll 29 = .ok (.new 74, 3) := by decide +kernel
theorem dX11_enroll_32 : decode cX11_enroll 32 = .ok (.dup, 1) := by decide +kernel
theorem dX11_enroll_33 : decode cX11_enroll 33 = .ok (.ldc 195, 2) := by decide +kernel
theorem dX11_enroll_35 : decode cX11_enroll 35 = .ok (.invokespecial 78, 3) := by decide +kernel
theorem dX11_enroll_38 : decode cX11_enroll 38 = .ok (.athrow, 1) := by decide +kernel
theorem dX11_enroll_39 : decode cX11_enroll 39 = .ok (.iload 5, 2) := by decide +kernel
theorem dX11_enroll_41 : decode cX11_enroll 41 = .ok (.bipush 105, 2) := by decide +kernel
theorem dX11_enroll_43 : decode cX11_enroll 43 = .ok (.if_icmp .ne 13, 3) := by decide +kernel
theorem dX11_enroll_46 : decode cX11_enroll 46 = .ok (.new 63, 3) := by decide +kernel
theorem dX11_enroll_49 : decode cX11_enroll 49 = .ok (.dup, 1) := by decide +kernel
theorem dX11_enroll_50 : decode cX11_enroll 50 = .ok (.ldc 197, 2) := by decide +kernel
theorem dX11_enroll_52 : decode cX11_enroll 52 = .ok (.invokespecial 67, 3) := by decide +kernel
theorem dX11_enroll_55 : decode cX11_enroll 55 = .ok (.athrow, 1) := by decide +kernel
theorem dX11_enroll_56 : decode cX11_enroll 56 = .ok (.iload 5, 2) := by decide +kernel
theorem dX11_enroll_58 : decode cX11_enroll 58 = .ok (.bipush 114, 2) := by decide +kernel
theorem dX11_enroll_60 : decode cX11_enroll 60 = .ok (.if_icmp .eq 10, 3) := by decide +kernel
theorem dX11_enroll_63 : decode cX11_enroll 63 = .ok (.iload 5, 2) := by decide +kernel
theorem dX11_enroll_65 : decode cX11_enroll 65 = .ok (.bipush 97, 2) := by decide +kernel
theorem dX11_enroll_67 : decode cX11_enroll 67 = .ok (.if_icmp .ne 13, 3) := by decide +kernel
theorem dX11_enroll_70 : decode cX11_enroll 70 = .ok (.new 199, 3) := by decide +kernel
theorem dX11_enroll_73 : decode cX11_enroll 73 = .ok (.dup, 1) := by decide +kernel
theorem dX11_enroll_74 : decode cX11_enroll 74 = .ok (.ldc 201, 2) := by decide +kernel
theorem dX11_enroll_76 : decode cX11_enroll 76 = .ok (.invokespecial 203, 3) := by decide +kernel
theorem dX11_enroll_79 : decode cX11_enroll 79 = .ok (.athrow, 1) := by decide +kernel
theorem dX11_enroll_80 : decode cX11_enroll 80 = .ok (.iload 5, 2) := by decide +kernel
theorem dX11_enroll_82 : decode cX11_enroll 82 = .ok (.bipush 99, 2) := by decide +kernel
theorem dX11_enroll_84 : decode cX11_enroll 84 = .ok (.if_icmp .ne 13, 3) := by decide +kernel
theorem dX11_enroll_87 : decode cX11_enroll 87 = .ok (.new 204, 3) := by decide +kernel
theorem dX11_enroll_90 : decode cX11_enroll 90 = .ok (.dup, 1) := by decide +kernel
theorem dX11_enroll_91 : decode cX11_enroll 91 = .ok (.ldc 206, 2) := by decide +kernel
theorem dX11_enroll_93 : decode cX11_enroll 93 = .ok (.invokespecial 208, 3) := by decide +kernel
theorem dX11_enroll_96 : decode cX11_enroll 96 = .ok (.athrow, 1) := by decide +kernel
theorem dX11_enroll_97 : decode cX11_enroll 97 = .ok (.iload 5, 2) := by decide +kernel
theorem dX11_enroll_99 : decode cX11_enroll 99 = .ok (.bipush 102, 2) := by decide +kernel
theorem dX11_enroll_101 : decode cX11_enroll 101 = .ok (.if_icmp .ne 13, 3) := by decide +kernel
theorem dX11_enroll_104 : decode cX11_enroll 104 = .ok (.new 209, 3) := by decide +kernel
theorem dX11_enroll_107 : decode cX11_enroll 107 = .ok (.dup, 1) := by decide +kernel
theorem dX11_enroll_108 : decode cX11_enroll 108 = .ok (.ldc 211, 2) := by decide +kernel
theorem dX11_enroll_110 : decode cX11_enroll 110 = .ok (.invokespecial 213, 3) := by decide +kernel
theorem dX11_enroll_113 : decode cX11_enroll 113 = .ok (.athrow, 1) := by decide +kernel
theorem dX11_enroll_114 : decode cX11_enroll 114 = .ok (.iload 5, 2) := by decide +kernel
theorem dX11_enroll_116 : decode cX11_enroll 116 = .ok (.bipush 101, 2) := by decide +kernel
theorem dX11_enroll_118 : decode cX11_enroll 118 = .ok (.if_icmp .ne 13, 3) := by decide +kernel
theorem dX11_enroll_121 : decode cX11_enroll 121 = .ok (.aload_n 3, 1) := by decide +kernel
theorem dX11_enroll_122 : decode cX11_enroll 122 = .ok (.getfield 214, 3) := by decide +kernel
theorem dX11_enroll_125 : decode cX11_enroll 125 = .ok (.iload_n 2, 1) := by decide +kernel
theorem dX11_enroll_126 : decode cX11_enroll 126 = .ok (.iconst 1, 1) := by decide +kernel
theorem dX11_enroll_127 : decode cX11_enroll 127 = .ok (.bastore, 1) := by decide +kernel
theorem dX11_enroll_128 : decode cX11_enroll 128 = .ok (.goto 13, 3) := by decide +kernel
theorem dX11_enroll_131 : decode cX11_enroll 131 = .ok (.aload 4, 2) := by decide +kernel
theorem dX11_enroll_133 : decode cX11_enroll 133 = .ok (.getfield 217, 3) := by decide +kernel
theorem dX11_enroll_136 : decode cX11_enroll 136 = .ok (.aload_n 3, 1) := by decide +kernel
theorem dX11_enroll_137 : decode cX11_enroll 137 = .ok (.invokevirtual 84, 3) := by decide +kernel
theorem dX11_enroll_140 : decode cX11_enroll 140 = .ok (.pop, 1) := by decide +kernel
theorem dX11_enroll_141 : decode cX11_enroll 141 = .ok (.aload_n 0, 1) := by decide +kernel
theorem dX11_enroll_142 : decode cX11_enroll 142 = .ok (.invokevirtual 101, 3) := by decide +kernel
theorem dX11_enroll_145 : decode cX11_enroll 145 = .ok (.iload 5, 2) := by decide +kernel
theorem dX11_enroll_147 : decode cX11_enroll 147 = .ok (.ireturn, 1) := by decide +kernel
theorem dX11_outcome_0 : decode cX11_outcome 0 = .ok (.aload_n 0, 1) := by decide +kernel
theorem dX11_outcome_1 : decode cX11_outcome 1 = .ok (.iload_n 1, 1) := by decide +kernel
theorem dX11_outcome_2 : decode cX11_outcome 2 = .ok (.invokevirtual 93, 3) := by decide +kernel
theorem dX11_outcome_5 : decode cX11_outcome 5 = .ok (.astore_n 3, 1) := by decide +kernel
theorem dX11_outcome_6 : decode cX11_outcome 6 = .ok (.aload_n 0, 1) := by decide +kernel
theorem dX11_outcome_7 : decode cX11_outcome 7 = .ok (.aload_n 3, 1) := by decide +kernel
theorem dX11_outcome_8 : decode cX11_outcome 8 = .ok (.aload_n 0, 1) := by decide +kernel
theorem dX11_outcome_9 : decode cX11_outcome 9 = .ok (.iload_n 2, 1) := by decide +kernel
theorem dX11_outcome_10 : decode cX11_outcome 10 = .ok (.invokevirtual 104, 3) := by decide +kernel
theorem dX11_outcome_13 : decode cX11_outcome 13 = .ok (.invokevirtual 191, 3) := by decide +kernel
theorem dX11_outcome_16 : decode cX11_outcome 16 = .ok (.ireturn, 1) := by decide +kernel
theorem dX11_drop_0 : decode cX11_drop 0 = .ok (.aload_n 0, 1) := by decide +kernel
theorem dX11_drop_1 : decode cX11_drop 1 = .ok (.iload_n 1, 1) := by decide +kernel
theorem dX11_drop_2 : decode cX11_drop 2 = .ok (.invokevirtual 93, 3) := by decide +kernel
theorem dX11_drop_5 : decode cX11_drop 5 = .ok (.astore_n 3, 1) := by decide +kernel
theorem dX11_drop_6 : decode cX11_drop 6 = .ok (.aload_n 0, 1) := by decide +kernel
theorem dX11_drop_7 : decode cX11_drop 7 = .ok (.iload_n 2, 1) := by decide +kernel
theorem dX11_drop_8 : decode cX11_drop 8 = .ok (.invokevirtual 104, 3) := by decide +kernel
theorem dX11_drop_11 : decode cX11_drop 11 = .ok (.astore 4, 2) := by decide +kernel
theorem dX11_drop_13 : decode cX11_drop 13 = .ok (.aload_n 3, 1) := by decide +kernel
theorem dX11_drop_14 : decode cX11_drop 14 = .ok (.getfield 214, 3) := by decide +kernel
theorem dX11_drop_17 : decode cX11_drop 17 = .ok (.iload_n 2, 1) := by decide +kernel
theorem dX11_drop_18 : decode cX11_drop 18 = .ok (.baload, 1) := by decide +kernel
theorem dX11_drop_19 : decode cX11_drop 19 = .ok (.istore 5, 2) := by decide +kernel
theorem dX11_drop_21 : decode cX11_drop 21 = .ok (.iload 5, 2) := by decide +kernel
theorem dX11_drop_23 : decode cX11_drop 23 = .ok (.ifCond .ne 23, 3) := by decide +kernel
theorem dX11_drop_26 : decode cX11_drop 26 = .ok (.aload 4, 2) := by decide +kernel
theorem dX11_drop_28 : decode cX11_drop 28 = .ok (.aload_n 3, 1) := by decide +kernel
theorem dX11_drop_29 : decode cX11_drop 29 = .ok (.invokevirtual 220, 3) := by decide +kernel
theorem dX11_drop_32 : decode cX11_drop 32 = .ok (.iconst (-1), 1) := by decide +kernel
theorem dX11_drop_33 : decode cX11_drop 33 = .ok (.if_icmp .ne 13, 3) := by decide +kernel
theorem dX11_drop_36 : decode cX11_drop 36 = .ok (.new 209, 3) := by decide +kernel
theorem dX11_drop_39 : decode cX11_drop 39 = .ok (.dup, 1) := by decide +kernel
theorem dX11_drop_40 : decode cX11_drop 40 = .ok (.ldc 224, 2) := by decide +kernel
theorem dX11_drop_42 : decode cX11_drop 42 = .ok (.invokespecial 213, 3) := by decide +kernel
theorem dX11_drop_45 : decode cX11_drop 45 = .ok (.athrow, 1) := by decide +kernel
theorem dX11_drop_46 : decode cX11_drop 46 = .ok (.aload_n 0, 1) := by decide +kernel
theorem dX11_drop_47 : decode cX11_drop 47 = .ok (.getfield 180, 3) := by decide +kernel
theorem dX11_drop_50 : decode cX11_drop 50 = .ok (.bipush 20, 2) := by decide +kernel
theorem dX11_drop_52 : decode cX11_drop 52 = .ok (.if_icmp .le 13, 3) := by decide +kernel
theorem dX11_drop_55 : decode cX11_drop 55 = .ok (.new 74, 3) := by decide +kernel
theorem dX11_drop_58 : decode cX11_drop 58 = .ok (.dup, 1) := by decide +kernel
theorem dX11_drop_59 : decode cX11_drop 59 = .ok (.ldc 226, 2) := by decide +kernel
theorem dX11_drop_61 : decode cX11_drop 61 = .ok (.invokespecial 78, 3) := by decide +kernel
theorem dX11_drop_64 : decode cX11_drop 64 = .ok (.athrow, 1) := by decide +kernel
theorem dX11_drop_65 : decode cX11_drop 65 = .ok (.iload 5, 2) := by decide +kernel
theorem dX11_drop_67 : decode cX11_drop 67 = .ok (.ifCond .eq 12, 3) := by decide +kernel
theorem dX11_drop_70 : decode cX11_drop 70 = .ok (.aload_n 0, 1) := by decide +kernel
theorem dX11_drop_71 : decode cX11_drop 71 = .ok (.aload_n 3, 1) := by decide +kernel
theorem dX11_drop_72 : decode cX11_drop 72 = .ok (.iload_n 2, 1) := by decide +kernel
theorem dX11_drop_73 : decode cX11_drop 73 = .ok (.invokevirtual 228, 3) := by decide +kernel
theorem dX11_drop_76 : decode cX11_drop 76 = .ok (.goto 9, 3) := by decide +kernel
theorem dX11_drop_79 : decode cX11_drop 79 = .ok (.aload 4, 2) := by decide +kernel
theorem dX11_drop_81 : decode cX11_drop 81 = .ok (.aload_n 3, 1) := by decide +kernel
theorem dX11_drop_82 : decode cX11_drop 82 = .ok (.invokevirtual 232, 3) := by decide +kernel
theorem dX11_drop_85 : decode cX11_drop 85 = .ok (.aload_n 0, 1) := by decide +kernel
theorem dX11_drop_86 : decode cX11_drop 86 = .ok (.invokevirtual 101, 3) := by decide +kernel
theorem dX11_drop_89 : decode cX11_drop 89 = .ok (.iload 5, 2) := by decide +kernel
theorem dX11_drop_91 : decode cX11_drop 91 = .ok (.ifCond .ne 6, 3) := by decide +kernel
theorem dX11_drop_94 : decode cX11_drop 94 = .ok (.bipush 108, 2) := by decide +kernel
theorem dX11_drop_96 : decode cX11_drop 96 = .ok (.ireturn, 1) := by decide +kernel
theorem dX11_drop_97 : decode cX11_drop 97 = .ok (.aload_n 0, 1) := by decide +kernel
theorem dX11_drop_98 : decode cX11_drop 98 = .ok (.invokevirtual 236, 3) := by decide +kernel
theorem dX11_drop_101 : decode cX11_drop 101 = .ok (.ifCond .eq 8, 3) := by decide +kernel
theorem dX11_drop_104 : decode cX11_drop 104 = .ok (.bipush 119, 2) := by decide +kernel
theorem dX11_drop_106 : decode cX11_drop 106 = .ok (.goto 5, 3) := by decide +kernel
theorem dX11_drop_109 : decode cX11_drop 109 = .ok (.bipush 100, 2) := by decide +kernel
theorem dX11_drop_111 : decode cX11_drop 111 = .ok (.ireturn, 1) := by decide +kernel
theorem dX11_mark_0 : decode cX11_mark 0 = .ok (.aload_n 0, 1) := by decide +kernel
theorem dX11_mark_1 : decode cX11_mark 1 = .ok (.iload_n 1, 1) := by decide +kernel
theorem dX11_mark_2 : decode cX11_mark 2 = .ok (.invokevirtual 93, 3) := by decide +kernel
theorem dX11_mark_5 : decode cX11_mark 5 = .ok (.astore 4, 2) := by decide +kernel
theorem dX11_mark_7 : decode cX11_mark 7 = .ok (.aload_n 0, 1) := by decide +kernel
theorem dX11_mark_8 : decode cX11_mark 8 = .ok (.iload_n 2, 1) := by decide +kernel
theorem dX11_mark_9 : decode cX11_mark 9 = .ok (.invokevirtual 104, 3) := by decide +kernel
theorem dX11_mark_12 : decode cX11_mark 12 = .ok (.pop, 1) := by decide +kernel
theorem dX11_mark_13 : decode cX11_mark 13 = .ok (.aload 4, 2) := by decide +kernel
theorem dX11_mark_15 : decode cX11_mark 15 = .ok (.getfield 214, 3) := by decide +kernel
theorem dX11_mark_18 : decode cX11_mark 18 = .ok (.iload_n 2, 1) := by decide +kernel
theorem dX11_mark_19 : decode cX11_mark 19 = .ok (.baload, 1) := by decide +kernel
theorem dX11_mark_20 : decode cX11_mark 20 = .ok (.ifCond .ne 14, 3) := by decide +kernel
theorem dX11_mark_23 : decode cX11_mark 23 = .ok (.new 209, 3) := by decide +kernel
theorem dX11_mark_26 : decode cX11_mark 26 = .ok (.dup, 1) := by decide +kernel
theorem dX11_mark_27 : decode cX11_mark 27 = .ok (.ldc_w 269, 3) := by decide +kernel
theorem dX11_mark_30 : decode cX11_mark 30 = .ok (.invokespecial 213, 3) := by decide +kernel
theorem dX11_mark_33 : decode cX11_mark 33 = .ok (.athrow, 1) := by decide +kernel
theorem dX11_mark_34 : decode cX11_mark 34 = .ok (.iload_n 3, 1) := by decide +kernel
theorem dX11_mark_35 : decode cX11_mark 35 = .ok (.invokestatic 121, 3) := by decide +kernel
theorem dX11_mark_38 : decode cX11_mark 38 = .ok (.aload_n 0, 1) := by decide +kernel
theorem dX11_mark_39 : decode cX11_mark 39 = .ok (.getfield 180, 3) := by decide +kernel
theorem dX11_mark_42 : decode cX11_mark 42 = .ok (.bipush 21, 2) := by decide +kernel
theorem dX11_mark_44 : decode cX11_mark 44 = .ok (.if_icmp .ge 14, 3) := by decide +kernel
theorem dX11_mark_47 : decode cX11_mark 47 = .ok (.new 74, 3) := by decide +kernel
theorem dX11_mark_50 : decode cX11_mark 50 = .ok (.dup, 1) := by decide +kernel
theorem dX11_mark_51 : decode cX11_mark 51 = .ok (.ldc_w 271, 3) := by decide +kernel
theorem dX11_mark_54 : decode cX11_mark 54 = .ok (.invokespecial 78, 3) := by decide +kernel
theorem dX11_mark_57 : decode cX11_mark 57 = .ok (.athrow, 1) := by decide +kernel
theorem dX11_mark_58 : decode cX11_mark 58 = .ok (.aload 4, 2) := by decide +kernel
theorem dX11_mark_60 : decode cX11_mark 60 = .ok (.getfield 273, 3) := by decide +kernel
theorem dX11_mark_63 : decode cX11_mark 63 = .ok (.iload_n 2, 1) := by decide +kernel
theorem dX11_mark_64 : decode cX11_mark 64 = .ok (.iaload, 1) := by decide +kernel
theorem dX11_mark_65 : decode cX11_mark 65 = .ok (.iconst (-1), 1) := by decide +kernel
theorem dX11_mark_66 : decode cX11_mark 66 = .ok (.if_icmp .eq 7, 3) := by decide +kernel
theorem dX11_mark_69 : decode cX11_mark 69 = .ok (.iconst 1, 1) := by decide +kernel
theorem dX11_mark_70 : decode cX11_mark 70 = .ok (.goto 4, 3) := by decide +kernel
theorem dX11_mark_73 : decode cX11_mark 73 = .ok (.iconst 0, 1) := by decide +kernel
theorem dX11_mark_74 : decode cX11_mark 74 = .ok (.istore 5, 2) := by decide +kernel
theorem dX11_mark_76 : decode cX11_mark 76 = .ok (.aload 4, 2) := by decide +kernel
theorem dX11_mark_78 : decode cX11_mark 78 = .ok (.getfield 273, 3) := by decide +kernel
theorem dX11_mark_81 : decode cX11_mark 81 = .ok (.iload_n 2, 1) := by decide +kernel
theorem dX11_mark_82 : decode cX11_mark 82 = .ok (.iload_n 3, 1) := by decide +kernel
theorem dX11_mark_83 : decode cX11_mark 83 = .ok (.iastore, 1) := by decide +kernel
theorem dX11_mark_84 : decode cX11_mark 84 = .ok (.iload 5, 2) := by decide +kernel
theorem dX11_mark_86 : decode cX11_mark 86 = .ok (.ireturn, 1) := by decide +kernel
theorem dX11_endTerm_0 : decode cX11_endTerm 0 = .ok (.aload_n 0, 1) := by decide +kernel
theorem dX11_endTerm_1 : decode cX11_endTerm 1 = .ok (.getfield 180, 3) := by decide +kernel
theorem dX11_endTerm_4 : decode cX11_endTerm 4 = .ok (.bipush 21, 2) := by decide +kernel
theorem dX11_endTerm_6 : decode cX11_endTerm 6 = .ok (.if_icmp .ge 14, 3) := by decide +kernel
theorem dX11_endTerm_9 : decode cX11_endTerm 9 = .ok (.new 74, 3) := by decide +kernel
theorem dX11_endTerm_12 : decode cX11_endTerm 12 = .ok (.dup, 1) := by decide +kernel
theorem dX11_endTerm_13 : decode cX11_endTerm 13 = .ok (.ldc_w 271, 3) := by decide +kernel
theorem dX11_endTerm_16 : decode cX11_endTerm 16 = .ok (.invokespecial 78, 3) := by decide +kernel
theorem dX11_endTerm_19 : decode cX11_endTerm 19 = .ok (.athrow, 1) := by decide +kernel
theorem dX11_endTerm_20 : decode cX11_endTerm 20 = .ok (.iconst 0, 1) := by decide +kernel
theorem dX11_endTerm_21 : decode cX11_endTerm 21 = .ok (.istore_n 1, 1) := by decide +kernel
theorem dX11_endTerm_22 : decode cX11_endTerm 22 = .ok (.iconst 0, 1) := by decide +kernel
theorem dX11_endTerm_23 : decode cX11_endTerm 23 = .ok (.istore_n 2, 1) := by decide +kernel
theorem dX11_endTerm_24 : decode cX11_endTerm 24 = .ok (.iload_n 2, 1) := by decide +kernel
theorem dX11_endTerm_25 : decode cX11_endTerm 25 = .ok (.aload_n 0, 1) := by decide +kernel
theorem dX11_endTerm_26 : decode cX11_endTerm 26 = .ok (.getfield 16, 3) := by decide +kernel
theorem dX11_endTerm_29 : decode cX11_endTerm 29 = .ok (.invokevirtual 70, 3) := by decide +kernel
theorem dX11_endTerm_32 : decode cX11_endTerm 32 = .ok (.if_icmp .ge 26, 3) := by decide +kernel
theorem dX11_endTerm_35 : decode cX11_endTerm 35 = .ok (.iload_n 1, 1) := by decide +kernel
theorem dX11_endTerm_36 : decode cX11_endTerm 36 = .ok (.aload_n 0, 1) := by decide +kernel
theorem dX11_endTerm_37 : decode cX11_endTerm 37 = .ok (.getfield 16, 3) := by decide +kernel
theorem dX11_endTerm_40 : decode cX11_endTerm 40 = .ok (.iload_n 2, 1) := by decide +kernel
theorem dX11_endTerm_41 : decode cX11_endTerm 41 = .ok (.invokevirtual 276, 3) := by decide +kernel
theorem dX11_endTerm_44 : decode cX11_endTerm 44 = .ok (.checkcast 29, 3) := by decide +kernel
theorem dX11_endTerm_47 : decode cX11_endTerm 47 = .ok (.invokevirtual 280, 3) := by decide +kernel
theorem dX11_endTerm_50 : decode cX11_endTerm 50 = .ok (.iadd, 1) := by decide +kernel
theorem dX11_endTerm_51 : decode cX11_endTerm 51 = .ok (.istore_n 1, 1) := by decide +kernel
theorem dX11_endTerm_52 : decode cX11_endTerm 52 = .ok (.iinc 2 1, 3) := by decide +kernel
theorem dX11_endTerm_55 : decode cX11_endTerm 55 = .ok (.goto (-31), 3) := by decide +kernel
theorem dX11_endTerm_58 : decode cX11_endTerm 58 = .ok (.aload_n 0, 1) := by decide +kernel
theorem dX11_endTerm_59 : decode cX11_endTerm 59 = .ok (.iconst 0, 1) := by decide +kernel
theorem dX11_endTerm_60 : decode cX11_endTerm 60 = .ok (.putfield 180, 3) := by decide +kernel
theorem dX11_endTerm_63 : decode cX11_endTerm 63 = .ok (.aload_n 0, 1) := by decide +kernel
theorem dX11_endTerm_64 : decode cX11_endTerm 64 = .ok (.dup, 1) := by decide +kernel
theorem dX11_endTerm_65 : decode cX11_endTerm 65 = .ok (.getfield 188, 3) := by decide +kernel
theorem dX11_endTerm_68 : decode cX11_endTerm 68 = .ok (.iconst 1, 1) := by decide +kernel
theorem dX11_endTerm_69 : decode cX11_endTerm 69 = .ok (.iadd, 1) := by decide +kernel
theorem dX11_endTerm_70 : decode cX11_endTerm 70 = .ok (.putfield 188, 3) := by decide +kernel
theorem dX11_endTerm_73 : decode cX11_endTerm 73 = .ok (.iload_n 1, 1) := by decide +kernel
theorem dX11_endTerm_74 : decode cX11_endTerm 74 = .ok (.ireturn, 1) := by decide +kernel
theorem dX11_moveIn_0 : decode cX11_moveIn 0 = .ok (.aload_n 0, 1) := by decide +kernel
theorem dX11_moveIn_1 : decode cX11_moveIn 1 = .ok (.iload_n 1, 1) := by decide +kernel
theorem dX11_moveIn_2 : decode cX11_moveIn 2 = .ok (.invokevirtual 93, 3) := by decide +kernel
theorem dX11_moveIn_5 : decode cX11_moveIn 5 = .ok (.astore_n 3, 1) := by decide +kernel
theorem dX11_moveIn_6 : decode cX11_moveIn 6 = .ok (.aload_n 0, 1) := by decide +kernel
theorem dX11_moveIn_7 : decode cX11_moveIn 7 = .ok (.iload_n 2, 1) := by decide +kernel
theorem dX11_moveIn_8 : decode cX11_moveIn 8 = .ok (.invokevirtual 104, 3) := by decide +kernel
theorem dX11_moveIn_11 : decode cX11_moveIn 11 = .ok (.astore 4, 2) := by decide +kernel
theorem dX11_moveIn_13 : decode cX11_moveIn 13 = .ok (.aload_n 3, 1) := by decide +kernel
theorem dX11_moveIn_14 : decode cX11_moveIn 14 = .ok (.iload_n 2, 1) := by decide +kernel
theorem dX11_moveIn_15 : decode cX11_moveIn 15 = .ok (.invokevirtual 283, 3) := by decide +kernel
theorem dX11_moveIn_18 : decode cX11_moveIn 18 = .ok (.ifCond .eq 14, 3) := by decide +kernel
theorem dX11_moveIn_21 : decode cX11_moveIn 21 = .ok (.new 63, 3) := by decide +kernel
theorem dX11_moveIn_24 : decode cX11_moveIn 24 = .ok (.dup, 1) := by decide +kernel
theorem dX11_moveIn_25 : decode cX11_moveIn 25 = .ok (.ldc_w 287, 3) := by decide +kernel
theorem dX11_moveIn_28 : decode cX11_moveIn 28 = .ok (.invokespecial 67, 3) := by decide +kernel
theorem dX11_moveIn_31 : decode cX11_moveIn 31 = .ok (.athrow, 1) := by decide +kernel
theorem dX11_moveIn_32 : decode cX11_moveIn 32 = .ok (.aload_n 0, 1) := by decide +kernel
theorem dX11_moveIn_33 : decode cX11_moveIn 33 = .ok (.aload_n 3, 1) := by decide +kernel
theorem dX11_moveIn_34 : decode cX11_moveIn 34 = .ok (.invokevirtual 289, 3) := by decide +kernel
theorem dX11_moveIn_37 : decode cX11_moveIn 37 = .ok (.aload 4, 2) := by decide +kernel
theorem dX11_moveIn_39 : decode cX11_moveIn 39 = .ok (.getfield 292, 3) := by decide +kernel
theorem dX11_moveIn_42 : decode cX11_moveIn 42 = .ok (.iadd, 1) := by decide +kernel
theorem dX11_moveIn_43 : decode cX11_moveIn 43 = .ok (.istore 5, 2) := by decide +kernel
theorem dX11_moveIn_45 : decode cX11_moveIn 45 = .ok (.iload 5, 2) := by decide +kernel
theorem dX11_moveIn_47 : decode cX11_moveIn 47 = .ok (.bipush 12, 2) := by decide +kernel
theorem dX11_moveIn_49 : decode cX11_moveIn 49 = .ok (.if_icmp .le 14, 3) := by decide +kernel
theorem dX11_moveIn_52 : decode cX11_moveIn 52 = .ok (.new 204, 3) := by decide +kernel
theorem dX11_moveIn_55 : decode cX11_moveIn 55 = .ok (.dup, 1) := by decide +kernel
theorem dX11_moveIn_56 : decode cX11_moveIn 56 = .ok (.ldc_w 295, 3) := by decide +kernel
theorem dX11_moveIn_59 : decode cX11_moveIn 59 = .ok (.invokespecial 208, 3) := by decide +kernel
theorem dX11_moveIn_62 : decode cX11_moveIn 62 = .ok (.athrow, 1) := by decide +kernel
theorem dX11_moveIn_63 : decode cX11_moveIn 63 = .ok (.aload_n 3, 1) := by decide +kernel
theorem dX11_moveIn_64 : decode cX11_moveIn 64 = .ok (.iload_n 2, 1) := by decide +kernel
theorem dX11_moveIn_65 : decode cX11_moveIn 65 = .ok (.invokevirtual 297, 3) := by decide +kernel
theorem dX11_moveIn_68 : decode cX11_moveIn 68 = .ok (.aload_n 0, 1) := by decide +kernel
theorem dX11_moveIn_69 : decode cX11_moveIn 69 = .ok (.invokevirtual 101, 3) := by decide +kernel
theorem dX11_moveIn_72 : decode cX11_moveIn 72 = .ok (.iload 5, 2) := by decide +kernel
theorem dX11_moveIn_74 : decode cX11_moveIn 74 = .ok (.ireturn, 1) := by decide +kernel
theorem dX11_bestMark_0 : decode cX11_bestMark 0 = .ok (.aload_n 0, 1) := by decide +kernel
theorem dX11_bestMark_1 : decode cX11_bestMark 1 = .ok (.iload_n 1, 1) := by decide +kernel
theorem dX11_bestMark_2 : decode cX11_bestMark 2 = .ok (.invokevirtual 93, 3) := by decide +kernel
theorem dX11_bestMark_5 : decode cX11_bestMark 5 = .ok (.astore_n 3, 1) := by decide +kernel
theorem dX11_bestMark_6 : decode cX11_bestMark 6 = .ok (.aload_n 0, 1) := by decide +kernel
theorem dX11_bestMark_7 : decode cX11_bestMark 7 = .ok (.iload_n 2, 1) := by decide +kernel
theorem dX11_bestMark_8 : decode cX11_bestMark 8 = .ok (.invokevirtual 104, 3) := by decide +kernel
theorem dX11_bestMark_11 : decode cX11_bestMark 11 = .ok (.pop, 1) := by decide +kernel
theorem dX11_bestMark_12 : decode cX11_bestMark 12 = .ok (.aload_n 3, 1) := by decide +kernel
theorem dX11_bestMark_13 : decode cX11_bestMark 13 = .ok (.getfield 300, 3) := by decide +kernel
theorem dX11_bestMark_16 : decode cX11_bestMark 16 = .ok (.iload_n 2, 1) := by decide +kernel
theorem dX11_bestMark_17 : decode cX11_bestMark 17 = .ok (.iaload, 1) := by decide +kernel
theorem dX11_bestMark_18 : decode cX11_bestMark 18 = .ok (.iconst (-1), 1) := by decide +kernel
theorem dX11_bestMark_19 : decode cX11_bestMark 19 = .ok (.if_icmp .ne 14, 3) := by decide +kernel
theorem dX11_bestMark_22 : decode cX11_bestMark 22 = .ok (.new 209, 3) := by decide +kernel
theorem dX11_bestMark_25 : decode cX11_bestMark 25 = .ok (.dup, 1) := by decide +kernel
theorem dX11_bestMark_26 : decode cX11_bestMark 26 = .ok (.ldc_w 303, 3) := by decide +kernel
theorem dX11_bestMark_29 : decode cX11_bestMark 29 = .ok (.invokespecial 213, 3) := by decide +kernel
theorem dX11_bestMark_32 : decode cX11_bestMark 32 = .ok (.athrow, 1) := by decide +kernel
theorem dX11_bestMark_33 : decode cX11_bestMark 33 = .ok (.aload_n 3, 1) := by decide +kernel
theorem dX11_bestMark_34 : decode cX11_bestMark 34 = .ok (.getfield 300, 3) := by decide +kernel
theorem dX11_bestMark_37 : decode cX11_bestMark 37 = .ok (.iload_n 2, 1) := by decide +kernel
theorem dX11_bestMark_38 : decode cX11_bestMark 38 = .ok (.iaload, 1) := by decide +kernel
theorem dX11_bestMark_39 : decode cX11_bestMark 39 = .ok (.ireturn, 1) := by decide +kernel
theorem dX11_attempts_0 : decode cX11_attempts 0 = .ok (.aload_n 0, 1) := by decide +kernel
theorem dX11_attempts_1 : decode cX11_attempts 1 = .ok (.iload_n 1, 1) := by decide +kernel
theorem dX11_attempts_2 : decode cX11_attempts 2 = .ok (.invokevirtual 93, 3) := by decide +kernel
theorem dX11_attempts_5 : decode cX11_attempts 5 = .ok (.astore_n 3, 1) := by decide +kernel
theorem dX11_attempts_6 : decode cX11_attempts 6 = .ok (.aload_n 0, 1) := by decide +kernel
theorem dX11_attempts_7 : decode cX11_attempts 7 = .ok (.iload_n 2, 1) := by decide +kernel
theorem dX11_attempts_8 : decode cX11_attempts 8 = .ok (.invokevirtual 104, 3) := by decide +kernel
theorem dX11_attempts_11 : decode cX11_attempts 11 = .ok (.pop, 1) := by decide +kernel
theorem dX11_attempts_12 : decode cX11_attempts 12 = .ok (.aload_n 3, 1) := by decide +kernel
theorem dX11_attempts_13 : decode cX11_attempts 13 = .ok (.getfield 254, 3) := by decide +kernel
theorem dX11_attempts_16 : decode cX11_attempts 16 = .ok (.iload_n 2, 1) := by decide +kernel
theorem dX11_attempts_17 : decode cX11_attempts 17 = .ok (.iaload, 1) := by decide +kernel
theorem dX11_attempts_18 : decode cX11_attempts 18 = .ok (.ireturn, 1) := by decide +kernel
theorem dX11_earnedCredits_0 : decode cX11_earnedCredits 0 = .ok (.aload_n 0, 1) := by decide +kernel
theorem dX11_earnedCredits_1 : decode cX11_earnedCredits 1 = .ok (.aload_n 0, 1) := by decide +kernel
theorem dX11_earnedCredits_2 : decode cX11_earnedCredits 2 = .ok (.iload_n 1, 1) := by decide +kernel
theorem dX11_earnedCredits_3 : decode cX11_earnedCredits 3 = .ok (.invokevirtual 93, 3) := by decide +kernel
theorem dX11_earnedCredits_6 : decode cX11_earnedCredits 6 = .ok (.invokevirtual 305, 3) := by decide +kernel
theorem dX11_earnedCredits_9 : decode cX11_earnedCredits 9 = .ok (.ireturn, 1) := by decide +kernel
theorem dX11_load_0 : decode cX11_load 0 = .ok (.aload_n 0, 1) := by decide +kernel
theorem dX11_load_1 : decode cX11_load 1 = .ok (.aload_n 0, 1) := by decide +kernel
theorem dX11_load_2 : decode cX11_load 2 = .ok (.iload_n 1, 1) := by decide +kernel
theorem dX11_load_3 : decode cX11_load 3 = .ok (.invokevirtual 93, 3) := by decide +kernel
theorem dX11_load_6 : decode cX11_load 6 = .ok (.invokevirtual 266, 3) := by decide +kernel
theorem dX11_load_9 : decode cX11_load 9 = .ok (.ireturn, 1) := by decide +kernel
theorem dX11_isEnrolled_0 : decode cX11_isEnrolled 0 = .ok (.aload_n 0, 1) := by decide +kernel
theorem dX11_isEnrolled_1 : decode cX11_isEnrolled 1 = .ok (.iload_n 1, 1) := by decide +kernel
theorem dX11_isEnrolled_2 : decode cX11_isEnrolled 2 = .ok (.invokevirtual 93, 3) := by decide +kernel
theorem dX11_isEnrolled_5 : decode cX11_isEnrolled 5 = .ok (.astore_n 3, 1) := by decide +kernel
theorem dX11_isEnrolled_6 : decode cX11_isEnrolled 6 = .ok (.aload_n 0, 1) := by decide +kernel
theorem dX11_isEnrolled_7 : decode cX11_isEnrolled 7 = .ok (.iload_n 2, 1) := by decide +kernel
theorem dX11_isEnrolled_8 : decode cX11_isEnrolled 8 = .ok (.invokevirtual 104, 3) := by decide +kernel
theorem dX11_isEnrolled_11 : decode cX11_isEnrolled 11 = .ok (.pop, 1) := by decide +kernel
theorem dX11_isEnrolled_12 : decode cX11_isEnrolled 12 = .ok (.aload_n 3, 1) := by decide +kernel
theorem dX11_isEnrolled_13 : decode cX11_isEnrolled 13 = .ok (.getfield 214, 3) := by decide +kernel
theorem dX11_isEnrolled_16 : decode cX11_isEnrolled 16 = .ok (.iload_n 2, 1) := by decide +kernel
theorem dX11_isEnrolled_17 : decode cX11_isEnrolled 17 = .ok (.baload, 1) := by decide +kernel
theorem dX11_isEnrolled_18 : decode cX11_isEnrolled 18 = .ok (.ireturn, 1) := by decide +kernel
theorem dX11_enrolled_0 : decode cX11_enrolled 0 = .ok (.aload_n 0, 1) := by decide +kernel
theorem dX11_enrolled_1 : decode cX11_enrolled 1 = .ok (.aload_n 0, 1) := by decide +kernel
theorem dX11_enrolled_2 : decode cX11_enrolled 2 = .ok (.iload_n 1, 1) := by decide +kernel
theorem dX11_enrolled_3 : decode cX11_enrolled 3 = .ok (.invokevirtual 104, 3) := by decide +kernel
theorem dX11_enrolled_6 : decode cX11_enrolled 6 = .ok (.invokevirtual 314, 3) := by decide +kernel
theorem dX11_enrolled_9 : decode cX11_enrolled 9 = .ok (.ireturn, 1) := by decide +kernel
theorem dX11_waiting_0 : decode cX11_waiting 0 = .ok (.aload_n 0, 1) := by decide +kernel
theorem dX11_waiting_1 : decode cX11_waiting 1 = .ok (.iload_n 1, 1) := by decide +kernel
theorem dX11_waiting_2 : decode cX11_waiting 2 = .ok (.invokevirtual 104, 3) := by decide +kernel
theorem dX11_waiting_5 : decode cX11_waiting 5 = .ok (.getfield 217, 3) := by decide +kernel
theorem dX11_waiting_8 : decode cX11_waiting 8 = .ok (.invokevirtual 70, 3) := by decide +kernel
theorem dX11_waiting_11 : decode cX11_waiting 11 = .ok (.ireturn, 1) := by decide +kernel
theorem dX11_placeOf_0 : decode cX11_placeOf 0 = .ok (.aload_n 0, 1) := by decide +kernel
theorem dX11_placeOf_1 : decode cX11_placeOf 1 = .ok (.iload_n 1, 1) := by decide +kernel
theorem dX11_placeOf_2 : decode cX11_placeOf 2 = .ok (.invokevirtual 93, 3) := by decide +kernel
theorem dX11_placeOf_5 : decode cX11_placeOf 5 = .ok (.astore_n 3, 1) := by decide +kernel
theorem dX11_placeOf_6 : decode cX11_placeOf 6 = .ok (.aload_n 0, 1) := by decide +kernel
theorem dX11_placeOf_7 : decode cX11_placeOf 7 = .ok (.iload_n 2, 1) := by decide +kernel
theorem dX11_placeOf_8 : decode cX11_placeOf 8 = .ok (.invokevirtual 104, 3) := by decide +kernel
theorem dX11_placeOf_11 : decode cX11_placeOf 11 = .ok (.aload_n 3, 1) := by decide +kernel
theorem dX11_placeOf_12 : decode cX11_placeOf 12 = .ok (.invokevirtual 220, 3) := by decide +kernel
theorem dX11_placeOf_15 : decode cX11_placeOf 15 = .ok (.istore 4, 2) := by decide +kernel
theorem dX11_placeOf_17 : decode cX11_placeOf 17 = .ok (.iload 4, 2) := by decide +kernel
theorem dX11_placeOf_19 : decode cX11_placeOf 19 = .ok (.iconst (-1), 1) := by decide +kernel
theorem dX11_placeOf_20 : decode cX11_placeOf 20 = .ok (.if_icmp .ne 14, 3) := by decide +kernel
theorem dX11_placeOf_23 : decode cX11_placeOf 23 = .ok (.new 209, 3) := by decide +kernel
theorem dX11_placeOf_26 : decode cX11_placeOf 26 = .ok (.dup, 1) := by decide +kernel
theorem dX11_placeOf_27 : decode cX11_placeOf 27 = .ok (.ldc_w 318, 3) := by decide +kernel
theorem dX11_placeOf_30 : decode cX11_placeOf 30 = .ok (.invokespecial 213, 3) := by decide +kernel
theorem dX11_placeOf_33 : decode cX11_placeOf 33 = .ok (.athrow, 1) := by decide +kernel
theorem dX11_placeOf_34 : decode cX11_placeOf 34 = .ok (.iload 4, 2) := by decide +kernel
theorem dX11_placeOf_36 : decode cX11_placeOf 36 = .ok (.ireturn, 1) := by decide +kernel
theorem dX11_freeSeats_0 : decode cX11_freeSeats 0 = .ok (.aload_n 0, 1) := by decide +kernel
theorem dX11_freeSeats_1 : decode cX11_freeSeats 1 = .ok (.iload_n 1, 1) := by decide +kernel
theorem dX11_freeSeats_2 : decode cX11_freeSeats 2 = .ok (.invokevirtual 104, 3) := by decide +kernel
theorem dX11_freeSeats_5 : decode cX11_freeSeats 5 = .ok (.astore_n 3, 1) := by decide +kernel
theorem dX11_freeSeats_6 : decode cX11_freeSeats 6 = .ok (.iload_n 2, 1) := by decide +kernel
theorem dX11_freeSeats_7 : decode cX11_freeSeats 7 = .ok (.invokestatic 88, 3) := by decide +kernel
theorem dX11_freeSeats_10 : decode cX11_freeSeats 10 = .ok (.aload_n 0, 1) := by decide +kernel
theorem dX11_freeSeats_11 : decode cX11_freeSeats 11 = .ok (.aload_n 3, 1) := by decide +kernel
theorem dX11_freeSeats_12 : decode cX11_freeSeats 12 = .ok (.iload_n 2, 1) := by decide +kernel
theorem dX11_freeSeats_13 : decode cX11_freeSeats 13 = .ok (.invokevirtual 257, 3) := by decide +kernel
theorem dX11_freeSeats_16 : decode cX11_freeSeats 16 = .ok (.ireturn, 1) := by decide +kernel
theorem dX11_isSound_0 : decode cX11_isSound 0 = .ok (.iconst 0, 1) := by decide +kernel
theorem dX11_isSound_1 : decode cX11_isSound 1 = .ok (.istore_n 1, 1) := by decide +kernel
theorem dX11_isSound_2 : decode cX11_isSound 2 = .ok (.iload_n 1, 1) := by decide +kernel
theorem dX11_isSound_3 : decode cX11_isSound 3 = .ok (.aload_n 0, 1) := by decide +kernel
theorem dX11_isSound_4 : decode cX11_isSound 4 = .ok (.getfield 12, 3) := by decide +kernel
theorem dX11_isSound_7 : decode cX11_isSound 7 = .ok (.invokevirtual 70, 3) := by decide +kernel
theorem dX11_isSound_10 : decode cX11_isSound 10 = .ok (.if_icmp .ge 29, 3) := by decide +kernel
theorem dX11_isSound_13 : decode cX11_isSound 13 = .ok (.aload_n 0, 1) := by decide +kernel
theorem dX11_isSound_14 : decode cX11_isSound 14 = .ok (.aload_n 0, 1) := by decide +kernel
theorem dX11_isSound_15 : decode cX11_isSound 15 = .ok (.getfield 12, 3) := by decide +kernel
theorem dX11_isSound_18 : decode cX11_isSound 18 = .ok (.iload_n 1, 1) := by decide +kernel
theorem dX11_isSound_19 : decode cX11_isSound 19 = .ok (.invokevirtual 276, 3) := by decide +kernel
theorem dX11_isSound_22 : decode cX11_isSound 22 = .ok (.checkcast 79, 3) := by decide +kernel
theorem dX11_isSound_25 : decode cX11_isSound 25 = .ok (.invokevirtual 387, 3) := by decide +kernel
theorem dX11_isSound_28 : decode cX11_isSound 28 = .ok (.ifCond .ne 5, 3) := by decide +kernel
theorem dX11_isSound_31 : decode cX11_isSound 31 = .ok (.iconst 0, 1) := by decide +kernel
theorem dX11_isSound_32 : decode cX11_isSound 32 = .ok (.ireturn, 1) := by decide +kernel
theorem dX11_isSound_33 : decode cX11_isSound 33 = .ok (.iinc 1 1, 3) := by decide +kernel
theorem dX11_isSound_36 : decode cX11_isSound 36 = .ok (.goto (-34), 3) := by decide +kernel
theorem dX11_isSound_39 : decode cX11_isSound 39 = .ok (.iconst 0, 1) := by decide +kernel
theorem dX11_isSound_40 : decode cX11_isSound 40 = .ok (.istore_n 1, 1) := by decide +kernel
theorem dX11_isSound_41 : decode cX11_isSound 41 = .ok (.iload_n 1, 1) := by decide +kernel
theorem dX11_isSound_42 : decode cX11_isSound 42 = .ok (.aload_n 0, 1) := by decide +kernel
theorem dX11_isSound_43 : decode cX11_isSound 43 = .ok (.getfield 16, 3) := by decide +kernel
theorem dX11_isSound_46 : decode cX11_isSound 46 = .ok (.invokevirtual 70, 3) := by decide +kernel
theorem dX11_isSound_49 : decode cX11_isSound 49 = .ok (.if_icmp .ge 41, 3) := by decide +kernel
theorem dX11_isSound_52 : decode cX11_isSound 52 = .ok (.aload_n 0, 1) := by decide +kernel
theorem dX11_isSound_53 : decode cX11_isSound 53 = .ok (.getfield 16, 3) := by decide +kernel
theorem dX11_isSound_56 : decode cX11_isSound 56 = .ok (.iload_n 1, 1) := by decide +kernel
theorem dX11_isSound_57 : decode cX11_isSound 57 = .ok (.invokevirtual 276, 3) := by decide +kernel
theorem dX11_isSound_60 : decode cX11_isSound 60 = .ok (.checkcast 29, 3) := by decide +kernel
theorem dX11_isSound_63 : decode cX11_isSound 63 = .ok (.astore_n 2, 1) := by decide +kernel
theorem dX11_isSound_64 : decode cX11_isSound 64 = .ok (.aload_n 0, 1) := by decide +kernel
theorem dX11_isSound_65 : decode cX11_isSound 65 = .ok (.aload_n 2, 1) := by decide +kernel
theorem dX11_isSound_66 : decode cX11_isSound 66 = .ok (.invokevirtual 266, 3) := by decide +kernel
theorem dX11_isSound_69 : decode cX11_isSound 69 = .ok (.bipush 18, 2) := by decide +kernel
theorem dX11_isSound_71 : decode cX11_isSound 71 = .ok (.if_icmp .gt 11, 3) := by decide +kernel
theorem dX11_isSound_74 : decode cX11_isSound 74 = .ok (.aload_n 0, 1) := by decide +kernel
theorem dX11_isSound_75 : decode cX11_isSound 75 = .ok (.aload_n 2, 1) := by decide +kernel
theorem dX11_isSound_76 : decode cX11_isSound 76 = .ok (.invokevirtual 391, 3) := by decide +kernel
theorem dX11_isSound_79 : decode cX11_isSound 79 = .ok (.ifCond .ne 5, 3) := by decide +kernel
theorem dX11_isSound_82 : decode cX11_isSound 82 = .ok (.iconst 0, 1) := by decide +kernel
theorem dX11_isSound_83 : decode cX11_isSound 83 = .ok (.ireturn, 1) := by decide +kernel
theorem dX11_isSound_84 : decode cX11_isSound 84 = .ok (.iinc 1 1, 3) := by decide +kernel
theorem dX11_isSound_87 : decode cX11_isSound 87 = .ok (.goto (-46), 3) := by decide +kernel
theorem dX11_isSound_90 : decode cX11_isSound 90 = .ok (.iconst 1, 1) := by decide +kernel
theorem dX11_isSound_91 : decode cX11_isSound 91 = .ok (.ireturn, 1) := by decide +kernel
theorem dX11_isWithin_0 : decode cX11_isWithin 0 = .ok (.iload_n 0, 1) := by decide +kernel
theorem dX11_isWithin_1 : decode cX11_isWithin 1 = .ok (.iload_n 1, 1) := by decide +kernel
theorem dX11_isWithin_2 : decode cX11_isWithin 2 = .ok (.if_icmp .lt 12, 3) := by decide +kernel
theorem dX11_isWithin_5 : decode cX11_isWithin 5 = .ok (.iload_n 0, 1) := by decide +kernel
theorem dX11_isWithin_6 : decode cX11_isWithin 6 = .ok (.iload_n 2, 1) := by decide +kernel
theorem dX11_isWithin_7 : decode cX11_isWithin 7 = .ok (.if_icmp .gt 7, 3) := by decide +kernel
theorem dX11_isWithin_10 : decode cX11_isWithin 10 = .ok (.iconst 1, 1) := by decide +kernel
theorem dX11_isWithin_11 : decode cX11_isWithin 11 = .ok (.goto 4, 3) := by decide +kernel
theorem dX11_isWithin_14 : decode cX11_isWithin 14 = .ok (.iconst 0, 1) := by decide +kernel
theorem dX11_isWithin_15 : decode cX11_isWithin 15 = .ok (.ireturn, 1) := by decide +kernel
theorem dX11_checkMajor_0 : decode cX11_checkMajor 0 = .ok (.iload_n 0, 1) := by decide +kernel
theorem dX11_checkMajor_1 : decode cX11_checkMajor 1 = .ok (.iconst 0, 1) := by decide +kernel
theorem dX11_checkMajor_2 : decode cX11_checkMajor 2 = .ok (.iconst 3, 1) := by decide +kernel
theorem dX11_checkMajor_3 : decode cX11_checkMajor 3 = .ok (.invokestatic 59, 3) := by decide +kernel
theorem dX11_checkMajor_6 : decode cX11_checkMajor 6 = .ok (.ifCond .ne 14, 3) := by decide +kernel
theorem dX11_checkMajor_9 : decode cX11_checkMajor 9 = .ok (.new 63, 3) := by decide +kernel
theorem dX11_checkMajor_12 : decode cX11_checkMajor 12 = .ok (.dup, 1) := by decide +kernel
theorem dX11_checkMajor_13 : decode cX11_checkMajor 13 = .ok (.ldc_w 395, 3) := by decide +kernel
theorem dX11_checkMajor_16 : decode cX11_checkMajor 16 = .ok (.invokespecial 67, 3) := by decide +kernel
theorem dX11_checkMajor_19 : decode cX11_checkMajor 19 = .ok (.athrow, 1) := by decide +kernel
theorem dX11_checkMajor_20 : decode cX11_checkMajor 20 = .ok (.return_, 1) := by decide +kernel
theorem dX11_checkMark_0 : decode cX11_checkMark 0 = .ok (.iload_n 0, 1) := by decide +kernel
theorem dX11_checkMark_1 : decode cX11_checkMark 1 = .ok (.iconst 0, 1) := by decide +kernel
theorem dX11_checkMark_2 : decode cX11_checkMark 2 = .ok (.bipush 100, 2) := by decide +kernel
theorem dX11_checkMark_4 : decode cX11_checkMark 4 = .ok (.invokestatic 59, 3) := by decide +kernel
theorem dX11_checkMark_7 : decode cX11_checkMark 7 = .ok (.ifCond .ne 14, 3) := by decide +kernel
theorem dX11_checkMark_10 : decode cX11_checkMark 10 = .ok (.new 63, 3) := by decide +kernel
theorem dX11_checkMark_13 : decode cX11_checkMark 13 = .ok (.dup, 1) := by decide +kernel
theorem dX11_checkMark_14 : decode cX11_checkMark 14 = .ok (.ldc_w 397, 3) := by decide +kernel
theorem dX11_checkMark_17 : decode cX11_checkMark 17 = .ok (.invokespecial 67, 3) := by decide +kernel
theorem dX11_checkMark_20 : decode cX11_checkMark 20 = .ok (.athrow, 1) := by decide +kernel
theorem dX11_checkMark_21 : decode cX11_checkMark 21 = .ok (.return_, 1) := by decide +kernel
theorem dX11_studentAt_0 : decode cX11_studentAt 0 = .ok (.iload_n 1, 1) := by decide +kernel
theorem dX11_studentAt_1 : decode cX11_studentAt 1 = .ok (.ifCond .lt 14, 3) := by decide +kernel
theorem dX11_studentAt_4 : decode cX11_studentAt 4 = .ok (.iload_n 1, 1) := by decide +kernel
theorem dX11_studentAt_5 : decode cX11_studentAt 5 = .ok (.aload_n 0, 1) := by decide +kernel
theorem dX11_studentAt_6 : decode cX11_studentAt 6 = .ok (.getfield 16, 3) := by decide +kernel
theorem dX11_studentAt_9 : decode cX11_studentAt 9 = .ok (.invokevirtual 70, 3) := by decide +kernel
theorem dX11_studentAt_12 : decode cX11_studentAt 12 = .ok (.if_icmp .lt 14, 3) := by decide +kernel
theorem dX11_studentAt_15 : decode cX11_studentAt 15 = .ok (.new 337, 3) := by decide +kernel
theorem dX11_studentAt_18 : decode cX11_studentAt 18 = .ok (.dup, 1) := by decide +kernel
theorem dX11_studentAt_19 : decode cX11_studentAt 19 = .ok (.ldc_w 399, 3) := by decide +kernel
theorem dX11_studentAt_22 : decode cX11_studentAt 22 = .ok (.invokespecial 341, 3) := by decide +kernel
theorem dX11_studentAt_25 : decode cX11_studentAt 25 = .ok (.athrow, 1) := by decide +kernel
theorem dX11_studentAt_26 : decode cX11_studentAt 26 = .ok (.aload_n 0, 1) := by decide +kernel
theorem dX11_studentAt_27 : decode cX11_studentAt 27 = .ok (.getfield 16, 3) := by decide +kernel
theorem dX11_studentAt_30 : decode cX11_studentAt 30 = .ok (.iload_n 1, 1) := by decide +kernel
theorem dX11_studentAt_31 : decode cX11_studentAt 31 = .ok (.invokevirtual 276, 3) := by decide +kernel
theorem dX11_studentAt_34 : decode cX11_studentAt 34 = .ok (.checkcast 29, 3) := by decide +kernel
theorem dX11_studentAt_37 : decode cX11_studentAt 37 = .ok (.areturn, 1) := by decide +kernel
theorem dX11_courseAt_0 : decode cX11_courseAt 0 = .ok (.iload_n 1, 1) := by decide +kernel
theorem dX11_courseAt_1 : decode cX11_courseAt 1 = .ok (.ifCond .lt 14, 3) := by decide +kernel
theorem dX11_courseAt_4 : decode cX11_courseAt 4 = .ok (.iload_n 1, 1) := by decide +kernel
theorem dX11_courseAt_5 : decode cX11_courseAt 5 = .ok (.aload_n 0, 1) := by decide +kernel
theorem dX11_courseAt_6 : decode cX11_courseAt 6 = .ok (.getfield 12, 3) := by decide +kernel
theorem dX11_courseAt_9 : decode cX11_courseAt 9 = .ok (.invokevirtual 70, 3) := by decide +kernel
theorem dX11_courseAt_12 : decode cX11_courseAt 12 = .ok (.if_icmp .lt 14, 3) := by decide +kernel
theorem dX11_courseAt_15 : decode cX11_courseAt 15 = .ok (.new 337, 3) := by decide +kernel
theorem dX11_courseAt_18 : decode cX11_courseAt 18 = .ok (.dup, 1) := by decide +kernel
theorem dX11_courseAt_19 : decode cX11_courseAt 19 = .ok (.ldc_w 401, 3) := by decide +kernel
theorem dX11_courseAt_22 : decode cX11_courseAt 22 = .ok (.invokespecial 341, 3) := by decide +kernel
theorem dX11_courseAt_25 : decode cX11_courseAt 25 = .ok (.athrow, 1) := by decide +kernel
theorem dX11_courseAt_26 : decode cX11_courseAt 26 = .ok (.aload_n 0, 1) := by decide +kernel
theorem dX11_courseAt_27 : decode cX11_courseAt 27 = .ok (.getfield 12, 3) := by decide +kernel
theorem dX11_courseAt_30 : decode cX11_courseAt 30 = .ok (.iload_n 1, 1) := by decide +kernel
theorem dX11_courseAt_31 : decode cX11_courseAt 31 = .ok (.invokevirtual 276, 3) := by decide +kernel
theorem dX11_courseAt_34 : decode cX11_courseAt 34 = .ok (.checkcast 79, 3) := by decide +kernel
theorem dX11_courseAt_37 : decode cX11_courseAt 37 = .ok (.areturn, 1) := by decide +kernel
theorem dX11_formulaAt_0 : decode cX11_formulaAt 0 = .ok (.iload_n 1, 1) := by decide +kernel
theorem dX11_formulaAt_1 : decode cX11_formulaAt 1 = .ok (.ifCond .lt 14, 3) := by decide +kernel
theorem dX11_formulaAt_4 : decode cX11_formulaAt 4 = .ok (.iload_n 1, 1) := by decide +kernel
theorem dX11_formulaAt_5 : decode cX11_formulaAt 5 = .ok (.aload_n 0, 1) := by decide +kernel
theorem dX11_formulaAt_6 : decode cX11_formulaAt 6 = .ok (.getfield 19, 3) := by decide +kernel
theorem dX11_formulaAt_9 : decode cX11_formulaAt 9 = .ok (.invokevirtual 70, 3) := by decide +kernel
theorem dX11_formulaAt_12 : decode cX11_formulaAt 12 = .ok (.if_icmp .lt 14, 3) := by decide +kernel
theorem dX11_formulaAt_15 : decode cX11_formulaAt 15 = .ok (.new 209, 3) := by decide +kernel
theorem dX11_formulaAt_18 : decode cX11_formulaAt 18 = .ok (.dup, 1) := by decide +kernel
theorem dX11_formulaAt_19 : decode cX11_formulaAt 19 = .ok (.ldc_w 403, 3) := by decide +kernel
theorem dX11_formulaAt_22 : decode cX11_formulaAt 22 = .ok (.invokespecial 213, 3) := by decide +kernel
theorem dX11_formulaAt_25 : decode cX11_formulaAt 25 = .ok (.athrow, 1) := by decide +kernel
theorem dX11_formulaAt_26 : decode cX11_formulaAt 26 = .ok (.aload_n 0, 1) := by decide +kernel
theorem dX11_formulaAt_27 : decode cX11_formulaAt 27 = .ok (.getfield 19, 3) := by decide +kernel
theorem dX11_formulaAt_30 : decode cX11_formulaAt 30 = .ok (.iload_n 1, 1) := by decide +kernel
theorem dX11_formulaAt_31 : decode cX11_formulaAt 31 = .ok (.invokevirtual 276, 3) := by decide +kernel
theorem dX11_formulaAt_34 : decode cX11_formulaAt 34 = .ok (.checkcast 149, 3) := by decide +kernel
theorem dX11_formulaAt_37 : decode cX11_formulaAt 37 = .ok (.areturn, 1) := by decide +kernel
theorem dX11_checkFormulaFits_0 : decode cX11_checkFormulaFits 0 = .ok (.aload_n 0, 1) := by decide +kernel
theorem dX11_checkFormulaFits_1 : decode cX11_checkFormulaFits 1 = .ok (.getfield 19, 3) := by decide +kernel
theorem dX11_checkFormulaFits_4 : decode cX11_checkFormulaFits 4 = .ok (.invokevirtual 70, 3) := by decide +kernel
theorem dX11_checkFormulaFits_7 : decode cX11_checkFormulaFits 7 = .ok (.bipush 60, 2) := by decide +kernel
theorem dX11_checkFormulaFits_9 : decode cX11_checkFormulaFits 9 = .ok (.if_icmp .ge 8, 3) := by decide +kernel
theorem dX11_checkFormulaFits_12 : decode cX11_checkFormulaFits 12 = .ok (.iload_n 1, 1) := by decide +kernel
theorem dX11_checkFormulaFits_13 : decode cX11_checkFormulaFits 13 = .ok (.iconst 5, 1) := by decide +kernel
theorem dX11_checkFormulaFits_14 : decode cX11_checkFormulaFits 14 = .ok (.if_icmp .le 14, 3) := by decide +kernel
theorem dX11_checkFormulaFits_17 : decode cX11_checkFormulaFits 17 = .ok (.new 74, 3) := by decide +kernel
theorem dX11_checkFormulaFits_20 : decode cX11_checkFormulaFits 20 = .ok (.dup, 1) := by decide +kernel
theorem dX11_checkFormulaFits_21 : decode cX11_checkFormulaFits 21 = .ok (.ldc_w 408, 3) := by decide +kernel
theorem dX11_checkFormulaFits_24 : decode cX11_checkFormulaFits 24 = .ok (.invokespecial 78, 3) := by decide +kernel
theorem dX11_checkFormulaFits_27 : decode cX11_checkFormulaFits 27 = .ok (.athrow, 1) := by decide +kernel
theorem dX11_checkFormulaFits_28 : decode cX11_checkFormulaFits 28 = .ok (.return_, 1) := by decide +kernel
theorem dX11_keep_0 : decode cX11_keep 0 = .ok (.aload_n 0, 1) := by decide +kernel
theorem dX11_keep_1 : decode cX11_keep 1 = .ok (.getfield 19, 3) := by decide +kernel
theorem dX11_keep_4 : decode cX11_keep 4 = .ok (.aload_n 1, 1) := by decide +kernel
theorem dX11_keep_5 : decode cX11_keep 5 = .ok (.invokevirtual 84, 3) := by decide +kernel
theorem dX11_keep_8 : decode cX11_keep 8 = .ok (.pop, 1) := by decide +kernel
theorem dX11_keep_9 : decode cX11_keep 9 = .ok (.aload_n 0, 1) := by decide +kernel
theorem dX11_keep_10 : decode cX11_keep 10 = .ok (.getfield 19, 3) := by decide +kernel
theorem dX11_keep_13 : decode cX11_keep 13 = .ok (.invokevirtual 70, 3) := by decide +kernel
theorem dX11_keep_16 : decode cX11_keep 16 = .ok (.iconst 1, 1) := by decide +kernel
theorem dX11_keep_17 : decode cX11_keep 17 = .ok (.isub, 1) := by decide +kernel
theorem dX11_keep_18 : decode cX11_keep 18 = .ok (.ireturn, 1) := by decide +kernel
theorem dX11_truthsFor_0 : decode cX11_truthsFor 0 = .ok (.aload_n 0, 1) := by decide +kernel
theorem dX11_truthsFor_1 : decode cX11_truthsFor 1 = .ok (.aload_n 1, 1) := by decide +kernel
theorem dX11_truthsFor_2 : decode cX11_truthsFor 2 = .ok (.invokevirtual 305, 3) := by decide +kernel
theorem dX11_truthsFor_5 : decode cX11_truthsFor 5 = .ok (.istore_n 2, 1) := by decide +kernel
theorem dX11_truthsFor_6 : decode cX11_truthsFor 6 = .ok (.lconst 0, 1) := by decide +kernel
theorem dX11_truthsFor_7 : decode cX11_truthsFor 7 = .ok (.lstore_n 3, 1) := by decide +kernel
theorem dX11_truthsFor_8 : decode cX11_truthsFor 8 = .ok (.iconst 0, 1) := by decide +kernel
theorem dX11_truthsFor_9 : decode cX11_truthsFor 9 = .ok (.istore 5, 2) := by decide +kernel
theorem dX11_truthsFor_11 : decode cX11_truthsFor 11 = .ok (.iload 5, 2) := by decide +kernel
theorem dX11_truthsFor_13 : decode cX11_truthsFor 13 = .ok (.aload_n 0, 1) := by decide +kernel
theorem dX11_truthsFor_14 : decode cX11_truthsFor 14 = .ok (.getfield 19, 3) := by decide +kernel
theorem dX11_truthsFor_17 : decode cX11_truthsFor 17 = .ok (.invokevirtual 70, 3) := by decide +kernel
theorem dX11_truthsFor_20 : decode cX11_truthsFor 20 = .ok (.if_icmp .ge 37, 3) := by decide +kernel
theorem dX11_truthsFor_23 : decode cX11_truthsFor 23 = .ok (.aload_n 0, 1) := by decide +kernel
theorem dX11_truthsFor_24 : decode cX11_truthsFor 24 = .ok (.getfield 19, 3) := by decide +kernel
theorem dX11_truthsFor_27 : decode cX11_truthsFor 27 = .ok (.iload 5, 2) := by decide +kernel
theorem dX11_truthsFor_29 : decode cX11_truthsFor 29 = .ok (.invokevirtual 276, 3) := by decide +kernel
theorem dX11_truthsFor_32 : decode cX11_truthsFor 32 = .ok (.checkcast 149, 3) := by decide +kernel
theorem dX11_truthsFor_35 : decode cX11_truthsFor 35 = .ok (.aload_n 1, 1) := by decide +kernel
theorem dX11_truthsFor_36 : decode cX11_truthsFor 36 = .ok (.iload_n 2, 1) := by decide +kernel
theorem dX11_truthsFor_37 : decode cX11_truthsFor 37 = .ok (.lload_n 3, 1) := by decide +kernel
theorem dX11_truthsFor_38 : decode cX11_truthsFor 38 = .ok (.invokevirtual 410, 3) := by decide +kernel
theorem dX11_truthsFor_41 : decode cX11_truthsFor 41 = .ok (.ifCond .eq 10, 3) := by decide +kernel
theorem dX11_truthsFor_44 : decode cX11_truthsFor 44 = .ok (.lload_n 3, 1) := by decide +kernel
theorem dX11_truthsFor_45 : decode cX11_truthsFor 45 = .ok (.lconst 1, 1) := by decide +kernel
theorem dX11_truthsFor_46 : decode cX11_truthsFor 46 = .ok (.iload 5, 2) := by decide +kernel
theorem dX11_truthsFor_48 : decode cX11_truthsFor 48 = .ok (.lshl, 1) := by decide +kernel
theorem dX11_truthsFor_49 : decode cX11_truthsFor 49 = .ok (.lor, 1) := by decide +kernel
theorem dX11_truthsFor_50 : decode cX11_truthsFor 50 = .ok (.lstore_n 3, 1) := by decide +kernel
theorem dX11_truthsFor_51 : decode cX11_truthsFor 51 = .ok (.iinc 5 1, 3) := by decide +kernel
theorem dX11_truthsFor_54 : decode cX11_truthsFor 54 = .ok (.goto (-43), 3) := by decide +kernel
theorem dX11_truthsFor_57 : decode cX11_truthsFor 57 = .ok (.lload_n 3, 1) := by decide +kernel
theorem dX11_truthsFor_58 : decode cX11_truthsFor 58 = .ok (.lreturn, 1) := by decide +kernel
theorem dX11_isMet_0 : decode cX11_isMet 0 = .ok (.iload_n 0, 1) := by decide +kernel
theorem dX11_isMet_1 : decode cX11_isMet 1 = .ok (.iconst (-1), 1) := by decide +kernel
theorem dX11_isMet_2 : decode cX11_isMet 2 = .ok (.if_icmp .eq 13, 3) := by decide +kernel
theorem dX11_isMet_5 : decode cX11_isMet 5 = .ok (.lload_n 1, 1) := by decide +kernel
theorem dX11_isMet_6 : decode cX11_isMet 6 = .ok (.iload_n 0, 1) := by decide +kernel
theorem dX11_isMet_7 : decode cX11_isMet 7 = .ok (.lushr, 1) := by decide +kernel
theorem dX11_isMet_8 : decode cX11_isMet 8 = .ok (.lconst 1, 1) := by decide +kernel
theorem dX11_isMet_9 : decode cX11_isMet 9 = .ok (.land, 1) := by decide +kernel
theorem dX11_isMet_10 : decode cX11_isMet 10 = .ok (.lconst 0, 1) := by decide +kernel
theorem dX11_isMet_11 : decode cX11_isMet 11 = .ok (.lcmp, 1) := by decide +kernel
theorem dX11_isMet_12 : decode cX11_isMet 12 = .ok (.ifCond .eq 7, 3) := by decide +kernel
theorem dX11_isMet_15 : decode cX11_isMet 15 = .ok (.iconst 1, 1) := by decide +kernel
theorem dX11_isMet_16 : decode cX11_isMet 16 = .ok (.goto 4, 3) := by decide +kernel
theorem dX11_isMet_19 : decode cX11_isMet 19 = .ok (.iconst 0, 1) := by decide +kernel
theorem dX11_isMet_20 : decode cX11_isMet 20 = .ok (.ireturn, 1) := by decide +kernel
theorem dX11_requisiteHolds_0 : decode cX11_requisiteHolds 0 = .ok (.aload_n 2, 1) := by decide +kernel
theorem dX11_requisiteHolds_1 : decode cX11_requisiteHolds 1 = .ok (.getfield 175, 3) := by decide +kernel
theorem dX11_requisiteHolds_4 : decode cX11_requisiteHolds 4 = .ok (.iconst (-1), 1) := by decide +kernel
theorem dX11_requisiteHolds_5 : decode cX11_requisiteHolds 5 = .ok (.if_icmp .eq 18, 3) := by decide +kernel
theorem dX11_requisiteHolds_8 : decode cX11_requisiteHolds 8 = .ok (.aload_n 2, 1) := by decide +kernel
theorem dX11_requisiteHolds_9 : decode cX11_requisiteHolds 9 = .ok (.getfield 175, 3) := by decide +kernel
theorem dX11_requisiteHolds_12 : decode cX11_requisiteHolds 12 = .ok (.aload_n 0, 1) := by decide +kernel
theorem dX11_requisiteHolds_13 : decode cX11_requisiteHolds 13 = .ok (.aload_n 1, 1) := by decide +kernel
theorem dX11_requisiteHolds_14 : decode cX11_requisiteHolds 14 = .ok (.invokevirtual 167, 3) := by decide +kernel
theorem dX11_requisiteHolds_17 : decode cX11_requisiteHolds 17 = .ok (.invokestatic 171, 3) := by decide +kernel
theorem dX11_requisiteHolds_20 : decode cX11_requisiteHolds 20 = .ok (.ifCond .eq 7, 3) := by decide +kernel
theorem dX11_requisiteHolds_23 : decode cX11_requisiteHolds 23 = .ok (.iconst 1, 1) := by decide +kernel
theorem dX11_requisiteHolds_24 : decode cX11_requisiteHolds 24 = .ok (.goto 4, 3) := by decide +kernel
theorem dX11_requisiteHolds_27 : decode cX11_requisiteHolds 27 = .ok (.iconst 0, 1) := by decide +kernel
theorem dX11_requisiteHolds_28 : decode cX11_requisiteHolds 28 = .ok (.ireturn, 1) := by decide +kernel
theorem dX11_creditsEarned_0 : decode cX11_creditsEarned 0 = .ok (.iconst 0, 1) := by decide +kernel
theorem dX11_creditsEarned_1 : decode cX11_creditsEarned 1 = .ok (.istore_n 2, 1) := by decide +kernel
theorem dX11_creditsEarned_2 : decode cX11_creditsEarned 2 = .ok (.iconst 0, 1) := by decide +kernel
theorem dX11_creditsEarned_3 : decode cX11_creditsEarned 3 = .ok (.istore_n 3, 1) := by decide +kernel
theorem dX11_creditsEarned_4 : decode cX11_creditsEarned 4 = .ok (.iload_n 3, 1) := by decide +kernel
theorem dX11_creditsEarned_5 : decode cX11_creditsEarned 5 = .ok (.aload_n 0, 1) := by decide +kernel
theorem dX11_creditsEarned_6 : decode cX11_creditsEarned 6 = .ok (.getfield 12, 3) := by decide +kernel
theorem dX11_creditsEarned_9 : decode cX11_creditsEarned 9 = .ok (.invokevirtual 70, 3) := by decide +kernel
theorem dX11_creditsEarned_12 : decode cX11_creditsEarned 12 = .ok (.if_icmp .ge 34, 3) := by decide +kernel
theorem dX11_creditsEarned_15 : decode cX11_creditsEarned 15 = .ok (.aload_n 1, 1) := by decide +kernel
theorem dX11_creditsEarned_16 : decode cX11_creditsEarned 16 = .ok (.iload_n 3, 1) := by decide +kernel
theorem dX11_creditsEarned_17 : decode cX11_creditsEarned 17 = .ok (.invokevirtual 283, 3) := by decide +kernel
theorem dX11_creditsEarned_20 : decode cX11_creditsEarned 20 = .ok (.ifCond .eq 20, 3) := by decide +kernel
theorem dX11_creditsEarned_23 : decode cX11_creditsEarned 23 = .ok (.iload_n 2, 1) := by decide +kernel
theorem dX11_creditsEarned_24 : decode cX11_creditsEarned 24 = .ok (.aload_n 0, 1) := by decide +kernel
theorem dX11_creditsEarned_25 : decode cX11_creditsEarned 25 = .ok (.getfield 12, 3) := by decide +kernel
theorem dX11_creditsEarned_28 : decode cX11_creditsEarned 28 = .ok (.iload_n 3, 1) := by decide +kernel
theorem dX11_creditsEarned_29 : decode cX11_creditsEarned 29 = .ok (.invokevirtual 276, 3) := by decide +kernel
theorem dX11_creditsEarned_32 : decode cX11_creditsEarned 32 = .ok (.checkcast 79, 3) := by decide +kernel
theorem dX11_creditsEarned_35 : decode cX11_creditsEarned 35 = .ok (.getfield 292, 3) := by decide +kernel
theorem dX11_creditsEarned_38 : decode cX11_creditsEarned 38 = .ok (.iadd, 1) := by decide +kernel
theorem dX11_creditsEarned_39 : decode cX11_creditsEarned 39 = .ok (.istore_n 2, 1) := by decide +kernel
theorem dX11_creditsEarned_40 : decode cX11_creditsEarned 40 = .ok (.iinc 3 1, 3) := by decide +kernel
theorem dX11_creditsEarned_43 : decode cX11_creditsEarned 43 = .ok (.goto (-39), 3) := by decide +kernel
theorem dX11_creditsEarned_46 : decode cX11_creditsEarned 46 = .ok (.iload_n 2, 1) := by decide +kernel
theorem dX11_creditsEarned_47 : decode cX11_creditsEarned 47 = .ok (.ireturn, 1) := by decide +kernel
theorem dX11_creditsMovedIn_0 : decode cX11_creditsMovedIn 0 = .ok (.iconst 0, 1) := by decide +kernel
theorem dX11_creditsMovedIn_1 : decode cX11_creditsMovedIn 1 = .ok (.istore_n 2, 1) := by decide +kernel
