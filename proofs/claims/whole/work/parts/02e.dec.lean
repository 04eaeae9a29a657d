theorem dL_transcriptLength_3 : decode cL_transcriptLength 3 = .ok (.iload_n 1, 1) := by decide +kernel
theorem dL_transcriptLength_4 : decode cL_transcriptLength 4 = .ok (.invokevirtual 142, 3) := by decide +kernel
theorem dL_transcriptLength_7 : decode cL_transcriptLength 7 = .ok (.i2l, 1) := by decide +kernel
theorem dL_transcriptLength_8 : decode cL_transcriptLength 8 = .ok (.lastore, 1) := by decide +kernel
theorem dL_transcriptLength_9 : decode cL_transcriptLength 9 = .ok (.goto 6, 3) := by decide +kernel
theorem dL_transcriptLength_12 : decode cL_transcriptLength 12 = .ok (.astore_n 3, 1) := by decide +kernel
theorem dL_transcriptLength_13 : decode cL_transcriptLength 13 = .ok (.iconst 1, 1) := by decide +kernel
theorem dL_transcriptLength_14 : decode cL_transcriptLength 14 = .ok (.ireturn, 1) := by decide +kernel
theorem dL_transcriptLength_15 : decode cL_transcriptLength 15 = .ok (.iconst 0, 1) := by decide +kernel
theorem dL_transcriptLength_16 : decode cL_transcriptLength 16 = .ok (.ireturn, 1) := by decide +kernel
theorem dL_transcriptAt_0 : decode cL_transcriptAt 0 = .ok (.aload_n 3, 1) := by decide +kernel
theorem dL_transcriptAt_1 : decode cL_transcriptAt 1 = .ok (.iconst 0, 1) := by decide +kernel
theorem dL_transcriptAt_2 : decode cL_transcriptAt 2 = .ok (.aload_n 0, 1) := by decide +kernel
theorem dL_transcriptAt_3 : decode cL_transcriptAt 3 = .ok (.iload_n 1, 1) := by decide +kernel
theorem dL_transcriptAt_4 : decode cL_transcriptAt 4 = .ok (.iload_n 2, 1) := by decide +kernel
theorem dL_transcriptAt_5 : decode cL_transcriptAt 5 = .ok (.invokevirtual 145, 3) := by decide +kernel
theorem dL_transcriptAt_8 : decode cL_transcriptAt 8 = .ok (.i2l, 1) := by decide +kernel
theorem dL_transcriptAt_9 : decode cL_transcriptAt 9 = .ok (.lastore, 1) := by decide +kernel
theorem dL_transcriptAt_10 : decode cL_transcriptAt 10 = .ok (.goto 7, 3) := by decide +kernel
theorem dL_transcriptAt_13 : decode cL_transcriptAt 13 = .ok (.astore 4, 2) := by decide +kernel
theorem dL_transcriptAt_15 : decode cL_transcriptAt 15 = .ok (.iconst 1, 1) := by decide +kernel
theorem dL_transcriptAt_16 : decode cL_transcriptAt 16 = .ok (.ireturn, 1) := by decide +kernel
theorem dL_transcriptAt_17 : decode cL_transcriptAt 17 = .ok (.iconst 0, 1) := by decide +kernel
theorem dL_transcriptAt_18 : decode cL_transcriptAt 18 = .ok (.ireturn, 1) := by decide +kernel
theorem dL_addRule_0 : decode cL_addRule 0 = .ok (.aload 4, 2) := by decide +kernel
theorem dL_addRule_2 : decode cL_addRule 2 = .ok (.iconst 0, 1) := by decide +kernel
theorem dL_addRule_3 : decode cL_addRule 3 = .ok (.aload_n 0, 1) := by decide +kernel
theorem dL_addRule_4 : decode cL_addRule 4 = .ok (.iload_n 1, 1) := by decide +kernel
theorem dL_addRule_5 : decode cL_addRule 5 = .ok (.iload_n 2, 1) := by decide +kernel
theorem dL_addRule_6 : decode cL_addRule 6 = .ok (.iload_n 3, 1) := by decide +kernel
theorem dL_addRule_7 : decode cL_addRule 7 = .ok (.invokevirtual 148, 3) := by decide +kernel
theorem dL_addRule_10 : decode cL_addRule 10 = .ok (.i2l, 1) := by decide +kernel
theorem dL_addRule_11 : decode cL_addRule 11 = .ok (.lastore, 1) := by decide +kernel
theorem dL_addRule_12 : decode cL_addRule 12 = .ok (.goto 11, 3) := by decide +kernel
theorem dL_addRule_15 : decode cL_addRule 15 = .ok (.astore 5, 2) := by decide +kernel
theorem dL_addRule_17 : decode cL_addRule 17 = .ok (.iconst 1, 1) := by decide +kernel
theorem dL_addRule_18 : decode cL_addRule 18 = .ok (.ireturn, 1) := by decide +kernel
theorem dL_addRule_19 : decode cL_addRule 19 = .ok (.astore 5, 2) := by decide +kernel
theorem dL_addRule_21 : decode cL_addRule 21 = .ok (.iconst 2, 1) := by decide +kernel
theorem dL_addRule_22 : decode cL_addRule 22 = .ok (.ireturn, 1) := by decide +kernel
theorem dL_addRule_23 : decode cL_addRule 23 = .ok (.iconst 0, 1) := by decide +kernel
theorem dL_addRule_24 : decode cL_addRule 24 = .ok (.ireturn, 1) := by decide +kernel
theorem dL_allow_0 : decode cL_allow 0 = .ok (.aload_n 3, 1) := by decide +kernel
theorem dL_allow_1 : decode cL_allow 1 = .ok (.iconst 0, 1) := by decide +kernel
theorem dL_allow_2 : decode cL_allow 2 = .ok (.aload_n 0, 1) := by decide +kernel
theorem dL_allow_3 : decode cL_allow 3 = .ok (.iload_n 1, 1) := by decide +kernel
theorem dL_allow_4 : decode cL_allow 4 = .ok (.iload_n 2, 1) := by decide +kernel
theorem dL_allow_5 : decode cL_allow 5 = .ok (.invokevirtual 151, 3) := by decide +kernel
theorem dL_allow_8 : decode cL_allow 8 = .ok (.ifCond .eq 7, 3) := by decide +kernel
theorem dL_allow_11 : decode cL_allow 11 = .ok (.lconst 1, 1) := by decide +kernel
theorem dL_allow_12 : decode cL_allow 12 = .ok (.goto 4, 3) := by decide +kernel
theorem dL_allow_15 : decode cL_allow 15 = .ok (.lconst 0, 1) := by decide +kernel
theorem dL_allow_16 : decode cL_allow 16 = .ok (.lastore, 1) := by decide +kernel
theorem dL_allow_17 : decode cL_allow 17 = .ok (.goto 11, 3) := by decide +kernel
theorem dL_allow_20 : decode cL_allow 20 = .ok (.astore 4, 2) := by decide +kernel
theorem dL_allow_22 : decode cL_allow 22 = .ok (.iconst 1, 1) := by decide +kernel
theorem dL_allow_23 : decode cL_allow 23 = .ok (.ireturn, 1) := by decide +kernel
theorem dL_allow_24 : decode cL_allow 24 = .ok (.astore 4, 2) := by decide +kernel
theorem dL_allow_26 : decode cL_allow 26 = .ok (.iconst 2, 1) := by decide +kernel
theorem dL_allow_27 : decode cL_allow 27 = .ok (.ireturn, 1) := by decide +kernel
theorem dL_allow_28 : decode cL_allow 28 = .ok (.iconst 0, 1) := by decide +kernel
theorem dL_allow_29 : decode cL_allow 29 = .ok (.ireturn, 1) := by decide +kernel
theorem dL_mostMet_0 : decode cL_mostMet 0 = .ok (.aload_n 2, 1) := by decide +kernel
theorem dL_mostMet_1 : decode cL_mostMet 1 = .ok (.iconst 0, 1) := by decide +kernel
theorem dL_mostMet_2 : decode cL_mostMet 2 = .ok (.aload_n 0, 1) := by decide +kernel
theorem dL_mostMet_3 : decode cL_mostMet 3 = .ok (.iload_n 1, 1) := by decide +kernel
theorem dL_mostMet_4 : decode cL_mostMet 4 = .ok (.invokevirtual 154, 3) := by decide +kernel
theorem dL_mostMet_7 : decode cL_mostMet 7 = .ok (.i2l, 1) := by decide +kernel
theorem dL_mostMet_8 : decode cL_mostMet 8 = .ok (.lastore, 1) := by decide +kernel
theorem dL_mostMet_9 : decode cL_mostMet 9 = .ok (.goto 6, 3) := by decide +kernel
theorem dL_mostMet_12 : decode cL_mostMet 12 = .ok (.astore_n 3, 1) := by decide +kernel
theorem dL_mostMet_13 : decode cL_mostMet 13 = .ok (.iconst 1, 1) := by decide +kernel
theorem dL_mostMet_14 : decode cL_mostMet 14 = .ok (.ireturn, 1) := by decide +kernel
theorem dL_mostMet_15 : decode cL_mostMet 15 = .ok (.iconst 0, 1) := by decide +kernel
theorem dL_mostMet_16 : decode cL_mostMet 16 = .ok (.ireturn, 1) := by decide +kernel
theorem dL_mostMetByTrial_0 : decode cL_mostMetByTrial 0 = .ok (.aload_n 2, 1) := by decide +kernel
theorem dL_mostMetByTrial_1 : decode cL_mostMetByTrial 1 = .ok (.iconst 0, 1) := by decide +kernel
theorem dL_mostMetByTrial_2 : decode cL_mostMetByTrial 2 = .ok (.aload_n 0, 1) := by decide +kernel
theorem dL_mostMetByTrial_3 : decode cL_mostMetByTrial 3 = .ok (.iload_n 1, 1) := by decide +kernel
theorem dL_mostMetByTrial_4 : decode cL_mostMetByTrial 4 = .ok (.invokevirtual 157, 3) := by decide +kernel
theorem dL_mostMetByTrial_7 : decode cL_mostMetByTrial 7 = .ok (.i2l, 1) := by decide +kernel
theorem dL_mostMetByTrial_8 : decode cL_mostMetByTrial 8 = .ok (.lastore, 1) := by decide +kernel
theorem dL_mostMetByTrial_9 : decode cL_mostMetByTrial 9 = .ok (.goto 6, 3) := by decide +kernel
theorem dL_mostMetByTrial_12 : decode cL_mostMetByTrial 12 = .ok (.astore_n 3, 1) := by decide +kernel
theorem dL_mostMetByTrial_13 : decode cL_mostMetByTrial 13 = .ok (.iconst 1, 1) := by decide +kernel
theorem dL_mostMetByTrial_14 : decode cL_mostMetByTrial 14 = .ok (.ireturn, 1) := by decide +kernel
theorem dL_mostMetByTrial_15 : decode cL_mostMetByTrial 15 = .ok (.iconst 0, 1) := by decide +kernel
theorem dL_mostMetByTrial_16 : decode cL_mostMetByTrial 16 = .ok (.ireturn, 1) := by decide +kernel
theorem dL_mostMetIf_0 : decode cL_mostMetIf 0 = .ok (.aload_n 2, 1) := by decide +kernel
theorem dL_mostMetIf_1 : decode cL_mostMetIf 1 = .ok (.iconst 0, 1) := by decide +kernel
theorem dL_mostMetIf_2 : decode cL_mostMetIf 2 = .ok (.aload_n 0, 1) := by decide +kernel
theorem dL_mostMetIf_3 : decode cL_mostMetIf 3 = .ok (.iload_n 1, 1) := by decide +kernel
theorem dL_mostMetIf_4 : decode cL_mostMetIf 4 = .ok (.invokevirtual 160, 3) := by decide +kernel
theorem dL_mostMetIf_7 : decode cL_mostMetIf 7 = .ok (.i2l, 1) := by decide +kernel
theorem dL_mostMetIf_8 : decode cL_mostMetIf 8 = .ok (.lastore, 1) := by decide +kernel
theorem dL_mostMetIf_9 : decode cL_mostMetIf 9 = .ok (.goto 6, 3) := by decide +kernel
theorem dL_mostMetIf_12 : decode cL_mostMetIf 12 = .ok (.astore_n 3, 1) := by decide +kernel
theorem dL_mostMetIf_13 : decode cL_mostMetIf 13 = .ok (.iconst 1, 1) := by decide +kernel
theorem dL_mostMetIf_14 : decode cL_mostMetIf 14 = .ok (.ireturn, 1) := by decide +kernel
theorem dL_mostMetIf_15 : decode cL_mostMetIf 15 = .ok (.iconst 0, 1) := by decide +kernel
theorem dL_mostMetIf_16 : decode cL_mostMetIf 16 = .ok (.ireturn, 1) := by decide +kernel
theorem dL_lackingRules_0 : decode cL_lackingRules 0 = .ok (.aload_n 2, 1) := by decide +kernel
theorem dL_lackingRules_1 : decode cL_lackingRules 1 = .ok (.iconst 0, 1) := by decide +kernel
theorem dL_lackingRules_2 : decode cL_lackingRules 2 = .ok (.aload_n 0, 1) := by decide +kernel
theorem dL_lackingRules_3 : decode cL_lackingRules 3 = .ok (.iload_n 1, 1) := by decide +kernel
theorem dL_lackingRules_4 : decode cL_lackingRules 4 = .ok (.invokevirtual 163, 3) := by decide +kernel
theorem dL_lackingRules_7 : decode cL_lackingRules 7 = .ok (.i2l, 1) := by decide +kernel
theorem dL_lackingRules_8 : decode cL_lackingRules 8 = .ok (.lastore, 1) := by decide +kernel
theorem dL_lackingRules_9 : decode cL_lackingRules 9 = .ok (.goto 6, 3) := by decide +kernel
theorem dL_lackingRules_12 : decode cL_lackingRules 12 = .ok (.astore_n 3, 1) := by decide +kernel
theorem dL_lackingRules_13 : decode cL_lackingRules 13 = .ok (.iconst 1, 1) := by decide +kernel
theorem dL_lackingRules_14 : decode cL_lackingRules 14 = .ok (.ireturn, 1) := by decide +kernel
theorem dL_lackingRules_15 : decode cL_lackingRules 15 = .ok (.iconst 0, 1) := by decide +kernel
theorem dL_lackingRules_16 : decode cL_lackingRules 16 = .ok (.ireturn, 1) := by decide +kernel
theorem dL_lackingByTrial_0 : decode cL_lackingByTrial 0 = .ok (.aload_n 2, 1) := by decide +kernel
theorem dL_lackingByTrial_1 : decode cL_lackingByTrial 1 = .ok (.iconst 0, 1) := by decide +kernel
theorem dL_lackingByTrial_2 : decode cL_lackingByTrial 2 = .ok (.aload_n 0, 1) := by decide +kernel
theorem dL_lackingByTrial_3 : decode cL_lackingByTrial 3 = .ok (.iload_n 1, 1) := by decide +kernel
theorem dL_lackingByTrial_4 : decode cL_lackingByTrial 4 = .ok (.invokevirtual 166, 3) := by decide +kernel
theorem dL_lackingByTrial_7 : decode cL_lackingByTrial 7 = .ok (.i2l, 1) := by decide +kernel
theorem dL_lackingByTrial_8 : decode cL_lackingByTrial 8 = .ok (.lastore, 1) := by decide +kernel
theorem dL_lackingByTrial_9 : decode cL_lackingByTrial 9 = .ok (.goto 6, 3) := by decide +kernel
theorem dL_lackingByTrial_12 : decode cL_lackingByTrial 12 = .ok (.astore_n 3, 1) := by decide +kernel
theorem dL_lackingByTrial_13 : decode cL_lackingByTrial 13 = .ok (.iconst 1, 1) := by decide +kernel
theorem dL_lackingByTrial_14 : decode cL_lackingByTrial 14 = .ok (.ireturn, 1) := by decide +kernel
theorem dL_lackingByTrial_15 : decode cL_lackingByTrial 15 = .ok (.iconst 0, 1) := by decide +kernel
theorem dL_lackingByTrial_16 : decode cL_lackingByTrial 16 = .ok (.ireturn, 1) := by decide +kernel
theorem dL_ruleFor_0 : decode cL_ruleFor 0 = .ok (.aload_n 3, 1) := by decide +kernel
theorem dL_ruleFor_1 : decode cL_ruleFor 1 = .ok (.iconst 0, 1) := by decide +kernel
theorem dL_ruleFor_2 : decode cL_ruleFor 2 = .ok (.aload_n 0, 1) := by decide +kernel
theorem dL_ruleFor_3 : decode cL_ruleFor 3 = .ok (.iload_n 1, 1) := by decide +kernel
theorem dL_ruleFor_4 : decode cL_ruleFor 4 = .ok (.iload_n 2, 1) := by decide +kernel
theorem dL_ruleFor_5 : decode cL_ruleFor 5 = .ok (.invokevirtual 169, 3) := by decide +kernel
theorem dL_ruleFor_8 : decode cL_ruleFor 8 = .ok (.i2l, 1) := by decide +kernel
theorem dL_ruleFor_9 : decode cL_ruleFor 9 = .ok (.lastore, 1) := by decide +kernel
theorem dL_ruleFor_10 : decode cL_ruleFor 10 = .ok (.goto 11, 3) := by decide +kernel
theorem dL_ruleFor_13 : decode cL_ruleFor 13 = .ok (.astore 4, 2) := by decide +kernel
theorem dL_ruleFor_15 : decode cL_ruleFor 15 = .ok (.iconst 1, 1) := by decide +kernel
theorem dL_ruleFor_16 : decode cL_ruleFor 16 = .ok (.ireturn, 1) := by decide +kernel
theorem dL_ruleFor_17 : decode cL_ruleFor 17 = .ok (.astore 4, 2) := by decide +kernel
theorem dL_ruleFor_19 : decode cL_ruleFor 19 = .ok (.iconst 2, 1) := by decide +kernel
theorem dL_ruleFor_20 : decode cL_ruleFor 20 = .ok (.ireturn, 1) := by decide +kernel
theorem dL_ruleFor_21 : decode cL_ruleFor 21 = .ok (.iconst 0, 1) := by decide +kernel
theorem dL_ruleFor_22 : decode cL_ruleFor 22 = .ok (.ireturn, 1) := by decide +kernel
theorem dL_setDegree_0 : decode cL_setDegree 0 = .ok (.aload_n 3, 1) := by decide +kernel
theorem dL_setDegree_1 : decode cL_setDegree 1 = .ok (.iconst 0, 1) := by decide +kernel
theorem dL_setDegree_2 : decode cL_setDegree 2 = .ok (.aload_n 0, 1) := by decide +kernel
theorem dL_setDegree_3 : decode cL_setDegree 3 = .ok (.iload_n 1, 1) := by decide +kernel
theorem dL_setDegree_4 : decode cL_setDegree 4 = .ok (.iload_n 2, 1) := by decide +kernel
theorem dL_setDegree_5 : decode cL_setDegree 5 = .ok (.invokevirtual 172, 3) := by decide +kernel
theorem dL_setDegree_8 : decode cL_setDegree 8 = .ok (.i2l, 1) := by decide +kernel
theorem dL_setDegree_9 : decode cL_setDegree 9 = .ok (.lastore, 1) := by decide +kernel
theorem dL_setDegree_10 : decode cL_setDegree 10 = .ok (.goto 7, 3) := by decide +kernel
theorem dL_setDegree_13 : decode cL_setDegree 13 = .ok (.astore 4, 2) := by decide +kernel
theorem dL_setDegree_15 : decode cL_setDegree 15 = .ok (.iconst 1, 1) := by decide +kernel
theorem dL_setDegree_16 : decode cL_setDegree 16 = .ok (.ireturn, 1) := by decide +kernel
theorem dL_setDegree_17 : decode cL_setDegree 17 = .ok (.iconst 0, 1) := by decide +kernel
theorem dL_setDegree_18 : decode cL_setDegree 18 = .ok (.ireturn, 1) := by decide +kernel
theorem dL_canGraduate_0 : decode cL_canGraduate 0 = .ok (.aload_n 2, 1) := by decide +kernel
theorem dL_canGraduate_1 : decode cL_canGraduate 1 = .ok (.iconst 0, 1) := by decide +kernel
theorem dL_canGraduate_2 : decode cL_canGraduate 2 = .ok (.aload_n 0, 1) := by decide +kernel
theorem dL_canGraduate_3 : decode cL_canGraduate 3 = .ok (.iload_n 1, 1) := by decide +kernel
theorem dL_canGraduate_4 : decode cL_canGraduate 4 = .ok (.invokevirtual 175, 3) := by decide +kernel
theorem dL_canGraduate_7 : decode cL_canGraduate 7 = .ok (.ifCond .eq 7, 3) := by decide +kernel
theorem dL_canGraduate_10 : decode cL_canGraduate 10 = .ok (.lconst 1, 1) := by decide +kernel
theorem dL_canGraduate_11 : decode cL_canGraduate 11 = .ok (.goto 4, 3) := by decide +kernel
theorem dL_canGraduate_14 : decode cL_canGraduate 14 = .ok (.lconst 0, 1) := by decide +kernel
theorem dL_canGraduate_15 : decode cL_canGraduate 15 = .ok (.lastore, 1) := by decide +kernel
theorem dL_canGraduate_16 : decode cL_canGraduate 16 = .ok (.goto 6, 3) := by decide +kernel
theorem dL_canGraduate_19 : decode cL_canGraduate 19 = .ok (.astore_n 3, 1) := by decide +kernel
theorem dL_canGraduate_20 : decode cL_canGraduate 20 = .ok (.iconst 1, 1) := by decide +kernel
theorem dL_canGraduate_21 : decode cL_canGraduate 21 = .ok (.ireturn, 1) := by decide +kernel
theorem dL_canGraduate_22 : decode cL_canGraduate 22 = .ok (.iconst 0, 1) := by decide +kernel
theorem dL_canGraduate_23 : decode cL_canGraduate 23 = .ok (.ireturn, 1) := by decide +kernel
