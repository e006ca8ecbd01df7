theorem d_X_holds_24 : decode b_X_holds 24 = .ok (.getfield 45, 3) := by decide +kernel
theorem d_X_holds_27 : decode b_X_holds 27 = .ok (.iload_n 1, 1) := by decide +kernel
theorem d_X_holds_28 : decode b_X_holds 28 = .ok (.if_icmp .ne 5, 3) := by decide +kernel
theorem d_X_holds_31 : decode b_X_holds 31 = .ok (.iconst 1, 1) := by decide +kernel
theorem d_X_holds_32 : decode b_X_holds 32 = .ok (.ireturn, 1) := by decide +kernel
theorem d_X_holds_33 : decode b_X_holds 33 = .ok (.iinc 2 1, 3) := by decide +kernel
theorem d_X_holds_36 : decode b_X_holds 36 = .ok (.goto (-34), 3) := by decide +kernel
theorem d_X_holds_39 : decode b_X_holds 39 = .ok (.iconst 0, 1) := by decide +kernel
theorem d_X_holds_40 : decode b_X_holds 40 = .ok (.ireturn, 1) := by decide +kernel
theorem d_X_partCount_0 : decode b_X_partCount 0 = .ok (.aload_n 0, 1) := by decide +kernel
theorem d_X_partCount_1 : decode b_X_partCount 1 = .ok (.getfield 12, 3) := by decide +kernel
theorem d_X_partCount_4 : decode b_X_partCount 4 = .ok (.invokevirtual 37, 3) := by decide +kernel
theorem d_X_partCount_7 : decode b_X_partCount 7 = .ok (.ireturn, 1) := by decide +kernel
theorem d_L_apart_0 : decode b_L_apart 0 = .ok (.aload_n 3, 1) := by decide +kernel
theorem d_L_apart_1 : decode b_L_apart 1 = .ok (.iconst 0, 1) := by decide +kernel
theorem d_L_apart_2 : decode b_L_apart 2 = .ok (.aload_n 0, 1) := by decide +kernel
theorem d_L_apart_3 : decode b_L_apart 3 = .ok (.iload_n 1, 1) := by decide +kernel
theorem d_L_apart_4 : decode b_L_apart 4 = .ok (.iload_n 2, 1) := by decide +kernel
theorem d_L_apart_5 : decode b_L_apart 5 = .ok (.invokevirtual 28, 3) := by decide +kernel
theorem d_L_apart_8 : decode b_L_apart 8 = .ok (.i2l, 1) := by decide +kernel
theorem d_L_apart_9 : decode b_L_apart 9 = .ok (.lastore, 1) := by decide +kernel
theorem d_L_apart_10 : decode b_L_apart 10 = .ok (.goto 7, 3) := by decide +kernel
theorem d_L_apart_13 : decode b_L_apart 13 = .ok (.astore 4, 2) := by decide +kernel
theorem d_L_apart_15 : decode b_L_apart 15 = .ok (.iconst 1, 1) := by decide +kernel
theorem d_L_apart_16 : decode b_L_apart 16 = .ok (.ireturn, 1) := by decide +kernel
theorem d_L_apart_17 : decode b_L_apart 17 = .ok (.iconst 0, 1) := by decide +kernel
theorem d_L_apart_18 : decode b_L_apart 18 = .ok (.ireturn, 1) := by decide +kernel
theorem d_T_apart_0 : decode b_T_apart 0 = .ok (.aload_n 0, 1) := by decide +kernel
theorem d_T_apart_1 : decode b_T_apart 1 = .ok (.iload_n 1, 1) := by decide +kernel
theorem d_T_apart_2 : decode b_T_apart 2 = .ok (.iload_n 2, 1) := by decide +kernel
theorem d_T_apart_3 : decode b_T_apart 3 = .ok (.invokevirtual 146, 3) := by decide +kernel
theorem d_T_apart_6 : decode b_T_apart 6 = .ok (.ifCond .ne 13, 3) := by decide +kernel
theorem d_T_apart_9 : decode b_T_apart 9 = .ok (.new 64, 3) := by decide +kernel
theorem d_T_apart_12 : decode b_T_apart 12 = .ok (.dup, 1) := by decide +kernel
theorem d_T_apart_13 : decode b_T_apart 13 = .ok (.ldc 149, 2) := by decide +kernel
theorem d_T_apart_15 : decode b_T_apart 15 = .ok (.invokespecial 68, 3) := by decide +kernel
theorem d_T_apart_18 : decode b_T_apart 18 = .ok (.athrow, 1) := by decide +kernel
theorem d_T_apart_19 : decode b_T_apart 19 = .ok (.aload_n 0, 1) := by decide +kernel
theorem d_T_apart_20 : decode b_T_apart 20 = .ok (.aload_n 0, 1) := by decide +kernel
theorem d_T_apart_21 : decode b_T_apart 21 = .ok (.getfield 33, 3) := by decide +kernel
theorem d_T_apart_24 : decode b_T_apart 24 = .ok (.iload_n 1, 1) := by decide +kernel
theorem d_T_apart_25 : decode b_T_apart 25 = .ok (.invokevirtual 107, 3) := by decide +kernel
theorem d_T_apart_28 : decode b_T_apart 28 = .ok (.checkcast 121, 3) := by decide +kernel
theorem d_T_apart_31 : decode b_T_apart 31 = .ok (.aload_n 0, 1) := by decide +kernel
theorem d_T_apart_32 : decode b_T_apart 32 = .ok (.getfield 33, 3) := by decide +kernel
theorem d_T_apart_35 : decode b_T_apart 35 = .ok (.iload_n 2, 1) := by decide +kernel
theorem d_T_apart_36 : decode b_T_apart 36 = .ok (.invokevirtual 107, 3) := by decide +kernel
theorem d_T_apart_39 : decode b_T_apart 39 = .ok (.checkcast 121, 3) := by decide +kernel
theorem d_T_apart_42 : decode b_T_apart 42 = .ok (.invokevirtual 151, 3) := by decide +kernel
theorem d_T_apart_45 : decode b_T_apart 45 = .ok (.ireturn, 1) := by decide +kernel
theorem d_T_areTwoBoxes_0 : decode b_T_areTwoBoxes 0 = .ok (.aload_n 0, 1) := by decide +kernel
theorem d_T_areTwoBoxes_1 : decode b_T_areTwoBoxes 1 = .ok (.iload_n 1, 1) := by decide +kernel
theorem d_T_areTwoBoxes_2 : decode b_T_areTwoBoxes 2 = .ok (.invokevirtual 127, 3) := by decide +kernel
theorem d_T_areTwoBoxes_5 : decode b_T_areTwoBoxes 5 = .ok (.ifCond .eq 20, 3) := by decide +kernel
theorem d_T_areTwoBoxes_8 : decode b_T_areTwoBoxes 8 = .ok (.aload_n 0, 1) := by decide +kernel
theorem d_T_areTwoBoxes_9 : decode b_T_areTwoBoxes 9 = .ok (.iload_n 2, 1) := by decide +kernel
theorem d_T_areTwoBoxes_10 : decode b_T_areTwoBoxes 10 = .ok (.invokevirtual 127, 3) := by decide +kernel
theorem d_T_areTwoBoxes_13 : decode b_T_areTwoBoxes 13 = .ok (.ifCond .eq 12, 3) := by decide +kernel
theorem d_T_areTwoBoxes_16 : decode b_T_areTwoBoxes 16 = .ok (.iload_n 1, 1) := by decide +kernel
theorem d_T_areTwoBoxes_17 : decode b_T_areTwoBoxes 17 = .ok (.iload_n 2, 1) := by decide +kernel
theorem d_T_areTwoBoxes_18 : decode b_T_areTwoBoxes 18 = .ok (.if_icmp .eq 7, 3) := by decide +kernel
theorem d_T_areTwoBoxes_21 : decode b_T_areTwoBoxes 21 = .ok (.iconst 1, 1) := by decide +kernel
theorem d_T_areTwoBoxes_22 : decode b_T_areTwoBoxes 22 = .ok (.goto 4, 3) := by decide +kernel
theorem d_T_areTwoBoxes_25 : decode b_T_areTwoBoxes 25 = .ok (.iconst 0, 1) := by decide +kernel
theorem d_T_areTwoBoxes_26 : decode b_T_areTwoBoxes 26 = .ok (.ireturn, 1) := by decide +kernel
theorem d_T_ruleOfBoxes_0 : decode b_T_ruleOfBoxes 0 = .ok (.iconst 0, 1) := by decide +kernel
theorem d_T_ruleOfBoxes_1 : decode b_T_ruleOfBoxes 1 = .ok (.istore_n 3, 1) := by decide +kernel
theorem d_T_ruleOfBoxes_2 : decode b_T_ruleOfBoxes 2 = .ok (.iconst 0, 1) := by decide +kernel
theorem d_T_ruleOfBoxes_3 : decode b_T_ruleOfBoxes 3 = .ok (.istore 4, 2) := by decide +kernel
theorem d_T_ruleOfBoxes_5 : decode b_T_ruleOfBoxes 5 = .ok (.iload 4, 2) := by decide +kernel
theorem d_T_ruleOfBoxes_7 : decode b_T_ruleOfBoxes 7 = .ok (.aload_n 1, 1) := by decide +kernel
theorem d_T_ruleOfBoxes_8 : decode b_T_ruleOfBoxes 8 = .ok (.getfield 222, 3) := by decide +kernel
theorem d_T_ruleOfBoxes_11 : decode b_T_ruleOfBoxes 11 = .ok (.invokevirtual 83, 3) := by decide +kernel
theorem d_T_ruleOfBoxes_14 : decode b_T_ruleOfBoxes 14 = .ok (.if_icmp .ge 63, 3) := by decide +kernel
theorem d_T_ruleOfBoxes_17 : decode b_T_ruleOfBoxes 17 = .ok (.iconst 0, 1) := by decide +kernel
theorem d_T_ruleOfBoxes_18 : decode b_T_ruleOfBoxes 18 = .ok (.istore 5, 2) := by decide +kernel
theorem d_T_ruleOfBoxes_20 : decode b_T_ruleOfBoxes 20 = .ok (.iload 5, 2) := by decide +kernel
theorem d_T_ruleOfBoxes_22 : decode b_T_ruleOfBoxes 22 = .ok (.aload_n 2, 1) := by decide +kernel
theorem d_T_ruleOfBoxes_23 : decode b_T_ruleOfBoxes 23 = .ok (.getfield 222, 3) := by decide +kernel
theorem d_T_ruleOfBoxes_26 : decode b_T_ruleOfBoxes 26 = .ok (.invokevirtual 83, 3) := by decide +kernel
theorem d_T_ruleOfBoxes_29 : decode b_T_ruleOfBoxes 29 = .ok (.if_icmp .ge 42, 3) := by decide +kernel
theorem d_T_ruleOfBoxes_32 : decode b_T_ruleOfBoxes 32 = .ok (.iload_n 3, 1) := by decide +kernel
theorem d_T_ruleOfBoxes_33 : decode b_T_ruleOfBoxes 33 = .ok (.aload_n 0, 1) := by decide +kernel
theorem d_T_ruleOfBoxes_34 : decode b_T_ruleOfBoxes 34 = .ok (.aload_n 1, 1) := by decide +kernel
theorem d_T_ruleOfBoxes_35 : decode b_T_ruleOfBoxes 35 = .ok (.getfield 222, 3) := by decide +kernel
theorem d_T_ruleOfBoxes_38 : decode b_T_ruleOfBoxes 38 = .ok (.iload 4, 2) := by decide +kernel
theorem d_T_ruleOfBoxes_40 : decode b_T_ruleOfBoxes 40 = .ok (.invokevirtual 107, 3) := by decide +kernel
theorem d_T_ruleOfBoxes_43 : decode b_T_ruleOfBoxes 43 = .ok (.checkcast 225, 3) := by decide +kernel
theorem d_T_ruleOfBoxes_46 : decode b_T_ruleOfBoxes 46 = .ok (.aload_n 2, 1) := by decide +kernel
theorem d_T_ruleOfBoxes_47 : decode b_T_ruleOfBoxes 47 = .ok (.getfield 222, 3) := by decide +kernel
theorem d_T_ruleOfBoxes_50 : decode b_T_ruleOfBoxes 50 = .ok (.iload 5, 2) := by decide +kernel
theorem d_T_ruleOfBoxes_52 : decode b_T_ruleOfBoxes 52 = .ok (.invokevirtual 107, 3) := by decide +kernel
theorem d_T_ruleOfBoxes_55 : decode b_T_ruleOfBoxes 55 = .ok (.checkcast 225, 3) := by decide +kernel
theorem d_T_ruleOfBoxes_58 : decode b_T_ruleOfBoxes 58 = .ok (.invokevirtual 227, 3) := by decide +kernel
theorem d_T_ruleOfBoxes_61 : decode b_T_ruleOfBoxes 61 = .ok (.invokestatic 231, 3) := by decide +kernel
theorem d_T_ruleOfBoxes_64 : decode b_T_ruleOfBoxes 64 = .ok (.istore_n 3, 1) := by decide +kernel
theorem d_T_ruleOfBoxes_65 : decode b_T_ruleOfBoxes 65 = .ok (.iinc 5 1, 3) := by decide +kernel
theorem d_T_ruleOfBoxes_68 : decode b_T_ruleOfBoxes 68 = .ok (.goto (-48), 3) := by decide +kernel
theorem d_T_ruleOfBoxes_71 : decode b_T_ruleOfBoxes 71 = .ok (.iinc 4 1, 3) := by decide +kernel
theorem d_T_ruleOfBoxes_74 : decode b_T_ruleOfBoxes 74 = .ok (.goto (-69), 3) := by decide +kernel
theorem d_T_ruleOfBoxes_77 : decode b_T_ruleOfBoxes 77 = .ok (.iload_n 3, 1) := by decide +kernel
theorem d_T_ruleOfBoxes_78 : decode b_T_ruleOfBoxes 78 = .ok (.ireturn, 1) := by decide +kernel
theorem d_T_ruleOfParts_0 : decode b_T_ruleOfParts 0 = .ok (.aload_n 1, 1) := by decide +kernel
theorem d_T_ruleOfParts_1 : decode b_T_ruleOfParts 1 = .ok (.getfield 236, 3) := by decide +kernel
theorem d_T_ruleOfParts_4 : decode b_T_ruleOfParts 4 = .ok (.astore_n 3, 1) := by decide +kernel
theorem d_T_ruleOfParts_5 : decode b_T_ruleOfParts 5 = .ok (.aload_n 2, 1) := by decide +kernel
theorem d_T_ruleOfParts_6 : decode b_T_ruleOfParts 6 = .ok (.getfield 236, 3) := by decide +kernel
theorem d_T_ruleOfParts_9 : decode b_T_ruleOfParts 9 = .ok (.astore 4, 2) := by decide +kernel
theorem d_T_ruleOfParts_11 : decode b_T_ruleOfParts 11 = .ok (.aload_n 0, 1) := by decide +kernel
theorem d_T_ruleOfParts_12 : decode b_T_ruleOfParts 12 = .ok (.aload_n 3, 1) := by decide +kernel
theorem d_T_ruleOfParts_13 : decode b_T_ruleOfParts 13 = .ok (.aload_n 3, 1) := by decide +kernel
theorem d_T_ruleOfParts_14 : decode b_T_ruleOfParts 14 = .ok (.getfield 240, 3) := by decide +kernel
theorem d_T_ruleOfParts_17 : decode b_T_ruleOfParts 17 = .ok (.aload 4, 2) := by decide +kernel
theorem d_T_ruleOfParts_19 : decode b_T_ruleOfParts 19 = .ok (.aload 4, 2) := by decide +kernel
theorem d_T_ruleOfParts_21 : decode b_T_ruleOfParts 21 = .ok (.getfield 240, 3) := by decide +kernel
theorem d_T_ruleOfParts_24 : decode b_T_ruleOfParts 24 = .ok (.invokevirtual 243, 3) := by decide +kernel
theorem d_T_ruleOfParts_27 : decode b_T_ruleOfParts 27 = .ok (.istore 5, 2) := by decide +kernel
theorem d_T_ruleOfParts_29 : decode b_T_ruleOfParts 29 = .ok (.iload 5, 2) := by decide +kernel
theorem d_T_ruleOfParts_31 : decode b_T_ruleOfParts 31 = .ok (.aload_n 0, 1) := by decide +kernel
theorem d_T_ruleOfParts_32 : decode b_T_ruleOfParts 32 = .ok (.aload_n 3, 1) := by decide +kernel
theorem d_T_ruleOfParts_33 : decode b_T_ruleOfParts 33 = .ok (.aload_n 3, 1) := by decide +kernel
theorem d_T_ruleOfParts_34 : decode b_T_ruleOfParts 34 = .ok (.getfield 240, 3) := by decide +kernel
theorem d_T_ruleOfParts_37 : decode b_T_ruleOfParts 37 = .ok (.aload 4, 2) := by decide +kernel
theorem d_T_ruleOfParts_39 : decode b_T_ruleOfParts 39 = .ok (.aload 4, 2) := by decide +kernel
theorem d_T_ruleOfParts_41 : decode b_T_ruleOfParts 41 = .ok (.getfield 247, 3) := by decide +kernel
theorem d_T_ruleOfParts_44 : decode b_T_ruleOfParts 44 = .ok (.invokevirtual 243, 3) := by decide +kernel
theorem d_T_ruleOfParts_47 : decode b_T_ruleOfParts 47 = .ok (.invokestatic 231, 3) := by decide +kernel
theorem d_T_ruleOfParts_50 : decode b_T_ruleOfParts 50 = .ok (.istore 5, 2) := by decide +kernel
theorem d_T_ruleOfParts_52 : decode b_T_ruleOfParts 52 = .ok (.iload 5, 2) := by decide +kernel
theorem d_T_ruleOfParts_54 : decode b_T_ruleOfParts 54 = .ok (.aload_n 0, 1) := by decide +kernel
theorem d_T_ruleOfParts_55 : decode b_T_ruleOfParts 55 = .ok (.aload_n 3, 1) := by decide +kernel
theorem d_T_ruleOfParts_56 : decode b_T_ruleOfParts 56 = .ok (.aload_n 3, 1) := by decide +kernel
theorem d_T_ruleOfParts_57 : decode b_T_ruleOfParts 57 = .ok (.getfield 247, 3) := by decide +kernel
theorem d_T_ruleOfParts_60 : decode b_T_ruleOfParts 60 = .ok (.aload 4, 2) := by decide +kernel
theorem d_T_ruleOfParts_62 : decode b_T_ruleOfParts 62 = .ok (.aload 4, 2) := by decide +kernel
theorem d_T_ruleOfParts_64 : decode b_T_ruleOfParts 64 = .ok (.getfield 240, 3) := by decide +kernel
theorem d_T_ruleOfParts_67 : decode b_T_ruleOfParts 67 = .ok (.invokevirtual 243, 3) := by decide +kernel
theorem d_T_ruleOfParts_70 : decode b_T_ruleOfParts 70 = .ok (.invokestatic 231, 3) := by decide +kernel
theorem d_T_ruleOfParts_73 : decode b_T_ruleOfParts 73 = .ok (.istore 5, 2) := by decide +kernel
theorem d_T_ruleOfParts_75 : decode b_T_ruleOfParts 75 = .ok (.iload 5, 2) := by decide +kernel
theorem d_T_ruleOfParts_77 : decode b_T_ruleOfParts 77 = .ok (.aload_n 0, 1) := by decide +kernel
theorem d_T_ruleOfParts_78 : decode b_T_ruleOfParts 78 = .ok (.aload_n 3, 1) := by decide +kernel
theorem d_T_ruleOfParts_79 : decode b_T_ruleOfParts 79 = .ok (.aload_n 3, 1) := by decide +kernel
theorem d_T_ruleOfParts_80 : decode b_T_ruleOfParts 80 = .ok (.getfield 247, 3) := by decide +kernel
theorem d_T_ruleOfParts_83 : decode b_T_ruleOfParts 83 = .ok (.aload 4, 2) := by decide +kernel
theorem d_T_ruleOfParts_85 : decode b_T_ruleOfParts 85 = .ok (.aload 4, 2) := by decide +kernel
theorem d_T_ruleOfParts_87 : decode b_T_ruleOfParts 87 = .ok (.getfield 247, 3) := by decide +kernel
theorem d_T_ruleOfParts_90 : decode b_T_ruleOfParts 90 = .ok (.invokevirtual 243, 3) := by decide +kernel
theorem d_T_ruleOfParts_93 : decode b_T_ruleOfParts 93 = .ok (.invokestatic 231, 3) := by decide +kernel
theorem d_T_ruleOfParts_96 : decode b_T_ruleOfParts 96 = .ok (.istore 5, 2) := by decide +kernel
theorem d_T_ruleOfParts_98 : decode b_T_ruleOfParts 98 = .ok (.aload_n 1, 1) := by decide +kernel
theorem d_T_ruleOfParts_99 : decode b_T_ruleOfParts 99 = .ok (.invokevirtual 250, 3) := by decide +kernel
theorem d_T_ruleOfParts_102 : decode b_T_ruleOfParts 102 = .ok (.ifCond .ne 10, 3) := by decide +kernel
theorem d_T_ruleOfParts_105 : decode b_T_ruleOfParts 105 = .ok (.aload_n 2, 1) := by decide +kernel
theorem d_T_ruleOfParts_106 : decode b_T_ruleOfParts 106 = .ok (.invokevirtual 250, 3) := by decide +kernel
theorem d_T_ruleOfParts_109 : decode b_T_ruleOfParts 109 = .ok (.ifCond .eq 12, 3) := by decide +kernel
theorem d_T_ruleOfParts_112 : decode b_T_ruleOfParts 112 = .ok (.iload 5, 2) := by decide +kernel
theorem d_T_ruleOfParts_114 : decode b_T_ruleOfParts 114 = .ok (.iconst 1, 1) := by decide +kernel
theorem d_T_ruleOfParts_115 : decode b_T_ruleOfParts 115 = .ok (.invokestatic 253, 3) := by decide +kernel
theorem d_T_ruleOfParts_118 : decode b_T_ruleOfParts 118 = .ok (.goto 5, 3) := by decide +kernel
theorem d_T_ruleOfParts_121 : decode b_T_ruleOfParts 121 = .ok (.iload 5, 2) := by decide +kernel
theorem d_T_ruleOfParts_123 : decode b_T_ruleOfParts 123 = .ok (.ireturn, 1) := by decide +kernel
theorem d_T_ruleOfClasses_0 : decode b_T_ruleOfClasses 0 = .ok (.iload_n 2, 1) := by decide +kernel
theorem d_T_ruleOfClasses_1 : decode b_T_ruleOfClasses 1 = .ok (.invokestatic 61, 3) := by decide +kernel
theorem d_T_ruleOfClasses_4 : decode b_T_ruleOfClasses 4 = .ok (.ifCond .eq 11, 3) := by decide +kernel
theorem d_T_ruleOfClasses_7 : decode b_T_ruleOfClasses 7 = .ok (.iload 4, 2) := by decide +kernel
theorem d_T_ruleOfClasses_9 : decode b_T_ruleOfClasses 9 = .ok (.invokestatic 61, 3) := by decide +kernel
theorem d_T_ruleOfClasses_12 : decode b_T_ruleOfClasses 12 = .ok (.ifCond .ne 5, 3) := by decide +kernel
theorem d_T_ruleOfClasses_15 : decode b_T_ruleOfClasses 15 = .ok (.iconst 0, 1) := by decide +kernel
theorem d_T_ruleOfClasses_16 : decode b_T_ruleOfClasses 16 = .ok (.ireturn, 1) := by decide +kernel
theorem d_T_ruleOfClasses_17 : decode b_T_ruleOfClasses 17 = .ok (.iload_n 2, 1) := by decide +kernel
theorem d_T_ruleOfClasses_18 : decode b_T_ruleOfClasses 18 = .ok (.iload 4, 2) := by decide +kernel
theorem d_T_ruleOfClasses_20 : decode b_T_ruleOfClasses 20 = .ok (.invokestatic 71, 3) := by decide +kernel
theorem d_T_ruleOfClasses_23 : decode b_T_ruleOfClasses 23 = .ok (.istore 5, 2) := by decide +kernel
theorem d_T_ruleOfClasses_25 : decode b_T_ruleOfClasses 25 = .ok (.aload_n 1, 1) := by decide +kernel
theorem d_T_ruleOfClasses_26 : decode b_T_ruleOfClasses 26 = .ok (.iload 5, 2) := by decide +kernel
theorem d_T_ruleOfClasses_28 : decode b_T_ruleOfClasses 28 = .ok (.invokevirtual 256, 3) := by decide +kernel
theorem d_T_ruleOfClasses_31 : decode b_T_ruleOfClasses 31 = .ok (.ifCond .ne 12, 3) := by decide +kernel
theorem d_T_ruleOfClasses_34 : decode b_T_ruleOfClasses 34 = .ok (.aload_n 3, 1) := by decide +kernel
theorem d_T_ruleOfClasses_35 : decode b_T_ruleOfClasses 35 = .ok (.iload 5, 2) := by decide +kernel
theorem d_T_ruleOfClasses_37 : decode b_T_ruleOfClasses 37 = .ok (.invokevirtual 256, 3) := by decide +kernel
theorem d_T_ruleOfClasses_40 : decode b_T_ruleOfClasses 40 = .ok (.ifCond .eq 7, 3) := by decide +kernel
theorem d_T_ruleOfClasses_43 : decode b_T_ruleOfClasses 43 = .ok (.iconst 0, 1) := by decide +kernel
theorem d_T_ruleOfClasses_44 : decode b_T_ruleOfClasses 44 = .ok (.goto 10, 3) := by decide +kernel
theorem d_T_ruleOfClasses_47 : decode b_T_ruleOfClasses 47 = .ok (.aload_n 0, 1) := by decide +kernel
theorem d_T_ruleOfClasses_48 : decode b_T_ruleOfClasses 48 = .ok (.getfield 16, 3) := by decide +kernel
theorem d_T_ruleOfClasses_51 : decode b_T_ruleOfClasses 51 = .ok (.iload 5, 2) := by decide +kernel
theorem d_T_ruleOfClasses_53 : decode b_T_ruleOfClasses 53 = .ok (.iaload, 1) := by decide +kernel
theorem d_T_ruleOfClasses_54 : decode b_T_ruleOfClasses 54 = .ok (.ireturn, 1) := by decide +kernel
theorem d_P_isLimited_0 : decode b_P_isLimited 0 = .ok (.aload_n 0, 1) := by decide +kernel
theorem d_P_isLimited_1 : decode b_P_isLimited 1 = .ok (.getfield 19, 3) := by decide +kernel
theorem d_P_isLimited_4 : decode b_P_isLimited 4 = .ok (.aload_n 0, 1) := by decide +kernel
theorem d_P_isLimited_5 : decode b_P_isLimited 5 = .ok (.getfield 9, 3) := by decide +kernel
theorem d_P_isLimited_8 : decode b_P_isLimited 8 = .ok (.getfield 22, 3) := by decide +kernel
theorem d_P_isLimited_11 : decode b_P_isLimited 11 = .ok (.if_icmp .gt 7, 3) := by decide +kernel
theorem d_P_isLimited_14 : decode b_P_isLimited 14 = .ok (.iconst 1, 1) := by decide +kernel
theorem d_P_isLimited_15 : decode b_P_isLimited 15 = .ok (.goto 4, 3) := by decide +kernel
theorem d_P_isLimited_18 : decode b_P_isLimited 18 = .ok (.iconst 0, 1) := by decide +kernel
theorem d_P_isLimited_19 : decode b_P_isLimited 19 = .ok (.ireturn, 1) := by decide +kernel
theorem d_L_ship_0 : decode b_L_ship 0 = .ok (.aload 4, 2) := by decide +kernel
theorem d_L_ship_2 : decode b_L_ship 2 = .ok (.iconst 0, 1) := by decide +kernel
theorem d_L_ship_3 : decode b_L_ship 3 = .ok (.aload_n 0, 1) := by decide +kernel
theorem d_L_ship_4 : decode b_L_ship 4 = .ok (.iload_n 1, 1) := by decide +kernel
theorem d_L_ship_5 : decode b_L_ship 5 = .ok (.iload_n 2, 1) := by decide +kernel
theorem d_L_ship_6 : decode b_L_ship 6 = .ok (.iload_n 3, 1) := by decide +kernel
theorem d_L_ship_7 : decode b_L_ship 7 = .ok (.invokevirtual 31, 3) := by decide +kernel
theorem d_L_ship_10 : decode b_L_ship 10 = .ok (.ifCond .eq 7, 3) := by decide +kernel
theorem d_L_ship_13 : decode b_L_ship 13 = .ok (.lconst 1, 1) := by decide +kernel
theorem d_L_ship_14 : decode b_L_ship 14 = .ok (.goto 4, 3) := by decide +kernel
theorem d_L_ship_17 : decode b_L_ship 17 = .ok (.lconst 0, 1) := by decide +kernel
theorem d_L_ship_18 : decode b_L_ship 18 = .ok (.lastore, 1) := by decide +kernel
theorem d_L_ship_19 : decode b_L_ship 19 = .ok (.goto 7, 3) := by decide +kernel
theorem d_L_ship_22 : decode b_L_ship 22 = .ok (.astore 5, 2) := by decide +kernel
theorem d_L_ship_24 : decode b_L_ship 24 = .ok (.iconst 1, 1) := by decide +kernel
theorem d_L_ship_25 : decode b_L_ship 25 = .ok (.ireturn, 1) := by decide +kernel
theorem d_L_ship_26 : decode b_L_ship 26 = .ok (.iconst 0, 1) := by decide +kernel
theorem d_L_ship_27 : decode b_L_ship 27 = .ok (.ireturn, 1) := by decide +kernel
theorem d_T_ship_0 : decode b_T_ship 0 = .ok (.aload_n 0, 1) := by decide +kernel
theorem d_T_ship_1 : decode b_T_ship 1 = .ok (.iload_n 1, 1) := by decide +kernel
theorem d_T_ship_2 : decode b_T_ship 2 = .ok (.iload_n 2, 1) := by decide +kernel
theorem d_T_ship_3 : decode b_T_ship 3 = .ok (.invokevirtual 146, 3) := by decide +kernel
theorem d_T_ship_6 : decode b_T_ship 6 = .ok (.ifCond .ne 13, 3) := by decide +kernel
theorem d_T_ship_9 : decode b_T_ship 9 = .ok (.new 64, 3) := by decide +kernel
theorem d_T_ship_12 : decode b_T_ship 12 = .ok (.dup, 1) := by decide +kernel
theorem d_T_ship_13 : decode b_T_ship 13 = .ok (.ldc 149, 2) := by decide +kernel
theorem d_T_ship_15 : decode b_T_ship 15 = .ok (.invokespecial 68, 3) := by decide +kernel
theorem d_T_ship_18 : decode b_T_ship 18 = .ok (.athrow, 1) := by decide +kernel
theorem d_T_ship_19 : decode b_T_ship 19 = .ok (.iload_n 3, 1) := by decide +kernel
theorem d_T_ship_20 : decode b_T_ship 20 = .ok (.ifCond .lt 9, 3) := by decide +kernel
theorem d_T_ship_23 : decode b_T_ship 23 = .ok (.iload_n 3, 1) := by decide +kernel
theorem d_T_ship_24 : decode b_T_ship 24 = .ok (.bipush 100, 2) := by decide +kernel
theorem d_T_ship_26 : decode b_T_ship 26 = .ok (.if_icmp .le 13, 3) := by decide +kernel
theorem d_T_ship_29 : decode b_T_ship 29 = .ok (.new 64, 3) := by decide +kernel
theorem d_T_ship_32 : decode b_T_ship 32 = .ok (.dup, 1) := by decide +kernel
theorem d_T_ship_33 : decode b_T_ship 33 = .ok (.ldc 155, 2) := by decide +kernel
theorem d_T_ship_35 : decode b_T_ship 35 = .ok (.invokespecial 68, 3) := by decide +kernel
theorem d_T_ship_38 : decode b_T_ship 38 = .ok (.athrow, 1) := by decide +kernel
theorem d_T_ship_39 : decode b_T_ship 39 = .ok (.iload_n 3, 1) := by decide +kernel
theorem d_T_ship_40 : decode b_T_ship 40 = .ok (.aload_n 0, 1) := by decide +kernel
theorem d_T_ship_41 : decode b_T_ship 41 = .ok (.aload_n 0, 1) := by decide +kernel
theorem d_T_ship_42 : decode b_T_ship 42 = .ok (.getfield 33, 3) := by decide +kernel
theorem d_T_ship_45 : decode b_T_ship 45 = .ok (.iload_n 1, 1) := by decide +kernel
theorem d_T_ship_46 : decode b_T_ship 46 = .ok (.invokevirtual 107, 3) := by decide +kernel
theorem d_T_ship_49 : decode b_T_ship 49 = .ok (.checkcast 121, 3) := by decide +kernel
theorem d_T_ship_52 : decode b_T_ship 52 = .ok (.aload_n 0, 1) := by decide +kernel
theorem d_T_ship_53 : decode b_T_ship 53 = .ok (.getfield 33, 3) := by decide +kernel
theorem d_T_ship_56 : decode b_T_ship 56 = .ok (.iload_n 2, 1) := by decide +kernel
theorem d_T_ship_57 : decode b_T_ship 57 = .ok (.invokevirtual 107, 3) := by decide +kernel
theorem d_T_ship_60 : decode b_T_ship 60 = .ok (.checkcast 121, 3) := by decide +kernel
theorem d_T_ship_63 : decode b_T_ship 63 = .ok (.invokevirtual 151, 3) := by decide +kernel
theorem d_T_ship_66 : decode b_T_ship 66 = .ok (.invokestatic 157, 3) := by decide +kernel
theorem d_T_ship_69 : decode b_T_ship 69 = .ok (.if_icmp .lt 7, 3) := by decide +kernel
theorem d_T_ship_72 : decode b_T_ship 72 = .ok (.iconst 1, 1) := by decide +kernel
theorem d_T_ship_73 : decode b_T_ship 73 = .ok (.goto 4, 3) := by decide +kernel
theorem d_T_ship_76 : decode b_T_ship 76 = .ok (.iconst 0, 1) := by decide +kernel
theorem d_T_ship_77 : decode b_T_ship 77 = .ok (.ireturn, 1) := by decide +kernel
theorem d_T_leastCells_0 : decode b_T_leastCells 0 = .ok (.iload_n 0, 1) := by decide +kernel
theorem d_T_leastCells_1 : decode b_T_leastCells 1 = .ok (.tableswitch 40 1 4 #[31, 33, 35, 37], 31) := by decide +kernel
theorem d_T_leastCells_32 : decode b_T_leastCells 32 = .ok (.iconst 1, 1) := by decide +kernel
theorem d_T_leastCells_33 : decode b_T_leastCells 33 = .ok (.ireturn, 1) := by decide +kernel
theorem d_T_leastCells_34 : decode b_T_leastCells 34 = .ok (.iconst 2, 1) := by decide +kernel
theorem d_T_leastCells_35 : decode b_T_leastCells 35 = .ok (.ireturn, 1) := by decide +kernel
theorem d_T_leastCells_36 : decode b_T_leastCells 36 = .ok (.iconst 4, 1) := by decide +kernel
theorem d_T_leastCells_37 : decode b_T_leastCells 37 = .ok (.ireturn, 1) := by decide +kernel
theorem d_T_leastCells_38 : decode b_T_leastCells 38 = .ok (.bipush 8, 2) := by decide +kernel
theorem d_T_leastCells_40 : decode b_T_leastCells 40 = .ok (.ireturn, 1) := by decide +kernel
theorem d_T_leastCells_41 : decode b_T_leastCells 41 = .ok (.iconst 0, 1) := by decide +kernel
theorem d_T_leastCells_42 : decode b_T_leastCells 42 = .ok (.ireturn, 1) := by decide +kernel
theorem d_L_zone_0 : decode b_L_zone 0 = .ok (.aload_n 3, 1) := by decide +kernel
theorem d_L_zone_1 : decode b_L_zone 1 = .ok (.iconst 0, 1) := by decide +kernel
theorem d_L_zone_2 : decode b_L_zone 2 = .ok (.aload_n 0, 1) := by decide +kernel
theorem d_L_zone_3 : decode b_L_zone 3 = .ok (.iload_n 1, 1) := by decide +kernel
theorem d_L_zone_4 : decode b_L_zone 4 = .ok (.iload_n 2, 1) := by decide +kernel
theorem d_L_zone_5 : decode b_L_zone 5 = .ok (.invokevirtual 35, 3) := by decide +kernel
theorem d_L_zone_8 : decode b_L_zone 8 = .ok (.i2l, 1) := by decide +kernel
theorem d_L_zone_9 : decode b_L_zone 9 = .ok (.lastore, 1) := by decide +kernel
theorem d_L_zone_10 : decode b_L_zone 10 = .ok (.goto 7, 3) := by decide +kernel
theorem d_L_zone_13 : decode b_L_zone 13 = .ok (.astore 4, 2) := by decide +kernel
theorem d_L_zone_15 : decode b_L_zone 15 = .ok (.iconst 1, 1) := by decide +kernel
theorem d_L_zone_16 : decode b_L_zone 16 = .ok (.ireturn, 1) := by decide +kernel
theorem d_L_zone_17 : decode b_L_zone 17 = .ok (.iconst 0, 1) := by decide +kernel
theorem d_L_zone_18 : decode b_L_zone 18 = .ok (.ireturn, 1) := by decide +kernel
theorem d_T_zone_0 : decode b_T_zone 0 = .ok (.iload_n 1, 1) := by decide +kernel
theorem d_T_zone_1 : decode b_T_zone 1 = .ok (.invokestatic 161, 3) := by decide +kernel
theorem d_T_zone_4 : decode b_T_zone 4 = .ok (.ifCond .eq 10, 3) := by decide +kernel
theorem d_T_zone_7 : decode b_T_zone 7 = .ok (.iload_n 2, 1) := by decide +kernel
theorem d_T_zone_8 : decode b_T_zone 8 = .ok (.invokestatic 61, 3) := by decide +kernel
theorem d_T_zone_11 : decode b_T_zone 11 = .ok (.ifCond .ne 13, 3) := by decide +kernel
theorem d_T_zone_14 : decode b_T_zone 14 = .ok (.new 64, 3) := by decide +kernel
theorem d_T_zone_17 : decode b_T_zone 17 = .ok (.dup, 1) := by decide +kernel
theorem d_T_zone_18 : decode b_T_zone 18 = .ok (.ldc 164, 2) := by decide +kernel
theorem d_T_zone_20 : decode b_T_zone 20 = .ok (.invokespecial 68, 3) := by decide +kernel
theorem d_T_zone_23 : decode b_T_zone 23 = .ok (.athrow, 1) := by decide +kernel
theorem d_T_zone_24 : decode b_T_zone 24 = .ok (.aload_n 0, 1) := by decide +kernel
theorem d_T_zone_25 : decode b_T_zone 25 = .ok (.iload_n 1, 1) := by decide +kernel
theorem d_T_zone_26 : decode b_T_zone 26 = .ok (.iload_n 2, 1) := by decide +kernel
theorem d_T_zone_27 : decode b_T_zone 27 = .ok (.invokevirtual 166, 3) := by decide +kernel
theorem d_T_zone_30 : decode b_T_zone 30 = .ok (.ireturn, 1) := by decide +kernel
theorem d_T_kilogramsInZone_0 : decode b_T_kilogramsInZone 0 = .ok (.iconst 0, 1) := by decide +kernel
theorem d_T_kilogramsInZone_1 : decode b_T_kilogramsInZone 1 = .ok (.istore_n 3, 1) := by decide +kernel
theorem d_T_kilogramsInZone_2 : decode b_T_kilogramsInZone 2 = .ok (.iconst 0, 1) := by decide +kernel
theorem d_T_kilogramsInZone_3 : decode b_T_kilogramsInZone 3 = .ok (.istore 4, 2) := by decide +kernel
theorem d_T_kilogramsInZone_5 : decode b_T_kilogramsInZone 5 = .ok (.iload 4, 2) := by decide +kernel
theorem d_T_kilogramsInZone_7 : decode b_T_kilogramsInZone 7 = .ok (.aload_n 0, 1) := by decide +kernel
theorem d_T_kilogramsInZone_8 : decode b_T_kilogramsInZone 8 = .ok (.getfield 33, 3) := by decide +kernel
theorem d_T_kilogramsInZone_11 : decode b_T_kilogramsInZone 11 = .ok (.invokevirtual 83, 3) := by decide +kernel
theorem d_T_kilogramsInZone_14 : decode b_T_kilogramsInZone 14 = .ok (.if_icmp .ge 41, 3) := by decide +kernel
theorem d_T_kilogramsInZone_17 : decode b_T_kilogramsInZone 17 = .ok (.aload_n 0, 1) := by decide +kernel
theorem d_T_kilogramsInZone_18 : decode b_T_kilogramsInZone 18 = .ok (.getfield 33, 3) := by decide +kernel
theorem d_T_kilogramsInZone_21 : decode b_T_kilogramsInZone 21 = .ok (.iload 4, 2) := by decide +kernel
theorem d_T_kilogramsInZone_23 : decode b_T_kilogramsInZone 23 = .ok (.invokevirtual 107, 3) := by decide +kernel
theorem d_T_kilogramsInZone_26 : decode b_T_kilogramsInZone 26 = .ok (.checkcast 121, 3) := by decide +kernel
theorem d_T_kilogramsInZone_29 : decode b_T_kilogramsInZone 29 = .ok (.astore 5, 2) := by decide +kernel
theorem d_T_kilogramsInZone_31 : decode b_T_kilogramsInZone 31 = .ok (.aload 5, 2) := by decide +kernel
theorem d_T_kilogramsInZone_33 : decode b_T_kilogramsInZone 33 = .ok (.getfield 186, 3) := by decide +kernel
theorem d_T_kilogramsInZone_36 : decode b_T_kilogramsInZone 36 = .ok (.iload_n 1, 1) := by decide +kernel
theorem d_T_kilogramsInZone_37 : decode b_T_kilogramsInZone 37 = .ok (.if_icmp .ne 12, 3) := by decide +kernel
theorem d_T_kilogramsInZone_40 : decode b_T_kilogramsInZone 40 = .ok (.iload_n 3, 1) := by decide +kernel
theorem d_T_kilogramsInZone_41 : decode b_T_kilogramsInZone 41 = .ok (.aload 5, 2) := by decide +kernel
theorem d_T_kilogramsInZone_43 : decode b_T_kilogramsInZone 43 = .ok (.iload_n 2, 1) := by decide +kernel
theorem d_T_kilogramsInZone_44 : decode b_T_kilogramsInZone 44 = .ok (.invokevirtual 259, 3) := by decide +kernel
theorem d_T_kilogramsInZone_47 : decode b_T_kilogramsInZone 47 = .ok (.iadd, 1) := by decide +kernel
theorem d_T_kilogramsInZone_48 : decode b_T_kilogramsInZone 48 = .ok (.istore_n 3, 1) := by decide +kernel
theorem d_T_kilogramsInZone_49 : decode b_T_kilogramsInZone 49 = .ok (.iinc 4 1, 3) := by decide +kernel
theorem d_T_kilogramsInZone_52 : decode b_T_kilogramsInZone 52 = .ok (.goto (-47), 3) := by decide +kernel
theorem d_T_kilogramsInZone_55 : decode b_T_kilogramsInZone 55 = .ok (.iload_n 3, 1) := by decide +kernel
theorem d_T_kilogramsInZone_56 : decode b_T_kilogramsInZone 56 = .ok (.ireturn, 1) := by decide +kernel
theorem d_X_kilogramsOf_0 : decode b_X_kilogramsOf 0 = .ok (.iconst 0, 1) := by decide +kernel
theorem d_X_kilogramsOf_1 : decode b_X_kilogramsOf 1 = .ok (.istore_n 2, 1) := by decide +kernel
theorem d_X_kilogramsOf_2 : decode b_X_kilogramsOf 2 = .ok (.iconst 0, 1) := by decide +kernel
theorem d_X_kilogramsOf_3 : decode b_X_kilogramsOf 3 = .ok (.istore_n 3, 1) := by decide +kernel
theorem d_X_kilogramsOf_4 : decode b_X_kilogramsOf 4 = .ok (.iload_n 3, 1) := by decide +kernel
theorem d_X_kilogramsOf_5 : decode b_X_kilogramsOf 5 = .ok (.aload_n 0, 1) := by decide +kernel
theorem d_X_kilogramsOf_6 : decode b_X_kilogramsOf 6 = .ok (.getfield 12, 3) := by decide +kernel
theorem d_X_kilogramsOf_9 : decode b_X_kilogramsOf 9 = .ok (.invokevirtual 37, 3) := by decide +kernel
theorem d_X_kilogramsOf_12 : decode b_X_kilogramsOf 12 = .ok (.if_icmp .ge 42, 3) := by decide +kernel
theorem d_X_kilogramsOf_15 : decode b_X_kilogramsOf 15 = .ok (.aload_n 0, 1) := by decide +kernel
theorem d_X_kilogramsOf_16 : decode b_X_kilogramsOf 16 = .ok (.getfield 12, 3) := by decide +kernel
theorem d_X_kilogramsOf_19 : decode b_X_kilogramsOf 19 = .ok (.iload_n 3, 1) := by decide +kernel
theorem d_X_kilogramsOf_20 : decode b_X_kilogramsOf 20 = .ok (.invokevirtual 41, 3) := by decide +kernel
theorem d_X_kilogramsOf_23 : decode b_X_kilogramsOf 23 = .ok (.checkcast 28, 3) := by decide +kernel
theorem d_X_kilogramsOf_26 : decode b_X_kilogramsOf 26 = .ok (.astore 4, 2) := by decide +kernel
theorem d_X_kilogramsOf_28 : decode b_X_kilogramsOf 28 = .ok (.aload 4, 2) := by decide +kernel
theorem d_X_kilogramsOf_30 : decode b_X_kilogramsOf 30 = .ok (.getfield 57, 3) := by decide +kernel
theorem d_X_kilogramsOf_33 : decode b_X_kilogramsOf 33 = .ok (.iload_n 1, 1) := by decide +kernel
theorem d_X_kilogramsOf_34 : decode b_X_kilogramsOf 34 = .ok (.invokevirtual 61, 3) := by decide +kernel
theorem d_X_kilogramsOf_37 : decode b_X_kilogramsOf 37 = .ok (.ifCond .eq 11, 3) := by decide +kernel
theorem d_X_kilogramsOf_40 : decode b_X_kilogramsOf 40 = .ok (.iload_n 2, 1) := by decide +kernel
theorem d_X_kilogramsOf_41 : decode b_X_kilogramsOf 41 = .ok (.aload 4, 2) := by decide +kernel
theorem d_X_kilogramsOf_43 : decode b_X_kilogramsOf 43 = .ok (.getfield 54, 3) := by decide +kernel
theorem d_X_kilogramsOf_46 : decode b_X_kilogramsOf 46 = .ok (.iadd, 1) := by decide +kernel
theorem d_X_kilogramsOf_47 : decode b_X_kilogramsOf 47 = .ok (.istore_n 2, 1) := by decide +kernel
theorem d_X_kilogramsOf_48 : decode b_X_kilogramsOf 48 = .ok (.iinc 3 1, 3) := by decide +kernel
theorem d_X_kilogramsOf_51 : decode b_X_kilogramsOf 51 = .ok (.goto (-47), 3) := by decide +kernel
theorem d_X_kilogramsOf_54 : decode b_X_kilogramsOf 54 = .ok (.iload_n 2, 1) := by decide +kernel
theorem d_X_kilogramsOf_55 : decode b_X_kilogramsOf 55 = .ok (.ireturn, 1) := by decide +kernel
theorem d_G_hasClass_0 : decode b_G_hasClass 0 = .ok (.aload_n 0, 1) := by decide +kernel
theorem d_G_hasClass_1 : decode b_G_hasClass 1 = .ok (.getfield 7, 3) := by decide +kernel
theorem d_G_hasClass_4 : decode b_G_hasClass 4 = .ok (.iload_n 1, 1) := by decide +kernel
theorem d_G_hasClass_5 : decode b_G_hasClass 5 = .ok (.if_icmp .eq 11, 3) := by decide +kernel
theorem d_G_hasClass_8 : decode b_G_hasClass 8 = .ok (.aload_n 0, 1) := by decide +kernel
theorem d_G_hasClass_9 : decode b_G_hasClass 9 = .ok (.getfield 13, 3) := by decide +kernel
theorem d_G_hasClass_12 : decode b_G_hasClass 12 = .ok (.iload_n 1, 1) := by decide +kernel
theorem d_G_hasClass_13 : decode b_G_hasClass 13 = .ok (.if_icmp .ne 7, 3) := by decide +kernel
theorem d_G_hasClass_16 : decode b_G_hasClass 16 = .ok (.iconst 1, 1) := by decide +kernel
theorem d_G_hasClass_17 : decode b_G_hasClass 17 = .ok (.goto 4, 3) := by decide +kernel
theorem d_G_hasClass_20 : decode b_G_hasClass 20 = .ok (.iconst 0, 1) := by decide +kernel
theorem d_G_hasClass_21 : decode b_G_hasClass 21 = .ok (.ireturn, 1) := by decide +kernel
theorem d_L_put_0 : decode b_L_put 0 = .ok (.aload 5, 2) := by decide +kernel
theorem d_L_put_2 : decode b_L_put 2 = .ok (.iconst 0, 1) := by decide +kernel
theorem d_L_put_3 : decode b_L_put 3 = .ok (.aload_n 0, 1) := by decide +kernel
theorem d_L_put_4 : decode b_L_put 4 = .ok (.iload_n 1, 1) := by decide +kernel
theorem d_L_put_5 : decode b_L_put 5 = .ok (.iload_n 2, 1) := by decide +kernel
theorem d_L_put_6 : decode b_L_put 6 = .ok (.iload_n 3, 1) := by decide +kernel
theorem d_L_put_7 : decode b_L_put 7 = .ok (.iload 4, 2) := by decide +kernel
theorem d_L_put_9 : decode b_L_put 9 = .ok (.invokevirtual 38, 3) := by decide +kernel
theorem d_L_put_12 : decode b_L_put 12 = .ok (.i2l, 1) := by decide +kernel
theorem d_L_put_13 : decode b_L_put 13 = .ok (.lastore, 1) := by decide +kernel
theorem d_L_put_14 : decode b_L_put 14 = .ok (.goto 11, 3) := by decide +kernel
theorem d_L_put_17 : decode b_L_put 17 = .ok (.astore 6, 2) := by decide +kernel
theorem d_L_put_19 : decode b_L_put 19 = .ok (.iconst 1, 1) := by decide +kernel
theorem d_L_put_20 : decode b_L_put 20 = .ok (.ireturn, 1) := by decide +kernel
theorem d_L_put_21 : decode b_L_put 21 = .ok (.astore 6, 2) := by decide +kernel
theorem d_L_put_23 : decode b_L_put 23 = .ok (.iconst 2, 1) := by decide +kernel
theorem d_L_put_24 : decode b_L_put 24 = .ok (.ireturn, 1) := by decide +kernel
theorem d_L_put_25 : decode b_L_put 25 = .ok (.iconst 0, 1) := by decide +kernel
theorem d_L_put_26 : decode b_L_put 26 = .ok (.ireturn, 1) := by decide +kernel
theorem d_T_put_0 : decode b_T_put 0 = .ok (.iload_n 1, 1) := by decide +kernel
theorem d_T_put_1 : decode b_T_put 1 = .ok (.invokestatic 161, 3) := by decide +kernel
theorem d_T_put_4 : decode b_T_put 4 = .ok (.ifCond .eq 20, 3) := by decide +kernel
theorem d_T_put_7 : decode b_T_put 7 = .ok (.aload_n 0, 1) := by decide +kernel
theorem d_T_put_8 : decode b_T_put 8 = .ok (.iload_n 2, 1) := by decide +kernel
theorem d_T_put_9 : decode b_T_put 9 = .ok (.invokevirtual 127, 3) := by decide +kernel
theorem d_T_put_12 : decode b_T_put 12 = .ok (.ifCond .eq 12, 3) := by decide +kernel
theorem d_T_put_15 : decode b_T_put 15 = .ok (.iload_n 3, 1) := by decide +kernel
theorem d_T_put_16 : decode b_T_put 16 = .ok (.iload 4, 2) := by decide +kernel
theorem d_T_put_18 : decode b_T_put 18 = .ok (.invokestatic 169, 3) := by decide +kernel
theorem d_T_put_21 : decode b_T_put 21 = .ok (.ifCond .ne 13, 3) := by decide +kernel
theorem d_T_put_24 : decode b_T_put 24 = .ok (.new 64, 3) := by decide +kernel
theorem d_T_put_27 : decode b_T_put 27 = .ok (.dup, 1) := by decide +kernel
theorem d_T_put_28 : decode b_T_put 28 = .ok (.ldc 172, 2) := by decide +kernel
theorem d_T_put_30 : decode b_T_put 30 = .ok (.invokespecial 68, 3) := by decide +kernel
theorem d_T_put_33 : decode b_T_put 33 = .ok (.athrow, 1) := by decide +kernel
theorem d_T_put_34 : decode b_T_put 34 = .ok (.aload_n 0, 1) := by decide +kernel
theorem d_T_put_35 : decode b_T_put 35 = .ok (.getfield 33, 3) := by decide +kernel
theorem d_T_put_38 : decode b_T_put 38 = .ok (.iload_n 2, 1) := by decide +kernel
theorem d_T_put_39 : decode b_T_put 39 = .ok (.invokevirtual 107, 3) := by decide +kernel
theorem d_T_put_42 : decode b_T_put 42 = .ok (.checkcast 121, 3) := by decide +kernel
theorem d_T_put_45 : decode b_T_put 45 = .ok (.astore 5, 2) := by decide +kernel
theorem d_T_put_47 : decode b_T_put 47 = .ok (.aload 5, 2) := by decide +kernel
theorem d_T_put_49 : decode b_T_put 49 = .ok (.invokevirtual 137, 3) := by decide +kernel
theorem d_T_put_52 : decode b_T_put 52 = .ok (.ifCond .eq 13, 3) := by decide +kernel
theorem d_T_put_55 : decode b_T_put 55 = .ok (.new 86, 3) := by decide +kernel
theorem d_T_put_58 : decode b_T_put 58 = .ok (.dup, 1) := by decide +kernel
theorem d_T_put_59 : decode b_T_put 59 = .ok (.ldc 174, 2) := by decide +kernel
theorem d_T_put_61 : decode b_T_put 61 = .ok (.invokespecial 90, 3) := by decide +kernel
theorem d_T_put_64 : decode b_T_put 64 = .ok (.athrow, 1) := by decide +kernel
theorem d_T_put_65 : decode b_T_put 65 = .ok (.aload_n 0, 1) := by decide +kernel
theorem d_T_put_66 : decode b_T_put 66 = .ok (.aload 5, 2) := by decide +kernel
theorem d_T_put_68 : decode b_T_put 68 = .ok (.iload_n 1, 1) := by decide +kernel
theorem d_T_put_69 : decode b_T_put 69 = .ok (.iload_n 3, 1) := by decide +kernel
theorem d_T_put_70 : decode b_T_put 70 = .ok (.iload 4, 2) := by decide +kernel
theorem d_T_put_72 : decode b_T_put 72 = .ok (.invokevirtual 176, 3) := by decide +kernel
theorem d_T_put_75 : decode b_T_put 75 = .ok (.istore 6, 2) := by decide +kernel
theorem d_T_put_77 : decode b_T_put 77 = .ok (.iload 6, 2) := by decide +kernel
theorem d_T_put_79 : decode b_T_put 79 = .ok (.ifCond .ne 12, 3) := by decide +kernel
theorem d_T_put_82 : decode b_T_put 82 = .ok (.aload 5, 2) := by decide +kernel
theorem d_T_put_84 : decode b_T_put 84 = .ok (.iload_n 1, 1) := by decide +kernel
theorem d_T_put_85 : decode b_T_put 85 = .ok (.iload_n 3, 1) := by decide +kernel
theorem d_T_put_86 : decode b_T_put 86 = .ok (.iload 4, 2) := by decide +kernel
theorem d_T_put_88 : decode b_T_put 88 = .ok (.invokevirtual 180, 3) := by decide +kernel
theorem d_T_put_91 : decode b_T_put 91 = .ok (.iload 6, 2) := by decide +kernel
theorem d_T_put_93 : decode b_T_put 93 = .ok (.ireturn, 1) := by decide +kernel
theorem d_T_isSlot_0 : decode b_T_isSlot 0 = .ok (.iload_n 0, 1) := by decide +kernel
theorem d_T_isSlot_1 : decode b_T_isSlot 1 = .ok (.ifCond .lt 23, 3) := by decide +kernel
theorem d_T_isSlot_4 : decode b_T_isSlot 4 = .ok (.iload_n 0, 1) := by decide +kernel
theorem d_T_isSlot_5 : decode b_T_isSlot 5 = .ok (.bipush 20, 2) := by decide +kernel
theorem d_T_isSlot_7 : decode b_T_isSlot 7 = .ok (.if_icmp .ge 17, 3) := by decide +kernel
theorem d_T_isSlot_10 : decode b_T_isSlot 10 = .ok (.iload_n 1, 1) := by decide +kernel
theorem d_T_isSlot_11 : decode b_T_isSlot 11 = .ok (.ifCond .lt 13, 3) := by decide +kernel
theorem d_T_isSlot_14 : decode b_T_isSlot 14 = .ok (.iload_n 1, 1) := by decide +kernel
theorem d_T_isSlot_15 : decode b_T_isSlot 15 = .ok (.bipush 20, 2) := by decide +kernel
theorem d_T_isSlot_17 : decode b_T_isSlot 17 = .ok (.if_icmp .ge 7, 3) := by decide +kernel
theorem d_T_isSlot_20 : decode b_T_isSlot 20 = .ok (.iconst 1, 1) := by decide +kernel
theorem d_T_isSlot_21 : decode b_T_isSlot 21 = .ok (.goto 4, 3) := by decide +kernel
theorem d_T_isSlot_24 : decode b_T_isSlot 24 = .ok (.iconst 0, 1) := by decide +kernel
theorem d_T_isSlot_25 : decode b_T_isSlot 25 = .ok (.ireturn, 1) := by decide +kernel
theorem d_T_firstBar_0 : decode b_T_firstBar 0 = .ok (.aload_n 1, 1) := by decide +kernel
theorem d_T_firstBar_1 : decode b_T_firstBar 1 = .ok (.invokevirtual 193, 3) := by decide +kernel
theorem d_T_firstBar_4 : decode b_T_firstBar 4 = .ok (.ifCond .eq 6, 3) := by decide +kernel
theorem d_T_firstBar_7 : decode b_T_firstBar 7 = .ok (.bipush 16, 2) := by decide +kernel
theorem d_T_firstBar_9 : decode b_T_firstBar 9 = .ok (.ireturn, 1) := by decide +kernel
theorem d_T_firstBar_10 : decode b_T_firstBar 10 = .ok (.aload_n 0, 1) := by decide +kernel
theorem d_T_firstBar_11 : decode b_T_firstBar 11 = .ok (.iload_n 2, 1) := by decide +kernel
theorem d_T_firstBar_12 : decode b_T_firstBar 12 = .ok (.iload_n 3, 1) := by decide +kernel
theorem d_T_firstBar_13 : decode b_T_firstBar 13 = .ok (.iload 4, 2) := by decide +kernel
theorem d_T_firstBar_15 : decode b_T_firstBar 15 = .ok (.invokevirtual 262, 3) := by decide +kernel
theorem d_T_firstBar_18 : decode b_T_firstBar 18 = .ok (.ifCond .eq 6, 3) := by decide +kernel
theorem d_T_firstBar_21 : decode b_T_firstBar 21 = .ok (.bipush 32, 2) := by decide +kernel
theorem d_T_firstBar_23 : decode b_T_firstBar 23 = .ok (.ireturn, 1) := by decide +kernel
theorem d_T_firstBar_24 : decode b_T_firstBar 24 = .ok (.aload_n 0, 1) := by decide +kernel
theorem d_T_firstBar_25 : decode b_T_firstBar 25 = .ok (.aload_n 1, 1) := by decide +kernel
theorem d_T_firstBar_26 : decode b_T_firstBar 26 = .ok (.iload_n 2, 1) := by decide +kernel
theorem d_T_firstBar_27 : decode b_T_firstBar 27 = .ok (.invokevirtual 266, 3) := by decide +kernel
theorem d_T_firstBar_30 : decode b_T_firstBar 30 = .ok (.istore 5, 2) := by decide +kernel
theorem d_T_firstBar_32 : decode b_T_firstBar 32 = .ok (.iload 5, 2) := by decide +kernel
theorem d_T_firstBar_34 : decode b_T_firstBar 34 = .ok (.iconst (-1), 1) := by decide +kernel
theorem d_T_firstBar_35 : decode b_T_firstBar 35 = .ok (.if_icmp .eq 9, 3) := by decide +kernel
theorem d_T_firstBar_38 : decode b_T_firstBar 38 = .ok (.bipush 48, 2) := by decide +kernel
theorem d_T_firstBar_40 : decode b_T_firstBar 40 = .ok (.iload 5, 2) := by decide +kernel
theorem d_T_firstBar_42 : decode b_T_firstBar 42 = .ok (.iadd, 1) := by decide +kernel
theorem d_T_firstBar_43 : decode b_T_firstBar 43 = .ok (.ireturn, 1) := by decide +kernel
theorem d_T_firstBar_44 : decode b_T_firstBar 44 = .ok (.aload_n 0, 1) := by decide +kernel
theorem d_T_firstBar_45 : decode b_T_firstBar 45 = .ok (.aload_n 1, 1) := by decide +kernel
theorem d_T_firstBar_46 : decode b_T_firstBar 46 = .ok (.iload_n 2, 1) := by decide +kernel
theorem d_T_firstBar_47 : decode b_T_firstBar 47 = .ok (.iload_n 3, 1) := by decide +kernel
theorem d_T_firstBar_48 : decode b_T_firstBar 48 = .ok (.iload 4, 2) := by decide +kernel
theorem d_T_firstBar_50 : decode b_T_firstBar 50 = .ok (.invokevirtual 270, 3) := by decide +kernel
theorem d_T_firstBar_53 : decode b_T_firstBar 53 = .ok (.istore 6, 2) := by decide +kernel
theorem d_T_firstBar_55 : decode b_T_firstBar 55 = .ok (.iload 6, 2) := by decide +kernel
theorem d_T_firstBar_57 : decode b_T_firstBar 57 = .ok (.iconst (-1), 1) := by decide +kernel
theorem d_T_firstBar_58 : decode b_T_firstBar 58 = .ok (.if_icmp .ne 7, 3) := by decide +kernel
theorem d_T_firstBar_61 : decode b_T_firstBar 61 = .ok (.iconst 0, 1) := by decide +kernel
theorem d_T_firstBar_62 : decode b_T_firstBar 62 = .ok (.goto 8, 3) := by decide +kernel
theorem d_T_firstBar_65 : decode b_T_firstBar 65 = .ok (.bipush 64, 2) := by decide +kernel
theorem d_T_firstBar_67 : decode b_T_firstBar 67 = .ok (.iload 6, 2) := by decide +kernel
theorem d_T_firstBar_69 : decode b_T_firstBar 69 = .ok (.iadd, 1) := by decide +kernel
theorem d_T_firstBar_70 : decode b_T_firstBar 70 = .ok (.ireturn, 1) := by decide +kernel
theorem d_X_untoldFields_0 : decode b_X_untoldFields 0 = .ok (.iconst 0, 1) := by decide +kernel
theorem d_X_untoldFields_1 : decode b_X_untoldFields 1 = .ok (.istore_n 1, 1) := by decide +kernel
theorem d_X_untoldFields_2 : decode b_X_untoldFields 2 = .ok (.iconst 0, 1) := by decide +kernel
theorem d_X_untoldFields_3 : decode b_X_untoldFields 3 = .ok (.istore_n 2, 1) := by decide +kernel
theorem d_X_untoldFields_4 : decode b_X_untoldFields 4 = .ok (.iload_n 2, 1) := by decide +kernel
theorem d_X_untoldFields_5 : decode b_X_untoldFields 5 = .ok (.aload_n 0, 1) := by decide +kernel
theorem d_X_untoldFields_6 : decode b_X_untoldFields 6 = .ok (.getfield 12, 3) := by decide +kernel
theorem d_X_untoldFields_9 : decode b_X_untoldFields 9 = .ok (.invokevirtual 37, 3) := by decide +kernel
theorem d_X_untoldFields_12 : decode b_X_untoldFields 12 = .ok (.if_icmp .ge 26, 3) := by decide +kernel
theorem d_X_untoldFields_15 : decode b_X_untoldFields 15 = .ok (.iload_n 1, 1) := by decide +kernel
theorem d_X_untoldFields_16 : decode b_X_untoldFields 16 = .ok (.aload_n 0, 1) := by decide +kernel
theorem d_X_untoldFields_17 : decode b_X_untoldFields 17 = .ok (.getfield 12, 3) := by decide +kernel
theorem d_X_untoldFields_20 : decode b_X_untoldFields 20 = .ok (.iload_n 2, 1) := by decide +kernel
theorem d_X_untoldFields_21 : decode b_X_untoldFields 21 = .ok (.invokevirtual 41, 3) := by decide +kernel
theorem d_X_untoldFields_24 : decode b_X_untoldFields 24 = .ok (.checkcast 28, 3) := by decide +kernel
theorem d_X_untoldFields_27 : decode b_X_untoldFields 27 = .ok (.invokevirtual 74, 3) := by decide +kernel
theorem d_X_untoldFields_30 : decode b_X_untoldFields 30 = .ok (.ior, 1) := by decide +kernel
theorem d_X_untoldFields_31 : decode b_X_untoldFields 31 = .ok (.istore_n 1, 1) := by decide +kernel
theorem d_X_untoldFields_32 : decode b_X_untoldFields 32 = .ok (.iinc 2 1, 3) := by decide +kernel
theorem d_X_untoldFields_35 : decode b_X_untoldFields 35 = .ok (.goto (-31), 3) := by decide +kernel
theorem d_X_untoldFields_38 : decode b_X_untoldFields 38 = .ok (.iload_n 1, 1) := by decide +kernel
theorem d_X_untoldFields_39 : decode b_X_untoldFields 39 = .ok (.aload_n 0, 1) := by decide +kernel
theorem d_X_untoldFields_40 : decode b_X_untoldFields 40 = .ok (.getfield 71, 3) := by decide +kernel
theorem d_X_untoldFields_43 : decode b_X_untoldFields 43 = .ok (.iconst (-1), 1) := by decide +kernel
theorem d_X_untoldFields_44 : decode b_X_untoldFields 44 = .ok (.ixor, 1) := by decide +kernel
theorem d_X_untoldFields_45 : decode b_X_untoldFields 45 = .ok (.iand, 1) := by decide +kernel
theorem d_X_untoldFields_46 : decode b_X_untoldFields 46 = .ok (.ireturn, 1) := by decide +kernel
theorem d_P_wantedFields_0 : decode b_P_wantedFields 0 = .ok (.aload_n 0, 1) := by decide +kernel
theorem d_P_wantedFields_1 : decode b_P_wantedFields 1 = .ok (.invokevirtual 27, 3) := by decide +kernel
theorem d_P_wantedFields_4 : decode b_P_wantedFields 4 = .ok (.ifCond .eq 13, 3) := by decide +kernel
theorem d_P_wantedFields_7 : decode b_P_wantedFields 7 = .ok (.aload_n 0, 1) := by decide +kernel
theorem d_P_wantedFields_8 : decode b_P_wantedFields 8 = .ok (.getfield 9, 3) := by decide +kernel
theorem d_P_wantedFields_11 : decode b_P_wantedFields 11 = .ok (.getfield 31, 3) := by decide +kernel
theorem d_P_wantedFields_14 : decode b_P_wantedFields 14 = .ok (.goto 13, 3) := by decide +kernel
theorem d_P_wantedFields_17 : decode b_P_wantedFields 17 = .ok (.aload_n 0, 1) := by decide +kernel
theorem d_P_wantedFields_18 : decode b_P_wantedFields 18 = .ok (.getfield 9, 3) := by decide +kernel
theorem d_P_wantedFields_21 : decode b_P_wantedFields 21 = .ok (.getfield 31, 3) := by decide +kernel
theorem d_P_wantedFields_24 : decode b_P_wantedFields 24 = .ok (.bipush 16, 2) := by decide +kernel
theorem d_P_wantedFields_26 : decode b_P_wantedFields 26 = .ok (.ior, 1) := by decide +kernel
theorem d_P_wantedFields_27 : decode b_P_wantedFields 27 = .ok (.ireturn, 1) := by decide +kernel
theorem d_T_isTaken_0 : decode b_T_isTaken 0 = .ok (.iconst 0, 1) := by decide +kernel
