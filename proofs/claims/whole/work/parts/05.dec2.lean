theorem d_T_lyingCount_19 : decode b_T_lyingCount 19 = .ok (.iload_n 2, 1) := by decide +kernel
theorem d_T_lyingCount_20 : decode b_T_lyingCount 20 = .ok (.invokevirtual 107, 3) := by decide +kernel
theorem d_T_lyingCount_23 : decode b_T_lyingCount 23 = .ok (.checkcast 121, 3) := by decide +kernel
theorem d_T_lyingCount_26 : decode b_T_lyingCount 26 = .ok (.invokevirtual 137, 3) := by decide +kernel
theorem d_T_lyingCount_29 : decode b_T_lyingCount 29 = .ok (.ifCond .eq 6, 3) := by decide +kernel
theorem d_T_lyingCount_32 : decode b_T_lyingCount 32 = .ok (.iinc 1 1, 3) := by decide +kernel
theorem d_T_lyingCount_35 : decode b_T_lyingCount 35 = .ok (.iinc 2 1, 3) := by decide +kernel
theorem d_T_lyingCount_38 : decode b_T_lyingCount 38 = .ok (.goto (-34), 3) := by decide +kernel
theorem d_T_lyingCount_41 : decode b_T_lyingCount 41 = .ok (.iload_n 1, 1) := by decide +kernel
theorem d_T_lyingCount_42 : decode b_T_lyingCount 42 = .ok (.ireturn, 1) := by decide +kernel
theorem d_X_lies_0 : decode b_X_lies 0 = .ok (.aload_n 0, 1) := by decide +kernel
theorem d_X_lies_1 : decode b_X_lies 1 = .ok (.getfield 18, 3) := by decide +kernel
theorem d_X_lies_4 : decode b_X_lies 4 = .ok (.iconst (-1), 1) := by decide +kernel
theorem d_X_lies_5 : decode b_X_lies 5 = .ok (.if_icmp .eq 7, 3) := by decide +kernel
theorem d_X_lies_8 : decode b_X_lies 8 = .ok (.iconst 1, 1) := by decide +kernel
theorem d_X_lies_9 : decode b_X_lies 9 = .ok (.goto 4, 3) := by decide +kernel
theorem d_X_lies_12 : decode b_X_lies 12 = .ok (.iconst 0, 1) := by decide +kernel
theorem d_X_lies_13 : decode b_X_lies 13 = .ok (.ireturn, 1) := by decide +kernel
theorem d_L_rule_0 : decode b_L_rule 0 = .ok (.aload_n 3, 1) := by decide +kernel
theorem d_L_rule_1 : decode b_L_rule 1 = .ok (.iconst 0, 1) := by decide +kernel
theorem d_L_rule_2 : decode b_L_rule 2 = .ok (.aload_n 0, 1) := by decide +kernel
theorem d_L_rule_3 : decode b_L_rule 3 = .ok (.iload_n 1, 1) := by decide +kernel
theorem d_L_rule_4 : decode b_L_rule 4 = .ok (.iload_n 2, 1) := by decide +kernel
theorem d_L_rule_5 : decode b_L_rule 5 = .ok (.invokevirtual 7, 3) := by decide +kernel
theorem d_L_rule_8 : decode b_L_rule 8 = .ok (.i2l, 1) := by decide +kernel
theorem d_L_rule_9 : decode b_L_rule 9 = .ok (.lastore, 1) := by decide +kernel
theorem d_L_rule_10 : decode b_L_rule 10 = .ok (.goto 7, 3) := by decide +kernel
theorem d_L_rule_13 : decode b_L_rule 13 = .ok (.astore 4, 2) := by decide +kernel
theorem d_L_rule_15 : decode b_L_rule 15 = .ok (.iconst 1, 1) := by decide +kernel
theorem d_L_rule_16 : decode b_L_rule 16 = .ok (.ireturn, 1) := by decide +kernel
theorem d_L_rule_17 : decode b_L_rule 17 = .ok (.iconst 0, 1) := by decide +kernel
theorem d_L_rule_18 : decode b_L_rule 18 = .ok (.ireturn, 1) := by decide +kernel
theorem d_T_rule_0 : decode b_T_rule 0 = .ok (.iload_n 1, 1) := by decide +kernel
theorem d_T_rule_1 : decode b_T_rule 1 = .ok (.invokestatic 61, 3) := by decide +kernel
theorem d_T_rule_4 : decode b_T_rule 4 = .ok (.ifCond .eq 10, 3) := by decide +kernel
theorem d_T_rule_7 : decode b_T_rule 7 = .ok (.iload_n 2, 1) := by decide +kernel
theorem d_T_rule_8 : decode b_T_rule 8 = .ok (.invokestatic 61, 3) := by decide +kernel
theorem d_T_rule_11 : decode b_T_rule 11 = .ok (.ifCond .ne 13, 3) := by decide +kernel
theorem d_T_rule_14 : decode b_T_rule 14 = .ok (.new 64, 3) := by decide +kernel
theorem d_T_rule_17 : decode b_T_rule 17 = .ok (.dup, 1) := by decide +kernel
theorem d_T_rule_18 : decode b_T_rule 18 = .ok (.ldc 66, 2) := by decide +kernel
theorem d_T_rule_20 : decode b_T_rule 20 = .ok (.invokespecial 68, 3) := by decide +kernel
theorem d_T_rule_23 : decode b_T_rule 23 = .ok (.athrow, 1) := by decide +kernel
theorem d_T_rule_24 : decode b_T_rule 24 = .ok (.aload_n 0, 1) := by decide +kernel
theorem d_T_rule_25 : decode b_T_rule 25 = .ok (.getfield 16, 3) := by decide +kernel
theorem d_T_rule_28 : decode b_T_rule 28 = .ok (.iload_n 1, 1) := by decide +kernel
theorem d_T_rule_29 : decode b_T_rule 29 = .ok (.iload_n 2, 1) := by decide +kernel
theorem d_T_rule_30 : decode b_T_rule 30 = .ok (.invokestatic 71, 3) := by decide +kernel
theorem d_T_rule_33 : decode b_T_rule 33 = .ok (.iaload, 1) := by decide +kernel
theorem d_T_rule_34 : decode b_T_rule 34 = .ok (.ireturn, 1) := by decide +kernel
theorem d_L_good_0 : decode b_L_good 0 = .ok (.aload 7, 2) := by decide +kernel
theorem d_L_good_2 : decode b_L_good 2 = .ok (.iconst 0, 1) := by decide +kernel
theorem d_L_good_3 : decode b_L_good 3 = .ok (.aload_n 0, 1) := by decide +kernel
theorem d_L_good_4 : decode b_L_good 4 = .ok (.iload_n 1, 1) := by decide +kernel
theorem d_L_good_5 : decode b_L_good 5 = .ok (.iload_n 2, 1) := by decide +kernel
theorem d_L_good_6 : decode b_L_good 6 = .ok (.iload_n 3, 1) := by decide +kernel
theorem d_L_good_7 : decode b_L_good 7 = .ok (.iload 4, 2) := by decide +kernel
theorem d_L_good_9 : decode b_L_good 9 = .ok (.iload 5, 2) := by decide +kernel
theorem d_L_good_11 : decode b_L_good 11 = .ok (.iload 6, 2) := by decide +kernel
theorem d_L_good_13 : decode b_L_good 13 = .ok (.invokevirtual 15, 3) := by decide +kernel
theorem d_L_good_16 : decode b_L_good 16 = .ok (.i2l, 1) := by decide +kernel
theorem d_L_good_17 : decode b_L_good 17 = .ok (.lastore, 1) := by decide +kernel
theorem d_L_good_18 : decode b_L_good 18 = .ok (.goto 11, 3) := by decide +kernel
theorem d_L_good_21 : decode b_L_good 21 = .ok (.astore 8, 2) := by decide +kernel
theorem d_L_good_23 : decode b_L_good 23 = .ok (.iconst 1, 1) := by decide +kernel
theorem d_L_good_24 : decode b_L_good 24 = .ok (.ireturn, 1) := by decide +kernel
theorem d_L_good_25 : decode b_L_good 25 = .ok (.astore 8, 2) := by decide +kernel
theorem d_L_good_27 : decode b_L_good 27 = .ok (.iconst 2, 1) := by decide +kernel
theorem d_L_good_28 : decode b_L_good 28 = .ok (.ireturn, 1) := by decide +kernel
theorem d_L_good_29 : decode b_L_good 29 = .ok (.iconst 0, 1) := by decide +kernel
theorem d_L_good_30 : decode b_L_good 30 = .ok (.ireturn, 1) := by decide +kernel
theorem d_T_good_0 : decode b_T_good 0 = .ok (.iload_n 1, 1) := by decide +kernel
theorem d_T_good_1 : decode b_T_good 1 = .ok (.invokestatic 61, 3) := by decide +kernel
theorem d_T_good_4 : decode b_T_good 4 = .ok (.ifCond .eq 11, 3) := by decide +kernel
theorem d_T_good_7 : decode b_T_good 7 = .ok (.iload_n 2, 1) := by decide +kernel
theorem d_T_good_8 : decode b_T_good 8 = .ok (.iload_n 1, 1) := by decide +kernel
theorem d_T_good_9 : decode b_T_good 9 = .ok (.invokestatic 75, 3) := by decide +kernel
theorem d_T_good_12 : decode b_T_good 12 = .ok (.ifCond .ne 13, 3) := by decide +kernel
theorem d_T_good_15 : decode b_T_good 15 = .ok (.new 64, 3) := by decide +kernel
theorem d_T_good_18 : decode b_T_good 18 = .ok (.dup, 1) := by decide +kernel
theorem d_T_good_19 : decode b_T_good 19 = .ok (.ldc 79, 2) := by decide +kernel
theorem d_T_good_21 : decode b_T_good 21 = .ok (.invokespecial 68, 3) := by decide +kernel
theorem d_T_good_24 : decode b_T_good 24 = .ok (.athrow, 1) := by decide +kernel
theorem d_T_good_25 : decode b_T_good 25 = .ok (.iload_n 3, 1) := by decide +kernel
theorem d_T_good_26 : decode b_T_good 26 = .ok (.iconst 1, 1) := by decide +kernel
theorem d_T_good_27 : decode b_T_good 27 = .ok (.if_icmp .lt 21, 3) := by decide +kernel
theorem d_T_good_30 : decode b_T_good 30 = .ok (.iload_n 3, 1) := by decide +kernel
theorem d_T_good_31 : decode b_T_good 31 = .ok (.iconst 3, 1) := by decide +kernel
theorem d_T_good_32 : decode b_T_good 32 = .ok (.if_icmp .gt 16, 3) := by decide +kernel
theorem d_T_good_35 : decode b_T_good 35 = .ok (.iload 4, 2) := by decide +kernel
theorem d_T_good_37 : decode b_T_good 37 = .ok (.ifCond .lt 11, 3) := by decide +kernel
theorem d_T_good_40 : decode b_T_good 40 = .ok (.iload 4, 2) := by decide +kernel
theorem d_T_good_42 : decode b_T_good 42 = .ok (.sipush 1000, 3) := by decide +kernel
theorem d_T_good_45 : decode b_T_good 45 = .ok (.if_icmp .le 13, 3) := by decide +kernel
theorem d_T_good_48 : decode b_T_good 48 = .ok (.new 64, 3) := by decide +kernel
theorem d_T_good_51 : decode b_T_good 51 = .ok (.dup, 1) := by decide +kernel
theorem d_T_good_52 : decode b_T_good 52 = .ok (.ldc 81, 2) := by decide +kernel
theorem d_T_good_54 : decode b_T_good 54 = .ok (.invokespecial 68, 3) := by decide +kernel
theorem d_T_good_57 : decode b_T_good 57 = .ok (.athrow, 1) := by decide +kernel
theorem d_T_good_58 : decode b_T_good 58 = .ok (.aload_n 0, 1) := by decide +kernel
theorem d_T_good_59 : decode b_T_good 59 = .ok (.getfield 29, 3) := by decide +kernel
theorem d_T_good_62 : decode b_T_good 62 = .ok (.invokevirtual 83, 3) := by decide +kernel
theorem d_T_good_65 : decode b_T_good 65 = .ok (.bipush 16, 2) := by decide +kernel
theorem d_T_good_67 : decode b_T_good 67 = .ok (.if_icmp .lt 13, 3) := by decide +kernel
theorem d_T_good_70 : decode b_T_good 70 = .ok (.new 86, 3) := by decide +kernel
theorem d_T_good_73 : decode b_T_good 73 = .ok (.dup, 1) := by decide +kernel
theorem d_T_good_74 : decode b_T_good 74 = .ok (.ldc 88, 2) := by decide +kernel
theorem d_T_good_76 : decode b_T_good 76 = .ok (.invokespecial 90, 3) := by decide +kernel
theorem d_T_good_79 : decode b_T_good 79 = .ok (.athrow, 1) := by decide +kernel
theorem d_T_good_80 : decode b_T_good 80 = .ok (.aload_n 0, 1) := by decide +kernel
theorem d_T_good_81 : decode b_T_good 81 = .ok (.getfield 29, 3) := by decide +kernel
theorem d_T_good_84 : decode b_T_good 84 = .ok (.new 91, 3) := by decide +kernel
theorem d_T_good_87 : decode b_T_good 87 = .ok (.dup, 1) := by decide +kernel
theorem d_T_good_88 : decode b_T_good 88 = .ok (.iload_n 1, 1) := by decide +kernel
theorem d_T_good_89 : decode b_T_good 89 = .ok (.iload_n 2, 1) := by decide +kernel
theorem d_T_good_90 : decode b_T_good 90 = .ok (.iload 4, 2) := by decide +kernel
theorem d_T_good_92 : decode b_T_good 92 = .ok (.iload_n 3, 1) := by decide +kernel
theorem d_T_good_93 : decode b_T_good 93 = .ok (.iload 5, 2) := by decide +kernel
theorem d_T_good_95 : decode b_T_good 95 = .ok (.iload 6, 2) := by decide +kernel
theorem d_T_good_97 : decode b_T_good 97 = .ok (.invokestatic 93, 3) := by decide +kernel
theorem d_T_good_100 : decode b_T_good 100 = .ok (.invokespecial 97, 3) := by decide +kernel
theorem d_T_good_103 : decode b_T_good 103 = .ok (.invokevirtual 100, 3) := by decide +kernel
theorem d_T_good_106 : decode b_T_good 106 = .ok (.pop, 1) := by decide +kernel
theorem d_T_good_107 : decode b_T_good 107 = .ok (.aload_n 0, 1) := by decide +kernel
theorem d_T_good_108 : decode b_T_good 108 = .ok (.getfield 29, 3) := by decide +kernel
theorem d_T_good_111 : decode b_T_good 111 = .ok (.invokevirtual 83, 3) := by decide +kernel
theorem d_T_good_114 : decode b_T_good 114 = .ok (.iconst 1, 1) := by decide +kernel
theorem d_T_good_115 : decode b_T_good 115 = .ok (.isub, 1) := by decide +kernel
theorem d_T_good_116 : decode b_T_good 116 = .ok (.ireturn, 1) := by decide +kernel
theorem d_T_isSide_0 : decode b_T_isSide 0 = .ok (.iload_n 0, 1) := by decide +kernel
theorem d_T_isSide_1 : decode b_T_isSide 1 = .ok (.ifCond .eq 15, 3) := by decide +kernel
theorem d_T_isSide_4 : decode b_T_isSide 4 = .ok (.iload_n 0, 1) := by decide +kernel
theorem d_T_isSide_5 : decode b_T_isSide 5 = .ok (.invokestatic 61, 3) := by decide +kernel
theorem d_T_isSide_8 : decode b_T_isSide 8 = .ok (.ifCond .eq 12, 3) := by decide +kernel
theorem d_T_isSide_11 : decode b_T_isSide 11 = .ok (.iload_n 0, 1) := by decide +kernel
theorem d_T_isSide_12 : decode b_T_isSide 12 = .ok (.iload_n 1, 1) := by decide +kernel
theorem d_T_isSide_13 : decode b_T_isSide 13 = .ok (.if_icmp .eq 7, 3) := by decide +kernel
theorem d_T_isSide_16 : decode b_T_isSide 16 = .ok (.iconst 1, 1) := by decide +kernel
theorem d_T_isSide_17 : decode b_T_isSide 17 = .ok (.goto 4, 3) := by decide +kernel
theorem d_T_isSide_20 : decode b_T_isSide 20 = .ok (.iconst 0, 1) := by decide +kernel
theorem d_T_isSide_21 : decode b_T_isSide 21 = .ok (.ireturn, 1) := by decide +kernel
theorem d_T_fieldsOf_0 : decode b_T_fieldsOf 0 = .ok (.iconst 1, 1) := by decide +kernel
theorem d_T_fieldsOf_1 : decode b_T_fieldsOf 1 = .ok (.istore_n 3, 1) := by decide +kernel
theorem d_T_fieldsOf_2 : decode b_T_fieldsOf 2 = .ok (.iload_n 0, 1) := by decide +kernel
theorem d_T_fieldsOf_3 : decode b_T_fieldsOf 3 = .ok (.iconst 1, 1) := by decide +kernel
theorem d_T_fieldsOf_4 : decode b_T_fieldsOf 4 = .ok (.if_icmp .ne 7, 3) := by decide +kernel
theorem d_T_fieldsOf_7 : decode b_T_fieldsOf 7 = .ok (.iload_n 3, 1) := by decide +kernel
theorem d_T_fieldsOf_8 : decode b_T_fieldsOf 8 = .ok (.iconst 2, 1) := by decide +kernel
theorem d_T_fieldsOf_9 : decode b_T_fieldsOf 9 = .ok (.ior, 1) := by decide +kernel
theorem d_T_fieldsOf_10 : decode b_T_fieldsOf 10 = .ok (.istore_n 3, 1) := by decide +kernel
theorem d_T_fieldsOf_11 : decode b_T_fieldsOf 11 = .ok (.iload_n 1, 1) := by decide +kernel
theorem d_T_fieldsOf_12 : decode b_T_fieldsOf 12 = .ok (.ifCond .eq 7, 3) := by decide +kernel
theorem d_T_fieldsOf_15 : decode b_T_fieldsOf 15 = .ok (.iload_n 3, 1) := by decide +kernel
theorem d_T_fieldsOf_16 : decode b_T_fieldsOf 16 = .ok (.iconst 4, 1) := by decide +kernel
theorem d_T_fieldsOf_17 : decode b_T_fieldsOf 17 = .ok (.ior, 1) := by decide +kernel
theorem d_T_fieldsOf_18 : decode b_T_fieldsOf 18 = .ok (.istore_n 3, 1) := by decide +kernel
theorem d_T_fieldsOf_19 : decode b_T_fieldsOf 19 = .ok (.iload_n 2, 1) := by decide +kernel
theorem d_T_fieldsOf_20 : decode b_T_fieldsOf 20 = .ok (.ifCond .eq 8, 3) := by decide +kernel
theorem d_T_fieldsOf_23 : decode b_T_fieldsOf 23 = .ok (.iload_n 3, 1) := by decide +kernel
theorem d_T_fieldsOf_24 : decode b_T_fieldsOf 24 = .ok (.bipush 8, 2) := by decide +kernel
theorem d_T_fieldsOf_26 : decode b_T_fieldsOf 26 = .ok (.ior, 1) := by decide +kernel
theorem d_T_fieldsOf_27 : decode b_T_fieldsOf 27 = .ok (.istore_n 3, 1) := by decide +kernel
theorem d_T_fieldsOf_28 : decode b_T_fieldsOf 28 = .ok (.iload_n 3, 1) := by decide +kernel
theorem d_T_fieldsOf_29 : decode b_T_fieldsOf 29 = .ok (.ireturn, 1) := by decide +kernel
theorem d_G_init_0 : decode b_G_init 0 = .ok (.aload_n 0, 1) := by decide +kernel
theorem d_G_init_1 : decode b_G_init 1 = .ok (.invokespecial 1, 3) := by decide +kernel
theorem d_G_init_4 : decode b_G_init 4 = .ok (.aload_n 0, 1) := by decide +kernel
theorem d_G_init_5 : decode b_G_init 5 = .ok (.iload_n 1, 1) := by decide +kernel
theorem d_G_init_6 : decode b_G_init 6 = .ok (.putfield 7, 3) := by decide +kernel
theorem d_G_init_9 : decode b_G_init 9 = .ok (.aload_n 0, 1) := by decide +kernel
theorem d_G_init_10 : decode b_G_init 10 = .ok (.iload_n 2, 1) := by decide +kernel
theorem d_G_init_11 : decode b_G_init 11 = .ok (.putfield 13, 3) := by decide +kernel
theorem d_G_init_14 : decode b_G_init 14 = .ok (.aload_n 0, 1) := by decide +kernel
theorem d_G_init_15 : decode b_G_init 15 = .ok (.iload_n 3, 1) := by decide +kernel
theorem d_G_init_16 : decode b_G_init 16 = .ok (.putfield 16, 3) := by decide +kernel
theorem d_G_init_19 : decode b_G_init 19 = .ok (.aload_n 0, 1) := by decide +kernel
theorem d_G_init_20 : decode b_G_init 20 = .ok (.iload 4, 2) := by decide +kernel
theorem d_G_init_22 : decode b_G_init 22 = .ok (.putfield 19, 3) := by decide +kernel
theorem d_G_init_25 : decode b_G_init 25 = .ok (.return_, 1) := by decide +kernel
theorem d_AL_add_0 : decode b_AL_add 0 = .ok (.aload_n 0, 1) := by decide +kernel
theorem d_AL_add_1 : decode b_AL_add 1 = .ok (.dup, 1) := by decide +kernel
theorem d_AL_add_2 : decode b_AL_add 2 = .ok (.getfield 63, 3) := by decide +kernel
theorem d_AL_add_5 : decode b_AL_add 5 = .ok (.iconst 1, 1) := by decide +kernel
theorem d_AL_add_6 : decode b_AL_add 6 = .ok (.iadd, 1) := by decide +kernel
theorem d_AL_add_7 : decode b_AL_add 7 = .ok (.putfield 63, 3) := by decide +kernel
theorem d_AL_add_10 : decode b_AL_add 10 = .ok (.aload_n 0, 1) := by decide +kernel
theorem d_AL_add_11 : decode b_AL_add 11 = .ok (.aload_n 1, 1) := by decide +kernel
theorem d_AL_add_12 : decode b_AL_add 12 = .ok (.aload_n 0, 1) := by decide +kernel
theorem d_AL_add_13 : decode b_AL_add 13 = .ok (.getfield 9, 3) := by decide +kernel
theorem d_AL_add_16 : decode b_AL_add 16 = .ok (.aload_n 0, 1) := by decide +kernel
theorem d_AL_add_17 : decode b_AL_add 17 = .ok (.getfield 48, 3) := by decide +kernel
theorem d_AL_add_20 : decode b_AL_add 20 = .ok (.invokevirtual 131, 3) := by decide +kernel
theorem d_AL_add_23 : decode b_AL_add 23 = .ok (.iconst 1, 1) := by decide +kernel
theorem d_AL_add_24 : decode b_AL_add 24 = .ok (.ireturn, 1) := by decide +kernel
theorem d_AL_add2_0 : decode b_AL_add2 0 = .ok (.iload_n 3, 1) := by decide +kernel
theorem d_AL_add2_1 : decode b_AL_add2 1 = .ok (.aload_n 2, 1) := by decide +kernel
theorem d_AL_add2_2 : decode b_AL_add2 2 = .ok (.arraylength, 1) := by decide +kernel
theorem d_AL_add2_3 : decode b_AL_add2 3 = .ok (.if_icmp .ne 8, 3) := by decide +kernel
theorem d_AL_add2_6 : decode b_AL_add2 6 = .ok (.aload_n 0, 1) := by decide +kernel
theorem d_AL_add2_7 : decode b_AL_add2 7 = .ok (.invokevirtual 129, 3) := by decide +kernel
theorem d_AL_add2_10 : decode b_AL_add2 10 = .ok (.astore_n 2, 1) := by decide +kernel
theorem d_AL_add2_11 : decode b_AL_add2 11 = .ok (.aload_n 2, 1) := by decide +kernel
theorem d_AL_add2_12 : decode b_AL_add2 12 = .ok (.iload_n 3, 1) := by decide +kernel
theorem d_AL_add2_13 : decode b_AL_add2 13 = .ok (.aload_n 1, 1) := by decide +kernel
theorem d_AL_add2_14 : decode b_AL_add2 14 = .ok (.aastore, 1) := by decide +kernel
theorem d_AL_add2_15 : decode b_AL_add2 15 = .ok (.aload_n 0, 1) := by decide +kernel
theorem d_AL_add2_16 : decode b_AL_add2 16 = .ok (.iload_n 3, 1) := by decide +kernel
theorem d_AL_add2_17 : decode b_AL_add2 17 = .ok (.iconst 1, 1) := by decide +kernel
theorem d_AL_add2_18 : decode b_AL_add2 18 = .ok (.iadd, 1) := by decide +kernel
theorem d_AL_add2_19 : decode b_AL_add2 19 = .ok (.putfield 48, 3) := by decide +kernel
theorem d_AL_add2_22 : decode b_AL_add2 22 = .ok (.return_, 1) := by decide +kernel
theorem d_AL_grow_0 : decode b_AL_grow 0 = .ok (.aload_n 0, 1) := by decide +kernel
theorem d_AL_grow_1 : decode b_AL_grow 1 = .ok (.aload_n 0, 1) := by decide +kernel
theorem d_AL_grow_2 : decode b_AL_grow 2 = .ok (.getfield 48, 3) := by decide +kernel
theorem d_AL_grow_5 : decode b_AL_grow 5 = .ok (.iconst 1, 1) := by decide +kernel
theorem d_AL_grow_6 : decode b_AL_grow 6 = .ok (.iadd, 1) := by decide +kernel
theorem d_AL_grow_7 : decode b_AL_grow 7 = .ok (.invokevirtual 69, 3) := by decide +kernel
theorem d_AL_grow_10 : decode b_AL_grow 10 = .ok (.areturn, 1) := by decide +kernel
theorem d_AL_grow2_0 : decode b_AL_grow2 0 = .ok (.aload_n 0, 1) := by decide +kernel
theorem d_AL_grow2_1 : decode b_AL_grow2 1 = .ok (.getfield 9, 3) := by decide +kernel
theorem d_AL_grow2_4 : decode b_AL_grow2 4 = .ok (.arraylength, 1) := by decide +kernel
theorem d_AL_grow2_5 : decode b_AL_grow2 5 = .ok (.istore_n 2, 1) := by decide +kernel
theorem d_AL_grow2_6 : decode b_AL_grow2 6 = .ok (.iload_n 2, 1) := by decide +kernel
theorem d_AL_grow2_7 : decode b_AL_grow2 7 = .ok (.ifCond .gt 13, 3) := by decide +kernel
theorem d_AL_grow2_10 : decode b_AL_grow2 10 = .ok (.aload_n 0, 1) := by decide +kernel
theorem d_AL_grow2_11 : decode b_AL_grow2 11 = .ok (.getfield 9, 3) := by decide +kernel
theorem d_AL_grow2_14 : decode b_AL_grow2 14 = .ok (.getstatic 39, 3) := by decide +kernel
theorem d_AL_grow2_17 : decode b_AL_grow2 17 = .ok (.if_acmp .eq 28, 3) := by decide +kernel
theorem d_AL_grow2_20 : decode b_AL_grow2 20 = .ok (.iload_n 2, 1) := by decide +kernel
theorem d_AL_grow2_21 : decode b_AL_grow2 21 = .ok (.iload_n 1, 1) := by decide +kernel
theorem d_AL_grow2_22 : decode b_AL_grow2 22 = .ok (.iload_n 2, 1) := by decide +kernel
theorem d_AL_grow2_23 : decode b_AL_grow2 23 = .ok (.isub, 1) := by decide +kernel
theorem d_AL_grow2_24 : decode b_AL_grow2 24 = .ok (.iload_n 2, 1) := by decide +kernel
theorem d_AL_grow2_25 : decode b_AL_grow2 25 = .ok (.iconst 1, 1) := by decide +kernel
theorem d_AL_grow2_26 : decode b_AL_grow2 26 = .ok (.ishr, 1) := by decide +kernel
theorem d_AL_grow2_27 : decode b_AL_grow2 27 = .ok (.invokestatic 73, 3) := by decide +kernel
theorem d_AL_grow2_30 : decode b_AL_grow2 30 = .ok (.istore_n 3, 1) := by decide +kernel
theorem d_AL_grow2_31 : decode b_AL_grow2 31 = .ok (.aload_n 0, 1) := by decide +kernel
theorem d_AL_grow2_32 : decode b_AL_grow2 32 = .ok (.aload_n 0, 1) := by decide +kernel
theorem d_AL_grow2_33 : decode b_AL_grow2 33 = .ok (.getfield 9, 3) := by decide +kernel
theorem d_AL_grow2_36 : decode b_AL_grow2 36 = .ok (.iload_n 3, 1) := by decide +kernel
theorem d_AL_grow2_37 : decode b_AL_grow2 37 = .ok (.invokestatic 66, 3) := by decide +kernel
theorem d_AL_grow2_40 : decode b_AL_grow2 40 = .ok (.dup_x1, 1) := by decide +kernel
theorem d_AL_grow2_41 : decode b_AL_grow2 41 = .ok (.putfield 9, 3) := by decide +kernel
theorem d_AL_grow2_44 : decode b_AL_grow2 44 = .ok (.areturn, 1) := by decide +kernel
theorem d_AL_grow2_45 : decode b_AL_grow2 45 = .ok (.aload_n 0, 1) := by decide +kernel
theorem d_AL_grow2_46 : decode b_AL_grow2 46 = .ok (.bipush 10, 2) := by decide +kernel
theorem d_AL_grow2_48 : decode b_AL_grow2 48 = .ok (.iload_n 1, 1) := by decide +kernel
theorem d_AL_grow2_49 : decode b_AL_grow2 49 = .ok (.invokestatic 79, 3) := by decide +kernel
theorem d_AL_grow2_52 : decode b_AL_grow2 52 = .ok (.anewarray 7, 3) := by decide +kernel
theorem d_AL_grow2_55 : decode b_AL_grow2 55 = .ok (.dup_x1, 1) := by decide +kernel
theorem d_AL_grow2_56 : decode b_AL_grow2 56 = .ok (.putfield 9, 3) := by decide +kernel
theorem d_AL_grow2_59 : decode b_AL_grow2 59 = .ok (.areturn, 1) := by decide +kernel
theorem d_AS_newLength_0 : decode b_AS_newLength 0 = .ok (.iload_n 0, 1) := by decide +kernel
theorem d_AS_newLength_1 : decode b_AS_newLength 1 = .ok (.iload_n 1, 1) := by decide +kernel
theorem d_AS_newLength_2 : decode b_AS_newLength 2 = .ok (.iload_n 2, 1) := by decide +kernel
theorem d_AS_newLength_3 : decode b_AS_newLength 3 = .ok (.invokestatic 194, 3) := by decide +kernel
theorem d_AS_newLength_6 : decode b_AS_newLength 6 = .ok (.iadd, 1) := by decide +kernel
theorem d_AS_newLength_7 : decode b_AS_newLength 7 = .ok (.istore_n 3, 1) := by decide +kernel
theorem d_AS_newLength_8 : decode b_AS_newLength 8 = .ok (.iconst 0, 1) := by decide +kernel
theorem d_AS_newLength_9 : decode b_AS_newLength 9 = .ok (.iload_n 3, 1) := by decide +kernel
theorem d_AS_newLength_10 : decode b_AS_newLength 10 = .ok (.if_icmp .ge 11, 3) := by decide +kernel
theorem d_AS_newLength_13 : decode b_AS_newLength 13 = .ok (.iload_n 3, 1) := by decide +kernel
theorem d_AS_newLength_14 : decode b_AS_newLength 14 = .ok (.ldc 200, 2) := by decide +kernel
theorem d_AS_newLength_16 : decode b_AS_newLength 16 = .ok (.if_icmp .gt 5, 3) := by decide +kernel
theorem d_AS_newLength_19 : decode b_AS_newLength 19 = .ok (.iload_n 3, 1) := by decide +kernel
theorem d_AS_newLength_20 : decode b_AS_newLength 20 = .ok (.ireturn, 1) := by decide +kernel
theorem d_AS_newLength_21 : decode b_AS_newLength 21 = .ok (.iload_n 0, 1) := by decide +kernel
theorem d_AS_newLength_22 : decode b_AS_newLength 22 = .ok (.iload_n 1, 1) := by decide +kernel
theorem d_AS_newLength_23 : decode b_AS_newLength 23 = .ok (.invokestatic 201, 3) := by decide +kernel
theorem d_AS_newLength_26 : decode b_AS_newLength 26 = .ok (.ireturn, 1) := by decide +kernel
theorem d_AS_hugeLength_0 : decode b_AS_hugeLength 0 = .ok (.iload_n 0, 1) := by decide +kernel
theorem d_AS_hugeLength_1 : decode b_AS_hugeLength 1 = .ok (.iload_n 1, 1) := by decide +kernel
theorem d_AS_hugeLength_2 : decode b_AS_hugeLength 2 = .ok (.iadd, 1) := by decide +kernel
theorem d_AS_hugeLength_3 : decode b_AS_hugeLength 3 = .ok (.istore_n 2, 1) := by decide +kernel
theorem d_AS_hugeLength_4 : decode b_AS_hugeLength 4 = .ok (.iload_n 2, 1) := by decide +kernel
theorem d_AS_hugeLength_5 : decode b_AS_hugeLength 5 = .ok (.ifCond .ge 44, 3) := by decide +kernel
theorem d_AS_hugeLength_8 : decode b_AS_hugeLength 8 = .ok (.new 204, 3) := by decide +kernel
theorem d_AS_hugeLength_11 : decode b_AS_hugeLength 11 = .ok (.dup, 1) := by decide +kernel
theorem d_AS_hugeLength_12 : decode b_AS_hugeLength 12 = .ok (.new 89, 3) := by decide +kernel
theorem d_AS_hugeLength_15 : decode b_AS_hugeLength 15 = .ok (.dup, 1) := by decide +kernel
theorem d_AS_hugeLength_16 : decode b_AS_hugeLength 16 = .ok (.invokespecial 91, 3) := by decide +kernel
theorem d_AS_hugeLength_19 : decode b_AS_hugeLength 19 = .ok (.ldc 206, 2) := by decide +kernel
theorem d_AS_hugeLength_21 : decode b_AS_hugeLength 21 = .ok (.invokevirtual 94, 3) := by decide +kernel
theorem d_AS_hugeLength_24 : decode b_AS_hugeLength 24 = .ok (.iload_n 0, 1) := by decide +kernel
theorem d_AS_hugeLength_25 : decode b_AS_hugeLength 25 = .ok (.invokevirtual 98, 3) := by decide +kernel
theorem d_AS_hugeLength_28 : decode b_AS_hugeLength 28 = .ok (.ldc 208, 2) := by decide +kernel
theorem d_AS_hugeLength_30 : decode b_AS_hugeLength 30 = .ok (.invokevirtual 94, 3) := by decide +kernel
theorem d_AS_hugeLength_33 : decode b_AS_hugeLength 33 = .ok (.iload_n 1, 1) := by decide +kernel
theorem d_AS_hugeLength_34 : decode b_AS_hugeLength 34 = .ok (.invokevirtual 98, 3) := by decide +kernel
theorem d_AS_hugeLength_37 : decode b_AS_hugeLength 37 = .ok (.ldc 210, 2) := by decide +kernel
theorem d_AS_hugeLength_39 : decode b_AS_hugeLength 39 = .ok (.invokevirtual 94, 3) := by decide +kernel
theorem d_AS_hugeLength_42 : decode b_AS_hugeLength 42 = .ok (.invokevirtual 101, 3) := by decide +kernel
theorem d_AS_hugeLength_45 : decode b_AS_hugeLength 45 = .ok (.invokespecial 212, 3) := by decide +kernel
theorem d_AS_hugeLength_48 : decode b_AS_hugeLength 48 = .ok (.athrow, 1) := by decide +kernel
theorem d_AS_hugeLength_49 : decode b_AS_hugeLength 49 = .ok (.iload_n 2, 1) := by decide +kernel
theorem d_AS_hugeLength_50 : decode b_AS_hugeLength 50 = .ok (.ldc 200, 2) := by decide +kernel
theorem d_AS_hugeLength_52 : decode b_AS_hugeLength 52 = .ok (.if_icmp .gt 6, 3) := by decide +kernel
theorem d_AS_hugeLength_55 : decode b_AS_hugeLength 55 = .ok (.ldc 200, 2) := by decide +kernel
theorem d_AS_hugeLength_57 : decode b_AS_hugeLength 57 = .ok (.ireturn, 1) := by decide +kernel
theorem d_AS_hugeLength_58 : decode b_AS_hugeLength 58 = .ok (.iload_n 2, 1) := by decide +kernel
theorem d_AS_hugeLength_59 : decode b_AS_hugeLength 59 = .ok (.ireturn, 1) := by decide +kernel
theorem d_AR_copyOf_0 : decode b_AR_copyOf 0 = .ok (.aload_n 0, 1) := by decide +kernel
theorem d_AR_copyOf_1 : decode b_AR_copyOf 1 = .ok (.iload_n 1, 1) := by decide +kernel
theorem d_AR_copyOf_2 : decode b_AR_copyOf 2 = .ok (.aload_n 0, 1) := by decide +kernel
theorem d_AR_copyOf_3 : decode b_AR_copyOf 3 = .ok (.invokevirtual 86, 3) := by decide +kernel
theorem d_AR_copyOf_6 : decode b_AR_copyOf 6 = .ok (.invokestatic 300, 3) := by decide +kernel
theorem d_AR_copyOf_9 : decode b_AR_copyOf 9 = .ok (.areturn, 1) := by decide +kernel
theorem d_AR_copyOf2_0 : decode b_AR_copyOf2 0 = .ok (.aload_n 2, 1) := by decide +kernel
theorem d_AR_copyOf2_1 : decode b_AR_copyOf2 1 = .ok (.ldc 110, 2) := by decide +kernel
theorem d_AR_copyOf2_3 : decode b_AR_copyOf2 3 = .ok (.if_acmp .ne 10, 3) := by decide +kernel
theorem d_AR_copyOf2_6 : decode b_AR_copyOf2 6 = .ok (.iload_n 1, 1) := by decide +kernel
theorem d_AR_copyOf2_7 : decode b_AR_copyOf2 7 = .ok (.anewarray 2, 3) := by decide +kernel
theorem d_AR_copyOf2_10 : decode b_AR_copyOf2 10 = .ok (.goto 14, 3) := by decide +kernel
theorem d_AR_copyOf2_13 : decode b_AR_copyOf2 13 = .ok (.aload_n 2, 1) := by decide +kernel
theorem d_AR_copyOf2_14 : decode b_AR_copyOf2 14 = .ok (.invokevirtual 90, 3) := by decide +kernel
theorem d_AR_copyOf2_17 : decode b_AR_copyOf2 17 = .ok (.iload_n 1, 1) := by decide +kernel
theorem d_AR_copyOf2_18 : decode b_AR_copyOf2 18 = .ok (.invokestatic 95, 3) := by decide +kernel
theorem d_AR_copyOf2_21 : decode b_AR_copyOf2 21 = .ok (.checkcast 110, 3) := by decide +kernel
theorem d_AR_copyOf2_24 : decode b_AR_copyOf2 24 = .ok (.astore_n 3, 1) := by decide +kernel
theorem d_AR_copyOf2_25 : decode b_AR_copyOf2 25 = .ok (.aload_n 0, 1) := by decide +kernel
theorem d_AR_copyOf2_26 : decode b_AR_copyOf2 26 = .ok (.iconst 0, 1) := by decide +kernel
theorem d_AR_copyOf2_27 : decode b_AR_copyOf2 27 = .ok (.aload_n 3, 1) := by decide +kernel
theorem d_AR_copyOf2_28 : decode b_AR_copyOf2 28 = .ok (.iconst 0, 1) := by decide +kernel
theorem d_AR_copyOf2_29 : decode b_AR_copyOf2 29 = .ok (.aload_n 0, 1) := by decide +kernel
theorem d_AR_copyOf2_30 : decode b_AR_copyOf2 30 = .ok (.arraylength, 1) := by decide +kernel
theorem d_AR_copyOf2_31 : decode b_AR_copyOf2 31 = .ok (.iload_n 1, 1) := by decide +kernel
theorem d_AR_copyOf2_32 : decode b_AR_copyOf2 32 = .ok (.invokestatic 304, 3) := by decide +kernel
theorem d_AR_copyOf2_35 : decode b_AR_copyOf2 35 = .ok (.invokestatic 150, 3) := by decide +kernel
theorem d_AR_copyOf2_38 : decode b_AR_copyOf2 38 = .ok (.aload_n 3, 1) := by decide +kernel
theorem d_AR_copyOf2_39 : decode b_AR_copyOf2 39 = .ok (.areturn, 1) := by decide +kernel
theorem d_L_box_0 : decode b_L_box 0 = .ok (.aload_n 3, 1) := by decide +kernel
theorem d_L_box_1 : decode b_L_box 1 = .ok (.iconst 0, 1) := by decide +kernel
theorem d_L_box_2 : decode b_L_box 2 = .ok (.aload_n 0, 1) := by decide +kernel
theorem d_L_box_3 : decode b_L_box 3 = .ok (.iload_n 1, 1) := by decide +kernel
theorem d_L_box_4 : decode b_L_box 4 = .ok (.iload_n 2, 1) := by decide +kernel
theorem d_L_box_5 : decode b_L_box 5 = .ok (.invokevirtual 21, 3) := by decide +kernel
theorem d_L_box_8 : decode b_L_box 8 = .ok (.i2l, 1) := by decide +kernel
theorem d_L_box_9 : decode b_L_box 9 = .ok (.lastore, 1) := by decide +kernel
theorem d_L_box_10 : decode b_L_box 10 = .ok (.goto 11, 3) := by decide +kernel
theorem d_L_box_13 : decode b_L_box 13 = .ok (.astore 4, 2) := by decide +kernel
theorem d_L_box_15 : decode b_L_box 15 = .ok (.iconst 1, 1) := by decide +kernel
theorem d_L_box_16 : decode b_L_box 16 = .ok (.ireturn, 1) := by decide +kernel
theorem d_L_box_17 : decode b_L_box 17 = .ok (.astore 4, 2) := by decide +kernel
theorem d_L_box_19 : decode b_L_box 19 = .ok (.iconst 2, 1) := by decide +kernel
theorem d_L_box_20 : decode b_L_box 20 = .ok (.ireturn, 1) := by decide +kernel
theorem d_L_box_21 : decode b_L_box 21 = .ok (.iconst 0, 1) := by decide +kernel
theorem d_L_box_22 : decode b_L_box 22 = .ok (.ireturn, 1) := by decide +kernel
theorem d_T_box_0 : decode b_T_box 0 = .ok (.aload_n 0, 1) := by decide +kernel
theorem d_T_box_1 : decode b_T_box 1 = .ok (.iload_n 1, 1) := by decide +kernel
theorem d_T_box_2 : decode b_T_box 2 = .ok (.invokevirtual 104, 3) := by decide +kernel
theorem d_T_box_5 : decode b_T_box 5 = .ok (.ifCond .eq 10, 3) := by decide +kernel
theorem d_T_box_8 : decode b_T_box 8 = .ok (.iload_n 2, 1) := by decide +kernel
theorem d_T_box_9 : decode b_T_box 9 = .ok (.invokestatic 114, 3) := by decide +kernel
theorem d_T_box_12 : decode b_T_box 12 = .ok (.ifCond .ne 13, 3) := by decide +kernel
theorem d_T_box_15 : decode b_T_box 15 = .ok (.new 64, 3) := by decide +kernel
theorem d_T_box_18 : decode b_T_box 18 = .ok (.dup, 1) := by decide +kernel
theorem d_T_box_19 : decode b_T_box 19 = .ok (.ldc 117, 2) := by decide +kernel
theorem d_T_box_21 : decode b_T_box 21 = .ok (.invokespecial 68, 3) := by decide +kernel
theorem d_T_box_24 : decode b_T_box 24 = .ok (.athrow, 1) := by decide +kernel
theorem d_T_box_25 : decode b_T_box 25 = .ok (.aload_n 0, 1) := by decide +kernel
theorem d_T_box_26 : decode b_T_box 26 = .ok (.getfield 33, 3) := by decide +kernel
theorem d_T_box_29 : decode b_T_box 29 = .ok (.invokevirtual 83, 3) := by decide +kernel
theorem d_T_box_32 : decode b_T_box 32 = .ok (.bipush 12, 2) := by decide +kernel
theorem d_T_box_34 : decode b_T_box 34 = .ok (.if_icmp .lt 13, 3) := by decide +kernel
theorem d_T_box_37 : decode b_T_box 37 = .ok (.new 86, 3) := by decide +kernel
theorem d_T_box_40 : decode b_T_box 40 = .ok (.dup, 1) := by decide +kernel
theorem d_T_box_41 : decode b_T_box 41 = .ok (.ldc 119, 2) := by decide +kernel
theorem d_T_box_43 : decode b_T_box 43 = .ok (.invokespecial 90, 3) := by decide +kernel
theorem d_T_box_46 : decode b_T_box 46 = .ok (.athrow, 1) := by decide +kernel
theorem d_T_box_47 : decode b_T_box 47 = .ok (.new 121, 3) := by decide +kernel
theorem d_T_box_50 : decode b_T_box 50 = .ok (.dup, 1) := by decide +kernel
theorem d_T_box_51 : decode b_T_box 51 = .ok (.invokespecial 123, 3) := by decide +kernel
theorem d_T_box_54 : decode b_T_box 54 = .ok (.astore_n 3, 1) := by decide +kernel
theorem d_T_box_55 : decode b_T_box 55 = .ok (.aload_n 3, 1) := by decide +kernel
theorem d_T_box_56 : decode b_T_box 56 = .ok (.aload_n 0, 1) := by decide +kernel
theorem d_T_box_57 : decode b_T_box 57 = .ok (.getfield 29, 3) := by decide +kernel
theorem d_T_box_60 : decode b_T_box 60 = .ok (.iload_n 1, 1) := by decide +kernel
theorem d_T_box_61 : decode b_T_box 61 = .ok (.invokevirtual 107, 3) := by decide +kernel
theorem d_T_box_64 : decode b_T_box 64 = .ok (.checkcast 91, 3) := by decide +kernel
theorem d_T_box_67 : decode b_T_box 67 = .ok (.iload_n 1, 1) := by decide +kernel
theorem d_T_box_68 : decode b_T_box 68 = .ok (.iload_n 2, 1) := by decide +kernel
theorem d_T_box_69 : decode b_T_box 69 = .ok (.invokevirtual 124, 3) := by decide +kernel
theorem d_T_box_72 : decode b_T_box 72 = .ok (.aload_n 0, 1) := by decide +kernel
theorem d_T_box_73 : decode b_T_box 73 = .ok (.getfield 33, 3) := by decide +kernel
theorem d_T_box_76 : decode b_T_box 76 = .ok (.aload_n 3, 1) := by decide +kernel
theorem d_T_box_77 : decode b_T_box 77 = .ok (.invokevirtual 100, 3) := by decide +kernel
theorem d_T_box_80 : decode b_T_box 80 = .ok (.pop, 1) := by decide +kernel
theorem d_T_box_81 : decode b_T_box 81 = .ok (.aload_n 0, 1) := by decide +kernel
theorem d_T_box_82 : decode b_T_box 82 = .ok (.getfield 33, 3) := by decide +kernel
theorem d_T_box_85 : decode b_T_box 85 = .ok (.invokevirtual 83, 3) := by decide +kernel
theorem d_T_box_88 : decode b_T_box 88 = .ok (.iconst 1, 1) := by decide +kernel
theorem d_T_box_89 : decode b_T_box 89 = .ok (.isub, 1) := by decide +kernel
theorem d_T_box_90 : decode b_T_box 90 = .ok (.ireturn, 1) := by decide +kernel
theorem d_T_isAmount_0 : decode b_T_isAmount 0 = .ok (.iload_n 0, 1) := by decide +kernel
theorem d_T_isAmount_1 : decode b_T_isAmount 1 = .ok (.iconst 1, 1) := by decide +kernel
theorem d_T_isAmount_2 : decode b_T_isAmount 2 = .ok (.if_icmp .lt 14, 3) := by decide +kernel
theorem d_T_isAmount_5 : decode b_T_isAmount 5 = .ok (.iload_n 0, 1) := by decide +kernel
theorem d_T_isAmount_6 : decode b_T_isAmount 6 = .ok (.sipush 30000, 3) := by decide +kernel
theorem d_T_isAmount_9 : decode b_T_isAmount 9 = .ok (.if_icmp .gt 7, 3) := by decide +kernel
theorem d_T_isAmount_12 : decode b_T_isAmount 12 = .ok (.iconst 1, 1) := by decide +kernel
theorem d_T_isAmount_13 : decode b_T_isAmount 13 = .ok (.goto 4, 3) := by decide +kernel
theorem d_T_isAmount_16 : decode b_T_isAmount 16 = .ok (.iconst 0, 1) := by decide +kernel
theorem d_T_isAmount_17 : decode b_T_isAmount 17 = .ok (.ireturn, 1) := by decide +kernel
theorem d_X_init_0 : decode b_X_init 0 = .ok (.aload_n 0, 1) := by decide +kernel
theorem d_X_init_1 : decode b_X_init 1 = .ok (.invokespecial 3, 3) := by decide +kernel
theorem d_X_init_4 : decode b_X_init 4 = .ok (.aload_n 0, 1) := by decide +kernel
theorem d_X_init_5 : decode b_X_init 5 = .ok (.new 9, 3) := by decide +kernel
theorem d_X_init_8 : decode b_X_init 8 = .ok (.dup, 1) := by decide +kernel
theorem d_X_init_9 : decode b_X_init 9 = .ok (.invokespecial 11, 3) := by decide +kernel
theorem d_X_init_12 : decode b_X_init 12 = .ok (.putfield 12, 3) := by decide +kernel
theorem d_X_init_15 : decode b_X_init 15 = .ok (.aload_n 0, 1) := by decide +kernel
theorem d_X_init_16 : decode b_X_init 16 = .ok (.iconst (-1), 1) := by decide +kernel
theorem d_X_init_17 : decode b_X_init 17 = .ok (.putfield 18, 3) := by decide +kernel
theorem d_X_init_20 : decode b_X_init 20 = .ok (.aload_n 0, 1) := by decide +kernel
theorem d_X_init_21 : decode b_X_init 21 = .ok (.iconst (-1), 1) := by decide +kernel
theorem d_X_init_22 : decode b_X_init 22 = .ok (.putfield 22, 3) := by decide +kernel
theorem d_X_init_25 : decode b_X_init 25 = .ok (.aload_n 0, 1) := by decide +kernel
theorem d_X_init_26 : decode b_X_init 26 = .ok (.iconst (-1), 1) := by decide +kernel
theorem d_X_init_27 : decode b_X_init 27 = .ok (.putfield 25, 3) := by decide +kernel
theorem d_X_init_30 : decode b_X_init 30 = .ok (.return_, 1) := by decide +kernel
theorem d_X_fill_0 : decode b_X_fill 0 = .ok (.aload_n 0, 1) := by decide +kernel
theorem d_X_fill_1 : decode b_X_fill 1 = .ok (.getfield 12, 3) := by decide +kernel
theorem d_X_fill_4 : decode b_X_fill 4 = .ok (.new 28, 3) := by decide +kernel
theorem d_X_fill_7 : decode b_X_fill 7 = .ok (.dup, 1) := by decide +kernel
theorem d_X_fill_8 : decode b_X_fill 8 = .ok (.aload_n 1, 1) := by decide +kernel
theorem d_X_fill_9 : decode b_X_fill 9 = .ok (.iload_n 2, 1) := by decide +kernel
theorem d_X_fill_10 : decode b_X_fill 10 = .ok (.iload_n 3, 1) := by decide +kernel
theorem d_X_fill_11 : decode b_X_fill 11 = .ok (.invokespecial 30, 3) := by decide +kernel
theorem d_X_fill_14 : decode b_X_fill 14 = .ok (.invokevirtual 33, 3) := by decide +kernel
theorem d_X_fill_17 : decode b_X_fill 17 = .ok (.pop, 1) := by decide +kernel
theorem d_X_fill_18 : decode b_X_fill 18 = .ok (.return_, 1) := by decide +kernel
theorem d_P_init_0 : decode b_P_init 0 = .ok (.aload_n 0, 1) := by decide +kernel
theorem d_P_init_1 : decode b_P_init 1 = .ok (.invokespecial 3, 3) := by decide +kernel
theorem d_P_init_4 : decode b_P_init 4 = .ok (.aload_n 0, 1) := by decide +kernel
theorem d_P_init_5 : decode b_P_init 5 = .ok (.aload_n 1, 1) := by decide +kernel
theorem d_P_init_6 : decode b_P_init 6 = .ok (.putfield 9, 3) := by decide +kernel
theorem d_P_init_9 : decode b_P_init 9 = .ok (.aload_n 0, 1) := by decide +kernel
theorem d_P_init_10 : decode b_P_init 10 = .ok (.iload_n 2, 1) := by decide +kernel
theorem d_P_init_11 : decode b_P_init 11 = .ok (.putfield 15, 3) := by decide +kernel
theorem d_P_init_14 : decode b_P_init 14 = .ok (.aload_n 0, 1) := by decide +kernel
theorem d_P_init_15 : decode b_P_init 15 = .ok (.iload_n 3, 1) := by decide +kernel
theorem d_P_init_16 : decode b_P_init 16 = .ok (.putfield 19, 3) := by decide +kernel
theorem d_P_init_19 : decode b_P_init 19 = .ok (.return_, 1) := by decide +kernel
theorem d_L_also_0 : decode b_L_also 0 = .ok (.aload 4, 2) := by decide +kernel
theorem d_L_also_2 : decode b_L_also 2 = .ok (.iconst 0, 1) := by decide +kernel
theorem d_L_also_3 : decode b_L_also 3 = .ok (.aload_n 0, 1) := by decide +kernel
theorem d_L_also_4 : decode b_L_also 4 = .ok (.iload_n 1, 1) := by decide +kernel
theorem d_L_also_5 : decode b_L_also 5 = .ok (.iload_n 2, 1) := by decide +kernel
theorem d_L_also_6 : decode b_L_also 6 = .ok (.iload_n 3, 1) := by decide +kernel
theorem d_L_also_7 : decode b_L_also 7 = .ok (.invokevirtual 24, 3) := by decide +kernel
theorem d_L_also_10 : decode b_L_also 10 = .ok (.i2l, 1) := by decide +kernel
theorem d_L_also_11 : decode b_L_also 11 = .ok (.lastore, 1) := by decide +kernel
theorem d_L_also_12 : decode b_L_also 12 = .ok (.goto 11, 3) := by decide +kernel
theorem d_L_also_15 : decode b_L_also 15 = .ok (.astore 5, 2) := by decide +kernel
theorem d_L_also_17 : decode b_L_also 17 = .ok (.iconst 1, 1) := by decide +kernel
theorem d_L_also_18 : decode b_L_also 18 = .ok (.ireturn, 1) := by decide +kernel
theorem d_L_also_19 : decode b_L_also 19 = .ok (.astore 5, 2) := by decide +kernel
theorem d_L_also_21 : decode b_L_also 21 = .ok (.iconst 2, 1) := by decide +kernel
theorem d_L_also_22 : decode b_L_also 22 = .ok (.ireturn, 1) := by decide +kernel
theorem d_L_also_23 : decode b_L_also 23 = .ok (.iconst 0, 1) := by decide +kernel
theorem d_L_also_24 : decode b_L_also 24 = .ok (.ireturn, 1) := by decide +kernel
theorem d_T_also_0 : decode b_T_also 0 = .ok (.aload_n 0, 1) := by decide +kernel
theorem d_T_also_1 : decode b_T_also 1 = .ok (.iload_n 1, 1) := by decide +kernel
theorem d_T_also_2 : decode b_T_also 2 = .ok (.invokevirtual 127, 3) := by decide +kernel
theorem d_T_also_5 : decode b_T_also 5 = .ok (.ifCond .eq 18, 3) := by decide +kernel
theorem d_T_also_8 : decode b_T_also 8 = .ok (.aload_n 0, 1) := by decide +kernel
theorem d_T_also_9 : decode b_T_also 9 = .ok (.iload_n 2, 1) := by decide +kernel
theorem d_T_also_10 : decode b_T_also 10 = .ok (.invokevirtual 104, 3) := by decide +kernel
theorem d_T_also_13 : decode b_T_also 13 = .ok (.ifCond .eq 10, 3) := by decide +kernel
theorem d_T_also_16 : decode b_T_also 16 = .ok (.iload_n 3, 1) := by decide +kernel
theorem d_T_also_17 : decode b_T_also 17 = .ok (.invokestatic 114, 3) := by decide +kernel
theorem d_T_also_20 : decode b_T_also 20 = .ok (.ifCond .ne 13, 3) := by decide +kernel
theorem d_T_also_23 : decode b_T_also 23 = .ok (.new 64, 3) := by decide +kernel
theorem d_T_also_26 : decode b_T_also 26 = .ok (.dup, 1) := by decide +kernel
theorem d_T_also_27 : decode b_T_also 27 = .ok (.ldc 130, 2) := by decide +kernel
theorem d_T_also_29 : decode b_T_also 29 = .ok (.invokespecial 68, 3) := by decide +kernel
theorem d_T_also_32 : decode b_T_also 32 = .ok (.athrow, 1) := by decide +kernel
theorem d_T_also_33 : decode b_T_also 33 = .ok (.aload_n 0, 1) := by decide +kernel
theorem d_T_also_34 : decode b_T_also 34 = .ok (.getfield 33, 3) := by decide +kernel
theorem d_T_also_37 : decode b_T_also 37 = .ok (.iload_n 1, 1) := by decide +kernel
theorem d_T_also_38 : decode b_T_also 38 = .ok (.invokevirtual 107, 3) := by decide +kernel
theorem d_T_also_41 : decode b_T_also 41 = .ok (.checkcast 121, 3) := by decide +kernel
theorem d_T_also_44 : decode b_T_also 44 = .ok (.astore 4, 2) := by decide +kernel
theorem d_T_also_46 : decode b_T_also 46 = .ok (.aload 4, 2) := by decide +kernel
theorem d_T_also_48 : decode b_T_also 48 = .ok (.iload_n 2, 1) := by decide +kernel
theorem d_T_also_49 : decode b_T_also 49 = .ok (.invokevirtual 132, 3) := by decide +kernel
theorem d_T_also_52 : decode b_T_also 52 = .ok (.ifCond .eq 13, 3) := by decide +kernel
theorem d_T_also_55 : decode b_T_also 55 = .ok (.new 64, 3) := by decide +kernel
theorem d_T_also_58 : decode b_T_also 58 = .ok (.dup, 1) := by decide +kernel
theorem d_T_also_59 : decode b_T_also 59 = .ok (.ldc 135, 2) := by decide +kernel
theorem d_T_also_61 : decode b_T_also 61 = .ok (.invokespecial 68, 3) := by decide +kernel
theorem d_T_also_64 : decode b_T_also 64 = .ok (.athrow, 1) := by decide +kernel
theorem d_T_also_65 : decode b_T_also 65 = .ok (.aload 4, 2) := by decide +kernel
theorem d_T_also_67 : decode b_T_also 67 = .ok (.invokevirtual 137, 3) := by decide +kernel
theorem d_T_also_70 : decode b_T_also 70 = .ok (.ifCond .ne 12, 3) := by decide +kernel
theorem d_T_also_73 : decode b_T_also 73 = .ok (.aload 4, 2) := by decide +kernel
theorem d_T_also_75 : decode b_T_also 75 = .ok (.invokevirtual 141, 3) := by decide +kernel
theorem d_T_also_78 : decode b_T_also 78 = .ok (.iconst 4, 1) := by decide +kernel
theorem d_T_also_79 : decode b_T_also 79 = .ok (.if_icmp .lt 13, 3) := by decide +kernel
theorem d_T_also_82 : decode b_T_also 82 = .ok (.new 86, 3) := by decide +kernel
theorem d_T_also_85 : decode b_T_also 85 = .ok (.dup, 1) := by decide +kernel
theorem d_T_also_86 : decode b_T_also 86 = .ok (.ldc 144, 2) := by decide +kernel
theorem d_T_also_88 : decode b_T_also 88 = .ok (.invokespecial 90, 3) := by decide +kernel
theorem d_T_also_91 : decode b_T_also 91 = .ok (.athrow, 1) := by decide +kernel
theorem d_T_also_92 : decode b_T_also 92 = .ok (.aload 4, 2) := by decide +kernel
theorem d_T_also_94 : decode b_T_also 94 = .ok (.aload_n 0, 1) := by decide +kernel
theorem d_T_also_95 : decode b_T_also 95 = .ok (.getfield 29, 3) := by decide +kernel
theorem d_T_also_98 : decode b_T_also 98 = .ok (.iload_n 2, 1) := by decide +kernel
theorem d_T_also_99 : decode b_T_also 99 = .ok (.invokevirtual 107, 3) := by decide +kernel
theorem d_T_also_102 : decode b_T_also 102 = .ok (.checkcast 91, 3) := by decide +kernel
theorem d_T_also_105 : decode b_T_also 105 = .ok (.iload_n 2, 1) := by decide +kernel
theorem d_T_also_106 : decode b_T_also 106 = .ok (.iload_n 3, 1) := by decide +kernel
theorem d_T_also_107 : decode b_T_also 107 = .ok (.invokevirtual 124, 3) := by decide +kernel
theorem d_T_also_110 : decode b_T_also 110 = .ok (.aload 4, 2) := by decide +kernel
theorem d_T_also_112 : decode b_T_also 112 = .ok (.invokevirtual 141, 3) := by decide +kernel
theorem d_T_also_115 : decode b_T_also 115 = .ok (.ireturn, 1) := by decide +kernel
theorem d_X_holds_0 : decode b_X_holds 0 = .ok (.iconst 0, 1) := by decide +kernel
theorem d_X_holds_1 : decode b_X_holds 1 = .ok (.istore_n 2, 1) := by decide +kernel
theorem d_X_holds_2 : decode b_X_holds 2 = .ok (.iload_n 2, 1) := by decide +kernel
theorem d_X_holds_3 : decode b_X_holds 3 = .ok (.aload_n 0, 1) := by decide +kernel
theorem d_X_holds_4 : decode b_X_holds 4 = .ok (.getfield 12, 3) := by decide +kernel
theorem d_X_holds_7 : decode b_X_holds 7 = .ok (.invokevirtual 37, 3) := by decide +kernel
theorem d_X_holds_10 : decode b_X_holds 10 = .ok (.if_icmp .ge 29, 3) := by decide +kernel
theorem d_X_holds_13 : decode b_X_holds 13 = .ok (.aload_n 0, 1) := by decide +kernel
theorem d_X_holds_14 : decode b_X_holds 14 = .ok (.getfield 12, 3) := by decide +kernel
theorem d_X_holds_17 : decode b_X_holds 17 = .ok (.iload_n 2, 1) := by decide +kernel
theorem d_X_holds_18 : decode b_X_holds 18 = .ok (.invokevirtual 41, 3) := by decide +kernel
theorem d_X_holds_21 : decode b_X_holds 21 = .ok (.checkcast 28, 3) := by decide +kernel
