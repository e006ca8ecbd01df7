theorem d_T_isTaken_1 : decode b_T_isTaken 1 = .ok (.istore 4, 2) := by decide +kernel
theorem d_T_isTaken_3 : decode b_T_isTaken 3 = .ok (.iload 4, 2) := by decide +kernel
theorem d_T_isTaken_5 : decode b_T_isTaken 5 = .ok (.aload_n 0, 1) := by decide +kernel
theorem d_T_isTaken_6 : decode b_T_isTaken 6 = .ok (.getfield 33, 3) := by decide +kernel
theorem d_T_isTaken_9 : decode b_T_isTaken 9 = .ok (.invokevirtual 83, 3) := by decide +kernel
theorem d_T_isTaken_12 : decode b_T_isTaken 12 = .ok (.if_icmp .ge 52, 3) := by decide +kernel
theorem d_T_isTaken_15 : decode b_T_isTaken 15 = .ok (.aload_n 0, 1) := by decide +kernel
theorem d_T_isTaken_16 : decode b_T_isTaken 16 = .ok (.getfield 33, 3) := by decide +kernel
theorem d_T_isTaken_19 : decode b_T_isTaken 19 = .ok (.iload 4, 2) := by decide +kernel
theorem d_T_isTaken_21 : decode b_T_isTaken 21 = .ok (.invokevirtual 107, 3) := by decide +kernel
theorem d_T_isTaken_24 : decode b_T_isTaken 24 = .ok (.checkcast 121, 3) := by decide +kernel
theorem d_T_isTaken_27 : decode b_T_isTaken 27 = .ok (.astore 5, 2) := by decide +kernel
theorem d_T_isTaken_29 : decode b_T_isTaken 29 = .ok (.aload 5, 2) := by decide +kernel
theorem d_T_isTaken_31 : decode b_T_isTaken 31 = .ok (.getfield 186, 3) := by decide +kernel
theorem d_T_isTaken_34 : decode b_T_isTaken 34 = .ok (.iload_n 1, 1) := by decide +kernel
theorem d_T_isTaken_35 : decode b_T_isTaken 35 = .ok (.if_icmp .ne 23, 3) := by decide +kernel
theorem d_T_isTaken_38 : decode b_T_isTaken 38 = .ok (.aload 5, 2) := by decide +kernel
theorem d_T_isTaken_40 : decode b_T_isTaken 40 = .ok (.getfield 201, 3) := by decide +kernel
theorem d_T_isTaken_43 : decode b_T_isTaken 43 = .ok (.iload_n 2, 1) := by decide +kernel
theorem d_T_isTaken_44 : decode b_T_isTaken 44 = .ok (.if_icmp .ne 14, 3) := by decide +kernel
theorem d_T_isTaken_47 : decode b_T_isTaken 47 = .ok (.aload 5, 2) := by decide +kernel
theorem d_T_isTaken_49 : decode b_T_isTaken 49 = .ok (.getfield 204, 3) := by decide +kernel
theorem d_T_isTaken_52 : decode b_T_isTaken 52 = .ok (.iload_n 3, 1) := by decide +kernel
theorem d_T_isTaken_53 : decode b_T_isTaken 53 = .ok (.if_icmp .ne 5, 3) := by decide +kernel
theorem d_T_isTaken_56 : decode b_T_isTaken 56 = .ok (.iconst 1, 1) := by decide +kernel
theorem d_T_isTaken_57 : decode b_T_isTaken 57 = .ok (.ireturn, 1) := by decide +kernel
theorem d_T_isTaken_58 : decode b_T_isTaken 58 = .ok (.iinc 4 1, 3) := by decide +kernel
theorem d_T_isTaken_61 : decode b_T_isTaken 61 = .ok (.goto (-58), 3) := by decide +kernel
theorem d_T_isTaken_64 : decode b_T_isTaken 64 = .ok (.iconst 0, 1) := by decide +kernel
theorem d_T_isTaken_65 : decode b_T_isTaken 65 = .ok (.ireturn, 1) := by decide +kernel
theorem d_T_leastPassedClass_0 : decode b_T_leastPassedClass 0 = .ok (.iconst 1, 1) := by decide +kernel
theorem d_T_leastPassedClass_1 : decode b_T_leastPassedClass 1 = .ok (.istore_n 3, 1) := by decide +kernel
theorem d_T_leastPassedClass_2 : decode b_T_leastPassedClass 2 = .ok (.iload_n 3, 1) := by decide +kernel
theorem d_T_leastPassedClass_3 : decode b_T_leastPassedClass 3 = .ok (.bipush 9, 2) := by decide +kernel
theorem d_T_leastPassedClass_5 : decode b_T_leastPassedClass 5 = .ok (.if_icmp .gt 43, 3) := by decide +kernel
theorem d_T_leastPassedClass_8 : decode b_T_leastPassedClass 8 = .ok (.aload_n 1, 1) := by decide +kernel
theorem d_T_leastPassedClass_9 : decode b_T_leastPassedClass 9 = .ok (.iload_n 3, 1) := by decide +kernel
theorem d_T_leastPassedClass_10 : decode b_T_leastPassedClass 10 = .ok (.invokevirtual 259, 3) := by decide +kernel
theorem d_T_leastPassedClass_13 : decode b_T_leastPassedClass 13 = .ok (.istore 4, 2) := by decide +kernel
theorem d_T_leastPassedClass_15 : decode b_T_leastPassedClass 15 = .ok (.iload 4, 2) := by decide +kernel
theorem d_T_leastPassedClass_17 : decode b_T_leastPassedClass 17 = .ok (.ifCond .le 25, 3) := by decide +kernel
theorem d_T_leastPassedClass_20 : decode b_T_leastPassedClass 20 = .ok (.iload 4, 2) := by decide +kernel
theorem d_T_leastPassedClass_22 : decode b_T_leastPassedClass 22 = .ok (.aload_n 0, 1) := by decide +kernel
theorem d_T_leastPassedClass_23 : decode b_T_leastPassedClass 23 = .ok (.iload_n 2, 1) := by decide +kernel
theorem d_T_leastPassedClass_24 : decode b_T_leastPassedClass 24 = .ok (.iload_n 3, 1) := by decide +kernel
theorem d_T_leastPassedClass_25 : decode b_T_leastPassedClass 25 = .ok (.invokevirtual 166, 3) := by decide +kernel
theorem d_T_leastPassedClass_28 : decode b_T_leastPassedClass 28 = .ok (.iadd, 1) := by decide +kernel
theorem d_T_leastPassedClass_29 : decode b_T_leastPassedClass 29 = .ok (.aload_n 0, 1) := by decide +kernel
theorem d_T_leastPassedClass_30 : decode b_T_leastPassedClass 30 = .ok (.getfield 38, 3) := by decide +kernel
theorem d_T_leastPassedClass_33 : decode b_T_leastPassedClass 33 = .ok (.iload_n 2, 1) := by decide +kernel
theorem d_T_leastPassedClass_34 : decode b_T_leastPassedClass 34 = .ok (.aaload, 1) := by decide +kernel
theorem d_T_leastPassedClass_35 : decode b_T_leastPassedClass 35 = .ok (.iload_n 3, 1) := by decide +kernel
theorem d_T_leastPassedClass_36 : decode b_T_leastPassedClass 36 = .ok (.iaload, 1) := by decide +kernel
theorem d_T_leastPassedClass_37 : decode b_T_leastPassedClass 37 = .ok (.if_icmp .le 5, 3) := by decide +kernel
theorem d_T_leastPassedClass_40 : decode b_T_leastPassedClass 40 = .ok (.iload_n 3, 1) := by decide +kernel
theorem d_T_leastPassedClass_41 : decode b_T_leastPassedClass 41 = .ok (.ireturn, 1) := by decide +kernel
theorem d_T_leastPassedClass_42 : decode b_T_leastPassedClass 42 = .ok (.iinc 3 1, 3) := by decide +kernel
theorem d_T_leastPassedClass_45 : decode b_T_leastPassedClass 45 = .ok (.goto (-43), 3) := by decide +kernel
theorem d_T_leastPassedClass_48 : decode b_T_leastPassedClass 48 = .ok (.iconst (-1), 1) := by decide +kernel
theorem d_T_leastPassedClass_49 : decode b_T_leastPassedClass 49 = .ok (.ireturn, 1) := by decide +kernel
theorem d_T_leastTooNear_0 : decode b_T_leastTooNear 0 = .ok (.iconst 0, 1) := by decide +kernel
theorem d_T_leastTooNear_1 : decode b_T_leastTooNear 1 = .ok (.istore 5, 2) := by decide +kernel
theorem d_T_leastTooNear_3 : decode b_T_leastTooNear 3 = .ok (.iload 5, 2) := by decide +kernel
theorem d_T_leastTooNear_5 : decode b_T_leastTooNear 5 = .ok (.aload_n 0, 1) := by decide +kernel
theorem d_T_leastTooNear_6 : decode b_T_leastTooNear 6 = .ok (.getfield 33, 3) := by decide +kernel
theorem d_T_leastTooNear_9 : decode b_T_leastTooNear 9 = .ok (.invokevirtual 83, 3) := by decide +kernel
theorem d_T_leastTooNear_12 : decode b_T_leastTooNear 12 = .ok (.if_icmp .ge 56, 3) := by decide +kernel
theorem d_T_leastTooNear_15 : decode b_T_leastTooNear 15 = .ok (.aload_n 0, 1) := by decide +kernel
theorem d_T_leastTooNear_16 : decode b_T_leastTooNear 16 = .ok (.getfield 33, 3) := by decide +kernel
theorem d_T_leastTooNear_19 : decode b_T_leastTooNear 19 = .ok (.iload 5, 2) := by decide +kernel
theorem d_T_leastTooNear_21 : decode b_T_leastTooNear 21 = .ok (.invokevirtual 107, 3) := by decide +kernel
theorem d_T_leastTooNear_24 : decode b_T_leastTooNear 24 = .ok (.checkcast 121, 3) := by decide +kernel
theorem d_T_leastTooNear_27 : decode b_T_leastTooNear 27 = .ok (.astore 6, 2) := by decide +kernel
theorem d_T_leastTooNear_29 : decode b_T_leastTooNear 29 = .ok (.aload 6, 2) := by decide +kernel
theorem d_T_leastTooNear_31 : decode b_T_leastTooNear 31 = .ok (.getfield 186, 3) := by decide +kernel
theorem d_T_leastTooNear_34 : decode b_T_leastTooNear 34 = .ok (.iload_n 2, 1) := by decide +kernel
theorem d_T_leastTooNear_35 : decode b_T_leastTooNear 35 = .ok (.if_icmp .ne 27, 3) := by decide +kernel
theorem d_T_leastTooNear_38 : decode b_T_leastTooNear 38 = .ok (.aload_n 0, 1) := by decide +kernel
theorem d_T_leastTooNear_39 : decode b_T_leastTooNear 39 = .ok (.aload_n 1, 1) := by decide +kernel
theorem d_T_leastTooNear_40 : decode b_T_leastTooNear 40 = .ok (.aload 6, 2) := by decide +kernel
theorem d_T_leastTooNear_42 : decode b_T_leastTooNear 42 = .ok (.invokevirtual 151, 3) := by decide +kernel
theorem d_T_leastTooNear_45 : decode b_T_leastTooNear 45 = .ok (.aload 6, 2) := by decide +kernel
theorem d_T_leastTooNear_47 : decode b_T_leastTooNear 47 = .ok (.iload_n 3, 1) := by decide +kernel
theorem d_T_leastTooNear_48 : decode b_T_leastTooNear 48 = .ok (.iload 4, 2) := by decide +kernel
theorem d_T_leastTooNear_50 : decode b_T_leastTooNear 50 = .ok (.invokevirtual 273, 3) := by decide +kernel
theorem d_T_leastTooNear_53 : decode b_T_leastTooNear 53 = .ok (.invokestatic 276, 3) := by decide +kernel
theorem d_T_leastTooNear_56 : decode b_T_leastTooNear 56 = .ok (.ifCond .eq 6, 3) := by decide +kernel
theorem d_T_leastTooNear_59 : decode b_T_leastTooNear 59 = .ok (.iload 5, 2) := by decide +kernel
theorem d_T_leastTooNear_61 : decode b_T_leastTooNear 61 = .ok (.ireturn, 1) := by decide +kernel
theorem d_T_leastTooNear_62 : decode b_T_leastTooNear 62 = .ok (.iinc 5 1, 3) := by decide +kernel
theorem d_T_leastTooNear_65 : decode b_T_leastTooNear 65 = .ok (.goto (-62), 3) := by decide +kernel
theorem d_T_leastTooNear_68 : decode b_T_leastTooNear 68 = .ok (.iconst (-1), 1) := by decide +kernel
theorem d_T_leastTooNear_69 : decode b_T_leastTooNear 69 = .ok (.ireturn, 1) := by decide +kernel
theorem d_X_distanceTo_0 : decode b_X_distanceTo 0 = .ok (.aload_n 0, 1) := by decide +kernel
theorem d_X_distanceTo_1 : decode b_X_distanceTo 1 = .ok (.getfield 22, 3) := by decide +kernel
theorem d_X_distanceTo_4 : decode b_X_distanceTo 4 = .ok (.iload_n 1, 1) := by decide +kernel
theorem d_X_distanceTo_5 : decode b_X_distanceTo 5 = .ok (.isub, 1) := by decide +kernel
theorem d_X_distanceTo_6 : decode b_X_distanceTo 6 = .ok (.invokestatic 48, 3) := by decide +kernel
theorem d_X_distanceTo_9 : decode b_X_distanceTo 9 = .ok (.aload_n 0, 1) := by decide +kernel
theorem d_X_distanceTo_10 : decode b_X_distanceTo 10 = .ok (.getfield 25, 3) := by decide +kernel
theorem d_X_distanceTo_13 : decode b_X_distanceTo 13 = .ok (.iload_n 2, 1) := by decide +kernel
theorem d_X_distanceTo_14 : decode b_X_distanceTo 14 = .ok (.isub, 1) := by decide +kernel
theorem d_X_distanceTo_15 : decode b_X_distanceTo 15 = .ok (.invokestatic 48, 3) := by decide +kernel
theorem d_X_distanceTo_18 : decode b_X_distanceTo 18 = .ok (.iadd, 1) := by decide +kernel
theorem d_X_distanceTo_19 : decode b_X_distanceTo 19 = .ok (.ireturn, 1) := by decide +kernel
theorem d_T_isTooNear_0 : decode b_T_isTooNear 0 = .ok (.iload_n 0, 1) := by decide +kernel
theorem d_T_isTooNear_1 : decode b_T_isTooNear 1 = .ok (.iconst 4, 1) := by decide +kernel
theorem d_T_isTooNear_2 : decode b_T_isTooNear 2 = .ok (.if_icmp .eq 11, 3) := by decide +kernel
theorem d_T_isTooNear_5 : decode b_T_isTooNear 5 = .ok (.iload_n 1, 1) := by decide +kernel
theorem d_T_isTooNear_6 : decode b_T_isTooNear 6 = .ok (.iload_n 0, 1) := by decide +kernel
theorem d_T_isTooNear_7 : decode b_T_isTooNear 7 = .ok (.invokestatic 279, 3) := by decide +kernel
theorem d_T_isTooNear_10 : decode b_T_isTooNear 10 = .ok (.if_icmp .ge 7, 3) := by decide +kernel
theorem d_T_isTooNear_13 : decode b_T_isTooNear 13 = .ok (.iconst 1, 1) := by decide +kernel
theorem d_T_isTooNear_14 : decode b_T_isTooNear 14 = .ok (.goto 4, 3) := by decide +kernel
theorem d_T_isTooNear_17 : decode b_T_isTooNear 17 = .ok (.iconst 0, 1) := by decide +kernel
theorem d_T_isTooNear_18 : decode b_T_isTooNear 18 = .ok (.ireturn, 1) := by decide +kernel
theorem d_T_leastDistance_0 : decode b_T_leastDistance 0 = .ok (.iload_n 0, 1) := by decide +kernel
theorem d_T_leastDistance_1 : decode b_T_leastDistance 1 = .ok (.tableswitch 35 1 3 #[27, 29, 32], 27) := by decide +kernel
theorem d_T_leastDistance_28 : decode b_T_leastDistance 28 = .ok (.iconst 3, 1) := by decide +kernel
theorem d_T_leastDistance_29 : decode b_T_leastDistance 29 = .ok (.ireturn, 1) := by decide +kernel
theorem d_T_leastDistance_30 : decode b_T_leastDistance 30 = .ok (.bipush 6, 2) := by decide +kernel
theorem d_T_leastDistance_32 : decode b_T_leastDistance 32 = .ok (.ireturn, 1) := by decide +kernel
theorem d_T_leastDistance_33 : decode b_T_leastDistance 33 = .ok (.bipush 12, 2) := by decide +kernel
theorem d_T_leastDistance_35 : decode b_T_leastDistance 35 = .ok (.ireturn, 1) := by decide +kernel
theorem d_T_leastDistance_36 : decode b_T_leastDistance 36 = .ok (.iconst 0, 1) := by decide +kernel
theorem d_T_leastDistance_37 : decode b_T_leastDistance 37 = .ok (.ireturn, 1) := by decide +kernel
theorem d_X_lay_0 : decode b_X_lay 0 = .ok (.aload_n 0, 1) := by decide +kernel
theorem d_X_lay_1 : decode b_X_lay 1 = .ok (.iload_n 1, 1) := by decide +kernel
theorem d_X_lay_2 : decode b_X_lay 2 = .ok (.putfield 18, 3) := by decide +kernel
theorem d_X_lay_5 : decode b_X_lay 5 = .ok (.aload_n 0, 1) := by decide +kernel
theorem d_X_lay_6 : decode b_X_lay 6 = .ok (.iload_n 2, 1) := by decide +kernel
theorem d_X_lay_7 : decode b_X_lay 7 = .ok (.putfield 22, 3) := by decide +kernel
theorem d_X_lay_10 : decode b_X_lay 10 = .ok (.aload_n 0, 1) := by decide +kernel
theorem d_X_lay_11 : decode b_X_lay 11 = .ok (.iload_n 3, 1) := by decide +kernel
theorem d_X_lay_12 : decode b_X_lay 12 = .ok (.putfield 25, 3) := by decide +kernel
theorem d_X_lay_15 : decode b_X_lay 15 = .ok (.return_, 1) := by decide +kernel
theorem d_L_take_0 : decode b_L_take 0 = .ok (.aload_n 2, 1) := by decide +kernel
theorem d_L_take_1 : decode b_L_take 1 = .ok (.iconst 0, 1) := by decide +kernel
theorem d_L_take_2 : decode b_L_take 2 = .ok (.aload_n 0, 1) := by decide +kernel
theorem d_L_take_3 : decode b_L_take 3 = .ok (.iload_n 1, 1) := by decide +kernel
theorem d_L_take_4 : decode b_L_take 4 = .ok (.invokevirtual 42, 3) := by decide +kernel
theorem d_L_take_7 : decode b_L_take 7 = .ok (.i2l, 1) := by decide +kernel
theorem d_L_take_8 : decode b_L_take 8 = .ok (.lastore, 1) := by decide +kernel
theorem d_L_take_9 : decode b_L_take 9 = .ok (.goto 6, 3) := by decide +kernel
theorem d_L_take_12 : decode b_L_take 12 = .ok (.astore_n 3, 1) := by decide +kernel
theorem d_L_take_13 : decode b_L_take 13 = .ok (.iconst 1, 1) := by decide +kernel
theorem d_L_take_14 : decode b_L_take 14 = .ok (.ireturn, 1) := by decide +kernel
theorem d_L_take_15 : decode b_L_take 15 = .ok (.iconst 0, 1) := by decide +kernel
theorem d_L_take_16 : decode b_L_take 16 = .ok (.ireturn, 1) := by decide +kernel
theorem d_T_take_0 : decode b_T_take 0 = .ok (.aload_n 0, 1) := by decide +kernel
theorem d_T_take_1 : decode b_T_take 1 = .ok (.iload_n 1, 1) := by decide +kernel
theorem d_T_take_2 : decode b_T_take 2 = .ok (.invokevirtual 127, 3) := by decide +kernel
theorem d_T_take_5 : decode b_T_take 5 = .ok (.ifCond .ne 13, 3) := by decide +kernel
theorem d_T_take_8 : decode b_T_take 8 = .ok (.new 64, 3) := by decide +kernel
theorem d_T_take_11 : decode b_T_take 11 = .ok (.dup, 1) := by decide +kernel
theorem d_T_take_12 : decode b_T_take 12 = .ok (.ldc 184, 2) := by decide +kernel
theorem d_T_take_14 : decode b_T_take 14 = .ok (.invokespecial 68, 3) := by decide +kernel
theorem d_T_take_17 : decode b_T_take 17 = .ok (.athrow, 1) := by decide +kernel
theorem d_T_take_18 : decode b_T_take 18 = .ok (.aload_n 0, 1) := by decide +kernel
theorem d_T_take_19 : decode b_T_take 19 = .ok (.getfield 33, 3) := by decide +kernel
theorem d_T_take_22 : decode b_T_take 22 = .ok (.iload_n 1, 1) := by decide +kernel
theorem d_T_take_23 : decode b_T_take 23 = .ok (.invokevirtual 107, 3) := by decide +kernel
theorem d_T_take_26 : decode b_T_take 26 = .ok (.checkcast 121, 3) := by decide +kernel
theorem d_T_take_29 : decode b_T_take 29 = .ok (.astore_n 2, 1) := by decide +kernel
theorem d_T_take_30 : decode b_T_take 30 = .ok (.aload_n 2, 1) := by decide +kernel
theorem d_T_take_31 : decode b_T_take 31 = .ok (.getfield 186, 3) := by decide +kernel
theorem d_T_take_34 : decode b_T_take 34 = .ok (.istore_n 3, 1) := by decide +kernel
theorem d_T_take_35 : decode b_T_take 35 = .ok (.aload_n 2, 1) := by decide +kernel
theorem d_T_take_36 : decode b_T_take 36 = .ok (.iconst (-1), 1) := by decide +kernel
theorem d_T_take_37 : decode b_T_take 37 = .ok (.iconst (-1), 1) := by decide +kernel
theorem d_T_take_38 : decode b_T_take 38 = .ok (.iconst (-1), 1) := by decide +kernel
theorem d_T_take_39 : decode b_T_take 39 = .ok (.invokevirtual 180, 3) := by decide +kernel
theorem d_T_take_42 : decode b_T_take 42 = .ok (.iload_n 3, 1) := by decide +kernel
theorem d_T_take_43 : decode b_T_take 43 = .ok (.ireturn, 1) := by decide +kernel
theorem d_L_missing_0 : decode b_L_missing 0 = .ok (.aload_n 2, 1) := by decide +kernel
theorem d_L_missing_1 : decode b_L_missing 1 = .ok (.iconst 0, 1) := by decide +kernel
theorem d_L_missing_2 : decode b_L_missing 2 = .ok (.aload_n 0, 1) := by decide +kernel
theorem d_L_missing_3 : decode b_L_missing 3 = .ok (.iload_n 1, 1) := by decide +kernel
theorem d_L_missing_4 : decode b_L_missing 4 = .ok (.invokevirtual 46, 3) := by decide +kernel
theorem d_L_missing_7 : decode b_L_missing 7 = .ok (.i2l, 1) := by decide +kernel
theorem d_L_missing_8 : decode b_L_missing 8 = .ok (.lastore, 1) := by decide +kernel
theorem d_L_missing_9 : decode b_L_missing 9 = .ok (.goto 6, 3) := by decide +kernel
theorem d_L_missing_12 : decode b_L_missing 12 = .ok (.astore_n 3, 1) := by decide +kernel
theorem d_L_missing_13 : decode b_L_missing 13 = .ok (.iconst 1, 1) := by decide +kernel
theorem d_L_missing_14 : decode b_L_missing 14 = .ok (.ireturn, 1) := by decide +kernel
theorem d_L_missing_15 : decode b_L_missing 15 = .ok (.iconst 0, 1) := by decide +kernel
theorem d_L_missing_16 : decode b_L_missing 16 = .ok (.ireturn, 1) := by decide +kernel
theorem d_T_missing_0 : decode b_T_missing 0 = .ok (.aload_n 0, 1) := by decide +kernel
theorem d_T_missing_1 : decode b_T_missing 1 = .ok (.iload_n 1, 1) := by decide +kernel
theorem d_T_missing_2 : decode b_T_missing 2 = .ok (.invokevirtual 127, 3) := by decide +kernel
theorem d_T_missing_5 : decode b_T_missing 5 = .ok (.ifCond .ne 13, 3) := by decide +kernel
theorem d_T_missing_8 : decode b_T_missing 8 = .ok (.new 64, 3) := by decide +kernel
theorem d_T_missing_11 : decode b_T_missing 11 = .ok (.dup, 1) := by decide +kernel
theorem d_T_missing_12 : decode b_T_missing 12 = .ok (.ldc 184, 2) := by decide +kernel
theorem d_T_missing_14 : decode b_T_missing 14 = .ok (.invokespecial 68, 3) := by decide +kernel
theorem d_T_missing_17 : decode b_T_missing 17 = .ok (.athrow, 1) := by decide +kernel
theorem d_T_missing_18 : decode b_T_missing 18 = .ok (.aload_n 0, 1) := by decide +kernel
theorem d_T_missing_19 : decode b_T_missing 19 = .ok (.getfield 33, 3) := by decide +kernel
theorem d_T_missing_22 : decode b_T_missing 22 = .ok (.iload_n 1, 1) := by decide +kernel
theorem d_T_missing_23 : decode b_T_missing 23 = .ok (.invokevirtual 107, 3) := by decide +kernel
theorem d_T_missing_26 : decode b_T_missing 26 = .ok (.checkcast 121, 3) := by decide +kernel
theorem d_T_missing_29 : decode b_T_missing 29 = .ok (.invokevirtual 193, 3) := by decide +kernel
theorem d_T_missing_32 : decode b_T_missing 32 = .ok (.ireturn, 1) := by decide +kernel
theorem d_L_look_0 : decode b_L_look 0 = .ok (.aload_n 3, 1) := by decide +kernel
theorem d_L_look_1 : decode b_L_look 1 = .ok (.iconst 0, 1) := by decide +kernel
theorem d_L_look_2 : decode b_L_look 2 = .ok (.aload_n 0, 1) := by decide +kernel
theorem d_L_look_3 : decode b_L_look 3 = .ok (.iload_n 1, 1) := by decide +kernel
theorem d_L_look_4 : decode b_L_look 4 = .ok (.iload_n 2, 1) := by decide +kernel
theorem d_L_look_5 : decode b_L_look 5 = .ok (.invokevirtual 49, 3) := by decide +kernel
theorem d_L_look_8 : decode b_L_look 8 = .ok (.i2l, 1) := by decide +kernel
theorem d_L_look_9 : decode b_L_look 9 = .ok (.lastore, 1) := by decide +kernel
theorem d_L_look_10 : decode b_L_look 10 = .ok (.goto 7, 3) := by decide +kernel
theorem d_L_look_13 : decode b_L_look 13 = .ok (.astore 4, 2) := by decide +kernel
theorem d_L_look_15 : decode b_L_look 15 = .ok (.iconst 1, 1) := by decide +kernel
theorem d_L_look_16 : decode b_L_look 16 = .ok (.ireturn, 1) := by decide +kernel
theorem d_L_look_17 : decode b_L_look 17 = .ok (.iconst 0, 1) := by decide +kernel
theorem d_L_look_18 : decode b_L_look 18 = .ok (.ireturn, 1) := by decide +kernel
theorem d_T_look_0 : decode b_T_look 0 = .ok (.aload_n 0, 1) := by decide +kernel
theorem d_T_look_1 : decode b_T_look 1 = .ok (.iload_n 1, 1) := by decide +kernel
theorem d_T_look_2 : decode b_T_look 2 = .ok (.invokevirtual 127, 3) := by decide +kernel
theorem d_T_look_5 : decode b_T_look 5 = .ok (.ifCond .eq 13, 3) := by decide +kernel
theorem d_T_look_8 : decode b_T_look 8 = .ok (.iload_n 2, 1) := by decide +kernel
theorem d_T_look_9 : decode b_T_look 9 = .ok (.ifCond .lt 9, 3) := by decide +kernel
theorem d_T_look_12 : decode b_T_look 12 = .ok (.iload_n 2, 1) := by decide +kernel
theorem d_T_look_13 : decode b_T_look 13 = .ok (.bipush 7, 2) := by decide +kernel
theorem d_T_look_15 : decode b_T_look 15 = .ok (.if_icmp .lt 13, 3) := by decide +kernel
theorem d_T_look_18 : decode b_T_look 18 = .ok (.new 196, 3) := by decide +kernel
theorem d_T_look_21 : decode b_T_look 21 = .ok (.dup, 1) := by decide +kernel
theorem d_T_look_22 : decode b_T_look 22 = .ok (.ldc 198, 2) := by decide +kernel
theorem d_T_look_24 : decode b_T_look 24 = .ok (.invokespecial 200, 3) := by decide +kernel
theorem d_T_look_27 : decode b_T_look 27 = .ok (.athrow, 1) := by decide +kernel
theorem d_T_look_28 : decode b_T_look 28 = .ok (.aload_n 0, 1) := by decide +kernel
theorem d_T_look_29 : decode b_T_look 29 = .ok (.getfield 33, 3) := by decide +kernel
theorem d_T_look_32 : decode b_T_look 32 = .ok (.iload_n 1, 1) := by decide +kernel
theorem d_T_look_33 : decode b_T_look 33 = .ok (.invokevirtual 107, 3) := by decide +kernel
theorem d_T_look_36 : decode b_T_look 36 = .ok (.checkcast 121, 3) := by decide +kernel
theorem d_T_look_39 : decode b_T_look 39 = .ok (.astore_n 3, 1) := by decide +kernel
theorem d_T_look_40 : decode b_T_look 40 = .ok (.iload_n 2, 1) := by decide +kernel
theorem d_T_look_41 : decode b_T_look 41 = .ok (.tableswitch 69 0 5 #[39, 44, 49, 54, 59, 64], 39) := by decide +kernel
theorem d_T_look_80 : decode b_T_look 80 = .ok (.aload_n 3, 1) := by decide +kernel
theorem d_T_look_81 : decode b_T_look 81 = .ok (.invokevirtual 141, 3) := by decide +kernel
theorem d_T_look_84 : decode b_T_look 84 = .ok (.ireturn, 1) := by decide +kernel
theorem d_T_look_85 : decode b_T_look 85 = .ok (.aload_n 3, 1) := by decide +kernel
theorem d_T_look_86 : decode b_T_look 86 = .ok (.getfield 186, 3) := by decide +kernel
theorem d_T_look_89 : decode b_T_look 89 = .ok (.ireturn, 1) := by decide +kernel
theorem d_T_look_90 : decode b_T_look 90 = .ok (.aload_n 3, 1) := by decide +kernel
theorem d_T_look_91 : decode b_T_look 91 = .ok (.getfield 201, 3) := by decide +kernel
theorem d_T_look_94 : decode b_T_look 94 = .ok (.ireturn, 1) := by decide +kernel
theorem d_T_look_95 : decode b_T_look 95 = .ok (.aload_n 3, 1) := by decide +kernel
theorem d_T_look_96 : decode b_T_look 96 = .ok (.getfield 204, 3) := by decide +kernel
theorem d_T_look_99 : decode b_T_look 99 = .ok (.ireturn, 1) := by decide +kernel
theorem d_T_look_100 : decode b_T_look 100 = .ok (.aload_n 3, 1) := by decide +kernel
theorem d_T_look_101 : decode b_T_look 101 = .ok (.invokevirtual 207, 3) := by decide +kernel
theorem d_T_look_104 : decode b_T_look 104 = .ok (.ireturn, 1) := by decide +kernel
theorem d_T_look_105 : decode b_T_look 105 = .ok (.aload_n 3, 1) := by decide +kernel
theorem d_T_look_106 : decode b_T_look 106 = .ok (.invokevirtual 210, 3) := by decide +kernel
theorem d_T_look_109 : decode b_T_look 109 = .ok (.ireturn, 1) := by decide +kernel
theorem d_T_look_110 : decode b_T_look 110 = .ok (.aload_n 3, 1) := by decide +kernel
theorem d_T_look_111 : decode b_T_look 111 = .ok (.getfield 213, 3) := by decide +kernel
theorem d_T_look_114 : decode b_T_look 114 = .ok (.ireturn, 1) := by decide +kernel
theorem d_X_kilograms_0 : decode b_X_kilograms 0 = .ok (.iconst 0, 1) := by decide +kernel
theorem d_X_kilograms_1 : decode b_X_kilograms 1 = .ok (.istore_n 1, 1) := by decide +kernel
theorem d_X_kilograms_2 : decode b_X_kilograms 2 = .ok (.iconst 0, 1) := by decide +kernel
theorem d_X_kilograms_3 : decode b_X_kilograms 3 = .ok (.istore_n 2, 1) := by decide +kernel
theorem d_X_kilograms_4 : decode b_X_kilograms 4 = .ok (.iload_n 2, 1) := by decide +kernel
theorem d_X_kilograms_5 : decode b_X_kilograms 5 = .ok (.aload_n 0, 1) := by decide +kernel
theorem d_X_kilograms_6 : decode b_X_kilograms 6 = .ok (.getfield 12, 3) := by decide +kernel
theorem d_X_kilograms_9 : decode b_X_kilograms 9 = .ok (.invokevirtual 37, 3) := by decide +kernel
theorem d_X_kilograms_12 : decode b_X_kilograms 12 = .ok (.if_icmp .ge 26, 3) := by decide +kernel
theorem d_X_kilograms_15 : decode b_X_kilograms 15 = .ok (.iload_n 1, 1) := by decide +kernel
theorem d_X_kilograms_16 : decode b_X_kilograms 16 = .ok (.aload_n 0, 1) := by decide +kernel
theorem d_X_kilograms_17 : decode b_X_kilograms 17 = .ok (.getfield 12, 3) := by decide +kernel
theorem d_X_kilograms_20 : decode b_X_kilograms 20 = .ok (.iload_n 2, 1) := by decide +kernel
theorem d_X_kilograms_21 : decode b_X_kilograms 21 = .ok (.invokevirtual 41, 3) := by decide +kernel
theorem d_X_kilograms_24 : decode b_X_kilograms 24 = .ok (.checkcast 28, 3) := by decide +kernel
theorem d_X_kilograms_27 : decode b_X_kilograms 27 = .ok (.getfield 54, 3) := by decide +kernel
theorem d_X_kilograms_30 : decode b_X_kilograms 30 = .ok (.iadd, 1) := by decide +kernel
theorem d_X_kilograms_31 : decode b_X_kilograms 31 = .ok (.istore_n 1, 1) := by decide +kernel
theorem d_X_kilograms_32 : decode b_X_kilograms 32 = .ok (.iinc 2 1, 3) := by decide +kernel
theorem d_X_kilograms_35 : decode b_X_kilograms 35 = .ok (.goto (-31), 3) := by decide +kernel
theorem d_X_kilograms_38 : decode b_X_kilograms 38 = .ok (.iload_n 1, 1) := by decide +kernel
theorem d_X_kilograms_39 : decode b_X_kilograms 39 = .ok (.ireturn, 1) := by decide +kernel
theorem d_X_limitedCount_0 : decode b_X_limitedCount 0 = .ok (.iconst 0, 1) := by decide +kernel
theorem d_X_limitedCount_1 : decode b_X_limitedCount 1 = .ok (.istore_n 1, 1) := by decide +kernel
theorem d_X_limitedCount_2 : decode b_X_limitedCount 2 = .ok (.iconst 0, 1) := by decide +kernel
theorem d_X_limitedCount_3 : decode b_X_limitedCount 3 = .ok (.istore_n 2, 1) := by decide +kernel
theorem d_X_limitedCount_4 : decode b_X_limitedCount 4 = .ok (.iload_n 2, 1) := by decide +kernel
theorem d_X_limitedCount_5 : decode b_X_limitedCount 5 = .ok (.aload_n 0, 1) := by decide +kernel
theorem d_X_limitedCount_6 : decode b_X_limitedCount 6 = .ok (.getfield 12, 3) := by decide +kernel
theorem d_X_limitedCount_9 : decode b_X_limitedCount 9 = .ok (.invokevirtual 37, 3) := by decide +kernel
theorem d_X_limitedCount_12 : decode b_X_limitedCount 12 = .ok (.if_icmp .ge 29, 3) := by decide +kernel
theorem d_X_limitedCount_15 : decode b_X_limitedCount 15 = .ok (.aload_n 0, 1) := by decide +kernel
theorem d_X_limitedCount_16 : decode b_X_limitedCount 16 = .ok (.getfield 12, 3) := by decide +kernel
theorem d_X_limitedCount_19 : decode b_X_limitedCount 19 = .ok (.iload_n 2, 1) := by decide +kernel
theorem d_X_limitedCount_20 : decode b_X_limitedCount 20 = .ok (.invokevirtual 41, 3) := by decide +kernel
theorem d_X_limitedCount_23 : decode b_X_limitedCount 23 = .ok (.checkcast 28, 3) := by decide +kernel
theorem d_X_limitedCount_26 : decode b_X_limitedCount 26 = .ok (.invokevirtual 67, 3) := by decide +kernel
theorem d_X_limitedCount_29 : decode b_X_limitedCount 29 = .ok (.ifCond .eq 6, 3) := by decide +kernel
theorem d_X_limitedCount_32 : decode b_X_limitedCount 32 = .ok (.iinc 1 1, 3) := by decide +kernel
theorem d_X_limitedCount_35 : decode b_X_limitedCount 35 = .ok (.iinc 2 1, 3) := by decide +kernel
theorem d_X_limitedCount_38 : decode b_X_limitedCount 38 = .ok (.goto (-34), 3) := by decide +kernel
theorem d_X_limitedCount_41 : decode b_X_limitedCount 41 = .ok (.iload_n 1, 1) := by decide +kernel
theorem d_X_limitedCount_42 : decode b_X_limitedCount 42 = .ok (.ireturn, 1) := by decide +kernel
theorem d_M_init_0 : decode b_M_init 0 = .ok (.aload_n 0, 1) := by decide +kernel
theorem d_M_init_1 : decode b_M_init 1 = .ok (.invokespecial 1, 3) := by decide +kernel
theorem d_M_init_4 : decode b_M_init 4 = .ok (.aload_n 0, 1) := by decide +kernel
theorem d_M_init_5 : decode b_M_init 5 = .ok (.sipush 300, 3) := by decide +kernel
theorem d_M_init_8 : decode b_M_init 8 = .ok (.newarray .int, 2) := by decide +kernel
theorem d_M_init_10 : decode b_M_init 10 = .ok (.putfield 7, 3) := by decide +kernel
theorem d_M_init_13 : decode b_M_init 13 = .ok (.aload_n 0, 1) := by decide +kernel
theorem d_M_init_14 : decode b_M_init 14 = .ok (.sipush 162, 3) := by decide +kernel
theorem d_M_init_17 : decode b_M_init 17 = .ok (.newarray .int, 2) := by decide +kernel
theorem d_M_init_19 : decode b_M_init 19 = .ok (.putfield 13, 3) := by decide +kernel
theorem d_M_init_22 : decode b_M_init 22 = .ok (.aload_n 0, 1) := by decide +kernel
theorem d_M_init_23 : decode b_M_init 23 = .ok (.bipush 16, 2) := by decide +kernel
theorem d_M_init_25 : decode b_M_init 25 = .ok (.newarray .int, 2) := by decide +kernel
theorem d_M_init_27 : decode b_M_init 27 = .ok (.putfield 16, 3) := by decide +kernel
theorem d_M_init_30 : decode b_M_init 30 = .ok (.aload_n 0, 1) := by decide +kernel
theorem d_M_init_31 : decode b_M_init 31 = .ok (.bipush 16, 2) := by decide +kernel
theorem d_M_init_33 : decode b_M_init 33 = .ok (.newarray .int, 2) := by decide +kernel
theorem d_M_init_35 : decode b_M_init 35 = .ok (.putfield 19, 3) := by decide +kernel
theorem d_M_init_38 : decode b_M_init 38 = .ok (.aload_n 0, 1) := by decide +kernel
theorem d_M_init_39 : decode b_M_init 39 = .ok (.bipush 16, 2) := by decide +kernel
theorem d_M_init_41 : decode b_M_init 41 = .ok (.newarray .int, 2) := by decide +kernel
theorem d_M_init_43 : decode b_M_init 43 = .ok (.putfield 22, 3) := by decide +kernel
theorem d_M_init_46 : decode b_M_init 46 = .ok (.aload_n 0, 1) := by decide +kernel
theorem d_M_init_47 : decode b_M_init 47 = .ok (.bipush 16, 2) := by decide +kernel
theorem d_M_init_49 : decode b_M_init 49 = .ok (.newarray .int, 2) := by decide +kernel
theorem d_M_init_51 : decode b_M_init 51 = .ok (.putfield 25, 3) := by decide +kernel
theorem d_M_init_54 : decode b_M_init 54 = .ok (.aload_n 0, 1) := by decide +kernel
theorem d_M_init_55 : decode b_M_init 55 = .ok (.bipush 16, 2) := by decide +kernel
theorem d_M_init_57 : decode b_M_init 57 = .ok (.newarray .boolean, 2) := by decide +kernel
theorem d_M_init_59 : decode b_M_init 59 = .ok (.putfield 28, 3) := by decide +kernel
theorem d_M_init_62 : decode b_M_init 62 = .ok (.aload_n 0, 1) := by decide +kernel
theorem d_M_init_63 : decode b_M_init 63 = .ok (.bipush 16, 2) := by decide +kernel
theorem d_M_init_65 : decode b_M_init 65 = .ok (.newarray .boolean, 2) := by decide +kernel
theorem d_M_init_67 : decode b_M_init 67 = .ok (.putfield 32, 3) := by decide +kernel
theorem d_M_init_70 : decode b_M_init 70 = .ok (.aload_n 0, 1) := by decide +kernel
theorem d_M_init_71 : decode b_M_init 71 = .ok (.sipush 1296, 3) := by decide +kernel
theorem d_M_init_74 : decode b_M_init 74 = .ok (.newarray .boolean, 2) := by decide +kernel
theorem d_M_init_76 : decode b_M_init 76 = .ok (.putfield 35, 3) := by decide +kernel
theorem d_M_init_79 : decode b_M_init 79 = .ok (.aload_n 0, 1) := by decide +kernel
theorem d_M_init_80 : decode b_M_init 80 = .ok (.bipush 12, 2) := by decide +kernel
theorem d_M_init_82 : decode b_M_init 82 = .ok (.newarray .int, 2) := by decide +kernel
theorem d_M_init_84 : decode b_M_init 84 = .ok (.putfield 38, 3) := by decide +kernel
theorem d_M_init_87 : decode b_M_init 87 = .ok (.aload_n 0, 1) := by decide +kernel
theorem d_M_init_88 : decode b_M_init 88 = .ok (.bipush 12, 2) := by decide +kernel
theorem d_M_init_90 : decode b_M_init 90 = .ok (.newarray .int, 2) := by decide +kernel
theorem d_M_init_92 : decode b_M_init 92 = .ok (.putfield 41, 3) := by decide +kernel
theorem d_M_init_95 : decode b_M_init 95 = .ok (.aload_n 0, 1) := by decide +kernel
theorem d_M_init_96 : decode b_M_init 96 = .ok (.bipush 12, 2) := by decide +kernel
theorem d_M_init_98 : decode b_M_init 98 = .ok (.newarray .int, 2) := by decide +kernel
theorem d_M_init_100 : decode b_M_init 100 = .ok (.putfield 44, 3) := by decide +kernel
theorem d_M_init_103 : decode b_M_init 103 = .ok (.aload_n 0, 1) := by decide +kernel
theorem d_M_init_104 : decode b_M_init 104 = .ok (.bipush 12, 2) := by decide +kernel
theorem d_M_init_106 : decode b_M_init 106 = .ok (.newarray .int, 2) := by decide +kernel
theorem d_M_init_108 : decode b_M_init 108 = .ok (.putfield 47, 3) := by decide +kernel
theorem d_M_init_111 : decode b_M_init 111 = .ok (.aload_n 0, 1) := by decide +kernel
theorem d_M_init_112 : decode b_M_init 112 = .ok (.bipush 12, 2) := by decide +kernel
theorem d_M_init_114 : decode b_M_init 114 = .ok (.newarray .int, 2) := by decide +kernel
theorem d_M_init_116 : decode b_M_init 116 = .ok (.putfield 50, 3) := by decide +kernel
theorem d_M_init_119 : decode b_M_init 119 = .ok (.aload_n 0, 1) := by decide +kernel
theorem d_M_init_120 : decode b_M_init 120 = .ok (.bipush 48, 2) := by decide +kernel
theorem d_M_init_122 : decode b_M_init 122 = .ok (.newarray .int, 2) := by decide +kernel
theorem d_M_init_124 : decode b_M_init 124 = .ok (.putfield 53, 3) := by decide +kernel
theorem d_M_init_127 : decode b_M_init 127 = .ok (.aload_n 0, 1) := by decide +kernel
theorem d_M_init_128 : decode b_M_init 128 = .ok (.bipush 48, 2) := by decide +kernel
theorem d_M_init_130 : decode b_M_init 130 = .ok (.newarray .int, 2) := by decide +kernel
theorem d_M_init_132 : decode b_M_init 132 = .ok (.putfield 56, 3) := by decide +kernel
theorem d_M_init_135 : decode b_M_init 135 = .ok (.aload_n 0, 1) := by decide +kernel
theorem d_M_init_136 : decode b_M_init 136 = .ok (.bipush 36, 2) := by decide +kernel
theorem d_M_init_138 : decode b_M_init 138 = .ok (.newarray .int, 2) := by decide +kernel
theorem d_M_init_140 : decode b_M_init 140 = .ok (.putfield 59, 3) := by decide +kernel
theorem d_M_init_143 : decode b_M_init 143 = .ok (.iconst 0, 1) := by decide +kernel
theorem d_M_init_144 : decode b_M_init 144 = .ok (.istore_n 1, 1) := by decide +kernel
theorem d_M_init_145 : decode b_M_init 145 = .ok (.iload_n 1, 1) := by decide +kernel
theorem d_M_init_146 : decode b_M_init 146 = .ok (.bipush 81, 2) := by decide +kernel
theorem d_M_init_148 : decode b_M_init 148 = .ok (.if_icmp .ge 16, 3) := by decide +kernel
theorem d_M_init_151 : decode b_M_init 151 = .ok (.aload_n 0, 1) := by decide +kernel
theorem d_M_init_152 : decode b_M_init 152 = .ok (.getfield 13, 3) := by decide +kernel
theorem d_M_init_155 : decode b_M_init 155 = .ok (.iload_n 1, 1) := by decide +kernel
theorem d_M_init_156 : decode b_M_init 156 = .ok (.iconst 4, 1) := by decide +kernel
theorem d_M_init_157 : decode b_M_init 157 = .ok (.iastore, 1) := by decide +kernel
theorem d_M_init_158 : decode b_M_init 158 = .ok (.iinc 1 1, 3) := by decide +kernel
theorem d_M_init_161 : decode b_M_init 161 = .ok (.goto (-16), 3) := by decide +kernel
theorem d_M_init_164 : decode b_M_init 164 = .ok (.iconst 0, 1) := by decide +kernel
theorem d_M_init_165 : decode b_M_init 165 = .ok (.istore_n 1, 1) := by decide +kernel
theorem d_M_init_166 : decode b_M_init 166 = .ok (.iload_n 1, 1) := by decide +kernel
theorem d_M_init_167 : decode b_M_init 167 = .ok (.bipush 36, 2) := by decide +kernel
theorem d_M_init_169 : decode b_M_init 169 = .ok (.if_icmp .ge 17, 3) := by decide +kernel
theorem d_M_init_172 : decode b_M_init 172 = .ok (.aload_n 0, 1) := by decide +kernel
theorem d_M_init_173 : decode b_M_init 173 = .ok (.getfield 59, 3) := by decide +kernel
theorem d_M_init_176 : decode b_M_init 176 = .ok (.iload_n 1, 1) := by decide +kernel
theorem d_M_init_177 : decode b_M_init 177 = .ok (.ldc 62, 2) := by decide +kernel
theorem d_M_init_179 : decode b_M_init 179 = .ok (.iastore, 1) := by decide +kernel
theorem d_M_init_180 : decode b_M_init 180 = .ok (.iinc 1 1, 3) := by decide +kernel
theorem d_M_init_183 : decode b_M_init 183 = .ok (.goto (-17), 3) := by decide +kernel
theorem d_M_init_186 : decode b_M_init 186 = .ok (.iconst 0, 1) := by decide +kernel
theorem d_M_init_187 : decode b_M_init 187 = .ok (.istore_n 1, 1) := by decide +kernel
theorem d_M_init_188 : decode b_M_init 188 = .ok (.iload_n 1, 1) := by decide +kernel
theorem d_M_init_189 : decode b_M_init 189 = .ok (.bipush 12, 2) := by decide +kernel
theorem d_M_init_191 : decode b_M_init 191 = .ok (.if_icmp .ge 16, 3) := by decide +kernel
theorem d_M_init_194 : decode b_M_init 194 = .ok (.aload_n 0, 1) := by decide +kernel
theorem d_M_init_195 : decode b_M_init 195 = .ok (.getfield 41, 3) := by decide +kernel
theorem d_M_init_198 : decode b_M_init 198 = .ok (.iload_n 1, 1) := by decide +kernel
theorem d_M_init_199 : decode b_M_init 199 = .ok (.iconst (-1), 1) := by decide +kernel
theorem d_M_init_200 : decode b_M_init 200 = .ok (.iastore, 1) := by decide +kernel
theorem d_M_init_201 : decode b_M_init 201 = .ok (.iinc 1 1, 3) := by decide +kernel
theorem d_M_init_204 : decode b_M_init 204 = .ok (.goto (-16), 3) := by decide +kernel
theorem d_M_init_207 : decode b_M_init 207 = .ok (.return_, 1) := by decide +kernel
theorem d_M_thrown_0 : decode b_M_thrown 0 = .ok (.aload_n 0, 1) := by decide +kernel
theorem d_M_thrown_1 : decode b_M_thrown 1 = .ok (.getfield 63, 3) := by decide +kernel
theorem d_M_thrown_4 : decode b_M_thrown 4 = .ok (.ireturn, 1) := by decide +kernel
theorem d_M_sign_0 : decode b_M_sign 0 = .ok (.aload_n 0, 1) := by decide +kernel
theorem d_M_sign_1 : decode b_M_sign 1 = .ok (.iconst 0, 1) := by decide +kernel
theorem d_M_sign_2 : decode b_M_sign 2 = .ok (.putfield 63, 3) := by decide +kernel
theorem d_M_sign_5 : decode b_M_sign 5 = .ok (.iload_n 1, 1) := by decide +kernel
theorem d_M_sign_6 : decode b_M_sign 6 = .ok (.bipush 48, 2) := by decide +kernel
theorem d_M_sign_8 : decode b_M_sign 8 = .ok (.bipush 57, 2) := by decide +kernel
theorem d_M_sign_10 : decode b_M_sign 10 = .ok (.invokestatic 73, 3) := by decide +kernel
theorem d_M_sign_13 : decode b_M_sign 13 = .ok (.ifCond .ne 9, 3) := by decide +kernel
theorem d_M_sign_16 : decode b_M_sign 16 = .ok (.iload_n 1, 1) := by decide +kernel
theorem d_M_sign_17 : decode b_M_sign 17 = .ok (.bipush 59, 2) := by decide +kernel
theorem d_M_sign_19 : decode b_M_sign 19 = .ok (.if_icmp .ne 13, 3) := by decide +kernel
theorem d_M_sign_22 : decode b_M_sign 22 = .ok (.aload_n 0, 1) := by decide +kernel
theorem d_M_sign_23 : decode b_M_sign 23 = .ok (.getfield 77, 3) := by decide +kernel
theorem d_M_sign_26 : decode b_M_sign 26 = .ok (.sipush 300, 3) := by decide +kernel
theorem d_M_sign_29 : decode b_M_sign 29 = .ok (.if_icmp .ne 5, 3) := by decide +kernel
theorem d_M_sign_32 : decode b_M_sign 32 = .ok (.iconst 0, 1) := by decide +kernel
theorem d_M_sign_33 : decode b_M_sign 33 = .ok (.ireturn, 1) := by decide +kernel
theorem d_M_sign_34 : decode b_M_sign 34 = .ok (.aload_n 0, 1) := by decide +kernel
theorem d_M_sign_35 : decode b_M_sign 35 = .ok (.getfield 7, 3) := by decide +kernel
theorem d_M_sign_38 : decode b_M_sign 38 = .ok (.aload_n 0, 1) := by decide +kernel
theorem d_M_sign_39 : decode b_M_sign 39 = .ok (.getfield 77, 3) := by decide +kernel
theorem d_M_sign_42 : decode b_M_sign 42 = .ok (.iload_n 1, 1) := by decide +kernel
theorem d_M_sign_43 : decode b_M_sign 43 = .ok (.iastore, 1) := by decide +kernel
theorem d_M_sign_44 : decode b_M_sign 44 = .ok (.aload_n 0, 1) := by decide +kernel
theorem d_M_sign_45 : decode b_M_sign 45 = .ok (.dup, 1) := by decide +kernel
theorem d_M_sign_46 : decode b_M_sign 46 = .ok (.getfield 77, 3) := by decide +kernel
theorem d_M_sign_49 : decode b_M_sign 49 = .ok (.iconst 1, 1) := by decide +kernel
theorem d_M_sign_50 : decode b_M_sign 50 = .ok (.iadd, 1) := by decide +kernel
theorem d_M_sign_51 : decode b_M_sign 51 = .ok (.putfield 77, 3) := by decide +kernel
theorem d_M_sign_54 : decode b_M_sign 54 = .ok (.iconst 1, 1) := by decide +kernel
theorem d_M_sign_55 : decode b_M_sign 55 = .ok (.ireturn, 1) := by decide +kernel
theorem d_M_in_0 : decode b_M_in 0 = .ok (.iload_n 0, 1) := by decide +kernel
theorem d_M_in_1 : decode b_M_in 1 = .ok (.iload_n 1, 1) := by decide +kernel
theorem d_M_in_2 : decode b_M_in 2 = .ok (.if_icmp .lt 12, 3) := by decide +kernel
theorem d_M_in_5 : decode b_M_in 5 = .ok (.iload_n 0, 1) := by decide +kernel
theorem d_M_in_6 : decode b_M_in 6 = .ok (.iload_n 2, 1) := by decide +kernel
theorem d_M_in_7 : decode b_M_in 7 = .ok (.if_icmp .gt 7, 3) := by decide +kernel
theorem d_M_in_10 : decode b_M_in 10 = .ok (.iconst 1, 1) := by decide +kernel
theorem d_M_in_11 : decode b_M_in 11 = .ok (.goto 4, 3) := by decide +kernel
theorem d_M_in_14 : decode b_M_in 14 = .ok (.iconst 0, 1) := by decide +kernel
theorem d_M_in_15 : decode b_M_in 15 = .ok (.ireturn, 1) := by decide +kernel
theorem d_M_read_0 : decode b_M_read 0 = .ok (.aload_n 0, 1) := by decide +kernel
theorem d_M_read_1 : decode b_M_read 1 = .ok (.iconst 0, 1) := by decide +kernel
theorem d_M_read_2 : decode b_M_read 2 = .ok (.putfield 63, 3) := by decide +kernel
theorem d_M_read_5 : decode b_M_read 5 = .ok (.bipush 81, 2) := by decide +kernel
theorem d_M_read_7 : decode b_M_read 7 = .ok (.istore_n 1, 1) := by decide +kernel
theorem d_M_read_8 : decode b_M_read 8 = .ok (.iload_n 1, 1) := by decide +kernel
theorem d_M_read_9 : decode b_M_read 9 = .ok (.sipush 162, 3) := by decide +kernel
theorem d_M_read_12 : decode b_M_read 12 = .ok (.if_icmp .ge 16, 3) := by decide +kernel
theorem d_M_read_15 : decode b_M_read 15 = .ok (.aload_n 0, 1) := by decide +kernel
theorem d_M_read_16 : decode b_M_read 16 = .ok (.getfield 13, 3) := by decide +kernel
theorem d_M_read_19 : decode b_M_read 19 = .ok (.iload_n 1, 1) := by decide +kernel
theorem d_M_read_20 : decode b_M_read 20 = .ok (.iconst 0, 1) := by decide +kernel
theorem d_M_read_21 : decode b_M_read 21 = .ok (.iastore, 1) := by decide +kernel
theorem d_M_read_22 : decode b_M_read 22 = .ok (.iinc 1 1, 3) := by decide +kernel
theorem d_M_read_25 : decode b_M_read 25 = .ok (.goto (-17), 3) := by decide +kernel
theorem d_M_read_28 : decode b_M_read 28 = .ok (.iconst (-1), 1) := by decide +kernel
theorem d_M_read_29 : decode b_M_read 29 = .ok (.istore_n 1, 1) := by decide +kernel
theorem d_M_read_30 : decode b_M_read 30 = .ok (.iconst 0, 1) := by decide +kernel
theorem d_M_read_31 : decode b_M_read 31 = .ok (.istore_n 2, 1) := by decide +kernel
theorem d_M_read_32 : decode b_M_read 32 = .ok (.iload_n 2, 1) := by decide +kernel
theorem d_M_read_33 : decode b_M_read 33 = .ok (.aload_n 0, 1) := by decide +kernel
theorem d_M_read_34 : decode b_M_read 34 = .ok (.getfield 77, 3) := by decide +kernel
theorem d_M_read_37 : decode b_M_read 37 = .ok (.if_icmp .ge 113, 3) := by decide +kernel
theorem d_M_read_40 : decode b_M_read 40 = .ok (.iload_n 1, 1) := by decide +kernel
theorem d_M_read_41 : decode b_M_read 41 = .ok (.ifCond .ge 109, 3) := by decide +kernel
theorem d_M_read_44 : decode b_M_read 44 = .ok (.aload_n 0, 1) := by decide +kernel
theorem d_M_read_45 : decode b_M_read 45 = .ok (.iload_n 2, 1) := by decide +kernel
theorem d_M_read_46 : decode b_M_read 46 = .ok (.invokevirtual 88, 3) := by decide +kernel
theorem d_M_read_49 : decode b_M_read 49 = .ok (.ifCond .eq 7, 3) := by decide +kernel
theorem d_M_read_52 : decode b_M_read 52 = .ok (.iconst (-1), 1) := by decide +kernel
theorem d_M_read_53 : decode b_M_read 53 = .ok (.goto 4, 3) := by decide +kernel
theorem d_M_read_56 : decode b_M_read 56 = .ok (.iload_n 2, 1) := by decide +kernel
theorem d_M_read_57 : decode b_M_read 57 = .ok (.istore_n 1, 1) := by decide +kernel
theorem d_M_read_58 : decode b_M_read 58 = .ok (.iload_n 1, 1) := by decide +kernel
theorem d_M_read_59 : decode b_M_read 59 = .ok (.ifCond .ge 85, 3) := by decide +kernel
theorem d_M_read_62 : decode b_M_read 62 = .ok (.iload_n 2, 1) := by decide +kernel
theorem d_M_read_63 : decode b_M_read 63 = .ok (.iconst 4, 1) := by decide +kernel
theorem d_M_read_64 : decode b_M_read 64 = .ok (.irem, 1) := by decide +kernel
theorem d_M_read_65 : decode b_M_read 65 = .ok (.iconst 2, 1) := by decide +kernel
theorem d_M_read_66 : decode b_M_read 66 = .ok (.if_icmp .ne 78, 3) := by decide +kernel
theorem d_M_read_69 : decode b_M_read 69 = .ok (.aload_n 0, 1) := by decide +kernel
theorem d_M_read_70 : decode b_M_read 70 = .ok (.getfield 7, 3) := by decide +kernel
theorem d_M_read_73 : decode b_M_read 73 = .ok (.iload_n 2, 1) := by decide +kernel
theorem d_M_read_74 : decode b_M_read 74 = .ok (.iconst 2, 1) := by decide +kernel
theorem d_M_read_75 : decode b_M_read 75 = .ok (.isub, 1) := by decide +kernel
theorem d_M_read_76 : decode b_M_read 76 = .ok (.iaload, 1) := by decide +kernel
theorem d_M_read_77 : decode b_M_read 77 = .ok (.bipush 48, 2) := by decide +kernel
theorem d_M_read_79 : decode b_M_read 79 = .ok (.isub, 1) := by decide +kernel
theorem d_M_read_80 : decode b_M_read 80 = .ok (.istore_n 3, 1) := by decide +kernel
theorem d_M_read_81 : decode b_M_read 81 = .ok (.aload_n 0, 1) := by decide +kernel
theorem d_M_read_82 : decode b_M_read 82 = .ok (.getfield 7, 3) := by decide +kernel
theorem d_M_read_85 : decode b_M_read 85 = .ok (.iload_n 2, 1) := by decide +kernel
theorem d_M_read_86 : decode b_M_read 86 = .ok (.iconst 1, 1) := by decide +kernel
theorem d_M_read_87 : decode b_M_read 87 = .ok (.isub, 1) := by decide +kernel
theorem d_M_read_88 : decode b_M_read 88 = .ok (.iaload, 1) := by decide +kernel
theorem d_M_read_89 : decode b_M_read 89 = .ok (.bipush 48, 2) := by decide +kernel
theorem d_M_read_91 : decode b_M_read 91 = .ok (.isub, 1) := by decide +kernel
theorem d_M_read_92 : decode b_M_read 92 = .ok (.istore 4, 2) := by decide +kernel
theorem d_M_read_94 : decode b_M_read 94 = .ok (.aload_n 0, 1) := by decide +kernel
theorem d_M_read_95 : decode b_M_read 95 = .ok (.getfield 13, 3) := by decide +kernel
theorem d_M_read_98 : decode b_M_read 98 = .ok (.bipush 81, 2) := by decide +kernel
theorem d_M_read_100 : decode b_M_read 100 = .ok (.iload_n 3, 1) := by decide +kernel
theorem d_M_read_101 : decode b_M_read 101 = .ok (.iload 4, 2) := by decide +kernel
theorem d_M_read_103 : decode b_M_read 103 = .ok (.invokestatic 84, 3) := by decide +kernel
theorem d_M_read_106 : decode b_M_read 106 = .ok (.iadd, 1) := by decide +kernel
theorem d_M_read_107 : decode b_M_read 107 = .ok (.aload_n 0, 1) := by decide +kernel
theorem d_M_read_108 : decode b_M_read 108 = .ok (.getfield 7, 3) := by decide +kernel
theorem d_M_read_111 : decode b_M_read 111 = .ok (.iload_n 2, 1) := by decide +kernel
theorem d_M_read_112 : decode b_M_read 112 = .ok (.iaload, 1) := by decide +kernel
theorem d_M_read_113 : decode b_M_read 113 = .ok (.bipush 48, 2) := by decide +kernel
theorem d_M_read_115 : decode b_M_read 115 = .ok (.isub, 1) := by decide +kernel
theorem d_M_read_116 : decode b_M_read 116 = .ok (.iconst 1, 1) := by decide +kernel
theorem d_M_read_117 : decode b_M_read 117 = .ok (.iadd, 1) := by decide +kernel
theorem d_M_read_118 : decode b_M_read 118 = .ok (.iastore, 1) := by decide +kernel
theorem d_M_read_119 : decode b_M_read 119 = .ok (.aload_n 0, 1) := by decide +kernel
