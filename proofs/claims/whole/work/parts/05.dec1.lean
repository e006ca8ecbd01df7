theorem d_T_init_0 : decode b_T_init 0 = .ok (.aload_n 0, 1) := by decide +kernel
theorem d_T_init_1 : decode b_T_init 1 = .ok (.invokespecial 3, 3) := by decide +kernel
theorem d_T_init_4 : decode b_T_init 4 = .ok (.aload_n 0, 1) := by decide +kernel
theorem d_T_init_5 : decode b_T_init 5 = .ok (.new 9, 3) := by decide +kernel
theorem d_T_init_8 : decode b_T_init 8 = .ok (.dup, 1) := by decide +kernel
theorem d_T_init_9 : decode b_T_init 9 = .ok (.invokespecial 11, 3) := by decide +kernel
theorem d_T_init_12 : decode b_T_init 12 = .ok (.putfield 12, 3) := by decide +kernel
theorem d_T_init_15 : decode b_T_init 15 = .ok (.aload_n 0, 1) := by decide +kernel
theorem d_T_init_16 : decode b_T_init 16 = .ok (.bipush 45, 2) := by decide +kernel
theorem d_T_init_18 : decode b_T_init 18 = .ok (.newarray .int, 2) := by decide +kernel
theorem d_T_init_20 : decode b_T_init 20 = .ok (.putfield 16, 3) := by decide +kernel
theorem d_T_init_23 : decode b_T_init 23 = .ok (.aload_n 0, 1) := by decide +kernel
theorem d_T_init_24 : decode b_T_init 24 = .ok (.getfield 16, 3) := by decide +kernel
theorem d_T_init_27 : decode b_T_init 27 = .ok (.iconst 4, 1) := by decide +kernel
theorem d_T_init_28 : decode b_T_init 28 = .ok (.invokestatic 20, 3) := by decide +kernel
theorem d_T_init_31 : decode b_T_init 31 = .ok (.aload_n 0, 1) := by decide +kernel
theorem d_T_init_32 : decode b_T_init 32 = .ok (.new 26, 3) := by decide +kernel
theorem d_T_init_35 : decode b_T_init 35 = .ok (.dup, 1) := by decide +kernel
theorem d_T_init_36 : decode b_T_init 36 = .ok (.invokespecial 28, 3) := by decide +kernel
theorem d_T_init_39 : decode b_T_init 39 = .ok (.putfield 29, 3) := by decide +kernel
theorem d_T_init_42 : decode b_T_init 42 = .ok (.aload_n 0, 1) := by decide +kernel
theorem d_T_init_43 : decode b_T_init 43 = .ok (.new 26, 3) := by decide +kernel
theorem d_T_init_46 : decode b_T_init 46 = .ok (.dup, 1) := by decide +kernel
theorem d_T_init_47 : decode b_T_init 47 = .ok (.invokespecial 28, 3) := by decide +kernel
theorem d_T_init_50 : decode b_T_init 50 = .ok (.putfield 33, 3) := by decide +kernel
theorem d_T_init_53 : decode b_T_init 53 = .ok (.aload_n 0, 1) := by decide +kernel
theorem d_T_init_54 : decode b_T_init 54 = .ok (.iconst 4, 1) := by decide +kernel
theorem d_T_init_55 : decode b_T_init 55 = .ok (.bipush 10, 2) := by decide +kernel
theorem d_T_init_57 : decode b_T_init 57 = .ok (.multianewarray 36 2, 4) := by decide +kernel
theorem d_T_init_61 : decode b_T_init 61 = .ok (.putfield 38, 3) := by decide +kernel
theorem d_T_init_64 : decode b_T_init 64 = .ok (.iconst 0, 1) := by decide +kernel
theorem d_T_init_65 : decode b_T_init 65 = .ok (.istore_n 1, 1) := by decide +kernel
theorem d_T_init_66 : decode b_T_init 66 = .ok (.iload_n 1, 1) := by decide +kernel
theorem d_T_init_67 : decode b_T_init 67 = .ok (.iconst 4, 1) := by decide +kernel
theorem d_T_init_68 : decode b_T_init 68 = .ok (.if_icmp .ge 20, 3) := by decide +kernel
theorem d_T_init_71 : decode b_T_init 71 = .ok (.aload_n 0, 1) := by decide +kernel
theorem d_T_init_72 : decode b_T_init 72 = .ok (.getfield 38, 3) := by decide +kernel
theorem d_T_init_75 : decode b_T_init 75 = .ok (.iload_n 1, 1) := by decide +kernel
theorem d_T_init_76 : decode b_T_init 76 = .ok (.aaload, 1) := by decide +kernel
theorem d_T_init_77 : decode b_T_init 77 = .ok (.ldc 41, 2) := by decide +kernel
theorem d_T_init_79 : decode b_T_init 79 = .ok (.invokestatic 20, 3) := by decide +kernel
theorem d_T_init_82 : decode b_T_init 82 = .ok (.iinc 1 1, 3) := by decide +kernel
theorem d_T_init_85 : decode b_T_init 85 = .ok (.goto (-19), 3) := by decide +kernel
theorem d_T_init_88 : decode b_T_init 88 = .ok (.return_, 1) := by decide +kernel
theorem d_U_init_0 : decode b_U_init 0 = .ok (.aload_n 0, 1) := by decide +kernel
theorem d_U_init_1 : decode b_U_init 1 = .ok (.invokespecial 3, 3) := by decide +kernel
theorem d_U_init_4 : decode b_U_init 4 = .ok (.aload_n 0, 1) := by decide +kernel
theorem d_U_init_5 : decode b_U_init 5 = .ok (.sipush 300, 3) := by decide +kernel
theorem d_U_init_8 : decode b_U_init 8 = .ok (.newarray .int, 2) := by decide +kernel
theorem d_U_init_10 : decode b_U_init 10 = .ok (.putfield 9, 3) := by decide +kernel
theorem d_U_init_13 : decode b_U_init 13 = .ok (.aload_n 0, 1) := by decide +kernel
theorem d_U_init_14 : decode b_U_init 14 = .ok (.bipush 45, 2) := by decide +kernel
theorem d_U_init_16 : decode b_U_init 16 = .ok (.newarray .int, 2) := by decide +kernel
theorem d_U_init_18 : decode b_U_init 18 = .ok (.putfield 15, 3) := by decide +kernel
theorem d_U_init_21 : decode b_U_init 21 = .ok (.return_, 1) := by decide +kernel
theorem d_AR_fill_0 : decode b_AR_fill 0 = .ok (.iconst 0, 1) := by decide +kernel
theorem d_AR_fill_1 : decode b_AR_fill 1 = .ok (.istore_n 2, 1) := by decide +kernel
theorem d_AR_fill_2 : decode b_AR_fill 2 = .ok (.aload_n 0, 1) := by decide +kernel
theorem d_AR_fill_3 : decode b_AR_fill 3 = .ok (.arraylength, 1) := by decide +kernel
theorem d_AR_fill_4 : decode b_AR_fill 4 = .ok (.istore_n 3, 1) := by decide +kernel
theorem d_AR_fill_5 : decode b_AR_fill 5 = .ok (.iload_n 2, 1) := by decide +kernel
theorem d_AR_fill_6 : decode b_AR_fill 6 = .ok (.iload_n 3, 1) := by decide +kernel
theorem d_AR_fill_7 : decode b_AR_fill 7 = .ok (.if_icmp .ge 13, 3) := by decide +kernel
theorem d_AR_fill_10 : decode b_AR_fill 10 = .ok (.aload_n 0, 1) := by decide +kernel
theorem d_AR_fill_11 : decode b_AR_fill 11 = .ok (.iload_n 2, 1) := by decide +kernel
theorem d_AR_fill_12 : decode b_AR_fill 12 = .ok (.iload_n 1, 1) := by decide +kernel
theorem d_AR_fill_13 : decode b_AR_fill 13 = .ok (.iastore, 1) := by decide +kernel
theorem d_AR_fill_14 : decode b_AR_fill 14 = .ok (.iinc 2 1, 3) := by decide +kernel
theorem d_AR_fill_17 : decode b_AR_fill 17 = .ok (.goto (-12), 3) := by decide +kernel
theorem d_AR_fill_20 : decode b_AR_fill 20 = .ok (.return_, 1) := by decide +kernel
theorem d_AL_init_0 : decode b_AL_init 0 = .ok (.aload_n 0, 1) := by decide +kernel
theorem d_AL_init_1 : decode b_AL_init 1 = .ok (.invokespecial 1, 3) := by decide +kernel
theorem d_AL_init_4 : decode b_AL_init 4 = .ok (.aload_n 0, 1) := by decide +kernel
theorem d_AL_init_5 : decode b_AL_init 5 = .ok (.getstatic 39, 3) := by decide +kernel
theorem d_AL_init_8 : decode b_AL_init 8 = .ok (.putfield 9, 3) := by decide +kernel
theorem d_AL_init_11 : decode b_AL_init 11 = .ok (.return_, 1) := by decide +kernel
theorem d_AB_init_0 : decode b_AB_init 0 = .ok (.aload_n 0, 1) := by decide +kernel
theorem d_AB_init_1 : decode b_AB_init 1 = .ok (.invokespecial 1, 3) := by decide +kernel
theorem d_AB_init_4 : decode b_AB_init 4 = .ok (.aload_n 0, 1) := by decide +kernel
theorem d_AB_init_5 : decode b_AB_init 5 = .ok (.iconst 0, 1) := by decide +kernel
theorem d_AB_init_6 : decode b_AB_init 6 = .ok (.putfield 7, 3) := by decide +kernel
theorem d_AB_init_9 : decode b_AB_init 9 = .ok (.return_, 1) := by decide +kernel
theorem d_AC_init_0 : decode b_AC_init 0 = .ok (.aload_n 0, 1) := by decide +kernel
theorem d_AC_init_1 : decode b_AC_init 1 = .ok (.invokespecial 1, 3) := by decide +kernel
theorem d_AC_init_4 : decode b_AC_init 4 = .ok (.return_, 1) := by decide +kernel
theorem d_T_sign_0 : decode b_T_sign 0 = .ok (.aload_n 0, 1) := by decide +kernel
theorem d_T_sign_1 : decode b_T_sign 1 = .ok (.getfield 12, 3) := by decide +kernel
theorem d_T_sign_4 : decode b_T_sign 4 = .ok (.iload_n 1, 1) := by decide +kernel
theorem d_T_sign_5 : decode b_T_sign 5 = .ok (.invokevirtual 42, 3) := by decide +kernel
theorem d_T_sign_8 : decode b_T_sign 8 = .ok (.ireturn, 1) := by decide +kernel
theorem d_U_append_0 : decode b_U_append 0 = .ok (.iload_n 1, 1) := by decide +kernel
theorem d_U_append_1 : decode b_U_append 1 = .ok (.bipush 48, 2) := by decide +kernel
theorem d_U_append_3 : decode b_U_append 3 = .ok (.if_icmp .lt 9, 3) := by decide +kernel
theorem d_U_append_6 : decode b_U_append 6 = .ok (.iload_n 1, 1) := by decide +kernel
theorem d_U_append_7 : decode b_U_append 7 = .ok (.bipush 57, 2) := by decide +kernel
theorem d_U_append_9 : decode b_U_append 9 = .ok (.if_icmp .le 9, 3) := by decide +kernel
theorem d_U_append_12 : decode b_U_append 12 = .ok (.iload_n 1, 1) := by decide +kernel
theorem d_U_append_13 : decode b_U_append 13 = .ok (.bipush 59, 2) := by decide +kernel
theorem d_U_append_15 : decode b_U_append 15 = .ok (.if_icmp .ne 7, 3) := by decide +kernel
theorem d_U_append_18 : decode b_U_append 18 = .ok (.iconst 1, 1) := by decide +kernel
theorem d_U_append_19 : decode b_U_append 19 = .ok (.goto 4, 3) := by decide +kernel
theorem d_U_append_22 : decode b_U_append 22 = .ok (.iconst 0, 1) := by decide +kernel
theorem d_U_append_23 : decode b_U_append 23 = .ok (.istore_n 2, 1) := by decide +kernel
theorem d_U_append_24 : decode b_U_append 24 = .ok (.iload_n 2, 1) := by decide +kernel
theorem d_U_append_25 : decode b_U_append 25 = .ok (.ifCond .eq 13, 3) := by decide +kernel
theorem d_U_append_28 : decode b_U_append 28 = .ok (.aload_n 0, 1) := by decide +kernel
theorem d_U_append_29 : decode b_U_append 29 = .ok (.getfield 18, 3) := by decide +kernel
theorem d_U_append_32 : decode b_U_append 32 = .ok (.sipush 300, 3) := by decide +kernel
theorem d_U_append_35 : decode b_U_append 35 = .ok (.if_icmp .lt 5, 3) := by decide +kernel
theorem d_U_append_38 : decode b_U_append 38 = .ok (.iconst 0, 1) := by decide +kernel
theorem d_U_append_39 : decode b_U_append 39 = .ok (.ireturn, 1) := by decide +kernel
theorem d_U_append_40 : decode b_U_append 40 = .ok (.aload_n 0, 1) := by decide +kernel
theorem d_U_append_41 : decode b_U_append 41 = .ok (.getfield 9, 3) := by decide +kernel
theorem d_U_append_44 : decode b_U_append 44 = .ok (.aload_n 0, 1) := by decide +kernel
theorem d_U_append_45 : decode b_U_append 45 = .ok (.getfield 18, 3) := by decide +kernel
theorem d_U_append_48 : decode b_U_append 48 = .ok (.iload_n 1, 1) := by decide +kernel
theorem d_U_append_49 : decode b_U_append 49 = .ok (.iastore, 1) := by decide +kernel
theorem d_U_append_50 : decode b_U_append 50 = .ok (.aload_n 0, 1) := by decide +kernel
theorem d_U_append_51 : decode b_U_append 51 = .ok (.dup, 1) := by decide +kernel
theorem d_U_append_52 : decode b_U_append 52 = .ok (.getfield 18, 3) := by decide +kernel
theorem d_U_append_55 : decode b_U_append 55 = .ok (.iconst 1, 1) := by decide +kernel
theorem d_U_append_56 : decode b_U_append 56 = .ok (.iadd, 1) := by decide +kernel
theorem d_U_append_57 : decode b_U_append 57 = .ok (.putfield 18, 3) := by decide +kernel
theorem d_U_append_60 : decode b_U_append 60 = .ok (.iconst 1, 1) := by decide +kernel
theorem d_U_append_61 : decode b_U_append 61 = .ok (.ireturn, 1) := by decide +kernel
theorem d_T_read_0 : decode b_T_read 0 = .ok (.aload_n 0, 1) := by decide +kernel
theorem d_T_read_1 : decode b_T_read 1 = .ok (.getfield 12, 3) := by decide +kernel
theorem d_T_read_4 : decode b_T_read 4 = .ok (.invokevirtual 46, 3) := by decide +kernel
theorem d_T_read_7 : decode b_T_read 7 = .ok (.istore_n 1, 1) := by decide +kernel
theorem d_T_read_8 : decode b_T_read 8 = .ok (.aload_n 0, 1) := by decide +kernel
theorem d_T_read_9 : decode b_T_read 9 = .ok (.getfield 12, 3) := by decide +kernel
theorem d_T_read_12 : decode b_T_read 12 = .ok (.invokevirtual 50, 3) := by decide +kernel
theorem d_T_read_15 : decode b_T_read 15 = .ok (.iload_n 1, 1) := by decide +kernel
theorem d_T_read_16 : decode b_T_read 16 = .ok (.iconst (-1), 1) := by decide +kernel
theorem d_T_read_17 : decode b_T_read 17 = .ok (.if_icmp .eq 7, 3) := by decide +kernel
theorem d_T_read_20 : decode b_T_read 20 = .ok (.iconst (-1), 1) := by decide +kernel
theorem d_T_read_21 : decode b_T_read 21 = .ok (.iload_n 1, 1) := by decide +kernel
theorem d_T_read_22 : decode b_T_read 22 = .ok (.isub, 1) := by decide +kernel
theorem d_T_read_23 : decode b_T_read 23 = .ok (.ireturn, 1) := by decide +kernel
theorem d_T_read_24 : decode b_T_read 24 = .ok (.aload_n 0, 1) := by decide +kernel
theorem d_T_read_25 : decode b_T_read 25 = .ok (.getfield 12, 3) := by decide +kernel
theorem d_T_read_28 : decode b_T_read 28 = .ok (.aload_n 0, 1) := by decide +kernel
theorem d_T_read_29 : decode b_T_read 29 = .ok (.getfield 16, 3) := by decide +kernel
theorem d_T_read_32 : decode b_T_read 32 = .ok (.invokevirtual 53, 3) := by decide +kernel
theorem d_T_read_35 : decode b_T_read 35 = .ok (.aload_n 0, 1) := by decide +kernel
theorem d_T_read_36 : decode b_T_read 36 = .ok (.iconst 1, 1) := by decide +kernel
theorem d_T_read_37 : decode b_T_read 37 = .ok (.putfield 57, 3) := by decide +kernel
theorem d_T_read_40 : decode b_T_read 40 = .ok (.bipush 45, 2) := by decide +kernel
theorem d_T_read_42 : decode b_T_read 42 = .ok (.ireturn, 1) := by decide +kernel
theorem d_U_firstWrongPlace_0 : decode b_U_firstWrongPlace 0 = .ok (.aload_n 0, 1) := by decide +kernel
theorem d_U_firstWrongPlace_1 : decode b_U_firstWrongPlace 1 = .ok (.getfield 15, 3) := by decide +kernel
theorem d_U_firstWrongPlace_4 : decode b_U_firstWrongPlace 4 = .ok (.iconst (-1), 1) := by decide +kernel
theorem d_U_firstWrongPlace_5 : decode b_U_firstWrongPlace 5 = .ok (.invokestatic 28, 3) := by decide +kernel
theorem d_U_firstWrongPlace_8 : decode b_U_firstWrongPlace 8 = .ok (.iconst 0, 1) := by decide +kernel
theorem d_U_firstWrongPlace_9 : decode b_U_firstWrongPlace 9 = .ok (.istore_n 1, 1) := by decide +kernel
theorem d_U_firstWrongPlace_10 : decode b_U_firstWrongPlace 10 = .ok (.iload_n 1, 1) := by decide +kernel
theorem d_U_firstWrongPlace_11 : decode b_U_firstWrongPlace 11 = .ok (.aload_n 0, 1) := by decide +kernel
theorem d_U_firstWrongPlace_12 : decode b_U_firstWrongPlace 12 = .ok (.getfield 18, 3) := by decide +kernel
theorem d_U_firstWrongPlace_15 : decode b_U_firstWrongPlace 15 = .ok (.if_icmp .ge 22, 3) := by decide +kernel
theorem d_U_firstWrongPlace_18 : decode b_U_firstWrongPlace 18 = .ok (.aload_n 0, 1) := by decide +kernel
theorem d_U_firstWrongPlace_19 : decode b_U_firstWrongPlace 19 = .ok (.iload_n 1, 1) := by decide +kernel
theorem d_U_firstWrongPlace_20 : decode b_U_firstWrongPlace 20 = .ok (.invokevirtual 34, 3) := by decide +kernel
theorem d_U_firstWrongPlace_23 : decode b_U_firstWrongPlace 23 = .ok (.istore_n 2, 1) := by decide +kernel
theorem d_U_firstWrongPlace_24 : decode b_U_firstWrongPlace 24 = .ok (.iload_n 2, 1) := by decide +kernel
theorem d_U_firstWrongPlace_25 : decode b_U_firstWrongPlace 25 = .ok (.iconst (-1), 1) := by decide +kernel
theorem d_U_firstWrongPlace_26 : decode b_U_firstWrongPlace 26 = .ok (.if_icmp .eq 5, 3) := by decide +kernel
theorem d_U_firstWrongPlace_29 : decode b_U_firstWrongPlace 29 = .ok (.iload_n 2, 1) := by decide +kernel
theorem d_U_firstWrongPlace_30 : decode b_U_firstWrongPlace 30 = .ok (.ireturn, 1) := by decide +kernel
theorem d_U_firstWrongPlace_31 : decode b_U_firstWrongPlace 31 = .ok (.iinc 1 4, 3) := by decide +kernel
theorem d_U_firstWrongPlace_34 : decode b_U_firstWrongPlace 34 = .ok (.goto (-24), 3) := by decide +kernel
theorem d_U_firstWrongPlace_37 : decode b_U_firstWrongPlace 37 = .ok (.aload_n 0, 1) := by decide +kernel
theorem d_U_firstWrongPlace_38 : decode b_U_firstWrongPlace 38 = .ok (.getfield 18, 3) := by decide +kernel
theorem d_U_firstWrongPlace_41 : decode b_U_firstWrongPlace 41 = .ok (.sipush 180, 3) := by decide +kernel
theorem d_U_firstWrongPlace_44 : decode b_U_firstWrongPlace 44 = .ok (.if_icmp .ne 7, 3) := by decide +kernel
theorem d_U_firstWrongPlace_47 : decode b_U_firstWrongPlace 47 = .ok (.iconst (-1), 1) := by decide +kernel
theorem d_U_firstWrongPlace_48 : decode b_U_firstWrongPlace 48 = .ok (.goto 7, 3) := by decide +kernel
theorem d_U_firstWrongPlace_51 : decode b_U_firstWrongPlace 51 = .ok (.aload_n 0, 1) := by decide +kernel
theorem d_U_firstWrongPlace_52 : decode b_U_firstWrongPlace 52 = .ok (.getfield 18, 3) := by decide +kernel
theorem d_U_firstWrongPlace_55 : decode b_U_firstWrongPlace 55 = .ok (.ireturn, 1) := by decide +kernel
theorem d_U_firstWrongPlaceOfRow_0 : decode b_U_firstWrongPlaceOfRow 0 = .ok (.aload_n 0, 1) := by decide +kernel
theorem d_U_firstWrongPlaceOfRow_1 : decode b_U_firstWrongPlaceOfRow 1 = .ok (.iload_n 1, 1) := by decide +kernel
theorem d_U_firstWrongPlaceOfRow_2 : decode b_U_firstWrongPlaceOfRow 2 = .ok (.invokevirtual 38, 3) := by decide +kernel
theorem d_U_firstWrongPlaceOfRow_5 : decode b_U_firstWrongPlaceOfRow 5 = .ok (.istore_n 2, 1) := by decide +kernel
theorem d_U_firstWrongPlaceOfRow_6 : decode b_U_firstWrongPlaceOfRow 6 = .ok (.iload_n 2, 1) := by decide +kernel
theorem d_U_firstWrongPlaceOfRow_7 : decode b_U_firstWrongPlaceOfRow 7 = .ok (.invokestatic 41, 3) := by decide +kernel
theorem d_U_firstWrongPlaceOfRow_10 : decode b_U_firstWrongPlaceOfRow 10 = .ok (.ifCond .ne 5, 3) := by decide +kernel
theorem d_U_firstWrongPlaceOfRow_13 : decode b_U_firstWrongPlaceOfRow 13 = .ok (.iload_n 1, 1) := by decide +kernel
theorem d_U_firstWrongPlaceOfRow_14 : decode b_U_firstWrongPlaceOfRow 14 = .ok (.ireturn, 1) := by decide +kernel
theorem d_U_firstWrongPlaceOfRow_15 : decode b_U_firstWrongPlaceOfRow 15 = .ok (.aload_n 0, 1) := by decide +kernel
theorem d_U_firstWrongPlaceOfRow_16 : decode b_U_firstWrongPlaceOfRow 16 = .ok (.iload_n 1, 1) := by decide +kernel
theorem d_U_firstWrongPlaceOfRow_17 : decode b_U_firstWrongPlaceOfRow 17 = .ok (.iconst 1, 1) := by decide +kernel
theorem d_U_firstWrongPlaceOfRow_18 : decode b_U_firstWrongPlaceOfRow 18 = .ok (.iadd, 1) := by decide +kernel
theorem d_U_firstWrongPlaceOfRow_19 : decode b_U_firstWrongPlaceOfRow 19 = .ok (.invokevirtual 38, 3) := by decide +kernel
theorem d_U_firstWrongPlaceOfRow_22 : decode b_U_firstWrongPlaceOfRow 22 = .ok (.istore_n 3, 1) := by decide +kernel
theorem d_U_firstWrongPlaceOfRow_23 : decode b_U_firstWrongPlaceOfRow 23 = .ok (.iload_n 3, 1) := by decide +kernel
theorem d_U_firstWrongPlaceOfRow_24 : decode b_U_firstWrongPlaceOfRow 24 = .ok (.invokestatic 41, 3) := by decide +kernel
theorem d_U_firstWrongPlaceOfRow_27 : decode b_U_firstWrongPlaceOfRow 27 = .ok (.ifCond .eq 17, 3) := by decide +kernel
theorem d_U_firstWrongPlaceOfRow_30 : decode b_U_firstWrongPlaceOfRow 30 = .ok (.aload_n 0, 1) := by decide +kernel
theorem d_U_firstWrongPlaceOfRow_31 : decode b_U_firstWrongPlaceOfRow 31 = .ok (.getfield 15, 3) := by decide +kernel
theorem d_U_firstWrongPlaceOfRow_34 : decode b_U_firstWrongPlaceOfRow 34 = .ok (.iload_n 2, 1) := by decide +kernel
theorem d_U_firstWrongPlaceOfRow_35 : decode b_U_firstWrongPlaceOfRow 35 = .ok (.iload_n 3, 1) := by decide +kernel
theorem d_U_firstWrongPlaceOfRow_36 : decode b_U_firstWrongPlaceOfRow 36 = .ok (.invokestatic 45, 3) := by decide +kernel
theorem d_U_firstWrongPlaceOfRow_39 : decode b_U_firstWrongPlaceOfRow 39 = .ok (.iaload, 1) := by decide +kernel
theorem d_U_firstWrongPlaceOfRow_40 : decode b_U_firstWrongPlaceOfRow 40 = .ok (.iconst (-1), 1) := by decide +kernel
theorem d_U_firstWrongPlaceOfRow_41 : decode b_U_firstWrongPlaceOfRow 41 = .ok (.if_icmp .eq 7, 3) := by decide +kernel
theorem d_U_firstWrongPlaceOfRow_44 : decode b_U_firstWrongPlaceOfRow 44 = .ok (.iload_n 1, 1) := by decide +kernel
theorem d_U_firstWrongPlaceOfRow_45 : decode b_U_firstWrongPlaceOfRow 45 = .ok (.iconst 1, 1) := by decide +kernel
theorem d_U_firstWrongPlaceOfRow_46 : decode b_U_firstWrongPlaceOfRow 46 = .ok (.iadd, 1) := by decide +kernel
theorem d_U_firstWrongPlaceOfRow_47 : decode b_U_firstWrongPlaceOfRow 47 = .ok (.ireturn, 1) := by decide +kernel
theorem d_U_firstWrongPlaceOfRow_48 : decode b_U_firstWrongPlaceOfRow 48 = .ok (.aload_n 0, 1) := by decide +kernel
theorem d_U_firstWrongPlaceOfRow_49 : decode b_U_firstWrongPlaceOfRow 49 = .ok (.iload_n 1, 1) := by decide +kernel
theorem d_U_firstWrongPlaceOfRow_50 : decode b_U_firstWrongPlaceOfRow 50 = .ok (.iconst 2, 1) := by decide +kernel
theorem d_U_firstWrongPlaceOfRow_51 : decode b_U_firstWrongPlaceOfRow 51 = .ok (.iadd, 1) := by decide +kernel
theorem d_U_firstWrongPlaceOfRow_52 : decode b_U_firstWrongPlaceOfRow 52 = .ok (.invokevirtual 38, 3) := by decide +kernel
theorem d_U_firstWrongPlaceOfRow_55 : decode b_U_firstWrongPlaceOfRow 55 = .ok (.istore 4, 2) := by decide +kernel
theorem d_U_firstWrongPlaceOfRow_57 : decode b_U_firstWrongPlaceOfRow 57 = .ok (.iload 4, 2) := by decide +kernel
theorem d_U_firstWrongPlaceOfRow_59 : decode b_U_firstWrongPlaceOfRow 59 = .ok (.ifCond .lt 9, 3) := by decide +kernel
theorem d_U_firstWrongPlaceOfRow_62 : decode b_U_firstWrongPlaceOfRow 62 = .ok (.iload 4, 2) := by decide +kernel
theorem d_U_firstWrongPlaceOfRow_64 : decode b_U_firstWrongPlaceOfRow 64 = .ok (.iconst 4, 1) := by decide +kernel
theorem d_U_firstWrongPlaceOfRow_65 : decode b_U_firstWrongPlaceOfRow 65 = .ok (.if_icmp .le 7, 3) := by decide +kernel
theorem d_U_firstWrongPlaceOfRow_68 : decode b_U_firstWrongPlaceOfRow 68 = .ok (.iload_n 1, 1) := by decide +kernel
theorem d_U_firstWrongPlaceOfRow_69 : decode b_U_firstWrongPlaceOfRow 69 = .ok (.iconst 2, 1) := by decide +kernel
theorem d_U_firstWrongPlaceOfRow_70 : decode b_U_firstWrongPlaceOfRow 70 = .ok (.iadd, 1) := by decide +kernel
theorem d_U_firstWrongPlaceOfRow_71 : decode b_U_firstWrongPlaceOfRow 71 = .ok (.ireturn, 1) := by decide +kernel
theorem d_U_firstWrongPlaceOfRow_72 : decode b_U_firstWrongPlaceOfRow 72 = .ok (.iload_n 1, 1) := by decide +kernel
theorem d_U_firstWrongPlaceOfRow_73 : decode b_U_firstWrongPlaceOfRow 73 = .ok (.iconst 3, 1) := by decide +kernel
theorem d_U_firstWrongPlaceOfRow_74 : decode b_U_firstWrongPlaceOfRow 74 = .ok (.iadd, 1) := by decide +kernel
theorem d_U_firstWrongPlaceOfRow_75 : decode b_U_firstWrongPlaceOfRow 75 = .ok (.aload_n 0, 1) := by decide +kernel
theorem d_U_firstWrongPlaceOfRow_76 : decode b_U_firstWrongPlaceOfRow 76 = .ok (.getfield 18, 3) := by decide +kernel
theorem d_U_firstWrongPlaceOfRow_79 : decode b_U_firstWrongPlaceOfRow 79 = .ok (.if_icmp .ge 16, 3) := by decide +kernel
theorem d_U_firstWrongPlaceOfRow_82 : decode b_U_firstWrongPlaceOfRow 82 = .ok (.aload_n 0, 1) := by decide +kernel
theorem d_U_firstWrongPlaceOfRow_83 : decode b_U_firstWrongPlaceOfRow 83 = .ok (.getfield 9, 3) := by decide +kernel
theorem d_U_firstWrongPlaceOfRow_86 : decode b_U_firstWrongPlaceOfRow 86 = .ok (.iload_n 1, 1) := by decide +kernel
theorem d_U_firstWrongPlaceOfRow_87 : decode b_U_firstWrongPlaceOfRow 87 = .ok (.iconst 3, 1) := by decide +kernel
theorem d_U_firstWrongPlaceOfRow_88 : decode b_U_firstWrongPlaceOfRow 88 = .ok (.iadd, 1) := by decide +kernel
theorem d_U_firstWrongPlaceOfRow_89 : decode b_U_firstWrongPlaceOfRow 89 = .ok (.iaload, 1) := by decide +kernel
theorem d_U_firstWrongPlaceOfRow_90 : decode b_U_firstWrongPlaceOfRow 90 = .ok (.bipush 59, 2) := by decide +kernel
theorem d_U_firstWrongPlaceOfRow_92 : decode b_U_firstWrongPlaceOfRow 92 = .ok (.if_icmp .eq 7, 3) := by decide +kernel
theorem d_U_firstWrongPlaceOfRow_95 : decode b_U_firstWrongPlaceOfRow 95 = .ok (.iload_n 1, 1) := by decide +kernel
theorem d_U_firstWrongPlaceOfRow_96 : decode b_U_firstWrongPlaceOfRow 96 = .ok (.iconst 3, 1) := by decide +kernel
theorem d_U_firstWrongPlaceOfRow_97 : decode b_U_firstWrongPlaceOfRow 97 = .ok (.iadd, 1) := by decide +kernel
theorem d_U_firstWrongPlaceOfRow_98 : decode b_U_firstWrongPlaceOfRow 98 = .ok (.ireturn, 1) := by decide +kernel
theorem d_U_firstWrongPlaceOfRow_99 : decode b_U_firstWrongPlaceOfRow 99 = .ok (.aload_n 0, 1) := by decide +kernel
theorem d_U_firstWrongPlaceOfRow_100 : decode b_U_firstWrongPlaceOfRow 100 = .ok (.getfield 15, 3) := by decide +kernel
theorem d_U_firstWrongPlaceOfRow_103 : decode b_U_firstWrongPlaceOfRow 103 = .ok (.iload_n 2, 1) := by decide +kernel
theorem d_U_firstWrongPlaceOfRow_104 : decode b_U_firstWrongPlaceOfRow 104 = .ok (.iload_n 3, 1) := by decide +kernel
theorem d_U_firstWrongPlaceOfRow_105 : decode b_U_firstWrongPlaceOfRow 105 = .ok (.invokestatic 45, 3) := by decide +kernel
theorem d_U_firstWrongPlaceOfRow_108 : decode b_U_firstWrongPlaceOfRow 108 = .ok (.iload 4, 2) := by decide +kernel
theorem d_U_firstWrongPlaceOfRow_110 : decode b_U_firstWrongPlaceOfRow 110 = .ok (.iastore, 1) := by decide +kernel
theorem d_U_firstWrongPlaceOfRow_111 : decode b_U_firstWrongPlaceOfRow 111 = .ok (.iconst (-1), 1) := by decide +kernel
theorem d_U_firstWrongPlaceOfRow_112 : decode b_U_firstWrongPlaceOfRow 112 = .ok (.ireturn, 1) := by decide +kernel
theorem d_U_digitAt_0 : decode b_U_digitAt 0 = .ok (.iload_n 1, 1) := by decide +kernel
theorem d_U_digitAt_1 : decode b_U_digitAt 1 = .ok (.aload_n 0, 1) := by decide +kernel
theorem d_U_digitAt_2 : decode b_U_digitAt 2 = .ok (.getfield 18, 3) := by decide +kernel
theorem d_U_digitAt_5 : decode b_U_digitAt 5 = .ok (.if_icmp .ge 26, 3) := by decide +kernel
theorem d_U_digitAt_8 : decode b_U_digitAt 8 = .ok (.aload_n 0, 1) := by decide +kernel
theorem d_U_digitAt_9 : decode b_U_digitAt 9 = .ok (.getfield 9, 3) := by decide +kernel
theorem d_U_digitAt_12 : decode b_U_digitAt 12 = .ok (.iload_n 1, 1) := by decide +kernel
theorem d_U_digitAt_13 : decode b_U_digitAt 13 = .ok (.iaload, 1) := by decide +kernel
theorem d_U_digitAt_14 : decode b_U_digitAt 14 = .ok (.bipush 59, 2) := by decide +kernel
theorem d_U_digitAt_16 : decode b_U_digitAt 16 = .ok (.if_icmp .eq 15, 3) := by decide +kernel
theorem d_U_digitAt_19 : decode b_U_digitAt 19 = .ok (.aload_n 0, 1) := by decide +kernel
theorem d_U_digitAt_20 : decode b_U_digitAt 20 = .ok (.getfield 9, 3) := by decide +kernel
theorem d_U_digitAt_23 : decode b_U_digitAt 23 = .ok (.iload_n 1, 1) := by decide +kernel
theorem d_U_digitAt_24 : decode b_U_digitAt 24 = .ok (.iaload, 1) := by decide +kernel
theorem d_U_digitAt_25 : decode b_U_digitAt 25 = .ok (.bipush 48, 2) := by decide +kernel
theorem d_U_digitAt_27 : decode b_U_digitAt 27 = .ok (.isub, 1) := by decide +kernel
theorem d_U_digitAt_28 : decode b_U_digitAt 28 = .ok (.goto 4, 3) := by decide +kernel
theorem d_U_digitAt_31 : decode b_U_digitAt 31 = .ok (.iconst (-1), 1) := by decide +kernel
theorem d_U_digitAt_32 : decode b_U_digitAt 32 = .ok (.ireturn, 1) := by decide +kernel
theorem d_T_isClass_0 : decode b_T_isClass 0 = .ok (.iload_n 0, 1) := by decide +kernel
theorem d_T_isClass_1 : decode b_T_isClass 1 = .ok (.iconst 1, 1) := by decide +kernel
theorem d_T_isClass_2 : decode b_T_isClass 2 = .ok (.if_icmp .lt 13, 3) := by decide +kernel
theorem d_T_isClass_5 : decode b_T_isClass 5 = .ok (.iload_n 0, 1) := by decide +kernel
theorem d_T_isClass_6 : decode b_T_isClass 6 = .ok (.bipush 9, 2) := by decide +kernel
theorem d_T_isClass_8 : decode b_T_isClass 8 = .ok (.if_icmp .gt 7, 3) := by decide +kernel
theorem d_T_isClass_11 : decode b_T_isClass 11 = .ok (.iconst 1, 1) := by decide +kernel
theorem d_T_isClass_12 : decode b_T_isClass 12 = .ok (.goto 4, 3) := by decide +kernel
theorem d_T_isClass_15 : decode b_T_isClass 15 = .ok (.iconst 0, 1) := by decide +kernel
theorem d_T_isClass_16 : decode b_T_isClass 16 = .ok (.ireturn, 1) := by decide +kernel
theorem d_T_pairNumber_0 : decode b_T_pairNumber 0 = .ok (.iload_n 0, 1) := by decide +kernel
theorem d_T_pairNumber_1 : decode b_T_pairNumber 1 = .ok (.iload_n 1, 1) := by decide +kernel
theorem d_T_pairNumber_2 : decode b_T_pairNumber 2 = .ok (.if_icmp .le 7, 3) := by decide +kernel
theorem d_T_pairNumber_5 : decode b_T_pairNumber 5 = .ok (.iload_n 0, 1) := by decide +kernel
theorem d_T_pairNumber_6 : decode b_T_pairNumber 6 = .ok (.goto 4, 3) := by decide +kernel
theorem d_T_pairNumber_9 : decode b_T_pairNumber 9 = .ok (.iload_n 1, 1) := by decide +kernel
theorem d_T_pairNumber_10 : decode b_T_pairNumber 10 = .ok (.istore_n 2, 1) := by decide +kernel
theorem d_T_pairNumber_11 : decode b_T_pairNumber 11 = .ok (.iload_n 0, 1) := by decide +kernel
theorem d_T_pairNumber_12 : decode b_T_pairNumber 12 = .ok (.iload_n 1, 1) := by decide +kernel
theorem d_T_pairNumber_13 : decode b_T_pairNumber 13 = .ok (.if_icmp .le 7, 3) := by decide +kernel
theorem d_T_pairNumber_16 : decode b_T_pairNumber 16 = .ok (.iload_n 1, 1) := by decide +kernel
theorem d_T_pairNumber_17 : decode b_T_pairNumber 17 = .ok (.goto 4, 3) := by decide +kernel
theorem d_T_pairNumber_20 : decode b_T_pairNumber 20 = .ok (.iload_n 0, 1) := by decide +kernel
theorem d_T_pairNumber_21 : decode b_T_pairNumber 21 = .ok (.istore_n 3, 1) := by decide +kernel
theorem d_T_pairNumber_22 : decode b_T_pairNumber 22 = .ok (.iload_n 2, 1) := by decide +kernel
theorem d_T_pairNumber_23 : decode b_T_pairNumber 23 = .ok (.iload_n 2, 1) := by decide +kernel
theorem d_T_pairNumber_24 : decode b_T_pairNumber 24 = .ok (.iconst 1, 1) := by decide +kernel
theorem d_T_pairNumber_25 : decode b_T_pairNumber 25 = .ok (.isub, 1) := by decide +kernel
theorem d_T_pairNumber_26 : decode b_T_pairNumber 26 = .ok (.imul, 1) := by decide +kernel
theorem d_T_pairNumber_27 : decode b_T_pairNumber 27 = .ok (.iconst 2, 1) := by decide +kernel
theorem d_T_pairNumber_28 : decode b_T_pairNumber 28 = .ok (.idiv, 1) := by decide +kernel
theorem d_T_pairNumber_29 : decode b_T_pairNumber 29 = .ok (.iload_n 3, 1) := by decide +kernel
theorem d_T_pairNumber_30 : decode b_T_pairNumber 30 = .ok (.iadd, 1) := by decide +kernel
theorem d_T_pairNumber_31 : decode b_T_pairNumber 31 = .ok (.iconst 1, 1) := by decide +kernel
theorem d_T_pairNumber_32 : decode b_T_pairNumber 32 = .ok (.isub, 1) := by decide +kernel
theorem d_T_pairNumber_33 : decode b_T_pairNumber 33 = .ok (.ireturn, 1) := by decide +kernel
theorem d_U_drop_0 : decode b_U_drop 0 = .ok (.aload_n 0, 1) := by decide +kernel
theorem d_U_drop_1 : decode b_U_drop 1 = .ok (.iconst 0, 1) := by decide +kernel
theorem d_U_drop_2 : decode b_U_drop 2 = .ok (.putfield 18, 3) := by decide +kernel
theorem d_U_drop_5 : decode b_U_drop 5 = .ok (.return_, 1) := by decide +kernel
theorem d_U_copyRulesTo_0 : decode b_U_copyRulesTo 0 = .ok (.aload_n 0, 1) := by decide +kernel
theorem d_U_copyRulesTo_1 : decode b_U_copyRulesTo 1 = .ok (.getfield 15, 3) := by decide +kernel
theorem d_U_copyRulesTo_4 : decode b_U_copyRulesTo 4 = .ok (.iconst 0, 1) := by decide +kernel
theorem d_U_copyRulesTo_5 : decode b_U_copyRulesTo 5 = .ok (.aload_n 1, 1) := by decide +kernel
theorem d_U_copyRulesTo_6 : decode b_U_copyRulesTo 6 = .ok (.iconst 0, 1) := by decide +kernel
theorem d_U_copyRulesTo_7 : decode b_U_copyRulesTo 7 = .ok (.bipush 45, 2) := by decide +kernel
theorem d_U_copyRulesTo_9 : decode b_U_copyRulesTo 9 = .ok (.invokestatic 22, 3) := by decide +kernel
theorem d_U_copyRulesTo_12 : decode b_U_copyRulesTo 12 = .ok (.return_, 1) := by decide +kernel
theorem d_T_exempt_0 : decode b_T_exempt 0 = .ok (.aload_n 0, 1) := by decide +kernel
theorem d_T_exempt_1 : decode b_T_exempt 1 = .ok (.iload_n 1, 1) := by decide +kernel
theorem d_T_exempt_2 : decode b_T_exempt 2 = .ok (.invokevirtual 104, 3) := by decide +kernel
theorem d_T_exempt_5 : decode b_T_exempt 5 = .ok (.ifCond .eq 17, 3) := by decide +kernel
theorem d_T_exempt_8 : decode b_T_exempt 8 = .ok (.iload_n 2, 1) := by decide +kernel
theorem d_T_exempt_9 : decode b_T_exempt 9 = .ok (.invokestatic 61, 3) := by decide +kernel
theorem d_T_exempt_12 : decode b_T_exempt 12 = .ok (.ifCond .eq 10, 3) := by decide +kernel
theorem d_T_exempt_15 : decode b_T_exempt 15 = .ok (.iload_n 3, 1) := by decide +kernel
theorem d_T_exempt_16 : decode b_T_exempt 16 = .ok (.invokestatic 61, 3) := by decide +kernel
theorem d_T_exempt_19 : decode b_T_exempt 19 = .ok (.ifCond .ne 5, 3) := by decide +kernel
theorem d_T_exempt_22 : decode b_T_exempt 22 = .ok (.iconst 0, 1) := by decide +kernel
theorem d_T_exempt_23 : decode b_T_exempt 23 = .ok (.ireturn, 1) := by decide +kernel
theorem d_T_exempt_24 : decode b_T_exempt 24 = .ok (.aload_n 0, 1) := by decide +kernel
theorem d_T_exempt_25 : decode b_T_exempt 25 = .ok (.getfield 29, 3) := by decide +kernel
theorem d_T_exempt_28 : decode b_T_exempt 28 = .ok (.iload_n 1, 1) := by decide +kernel
theorem d_T_exempt_29 : decode b_T_exempt 29 = .ok (.invokevirtual 107, 3) := by decide +kernel
theorem d_T_exempt_32 : decode b_T_exempt 32 = .ok (.checkcast 91, 3) := by decide +kernel
theorem d_T_exempt_35 : decode b_T_exempt 35 = .ok (.iload_n 2, 1) := by decide +kernel
theorem d_T_exempt_36 : decode b_T_exempt 36 = .ok (.iload_n 3, 1) := by decide +kernel
theorem d_T_exempt_37 : decode b_T_exempt 37 = .ok (.invokestatic 71, 3) := by decide +kernel
theorem d_T_exempt_40 : decode b_T_exempt 40 = .ok (.invokevirtual 111, 3) := by decide +kernel
theorem d_T_exempt_43 : decode b_T_exempt 43 = .ok (.ireturn, 1) := by decide +kernel
theorem d_T_isGood_0 : decode b_T_isGood 0 = .ok (.iload_n 1, 1) := by decide +kernel
theorem d_T_isGood_1 : decode b_T_isGood 1 = .ok (.ifCond .lt 18, 3) := by decide +kernel
theorem d_T_isGood_4 : decode b_T_isGood 4 = .ok (.iload_n 1, 1) := by decide +kernel
theorem d_T_isGood_5 : decode b_T_isGood 5 = .ok (.aload_n 0, 1) := by decide +kernel
theorem d_T_isGood_6 : decode b_T_isGood 6 = .ok (.getfield 29, 3) := by decide +kernel
theorem d_T_isGood_9 : decode b_T_isGood 9 = .ok (.invokevirtual 83, 3) := by decide +kernel
theorem d_T_isGood_12 : decode b_T_isGood 12 = .ok (.if_icmp .ge 7, 3) := by decide +kernel
theorem d_T_isGood_15 : decode b_T_isGood 15 = .ok (.iconst 1, 1) := by decide +kernel
theorem d_T_isGood_16 : decode b_T_isGood 16 = .ok (.goto 4, 3) := by decide +kernel
theorem d_T_isGood_19 : decode b_T_isGood 19 = .ok (.iconst 0, 1) := by decide +kernel
theorem d_T_isGood_20 : decode b_T_isGood 20 = .ok (.ireturn, 1) := by decide +kernel
theorem d_AL_size_0 : decode b_AL_size 0 = .ok (.aload_n 0, 1) := by decide +kernel
theorem d_AL_size_1 : decode b_AL_size 1 = .ok (.getfield 48, 3) := by decide +kernel
theorem d_AL_size_4 : decode b_AL_size 4 = .ok (.ireturn, 1) := by decide +kernel
theorem d_AL_get_0 : decode b_AL_get 0 = .ok (.iload_n 1, 1) := by decide +kernel
theorem d_AL_get_1 : decode b_AL_get 1 = .ok (.aload_n 0, 1) := by decide +kernel
theorem d_AL_get_2 : decode b_AL_get 2 = .ok (.getfield 48, 3) := by decide +kernel
theorem d_AL_get_5 : decode b_AL_get 5 = .ok (.invokestatic 118, 3) := by decide +kernel
theorem d_AL_get_8 : decode b_AL_get 8 = .ok (.pop, 1) := by decide +kernel
theorem d_AL_get_9 : decode b_AL_get 9 = .ok (.aload_n 0, 1) := by decide +kernel
theorem d_AL_get_10 : decode b_AL_get 10 = .ok (.iload_n 1, 1) := by decide +kernel
theorem d_AL_get_11 : decode b_AL_get 11 = .ok (.invokevirtual 123, 3) := by decide +kernel
theorem d_AL_get_14 : decode b_AL_get 14 = .ok (.areturn, 1) := by decide +kernel
theorem d_OB_checkIndex_0 : decode b_OB_checkIndex 0 = .ok (.iload_n 0, 1) := by decide +kernel
theorem d_OB_checkIndex_1 : decode b_OB_checkIndex 1 = .ok (.iload_n 1, 1) := by decide +kernel
theorem d_OB_checkIndex_2 : decode b_OB_checkIndex 2 = .ok (.aconst_null, 1) := by decide +kernel
theorem d_OB_checkIndex_3 : decode b_OB_checkIndex 3 = .ok (.invokestatic 105, 3) := by decide +kernel
theorem d_OB_checkIndex_6 : decode b_OB_checkIndex 6 = .ok (.ireturn, 1) := by decide +kernel
theorem d_PC_checkIndex_0 : decode b_PC_checkIndex 0 = .ok (.iload_n 0, 1) := by decide +kernel
theorem d_PC_checkIndex_1 : decode b_PC_checkIndex 1 = .ok (.ifCond .lt 8, 3) := by decide +kernel
theorem d_PC_checkIndex_4 : decode b_PC_checkIndex 4 = .ok (.iload_n 0, 1) := by decide +kernel
theorem d_PC_checkIndex_5 : decode b_PC_checkIndex 5 = .ok (.iload_n 1, 1) := by decide +kernel
theorem d_PC_checkIndex_6 : decode b_PC_checkIndex 6 = .ok (.if_icmp .lt 10, 3) := by decide +kernel
theorem d_PC_checkIndex_9 : decode b_PC_checkIndex 9 = .ok (.aload_n 2, 1) := by decide +kernel
theorem d_PC_checkIndex_10 : decode b_PC_checkIndex 10 = .ok (.iload_n 0, 1) := by decide +kernel
theorem d_PC_checkIndex_11 : decode b_PC_checkIndex 11 = .ok (.iload_n 1, 1) := by decide +kernel
theorem d_PC_checkIndex_12 : decode b_PC_checkIndex 12 = .ok (.invokestatic 95, 3) := by decide +kernel
theorem d_PC_checkIndex_15 : decode b_PC_checkIndex 15 = .ok (.athrow, 1) := by decide +kernel
theorem d_PC_checkIndex_16 : decode b_PC_checkIndex 16 = .ok (.iload_n 0, 1) := by decide +kernel
theorem d_PC_checkIndex_17 : decode b_PC_checkIndex 17 = .ok (.ireturn, 1) := by decide +kernel
theorem d_AL_elementData_0 : decode b_AL_elementData 0 = .ok (.aload_n 0, 1) := by decide +kernel
theorem d_AL_elementData_1 : decode b_AL_elementData 1 = .ok (.getfield 9, 3) := by decide +kernel
theorem d_AL_elementData_4 : decode b_AL_elementData 4 = .ok (.iload_n 1, 1) := by decide +kernel
theorem d_AL_elementData_5 : decode b_AL_elementData 5 = .ok (.aaload, 1) := by decide +kernel
theorem d_AL_elementData_6 : decode b_AL_elementData 6 = .ok (.areturn, 1) := by decide +kernel
theorem d_G_addExemption_0 : decode b_G_addExemption 0 = .ok (.aload_n 0, 1) := by decide +kernel
theorem d_G_addExemption_1 : decode b_G_addExemption 1 = .ok (.iload_n 1, 1) := by decide +kernel
theorem d_G_addExemption_2 : decode b_G_addExemption 2 = .ok (.invokevirtual 26, 3) := by decide +kernel
theorem d_G_addExemption_5 : decode b_G_addExemption 5 = .ok (.ifCond .eq 5, 3) := by decide +kernel
theorem d_G_addExemption_8 : decode b_G_addExemption 8 = .ok (.iconst 0, 1) := by decide +kernel
theorem d_G_addExemption_9 : decode b_G_addExemption 9 = .ok (.ireturn, 1) := by decide +kernel
theorem d_G_addExemption_10 : decode b_G_addExemption 10 = .ok (.aload_n 0, 1) := by decide +kernel
theorem d_G_addExemption_11 : decode b_G_addExemption 11 = .ok (.dup, 1) := by decide +kernel
theorem d_G_addExemption_12 : decode b_G_addExemption 12 = .ok (.getfield 22, 3) := by decide +kernel
theorem d_G_addExemption_15 : decode b_G_addExemption 15 = .ok (.lconst 1, 1) := by decide +kernel
theorem d_G_addExemption_16 : decode b_G_addExemption 16 = .ok (.iload_n 1, 1) := by decide +kernel
theorem d_G_addExemption_17 : decode b_G_addExemption 17 = .ok (.lshl, 1) := by decide +kernel
theorem d_G_addExemption_18 : decode b_G_addExemption 18 = .ok (.lor, 1) := by decide +kernel
theorem d_G_addExemption_19 : decode b_G_addExemption 19 = .ok (.putfield 22, 3) := by decide +kernel
theorem d_G_addExemption_22 : decode b_G_addExemption 22 = .ok (.iconst 1, 1) := by decide +kernel
theorem d_G_addExemption_23 : decode b_G_addExemption 23 = .ok (.ireturn, 1) := by decide +kernel
theorem d_G_isExempt_0 : decode b_G_isExempt 0 = .ok (.aload_n 0, 1) := by decide +kernel
theorem d_G_isExempt_1 : decode b_G_isExempt 1 = .ok (.getfield 22, 3) := by decide +kernel
theorem d_G_isExempt_4 : decode b_G_isExempt 4 = .ok (.iload_n 1, 1) := by decide +kernel
theorem d_G_isExempt_5 : decode b_G_isExempt 5 = .ok (.lshr, 1) := by decide +kernel
theorem d_G_isExempt_6 : decode b_G_isExempt 6 = .ok (.lconst 1, 1) := by decide +kernel
theorem d_G_isExempt_7 : decode b_G_isExempt 7 = .ok (.land, 1) := by decide +kernel
theorem d_G_isExempt_8 : decode b_G_isExempt 8 = .ok (.lconst 0, 1) := by decide +kernel
theorem d_G_isExempt_9 : decode b_G_isExempt 9 = .ok (.lcmp, 1) := by decide +kernel
theorem d_G_isExempt_10 : decode b_G_isExempt 10 = .ok (.ifCond .eq 7, 3) := by decide +kernel
theorem d_G_isExempt_13 : decode b_G_isExempt 13 = .ok (.iconst 1, 1) := by decide +kernel
theorem d_G_isExempt_14 : decode b_G_isExempt 14 = .ok (.goto 4, 3) := by decide +kernel
theorem d_G_isExempt_17 : decode b_G_isExempt 17 = .ok (.iconst 0, 1) := by decide +kernel
theorem d_G_isExempt_18 : decode b_G_isExempt 18 = .ok (.ireturn, 1) := by decide +kernel
theorem d_T_most_0 : decode b_T_most 0 = .ok (.iload_n 1, 1) := by decide +kernel
theorem d_T_most_1 : decode b_T_most 1 = .ok (.invokestatic 161, 3) := by decide +kernel
theorem d_T_most_4 : decode b_T_most 4 = .ok (.ifCond .eq 20, 3) := by decide +kernel
theorem d_T_most_7 : decode b_T_most 7 = .ok (.iload_n 2, 1) := by decide +kernel
theorem d_T_most_8 : decode b_T_most 8 = .ok (.invokestatic 61, 3) := by decide +kernel
theorem d_T_most_11 : decode b_T_most 11 = .ok (.ifCond .eq 13, 3) := by decide +kernel
theorem d_T_most_14 : decode b_T_most 14 = .ok (.iload_n 3, 1) := by decide +kernel
theorem d_T_most_15 : decode b_T_most 15 = .ok (.ifCond .lt 9, 3) := by decide +kernel
theorem d_T_most_18 : decode b_T_most 18 = .ok (.iload_n 3, 1) := by decide +kernel
theorem d_T_most_19 : decode b_T_most 19 = .ok (.ldc 41, 2) := by decide +kernel
theorem d_T_most_21 : decode b_T_most 21 = .ok (.if_icmp .le 5, 3) := by decide +kernel
theorem d_T_most_24 : decode b_T_most 24 = .ok (.iconst 0, 1) := by decide +kernel
theorem d_T_most_25 : decode b_T_most 25 = .ok (.ireturn, 1) := by decide +kernel
theorem d_T_most_26 : decode b_T_most 26 = .ok (.aload_n 0, 1) := by decide +kernel
theorem d_T_most_27 : decode b_T_most 27 = .ok (.getfield 38, 3) := by decide +kernel
theorem d_T_most_30 : decode b_T_most 30 = .ok (.iload_n 1, 1) := by decide +kernel
theorem d_T_most_31 : decode b_T_most 31 = .ok (.aaload, 1) := by decide +kernel
theorem d_T_most_32 : decode b_T_most 32 = .ok (.iload_n 2, 1) := by decide +kernel
theorem d_T_most_33 : decode b_T_most 33 = .ok (.iload_n 3, 1) := by decide +kernel
theorem d_T_most_34 : decode b_T_most 34 = .ok (.iastore, 1) := by decide +kernel
theorem d_T_most_35 : decode b_T_most 35 = .ok (.iconst 1, 1) := by decide +kernel
theorem d_T_most_36 : decode b_T_most 36 = .ok (.ireturn, 1) := by decide +kernel
theorem d_T_isZone_0 : decode b_T_isZone 0 = .ok (.iload_n 0, 1) := by decide +kernel
theorem d_T_isZone_1 : decode b_T_isZone 1 = .ok (.ifCond .lt 12, 3) := by decide +kernel
theorem d_T_isZone_4 : decode b_T_isZone 4 = .ok (.iload_n 0, 1) := by decide +kernel
theorem d_T_isZone_5 : decode b_T_isZone 5 = .ok (.iconst 4, 1) := by decide +kernel
theorem d_T_isZone_6 : decode b_T_isZone 6 = .ok (.if_icmp .ge 7, 3) := by decide +kernel
theorem d_T_isZone_9 : decode b_T_isZone 9 = .ok (.iconst 1, 1) := by decide +kernel
theorem d_T_isZone_10 : decode b_T_isZone 10 = .ok (.goto 4, 3) := by decide +kernel
theorem d_T_isZone_13 : decode b_T_isZone 13 = .ok (.iconst 0, 1) := by decide +kernel
theorem d_T_isZone_14 : decode b_T_isZone 14 = .ok (.ireturn, 1) := by decide +kernel
theorem d_T_paper_0 : decode b_T_paper 0 = .ok (.aload_n 0, 1) := by decide +kernel
theorem d_T_paper_1 : decode b_T_paper 1 = .ok (.iload_n 1, 1) := by decide +kernel
theorem d_T_paper_2 : decode b_T_paper 2 = .ok (.invokevirtual 127, 3) := by decide +kernel
theorem d_T_paper_5 : decode b_T_paper 5 = .ok (.ifCond .eq 12, 3) := by decide +kernel
theorem d_T_paper_8 : decode b_T_paper 8 = .ok (.iload_n 2, 1) := by decide +kernel
theorem d_T_paper_9 : decode b_T_paper 9 = .ok (.ifCond .lt 8, 3) := by decide +kernel
theorem d_T_paper_12 : decode b_T_paper 12 = .ok (.iload_n 2, 1) := by decide +kernel
theorem d_T_paper_13 : decode b_T_paper 13 = .ok (.iconst 5, 1) := by decide +kernel
theorem d_T_paper_14 : decode b_T_paper 14 = .ok (.if_icmp .lt 5, 3) := by decide +kernel
theorem d_T_paper_17 : decode b_T_paper 17 = .ok (.iconst 0, 1) := by decide +kernel
theorem d_T_paper_18 : decode b_T_paper 18 = .ok (.ireturn, 1) := by decide +kernel
theorem d_T_paper_19 : decode b_T_paper 19 = .ok (.aload_n 0, 1) := by decide +kernel
theorem d_T_paper_20 : decode b_T_paper 20 = .ok (.getfield 33, 3) := by decide +kernel
theorem d_T_paper_23 : decode b_T_paper 23 = .ok (.iload_n 1, 1) := by decide +kernel
theorem d_T_paper_24 : decode b_T_paper 24 = .ok (.invokevirtual 107, 3) := by decide +kernel
theorem d_T_paper_27 : decode b_T_paper 27 = .ok (.checkcast 121, 3) := by decide +kernel
theorem d_T_paper_30 : decode b_T_paper 30 = .ok (.iconst 1, 1) := by decide +kernel
theorem d_T_paper_31 : decode b_T_paper 31 = .ok (.iload_n 2, 1) := by decide +kernel
theorem d_T_paper_32 : decode b_T_paper 32 = .ok (.ishl, 1) := by decide +kernel
theorem d_T_paper_33 : decode b_T_paper 33 = .ok (.invokevirtual 190, 3) := by decide +kernel
theorem d_T_paper_36 : decode b_T_paper 36 = .ok (.ireturn, 1) := by decide +kernel
theorem d_T_isBox_0 : decode b_T_isBox 0 = .ok (.iload_n 1, 1) := by decide +kernel
theorem d_T_isBox_1 : decode b_T_isBox 1 = .ok (.ifCond .lt 18, 3) := by decide +kernel
theorem d_T_isBox_4 : decode b_T_isBox 4 = .ok (.iload_n 1, 1) := by decide +kernel
theorem d_T_isBox_5 : decode b_T_isBox 5 = .ok (.aload_n 0, 1) := by decide +kernel
theorem d_T_isBox_6 : decode b_T_isBox 6 = .ok (.getfield 33, 3) := by decide +kernel
theorem d_T_isBox_9 : decode b_T_isBox 9 = .ok (.invokevirtual 83, 3) := by decide +kernel
theorem d_T_isBox_12 : decode b_T_isBox 12 = .ok (.if_icmp .ge 7, 3) := by decide +kernel
theorem d_T_isBox_15 : decode b_T_isBox 15 = .ok (.iconst 1, 1) := by decide +kernel
theorem d_T_isBox_16 : decode b_T_isBox 16 = .ok (.goto 4, 3) := by decide +kernel
theorem d_T_isBox_19 : decode b_T_isBox 19 = .ok (.iconst 0, 1) := by decide +kernel
theorem d_T_isBox_20 : decode b_T_isBox 20 = .ok (.ireturn, 1) := by decide +kernel
theorem d_X_tell_0 : decode b_X_tell 0 = .ok (.aload_n 0, 1) := by decide +kernel
theorem d_X_tell_1 : decode b_X_tell 1 = .ok (.getfield 71, 3) := by decide +kernel
theorem d_X_tell_4 : decode b_X_tell 4 = .ok (.iload_n 1, 1) := by decide +kernel
theorem d_X_tell_5 : decode b_X_tell 5 = .ok (.iand, 1) := by decide +kernel
theorem d_X_tell_6 : decode b_X_tell 6 = .ok (.ifCond .eq 5, 3) := by decide +kernel
theorem d_X_tell_9 : decode b_X_tell 9 = .ok (.iconst 0, 1) := by decide +kernel
theorem d_X_tell_10 : decode b_X_tell 10 = .ok (.ireturn, 1) := by decide +kernel
theorem d_X_tell_11 : decode b_X_tell 11 = .ok (.aload_n 0, 1) := by decide +kernel
theorem d_X_tell_12 : decode b_X_tell 12 = .ok (.dup, 1) := by decide +kernel
theorem d_X_tell_13 : decode b_X_tell 13 = .ok (.getfield 71, 3) := by decide +kernel
theorem d_X_tell_16 : decode b_X_tell 16 = .ok (.iload_n 1, 1) := by decide +kernel
theorem d_X_tell_17 : decode b_X_tell 17 = .ok (.ior, 1) := by decide +kernel
theorem d_X_tell_18 : decode b_X_tell 18 = .ok (.putfield 71, 3) := by decide +kernel
theorem d_X_tell_21 : decode b_X_tell 21 = .ok (.iconst 1, 1) := by decide +kernel
theorem d_X_tell_22 : decode b_X_tell 22 = .ok (.ireturn, 1) := by decide +kernel
theorem d_T_count_0 : decode b_T_count 0 = .ok (.iload_n 1, 1) := by decide +kernel
theorem d_T_count_1 : decode b_T_count 1 = .ok (.tableswitch 77 0 4 #[35, 43, 51, 59, 64], 35) := by decide +kernel
theorem d_T_count_36 : decode b_T_count 36 = .ok (.aload_n 0, 1) := by decide +kernel
theorem d_T_count_37 : decode b_T_count 37 = .ok (.getfield 12, 3) := by decide +kernel
theorem d_T_count_40 : decode b_T_count 40 = .ok (.getfield 216, 3) := by decide +kernel
theorem d_T_count_43 : decode b_T_count 43 = .ok (.ireturn, 1) := by decide +kernel
theorem d_T_count_44 : decode b_T_count 44 = .ok (.aload_n 0, 1) := by decide +kernel
theorem d_T_count_45 : decode b_T_count 45 = .ok (.getfield 29, 3) := by decide +kernel
theorem d_T_count_48 : decode b_T_count 48 = .ok (.invokevirtual 83, 3) := by decide +kernel
theorem d_T_count_51 : decode b_T_count 51 = .ok (.ireturn, 1) := by decide +kernel
theorem d_T_count_52 : decode b_T_count 52 = .ok (.aload_n 0, 1) := by decide +kernel
theorem d_T_count_53 : decode b_T_count 53 = .ok (.getfield 33, 3) := by decide +kernel
theorem d_T_count_56 : decode b_T_count 56 = .ok (.invokevirtual 83, 3) := by decide +kernel
theorem d_T_count_59 : decode b_T_count 59 = .ok (.ireturn, 1) := by decide +kernel
theorem d_T_count_60 : decode b_T_count 60 = .ok (.aload_n 0, 1) := by decide +kernel
theorem d_T_count_61 : decode b_T_count 61 = .ok (.invokevirtual 219, 3) := by decide +kernel
theorem d_T_count_64 : decode b_T_count 64 = .ok (.ireturn, 1) := by decide +kernel
theorem d_T_count_65 : decode b_T_count 65 = .ok (.aload_n 0, 1) := by decide +kernel
theorem d_T_count_66 : decode b_T_count 66 = .ok (.getfield 57, 3) := by decide +kernel
theorem d_T_count_69 : decode b_T_count 69 = .ok (.ifCond .eq 7, 3) := by decide +kernel
theorem d_T_count_72 : decode b_T_count 72 = .ok (.iconst 1, 1) := by decide +kernel
theorem d_T_count_73 : decode b_T_count 73 = .ok (.goto 4, 3) := by decide +kernel
theorem d_T_count_76 : decode b_T_count 76 = .ok (.iconst 0, 1) := by decide +kernel
theorem d_T_count_77 : decode b_T_count 77 = .ok (.ireturn, 1) := by decide +kernel
theorem d_T_count_78 : decode b_T_count 78 = .ok (.iconst (-1), 1) := by decide +kernel
theorem d_T_count_79 : decode b_T_count 79 = .ok (.ireturn, 1) := by decide +kernel
theorem d_T_lyingCount_0 : decode b_T_lyingCount 0 = .ok (.iconst 0, 1) := by decide +kernel
theorem d_T_lyingCount_1 : decode b_T_lyingCount 1 = .ok (.istore_n 1, 1) := by decide +kernel
theorem d_T_lyingCount_2 : decode b_T_lyingCount 2 = .ok (.iconst 0, 1) := by decide +kernel
theorem d_T_lyingCount_3 : decode b_T_lyingCount 3 = .ok (.istore_n 2, 1) := by decide +kernel
theorem d_T_lyingCount_4 : decode b_T_lyingCount 4 = .ok (.iload_n 2, 1) := by decide +kernel
theorem d_T_lyingCount_5 : decode b_T_lyingCount 5 = .ok (.aload_n 0, 1) := by decide +kernel
theorem d_T_lyingCount_6 : decode b_T_lyingCount 6 = .ok (.getfield 33, 3) := by decide +kernel
theorem d_T_lyingCount_9 : decode b_T_lyingCount 9 = .ok (.invokevirtual 83, 3) := by decide +kernel
theorem d_T_lyingCount_12 : decode b_T_lyingCount 12 = .ok (.if_icmp .ge 29, 3) := by decide +kernel
theorem d_T_lyingCount_15 : decode b_T_lyingCount 15 = .ok (.aload_n 0, 1) := by decide +kernel
theorem d_T_lyingCount_16 : decode b_T_lyingCount 16 = .ok (.getfield 33, 3) := by decide +kernel
