theorem d_M_wanted_36 : decode b_M_wanted 36 = .ok (.iconst 1, 1) := by decide +kernel
theorem d_M_wanted_37 : decode b_M_wanted 37 = .ok (.if_icmp .ne 7, 3) := by decide +kernel
theorem d_M_wanted_40 : decode b_M_wanted 40 = .ok (.iconst 2, 1) := by decide +kernel
theorem d_M_wanted_41 : decode b_M_wanted 41 = .ok (.goto 4, 3) := by decide +kernel
theorem d_M_wanted_44 : decode b_M_wanted 44 = .ok (.iconst 0, 1) := by decide +kernel
theorem d_M_wanted_45 : decode b_M_wanted 45 = .ok (.aload_n 0, 1) := by decide +kernel
theorem d_M_wanted_46 : decode b_M_wanted 46 = .ok (.getfield 28, 3) := by decide +kernel
theorem d_M_wanted_49 : decode b_M_wanted 49 = .ok (.iload 4, 2) := by decide +kernel
theorem d_M_wanted_51 : decode b_M_wanted 51 = .ok (.baload, 1) := by decide +kernel
theorem d_M_wanted_52 : decode b_M_wanted 52 = .ok (.ifCond .eq 7, 3) := by decide +kernel
theorem d_M_wanted_55 : decode b_M_wanted 55 = .ok (.iconst 4, 1) := by decide +kernel
theorem d_M_wanted_56 : decode b_M_wanted 56 = .ok (.goto 4, 3) := by decide +kernel
theorem d_M_wanted_59 : decode b_M_wanted 59 = .ok (.iconst 0, 1) := by decide +kernel
theorem d_M_wanted_60 : decode b_M_wanted 60 = .ok (.ior, 1) := by decide +kernel
theorem d_M_wanted_61 : decode b_M_wanted 61 = .ok (.aload_n 0, 1) := by decide +kernel
theorem d_M_wanted_62 : decode b_M_wanted 62 = .ok (.getfield 32, 3) := by decide +kernel
theorem d_M_wanted_65 : decode b_M_wanted 65 = .ok (.iload 4, 2) := by decide +kernel
theorem d_M_wanted_67 : decode b_M_wanted 67 = .ok (.baload, 1) := by decide +kernel
theorem d_M_wanted_68 : decode b_M_wanted 68 = .ok (.ifCond .eq 8, 3) := by decide +kernel
theorem d_M_wanted_71 : decode b_M_wanted 71 = .ok (.bipush 8, 2) := by decide +kernel
theorem d_M_wanted_73 : decode b_M_wanted 73 = .ok (.goto 4, 3) := by decide +kernel
theorem d_M_wanted_76 : decode b_M_wanted 76 = .ok (.iconst 0, 1) := by decide +kernel
theorem d_M_wanted_77 : decode b_M_wanted 77 = .ok (.ior, 1) := by decide +kernel
theorem d_M_wanted_78 : decode b_M_wanted 78 = .ok (.aload_n 0, 1) := by decide +kernel
theorem d_M_wanted_79 : decode b_M_wanted 79 = .ok (.iload_n 3, 1) := by decide +kernel
theorem d_M_wanted_80 : decode b_M_wanted 80 = .ok (.invokevirtual 120, 3) := by decide +kernel
theorem d_M_wanted_83 : decode b_M_wanted 83 = .ok (.ifCond .eq 7, 3) := by decide +kernel
theorem d_M_wanted_86 : decode b_M_wanted 86 = .ok (.iconst 0, 1) := by decide +kernel
theorem d_M_wanted_87 : decode b_M_wanted 87 = .ok (.goto 5, 3) := by decide +kernel
theorem d_M_wanted_90 : decode b_M_wanted 90 = .ok (.bipush 16, 2) := by decide +kernel
theorem d_M_wanted_92 : decode b_M_wanted 92 = .ok (.ior, 1) := by decide +kernel
theorem d_M_wanted_93 : decode b_M_wanted 93 = .ok (.ior, 1) := by decide +kernel
theorem d_M_wanted_94 : decode b_M_wanted 94 = .ok (.istore_n 2, 1) := by decide +kernel
theorem d_M_wanted_95 : decode b_M_wanted 95 = .ok (.iinc 3 1, 3) := by decide +kernel
theorem d_M_wanted_98 : decode b_M_wanted 98 = .ok (.goto (-92), 3) := by decide +kernel
theorem d_M_wanted_101 : decode b_M_wanted 101 = .ok (.iload_n 2, 1) := by decide +kernel
theorem d_M_wanted_102 : decode b_M_wanted 102 = .ok (.ireturn, 1) := by decide +kernel
theorem d_M_isNear_0 : decode b_M_isNear 0 = .ok (.aload_n 0, 1) := by decide +kernel
theorem d_M_isNear_1 : decode b_M_isNear 1 = .ok (.iload_n 1, 1) := by decide +kernel
theorem d_M_isNear_2 : decode b_M_isNear 2 = .ok (.iload_n 2, 1) := by decide +kernel
theorem d_M_isNear_3 : decode b_M_isNear 3 = .ok (.invokevirtual 126, 3) := by decide +kernel
theorem d_M_isNear_6 : decode b_M_isNear 6 = .ok (.istore 5, 2) := by decide +kernel
theorem d_M_isNear_8 : decode b_M_isNear 8 = .ok (.iload_n 3, 1) := by decide +kernel
theorem d_M_isNear_9 : decode b_M_isNear 9 = .ok (.aload_n 0, 1) := by decide +kernel
theorem d_M_isNear_10 : decode b_M_isNear 10 = .ok (.getfield 44, 3) := by decide +kernel
theorem d_M_isNear_13 : decode b_M_isNear 13 = .ok (.iload_n 2, 1) := by decide +kernel
theorem d_M_isNear_14 : decode b_M_isNear 14 = .ok (.iaload, 1) := by decide +kernel
theorem d_M_isNear_15 : decode b_M_isNear 15 = .ok (.isub, 1) := by decide +kernel
theorem d_M_isNear_16 : decode b_M_isNear 16 = .ok (.invokestatic 135, 3) := by decide +kernel
theorem d_M_isNear_19 : decode b_M_isNear 19 = .ok (.iload 4, 2) := by decide +kernel
theorem d_M_isNear_21 : decode b_M_isNear 21 = .ok (.aload_n 0, 1) := by decide +kernel
theorem d_M_isNear_22 : decode b_M_isNear 22 = .ok (.getfield 47, 3) := by decide +kernel
theorem d_M_isNear_25 : decode b_M_isNear 25 = .ok (.iload_n 2, 1) := by decide +kernel
theorem d_M_isNear_26 : decode b_M_isNear 26 = .ok (.iaload, 1) := by decide +kernel
theorem d_M_isNear_27 : decode b_M_isNear 27 = .ok (.isub, 1) := by decide +kernel
theorem d_M_isNear_28 : decode b_M_isNear 28 = .ok (.invokestatic 135, 3) := by decide +kernel
theorem d_M_isNear_31 : decode b_M_isNear 31 = .ok (.iadd, 1) := by decide +kernel
theorem d_M_isNear_32 : decode b_M_isNear 32 = .ok (.istore 6, 2) := by decide +kernel
theorem d_M_isNear_34 : decode b_M_isNear 34 = .ok (.iload 5, 2) := by decide +kernel
theorem d_M_isNear_36 : decode b_M_isNear 36 = .ok (.iconst 4, 1) := by decide +kernel
theorem d_M_isNear_37 : decode b_M_isNear 37 = .ok (.if_icmp .eq 19, 3) := by decide +kernel
theorem d_M_isNear_40 : decode b_M_isNear 40 = .ok (.iload 5, 2) := by decide +kernel
theorem d_M_isNear_42 : decode b_M_isNear 42 = .ok (.ifCond .le 18, 3) := by decide +kernel
theorem d_M_isNear_45 : decode b_M_isNear 45 = .ok (.iload 6, 2) := by decide +kernel
theorem d_M_isNear_47 : decode b_M_isNear 47 = .ok (.iconst 3, 1) := by decide +kernel
theorem d_M_isNear_48 : decode b_M_isNear 48 = .ok (.iload 5, 2) := by decide +kernel
theorem d_M_isNear_50 : decode b_M_isNear 50 = .ok (.iconst 1, 1) := by decide +kernel
theorem d_M_isNear_51 : decode b_M_isNear 51 = .ok (.isub, 1) := by decide +kernel
theorem d_M_isNear_52 : decode b_M_isNear 52 = .ok (.ishl, 1) := by decide +kernel
theorem d_M_isNear_53 : decode b_M_isNear 53 = .ok (.if_icmp .ge 7, 3) := by decide +kernel
theorem d_M_isNear_56 : decode b_M_isNear 56 = .ok (.iconst 1, 1) := by decide +kernel
theorem d_M_isNear_57 : decode b_M_isNear 57 = .ok (.goto 4, 3) := by decide +kernel
theorem d_M_isNear_60 : decode b_M_isNear 60 = .ok (.iconst 0, 1) := by decide +kernel
theorem d_M_isNear_61 : decode b_M_isNear 61 = .ok (.ireturn, 1) := by decide +kernel
theorem d_M_far_0 : decode b_M_far 0 = .ok (.iload_n 0, 1) := by decide +kernel
theorem d_M_far_1 : decode b_M_far 1 = .ok (.ifCond .ge 8, 3) := by decide +kernel
theorem d_M_far_4 : decode b_M_far 4 = .ok (.iload_n 0, 1) := by decide +kernel
theorem d_M_far_5 : decode b_M_far 5 = .ok (.ineg, 1) := by decide +kernel
theorem d_M_far_6 : decode b_M_far 6 = .ok (.goto 4, 3) := by decide +kernel
theorem d_M_far_9 : decode b_M_far 9 = .ok (.iload_n 0, 1) := by decide +kernel
theorem d_M_far_10 : decode b_M_far 10 = .ok (.ireturn, 1) := by decide +kernel
theorem d_M_take_0 : decode b_M_take 0 = .ok (.aload_n 0, 1) := by decide +kernel
theorem d_M_take_1 : decode b_M_take 1 = .ok (.iload_n 1, 1) := by decide +kernel
theorem d_M_take_2 : decode b_M_take 2 = .ok (.invokevirtual 106, 3) := by decide +kernel
theorem d_M_take_5 : decode b_M_take 5 = .ok (.ifCond .ne 9, 3) := by decide +kernel
theorem d_M_take_8 : decode b_M_take 8 = .ok (.aload_n 0, 1) := by decide +kernel
theorem d_M_take_9 : decode b_M_take 9 = .ok (.iconst 1, 1) := by decide +kernel
theorem d_M_take_10 : decode b_M_take 10 = .ok (.invokevirtual 95, 3) := by decide +kernel
theorem d_M_take_13 : decode b_M_take 13 = .ok (.ireturn, 1) := by decide +kernel
theorem d_M_take_14 : decode b_M_take 14 = .ok (.aload_n 0, 1) := by decide +kernel
theorem d_M_take_15 : decode b_M_take 15 = .ok (.iconst 0, 1) := by decide +kernel
theorem d_M_take_16 : decode b_M_take 16 = .ok (.putfield 63, 3) := by decide +kernel
theorem d_M_take_19 : decode b_M_take 19 = .ok (.aload_n 0, 1) := by decide +kernel
theorem d_M_take_20 : decode b_M_take 20 = .ok (.getfield 41, 3) := by decide +kernel
theorem d_M_take_23 : decode b_M_take 23 = .ok (.iload_n 1, 1) := by decide +kernel
theorem d_M_take_24 : decode b_M_take 24 = .ok (.iaload, 1) := by decide +kernel
theorem d_M_take_25 : decode b_M_take 25 = .ok (.istore_n 2, 1) := by decide +kernel
theorem d_M_take_26 : decode b_M_take 26 = .ok (.aload_n 0, 1) := by decide +kernel
theorem d_M_take_27 : decode b_M_take 27 = .ok (.getfield 41, 3) := by decide +kernel
theorem d_M_take_30 : decode b_M_take 30 = .ok (.iload_n 1, 1) := by decide +kernel
theorem d_M_take_31 : decode b_M_take 31 = .ok (.iconst (-1), 1) := by decide +kernel
theorem d_M_take_32 : decode b_M_take 32 = .ok (.iastore, 1) := by decide +kernel
theorem d_M_take_33 : decode b_M_take 33 = .ok (.iload_n 2, 1) := by decide +kernel
theorem d_M_take_34 : decode b_M_take 34 = .ok (.ireturn, 1) := by decide +kernel
theorem d_M_paper_0 : decode b_M_paper 0 = .ok (.aload_n 0, 1) := by decide +kernel
theorem d_M_paper_1 : decode b_M_paper 1 = .ok (.iconst 0, 1) := by decide +kernel
theorem d_M_paper_2 : decode b_M_paper 2 = .ok (.putfield 63, 3) := by decide +kernel
theorem d_M_paper_5 : decode b_M_paper 5 = .ok (.aload_n 0, 1) := by decide +kernel
theorem d_M_paper_6 : decode b_M_paper 6 = .ok (.iload_n 1, 1) := by decide +kernel
theorem d_M_paper_7 : decode b_M_paper 7 = .ok (.invokevirtual 106, 3) := by decide +kernel
theorem d_M_paper_10 : decode b_M_paper 10 = .ok (.ifCond .eq 26, 3) := by decide +kernel
theorem d_M_paper_13 : decode b_M_paper 13 = .ok (.iload_n 2, 1) := by decide +kernel
theorem d_M_paper_14 : decode b_M_paper 14 = .ok (.iconst 0, 1) := by decide +kernel
theorem d_M_paper_15 : decode b_M_paper 15 = .ok (.iconst 4, 1) := by decide +kernel
theorem d_M_paper_16 : decode b_M_paper 16 = .ok (.invokestatic 73, 3) := by decide +kernel
theorem d_M_paper_19 : decode b_M_paper 19 = .ok (.ifCond .eq 17, 3) := by decide +kernel
theorem d_M_paper_22 : decode b_M_paper 22 = .ok (.aload_n 0, 1) := by decide +kernel
theorem d_M_paper_23 : decode b_M_paper 23 = .ok (.getfield 50, 3) := by decide +kernel
theorem d_M_paper_26 : decode b_M_paper 26 = .ok (.iload_n 1, 1) := by decide +kernel
theorem d_M_paper_27 : decode b_M_paper 27 = .ok (.iaload, 1) := by decide +kernel
theorem d_M_paper_28 : decode b_M_paper 28 = .ok (.iload_n 2, 1) := by decide +kernel
theorem d_M_paper_29 : decode b_M_paper 29 = .ok (.ishr, 1) := by decide +kernel
theorem d_M_paper_30 : decode b_M_paper 30 = .ok (.iconst 1, 1) := by decide +kernel
theorem d_M_paper_31 : decode b_M_paper 31 = .ok (.iand, 1) := by decide +kernel
theorem d_M_paper_32 : decode b_M_paper 32 = .ok (.iconst 1, 1) := by decide +kernel
theorem d_M_paper_33 : decode b_M_paper 33 = .ok (.if_icmp .ne 5, 3) := by decide +kernel
theorem d_M_paper_36 : decode b_M_paper 36 = .ok (.iconst 0, 1) := by decide +kernel
theorem d_M_paper_37 : decode b_M_paper 37 = .ok (.ireturn, 1) := by decide +kernel
theorem d_M_paper_38 : decode b_M_paper 38 = .ok (.aload_n 0, 1) := by decide +kernel
theorem d_M_paper_39 : decode b_M_paper 39 = .ok (.getfield 50, 3) := by decide +kernel
theorem d_M_paper_42 : decode b_M_paper 42 = .ok (.iload_n 1, 1) := by decide +kernel
theorem d_M_paper_43 : decode b_M_paper 43 = .ok (.dup2, 1) := by decide +kernel
theorem d_M_paper_44 : decode b_M_paper 44 = .ok (.iaload, 1) := by decide +kernel
theorem d_M_paper_45 : decode b_M_paper 45 = .ok (.iconst 1, 1) := by decide +kernel
theorem d_M_paper_46 : decode b_M_paper 46 = .ok (.iload_n 2, 1) := by decide +kernel
theorem d_M_paper_47 : decode b_M_paper 47 = .ok (.ishl, 1) := by decide +kernel
theorem d_M_paper_48 : decode b_M_paper 48 = .ok (.ior, 1) := by decide +kernel
theorem d_M_paper_49 : decode b_M_paper 49 = .ok (.iastore, 1) := by decide +kernel
theorem d_M_paper_50 : decode b_M_paper 50 = .ok (.iconst 1, 1) := by decide +kernel
theorem d_M_paper_51 : decode b_M_paper 51 = .ok (.ireturn, 1) := by decide +kernel
theorem d_M_missing_0 : decode b_M_missing 0 = .ok (.aload_n 0, 1) := by decide +kernel
theorem d_M_missing_1 : decode b_M_missing 1 = .ok (.aload_n 0, 1) := by decide +kernel
theorem d_M_missing_2 : decode b_M_missing 2 = .ok (.iload_n 1, 1) := by decide +kernel
theorem d_M_missing_3 : decode b_M_missing 3 = .ok (.invokevirtual 106, 3) := by decide +kernel
theorem d_M_missing_6 : decode b_M_missing 6 = .ok (.ifCond .eq 7, 3) := by decide +kernel
theorem d_M_missing_9 : decode b_M_missing 9 = .ok (.iconst 0, 1) := by decide +kernel
theorem d_M_missing_10 : decode b_M_missing 10 = .ok (.goto 4, 3) := by decide +kernel
theorem d_M_missing_13 : decode b_M_missing 13 = .ok (.iconst 1, 1) := by decide +kernel
theorem d_M_missing_14 : decode b_M_missing 14 = .ok (.putfield 63, 3) := by decide +kernel
theorem d_M_missing_17 : decode b_M_missing 17 = .ok (.aload_n 0, 1) := by decide +kernel
theorem d_M_missing_18 : decode b_M_missing 18 = .ok (.getfield 63, 3) := by decide +kernel
theorem d_M_missing_21 : decode b_M_missing 21 = .ok (.ifCond .le 7, 3) := by decide +kernel
theorem d_M_missing_24 : decode b_M_missing 24 = .ok (.iconst 0, 1) := by decide +kernel
theorem d_M_missing_25 : decode b_M_missing 25 = .ok (.goto 17, 3) := by decide +kernel
theorem d_M_missing_28 : decode b_M_missing 28 = .ok (.aload_n 0, 1) := by decide +kernel
theorem d_M_missing_29 : decode b_M_missing 29 = .ok (.iload_n 1, 1) := by decide +kernel
theorem d_M_missing_30 : decode b_M_missing 30 = .ok (.invokevirtual 138, 3) := by decide +kernel
theorem d_M_missing_33 : decode b_M_missing 33 = .ok (.aload_n 0, 1) := by decide +kernel
theorem d_M_missing_34 : decode b_M_missing 34 = .ok (.getfield 50, 3) := by decide +kernel
theorem d_M_missing_37 : decode b_M_missing 37 = .ok (.iload_n 1, 1) := by decide +kernel
theorem d_M_missing_38 : decode b_M_missing 38 = .ok (.iaload, 1) := by decide +kernel
theorem d_M_missing_39 : decode b_M_missing 39 = .ok (.iconst (-1), 1) := by decide +kernel
theorem d_M_missing_40 : decode b_M_missing 40 = .ok (.ixor, 1) := by decide +kernel
theorem d_M_missing_41 : decode b_M_missing 41 = .ok (.iand, 1) := by decide +kernel
theorem d_M_missing_42 : decode b_M_missing 42 = .ok (.ireturn, 1) := by decide +kernel
theorem d_M_look_0 : decode b_M_look 0 = .ok (.aload_n 0, 1) := by decide +kernel
theorem d_M_look_1 : decode b_M_look 1 = .ok (.iload_n 1, 1) := by decide +kernel
theorem d_M_look_2 : decode b_M_look 2 = .ok (.invokevirtual 106, 3) := by decide +kernel
theorem d_M_look_5 : decode b_M_look 5 = .ok (.ifCond .eq 13, 3) := by decide +kernel
theorem d_M_look_8 : decode b_M_look 8 = .ok (.iload_n 2, 1) := by decide +kernel
theorem d_M_look_9 : decode b_M_look 9 = .ok (.iconst 0, 1) := by decide +kernel
theorem d_M_look_10 : decode b_M_look 10 = .ok (.bipush 6, 2) := by decide +kernel
theorem d_M_look_12 : decode b_M_look 12 = .ok (.invokestatic 73, 3) := by decide +kernel
theorem d_M_look_15 : decode b_M_look 15 = .ok (.ifCond .ne 9, 3) := by decide +kernel
theorem d_M_look_18 : decode b_M_look 18 = .ok (.aload_n 0, 1) := by decide +kernel
theorem d_M_look_19 : decode b_M_look 19 = .ok (.iconst 1, 1) := by decide +kernel
theorem d_M_look_20 : decode b_M_look 20 = .ok (.invokevirtual 95, 3) := by decide +kernel
theorem d_M_look_23 : decode b_M_look 23 = .ok (.ireturn, 1) := by decide +kernel
theorem d_M_look_24 : decode b_M_look 24 = .ok (.aload_n 0, 1) := by decide +kernel
theorem d_M_look_25 : decode b_M_look 25 = .ok (.iconst 0, 1) := by decide +kernel
theorem d_M_look_26 : decode b_M_look 26 = .ok (.putfield 63, 3) := by decide +kernel
theorem d_M_look_29 : decode b_M_look 29 = .ok (.iconst 0, 1) := by decide +kernel
theorem d_M_look_30 : decode b_M_look 30 = .ok (.istore_n 3, 1) := by decide +kernel
theorem d_M_look_31 : decode b_M_look 31 = .ok (.iconst 0, 1) := by decide +kernel
theorem d_M_look_32 : decode b_M_look 32 = .ok (.istore 4, 2) := by decide +kernel
theorem d_M_look_34 : decode b_M_look 34 = .ok (.iconst 4, 1) := by decide +kernel
theorem d_M_look_35 : decode b_M_look 35 = .ok (.iload_n 1, 1) := by decide +kernel
theorem d_M_look_36 : decode b_M_look 36 = .ok (.imul, 1) := by decide +kernel
theorem d_M_look_37 : decode b_M_look 37 = .ok (.istore 5, 2) := by decide +kernel
theorem d_M_look_39 : decode b_M_look 39 = .ok (.iload 5, 2) := by decide +kernel
theorem d_M_look_41 : decode b_M_look 41 = .ok (.iconst 4, 1) := by decide +kernel
theorem d_M_look_42 : decode b_M_look 42 = .ok (.iload_n 1, 1) := by decide +kernel
theorem d_M_look_43 : decode b_M_look 43 = .ok (.imul, 1) := by decide +kernel
theorem d_M_look_44 : decode b_M_look 44 = .ok (.aload_n 0, 1) := by decide +kernel
theorem d_M_look_45 : decode b_M_look 45 = .ok (.getfield 38, 3) := by decide +kernel
theorem d_M_look_48 : decode b_M_look 48 = .ok (.iload_n 1, 1) := by decide +kernel
theorem d_M_look_49 : decode b_M_look 49 = .ok (.iaload, 1) := by decide +kernel
theorem d_M_look_50 : decode b_M_look 50 = .ok (.iadd, 1) := by decide +kernel
theorem d_M_look_51 : decode b_M_look 51 = .ok (.if_icmp .ge 38, 3) := by decide +kernel
theorem d_M_look_54 : decode b_M_look 54 = .ok (.iload_n 3, 1) := by decide +kernel
theorem d_M_look_55 : decode b_M_look 55 = .ok (.aload_n 0, 1) := by decide +kernel
theorem d_M_look_56 : decode b_M_look 56 = .ok (.getfield 56, 3) := by decide +kernel
theorem d_M_look_59 : decode b_M_look 59 = .ok (.iload 5, 2) := by decide +kernel
theorem d_M_look_61 : decode b_M_look 61 = .ok (.iaload, 1) := by decide +kernel
theorem d_M_look_62 : decode b_M_look 62 = .ok (.iadd, 1) := by decide +kernel
theorem d_M_look_63 : decode b_M_look 63 = .ok (.istore_n 3, 1) := by decide +kernel
theorem d_M_look_64 : decode b_M_look 64 = .ok (.iload 4, 2) := by decide +kernel
theorem d_M_look_66 : decode b_M_look 66 = .ok (.aload_n 0, 1) := by decide +kernel
theorem d_M_look_67 : decode b_M_look 67 = .ok (.iload 5, 2) := by decide +kernel
theorem d_M_look_69 : decode b_M_look 69 = .ok (.invokevirtual 120, 3) := by decide +kernel
theorem d_M_look_72 : decode b_M_look 72 = .ok (.ifCond .eq 7, 3) := by decide +kernel
theorem d_M_look_75 : decode b_M_look 75 = .ok (.iconst 1, 1) := by decide +kernel
theorem d_M_look_76 : decode b_M_look 76 = .ok (.goto 4, 3) := by decide +kernel
theorem d_M_look_79 : decode b_M_look 79 = .ok (.iconst 0, 1) := by decide +kernel
theorem d_M_look_80 : decode b_M_look 80 = .ok (.iadd, 1) := by decide +kernel
theorem d_M_look_81 : decode b_M_look 81 = .ok (.istore 4, 2) := by decide +kernel
theorem d_M_look_83 : decode b_M_look 83 = .ok (.iinc 5 1, 3) := by decide +kernel
theorem d_M_look_86 : decode b_M_look 86 = .ok (.goto (-47), 3) := by decide +kernel
theorem d_M_look_89 : decode b_M_look 89 = .ok (.iload_n 2, 1) := by decide +kernel
theorem d_M_look_90 : decode b_M_look 90 = .ok (.tableswitch 97 0 5 #[38, 45, 52, 72, 92, 94], 38) := by decide +kernel
theorem d_M_look_128 : decode b_M_look 128 = .ok (.aload_n 0, 1) := by decide +kernel
theorem d_M_look_129 : decode b_M_look 129 = .ok (.getfield 38, 3) := by decide +kernel
theorem d_M_look_132 : decode b_M_look 132 = .ok (.iload_n 1, 1) := by decide +kernel
theorem d_M_look_133 : decode b_M_look 133 = .ok (.iaload, 1) := by decide +kernel
theorem d_M_look_134 : decode b_M_look 134 = .ok (.ireturn, 1) := by decide +kernel
theorem d_M_look_135 : decode b_M_look 135 = .ok (.aload_n 0, 1) := by decide +kernel
theorem d_M_look_136 : decode b_M_look 136 = .ok (.getfield 41, 3) := by decide +kernel
theorem d_M_look_139 : decode b_M_look 139 = .ok (.iload_n 1, 1) := by decide +kernel
theorem d_M_look_140 : decode b_M_look 140 = .ok (.iaload, 1) := by decide +kernel
theorem d_M_look_141 : decode b_M_look 141 = .ok (.ireturn, 1) := by decide +kernel
theorem d_M_look_142 : decode b_M_look 142 = .ok (.aload_n 0, 1) := by decide +kernel
theorem d_M_look_143 : decode b_M_look 143 = .ok (.getfield 41, 3) := by decide +kernel
theorem d_M_look_146 : decode b_M_look 146 = .ok (.iload_n 1, 1) := by decide +kernel
theorem d_M_look_147 : decode b_M_look 147 = .ok (.iaload, 1) := by decide +kernel
theorem d_M_look_148 : decode b_M_look 148 = .ok (.ifCond .ge 7, 3) := by decide +kernel
theorem d_M_look_151 : decode b_M_look 151 = .ok (.iconst (-1), 1) := by decide +kernel
theorem d_M_look_152 : decode b_M_look 152 = .ok (.goto 9, 3) := by decide +kernel
theorem d_M_look_155 : decode b_M_look 155 = .ok (.aload_n 0, 1) := by decide +kernel
theorem d_M_look_156 : decode b_M_look 156 = .ok (.getfield 44, 3) := by decide +kernel
theorem d_M_look_159 : decode b_M_look 159 = .ok (.iload_n 1, 1) := by decide +kernel
theorem d_M_look_160 : decode b_M_look 160 = .ok (.iaload, 1) := by decide +kernel
theorem d_M_look_161 : decode b_M_look 161 = .ok (.ireturn, 1) := by decide +kernel
theorem d_M_look_162 : decode b_M_look 162 = .ok (.aload_n 0, 1) := by decide +kernel
theorem d_M_look_163 : decode b_M_look 163 = .ok (.getfield 41, 3) := by decide +kernel
theorem d_M_look_166 : decode b_M_look 166 = .ok (.iload_n 1, 1) := by decide +kernel
theorem d_M_look_167 : decode b_M_look 167 = .ok (.iaload, 1) := by decide +kernel
theorem d_M_look_168 : decode b_M_look 168 = .ok (.ifCond .ge 7, 3) := by decide +kernel
theorem d_M_look_171 : decode b_M_look 171 = .ok (.iconst (-1), 1) := by decide +kernel
theorem d_M_look_172 : decode b_M_look 172 = .ok (.goto 9, 3) := by decide +kernel
theorem d_M_look_175 : decode b_M_look 175 = .ok (.aload_n 0, 1) := by decide +kernel
theorem d_M_look_176 : decode b_M_look 176 = .ok (.getfield 47, 3) := by decide +kernel
theorem d_M_look_179 : decode b_M_look 179 = .ok (.iload_n 1, 1) := by decide +kernel
theorem d_M_look_180 : decode b_M_look 180 = .ok (.iaload, 1) := by decide +kernel
theorem d_M_look_181 : decode b_M_look 181 = .ok (.ireturn, 1) := by decide +kernel
theorem d_M_look_182 : decode b_M_look 182 = .ok (.iload_n 3, 1) := by decide +kernel
theorem d_M_look_183 : decode b_M_look 183 = .ok (.ireturn, 1) := by decide +kernel
theorem d_M_look_184 : decode b_M_look 184 = .ok (.iload 4, 2) := by decide +kernel
theorem d_M_look_186 : decode b_M_look 186 = .ok (.ireturn, 1) := by decide +kernel
theorem d_M_look_187 : decode b_M_look 187 = .ok (.aload_n 0, 1) := by decide +kernel
theorem d_M_look_188 : decode b_M_look 188 = .ok (.getfield 50, 3) := by decide +kernel
theorem d_M_look_191 : decode b_M_look 191 = .ok (.iload_n 1, 1) := by decide +kernel
theorem d_M_look_192 : decode b_M_look 192 = .ok (.iaload, 1) := by decide +kernel
theorem d_M_look_193 : decode b_M_look 193 = .ok (.ireturn, 1) := by decide +kernel
theorem d_M_count_0 : decode b_M_count 0 = .ok (.aload_n 0, 1) := by decide +kernel
theorem d_M_count_1 : decode b_M_count 1 = .ok (.iconst 0, 1) := by decide +kernel
theorem d_M_count_2 : decode b_M_count 2 = .ok (.putfield 63, 3) := by decide +kernel
theorem d_M_count_5 : decode b_M_count 5 = .ok (.iconst 0, 1) := by decide +kernel
theorem d_M_count_6 : decode b_M_count 6 = .ok (.istore_n 2, 1) := by decide +kernel
theorem d_M_count_7 : decode b_M_count 7 = .ok (.iconst 0, 1) := by decide +kernel
theorem d_M_count_8 : decode b_M_count 8 = .ok (.istore_n 3, 1) := by decide +kernel
theorem d_M_count_9 : decode b_M_count 9 = .ok (.iload_n 3, 1) := by decide +kernel
theorem d_M_count_10 : decode b_M_count 10 = .ok (.aload_n 0, 1) := by decide +kernel
theorem d_M_count_11 : decode b_M_count 11 = .ok (.getfield 70, 3) := by decide +kernel
theorem d_M_count_14 : decode b_M_count 14 = .ok (.if_icmp .ge 26, 3) := by decide +kernel
theorem d_M_count_17 : decode b_M_count 17 = .ok (.iload_n 2, 1) := by decide +kernel
theorem d_M_count_18 : decode b_M_count 18 = .ok (.aload_n 0, 1) := by decide +kernel
theorem d_M_count_19 : decode b_M_count 19 = .ok (.getfield 41, 3) := by decide +kernel
theorem d_M_count_22 : decode b_M_count 22 = .ok (.iload_n 3, 1) := by decide +kernel
theorem d_M_count_23 : decode b_M_count 23 = .ok (.iaload, 1) := by decide +kernel
theorem d_M_count_24 : decode b_M_count 24 = .ok (.ifCond .lt 7, 3) := by decide +kernel
theorem d_M_count_27 : decode b_M_count 27 = .ok (.iconst 1, 1) := by decide +kernel
theorem d_M_count_28 : decode b_M_count 28 = .ok (.goto 4, 3) := by decide +kernel
theorem d_M_count_31 : decode b_M_count 31 = .ok (.iconst 0, 1) := by decide +kernel
theorem d_M_count_32 : decode b_M_count 32 = .ok (.iadd, 1) := by decide +kernel
theorem d_M_count_33 : decode b_M_count 33 = .ok (.istore_n 2, 1) := by decide +kernel
theorem d_M_count_34 : decode b_M_count 34 = .ok (.iinc 3 1, 3) := by decide +kernel
theorem d_M_count_37 : decode b_M_count 37 = .ok (.goto (-28), 3) := by decide +kernel
theorem d_M_count_40 : decode b_M_count 40 = .ok (.iload_n 1, 1) := by decide +kernel
theorem d_M_count_41 : decode b_M_count 41 = .ok (.tableswitch 65 0 4 #[35, 40, 45, 50, 52], 35) := by decide +kernel
theorem d_M_count_76 : decode b_M_count 76 = .ok (.aload_n 0, 1) := by decide +kernel
theorem d_M_count_77 : decode b_M_count 77 = .ok (.getfield 77, 3) := by decide +kernel
theorem d_M_count_80 : decode b_M_count 80 = .ok (.ireturn, 1) := by decide +kernel
theorem d_M_count_81 : decode b_M_count 81 = .ok (.aload_n 0, 1) := by decide +kernel
theorem d_M_count_82 : decode b_M_count 82 = .ok (.getfield 67, 3) := by decide +kernel
theorem d_M_count_85 : decode b_M_count 85 = .ok (.ireturn, 1) := by decide +kernel
theorem d_M_count_86 : decode b_M_count 86 = .ok (.aload_n 0, 1) := by decide +kernel
theorem d_M_count_87 : decode b_M_count 87 = .ok (.getfield 70, 3) := by decide +kernel
theorem d_M_count_90 : decode b_M_count 90 = .ok (.ireturn, 1) := by decide +kernel
theorem d_M_count_91 : decode b_M_count 91 = .ok (.iload_n 2, 1) := by decide +kernel
theorem d_M_count_92 : decode b_M_count 92 = .ok (.ireturn, 1) := by decide +kernel
theorem d_M_count_93 : decode b_M_count 93 = .ok (.aload_n 0, 1) := by decide +kernel
theorem d_M_count_94 : decode b_M_count 94 = .ok (.getfield 91, 3) := by decide +kernel
theorem d_M_count_97 : decode b_M_count 97 = .ok (.ifCond .eq 7, 3) := by decide +kernel
theorem d_M_count_100 : decode b_M_count 100 = .ok (.iconst 1, 1) := by decide +kernel
theorem d_M_count_101 : decode b_M_count 101 = .ok (.goto 4, 3) := by decide +kernel
theorem d_M_count_104 : decode b_M_count 104 = .ok (.iconst 0, 1) := by decide +kernel
theorem d_M_count_105 : decode b_M_count 105 = .ok (.ireturn, 1) := by decide +kernel
theorem d_M_count_106 : decode b_M_count 106 = .ok (.iconst (-1), 1) := by decide +kernel
theorem d_M_count_107 : decode b_M_count 107 = .ok (.ireturn, 1) := by decide +kernel
theorem d_L_law_0 : decode code 0 = .ok (.new 8, 3) := by decide +kernel
theorem d_L_law_3 : decode code 3 = .ok (.dup, 1) := by decide +kernel
theorem d_L_law_4 : decode code 4 = .ok (.invokespecial 54, 3) := by decide +kernel
theorem d_L_law_7 : decode code 7 = .ok (.astore_n 1, 1) := by decide +kernel
theorem d_L_law_8 : decode code 8 = .ok (.new 55, 3) := by decide +kernel
theorem d_L_law_11 : decode code 11 = .ok (.dup, 1) := by decide +kernel
theorem d_L_law_12 : decode code 12 = .ok (.invokespecial 57, 3) := by decide +kernel
theorem d_L_law_15 : decode code 15 = .ok (.astore_n 2, 1) := by decide +kernel
theorem d_L_law_16 : decode code 16 = .ok (.iconst 1, 1) := by decide +kernel
theorem d_L_law_17 : decode code 17 = .ok (.newarray .long, 2) := by decide +kernel
theorem d_L_law_19 : decode code 19 = .ok (.astore_n 3, 1) := by decide +kernel
theorem d_L_law_20 : decode code 20 = .ok (.iconst 0, 1) := by decide +kernel
theorem d_L_law_21 : decode code 21 = .ok (.istore 4, 2) := by decide +kernel
theorem d_L_law_23 : decode code 23 = .ok (.iload 4, 2) := by decide +kernel
theorem d_L_law_25 : decode code 25 = .ok (.aload_n 0, 1) := by decide +kernel
theorem d_L_law_26 : decode code 26 = .ok (.arraylength, 1) := by decide +kernel
theorem d_L_law_27 : decode code 27 = .ok (.bipush 7, 2) := by decide +kernel
theorem d_L_law_29 : decode code 29 = .ok (.isub, 1) := by decide +kernel
theorem d_L_law_30 : decode code 30 = .ok (.if_icmp .gt 1159, 3) := by decide +kernel
theorem d_L_law_33 : decode code 33 = .ok (.aload_n 0, 1) := by decide +kernel
theorem d_L_law_34 : decode code 34 = .ok (.iload 4, 2) := by decide +kernel
theorem d_L_law_36 : decode code 36 = .ok (.iaload, 1) := by decide +kernel
theorem d_L_law_37 : decode code 37 = .ok (.bipush 31, 2) := by decide +kernel
theorem d_L_law_39 : decode code 39 = .ok (.iand, 1) := by decide +kernel
theorem d_L_law_40 : decode code 40 = .ok (.tableswitch 1143 0 16 #[84, 109, 122, 190, 340, 389, 457, 537, 605, 692, 741, 809, 901, 957, 994, 1050, 1118], 84) := by decide +kernel
theorem d_L_law_124 : decode code 124 = .ok (.aload_n 1, 1) := by decide +kernel
theorem d_L_law_125 : decode code 125 = .ok (.aload_n 0, 1) := by decide +kernel
theorem d_L_law_126 : decode code 126 = .ok (.iload 4, 2) := by decide +kernel
theorem d_L_law_128 : decode code 128 = .ok (.iconst 1, 1) := by decide +kernel
theorem d_L_law_129 : decode code 129 = .ok (.iadd, 1) := by decide +kernel
theorem d_L_law_130 : decode code 130 = .ok (.iaload, 1) := by decide +kernel
theorem d_L_law_131 : decode code 131 = .ok (.invokevirtual 58, 3) := by decide +kernel
theorem d_L_law_134 : decode code 134 = .ok (.aload_n 2, 1) := by decide +kernel
theorem d_L_law_135 : decode code 135 = .ok (.aload_n 0, 1) := by decide +kernel
theorem d_L_law_136 : decode code 136 = .ok (.iload 4, 2) := by decide +kernel
theorem d_L_law_138 : decode code 138 = .ok (.iconst 1, 1) := by decide +kernel
theorem d_L_law_139 : decode code 139 = .ok (.iadd, 1) := by decide +kernel
theorem d_L_law_140 : decode code 140 = .ok (.iaload, 1) := by decide +kernel
theorem d_L_law_141 : decode code 141 = .ok (.invokevirtual 62, 3) := by decide +kernel
theorem d_L_law_144 : decode code 144 = .ok (.if_icmp .eq 1039, 3) := by decide +kernel
theorem d_L_law_147 : decode code 147 = .ok (.iconst 0, 1) := by decide +kernel
theorem d_L_law_148 : decode code 148 = .ok (.ireturn, 1) := by decide +kernel
theorem d_L_law_149 : decode code 149 = .ok (.aload_n 1, 1) := by decide +kernel
theorem d_L_law_150 : decode code 150 = .ok (.invokevirtual 63, 3) := by decide +kernel
theorem d_L_law_153 : decode code 153 = .ok (.aload_n 2, 1) := by decide +kernel
theorem d_L_law_154 : decode code 154 = .ok (.invokevirtual 67, 3) := by decide +kernel
theorem d_L_law_157 : decode code 157 = .ok (.if_icmp .eq 1026, 3) := by decide +kernel
theorem d_L_law_160 : decode code 160 = .ok (.iconst 0, 1) := by decide +kernel
theorem d_L_law_161 : decode code 161 = .ok (.ireturn, 1) := by decide +kernel
theorem d_L_law_162 : decode code 162 = .ok (.aload_n 1, 1) := by decide +kernel
theorem d_L_law_163 : decode code 163 = .ok (.aload_n 0, 1) := by decide +kernel
theorem d_L_law_164 : decode code 164 = .ok (.iload 4, 2) := by decide +kernel
theorem d_L_law_166 : decode code 166 = .ok (.iconst 1, 1) := by decide +kernel
theorem d_L_law_167 : decode code 167 = .ok (.iadd, 1) := by decide +kernel
theorem d_L_law_168 : decode code 168 = .ok (.iaload, 1) := by decide +kernel
theorem d_L_law_169 : decode code 169 = .ok (.aload_n 0, 1) := by decide +kernel
theorem d_L_law_170 : decode code 170 = .ok (.iload 4, 2) := by decide +kernel
theorem d_L_law_172 : decode code 172 = .ok (.iconst 2, 1) := by decide +kernel
theorem d_L_law_173 : decode code 173 = .ok (.iadd, 1) := by decide +kernel
theorem d_L_law_174 : decode code 174 = .ok (.iaload, 1) := by decide +kernel
theorem d_L_law_175 : decode code 175 = .ok (.aload_n 3, 1) := by decide +kernel
theorem d_L_law_176 : decode code 176 = .ok (.invokestatic 68, 3) := by decide +kernel
theorem d_L_law_179 : decode code 179 = .ok (.istore 5, 2) := by decide +kernel
theorem d_L_law_181 : decode code 181 = .ok (.aload_n 2, 1) := by decide +kernel
theorem d_L_law_182 : decode code 182 = .ok (.aload_n 0, 1) := by decide +kernel
theorem d_L_law_183 : decode code 183 = .ok (.iload 4, 2) := by decide +kernel
theorem d_L_law_185 : decode code 185 = .ok (.iconst 1, 1) := by decide +kernel
theorem d_L_law_186 : decode code 186 = .ok (.iadd, 1) := by decide +kernel
theorem d_L_law_187 : decode code 187 = .ok (.iaload, 1) := by decide +kernel
theorem d_L_law_188 : decode code 188 = .ok (.aload_n 0, 1) := by decide +kernel
theorem d_L_law_189 : decode code 189 = .ok (.iload 4, 2) := by decide +kernel
theorem d_L_law_191 : decode code 191 = .ok (.iconst 2, 1) := by decide +kernel
theorem d_L_law_192 : decode code 192 = .ok (.iadd, 1) := by decide +kernel
theorem d_L_law_193 : decode code 193 = .ok (.iaload, 1) := by decide +kernel
theorem d_L_law_194 : decode code 194 = .ok (.invokevirtual 73, 3) := by decide +kernel
theorem d_L_law_197 : decode code 197 = .ok (.istore 6, 2) := by decide +kernel
theorem d_L_law_199 : decode code 199 = .ok (.aload_n 2, 1) := by decide +kernel
theorem d_L_law_200 : decode code 200 = .ok (.invokevirtual 74, 3) := by decide +kernel
theorem d_L_law_203 : decode code 203 = .ok (.iload 5, 2) := by decide +kernel
theorem d_L_law_205 : decode code 205 = .ok (.if_icmp .eq 5, 3) := by decide +kernel
theorem d_L_law_208 : decode code 208 = .ok (.iconst 0, 1) := by decide +kernel
theorem d_L_law_209 : decode code 209 = .ok (.ireturn, 1) := by decide +kernel
theorem d_L_law_210 : decode code 210 = .ok (.iload 5, 2) := by decide +kernel
theorem d_L_law_212 : decode code 212 = .ok (.ifCond .ne 15, 3) := by decide +kernel
theorem d_L_law_215 : decode code 215 = .ok (.aload_n 3, 1) := by decide +kernel
theorem d_L_law_216 : decode code 216 = .ok (.iconst 0, 1) := by decide +kernel
theorem d_L_law_217 : decode code 217 = .ok (.laload, 1) := by decide +kernel
theorem d_L_law_218 : decode code 218 = .ok (.iload 6, 2) := by decide +kernel
theorem d_L_law_220 : decode code 220 = .ok (.i2l, 1) := by decide +kernel
theorem d_L_law_221 : decode code 221 = .ok (.lcmp, 1) := by decide +kernel
theorem d_L_law_222 : decode code 222 = .ok (.ifCond .eq 5, 3) := by decide +kernel
theorem d_L_law_225 : decode code 225 = .ok (.iconst 0, 1) := by decide +kernel
theorem d_L_law_226 : decode code 226 = .ok (.ireturn, 1) := by decide +kernel
theorem d_L_law_227 : decode code 227 = .ok (.goto 956, 3) := by decide +kernel
theorem d_L_law_230 : decode code 230 = .ok (.aload_n 1, 1) := by decide +kernel
theorem d_L_law_231 : decode code 231 = .ok (.aload_n 0, 1) := by decide +kernel
theorem d_L_law_232 : decode code 232 = .ok (.iload 4, 2) := by decide +kernel
theorem d_L_law_234 : decode code 234 = .ok (.iconst 1, 1) := by decide +kernel
theorem d_L_law_235 : decode code 235 = .ok (.iadd, 1) := by decide +kernel
theorem d_L_law_236 : decode code 236 = .ok (.iaload, 1) := by decide +kernel
theorem d_L_law_237 : decode code 237 = .ok (.aload_n 0, 1) := by decide +kernel
theorem d_L_law_238 : decode code 238 = .ok (.iload 4, 2) := by decide +kernel
theorem d_L_law_240 : decode code 240 = .ok (.iconst 2, 1) := by decide +kernel
theorem d_L_law_241 : decode code 241 = .ok (.iadd, 1) := by decide +kernel
theorem d_L_law_242 : decode code 242 = .ok (.iaload, 1) := by decide +kernel
theorem d_L_law_243 : decode code 243 = .ok (.aload_n 0, 1) := by decide +kernel
theorem d_L_law_244 : decode code 244 = .ok (.iload 4, 2) := by decide +kernel
theorem d_L_law_246 : decode code 246 = .ok (.iconst 3, 1) := by decide +kernel
theorem d_L_law_247 : decode code 247 = .ok (.iadd, 1) := by decide +kernel
theorem d_L_law_248 : decode code 248 = .ok (.iaload, 1) := by decide +kernel
theorem d_L_law_249 : decode code 249 = .ok (.aload_n 0, 1) := by decide +kernel
theorem d_L_law_250 : decode code 250 = .ok (.iload 4, 2) := by decide +kernel
theorem d_L_law_252 : decode code 252 = .ok (.iconst 4, 1) := by decide +kernel
theorem d_L_law_253 : decode code 253 = .ok (.iadd, 1) := by decide +kernel
theorem d_L_law_254 : decode code 254 = .ok (.iaload, 1) := by decide +kernel
theorem d_L_law_255 : decode code 255 = .ok (.aload_n 0, 1) := by decide +kernel
theorem d_L_law_256 : decode code 256 = .ok (.iload 4, 2) := by decide +kernel
theorem d_L_law_258 : decode code 258 = .ok (.iconst 5, 1) := by decide +kernel
theorem d_L_law_259 : decode code 259 = .ok (.iadd, 1) := by decide +kernel
theorem d_L_law_260 : decode code 260 = .ok (.iaload, 1) := by decide +kernel
theorem d_L_law_261 : decode code 261 = .ok (.ifCond .eq 7, 3) := by decide +kernel
theorem d_L_law_264 : decode code 264 = .ok (.iconst 1, 1) := by decide +kernel
theorem d_L_law_265 : decode code 265 = .ok (.goto 4, 3) := by decide +kernel
theorem d_L_law_268 : decode code 268 = .ok (.iconst 0, 1) := by decide +kernel
theorem d_L_law_269 : decode code 269 = .ok (.aload_n 0, 1) := by decide +kernel
theorem d_L_law_270 : decode code 270 = .ok (.iload 4, 2) := by decide +kernel
theorem d_L_law_272 : decode code 272 = .ok (.bipush 6, 2) := by decide +kernel
theorem d_L_law_274 : decode code 274 = .ok (.iadd, 1) := by decide +kernel
theorem d_L_law_275 : decode code 275 = .ok (.iaload, 1) := by decide +kernel
theorem d_L_law_276 : decode code 276 = .ok (.ifCond .eq 7, 3) := by decide +kernel
theorem d_L_law_279 : decode code 279 = .ok (.iconst 1, 1) := by decide +kernel
theorem d_L_law_280 : decode code 280 = .ok (.goto 4, 3) := by decide +kernel
theorem d_L_law_283 : decode code 283 = .ok (.iconst 0, 1) := by decide +kernel
theorem d_L_law_284 : decode code 284 = .ok (.aload_n 3, 1) := by decide +kernel
theorem d_L_law_285 : decode code 285 = .ok (.invokestatic 77, 3) := by decide +kernel
theorem d_L_law_288 : decode code 288 = .ok (.istore 5, 2) := by decide +kernel
theorem d_L_law_290 : decode code 290 = .ok (.aload_n 2, 1) := by decide +kernel
theorem d_L_law_291 : decode code 291 = .ok (.aload_n 0, 1) := by decide +kernel
theorem d_L_law_292 : decode code 292 = .ok (.iload 4, 2) := by decide +kernel
theorem d_L_law_294 : decode code 294 = .ok (.iconst 1, 1) := by decide +kernel
theorem d_L_law_295 : decode code 295 = .ok (.iadd, 1) := by decide +kernel
theorem d_L_law_296 : decode code 296 = .ok (.iaload, 1) := by decide +kernel
theorem d_L_law_297 : decode code 297 = .ok (.aload_n 0, 1) := by decide +kernel
theorem d_L_law_298 : decode code 298 = .ok (.iload 4, 2) := by decide +kernel
theorem d_L_law_300 : decode code 300 = .ok (.iconst 2, 1) := by decide +kernel
theorem d_L_law_301 : decode code 301 = .ok (.iadd, 1) := by decide +kernel
theorem d_L_law_302 : decode code 302 = .ok (.iaload, 1) := by decide +kernel
theorem d_L_law_303 : decode code 303 = .ok (.aload_n 0, 1) := by decide +kernel
theorem d_L_law_304 : decode code 304 = .ok (.iload 4, 2) := by decide +kernel
theorem d_L_law_306 : decode code 306 = .ok (.iconst 3, 1) := by decide +kernel
theorem d_L_law_307 : decode code 307 = .ok (.iadd, 1) := by decide +kernel
theorem d_L_law_308 : decode code 308 = .ok (.iaload, 1) := by decide +kernel
theorem d_L_law_309 : decode code 309 = .ok (.aload_n 0, 1) := by decide +kernel
theorem d_L_law_310 : decode code 310 = .ok (.iload 4, 2) := by decide +kernel
theorem d_L_law_312 : decode code 312 = .ok (.iconst 4, 1) := by decide +kernel
theorem d_L_law_313 : decode code 313 = .ok (.iadd, 1) := by decide +kernel
theorem d_L_law_314 : decode code 314 = .ok (.iaload, 1) := by decide +kernel
theorem d_L_law_315 : decode code 315 = .ok (.aload_n 0, 1) := by decide +kernel
theorem d_L_law_316 : decode code 316 = .ok (.iload 4, 2) := by decide +kernel
theorem d_L_law_318 : decode code 318 = .ok (.iconst 5, 1) := by decide +kernel
theorem d_L_law_319 : decode code 319 = .ok (.iadd, 1) := by decide +kernel
theorem d_L_law_320 : decode code 320 = .ok (.iaload, 1) := by decide +kernel
theorem d_L_law_321 : decode code 321 = .ok (.ifCond .eq 7, 3) := by decide +kernel
theorem d_L_law_324 : decode code 324 = .ok (.iconst 1, 1) := by decide +kernel
theorem d_L_law_325 : decode code 325 = .ok (.goto 4, 3) := by decide +kernel
theorem d_L_law_328 : decode code 328 = .ok (.iconst 0, 1) := by decide +kernel
theorem d_L_law_329 : decode code 329 = .ok (.aload_n 0, 1) := by decide +kernel
theorem d_L_law_330 : decode code 330 = .ok (.iload 4, 2) := by decide +kernel
theorem d_L_law_332 : decode code 332 = .ok (.bipush 6, 2) := by decide +kernel
theorem d_L_law_334 : decode code 334 = .ok (.iadd, 1) := by decide +kernel
theorem d_L_law_335 : decode code 335 = .ok (.iaload, 1) := by decide +kernel
theorem d_L_law_336 : decode code 336 = .ok (.ifCond .eq 7, 3) := by decide +kernel
theorem d_L_law_339 : decode code 339 = .ok (.iconst 1, 1) := by decide +kernel
theorem d_L_law_340 : decode code 340 = .ok (.goto 4, 3) := by decide +kernel
theorem d_L_law_343 : decode code 343 = .ok (.iconst 0, 1) := by decide +kernel
theorem d_L_law_344 : decode code 344 = .ok (.invokevirtual 80, 3) := by decide +kernel
theorem d_L_law_347 : decode code 347 = .ok (.istore 6, 2) := by decide +kernel
theorem d_L_law_349 : decode code 349 = .ok (.aload_n 2, 1) := by decide +kernel
theorem d_L_law_350 : decode code 350 = .ok (.invokevirtual 74, 3) := by decide +kernel
theorem d_L_law_353 : decode code 353 = .ok (.iload 5, 2) := by decide +kernel
theorem d_L_law_355 : decode code 355 = .ok (.if_icmp .eq 5, 3) := by decide +kernel
theorem d_L_law_358 : decode code 358 = .ok (.iconst 0, 1) := by decide +kernel
theorem d_L_law_359 : decode code 359 = .ok (.ireturn, 1) := by decide +kernel
theorem d_L_law_360 : decode code 360 = .ok (.iload 5, 2) := by decide +kernel
theorem d_L_law_362 : decode code 362 = .ok (.ifCond .ne 15, 3) := by decide +kernel
theorem d_L_law_365 : decode code 365 = .ok (.aload_n 3, 1) := by decide +kernel
theorem d_L_law_366 : decode code 366 = .ok (.iconst 0, 1) := by decide +kernel
theorem d_L_law_367 : decode code 367 = .ok (.laload, 1) := by decide +kernel
theorem d_L_law_368 : decode code 368 = .ok (.iload 6, 2) := by decide +kernel
theorem d_L_law_370 : decode code 370 = .ok (.i2l, 1) := by decide +kernel
theorem d_L_law_371 : decode code 371 = .ok (.lcmp, 1) := by decide +kernel
theorem d_L_law_372 : decode code 372 = .ok (.ifCond .eq 5, 3) := by decide +kernel
theorem d_L_law_375 : decode code 375 = .ok (.iconst 0, 1) := by decide +kernel
theorem d_L_law_376 : decode code 376 = .ok (.ireturn, 1) := by decide +kernel
theorem d_L_law_377 : decode code 377 = .ok (.goto 806, 3) := by decide +kernel
theorem d_L_law_380 : decode code 380 = .ok (.aload_n 1, 1) := by decide +kernel
theorem d_L_law_381 : decode code 381 = .ok (.aload_n 0, 1) := by decide +kernel
theorem d_L_law_382 : decode code 382 = .ok (.iload 4, 2) := by decide +kernel
theorem d_L_law_384 : decode code 384 = .ok (.iconst 1, 1) := by decide +kernel
theorem d_L_law_385 : decode code 385 = .ok (.iadd, 1) := by decide +kernel
theorem d_L_law_386 : decode code 386 = .ok (.iaload, 1) := by decide +kernel
theorem d_L_law_387 : decode code 387 = .ok (.aload_n 0, 1) := by decide +kernel
theorem d_L_law_388 : decode code 388 = .ok (.iload 4, 2) := by decide +kernel
theorem d_L_law_390 : decode code 390 = .ok (.iconst 2, 1) := by decide +kernel
theorem d_L_law_391 : decode code 391 = .ok (.iadd, 1) := by decide +kernel
theorem d_L_law_392 : decode code 392 = .ok (.iaload, 1) := by decide +kernel
theorem d_L_law_393 : decode code 393 = .ok (.aload_n 0, 1) := by decide +kernel
theorem d_L_law_394 : decode code 394 = .ok (.iload 4, 2) := by decide +kernel
theorem d_L_law_396 : decode code 396 = .ok (.iconst 3, 1) := by decide +kernel
theorem d_L_law_397 : decode code 397 = .ok (.iadd, 1) := by decide +kernel
theorem d_L_law_398 : decode code 398 = .ok (.iaload, 1) := by decide +kernel
theorem d_L_law_399 : decode code 399 = .ok (.invokevirtual 81, 3) := by decide +kernel
theorem d_L_law_402 : decode code 402 = .ok (.aload_n 2, 1) := by decide +kernel
theorem d_L_law_403 : decode code 403 = .ok (.aload_n 0, 1) := by decide +kernel
theorem d_L_law_404 : decode code 404 = .ok (.iload 4, 2) := by decide +kernel
theorem d_L_law_406 : decode code 406 = .ok (.iconst 1, 1) := by decide +kernel
theorem d_L_law_407 : decode code 407 = .ok (.iadd, 1) := by decide +kernel
theorem d_L_law_408 : decode code 408 = .ok (.iaload, 1) := by decide +kernel
theorem d_L_law_409 : decode code 409 = .ok (.aload_n 0, 1) := by decide +kernel
theorem d_L_law_410 : decode code 410 = .ok (.iload 4, 2) := by decide +kernel
