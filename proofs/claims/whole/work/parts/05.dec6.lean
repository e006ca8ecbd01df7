theorem d_M_strictest_33 : decode b_M_strictest 33 = .ok (.getfield 38, 3) := by decide +kernel
theorem d_M_strictest_36 : decode b_M_strictest 36 = .ok (.iload_n 2, 1) := by decide +kernel
theorem d_M_strictest_37 : decode b_M_strictest 37 = .ok (.iaload, 1) := by decide +kernel
theorem d_M_strictest_38 : decode b_M_strictest 38 = .ok (.iadd, 1) := by decide +kernel
theorem d_M_strictest_39 : decode b_M_strictest 39 = .ok (.if_icmp .ge 22, 3) := by decide +kernel
theorem d_M_strictest_42 : decode b_M_strictest 42 = .ok (.iload_n 3, 1) := by decide +kernel
theorem d_M_strictest_43 : decode b_M_strictest 43 = .ok (.aload_n 0, 1) := by decide +kernel
theorem d_M_strictest_44 : decode b_M_strictest 44 = .ok (.iload 4, 2) := by decide +kernel
theorem d_M_strictest_46 : decode b_M_strictest 46 = .ok (.iload 5, 2) := by decide +kernel
theorem d_M_strictest_48 : decode b_M_strictest 48 = .ok (.invokevirtual 123, 3) := by decide +kernel
theorem d_M_strictest_51 : decode b_M_strictest 51 = .ok (.invokestatic 117, 3) := by decide +kernel
theorem d_M_strictest_54 : decode b_M_strictest 54 = .ok (.istore_n 3, 1) := by decide +kernel
theorem d_M_strictest_55 : decode b_M_strictest 55 = .ok (.iinc 5 1, 3) := by decide +kernel
theorem d_M_strictest_58 : decode b_M_strictest 58 = .ok (.goto (-31), 3) := by decide +kernel
theorem d_M_strictest_61 : decode b_M_strictest 61 = .ok (.iinc 4 1, 3) := by decide +kernel
theorem d_M_strictest_64 : decode b_M_strictest 64 = .ok (.goto (-57), 3) := by decide +kernel
theorem d_M_strictest_67 : decode b_M_strictest 67 = .ok (.iload_n 3, 1) := by decide +kernel
theorem d_M_strictest_68 : decode b_M_strictest 68 = .ok (.ireturn, 1) := by decide +kernel
theorem d_M_between_0 : decode b_M_between 0 = .ok (.aload_n 0, 1) := by decide +kernel
theorem d_M_between_1 : decode b_M_between 1 = .ok (.getfield 53, 3) := by decide +kernel
theorem d_M_between_4 : decode b_M_between 4 = .ok (.iload_n 1, 1) := by decide +kernel
theorem d_M_between_5 : decode b_M_between 5 = .ok (.iaload, 1) := by decide +kernel
theorem d_M_between_6 : decode b_M_between 6 = .ok (.istore_n 3, 1) := by decide +kernel
theorem d_M_between_7 : decode b_M_between 7 = .ok (.aload_n 0, 1) := by decide +kernel
theorem d_M_between_8 : decode b_M_between 8 = .ok (.getfield 53, 3) := by decide +kernel
theorem d_M_between_11 : decode b_M_between 11 = .ok (.iload_n 2, 1) := by decide +kernel
theorem d_M_between_12 : decode b_M_between 12 = .ok (.iaload, 1) := by decide +kernel
theorem d_M_between_13 : decode b_M_between 13 = .ok (.istore 4, 2) := by decide +kernel
theorem d_M_between_15 : decode b_M_between 15 = .ok (.aload_n 0, 1) := by decide +kernel
theorem d_M_between_16 : decode b_M_between 16 = .ok (.iload_n 3, 1) := by decide +kernel
theorem d_M_between_17 : decode b_M_between 17 = .ok (.iload 4, 2) := by decide +kernel
theorem d_M_between_19 : decode b_M_between 19 = .ok (.aload_n 0, 1) := by decide +kernel
theorem d_M_between_20 : decode b_M_between 20 = .ok (.getfield 16, 3) := by decide +kernel
theorem d_M_between_23 : decode b_M_between 23 = .ok (.iload_n 3, 1) := by decide +kernel
theorem d_M_between_24 : decode b_M_between 24 = .ok (.iaload, 1) := by decide +kernel
theorem d_M_between_25 : decode b_M_between 25 = .ok (.aload_n 0, 1) := by decide +kernel
theorem d_M_between_26 : decode b_M_between 26 = .ok (.getfield 16, 3) := by decide +kernel
theorem d_M_between_29 : decode b_M_between 29 = .ok (.iload 4, 2) := by decide +kernel
theorem d_M_between_31 : decode b_M_between 31 = .ok (.iaload, 1) := by decide +kernel
theorem d_M_between_32 : decode b_M_between 32 = .ok (.invokevirtual 113, 3) := by decide +kernel
theorem d_M_between_35 : decode b_M_between 35 = .ok (.aload_n 0, 1) := by decide +kernel
theorem d_M_between_36 : decode b_M_between 36 = .ok (.iload_n 3, 1) := by decide +kernel
theorem d_M_between_37 : decode b_M_between 37 = .ok (.iload 4, 2) := by decide +kernel
theorem d_M_between_39 : decode b_M_between 39 = .ok (.aload_n 0, 1) := by decide +kernel
theorem d_M_between_40 : decode b_M_between 40 = .ok (.getfield 16, 3) := by decide +kernel
theorem d_M_between_43 : decode b_M_between 43 = .ok (.iload_n 3, 1) := by decide +kernel
theorem d_M_between_44 : decode b_M_between 44 = .ok (.iaload, 1) := by decide +kernel
theorem d_M_between_45 : decode b_M_between 45 = .ok (.aload_n 0, 1) := by decide +kernel
theorem d_M_between_46 : decode b_M_between 46 = .ok (.getfield 19, 3) := by decide +kernel
theorem d_M_between_49 : decode b_M_between 49 = .ok (.iload 4, 2) := by decide +kernel
theorem d_M_between_51 : decode b_M_between 51 = .ok (.iaload, 1) := by decide +kernel
theorem d_M_between_52 : decode b_M_between 52 = .ok (.invokevirtual 113, 3) := by decide +kernel
theorem d_M_between_55 : decode b_M_between 55 = .ok (.invokestatic 117, 3) := by decide +kernel
theorem d_M_between_58 : decode b_M_between 58 = .ok (.istore 5, 2) := by decide +kernel
theorem d_M_between_60 : decode b_M_between 60 = .ok (.iload 5, 2) := by decide +kernel
theorem d_M_between_62 : decode b_M_between 62 = .ok (.aload_n 0, 1) := by decide +kernel
theorem d_M_between_63 : decode b_M_between 63 = .ok (.iload_n 3, 1) := by decide +kernel
theorem d_M_between_64 : decode b_M_between 64 = .ok (.iload 4, 2) := by decide +kernel
theorem d_M_between_66 : decode b_M_between 66 = .ok (.aload_n 0, 1) := by decide +kernel
theorem d_M_between_67 : decode b_M_between 67 = .ok (.getfield 19, 3) := by decide +kernel
theorem d_M_between_70 : decode b_M_between 70 = .ok (.iload_n 3, 1) := by decide +kernel
theorem d_M_between_71 : decode b_M_between 71 = .ok (.iaload, 1) := by decide +kernel
theorem d_M_between_72 : decode b_M_between 72 = .ok (.aload_n 0, 1) := by decide +kernel
theorem d_M_between_73 : decode b_M_between 73 = .ok (.getfield 16, 3) := by decide +kernel
theorem d_M_between_76 : decode b_M_between 76 = .ok (.iload 4, 2) := by decide +kernel
theorem d_M_between_78 : decode b_M_between 78 = .ok (.iaload, 1) := by decide +kernel
theorem d_M_between_79 : decode b_M_between 79 = .ok (.invokevirtual 113, 3) := by decide +kernel
theorem d_M_between_82 : decode b_M_between 82 = .ok (.aload_n 0, 1) := by decide +kernel
theorem d_M_between_83 : decode b_M_between 83 = .ok (.iload_n 3, 1) := by decide +kernel
theorem d_M_between_84 : decode b_M_between 84 = .ok (.iload 4, 2) := by decide +kernel
theorem d_M_between_86 : decode b_M_between 86 = .ok (.aload_n 0, 1) := by decide +kernel
theorem d_M_between_87 : decode b_M_between 87 = .ok (.getfield 19, 3) := by decide +kernel
theorem d_M_between_90 : decode b_M_between 90 = .ok (.iload_n 3, 1) := by decide +kernel
theorem d_M_between_91 : decode b_M_between 91 = .ok (.iaload, 1) := by decide +kernel
theorem d_M_between_92 : decode b_M_between 92 = .ok (.aload_n 0, 1) := by decide +kernel
theorem d_M_between_93 : decode b_M_between 93 = .ok (.getfield 19, 3) := by decide +kernel
theorem d_M_between_96 : decode b_M_between 96 = .ok (.iload 4, 2) := by decide +kernel
theorem d_M_between_98 : decode b_M_between 98 = .ok (.iaload, 1) := by decide +kernel
theorem d_M_between_99 : decode b_M_between 99 = .ok (.invokevirtual 113, 3) := by decide +kernel
theorem d_M_between_102 : decode b_M_between 102 = .ok (.invokestatic 117, 3) := by decide +kernel
theorem d_M_between_105 : decode b_M_between 105 = .ok (.invokestatic 117, 3) := by decide +kernel
theorem d_M_between_108 : decode b_M_between 108 = .ok (.istore 5, 2) := by decide +kernel
theorem d_M_between_110 : decode b_M_between 110 = .ok (.iload 5, 2) := by decide +kernel
theorem d_M_between_112 : decode b_M_between 112 = .ok (.iconst 1, 1) := by decide +kernel
theorem d_M_between_113 : decode b_M_between 113 = .ok (.if_icmp .le 23, 3) := by decide +kernel
theorem d_M_between_116 : decode b_M_between 116 = .ok (.aload_n 0, 1) := by decide +kernel
theorem d_M_between_117 : decode b_M_between 117 = .ok (.iload_n 1, 1) := by decide +kernel
theorem d_M_between_118 : decode b_M_between 118 = .ok (.invokevirtual 120, 3) := by decide +kernel
theorem d_M_between_121 : decode b_M_between 121 = .ok (.ifCond .ne 11, 3) := by decide +kernel
theorem d_M_between_124 : decode b_M_between 124 = .ok (.aload_n 0, 1) := by decide +kernel
theorem d_M_between_125 : decode b_M_between 125 = .ok (.iload_n 2, 1) := by decide +kernel
theorem d_M_between_126 : decode b_M_between 126 = .ok (.invokevirtual 120, 3) := by decide +kernel
theorem d_M_between_129 : decode b_M_between 129 = .ok (.ifCond .eq 7, 3) := by decide +kernel
theorem d_M_between_132 : decode b_M_between 132 = .ok (.iconst 1, 1) := by decide +kernel
theorem d_M_between_133 : decode b_M_between 133 = .ok (.goto 5, 3) := by decide +kernel
theorem d_M_between_136 : decode b_M_between 136 = .ok (.iload 5, 2) := by decide +kernel
theorem d_M_between_138 : decode b_M_between 138 = .ok (.ireturn, 1) := by decide +kernel
theorem d_M_ruleFor_0 : decode b_M_ruleFor 0 = .ok (.iload_n 3, 1) := by decide +kernel
theorem d_M_ruleFor_1 : decode b_M_ruleFor 1 = .ok (.ifCond .eq 8, 3) := by decide +kernel
theorem d_M_ruleFor_4 : decode b_M_ruleFor 4 = .ok (.iload 4, 2) := by decide +kernel
theorem d_M_ruleFor_6 : decode b_M_ruleFor 6 = .ok (.ifCond .ne 5, 3) := by decide +kernel
theorem d_M_ruleFor_9 : decode b_M_ruleFor 9 = .ok (.iconst 0, 1) := by decide +kernel
theorem d_M_ruleFor_10 : decode b_M_ruleFor 10 = .ok (.ireturn, 1) := by decide +kernel
theorem d_M_ruleFor_11 : decode b_M_ruleFor 11 = .ok (.aload_n 0, 1) := by decide +kernel
theorem d_M_ruleFor_12 : decode b_M_ruleFor 12 = .ok (.getfield 35, 3) := by decide +kernel
theorem d_M_ruleFor_15 : decode b_M_ruleFor 15 = .ok (.bipush 81, 2) := by decide +kernel
theorem d_M_ruleFor_17 : decode b_M_ruleFor 17 = .ok (.iload_n 1, 1) := by decide +kernel
theorem d_M_ruleFor_18 : decode b_M_ruleFor 18 = .ok (.imul, 1) := by decide +kernel
theorem d_M_ruleFor_19 : decode b_M_ruleFor 19 = .ok (.iload_n 3, 1) := by decide +kernel
theorem d_M_ruleFor_20 : decode b_M_ruleFor 20 = .ok (.iload 4, 2) := by decide +kernel
theorem d_M_ruleFor_22 : decode b_M_ruleFor 22 = .ok (.invokestatic 84, 3) := by decide +kernel
theorem d_M_ruleFor_25 : decode b_M_ruleFor 25 = .ok (.iadd, 1) := by decide +kernel
theorem d_M_ruleFor_26 : decode b_M_ruleFor 26 = .ok (.baload, 1) := by decide +kernel
theorem d_M_ruleFor_27 : decode b_M_ruleFor 27 = .ok (.ifCond .ne 22, 3) := by decide +kernel
theorem d_M_ruleFor_30 : decode b_M_ruleFor 30 = .ok (.aload_n 0, 1) := by decide +kernel
theorem d_M_ruleFor_31 : decode b_M_ruleFor 31 = .ok (.getfield 35, 3) := by decide +kernel
theorem d_M_ruleFor_34 : decode b_M_ruleFor 34 = .ok (.bipush 81, 2) := by decide +kernel
theorem d_M_ruleFor_36 : decode b_M_ruleFor 36 = .ok (.iload_n 2, 1) := by decide +kernel
theorem d_M_ruleFor_37 : decode b_M_ruleFor 37 = .ok (.imul, 1) := by decide +kernel
theorem d_M_ruleFor_38 : decode b_M_ruleFor 38 = .ok (.iload_n 3, 1) := by decide +kernel
theorem d_M_ruleFor_39 : decode b_M_ruleFor 39 = .ok (.iload 4, 2) := by decide +kernel
theorem d_M_ruleFor_41 : decode b_M_ruleFor 41 = .ok (.invokestatic 84, 3) := by decide +kernel
theorem d_M_ruleFor_44 : decode b_M_ruleFor 44 = .ok (.iadd, 1) := by decide +kernel
theorem d_M_ruleFor_45 : decode b_M_ruleFor 45 = .ok (.baload, 1) := by decide +kernel
theorem d_M_ruleFor_46 : decode b_M_ruleFor 46 = .ok (.ifCond .eq 7, 3) := by decide +kernel
theorem d_M_ruleFor_49 : decode b_M_ruleFor 49 = .ok (.iconst 1, 1) := by decide +kernel
theorem d_M_ruleFor_50 : decode b_M_ruleFor 50 = .ok (.goto 4, 3) := by decide +kernel
theorem d_M_ruleFor_53 : decode b_M_ruleFor 53 = .ok (.iconst 0, 1) := by decide +kernel
theorem d_M_ruleFor_54 : decode b_M_ruleFor 54 = .ok (.istore 5, 2) := by decide +kernel
theorem d_M_ruleFor_56 : decode b_M_ruleFor 56 = .ok (.iload 5, 2) := by decide +kernel
theorem d_M_ruleFor_58 : decode b_M_ruleFor 58 = .ok (.ifCond .eq 7, 3) := by decide +kernel
theorem d_M_ruleFor_61 : decode b_M_ruleFor 61 = .ok (.iconst 0, 1) := by decide +kernel
theorem d_M_ruleFor_62 : decode b_M_ruleFor 62 = .ok (.goto 14, 3) := by decide +kernel
theorem d_M_ruleFor_65 : decode b_M_ruleFor 65 = .ok (.aload_n 0, 1) := by decide +kernel
theorem d_M_ruleFor_66 : decode b_M_ruleFor 66 = .ok (.getfield 13, 3) := by decide +kernel
theorem d_M_ruleFor_69 : decode b_M_ruleFor 69 = .ok (.iload_n 3, 1) := by decide +kernel
theorem d_M_ruleFor_70 : decode b_M_ruleFor 70 = .ok (.iload 4, 2) := by decide +kernel
theorem d_M_ruleFor_72 : decode b_M_ruleFor 72 = .ok (.invokestatic 84, 3) := by decide +kernel
theorem d_M_ruleFor_75 : decode b_M_ruleFor 75 = .ok (.iaload, 1) := by decide +kernel
theorem d_M_ruleFor_76 : decode b_M_ruleFor 76 = .ok (.ireturn, 1) := by decide +kernel
theorem d_M_greater_0 : decode b_M_greater 0 = .ok (.iload_n 0, 1) := by decide +kernel
theorem d_M_greater_1 : decode b_M_greater 1 = .ok (.iload_n 1, 1) := by decide +kernel
theorem d_M_greater_2 : decode b_M_greater 2 = .ok (.if_icmp .le 7, 3) := by decide +kernel
theorem d_M_greater_5 : decode b_M_greater 5 = .ok (.iload_n 0, 1) := by decide +kernel
theorem d_M_greater_6 : decode b_M_greater 6 = .ok (.goto 4, 3) := by decide +kernel
theorem d_M_greater_9 : decode b_M_greater 9 = .ok (.iload_n 1, 1) := by decide +kernel
theorem d_M_greater_10 : decode b_M_greater 10 = .ok (.ireturn, 1) := by decide +kernel
theorem d_M_isLimited_0 : decode b_M_isLimited 0 = .ok (.aload_n 0, 1) := by decide +kernel
theorem d_M_isLimited_1 : decode b_M_isLimited 1 = .ok (.getfield 56, 3) := by decide +kernel
theorem d_M_isLimited_4 : decode b_M_isLimited 4 = .ok (.iload_n 1, 1) := by decide +kernel
theorem d_M_isLimited_5 : decode b_M_isLimited 5 = .ok (.iaload, 1) := by decide +kernel
theorem d_M_isLimited_6 : decode b_M_isLimited 6 = .ok (.aload_n 0, 1) := by decide +kernel
theorem d_M_isLimited_7 : decode b_M_isLimited 7 = .ok (.getfield 25, 3) := by decide +kernel
theorem d_M_isLimited_10 : decode b_M_isLimited 10 = .ok (.aload_n 0, 1) := by decide +kernel
theorem d_M_isLimited_11 : decode b_M_isLimited 11 = .ok (.getfield 53, 3) := by decide +kernel
theorem d_M_isLimited_14 : decode b_M_isLimited 14 = .ok (.iload_n 1, 1) := by decide +kernel
theorem d_M_isLimited_15 : decode b_M_isLimited 15 = .ok (.iaload, 1) := by decide +kernel
theorem d_M_isLimited_16 : decode b_M_isLimited 16 = .ok (.iaload, 1) := by decide +kernel
theorem d_M_isLimited_17 : decode b_M_isLimited 17 = .ok (.if_icmp .gt 7, 3) := by decide +kernel
theorem d_M_isLimited_20 : decode b_M_isLimited 20 = .ok (.iconst 1, 1) := by decide +kernel
theorem d_M_isLimited_21 : decode b_M_isLimited 21 = .ok (.goto 4, 3) := by decide +kernel
theorem d_M_isLimited_24 : decode b_M_isLimited 24 = .ok (.iconst 0, 1) := by decide +kernel
theorem d_M_isLimited_25 : decode b_M_isLimited 25 = .ok (.ireturn, 1) := by decide +kernel
theorem d_M_ship_0 : decode b_M_ship 0 = .ok (.aload_n 0, 1) := by decide +kernel
theorem d_M_ship_1 : decode b_M_ship 1 = .ok (.aload_n 0, 1) := by decide +kernel
theorem d_M_ship_2 : decode b_M_ship 2 = .ok (.iload_n 1, 1) := by decide +kernel
theorem d_M_ship_3 : decode b_M_ship 3 = .ok (.invokevirtual 106, 3) := by decide +kernel
theorem d_M_ship_6 : decode b_M_ship 6 = .ok (.ifCond .eq 30, 3) := by decide +kernel
theorem d_M_ship_9 : decode b_M_ship 9 = .ok (.aload_n 0, 1) := by decide +kernel
theorem d_M_ship_10 : decode b_M_ship 10 = .ok (.iload_n 2, 1) := by decide +kernel
theorem d_M_ship_11 : decode b_M_ship 11 = .ok (.invokevirtual 106, 3) := by decide +kernel
theorem d_M_ship_14 : decode b_M_ship 14 = .ok (.ifCond .eq 22, 3) := by decide +kernel
theorem d_M_ship_17 : decode b_M_ship 17 = .ok (.iload_n 1, 1) := by decide +kernel
theorem d_M_ship_18 : decode b_M_ship 18 = .ok (.iload_n 2, 1) := by decide +kernel
theorem d_M_ship_19 : decode b_M_ship 19 = .ok (.if_icmp .eq 17, 3) := by decide +kernel
theorem d_M_ship_22 : decode b_M_ship 22 = .ok (.iload_n 3, 1) := by decide +kernel
theorem d_M_ship_23 : decode b_M_ship 23 = .ok (.iconst 0, 1) := by decide +kernel
theorem d_M_ship_24 : decode b_M_ship 24 = .ok (.bipush 100, 2) := by decide +kernel
theorem d_M_ship_26 : decode b_M_ship 26 = .ok (.invokestatic 73, 3) := by decide +kernel
theorem d_M_ship_29 : decode b_M_ship 29 = .ok (.ifCond .eq 7, 3) := by decide +kernel
theorem d_M_ship_32 : decode b_M_ship 32 = .ok (.iconst 0, 1) := by decide +kernel
theorem d_M_ship_33 : decode b_M_ship 33 = .ok (.goto 4, 3) := by decide +kernel
theorem d_M_ship_36 : decode b_M_ship 36 = .ok (.iconst 1, 1) := by decide +kernel
theorem d_M_ship_37 : decode b_M_ship 37 = .ok (.putfield 63, 3) := by decide +kernel
theorem d_M_ship_40 : decode b_M_ship 40 = .ok (.aload_n 0, 1) := by decide +kernel
theorem d_M_ship_41 : decode b_M_ship 41 = .ok (.getfield 63, 3) := by decide +kernel
theorem d_M_ship_44 : decode b_M_ship 44 = .ok (.ifCond .le 5, 3) := by decide +kernel
theorem d_M_ship_47 : decode b_M_ship 47 = .ok (.iconst 0, 1) := by decide +kernel
theorem d_M_ship_48 : decode b_M_ship 48 = .ok (.ireturn, 1) := by decide +kernel
theorem d_M_ship_49 : decode b_M_ship 49 = .ok (.aload_n 0, 1) := by decide +kernel
theorem d_M_ship_50 : decode b_M_ship 50 = .ok (.iload_n 1, 1) := by decide +kernel
theorem d_M_ship_51 : decode b_M_ship 51 = .ok (.iload_n 2, 1) := by decide +kernel
theorem d_M_ship_52 : decode b_M_ship 52 = .ok (.invokevirtual 126, 3) := by decide +kernel
theorem d_M_ship_55 : decode b_M_ship 55 = .ok (.istore 4, 2) := by decide +kernel
theorem d_M_ship_57 : decode b_M_ship 57 = .ok (.iload_n 3, 1) := by decide +kernel
theorem d_M_ship_58 : decode b_M_ship 58 = .ok (.iload 4, 2) := by decide +kernel
theorem d_M_ship_60 : decode b_M_ship 60 = .ok (.ifCond .ne 7, 3) := by decide +kernel
theorem d_M_ship_63 : decode b_M_ship 63 = .ok (.iconst 0, 1) := by decide +kernel
theorem d_M_ship_64 : decode b_M_ship 64 = .ok (.goto 9, 3) := by decide +kernel
theorem d_M_ship_67 : decode b_M_ship 67 = .ok (.iconst 1, 1) := by decide +kernel
theorem d_M_ship_68 : decode b_M_ship 68 = .ok (.iload 4, 2) := by decide +kernel
theorem d_M_ship_70 : decode b_M_ship 70 = .ok (.iconst 1, 1) := by decide +kernel
theorem d_M_ship_71 : decode b_M_ship 71 = .ok (.isub, 1) := by decide +kernel
theorem d_M_ship_72 : decode b_M_ship 72 = .ok (.ishl, 1) := by decide +kernel
theorem d_M_ship_73 : decode b_M_ship 73 = .ok (.if_icmp .lt 7, 3) := by decide +kernel
theorem d_M_ship_76 : decode b_M_ship 76 = .ok (.iconst 1, 1) := by decide +kernel
theorem d_M_ship_77 : decode b_M_ship 77 = .ok (.goto 4, 3) := by decide +kernel
theorem d_M_ship_80 : decode b_M_ship 80 = .ok (.iconst 0, 1) := by decide +kernel
theorem d_M_ship_81 : decode b_M_ship 81 = .ok (.ireturn, 1) := by decide +kernel
theorem d_M_most_0 : decode b_M_most 0 = .ok (.aload_n 0, 1) := by decide +kernel
theorem d_M_most_1 : decode b_M_most 1 = .ok (.iconst 0, 1) := by decide +kernel
theorem d_M_most_2 : decode b_M_most 2 = .ok (.putfield 63, 3) := by decide +kernel
theorem d_M_most_5 : decode b_M_most 5 = .ok (.iload_n 1, 1) := by decide +kernel
theorem d_M_most_6 : decode b_M_most 6 = .ok (.iconst 0, 1) := by decide +kernel
theorem d_M_most_7 : decode b_M_most 7 = .ok (.iconst 3, 1) := by decide +kernel
theorem d_M_most_8 : decode b_M_most 8 = .ok (.invokestatic 73, 3) := by decide +kernel
theorem d_M_most_11 : decode b_M_most 11 = .ok (.ifCond .eq 20, 3) := by decide +kernel
theorem d_M_most_14 : decode b_M_most 14 = .ok (.iload_n 2, 1) := by decide +kernel
theorem d_M_most_15 : decode b_M_most 15 = .ok (.invokestatic 80, 3) := by decide +kernel
theorem d_M_most_18 : decode b_M_most 18 = .ok (.ifCond .eq 13, 3) := by decide +kernel
theorem d_M_most_21 : decode b_M_most 21 = .ok (.iload_n 3, 1) := by decide +kernel
theorem d_M_most_22 : decode b_M_most 22 = .ok (.iconst 0, 1) := by decide +kernel
theorem d_M_most_23 : decode b_M_most 23 = .ok (.ldc 62, 2) := by decide +kernel
theorem d_M_most_25 : decode b_M_most 25 = .ok (.invokestatic 73, 3) := by decide +kernel
theorem d_M_most_28 : decode b_M_most 28 = .ok (.ifCond .ne 5, 3) := by decide +kernel
theorem d_M_most_31 : decode b_M_most 31 = .ok (.iconst 0, 1) := by decide +kernel
theorem d_M_most_32 : decode b_M_most 32 = .ok (.ireturn, 1) := by decide +kernel
theorem d_M_most_33 : decode b_M_most 33 = .ok (.aload_n 0, 1) := by decide +kernel
theorem d_M_most_34 : decode b_M_most 34 = .ok (.getfield 59, 3) := by decide +kernel
theorem d_M_most_37 : decode b_M_most 37 = .ok (.bipush 9, 2) := by decide +kernel
theorem d_M_most_39 : decode b_M_most 39 = .ok (.iload_n 1, 1) := by decide +kernel
theorem d_M_most_40 : decode b_M_most 40 = .ok (.imul, 1) := by decide +kernel
theorem d_M_most_41 : decode b_M_most 41 = .ok (.iload_n 2, 1) := by decide +kernel
theorem d_M_most_42 : decode b_M_most 42 = .ok (.iadd, 1) := by decide +kernel
theorem d_M_most_43 : decode b_M_most 43 = .ok (.iconst 1, 1) := by decide +kernel
theorem d_M_most_44 : decode b_M_most 44 = .ok (.isub, 1) := by decide +kernel
theorem d_M_most_45 : decode b_M_most 45 = .ok (.iload_n 3, 1) := by decide +kernel
theorem d_M_most_46 : decode b_M_most 46 = .ok (.iastore, 1) := by decide +kernel
theorem d_M_most_47 : decode b_M_most 47 = .ok (.iconst 1, 1) := by decide +kernel
theorem d_M_most_48 : decode b_M_most 48 = .ok (.ireturn, 1) := by decide +kernel
theorem d_M_zone_0 : decode b_M_zone 0 = .ok (.aload_n 0, 1) := by decide +kernel
theorem d_M_zone_1 : decode b_M_zone 1 = .ok (.iload_n 1, 1) := by decide +kernel
theorem d_M_zone_2 : decode b_M_zone 2 = .ok (.iconst 0, 1) := by decide +kernel
theorem d_M_zone_3 : decode b_M_zone 3 = .ok (.iconst 3, 1) := by decide +kernel
theorem d_M_zone_4 : decode b_M_zone 4 = .ok (.invokestatic 73, 3) := by decide +kernel
theorem d_M_zone_7 : decode b_M_zone 7 = .ok (.ifCond .eq 14, 3) := by decide +kernel
theorem d_M_zone_10 : decode b_M_zone 10 = .ok (.iload_n 2, 1) := by decide +kernel
theorem d_M_zone_11 : decode b_M_zone 11 = .ok (.invokestatic 80, 3) := by decide +kernel
theorem d_M_zone_14 : decode b_M_zone 14 = .ok (.ifCond .eq 7, 3) := by decide +kernel
theorem d_M_zone_17 : decode b_M_zone 17 = .ok (.iconst 0, 1) := by decide +kernel
theorem d_M_zone_18 : decode b_M_zone 18 = .ok (.goto 4, 3) := by decide +kernel
theorem d_M_zone_21 : decode b_M_zone 21 = .ok (.iconst 1, 1) := by decide +kernel
theorem d_M_zone_22 : decode b_M_zone 22 = .ok (.putfield 63, 3) := by decide +kernel
theorem d_M_zone_25 : decode b_M_zone 25 = .ok (.aload_n 0, 1) := by decide +kernel
theorem d_M_zone_26 : decode b_M_zone 26 = .ok (.getfield 63, 3) := by decide +kernel
theorem d_M_zone_29 : decode b_M_zone 29 = .ok (.ifCond .le 7, 3) := by decide +kernel
theorem d_M_zone_32 : decode b_M_zone 32 = .ok (.iconst 0, 1) := by decide +kernel
theorem d_M_zone_33 : decode b_M_zone 33 = .ok (.goto 9, 3) := by decide +kernel
theorem d_M_zone_36 : decode b_M_zone 36 = .ok (.aload_n 0, 1) := by decide +kernel
theorem d_M_zone_37 : decode b_M_zone 37 = .ok (.iload_n 1, 1) := by decide +kernel
theorem d_M_zone_38 : decode b_M_zone 38 = .ok (.iload_n 2, 1) := by decide +kernel
theorem d_M_zone_39 : decode b_M_zone 39 = .ok (.invokevirtual 132, 3) := by decide +kernel
theorem d_M_zone_42 : decode b_M_zone 42 = .ok (.ireturn, 1) := by decide +kernel
theorem d_M_inZone_0 : decode b_M_inZone 0 = .ok (.iconst 0, 1) := by decide +kernel
theorem d_M_inZone_1 : decode b_M_inZone 1 = .ok (.istore_n 3, 1) := by decide +kernel
theorem d_M_inZone_2 : decode b_M_inZone 2 = .ok (.iconst 0, 1) := by decide +kernel
theorem d_M_inZone_3 : decode b_M_inZone 3 = .ok (.istore 4, 2) := by decide +kernel
theorem d_M_inZone_5 : decode b_M_inZone 5 = .ok (.iload 4, 2) := by decide +kernel
theorem d_M_inZone_7 : decode b_M_inZone 7 = .ok (.aload_n 0, 1) := by decide +kernel
theorem d_M_inZone_8 : decode b_M_inZone 8 = .ok (.getfield 70, 3) := by decide +kernel
theorem d_M_inZone_11 : decode b_M_inZone 11 = .ok (.if_icmp .ge 34, 3) := by decide +kernel
theorem d_M_inZone_14 : decode b_M_inZone 14 = .ok (.iload_n 3, 1) := by decide +kernel
theorem d_M_inZone_15 : decode b_M_inZone 15 = .ok (.aload_n 0, 1) := by decide +kernel
theorem d_M_inZone_16 : decode b_M_inZone 16 = .ok (.getfield 41, 3) := by decide +kernel
theorem d_M_inZone_19 : decode b_M_inZone 19 = .ok (.iload 4, 2) := by decide +kernel
theorem d_M_inZone_21 : decode b_M_inZone 21 = .ok (.iaload, 1) := by decide +kernel
theorem d_M_inZone_22 : decode b_M_inZone 22 = .ok (.iload_n 1, 1) := by decide +kernel
theorem d_M_inZone_23 : decode b_M_inZone 23 = .ok (.if_icmp .ne 13, 3) := by decide +kernel
theorem d_M_inZone_26 : decode b_M_inZone 26 = .ok (.aload_n 0, 1) := by decide +kernel
theorem d_M_inZone_27 : decode b_M_inZone 27 = .ok (.iload 4, 2) := by decide +kernel
theorem d_M_inZone_29 : decode b_M_inZone 29 = .ok (.iload_n 2, 1) := by decide +kernel
theorem d_M_inZone_30 : decode b_M_inZone 30 = .ok (.invokevirtual 129, 3) := by decide +kernel
theorem d_M_inZone_33 : decode b_M_inZone 33 = .ok (.goto 4, 3) := by decide +kernel
theorem d_M_inZone_36 : decode b_M_inZone 36 = .ok (.iconst 0, 1) := by decide +kernel
theorem d_M_inZone_37 : decode b_M_inZone 37 = .ok (.iadd, 1) := by decide +kernel
theorem d_M_inZone_38 : decode b_M_inZone 38 = .ok (.istore_n 3, 1) := by decide +kernel
theorem d_M_inZone_39 : decode b_M_inZone 39 = .ok (.iinc 4 1, 3) := by decide +kernel
theorem d_M_inZone_42 : decode b_M_inZone 42 = .ok (.goto (-37), 3) := by decide +kernel
theorem d_M_inZone_45 : decode b_M_inZone 45 = .ok (.iload_n 3, 1) := by decide +kernel
theorem d_M_inZone_46 : decode b_M_inZone 46 = .ok (.ireturn, 1) := by decide +kernel
theorem d_M_inBox_0 : decode b_M_inBox 0 = .ok (.iconst 0, 1) := by decide +kernel
theorem d_M_inBox_1 : decode b_M_inBox 1 = .ok (.istore_n 3, 1) := by decide +kernel
theorem d_M_inBox_2 : decode b_M_inBox 2 = .ok (.iconst 4, 1) := by decide +kernel
theorem d_M_inBox_3 : decode b_M_inBox 3 = .ok (.iload_n 1, 1) := by decide +kernel
theorem d_M_inBox_4 : decode b_M_inBox 4 = .ok (.imul, 1) := by decide +kernel
theorem d_M_inBox_5 : decode b_M_inBox 5 = .ok (.istore 4, 2) := by decide +kernel
theorem d_M_inBox_7 : decode b_M_inBox 7 = .ok (.iload 4, 2) := by decide +kernel
theorem d_M_inBox_9 : decode b_M_inBox 9 = .ok (.iconst 4, 1) := by decide +kernel
theorem d_M_inBox_10 : decode b_M_inBox 10 = .ok (.iload_n 1, 1) := by decide +kernel
theorem d_M_inBox_11 : decode b_M_inBox 11 = .ok (.imul, 1) := by decide +kernel
theorem d_M_inBox_12 : decode b_M_inBox 12 = .ok (.aload_n 0, 1) := by decide +kernel
theorem d_M_inBox_13 : decode b_M_inBox 13 = .ok (.getfield 38, 3) := by decide +kernel
theorem d_M_inBox_16 : decode b_M_inBox 16 = .ok (.iload_n 1, 1) := by decide +kernel
theorem d_M_inBox_17 : decode b_M_inBox 17 = .ok (.iaload, 1) := by decide +kernel
theorem d_M_inBox_18 : decode b_M_inBox 18 = .ok (.iadd, 1) := by decide +kernel
theorem d_M_inBox_19 : decode b_M_inBox 19 = .ok (.if_icmp .ge 55, 3) := by decide +kernel
theorem d_M_inBox_22 : decode b_M_inBox 22 = .ok (.iload_n 3, 1) := by decide +kernel
theorem d_M_inBox_23 : decode b_M_inBox 23 = .ok (.aload_n 0, 1) := by decide +kernel
theorem d_M_inBox_24 : decode b_M_inBox 24 = .ok (.getfield 16, 3) := by decide +kernel
theorem d_M_inBox_27 : decode b_M_inBox 27 = .ok (.aload_n 0, 1) := by decide +kernel
theorem d_M_inBox_28 : decode b_M_inBox 28 = .ok (.getfield 53, 3) := by decide +kernel
theorem d_M_inBox_31 : decode b_M_inBox 31 = .ok (.iload 4, 2) := by decide +kernel
theorem d_M_inBox_33 : decode b_M_inBox 33 = .ok (.iaload, 1) := by decide +kernel
theorem d_M_inBox_34 : decode b_M_inBox 34 = .ok (.iaload, 1) := by decide +kernel
theorem d_M_inBox_35 : decode b_M_inBox 35 = .ok (.iload_n 2, 1) := by decide +kernel
theorem d_M_inBox_36 : decode b_M_inBox 36 = .ok (.if_icmp .eq 19, 3) := by decide +kernel
theorem d_M_inBox_39 : decode b_M_inBox 39 = .ok (.aload_n 0, 1) := by decide +kernel
theorem d_M_inBox_40 : decode b_M_inBox 40 = .ok (.getfield 19, 3) := by decide +kernel
theorem d_M_inBox_43 : decode b_M_inBox 43 = .ok (.aload_n 0, 1) := by decide +kernel
theorem d_M_inBox_44 : decode b_M_inBox 44 = .ok (.getfield 53, 3) := by decide +kernel
theorem d_M_inBox_47 : decode b_M_inBox 47 = .ok (.iload 4, 2) := by decide +kernel
theorem d_M_inBox_49 : decode b_M_inBox 49 = .ok (.iaload, 1) := by decide +kernel
theorem d_M_inBox_50 : decode b_M_inBox 50 = .ok (.iaload, 1) := by decide +kernel
theorem d_M_inBox_51 : decode b_M_inBox 51 = .ok (.iload_n 2, 1) := by decide +kernel
theorem d_M_inBox_52 : decode b_M_inBox 52 = .ok (.if_icmp .ne 13, 3) := by decide +kernel
theorem d_M_inBox_55 : decode b_M_inBox 55 = .ok (.aload_n 0, 1) := by decide +kernel
theorem d_M_inBox_56 : decode b_M_inBox 56 = .ok (.getfield 56, 3) := by decide +kernel
theorem d_M_inBox_59 : decode b_M_inBox 59 = .ok (.iload 4, 2) := by decide +kernel
theorem d_M_inBox_61 : decode b_M_inBox 61 = .ok (.iaload, 1) := by decide +kernel
theorem d_M_inBox_62 : decode b_M_inBox 62 = .ok (.goto 4, 3) := by decide +kernel
theorem d_M_inBox_65 : decode b_M_inBox 65 = .ok (.iconst 0, 1) := by decide +kernel
theorem d_M_inBox_66 : decode b_M_inBox 66 = .ok (.iadd, 1) := by decide +kernel
theorem d_M_inBox_67 : decode b_M_inBox 67 = .ok (.istore_n 3, 1) := by decide +kernel
theorem d_M_inBox_68 : decode b_M_inBox 68 = .ok (.iinc 4 1, 3) := by decide +kernel
theorem d_M_inBox_71 : decode b_M_inBox 71 = .ok (.goto (-64), 3) := by decide +kernel
theorem d_M_inBox_74 : decode b_M_inBox 74 = .ok (.iload_n 3, 1) := by decide +kernel
theorem d_M_inBox_75 : decode b_M_inBox 75 = .ok (.ireturn, 1) := by decide +kernel
theorem d_M_put_0 : decode b_M_put 0 = .ok (.iload_n 1, 1) := by decide +kernel
theorem d_M_put_1 : decode b_M_put 1 = .ok (.iconst 0, 1) := by decide +kernel
theorem d_M_put_2 : decode b_M_put 2 = .ok (.iconst 3, 1) := by decide +kernel
theorem d_M_put_3 : decode b_M_put 3 = .ok (.invokestatic 73, 3) := by decide +kernel
theorem d_M_put_6 : decode b_M_put 6 = .ok (.ifCond .eq 32, 3) := by decide +kernel
theorem d_M_put_9 : decode b_M_put 9 = .ok (.aload_n 0, 1) := by decide +kernel
theorem d_M_put_10 : decode b_M_put 10 = .ok (.iload_n 2, 1) := by decide +kernel
theorem d_M_put_11 : decode b_M_put 11 = .ok (.invokevirtual 106, 3) := by decide +kernel
theorem d_M_put_14 : decode b_M_put 14 = .ok (.ifCond .eq 24, 3) := by decide +kernel
theorem d_M_put_17 : decode b_M_put 17 = .ok (.iload_n 3, 1) := by decide +kernel
theorem d_M_put_18 : decode b_M_put 18 = .ok (.iconst 0, 1) := by decide +kernel
theorem d_M_put_19 : decode b_M_put 19 = .ok (.bipush 19, 2) := by decide +kernel
theorem d_M_put_21 : decode b_M_put 21 = .ok (.invokestatic 73, 3) := by decide +kernel
theorem d_M_put_24 : decode b_M_put 24 = .ok (.ifCond .eq 14, 3) := by decide +kernel
theorem d_M_put_27 : decode b_M_put 27 = .ok (.iload 4, 2) := by decide +kernel
theorem d_M_put_29 : decode b_M_put 29 = .ok (.iconst 0, 1) := by decide +kernel
theorem d_M_put_30 : decode b_M_put 30 = .ok (.bipush 19, 2) := by decide +kernel
theorem d_M_put_32 : decode b_M_put 32 = .ok (.invokestatic 73, 3) := by decide +kernel
theorem d_M_put_35 : decode b_M_put 35 = .ok (.ifCond .ne 9, 3) := by decide +kernel
theorem d_M_put_38 : decode b_M_put 38 = .ok (.aload_n 0, 1) := by decide +kernel
theorem d_M_put_39 : decode b_M_put 39 = .ok (.iconst 1, 1) := by decide +kernel
theorem d_M_put_40 : decode b_M_put 40 = .ok (.invokevirtual 95, 3) := by decide +kernel
theorem d_M_put_43 : decode b_M_put 43 = .ok (.ireturn, 1) := by decide +kernel
theorem d_M_put_44 : decode b_M_put 44 = .ok (.aload_n 0, 1) := by decide +kernel
theorem d_M_put_45 : decode b_M_put 45 = .ok (.getfield 41, 3) := by decide +kernel
theorem d_M_put_48 : decode b_M_put 48 = .ok (.iload_n 2, 1) := by decide +kernel
theorem d_M_put_49 : decode b_M_put 49 = .ok (.iaload, 1) := by decide +kernel
theorem d_M_put_50 : decode b_M_put 50 = .ok (.iconst (-1), 1) := by decide +kernel
theorem d_M_put_51 : decode b_M_put 51 = .ok (.if_icmp .eq 9, 3) := by decide +kernel
theorem d_M_put_54 : decode b_M_put 54 = .ok (.aload_n 0, 1) := by decide +kernel
theorem d_M_put_55 : decode b_M_put 55 = .ok (.iconst 2, 1) := by decide +kernel
theorem d_M_put_56 : decode b_M_put 56 = .ok (.invokevirtual 95, 3) := by decide +kernel
theorem d_M_put_59 : decode b_M_put 59 = .ok (.ireturn, 1) := by decide +kernel
theorem d_M_put_60 : decode b_M_put 60 = .ok (.aload_n 0, 1) := by decide +kernel
theorem d_M_put_61 : decode b_M_put 61 = .ok (.iconst 0, 1) := by decide +kernel
theorem d_M_put_62 : decode b_M_put 62 = .ok (.putfield 63, 3) := by decide +kernel
theorem d_M_put_65 : decode b_M_put 65 = .ok (.aload_n 0, 1) := by decide +kernel
theorem d_M_put_66 : decode b_M_put 66 = .ok (.iload_n 1, 1) := by decide +kernel
theorem d_M_put_67 : decode b_M_put 67 = .ok (.iload_n 2, 1) := by decide +kernel
theorem d_M_put_68 : decode b_M_put 68 = .ok (.iload_n 3, 1) := by decide +kernel
theorem d_M_put_69 : decode b_M_put 69 = .ok (.iload 4, 2) := by decide +kernel
theorem d_M_put_71 : decode b_M_put 71 = .ok (.invokevirtual 145, 3) := by decide +kernel
theorem d_M_put_74 : decode b_M_put 74 = .ok (.istore 5, 2) := by decide +kernel
theorem d_M_put_76 : decode b_M_put 76 = .ok (.iload 5, 2) := by decide +kernel
theorem d_M_put_78 : decode b_M_put 78 = .ok (.ifCond .ne 25, 3) := by decide +kernel
theorem d_M_put_81 : decode b_M_put 81 = .ok (.aload_n 0, 1) := by decide +kernel
theorem d_M_put_82 : decode b_M_put 82 = .ok (.getfield 41, 3) := by decide +kernel
theorem d_M_put_85 : decode b_M_put 85 = .ok (.iload_n 2, 1) := by decide +kernel
theorem d_M_put_86 : decode b_M_put 86 = .ok (.iload_n 1, 1) := by decide +kernel
theorem d_M_put_87 : decode b_M_put 87 = .ok (.iastore, 1) := by decide +kernel
theorem d_M_put_88 : decode b_M_put 88 = .ok (.aload_n 0, 1) := by decide +kernel
theorem d_M_put_89 : decode b_M_put 89 = .ok (.getfield 44, 3) := by decide +kernel
theorem d_M_put_92 : decode b_M_put 92 = .ok (.iload_n 2, 1) := by decide +kernel
theorem d_M_put_93 : decode b_M_put 93 = .ok (.iload_n 3, 1) := by decide +kernel
theorem d_M_put_94 : decode b_M_put 94 = .ok (.iastore, 1) := by decide +kernel
theorem d_M_put_95 : decode b_M_put 95 = .ok (.aload_n 0, 1) := by decide +kernel
theorem d_M_put_96 : decode b_M_put 96 = .ok (.getfield 47, 3) := by decide +kernel
theorem d_M_put_99 : decode b_M_put 99 = .ok (.iload_n 2, 1) := by decide +kernel
theorem d_M_put_100 : decode b_M_put 100 = .ok (.iload 4, 2) := by decide +kernel
theorem d_M_put_102 : decode b_M_put 102 = .ok (.iastore, 1) := by decide +kernel
theorem d_M_put_103 : decode b_M_put 103 = .ok (.iload 5, 2) := by decide +kernel
theorem d_M_put_105 : decode b_M_put 105 = .ok (.ireturn, 1) := by decide +kernel
theorem d_M_bars_0 : decode b_M_bars 0 = .ok (.aload_n 0, 1) := by decide +kernel
theorem d_M_bars_1 : decode b_M_bars 1 = .ok (.iload_n 2, 1) := by decide +kernel
theorem d_M_bars_2 : decode b_M_bars 2 = .ok (.invokevirtual 138, 3) := by decide +kernel
theorem d_M_bars_5 : decode b_M_bars 5 = .ok (.aload_n 0, 1) := by decide +kernel
theorem d_M_bars_6 : decode b_M_bars 6 = .ok (.getfield 50, 3) := by decide +kernel
theorem d_M_bars_9 : decode b_M_bars 9 = .ok (.iload_n 2, 1) := by decide +kernel
theorem d_M_bars_10 : decode b_M_bars 10 = .ok (.iaload, 1) := by decide +kernel
theorem d_M_bars_11 : decode b_M_bars 11 = .ok (.iconst (-1), 1) := by decide +kernel
theorem d_M_bars_12 : decode b_M_bars 12 = .ok (.ixor, 1) := by decide +kernel
theorem d_M_bars_13 : decode b_M_bars 13 = .ok (.iand, 1) := by decide +kernel
theorem d_M_bars_14 : decode b_M_bars 14 = .ok (.ifCond .eq 6, 3) := by decide +kernel
theorem d_M_bars_17 : decode b_M_bars 17 = .ok (.bipush 16, 2) := by decide +kernel
theorem d_M_bars_19 : decode b_M_bars 19 = .ok (.ireturn, 1) := by decide +kernel
theorem d_M_bars_20 : decode b_M_bars 20 = .ok (.iconst 0, 1) := by decide +kernel
theorem d_M_bars_21 : decode b_M_bars 21 = .ok (.istore 5, 2) := by decide +kernel
theorem d_M_bars_23 : decode b_M_bars 23 = .ok (.iload 5, 2) := by decide +kernel
theorem d_M_bars_25 : decode b_M_bars 25 = .ok (.aload_n 0, 1) := by decide +kernel
theorem d_M_bars_26 : decode b_M_bars 26 = .ok (.getfield 70, 3) := by decide +kernel
theorem d_M_bars_29 : decode b_M_bars 29 = .ok (.if_icmp .ge 46, 3) := by decide +kernel
theorem d_M_bars_32 : decode b_M_bars 32 = .ok (.aload_n 0, 1) := by decide +kernel
theorem d_M_bars_33 : decode b_M_bars 33 = .ok (.getfield 41, 3) := by decide +kernel
theorem d_M_bars_36 : decode b_M_bars 36 = .ok (.iload 5, 2) := by decide +kernel
theorem d_M_bars_38 : decode b_M_bars 38 = .ok (.iaload, 1) := by decide +kernel
theorem d_M_bars_39 : decode b_M_bars 39 = .ok (.iload_n 1, 1) := by decide +kernel
theorem d_M_bars_40 : decode b_M_bars 40 = .ok (.if_icmp .ne 29, 3) := by decide +kernel
theorem d_M_bars_43 : decode b_M_bars 43 = .ok (.aload_n 0, 1) := by decide +kernel
theorem d_M_bars_44 : decode b_M_bars 44 = .ok (.getfield 44, 3) := by decide +kernel
theorem d_M_bars_47 : decode b_M_bars 47 = .ok (.iload 5, 2) := by decide +kernel
theorem d_M_bars_49 : decode b_M_bars 49 = .ok (.iaload, 1) := by decide +kernel
theorem d_M_bars_50 : decode b_M_bars 50 = .ok (.iload_n 3, 1) := by decide +kernel
theorem d_M_bars_51 : decode b_M_bars 51 = .ok (.if_icmp .ne 18, 3) := by decide +kernel
theorem d_M_bars_54 : decode b_M_bars 54 = .ok (.aload_n 0, 1) := by decide +kernel
theorem d_M_bars_55 : decode b_M_bars 55 = .ok (.getfield 47, 3) := by decide +kernel
theorem d_M_bars_58 : decode b_M_bars 58 = .ok (.iload 5, 2) := by decide +kernel
theorem d_M_bars_60 : decode b_M_bars 60 = .ok (.iaload, 1) := by decide +kernel
theorem d_M_bars_61 : decode b_M_bars 61 = .ok (.iload 4, 2) := by decide +kernel
theorem d_M_bars_63 : decode b_M_bars 63 = .ok (.if_icmp .ne 6, 3) := by decide +kernel
theorem d_M_bars_66 : decode b_M_bars 66 = .ok (.bipush 32, 2) := by decide +kernel
theorem d_M_bars_68 : decode b_M_bars 68 = .ok (.ireturn, 1) := by decide +kernel
theorem d_M_bars_69 : decode b_M_bars 69 = .ok (.iinc 5 1, 3) := by decide +kernel
theorem d_M_bars_72 : decode b_M_bars 72 = .ok (.goto (-49), 3) := by decide +kernel
theorem d_M_bars_75 : decode b_M_bars 75 = .ok (.iconst 1, 1) := by decide +kernel
theorem d_M_bars_76 : decode b_M_bars 76 = .ok (.istore 5, 2) := by decide +kernel
theorem d_M_bars_78 : decode b_M_bars 78 = .ok (.iload 5, 2) := by decide +kernel
theorem d_M_bars_80 : decode b_M_bars 80 = .ok (.bipush 10, 2) := by decide +kernel
theorem d_M_bars_82 : decode b_M_bars 82 = .ok (.if_icmp .ge 57, 3) := by decide +kernel
theorem d_M_bars_85 : decode b_M_bars 85 = .ok (.aload_n 0, 1) := by decide +kernel
theorem d_M_bars_86 : decode b_M_bars 86 = .ok (.iload_n 2, 1) := by decide +kernel
theorem d_M_bars_87 : decode b_M_bars 87 = .ok (.iload 5, 2) := by decide +kernel
theorem d_M_bars_89 : decode b_M_bars 89 = .ok (.invokevirtual 129, 3) := by decide +kernel
theorem d_M_bars_92 : decode b_M_bars 92 = .ok (.ifCond .le 41, 3) := by decide +kernel
theorem d_M_bars_95 : decode b_M_bars 95 = .ok (.aload_n 0, 1) := by decide +kernel
theorem d_M_bars_96 : decode b_M_bars 96 = .ok (.iload_n 1, 1) := by decide +kernel
theorem d_M_bars_97 : decode b_M_bars 97 = .ok (.iload 5, 2) := by decide +kernel
theorem d_M_bars_99 : decode b_M_bars 99 = .ok (.invokevirtual 132, 3) := by decide +kernel
theorem d_M_bars_102 : decode b_M_bars 102 = .ok (.aload_n 0, 1) := by decide +kernel
theorem d_M_bars_103 : decode b_M_bars 103 = .ok (.iload_n 2, 1) := by decide +kernel
theorem d_M_bars_104 : decode b_M_bars 104 = .ok (.iload 5, 2) := by decide +kernel
theorem d_M_bars_106 : decode b_M_bars 106 = .ok (.invokevirtual 129, 3) := by decide +kernel
theorem d_M_bars_109 : decode b_M_bars 109 = .ok (.iadd, 1) := by decide +kernel
theorem d_M_bars_110 : decode b_M_bars 110 = .ok (.aload_n 0, 1) := by decide +kernel
theorem d_M_bars_111 : decode b_M_bars 111 = .ok (.getfield 59, 3) := by decide +kernel
theorem d_M_bars_114 : decode b_M_bars 114 = .ok (.bipush 9, 2) := by decide +kernel
theorem d_M_bars_116 : decode b_M_bars 116 = .ok (.iload_n 1, 1) := by decide +kernel
theorem d_M_bars_117 : decode b_M_bars 117 = .ok (.imul, 1) := by decide +kernel
theorem d_M_bars_118 : decode b_M_bars 118 = .ok (.iload 5, 2) := by decide +kernel
theorem d_M_bars_120 : decode b_M_bars 120 = .ok (.iadd, 1) := by decide +kernel
theorem d_M_bars_121 : decode b_M_bars 121 = .ok (.iconst 1, 1) := by decide +kernel
theorem d_M_bars_122 : decode b_M_bars 122 = .ok (.isub, 1) := by decide +kernel
theorem d_M_bars_123 : decode b_M_bars 123 = .ok (.iaload, 1) := by decide +kernel
theorem d_M_bars_124 : decode b_M_bars 124 = .ok (.if_icmp .le 9, 3) := by decide +kernel
theorem d_M_bars_127 : decode b_M_bars 127 = .ok (.bipush 48, 2) := by decide +kernel
theorem d_M_bars_129 : decode b_M_bars 129 = .ok (.iload 5, 2) := by decide +kernel
theorem d_M_bars_131 : decode b_M_bars 131 = .ok (.iadd, 1) := by decide +kernel
theorem d_M_bars_132 : decode b_M_bars 132 = .ok (.ireturn, 1) := by decide +kernel
theorem d_M_bars_133 : decode b_M_bars 133 = .ok (.iinc 5 1, 3) := by decide +kernel
theorem d_M_bars_136 : decode b_M_bars 136 = .ok (.goto (-58), 3) := by decide +kernel
theorem d_M_bars_139 : decode b_M_bars 139 = .ok (.iconst 0, 1) := by decide +kernel
theorem d_M_bars_140 : decode b_M_bars 140 = .ok (.istore 5, 2) := by decide +kernel
theorem d_M_bars_142 : decode b_M_bars 142 = .ok (.iload 5, 2) := by decide +kernel
theorem d_M_bars_144 : decode b_M_bars 144 = .ok (.aload_n 0, 1) := by decide +kernel
theorem d_M_bars_145 : decode b_M_bars 145 = .ok (.getfield 70, 3) := by decide +kernel
theorem d_M_bars_148 : decode b_M_bars 148 = .ok (.if_icmp .ge 39, 3) := by decide +kernel
theorem d_M_bars_151 : decode b_M_bars 151 = .ok (.aload_n 0, 1) := by decide +kernel
theorem d_M_bars_152 : decode b_M_bars 152 = .ok (.getfield 41, 3) := by decide +kernel
theorem d_M_bars_155 : decode b_M_bars 155 = .ok (.iload 5, 2) := by decide +kernel
theorem d_M_bars_157 : decode b_M_bars 157 = .ok (.iaload, 1) := by decide +kernel
theorem d_M_bars_158 : decode b_M_bars 158 = .ok (.iload_n 1, 1) := by decide +kernel
theorem d_M_bars_159 : decode b_M_bars 159 = .ok (.if_icmp .ne 22, 3) := by decide +kernel
theorem d_M_bars_162 : decode b_M_bars 162 = .ok (.aload_n 0, 1) := by decide +kernel
theorem d_M_bars_163 : decode b_M_bars 163 = .ok (.iload_n 2, 1) := by decide +kernel
theorem d_M_bars_164 : decode b_M_bars 164 = .ok (.iload 5, 2) := by decide +kernel
theorem d_M_bars_166 : decode b_M_bars 166 = .ok (.iload_n 3, 1) := by decide +kernel
theorem d_M_bars_167 : decode b_M_bars 167 = .ok (.iload 4, 2) := by decide +kernel
theorem d_M_bars_169 : decode b_M_bars 169 = .ok (.invokevirtual 141, 3) := by decide +kernel
theorem d_M_bars_172 : decode b_M_bars 172 = .ok (.ifCond .eq 9, 3) := by decide +kernel
theorem d_M_bars_175 : decode b_M_bars 175 = .ok (.bipush 64, 2) := by decide +kernel
theorem d_M_bars_177 : decode b_M_bars 177 = .ok (.iload 5, 2) := by decide +kernel
theorem d_M_bars_179 : decode b_M_bars 179 = .ok (.iadd, 1) := by decide +kernel
theorem d_M_bars_180 : decode b_M_bars 180 = .ok (.ireturn, 1) := by decide +kernel
theorem d_M_bars_181 : decode b_M_bars 181 = .ok (.iinc 5 1, 3) := by decide +kernel
theorem d_M_bars_184 : decode b_M_bars 184 = .ok (.goto (-42), 3) := by decide +kernel
theorem d_M_bars_187 : decode b_M_bars 187 = .ok (.iconst 0, 1) := by decide +kernel
theorem d_M_bars_188 : decode b_M_bars 188 = .ok (.ireturn, 1) := by decide +kernel
theorem d_M_wanted_0 : decode b_M_wanted 0 = .ok (.iconst 1, 1) := by decide +kernel
theorem d_M_wanted_1 : decode b_M_wanted 1 = .ok (.istore_n 2, 1) := by decide +kernel
theorem d_M_wanted_2 : decode b_M_wanted 2 = .ok (.iconst 4, 1) := by decide +kernel
theorem d_M_wanted_3 : decode b_M_wanted 3 = .ok (.iload_n 1, 1) := by decide +kernel
theorem d_M_wanted_4 : decode b_M_wanted 4 = .ok (.imul, 1) := by decide +kernel
theorem d_M_wanted_5 : decode b_M_wanted 5 = .ok (.istore_n 3, 1) := by decide +kernel
theorem d_M_wanted_6 : decode b_M_wanted 6 = .ok (.iload_n 3, 1) := by decide +kernel
theorem d_M_wanted_7 : decode b_M_wanted 7 = .ok (.iconst 4, 1) := by decide +kernel
theorem d_M_wanted_8 : decode b_M_wanted 8 = .ok (.iload_n 1, 1) := by decide +kernel
theorem d_M_wanted_9 : decode b_M_wanted 9 = .ok (.imul, 1) := by decide +kernel
theorem d_M_wanted_10 : decode b_M_wanted 10 = .ok (.aload_n 0, 1) := by decide +kernel
theorem d_M_wanted_11 : decode b_M_wanted 11 = .ok (.getfield 38, 3) := by decide +kernel
theorem d_M_wanted_14 : decode b_M_wanted 14 = .ok (.iload_n 1, 1) := by decide +kernel
theorem d_M_wanted_15 : decode b_M_wanted 15 = .ok (.iaload, 1) := by decide +kernel
theorem d_M_wanted_16 : decode b_M_wanted 16 = .ok (.iadd, 1) := by decide +kernel
theorem d_M_wanted_17 : decode b_M_wanted 17 = .ok (.if_icmp .ge 84, 3) := by decide +kernel
theorem d_M_wanted_20 : decode b_M_wanted 20 = .ok (.aload_n 0, 1) := by decide +kernel
theorem d_M_wanted_21 : decode b_M_wanted 21 = .ok (.getfield 53, 3) := by decide +kernel
theorem d_M_wanted_24 : decode b_M_wanted 24 = .ok (.iload_n 3, 1) := by decide +kernel
theorem d_M_wanted_25 : decode b_M_wanted 25 = .ok (.iaload, 1) := by decide +kernel
theorem d_M_wanted_26 : decode b_M_wanted 26 = .ok (.istore 4, 2) := by decide +kernel
theorem d_M_wanted_28 : decode b_M_wanted 28 = .ok (.iload_n 2, 1) := by decide +kernel
theorem d_M_wanted_29 : decode b_M_wanted 29 = .ok (.aload_n 0, 1) := by decide +kernel
theorem d_M_wanted_30 : decode b_M_wanted 30 = .ok (.getfield 22, 3) := by decide +kernel
theorem d_M_wanted_33 : decode b_M_wanted 33 = .ok (.iload 4, 2) := by decide +kernel
theorem d_M_wanted_35 : decode b_M_wanted 35 = .ok (.iaload, 1) := by decide +kernel
