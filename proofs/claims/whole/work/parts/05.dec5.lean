theorem d_M_read_120 : decode b_M_read 120 = .ok (.getfield 13, 3) := by decide +kernel
theorem d_M_read_123 : decode b_M_read 123 = .ok (.bipush 81, 2) := by decide +kernel
theorem d_M_read_125 : decode b_M_read 125 = .ok (.iload 4, 2) := by decide +kernel
theorem d_M_read_127 : decode b_M_read 127 = .ok (.iload_n 3, 1) := by decide +kernel
theorem d_M_read_128 : decode b_M_read 128 = .ok (.invokestatic 84, 3) := by decide +kernel
theorem d_M_read_131 : decode b_M_read 131 = .ok (.iadd, 1) := by decide +kernel
theorem d_M_read_132 : decode b_M_read 132 = .ok (.aload_n 0, 1) := by decide +kernel
theorem d_M_read_133 : decode b_M_read 133 = .ok (.getfield 7, 3) := by decide +kernel
theorem d_M_read_136 : decode b_M_read 136 = .ok (.iload_n 2, 1) := by decide +kernel
theorem d_M_read_137 : decode b_M_read 137 = .ok (.iaload, 1) := by decide +kernel
theorem d_M_read_138 : decode b_M_read 138 = .ok (.bipush 48, 2) := by decide +kernel
theorem d_M_read_140 : decode b_M_read 140 = .ok (.isub, 1) := by decide +kernel
theorem d_M_read_141 : decode b_M_read 141 = .ok (.iconst 1, 1) := by decide +kernel
theorem d_M_read_142 : decode b_M_read 142 = .ok (.iadd, 1) := by decide +kernel
theorem d_M_read_143 : decode b_M_read 143 = .ok (.iastore, 1) := by decide +kernel
theorem d_M_read_144 : decode b_M_read 144 = .ok (.iinc 2 1, 3) := by decide +kernel
theorem d_M_read_147 : decode b_M_read 147 = .ok (.goto (-115), 3) := by decide +kernel
theorem d_M_read_150 : decode b_M_read 150 = .ok (.iload_n 1, 1) := by decide +kernel
theorem d_M_read_151 : decode b_M_read 151 = .ok (.ifCond .ge 18, 3) := by decide +kernel
theorem d_M_read_154 : decode b_M_read 154 = .ok (.aload_n 0, 1) := by decide +kernel
theorem d_M_read_155 : decode b_M_read 155 = .ok (.getfield 77, 3) := by decide +kernel
theorem d_M_read_158 : decode b_M_read 158 = .ok (.sipush 180, 3) := by decide +kernel
theorem d_M_read_161 : decode b_M_read 161 = .ok (.if_icmp .eq 8, 3) := by decide +kernel
theorem d_M_read_164 : decode b_M_read 164 = .ok (.aload_n 0, 1) := by decide +kernel
theorem d_M_read_165 : decode b_M_read 165 = .ok (.getfield 77, 3) := by decide +kernel
theorem d_M_read_168 : decode b_M_read 168 = .ok (.istore_n 1, 1) := by decide +kernel
theorem d_M_read_169 : decode b_M_read 169 = .ok (.aload_n 0, 1) := by decide +kernel
theorem d_M_read_170 : decode b_M_read 170 = .ok (.iconst 0, 1) := by decide +kernel
theorem d_M_read_171 : decode b_M_read 171 = .ok (.putfield 77, 3) := by decide +kernel
theorem d_M_read_174 : decode b_M_read 174 = .ok (.iload_n 1, 1) := by decide +kernel
theorem d_M_read_175 : decode b_M_read 175 = .ok (.ifCond .lt 7, 3) := by decide +kernel
theorem d_M_read_178 : decode b_M_read 178 = .ok (.iconst (-1), 1) := by decide +kernel
theorem d_M_read_179 : decode b_M_read 179 = .ok (.iload_n 1, 1) := by decide +kernel
theorem d_M_read_180 : decode b_M_read 180 = .ok (.isub, 1) := by decide +kernel
theorem d_M_read_181 : decode b_M_read 181 = .ok (.ireturn, 1) := by decide +kernel
theorem d_M_read_182 : decode b_M_read 182 = .ok (.aload_n 0, 1) := by decide +kernel
theorem d_M_read_183 : decode b_M_read 183 = .ok (.iconst 1, 1) := by decide +kernel
theorem d_M_read_184 : decode b_M_read 184 = .ok (.putfield 91, 3) := by decide +kernel
theorem d_M_read_187 : decode b_M_read 187 = .ok (.iconst 0, 1) := by decide +kernel
theorem d_M_read_188 : decode b_M_read 188 = .ok (.istore_n 2, 1) := by decide +kernel
theorem d_M_read_189 : decode b_M_read 189 = .ok (.iload_n 2, 1) := by decide +kernel
theorem d_M_read_190 : decode b_M_read 190 = .ok (.bipush 81, 2) := by decide +kernel
theorem d_M_read_192 : decode b_M_read 192 = .ok (.if_icmp .ge 26, 3) := by decide +kernel
theorem d_M_read_195 : decode b_M_read 195 = .ok (.aload_n 0, 1) := by decide +kernel
theorem d_M_read_196 : decode b_M_read 196 = .ok (.getfield 13, 3) := by decide +kernel
theorem d_M_read_199 : decode b_M_read 199 = .ok (.iload_n 2, 1) := by decide +kernel
theorem d_M_read_200 : decode b_M_read 200 = .ok (.aload_n 0, 1) := by decide +kernel
theorem d_M_read_201 : decode b_M_read 201 = .ok (.getfield 13, 3) := by decide +kernel
theorem d_M_read_204 : decode b_M_read 204 = .ok (.bipush 81, 2) := by decide +kernel
theorem d_M_read_206 : decode b_M_read 206 = .ok (.iload_n 2, 1) := by decide +kernel
theorem d_M_read_207 : decode b_M_read 207 = .ok (.iadd, 1) := by decide +kernel
theorem d_M_read_208 : decode b_M_read 208 = .ok (.iaload, 1) := by decide +kernel
theorem d_M_read_209 : decode b_M_read 209 = .ok (.iconst 1, 1) := by decide +kernel
theorem d_M_read_210 : decode b_M_read 210 = .ok (.isub, 1) := by decide +kernel
theorem d_M_read_211 : decode b_M_read 211 = .ok (.iastore, 1) := by decide +kernel
theorem d_M_read_212 : decode b_M_read 212 = .ok (.iinc 2 1, 3) := by decide +kernel
theorem d_M_read_215 : decode b_M_read 215 = .ok (.goto (-26), 3) := by decide +kernel
theorem d_M_read_218 : decode b_M_read 218 = .ok (.bipush 45, 2) := by decide +kernel
theorem d_M_read_220 : decode b_M_read 220 = .ok (.ireturn, 1) := by decide +kernel
theorem d_M_stands_0 : decode b_M_stands 0 = .ok (.aload_n 0, 1) := by decide +kernel
theorem d_M_stands_1 : decode b_M_stands 1 = .ok (.getfield 7, 3) := by decide +kernel
theorem d_M_stands_4 : decode b_M_stands 4 = .ok (.iload_n 1, 1) := by decide +kernel
theorem d_M_stands_5 : decode b_M_stands 5 = .ok (.iaload, 1) := by decide +kernel
theorem d_M_stands_6 : decode b_M_stands 6 = .ok (.bipush 48, 2) := by decide +kernel
theorem d_M_stands_8 : decode b_M_stands 8 = .ok (.isub, 1) := by decide +kernel
theorem d_M_stands_9 : decode b_M_stands 9 = .ok (.istore_n 2, 1) := by decide +kernel
theorem d_M_stands_10 : decode b_M_stands 10 = .ok (.aload_n 0, 1) := by decide +kernel
theorem d_M_stands_11 : decode b_M_stands 11 = .ok (.getfield 7, 3) := by decide +kernel
theorem d_M_stands_14 : decode b_M_stands 14 = .ok (.iload_n 1, 1) := by decide +kernel
theorem d_M_stands_15 : decode b_M_stands 15 = .ok (.iload_n 1, 1) := by decide +kernel
theorem d_M_stands_16 : decode b_M_stands 16 = .ok (.iconst 4, 1) := by decide +kernel
theorem d_M_stands_17 : decode b_M_stands 17 = .ok (.irem, 1) := by decide +kernel
theorem d_M_stands_18 : decode b_M_stands 18 = .ok (.isub, 1) := by decide +kernel
theorem d_M_stands_19 : decode b_M_stands 19 = .ok (.iaload, 1) := by decide +kernel
theorem d_M_stands_20 : decode b_M_stands 20 = .ok (.bipush 48, 2) := by decide +kernel
theorem d_M_stands_22 : decode b_M_stands 22 = .ok (.isub, 1) := by decide +kernel
theorem d_M_stands_23 : decode b_M_stands 23 = .ok (.istore_n 3, 1) := by decide +kernel
theorem d_M_stands_24 : decode b_M_stands 24 = .ok (.iload_n 1, 1) := by decide +kernel
theorem d_M_stands_25 : decode b_M_stands 25 = .ok (.iconst 4, 1) := by decide +kernel
theorem d_M_stands_26 : decode b_M_stands 26 = .ok (.irem, 1) := by decide +kernel
theorem d_M_stands_27 : decode b_M_stands 27 = .ok (.tableswitch 77 0 2 #[25, 30, 70], 25) := by decide +kernel
theorem d_M_stands_52 : decode b_M_stands 52 = .ok (.iload_n 2, 1) := by decide +kernel
theorem d_M_stands_53 : decode b_M_stands 53 = .ok (.invokestatic 80, 3) := by decide +kernel
theorem d_M_stands_56 : decode b_M_stands 56 = .ok (.ireturn, 1) := by decide +kernel
theorem d_M_stands_57 : decode b_M_stands 57 = .ok (.iload_n 2, 1) := by decide +kernel
theorem d_M_stands_58 : decode b_M_stands 58 = .ok (.invokestatic 80, 3) := by decide +kernel
theorem d_M_stands_61 : decode b_M_stands 61 = .ok (.ifCond .eq 34, 3) := by decide +kernel
theorem d_M_stands_64 : decode b_M_stands 64 = .ok (.aload_n 0, 1) := by decide +kernel
theorem d_M_stands_65 : decode b_M_stands 65 = .ok (.getfield 13, 3) := by decide +kernel
theorem d_M_stands_68 : decode b_M_stands 68 = .ok (.bipush 81, 2) := by decide +kernel
theorem d_M_stands_70 : decode b_M_stands 70 = .ok (.iload_n 3, 1) := by decide +kernel
theorem d_M_stands_71 : decode b_M_stands 71 = .ok (.iload_n 2, 1) := by decide +kernel
theorem d_M_stands_72 : decode b_M_stands 72 = .ok (.invokestatic 80, 3) := by decide +kernel
theorem d_M_stands_75 : decode b_M_stands 75 = .ok (.ifCond .eq 7, 3) := by decide +kernel
theorem d_M_stands_78 : decode b_M_stands 78 = .ok (.iload_n 2, 1) := by decide +kernel
theorem d_M_stands_79 : decode b_M_stands 79 = .ok (.goto 4, 3) := by decide +kernel
theorem d_M_stands_82 : decode b_M_stands 82 = .ok (.iconst 1, 1) := by decide +kernel
theorem d_M_stands_83 : decode b_M_stands 83 = .ok (.invokestatic 84, 3) := by decide +kernel
theorem d_M_stands_86 : decode b_M_stands 86 = .ok (.iadd, 1) := by decide +kernel
theorem d_M_stands_87 : decode b_M_stands 87 = .ok (.iaload, 1) := by decide +kernel
theorem d_M_stands_88 : decode b_M_stands 88 = .ok (.ifCond .ne 7, 3) := by decide +kernel
theorem d_M_stands_91 : decode b_M_stands 91 = .ok (.iconst 1, 1) := by decide +kernel
theorem d_M_stands_92 : decode b_M_stands 92 = .ok (.goto 4, 3) := by decide +kernel
theorem d_M_stands_95 : decode b_M_stands 95 = .ok (.iconst 0, 1) := by decide +kernel
theorem d_M_stands_96 : decode b_M_stands 96 = .ok (.ireturn, 1) := by decide +kernel
theorem d_M_stands_97 : decode b_M_stands 97 = .ok (.iload_n 2, 1) := by decide +kernel
theorem d_M_stands_98 : decode b_M_stands 98 = .ok (.iconst 0, 1) := by decide +kernel
theorem d_M_stands_99 : decode b_M_stands 99 = .ok (.iconst 4, 1) := by decide +kernel
theorem d_M_stands_100 : decode b_M_stands 100 = .ok (.invokestatic 73, 3) := by decide +kernel
theorem d_M_stands_103 : decode b_M_stands 103 = .ok (.ireturn, 1) := by decide +kernel
theorem d_M_stands_104 : decode b_M_stands 104 = .ok (.aload_n 0, 1) := by decide +kernel
theorem d_M_stands_105 : decode b_M_stands 105 = .ok (.getfield 7, 3) := by decide +kernel
theorem d_M_stands_108 : decode b_M_stands 108 = .ok (.iload_n 1, 1) := by decide +kernel
theorem d_M_stands_109 : decode b_M_stands 109 = .ok (.iaload, 1) := by decide +kernel
theorem d_M_stands_110 : decode b_M_stands 110 = .ok (.bipush 59, 2) := by decide +kernel
theorem d_M_stands_112 : decode b_M_stands 112 = .ok (.if_icmp .ne 7, 3) := by decide +kernel
theorem d_M_stands_115 : decode b_M_stands 115 = .ok (.iconst 1, 1) := by decide +kernel
theorem d_M_stands_116 : decode b_M_stands 116 = .ok (.goto 4, 3) := by decide +kernel
theorem d_M_stands_119 : decode b_M_stands 119 = .ok (.iconst 0, 1) := by decide +kernel
theorem d_M_stands_120 : decode b_M_stands 120 = .ok (.ireturn, 1) := by decide +kernel
theorem d_M_isClass_0 : decode b_M_isClass 0 = .ok (.iload_n 0, 1) := by decide +kernel
theorem d_M_isClass_1 : decode b_M_isClass 1 = .ok (.iconst 1, 1) := by decide +kernel
theorem d_M_isClass_2 : decode b_M_isClass 2 = .ok (.if_icmp .lt 13, 3) := by decide +kernel
theorem d_M_isClass_5 : decode b_M_isClass 5 = .ok (.iload_n 0, 1) := by decide +kernel
theorem d_M_isClass_6 : decode b_M_isClass 6 = .ok (.bipush 9, 2) := by decide +kernel
theorem d_M_isClass_8 : decode b_M_isClass 8 = .ok (.if_icmp .gt 7, 3) := by decide +kernel
theorem d_M_isClass_11 : decode b_M_isClass 11 = .ok (.iconst 1, 1) := by decide +kernel
theorem d_M_isClass_12 : decode b_M_isClass 12 = .ok (.goto 4, 3) := by decide +kernel
theorem d_M_isClass_15 : decode b_M_isClass 15 = .ok (.iconst 0, 1) := by decide +kernel
theorem d_M_isClass_16 : decode b_M_isClass 16 = .ok (.ireturn, 1) := by decide +kernel
theorem d_M_pair_0 : decode b_M_pair 0 = .ok (.bipush 9, 2) := by decide +kernel
theorem d_M_pair_2 : decode b_M_pair 2 = .ok (.iload_n 0, 1) := by decide +kernel
theorem d_M_pair_3 : decode b_M_pair 3 = .ok (.iconst 1, 1) := by decide +kernel
theorem d_M_pair_4 : decode b_M_pair 4 = .ok (.isub, 1) := by decide +kernel
theorem d_M_pair_5 : decode b_M_pair 5 = .ok (.imul, 1) := by decide +kernel
theorem d_M_pair_6 : decode b_M_pair 6 = .ok (.iload_n 1, 1) := by decide +kernel
theorem d_M_pair_7 : decode b_M_pair 7 = .ok (.iadd, 1) := by decide +kernel
theorem d_M_pair_8 : decode b_M_pair 8 = .ok (.iconst 1, 1) := by decide +kernel
theorem d_M_pair_9 : decode b_M_pair 9 = .ok (.isub, 1) := by decide +kernel
theorem d_M_pair_10 : decode b_M_pair 10 = .ok (.ireturn, 1) := by decide +kernel
theorem d_M_rule_0 : decode b_M_rule 0 = .ok (.aload_n 0, 1) := by decide +kernel
theorem d_M_rule_1 : decode b_M_rule 1 = .ok (.iload_n 1, 1) := by decide +kernel
theorem d_M_rule_2 : decode b_M_rule 2 = .ok (.invokestatic 80, 3) := by decide +kernel
theorem d_M_rule_5 : decode b_M_rule 5 = .ok (.ifCond .eq 14, 3) := by decide +kernel
theorem d_M_rule_8 : decode b_M_rule 8 = .ok (.iload_n 2, 1) := by decide +kernel
theorem d_M_rule_9 : decode b_M_rule 9 = .ok (.invokestatic 80, 3) := by decide +kernel
theorem d_M_rule_12 : decode b_M_rule 12 = .ok (.ifCond .eq 7, 3) := by decide +kernel
theorem d_M_rule_15 : decode b_M_rule 15 = .ok (.iconst 0, 1) := by decide +kernel
theorem d_M_rule_16 : decode b_M_rule 16 = .ok (.goto 4, 3) := by decide +kernel
theorem d_M_rule_19 : decode b_M_rule 19 = .ok (.iconst 1, 1) := by decide +kernel
theorem d_M_rule_20 : decode b_M_rule 20 = .ok (.putfield 63, 3) := by decide +kernel
theorem d_M_rule_23 : decode b_M_rule 23 = .ok (.aload_n 0, 1) := by decide +kernel
theorem d_M_rule_24 : decode b_M_rule 24 = .ok (.getfield 63, 3) := by decide +kernel
theorem d_M_rule_27 : decode b_M_rule 27 = .ok (.ifCond .le 7, 3) := by decide +kernel
theorem d_M_rule_30 : decode b_M_rule 30 = .ok (.iconst 0, 1) := by decide +kernel
theorem d_M_rule_31 : decode b_M_rule 31 = .ok (.goto 13, 3) := by decide +kernel
theorem d_M_rule_34 : decode b_M_rule 34 = .ok (.aload_n 0, 1) := by decide +kernel
theorem d_M_rule_35 : decode b_M_rule 35 = .ok (.getfield 13, 3) := by decide +kernel
theorem d_M_rule_38 : decode b_M_rule 38 = .ok (.iload_n 1, 1) := by decide +kernel
theorem d_M_rule_39 : decode b_M_rule 39 = .ok (.iload_n 2, 1) := by decide +kernel
theorem d_M_rule_40 : decode b_M_rule 40 = .ok (.invokestatic 84, 3) := by decide +kernel
theorem d_M_rule_43 : decode b_M_rule 43 = .ok (.iaload, 1) := by decide +kernel
theorem d_M_rule_44 : decode b_M_rule 44 = .ok (.ireturn, 1) := by decide +kernel
theorem d_M_good_0 : decode b_M_good 0 = .ok (.iload_n 1, 1) := by decide +kernel
theorem d_M_good_1 : decode b_M_good 1 = .ok (.invokestatic 80, 3) := by decide +kernel
theorem d_M_good_4 : decode b_M_good 4 = .ok (.ifCond .eq 39, 3) := by decide +kernel
theorem d_M_good_7 : decode b_M_good 7 = .ok (.iload_n 2, 1) := by decide +kernel
theorem d_M_good_8 : decode b_M_good 8 = .ok (.iconst 0, 1) := by decide +kernel
theorem d_M_good_9 : decode b_M_good 9 = .ok (.bipush 9, 2) := by decide +kernel
theorem d_M_good_11 : decode b_M_good 11 = .ok (.invokestatic 73, 3) := by decide +kernel
theorem d_M_good_14 : decode b_M_good 14 = .ok (.ifCond .eq 29, 3) := by decide +kernel
theorem d_M_good_17 : decode b_M_good 17 = .ok (.iload_n 2, 1) := by decide +kernel
theorem d_M_good_18 : decode b_M_good 18 = .ok (.iload_n 1, 1) := by decide +kernel
theorem d_M_good_19 : decode b_M_good 19 = .ok (.if_icmp .eq 24, 3) := by decide +kernel
theorem d_M_good_22 : decode b_M_good 22 = .ok (.iload_n 3, 1) := by decide +kernel
theorem d_M_good_23 : decode b_M_good 23 = .ok (.iconst 1, 1) := by decide +kernel
theorem d_M_good_24 : decode b_M_good 24 = .ok (.iconst 3, 1) := by decide +kernel
theorem d_M_good_25 : decode b_M_good 25 = .ok (.invokestatic 73, 3) := by decide +kernel
theorem d_M_good_28 : decode b_M_good 28 = .ok (.ifCond .eq 15, 3) := by decide +kernel
theorem d_M_good_31 : decode b_M_good 31 = .ok (.iload 4, 2) := by decide +kernel
theorem d_M_good_33 : decode b_M_good 33 = .ok (.iconst 0, 1) := by decide +kernel
theorem d_M_good_34 : decode b_M_good 34 = .ok (.sipush 1000, 3) := by decide +kernel
theorem d_M_good_37 : decode b_M_good 37 = .ok (.invokestatic 73, 3) := by decide +kernel
theorem d_M_good_40 : decode b_M_good 40 = .ok (.ifCond .ne 9, 3) := by decide +kernel
theorem d_M_good_43 : decode b_M_good 43 = .ok (.aload_n 0, 1) := by decide +kernel
theorem d_M_good_44 : decode b_M_good 44 = .ok (.iconst 1, 1) := by decide +kernel
theorem d_M_good_45 : decode b_M_good 45 = .ok (.invokevirtual 95, 3) := by decide +kernel
theorem d_M_good_48 : decode b_M_good 48 = .ok (.ireturn, 1) := by decide +kernel
theorem d_M_good_49 : decode b_M_good 49 = .ok (.aload_n 0, 1) := by decide +kernel
theorem d_M_good_50 : decode b_M_good 50 = .ok (.getfield 67, 3) := by decide +kernel
theorem d_M_good_53 : decode b_M_good 53 = .ok (.bipush 16, 2) := by decide +kernel
theorem d_M_good_55 : decode b_M_good 55 = .ok (.if_icmp .ne 9, 3) := by decide +kernel
theorem d_M_good_58 : decode b_M_good 58 = .ok (.aload_n 0, 1) := by decide +kernel
theorem d_M_good_59 : decode b_M_good 59 = .ok (.iconst 2, 1) := by decide +kernel
theorem d_M_good_60 : decode b_M_good 60 = .ok (.invokevirtual 95, 3) := by decide +kernel
theorem d_M_good_63 : decode b_M_good 63 = .ok (.ireturn, 1) := by decide +kernel
theorem d_M_good_64 : decode b_M_good 64 = .ok (.aload_n 0, 1) := by decide +kernel
theorem d_M_good_65 : decode b_M_good 65 = .ok (.iconst 0, 1) := by decide +kernel
theorem d_M_good_66 : decode b_M_good 66 = .ok (.putfield 63, 3) := by decide +kernel
theorem d_M_good_69 : decode b_M_good 69 = .ok (.aload_n 0, 1) := by decide +kernel
theorem d_M_good_70 : decode b_M_good 70 = .ok (.getfield 16, 3) := by decide +kernel
theorem d_M_good_73 : decode b_M_good 73 = .ok (.aload_n 0, 1) := by decide +kernel
theorem d_M_good_74 : decode b_M_good 74 = .ok (.getfield 67, 3) := by decide +kernel
theorem d_M_good_77 : decode b_M_good 77 = .ok (.iload_n 1, 1) := by decide +kernel
theorem d_M_good_78 : decode b_M_good 78 = .ok (.iastore, 1) := by decide +kernel
theorem d_M_good_79 : decode b_M_good 79 = .ok (.aload_n 0, 1) := by decide +kernel
theorem d_M_good_80 : decode b_M_good 80 = .ok (.getfield 19, 3) := by decide +kernel
theorem d_M_good_83 : decode b_M_good 83 = .ok (.aload_n 0, 1) := by decide +kernel
theorem d_M_good_84 : decode b_M_good 84 = .ok (.getfield 67, 3) := by decide +kernel
theorem d_M_good_87 : decode b_M_good 87 = .ok (.iload_n 2, 1) := by decide +kernel
theorem d_M_good_88 : decode b_M_good 88 = .ok (.iastore, 1) := by decide +kernel
theorem d_M_good_89 : decode b_M_good 89 = .ok (.aload_n 0, 1) := by decide +kernel
theorem d_M_good_90 : decode b_M_good 90 = .ok (.getfield 22, 3) := by decide +kernel
theorem d_M_good_93 : decode b_M_good 93 = .ok (.aload_n 0, 1) := by decide +kernel
theorem d_M_good_94 : decode b_M_good 94 = .ok (.getfield 67, 3) := by decide +kernel
theorem d_M_good_97 : decode b_M_good 97 = .ok (.iload_n 3, 1) := by decide +kernel
theorem d_M_good_98 : decode b_M_good 98 = .ok (.iastore, 1) := by decide +kernel
theorem d_M_good_99 : decode b_M_good 99 = .ok (.aload_n 0, 1) := by decide +kernel
theorem d_M_good_100 : decode b_M_good 100 = .ok (.getfield 25, 3) := by decide +kernel
theorem d_M_good_103 : decode b_M_good 103 = .ok (.aload_n 0, 1) := by decide +kernel
theorem d_M_good_104 : decode b_M_good 104 = .ok (.getfield 67, 3) := by decide +kernel
theorem d_M_good_107 : decode b_M_good 107 = .ok (.iload 4, 2) := by decide +kernel
theorem d_M_good_109 : decode b_M_good 109 = .ok (.iastore, 1) := by decide +kernel
theorem d_M_good_110 : decode b_M_good 110 = .ok (.aload_n 0, 1) := by decide +kernel
theorem d_M_good_111 : decode b_M_good 111 = .ok (.getfield 28, 3) := by decide +kernel
theorem d_M_good_114 : decode b_M_good 114 = .ok (.aload_n 0, 1) := by decide +kernel
theorem d_M_good_115 : decode b_M_good 115 = .ok (.getfield 67, 3) := by decide +kernel
theorem d_M_good_118 : decode b_M_good 118 = .ok (.iload 5, 2) := by decide +kernel
theorem d_M_good_120 : decode b_M_good 120 = .ok (.bastore, 1) := by decide +kernel
theorem d_M_good_121 : decode b_M_good 121 = .ok (.aload_n 0, 1) := by decide +kernel
theorem d_M_good_122 : decode b_M_good 122 = .ok (.getfield 32, 3) := by decide +kernel
theorem d_M_good_125 : decode b_M_good 125 = .ok (.aload_n 0, 1) := by decide +kernel
theorem d_M_good_126 : decode b_M_good 126 = .ok (.getfield 67, 3) := by decide +kernel
theorem d_M_good_129 : decode b_M_good 129 = .ok (.iload 6, 2) := by decide +kernel
theorem d_M_good_131 : decode b_M_good 131 = .ok (.bastore, 1) := by decide +kernel
theorem d_M_good_132 : decode b_M_good 132 = .ok (.aload_n 0, 1) := by decide +kernel
theorem d_M_good_133 : decode b_M_good 133 = .ok (.dup, 1) := by decide +kernel
theorem d_M_good_134 : decode b_M_good 134 = .ok (.getfield 67, 3) := by decide +kernel
theorem d_M_good_137 : decode b_M_good 137 = .ok (.iconst 1, 1) := by decide +kernel
theorem d_M_good_138 : decode b_M_good 138 = .ok (.iadd, 1) := by decide +kernel
theorem d_M_good_139 : decode b_M_good 139 = .ok (.putfield 67, 3) := by decide +kernel
theorem d_M_good_142 : decode b_M_good 142 = .ok (.aload_n 0, 1) := by decide +kernel
theorem d_M_good_143 : decode b_M_good 143 = .ok (.getfield 67, 3) := by decide +kernel
theorem d_M_good_146 : decode b_M_good 146 = .ok (.iconst 1, 1) := by decide +kernel
theorem d_M_good_147 : decode b_M_good 147 = .ok (.isub, 1) := by decide +kernel
theorem d_M_good_148 : decode b_M_good 148 = .ok (.ireturn, 1) := by decide +kernel
theorem d_M_refuse_0 : decode b_M_refuse 0 = .ok (.aload_n 0, 1) := by decide +kernel
theorem d_M_refuse_1 : decode b_M_refuse 1 = .ok (.iload_n 1, 1) := by decide +kernel
theorem d_M_refuse_2 : decode b_M_refuse 2 = .ok (.putfield 63, 3) := by decide +kernel
theorem d_M_refuse_5 : decode b_M_refuse 5 = .ok (.iconst 0, 1) := by decide +kernel
theorem d_M_refuse_6 : decode b_M_refuse 6 = .ok (.ireturn, 1) := by decide +kernel
theorem d_M_exempt_0 : decode b_M_exempt 0 = .ok (.aload_n 0, 1) := by decide +kernel
theorem d_M_exempt_1 : decode b_M_exempt 1 = .ok (.iconst 0, 1) := by decide +kernel
theorem d_M_exempt_2 : decode b_M_exempt 2 = .ok (.putfield 63, 3) := by decide +kernel
theorem d_M_exempt_5 : decode b_M_exempt 5 = .ok (.aload_n 0, 1) := by decide +kernel
theorem d_M_exempt_6 : decode b_M_exempt 6 = .ok (.iload_n 1, 1) := by decide +kernel
theorem d_M_exempt_7 : decode b_M_exempt 7 = .ok (.invokevirtual 99, 3) := by decide +kernel
theorem d_M_exempt_10 : decode b_M_exempt 10 = .ok (.ifCond .eq 35, 3) := by decide +kernel
theorem d_M_exempt_13 : decode b_M_exempt 13 = .ok (.iload_n 2, 1) := by decide +kernel
theorem d_M_exempt_14 : decode b_M_exempt 14 = .ok (.invokestatic 80, 3) := by decide +kernel
theorem d_M_exempt_17 : decode b_M_exempt 17 = .ok (.ifCond .eq 28, 3) := by decide +kernel
theorem d_M_exempt_20 : decode b_M_exempt 20 = .ok (.iload_n 3, 1) := by decide +kernel
theorem d_M_exempt_21 : decode b_M_exempt 21 = .ok (.invokestatic 80, 3) := by decide +kernel
theorem d_M_exempt_24 : decode b_M_exempt 24 = .ok (.ifCond .eq 21, 3) := by decide +kernel
theorem d_M_exempt_27 : decode b_M_exempt 27 = .ok (.aload_n 0, 1) := by decide +kernel
theorem d_M_exempt_28 : decode b_M_exempt 28 = .ok (.getfield 35, 3) := by decide +kernel
theorem d_M_exempt_31 : decode b_M_exempt 31 = .ok (.bipush 81, 2) := by decide +kernel
theorem d_M_exempt_33 : decode b_M_exempt 33 = .ok (.iload_n 1, 1) := by decide +kernel
theorem d_M_exempt_34 : decode b_M_exempt 34 = .ok (.imul, 1) := by decide +kernel
theorem d_M_exempt_35 : decode b_M_exempt 35 = .ok (.iload_n 2, 1) := by decide +kernel
theorem d_M_exempt_36 : decode b_M_exempt 36 = .ok (.iload_n 3, 1) := by decide +kernel
theorem d_M_exempt_37 : decode b_M_exempt 37 = .ok (.invokestatic 84, 3) := by decide +kernel
theorem d_M_exempt_40 : decode b_M_exempt 40 = .ok (.iadd, 1) := by decide +kernel
theorem d_M_exempt_41 : decode b_M_exempt 41 = .ok (.baload, 1) := by decide +kernel
theorem d_M_exempt_42 : decode b_M_exempt 42 = .ok (.ifCond .eq 5, 3) := by decide +kernel
theorem d_M_exempt_45 : decode b_M_exempt 45 = .ok (.iconst 0, 1) := by decide +kernel
theorem d_M_exempt_46 : decode b_M_exempt 46 = .ok (.ireturn, 1) := by decide +kernel
theorem d_M_exempt_47 : decode b_M_exempt 47 = .ok (.aload_n 0, 1) := by decide +kernel
theorem d_M_exempt_48 : decode b_M_exempt 48 = .ok (.getfield 35, 3) := by decide +kernel
theorem d_M_exempt_51 : decode b_M_exempt 51 = .ok (.bipush 81, 2) := by decide +kernel
theorem d_M_exempt_53 : decode b_M_exempt 53 = .ok (.iload_n 1, 1) := by decide +kernel
theorem d_M_exempt_54 : decode b_M_exempt 54 = .ok (.imul, 1) := by decide +kernel
theorem d_M_exempt_55 : decode b_M_exempt 55 = .ok (.iload_n 2, 1) := by decide +kernel
theorem d_M_exempt_56 : decode b_M_exempt 56 = .ok (.iload_n 3, 1) := by decide +kernel
theorem d_M_exempt_57 : decode b_M_exempt 57 = .ok (.invokestatic 84, 3) := by decide +kernel
theorem d_M_exempt_60 : decode b_M_exempt 60 = .ok (.iadd, 1) := by decide +kernel
theorem d_M_exempt_61 : decode b_M_exempt 61 = .ok (.iconst 1, 1) := by decide +kernel
theorem d_M_exempt_62 : decode b_M_exempt 62 = .ok (.bastore, 1) := by decide +kernel
theorem d_M_exempt_63 : decode b_M_exempt 63 = .ok (.aload_n 0, 1) := by decide +kernel
theorem d_M_exempt_64 : decode b_M_exempt 64 = .ok (.getfield 35, 3) := by decide +kernel
theorem d_M_exempt_67 : decode b_M_exempt 67 = .ok (.bipush 81, 2) := by decide +kernel
theorem d_M_exempt_69 : decode b_M_exempt 69 = .ok (.iload_n 1, 1) := by decide +kernel
theorem d_M_exempt_70 : decode b_M_exempt 70 = .ok (.imul, 1) := by decide +kernel
theorem d_M_exempt_71 : decode b_M_exempt 71 = .ok (.iload_n 3, 1) := by decide +kernel
theorem d_M_exempt_72 : decode b_M_exempt 72 = .ok (.iload_n 2, 1) := by decide +kernel
theorem d_M_exempt_73 : decode b_M_exempt 73 = .ok (.invokestatic 84, 3) := by decide +kernel
theorem d_M_exempt_76 : decode b_M_exempt 76 = .ok (.iadd, 1) := by decide +kernel
theorem d_M_exempt_77 : decode b_M_exempt 77 = .ok (.iconst 1, 1) := by decide +kernel
theorem d_M_exempt_78 : decode b_M_exempt 78 = .ok (.bastore, 1) := by decide +kernel
theorem d_M_exempt_79 : decode b_M_exempt 79 = .ok (.iconst 1, 1) := by decide +kernel
theorem d_M_exempt_80 : decode b_M_exempt 80 = .ok (.ireturn, 1) := by decide +kernel
theorem d_M_isGood_0 : decode b_M_isGood 0 = .ok (.iload_n 1, 1) := by decide +kernel
theorem d_M_isGood_1 : decode b_M_isGood 1 = .ok (.ifCond .lt 15, 3) := by decide +kernel
theorem d_M_isGood_4 : decode b_M_isGood 4 = .ok (.iload_n 1, 1) := by decide +kernel
theorem d_M_isGood_5 : decode b_M_isGood 5 = .ok (.aload_n 0, 1) := by decide +kernel
theorem d_M_isGood_6 : decode b_M_isGood 6 = .ok (.getfield 67, 3) := by decide +kernel
theorem d_M_isGood_9 : decode b_M_isGood 9 = .ok (.if_icmp .ge 7, 3) := by decide +kernel
theorem d_M_isGood_12 : decode b_M_isGood 12 = .ok (.iconst 1, 1) := by decide +kernel
theorem d_M_isGood_13 : decode b_M_isGood 13 = .ok (.goto 4, 3) := by decide +kernel
theorem d_M_isGood_16 : decode b_M_isGood 16 = .ok (.iconst 0, 1) := by decide +kernel
theorem d_M_isGood_17 : decode b_M_isGood 17 = .ok (.ireturn, 1) := by decide +kernel
theorem d_M_box_0 : decode b_M_box 0 = .ok (.aload_n 0, 1) := by decide +kernel
theorem d_M_box_1 : decode b_M_box 1 = .ok (.iload_n 1, 1) := by decide +kernel
theorem d_M_box_2 : decode b_M_box 2 = .ok (.invokevirtual 99, 3) := by decide +kernel
theorem d_M_box_5 : decode b_M_box 5 = .ok (.ifCond .eq 14, 3) := by decide +kernel
theorem d_M_box_8 : decode b_M_box 8 = .ok (.iload_n 2, 1) := by decide +kernel
theorem d_M_box_9 : decode b_M_box 9 = .ok (.iconst 1, 1) := by decide +kernel
theorem d_M_box_10 : decode b_M_box 10 = .ok (.sipush 30000, 3) := by decide +kernel
theorem d_M_box_13 : decode b_M_box 13 = .ok (.invokestatic 73, 3) := by decide +kernel
theorem d_M_box_16 : decode b_M_box 16 = .ok (.ifCond .ne 9, 3) := by decide +kernel
theorem d_M_box_19 : decode b_M_box 19 = .ok (.aload_n 0, 1) := by decide +kernel
theorem d_M_box_20 : decode b_M_box 20 = .ok (.iconst 1, 1) := by decide +kernel
theorem d_M_box_21 : decode b_M_box 21 = .ok (.invokevirtual 95, 3) := by decide +kernel
theorem d_M_box_24 : decode b_M_box 24 = .ok (.ireturn, 1) := by decide +kernel
theorem d_M_box_25 : decode b_M_box 25 = .ok (.aload_n 0, 1) := by decide +kernel
theorem d_M_box_26 : decode b_M_box 26 = .ok (.getfield 70, 3) := by decide +kernel
theorem d_M_box_29 : decode b_M_box 29 = .ok (.bipush 12, 2) := by decide +kernel
theorem d_M_box_31 : decode b_M_box 31 = .ok (.if_icmp .ne 9, 3) := by decide +kernel
theorem d_M_box_34 : decode b_M_box 34 = .ok (.aload_n 0, 1) := by decide +kernel
theorem d_M_box_35 : decode b_M_box 35 = .ok (.iconst 2, 1) := by decide +kernel
theorem d_M_box_36 : decode b_M_box 36 = .ok (.invokevirtual 95, 3) := by decide +kernel
theorem d_M_box_39 : decode b_M_box 39 = .ok (.ireturn, 1) := by decide +kernel
theorem d_M_box_40 : decode b_M_box 40 = .ok (.aload_n 0, 1) := by decide +kernel
theorem d_M_box_41 : decode b_M_box 41 = .ok (.iconst 0, 1) := by decide +kernel
theorem d_M_box_42 : decode b_M_box 42 = .ok (.putfield 63, 3) := by decide +kernel
theorem d_M_box_45 : decode b_M_box 45 = .ok (.aload_n 0, 1) := by decide +kernel
theorem d_M_box_46 : decode b_M_box 46 = .ok (.aload_n 0, 1) := by decide +kernel
theorem d_M_box_47 : decode b_M_box 47 = .ok (.getfield 70, 3) := by decide +kernel
theorem d_M_box_50 : decode b_M_box 50 = .ok (.iload_n 1, 1) := by decide +kernel
theorem d_M_box_51 : decode b_M_box 51 = .ok (.iload_n 2, 1) := by decide +kernel
theorem d_M_box_52 : decode b_M_box 52 = .ok (.invokevirtual 102, 3) := by decide +kernel
theorem d_M_box_55 : decode b_M_box 55 = .ok (.aload_n 0, 1) := by decide +kernel
theorem d_M_box_56 : decode b_M_box 56 = .ok (.dup, 1) := by decide +kernel
theorem d_M_box_57 : decode b_M_box 57 = .ok (.getfield 70, 3) := by decide +kernel
theorem d_M_box_60 : decode b_M_box 60 = .ok (.iconst 1, 1) := by decide +kernel
theorem d_M_box_61 : decode b_M_box 61 = .ok (.iadd, 1) := by decide +kernel
theorem d_M_box_62 : decode b_M_box 62 = .ok (.putfield 70, 3) := by decide +kernel
theorem d_M_box_65 : decode b_M_box 65 = .ok (.aload_n 0, 1) := by decide +kernel
theorem d_M_box_66 : decode b_M_box 66 = .ok (.getfield 70, 3) := by decide +kernel
theorem d_M_box_69 : decode b_M_box 69 = .ok (.iconst 1, 1) := by decide +kernel
theorem d_M_box_70 : decode b_M_box 70 = .ok (.isub, 1) := by decide +kernel
theorem d_M_box_71 : decode b_M_box 71 = .ok (.ireturn, 1) := by decide +kernel
theorem d_M_adds_0 : decode b_M_adds 0 = .ok (.aload_n 0, 1) := by decide +kernel
theorem d_M_adds_1 : decode b_M_adds 1 = .ok (.getfield 53, 3) := by decide +kernel
theorem d_M_adds_4 : decode b_M_adds 4 = .ok (.iconst 4, 1) := by decide +kernel
theorem d_M_adds_5 : decode b_M_adds 5 = .ok (.iload_n 1, 1) := by decide +kernel
theorem d_M_adds_6 : decode b_M_adds 6 = .ok (.imul, 1) := by decide +kernel
theorem d_M_adds_7 : decode b_M_adds 7 = .ok (.aload_n 0, 1) := by decide +kernel
theorem d_M_adds_8 : decode b_M_adds 8 = .ok (.getfield 38, 3) := by decide +kernel
theorem d_M_adds_11 : decode b_M_adds 11 = .ok (.iload_n 1, 1) := by decide +kernel
theorem d_M_adds_12 : decode b_M_adds 12 = .ok (.iaload, 1) := by decide +kernel
theorem d_M_adds_13 : decode b_M_adds 13 = .ok (.iadd, 1) := by decide +kernel
theorem d_M_adds_14 : decode b_M_adds 14 = .ok (.iload_n 2, 1) := by decide +kernel
theorem d_M_adds_15 : decode b_M_adds 15 = .ok (.iastore, 1) := by decide +kernel
theorem d_M_adds_16 : decode b_M_adds 16 = .ok (.aload_n 0, 1) := by decide +kernel
theorem d_M_adds_17 : decode b_M_adds 17 = .ok (.getfield 56, 3) := by decide +kernel
theorem d_M_adds_20 : decode b_M_adds 20 = .ok (.iconst 4, 1) := by decide +kernel
theorem d_M_adds_21 : decode b_M_adds 21 = .ok (.iload_n 1, 1) := by decide +kernel
theorem d_M_adds_22 : decode b_M_adds 22 = .ok (.imul, 1) := by decide +kernel
theorem d_M_adds_23 : decode b_M_adds 23 = .ok (.aload_n 0, 1) := by decide +kernel
theorem d_M_adds_24 : decode b_M_adds 24 = .ok (.getfield 38, 3) := by decide +kernel
theorem d_M_adds_27 : decode b_M_adds 27 = .ok (.iload_n 1, 1) := by decide +kernel
theorem d_M_adds_28 : decode b_M_adds 28 = .ok (.iaload, 1) := by decide +kernel
theorem d_M_adds_29 : decode b_M_adds 29 = .ok (.iadd, 1) := by decide +kernel
theorem d_M_adds_30 : decode b_M_adds 30 = .ok (.iload_n 3, 1) := by decide +kernel
theorem d_M_adds_31 : decode b_M_adds 31 = .ok (.iastore, 1) := by decide +kernel
theorem d_M_adds_32 : decode b_M_adds 32 = .ok (.aload_n 0, 1) := by decide +kernel
theorem d_M_adds_33 : decode b_M_adds 33 = .ok (.getfield 38, 3) := by decide +kernel
theorem d_M_adds_36 : decode b_M_adds 36 = .ok (.iload_n 1, 1) := by decide +kernel
theorem d_M_adds_37 : decode b_M_adds 37 = .ok (.dup2, 1) := by decide +kernel
theorem d_M_adds_38 : decode b_M_adds 38 = .ok (.iaload, 1) := by decide +kernel
theorem d_M_adds_39 : decode b_M_adds 39 = .ok (.iconst 1, 1) := by decide +kernel
theorem d_M_adds_40 : decode b_M_adds 40 = .ok (.iadd, 1) := by decide +kernel
theorem d_M_adds_41 : decode b_M_adds 41 = .ok (.iastore, 1) := by decide +kernel
theorem d_M_adds_42 : decode b_M_adds 42 = .ok (.return_, 1) := by decide +kernel
theorem d_M_also_0 : decode b_M_also 0 = .ok (.aload_n 0, 1) := by decide +kernel
theorem d_M_also_1 : decode b_M_also 1 = .ok (.iload_n 1, 1) := by decide +kernel
theorem d_M_also_2 : decode b_M_also 2 = .ok (.invokevirtual 106, 3) := by decide +kernel
theorem d_M_also_5 : decode b_M_also 5 = .ok (.ifCond .eq 31, 3) := by decide +kernel
theorem d_M_also_8 : decode b_M_also 8 = .ok (.aload_n 0, 1) := by decide +kernel
theorem d_M_also_9 : decode b_M_also 9 = .ok (.iload_n 2, 1) := by decide +kernel
theorem d_M_also_10 : decode b_M_also 10 = .ok (.invokevirtual 99, 3) := by decide +kernel
theorem d_M_also_13 : decode b_M_also 13 = .ok (.ifCond .eq 23, 3) := by decide +kernel
theorem d_M_also_16 : decode b_M_also 16 = .ok (.iload_n 3, 1) := by decide +kernel
theorem d_M_also_17 : decode b_M_also 17 = .ok (.iconst 1, 1) := by decide +kernel
theorem d_M_also_18 : decode b_M_also 18 = .ok (.sipush 30000, 3) := by decide +kernel
theorem d_M_also_21 : decode b_M_also 21 = .ok (.invokestatic 73, 3) := by decide +kernel
theorem d_M_also_24 : decode b_M_also 24 = .ok (.ifCond .eq 12, 3) := by decide +kernel
theorem d_M_also_27 : decode b_M_also 27 = .ok (.aload_n 0, 1) := by decide +kernel
theorem d_M_also_28 : decode b_M_also 28 = .ok (.iload_n 1, 1) := by decide +kernel
theorem d_M_also_29 : decode b_M_also 29 = .ok (.iload_n 2, 1) := by decide +kernel
theorem d_M_also_30 : decode b_M_also 30 = .ok (.invokevirtual 109, 3) := by decide +kernel
theorem d_M_also_33 : decode b_M_also 33 = .ok (.ifCond .eq 9, 3) := by decide +kernel
theorem d_M_also_36 : decode b_M_also 36 = .ok (.aload_n 0, 1) := by decide +kernel
theorem d_M_also_37 : decode b_M_also 37 = .ok (.iconst 1, 1) := by decide +kernel
theorem d_M_also_38 : decode b_M_also 38 = .ok (.invokevirtual 95, 3) := by decide +kernel
theorem d_M_also_41 : decode b_M_also 41 = .ok (.ireturn, 1) := by decide +kernel
theorem d_M_also_42 : decode b_M_also 42 = .ok (.aload_n 0, 1) := by decide +kernel
theorem d_M_also_43 : decode b_M_also 43 = .ok (.getfield 41, 3) := by decide +kernel
theorem d_M_also_46 : decode b_M_also 46 = .ok (.iload_n 1, 1) := by decide +kernel
theorem d_M_also_47 : decode b_M_also 47 = .ok (.iaload, 1) := by decide +kernel
theorem d_M_also_48 : decode b_M_also 48 = .ok (.iconst (-1), 1) := by decide +kernel
theorem d_M_also_49 : decode b_M_also 49 = .ok (.if_icmp .ne 13, 3) := by decide +kernel
theorem d_M_also_52 : decode b_M_also 52 = .ok (.aload_n 0, 1) := by decide +kernel
theorem d_M_also_53 : decode b_M_also 53 = .ok (.getfield 38, 3) := by decide +kernel
theorem d_M_also_56 : decode b_M_also 56 = .ok (.iload_n 1, 1) := by decide +kernel
theorem d_M_also_57 : decode b_M_also 57 = .ok (.iaload, 1) := by decide +kernel
theorem d_M_also_58 : decode b_M_also 58 = .ok (.iconst 4, 1) := by decide +kernel
theorem d_M_also_59 : decode b_M_also 59 = .ok (.if_icmp .ne 9, 3) := by decide +kernel
theorem d_M_also_62 : decode b_M_also 62 = .ok (.aload_n 0, 1) := by decide +kernel
theorem d_M_also_63 : decode b_M_also 63 = .ok (.iconst 2, 1) := by decide +kernel
theorem d_M_also_64 : decode b_M_also 64 = .ok (.invokevirtual 95, 3) := by decide +kernel
theorem d_M_also_67 : decode b_M_also 67 = .ok (.ireturn, 1) := by decide +kernel
theorem d_M_also_68 : decode b_M_also 68 = .ok (.aload_n 0, 1) := by decide +kernel
theorem d_M_also_69 : decode b_M_also 69 = .ok (.iconst 0, 1) := by decide +kernel
theorem d_M_also_70 : decode b_M_also 70 = .ok (.putfield 63, 3) := by decide +kernel
theorem d_M_also_73 : decode b_M_also 73 = .ok (.aload_n 0, 1) := by decide +kernel
theorem d_M_also_74 : decode b_M_also 74 = .ok (.iload_n 1, 1) := by decide +kernel
theorem d_M_also_75 : decode b_M_also 75 = .ok (.iload_n 2, 1) := by decide +kernel
theorem d_M_also_76 : decode b_M_also 76 = .ok (.iload_n 3, 1) := by decide +kernel
theorem d_M_also_77 : decode b_M_also 77 = .ok (.invokevirtual 102, 3) := by decide +kernel
theorem d_M_also_80 : decode b_M_also 80 = .ok (.aload_n 0, 1) := by decide +kernel
theorem d_M_also_81 : decode b_M_also 81 = .ok (.getfield 38, 3) := by decide +kernel
theorem d_M_also_84 : decode b_M_also 84 = .ok (.iload_n 1, 1) := by decide +kernel
theorem d_M_also_85 : decode b_M_also 85 = .ok (.iaload, 1) := by decide +kernel
theorem d_M_also_86 : decode b_M_also 86 = .ok (.ireturn, 1) := by decide +kernel
theorem d_M_isBox_0 : decode b_M_isBox 0 = .ok (.iload_n 1, 1) := by decide +kernel
theorem d_M_isBox_1 : decode b_M_isBox 1 = .ok (.ifCond .lt 15, 3) := by decide +kernel
theorem d_M_isBox_4 : decode b_M_isBox 4 = .ok (.iload_n 1, 1) := by decide +kernel
theorem d_M_isBox_5 : decode b_M_isBox 5 = .ok (.aload_n 0, 1) := by decide +kernel
theorem d_M_isBox_6 : decode b_M_isBox 6 = .ok (.getfield 70, 3) := by decide +kernel
theorem d_M_isBox_9 : decode b_M_isBox 9 = .ok (.if_icmp .ge 7, 3) := by decide +kernel
theorem d_M_isBox_12 : decode b_M_isBox 12 = .ok (.iconst 1, 1) := by decide +kernel
theorem d_M_isBox_13 : decode b_M_isBox 13 = .ok (.goto 4, 3) := by decide +kernel
theorem d_M_isBox_16 : decode b_M_isBox 16 = .ok (.iconst 0, 1) := by decide +kernel
theorem d_M_isBox_17 : decode b_M_isBox 17 = .ok (.ireturn, 1) := by decide +kernel
theorem d_M_has_0 : decode b_M_has 0 = .ok (.iconst 0, 1) := by decide +kernel
theorem d_M_has_1 : decode b_M_has 1 = .ok (.istore_n 3, 1) := by decide +kernel
theorem d_M_has_2 : decode b_M_has 2 = .ok (.iconst 4, 1) := by decide +kernel
theorem d_M_has_3 : decode b_M_has 3 = .ok (.iload_n 1, 1) := by decide +kernel
theorem d_M_has_4 : decode b_M_has 4 = .ok (.imul, 1) := by decide +kernel
theorem d_M_has_5 : decode b_M_has 5 = .ok (.istore 4, 2) := by decide +kernel
theorem d_M_has_7 : decode b_M_has 7 = .ok (.iload 4, 2) := by decide +kernel
theorem d_M_has_9 : decode b_M_has 9 = .ok (.iconst 4, 1) := by decide +kernel
theorem d_M_has_10 : decode b_M_has 10 = .ok (.iload_n 1, 1) := by decide +kernel
theorem d_M_has_11 : decode b_M_has 11 = .ok (.imul, 1) := by decide +kernel
theorem d_M_has_12 : decode b_M_has 12 = .ok (.aload_n 0, 1) := by decide +kernel
theorem d_M_has_13 : decode b_M_has 13 = .ok (.getfield 38, 3) := by decide +kernel
theorem d_M_has_16 : decode b_M_has 16 = .ok (.iload_n 1, 1) := by decide +kernel
theorem d_M_has_17 : decode b_M_has 17 = .ok (.iaload, 1) := by decide +kernel
theorem d_M_has_18 : decode b_M_has 18 = .ok (.iadd, 1) := by decide +kernel
theorem d_M_has_19 : decode b_M_has 19 = .ok (.if_icmp .ge 30, 3) := by decide +kernel
theorem d_M_has_22 : decode b_M_has 22 = .ok (.iload_n 3, 1) := by decide +kernel
theorem d_M_has_23 : decode b_M_has 23 = .ok (.ifCond .ne 14, 3) := by decide +kernel
theorem d_M_has_26 : decode b_M_has 26 = .ok (.aload_n 0, 1) := by decide +kernel
theorem d_M_has_27 : decode b_M_has 27 = .ok (.getfield 53, 3) := by decide +kernel
theorem d_M_has_30 : decode b_M_has 30 = .ok (.iload 4, 2) := by decide +kernel
theorem d_M_has_32 : decode b_M_has 32 = .ok (.iaload, 1) := by decide +kernel
theorem d_M_has_33 : decode b_M_has 33 = .ok (.iload_n 2, 1) := by decide +kernel
theorem d_M_has_34 : decode b_M_has 34 = .ok (.if_icmp .ne 7, 3) := by decide +kernel
theorem d_M_has_37 : decode b_M_has 37 = .ok (.iconst 1, 1) := by decide +kernel
theorem d_M_has_38 : decode b_M_has 38 = .ok (.goto 4, 3) := by decide +kernel
theorem d_M_has_41 : decode b_M_has 41 = .ok (.iconst 0, 1) := by decide +kernel
theorem d_M_has_42 : decode b_M_has 42 = .ok (.istore_n 3, 1) := by decide +kernel
theorem d_M_has_43 : decode b_M_has 43 = .ok (.iinc 4 1, 3) := by decide +kernel
theorem d_M_has_46 : decode b_M_has 46 = .ok (.goto (-39), 3) := by decide +kernel
theorem d_M_has_49 : decode b_M_has 49 = .ok (.iload_n 3, 1) := by decide +kernel
theorem d_M_has_50 : decode b_M_has 50 = .ok (.ireturn, 1) := by decide +kernel
theorem d_M_apart_0 : decode b_M_apart 0 = .ok (.aload_n 0, 1) := by decide +kernel
theorem d_M_apart_1 : decode b_M_apart 1 = .ok (.aload_n 0, 1) := by decide +kernel
theorem d_M_apart_2 : decode b_M_apart 2 = .ok (.iload_n 1, 1) := by decide +kernel
theorem d_M_apart_3 : decode b_M_apart 3 = .ok (.invokevirtual 106, 3) := by decide +kernel
theorem d_M_apart_6 : decode b_M_apart 6 = .ok (.ifCond .eq 20, 3) := by decide +kernel
theorem d_M_apart_9 : decode b_M_apart 9 = .ok (.aload_n 0, 1) := by decide +kernel
theorem d_M_apart_10 : decode b_M_apart 10 = .ok (.iload_n 2, 1) := by decide +kernel
theorem d_M_apart_11 : decode b_M_apart 11 = .ok (.invokevirtual 106, 3) := by decide +kernel
theorem d_M_apart_14 : decode b_M_apart 14 = .ok (.ifCond .eq 12, 3) := by decide +kernel
theorem d_M_apart_17 : decode b_M_apart 17 = .ok (.iload_n 1, 1) := by decide +kernel
theorem d_M_apart_18 : decode b_M_apart 18 = .ok (.iload_n 2, 1) := by decide +kernel
theorem d_M_apart_19 : decode b_M_apart 19 = .ok (.if_icmp .eq 7, 3) := by decide +kernel
theorem d_M_apart_22 : decode b_M_apart 22 = .ok (.iconst 0, 1) := by decide +kernel
theorem d_M_apart_23 : decode b_M_apart 23 = .ok (.goto 4, 3) := by decide +kernel
theorem d_M_apart_26 : decode b_M_apart 26 = .ok (.iconst 1, 1) := by decide +kernel
theorem d_M_apart_27 : decode b_M_apart 27 = .ok (.putfield 63, 3) := by decide +kernel
theorem d_M_apart_30 : decode b_M_apart 30 = .ok (.aload_n 0, 1) := by decide +kernel
theorem d_M_apart_31 : decode b_M_apart 31 = .ok (.getfield 63, 3) := by decide +kernel
theorem d_M_apart_34 : decode b_M_apart 34 = .ok (.ifCond .le 7, 3) := by decide +kernel
theorem d_M_apart_37 : decode b_M_apart 37 = .ok (.iconst 0, 1) := by decide +kernel
theorem d_M_apart_38 : decode b_M_apart 38 = .ok (.goto 9, 3) := by decide +kernel
theorem d_M_apart_41 : decode b_M_apart 41 = .ok (.aload_n 0, 1) := by decide +kernel
theorem d_M_apart_42 : decode b_M_apart 42 = .ok (.iload_n 1, 1) := by decide +kernel
theorem d_M_apart_43 : decode b_M_apart 43 = .ok (.iload_n 2, 1) := by decide +kernel
theorem d_M_apart_44 : decode b_M_apart 44 = .ok (.invokevirtual 126, 3) := by decide +kernel
theorem d_M_apart_47 : decode b_M_apart 47 = .ok (.ireturn, 1) := by decide +kernel
theorem d_M_strictest_0 : decode b_M_strictest 0 = .ok (.iconst 0, 1) := by decide +kernel
theorem d_M_strictest_1 : decode b_M_strictest 1 = .ok (.istore_n 3, 1) := by decide +kernel
theorem d_M_strictest_2 : decode b_M_strictest 2 = .ok (.iconst 4, 1) := by decide +kernel
theorem d_M_strictest_3 : decode b_M_strictest 3 = .ok (.iload_n 1, 1) := by decide +kernel
theorem d_M_strictest_4 : decode b_M_strictest 4 = .ok (.imul, 1) := by decide +kernel
theorem d_M_strictest_5 : decode b_M_strictest 5 = .ok (.istore 4, 2) := by decide +kernel
theorem d_M_strictest_7 : decode b_M_strictest 7 = .ok (.iload 4, 2) := by decide +kernel
theorem d_M_strictest_9 : decode b_M_strictest 9 = .ok (.iconst 4, 1) := by decide +kernel
theorem d_M_strictest_10 : decode b_M_strictest 10 = .ok (.iload_n 1, 1) := by decide +kernel
theorem d_M_strictest_11 : decode b_M_strictest 11 = .ok (.imul, 1) := by decide +kernel
theorem d_M_strictest_12 : decode b_M_strictest 12 = .ok (.aload_n 0, 1) := by decide +kernel
theorem d_M_strictest_13 : decode b_M_strictest 13 = .ok (.getfield 38, 3) := by decide +kernel
theorem d_M_strictest_16 : decode b_M_strictest 16 = .ok (.iload_n 1, 1) := by decide +kernel
theorem d_M_strictest_17 : decode b_M_strictest 17 = .ok (.iaload, 1) := by decide +kernel
theorem d_M_strictest_18 : decode b_M_strictest 18 = .ok (.iadd, 1) := by decide +kernel
theorem d_M_strictest_19 : decode b_M_strictest 19 = .ok (.if_icmp .ge 48, 3) := by decide +kernel
theorem d_M_strictest_22 : decode b_M_strictest 22 = .ok (.iconst 4, 1) := by decide +kernel
theorem d_M_strictest_23 : decode b_M_strictest 23 = .ok (.iload_n 2, 1) := by decide +kernel
theorem d_M_strictest_24 : decode b_M_strictest 24 = .ok (.imul, 1) := by decide +kernel
theorem d_M_strictest_25 : decode b_M_strictest 25 = .ok (.istore 5, 2) := by decide +kernel
theorem d_M_strictest_27 : decode b_M_strictest 27 = .ok (.iload 5, 2) := by decide +kernel
theorem d_M_strictest_29 : decode b_M_strictest 29 = .ok (.iconst 4, 1) := by decide +kernel
theorem d_M_strictest_30 : decode b_M_strictest 30 = .ok (.iload_n 2, 1) := by decide +kernel
theorem d_M_strictest_31 : decode b_M_strictest 31 = .ok (.imul, 1) := by decide +kernel
theorem d_M_strictest_32 : decode b_M_strictest 32 = .ok (.aload_n 0, 1) := by decide +kernel
