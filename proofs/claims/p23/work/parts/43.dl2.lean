theorem dL_sets_7 : decode cL_sets 7 = .ok (.iload_n 2, 1) := by decide +kernel
theorem dL_sets_8 : decode cL_sets 8 = .ok (.bipush 10, 2) := by decide +kernel
theorem dL_sets_10 : decode cL_sets 10 = .ok (.invokestatic 107, 3) := by decide +kernel
theorem dL_sets_13 : decode cL_sets 13 = .ok (.istore 7, 2) := by decide +kernel
theorem dL_sets_15 : decode cL_sets 15 = .ok (.iload 4, 2) := by decide +kernel
theorem dL_sets_17 : decode cL_sets 17 = .ok (.ifCond .eq 16, 3) := by decide +kernel
theorem dL_sets_20 : decode cL_sets 20 = .ok (.iload_n 2, 1) := by decide +kernel
theorem dL_sets_21 : decode cL_sets 21 = .ok (.iconst 4, 1) := by decide +kernel
theorem dL_sets_22 : decode cL_sets 22 = .ok (.ishr, 1) := by decide +kernel
theorem dL_sets_23 : decode cL_sets 23 = .ok (.bipush 7, 2) := by decide +kernel
theorem dL_sets_25 : decode cL_sets 25 = .ok (.invokestatic 107, 3) := by decide +kernel
theorem dL_sets_28 : decode cL_sets 28 = .ok (.iconst 1, 1) := by decide +kernel
theorem dL_sets_29 : decode cL_sets 29 = .ok (.isub, 1) := by decide +kernel
theorem dL_sets_30 : decode cL_sets 30 = .ok (.goto 10, 3) := by decide +kernel
theorem dL_sets_40 : decode cL_sets 40 = .ok (.istore 8, 2) := by decide +kernel
theorem dL_sets_42 : decode cL_sets 42 = .ok (.iload 8, 2) := by decide +kernel
theorem dL_sets_44 : decode cL_sets 44 = .ok (.ifCond .lt 9, 3) := by decide +kernel
theorem dL_sets_53 : decode cL_sets 53 = .ok (.iconst 1, 1) := by decide +kernel
theorem dL_sets_54 : decode cL_sets 54 = .ok (.goto 4, 3) := by decide +kernel
theorem dL_sets_58 : decode cL_sets 58 = .ok (.istore 9, 2) := by decide +kernel
theorem dL_sets_60 : decode cL_sets 60 = .ok (.iload 9, 2) := by decide +kernel
theorem dL_sets_62 : decode cL_sets 62 = .ok (.ifCond .ne 16, 3) := by decide +kernel
theorem dL_sets_78 : decode cL_sets 78 = .ok (.iconst 0, 1) := by decide +kernel
theorem dL_sets_79 : decode cL_sets 79 = .ok (.istore 10, 2) := by decide +kernel
theorem dL_sets_81 : decode cL_sets 81 = .ok (.iload 9, 2) := by decide +kernel
theorem dL_sets_83 : decode cL_sets 83 = .ok (.ifCond .eq 7, 3) := by decide +kernel
theorem dL_sets_86 : decode cL_sets 86 = .ok (.iconst 0, 1) := by decide +kernel
theorem dL_sets_87 : decode cL_sets 87 = .ok (.goto 9, 3) := by decide +kernel
theorem dL_sets_96 : decode cL_sets 96 = .ok (.istore 11, 2) := by decide +kernel
theorem dL_sets_98 : decode cL_sets 98 = .ok (.iload 7, 2) := by decide +kernel
theorem dL_sets_100 : decode cL_sets 100 = .ok (.iconst 4, 1) := by decide +kernel
theorem dL_sets_101 : decode cL_sets 101 = .ok (.if_icmp .ge 145, 3) := by decide +kernel
theorem dL_sets_104 : decode cL_sets 104 = .ok (.iload 4, 2) := by decide +kernel
theorem dL_sets_106 : decode cL_sets 106 = .ok (.ifCond .eq 14, 3) := by decide +kernel
theorem dL_sets_109 : decode cL_sets 109 = .ok (.iload_n 3, 1) := by decide +kernel
theorem dL_sets_110 : decode cL_sets 110 = .ok (.iconst 2, 1) := by decide +kernel
theorem dL_sets_111 : decode cL_sets 111 = .ok (.invokestatic 107, 3) := by decide +kernel
theorem dL_sets_114 : decode cL_sets 114 = .ok (.ldc 110, 2) := by decide +kernel
theorem dL_sets_116 : decode cL_sets 116 = .ok (.imul, 1) := by decide +kernel
theorem dL_sets_117 : decode cL_sets 117 = .ok (.goto 28, 3) := by decide +kernel
theorem dL_sets_145 : decode cL_sets 145 = .ok (.istore 12, 2) := by decide +kernel
theorem dL_sets_147 : decode cL_sets 147 = .ok (.aload_n 0, 1) := by decide +kernel
theorem dL_sets_148 : decode cL_sets 148 = .ok (.iconst 0, 1) := by decide +kernel
theorem dL_sets_149 : decode cL_sets 149 = .ok (.iload 8, 2) := by decide +kernel
theorem dL_sets_151 : decode cL_sets 151 = .ok (.iload 12, 2) := by decide +kernel
theorem dL_sets_153 : decode cL_sets 153 = .ok (.iconst 0, 1) := by decide +kernel
theorem dL_sets_154 : decode cL_sets 154 = .ok (.iconst 0, 1) := by decide +kernel
theorem dL_sets_155 : decode cL_sets 155 = .ok (.invokestatic 100, 3) := by decide +kernel
theorem dL_sets_158 : decode cL_sets 158 = .ok (.istore 13, 2) := by decide +kernel
theorem dL_sets_160 : decode cL_sets 160 = .ok (.iload 9, 2) := by decide +kernel
theorem dL_sets_162 : decode cL_sets 162 = .ok (.ifCond .ne 13, 3) := by decide +kernel
theorem dL_sets_175 : decode cL_sets 175 = .ok (.aload_n 0, 1) := by decide +kernel
theorem dL_sets_176 : decode cL_sets 176 = .ok (.iload_n 1, 1) := by decide +kernel
theorem dL_sets_177 : decode cL_sets 177 = .ok (.invokestatic 103, 3) := by decide +kernel
theorem dL_sets_180 : decode cL_sets 180 = .ok (.lload 5, 2) := by decide +kernel
theorem dL_sets_182 : decode cL_sets 182 = .ok (.lcmp, 1) := by decide +kernel
theorem dL_sets_183 : decode cL_sets 183 = .ok (.ifCond .ne 34, 3) := by decide +kernel
theorem dL_sets_186 : decode cL_sets 186 = .ok (.iload 13, 2) := by decide +kernel
theorem dL_sets_188 : decode cL_sets 188 = .ok (.iload 9, 2) := by decide +kernel
theorem dL_sets_190 : decode cL_sets 190 = .ok (.ifCond .eq 8, 3) := by decide +kernel
theorem dL_sets_193 : decode cL_sets 193 = .ok (.ldc 16, 2) := by decide +kernel
theorem dL_sets_195 : decode cL_sets 195 = .ok (.goto 15, 3) := by decide +kernel
theorem dL_sets_210 : decode cL_sets 210 = .ok (.if_icmp .ne 7, 3) := by decide +kernel
theorem dL_sets_213 : decode cL_sets 213 = .ok (.iconst 1, 1) := by decide +kernel
theorem dL_sets_214 : decode cL_sets 214 = .ok (.goto 4, 3) := by decide +kernel
theorem dL_sets_218 : decode cL_sets 218 = .ok (.ireturn, 1) := by decide +kernel
theorem dL_pays_0 : decode cL_pays 0 = .ok (.aload_n 0, 1) := by decide +kernel
theorem dL_pays_1 : decode cL_pays 1 = .ok (.iload_n 1, 1) := by decide +kernel
theorem dL_pays_2 : decode cL_pays 2 = .ok (.invokestatic 103, 3) := by decide +kernel
theorem dL_pays_5 : decode cL_pays 5 = .ok (.lstore 5, 2) := by decide +kernel
theorem dL_pays_7 : decode cL_pays 7 = .ok (.iload_n 2, 1) := by decide +kernel
theorem dL_pays_8 : decode cL_pays 8 = .ok (.bipush 8, 2) := by decide +kernel
theorem dL_pays_10 : decode cL_pays 10 = .ok (.invokestatic 107, 3) := by decide +kernel
theorem dL_pays_13 : decode cL_pays 13 = .ok (.ifCond .ne 175, 3) := by decide +kernel
theorem dL_pays_16 : decode cL_pays 16 = .ok (.iload 4, 2) := by decide +kernel
theorem dL_pays_18 : decode cL_pays 18 = .ok (.ifCond .eq 15, 3) := by decide +kernel
theorem dL_pays_33 : decode cL_pays 33 = .ok (.iload_n 3, 1) := by decide +kernel
theorem dL_pays_34 : decode cL_pays 34 = .ok (.iload_n 1, 1) := by decide +kernel
theorem dL_pays_35 : decode cL_pays 35 = .ok (.ifCond .ne 7, 3) := by decide +kernel
theorem dL_pays_38 : decode cL_pays 38 = .ok (.iconst 1, 1) := by decide +kernel
theorem dL_pays_39 : decode cL_pays 39 = .ok (.goto 4, 3) := by decide +kernel
theorem dL_pays_43 : decode cL_pays 43 = .ok (.invokestatic 107, 3) := by decide +kernel
theorem dL_pays_46 : decode cL_pays 46 = .ok (.istore 7, 2) := by decide +kernel
theorem dL_pays_48 : decode cL_pays 48 = .ok (.iload 7, 2) := by decide +kernel
theorem dL_pays_50 : decode cL_pays 50 = .ok (.ifCond .lt 9, 3) := by decide +kernel
theorem dL_pays_53 : decode cL_pays 53 = .ok (.iload 7, 2) := by decide +kernel
theorem dL_pays_55 : decode cL_pays 55 = .ok (.iload_n 1, 1) := by decide +kernel
theorem dL_pays_56 : decode cL_pays 56 = .ok (.if_icmp .lt 7, 3) := by decide +kernel
theorem dL_pays_59 : decode cL_pays 59 = .ok (.iconst 1, 1) := by decide +kernel
theorem dL_pays_60 : decode cL_pays 60 = .ok (.goto 4, 3) := by decide +kernel
theorem dL_pays_64 : decode cL_pays 64 = .ok (.istore 8, 2) := by decide +kernel
theorem dL_pays_66 : decode cL_pays 66 = .ok (.iload 8, 2) := by decide +kernel
theorem dL_pays_68 : decode cL_pays 68 = .ok (.ifCond .eq 7, 3) := by decide +kernel
theorem dL_pays_71 : decode cL_pays 71 = .ok (.iconst 3, 1) := by decide +kernel
theorem dL_pays_72 : decode cL_pays 72 = .ok (.goto 9, 3) := by decide +kernel
theorem dL_pays_81 : decode cL_pays 81 = .ok (.istore 9, 2) := by decide +kernel
theorem dL_pays_83 : decode cL_pays 83 = .ok (.aload_n 0, 1) := by decide +kernel
theorem dL_pays_84 : decode cL_pays 84 = .ok (.bipush 9, 2) := by decide +kernel
theorem dL_pays_86 : decode cL_pays 86 = .ok (.iload 7, 2) := by decide +kernel
theorem dL_pays_88 : decode cL_pays 88 = .ok (.iconst 0, 1) := by decide +kernel
theorem dL_pays_89 : decode cL_pays 89 = .ok (.iconst 0, 1) := by decide +kernel
theorem dL_pays_90 : decode cL_pays 90 = .ok (.iconst 0, 1) := by decide +kernel
theorem dL_pays_91 : decode cL_pays 91 = .ok (.invokestatic 100, 3) := by decide +kernel
theorem dL_pays_94 : decode cL_pays 94 = .ok (.istore 10, 2) := by decide +kernel
theorem dL_pays_96 : decode cL_pays 96 = .ok (.iload 9, 2) := by decide +kernel
theorem dL_pays_98 : decode cL_pays 98 = .ok (.iconst 3, 1) := by decide +kernel
theorem dL_pays_99 : decode cL_pays 99 = .ok (.if_icmp .ne 39, 3) := by decide +kernel
theorem dL_pays_102 : decode cL_pays 102 = .ok (.iload 10, 2) := by decide +kernel
theorem dL_pays_104 : decode cL_pays 104 = .ok (.iload 8, 2) := by decide +kernel
theorem dL_pays_106 : decode cL_pays 106 = .ok (.ifCond .eq 8, 3) := by decide +kernel
theorem dL_pays_109 : decode cL_pays 109 = .ok (.ldc 16, 2) := by decide +kernel
theorem dL_pays_111 : decode cL_pays 111 = .ok (.goto 5, 3) := by decide +kernel
theorem dL_pays_116 : decode cL_pays 116 = .ok (.if_icmp .ne 18, 3) := by decide +kernel
theorem dL_pays_119 : decode cL_pays 119 = .ok (.aload_n 0, 1) := by decide +kernel
theorem dL_pays_120 : decode cL_pays 120 = .ok (.iload_n 1, 1) := by decide +kernel
theorem dL_pays_121 : decode cL_pays 121 = .ok (.invokestatic 103, 3) := by decide +kernel
theorem dL_pays_124 : decode cL_pays 124 = .ok (.lload 5, 2) := by decide +kernel
theorem dL_pays_126 : decode cL_pays 126 = .ok (.lcmp, 1) := by decide +kernel
theorem dL_pays_127 : decode cL_pays 127 = .ok (.ifCond .ne 7, 3) := by decide +kernel
theorem dL_pays_130 : decode cL_pays 130 = .ok (.iconst 1, 1) := by decide +kernel
theorem dL_pays_131 : decode cL_pays 131 = .ok (.goto 43, 3) := by decide +kernel
theorem dL_pays_174 : decode cL_pays 174 = .ok (.istore 11, 2) := by decide +kernel
theorem dL_pays_176 : decode cL_pays 176 = .ok (.iload 11, 2) := by decide +kernel
theorem dL_pays_178 : decode cL_pays 178 = .ok (.ifCond .eq 7, 3) := by decide +kernel
theorem dL_pays_181 : decode cL_pays 181 = .ok (.iload_n 1, 1) := by decide +kernel
theorem dL_pays_182 : decode cL_pays 182 = .ok (.goto 5, 3) := by decide +kernel
theorem dL_pays_187 : decode cL_pays 187 = .ok (.ireturn, 1) := by decide +kernel
theorem dL_law_0 : decode cL_law 0 = .ok (.new 24, 3) := by decide +kernel
theorem dL_law_3 : decode cL_law 3 = .ok (.dup, 1) := by decide +kernel
theorem dL_law_4 : decode cL_law 4 = .ok (.invokespecial 121, 3) := by decide +kernel
theorem dL_law_7 : decode cL_law 7 = .ok (.astore_n 1, 1) := by decide +kernel
theorem dL_law_8 : decode cL_law 8 = .ok (.iconst 0, 1) := by decide +kernel
theorem dL_law_9 : decode cL_law 9 = .ok (.istore_n 2, 1) := by decide +kernel
theorem dL_law_10 : decode cL_law 10 = .ok (.aload_n 1, 1) := by decide +kernel
theorem dL_law_11 : decode cL_law 11 = .ok (.iconst 0, 1) := by decide +kernel
theorem dL_law_12 : decode cL_law 12 = .ok (.invokestatic 103, 3) := by decide +kernel
theorem dL_law_15 : decode cL_law 15 = .ok (.aload_n 1, 1) := by decide +kernel
theorem dL_law_16 : decode cL_law 16 = .ok (.iconst 0, 1) := by decide +kernel
theorem dL_law_17 : decode cL_law 17 = .ok (.invokestatic 103, 3) := by decide +kernel
theorem dL_law_20 : decode cL_law 20 = .ok (.lcmp, 1) := by decide +kernel
theorem dL_law_21 : decode cL_law 21 = .ok (.ifCond .ne 29, 3) := by decide +kernel
theorem dL_law_24 : decode cL_law 24 = .ok (.aload_n 1, 1) := by decide +kernel
theorem dL_law_25 : decode cL_law 25 = .ok (.iconst 0, 1) := by decide +kernel
theorem dL_law_26 : decode cL_law 26 = .ok (.invokestatic 122, 3) := by decide +kernel
theorem dL_law_29 : decode cL_law 29 = .ok (.ifCond .eq 21, 3) := by decide +kernel
theorem dL_law_32 : decode cL_law 32 = .ok (.aload_n 1, 1) := by decide +kernel
theorem dL_law_33 : decode cL_law 33 = .ok (.invokevirtual 113, 3) := by decide +kernel
theorem dL_law_36 : decode cL_law 36 = .ok (.ifCond .ne 14, 3) := by decide +kernel
theorem dL_law_39 : decode cL_law 39 = .ok (.aload_n 1, 1) := by decide +kernel
theorem dL_law_40 : decode cL_law 40 = .ok (.invokevirtual 118, 3) := by decide +kernel
