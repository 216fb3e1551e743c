theorem dL_cell_0 : decode cL_cell 0 = .ok (.iload_n 1, 1) := by decide +kernel
theorem dL_cell_1 : decode cL_cell 1 = .ok (.aload_n 0, 1) := by decide +kernel
theorem dL_cell_2 : decode cL_cell 2 = .ok (.arraylength, 1) := by decide +kernel
theorem dL_cell_3 : decode cL_cell 3 = .ok (.if_icmp .ge 9, 3) := by decide +kernel
theorem dL_cell_6 : decode cL_cell 6 = .ok (.aload_n 0, 1) := by decide +kernel
theorem dL_cell_7 : decode cL_cell 7 = .ok (.iload_n 1, 1) := by decide +kernel
theorem dL_cell_8 : decode cL_cell 8 = .ok (.iaload, 1) := by decide +kernel
theorem dL_cell_9 : decode cL_cell 9 = .ok (.goto 11, 3) := by decide +kernel
theorem dL_cell_20 : decode cL_cell 20 = .ok (.istore_n 2, 1) := by decide +kernel
theorem dL_cell_21 : decode cL_cell 21 = .ok (.iload_n 2, 1) := by decide +kernel
theorem dL_cell_22 : decode cL_cell 22 = .ok (.iload_n 2, 1) := by decide +kernel
theorem dL_cell_23 : decode cL_cell 23 = .ok (.bipush 14, 2) := by decide +kernel
theorem dL_cell_25 : decode cL_cell 25 = .ok (.iushr, 1) := by decide +kernel
theorem dL_cell_26 : decode cL_cell 26 = .ok (.ixor, 1) := by decide +kernel
theorem dL_cell_27 : decode cL_cell 27 = .ok (.ldc 7, 2) := by decide +kernel
theorem dL_cell_29 : decode cL_cell 29 = .ok (.imul, 1) := by decide +kernel
theorem dL_cell_30 : decode cL_cell 30 = .ok (.sipush 133, 3) := by decide +kernel
theorem dL_cell_33 : decode cL_cell 33 = .ok (.iload_n 1, 1) := by decide +kernel
theorem dL_cell_34 : decode cL_cell 34 = .ok (.imul, 1) := by decide +kernel
theorem dL_cell_35 : decode cL_cell 35 = .ok (.iadd, 1) := by decide +kernel
theorem dL_cell_36 : decode cL_cell 36 = .ok (.ireturn, 1) := by decide +kernel
theorem dL_some_0 : decode cL_some 0 = .ok (.iload_n 0, 1) := by decide +kernel
theorem dL_some_1 : decode cL_some 1 = .ok (.iconst 1, 1) := by decide +kernel
theorem dL_some_2 : decode cL_some 2 = .ok (.iushr, 1) := by decide +kernel
theorem dL_some_3 : decode cL_some 3 = .ok (.iload_n 1, 1) := by decide +kernel
theorem dL_some_4 : decode cL_some 4 = .ok (.irem, 1) := by decide +kernel
theorem dL_some_5 : decode cL_some 5 = .ok (.ireturn, 1) := by decide +kernel
theorem dL_call_0 : decode cL_call 0 = .ok (.aload_n 0, 1) := by decide +kernel
theorem dL_call_1 : decode cL_call 1 = .ok (.iload_n 1, 1) := by decide +kernel
theorem dL_call_2 : decode cL_call 2 = .ok (.iload_n 2, 1) := by decide +kernel
theorem dL_call_3 : decode cL_call 3 = .ok (.iload_n 3, 1) := by decide +kernel
theorem dL_call_4 : decode cL_call 4 = .ok (.iload 4, 2) := by decide +kernel
theorem dL_call_6 : decode cL_call 6 = .ok (.iload 5, 2) := by decide +kernel
theorem dL_call_8 : decode cL_call 8 = .ok (.invokestatic 8, 3) := by decide +kernel
theorem dL_call_11 : decode cL_call 11 = .ok (.ireturn, 1) := by decide +kernel
theorem dL_call_12 : decode cL_call 12 = .ok (.astore 6, 2) := by decide +kernel
theorem dL_call_14 : decode cL_call 14 = .ok (.ldc 16, 2) := by decide +kernel
theorem dL_call_16 : decode cL_call 16 = .ok (.ireturn, 1) := by decide +kernel
theorem dL_does_0 : decode cL_does 0 = .ok (.iload_n 1, 1) := by decide +kernel
theorem dL_does_1 : decode cL_does 1 = .ok (.tableswitch 183 0 13 #[71, 78, 85, 94, 101, 107, 113, 127, 134, 145, 151, 157, 164, 170], 71) := by decide +kernel
theorem dL_does_72 : decode cL_does 72 = .ok (.aload_n 0, 1) := by decide +kernel
theorem dL_does_73 : decode cL_does 73 = .ok (.iload_n 2, 1) := by decide +kernel
theorem dL_does_74 : decode cL_does 74 = .ok (.iload_n 3, 1) := by decide +kernel
theorem dL_does_75 : decode cL_does 75 = .ok (.invokevirtual 29, 3) := by decide +kernel
theorem dL_does_102 : decode cL_does 102 = .ok (.aload_n 0, 1) := by decide +kernel
theorem dL_does_103 : decode cL_does 103 = .ok (.iload_n 2, 1) := by decide +kernel
theorem dL_does_104 : decode cL_does 104 = .ok (.invokevirtual 43, 3) := by decide +kernel
theorem dL_does_108 : decode cL_does 108 = .ok (.aload_n 0, 1) := by decide +kernel
theorem dL_does_109 : decode cL_does 109 = .ok (.iload_n 2, 1) := by decide +kernel
theorem dL_does_110 : decode cL_does 110 = .ok (.invokevirtual 47, 3) := by decide +kernel
theorem dL_does_114 : decode cL_does 114 = .ok (.aload_n 0, 1) := by decide +kernel
theorem dL_does_115 : decode cL_does 115 = .ok (.iload_n 2, 1) := by decide +kernel
theorem dL_does_116 : decode cL_does 116 = .ok (.invokevirtual 50, 3) := by decide +kernel
theorem dL_does_128 : decode cL_does 128 = .ok (.aload_n 0, 1) := by decide +kernel
theorem dL_does_129 : decode cL_does 129 = .ok (.iload_n 2, 1) := by decide +kernel
theorem dL_does_130 : decode cL_does 130 = .ok (.iload_n 3, 1) := by decide +kernel
theorem dL_does_131 : decode cL_does 131 = .ok (.invokevirtual 54, 3) := by decide +kernel
theorem dL_does_146 : decode cL_does 146 = .ok (.aload_n 0, 1) := by decide +kernel
theorem dL_does_147 : decode cL_does 147 = .ok (.iload_n 2, 1) := by decide +kernel
theorem dL_does_148 : decode cL_does 148 = .ok (.invokevirtual 61, 3) := by decide +kernel
theorem dL_does_158 : decode cL_does 158 = .ok (.aload_n 0, 1) := by decide +kernel
theorem dL_does_159 : decode cL_does 159 = .ok (.iload_n 2, 1) := by decide +kernel
theorem dL_does_160 : decode cL_does 160 = .ok (.iload_n 3, 1) := by decide +kernel
theorem dL_does_161 : decode cL_does 161 = .ok (.invokevirtual 67, 3) := by decide +kernel
theorem dL_does_165 : decode cL_does 165 = .ok (.aload_n 0, 1) := by decide +kernel
theorem dL_does_166 : decode cL_does 166 = .ok (.iload_n 2, 1) := by decide +kernel
theorem dL_does_167 : decode cL_does 167 = .ok (.invokevirtual 70, 3) := by decide +kernel
theorem dL_does_171 : decode cL_does 171 = .ok (.aload_n 0, 1) := by decide +kernel
theorem dL_does_172 : decode cL_does 172 = .ok (.invokevirtual 73, 3) := by decide +kernel
theorem dL_does_175 : decode cL_does 175 = .ok (.ifCond .eq 7, 3) := by decide +kernel
theorem dL_does_182 : decode cL_does 182 = .ok (.iconst 0, 1) := by decide +kernel
theorem dL_does_183 : decode cL_does 183 = .ok (.ireturn, 1) := by decide +kernel
theorem dL_all_0 : decode cL_all 0 = .ok (.aload_n 0, 1) := by decide +kernel
theorem dL_all_1 : decode cL_all 1 = .ok (.invokevirtual 81, 3) := by decide +kernel
theorem dL_all_4 : decode cL_all 4 = .ok (.i2l, 1) := by decide +kernel
theorem dL_all_5 : decode cL_all 5 = .ok (.ldc2_w 85, 3) := by decide +kernel
theorem dL_all_8 : decode cL_all 8 = .ok (.lmul, 1) := by decide +kernel
theorem dL_all_9 : decode cL_all 9 = .ok (.aload_n 0, 1) := by decide +kernel
theorem dL_all_10 : decode cL_all 10 = .ok (.invokevirtual 87, 3) := by decide +kernel
theorem dL_all_13 : decode cL_all 13 = .ok (.i2l, 1) := by decide +kernel
theorem dL_all_14 : decode cL_all 14 = .ok (.ladd, 1) := by decide +kernel
theorem dL_all_15 : decode cL_all 15 = .ok (.lstore_n 2, 1) := by decide +kernel
theorem dL_all_16 : decode cL_all 16 = .ok (.iconst 0, 1) := by decide +kernel
theorem dL_all_17 : decode cL_all 17 = .ok (.istore 4, 2) := by decide +kernel
theorem dL_all_19 : decode cL_all 19 = .ok (.iload 4, 2) := by decide +kernel
theorem dL_all_21 : decode cL_all 21 = .ok (.iconst 5, 1) := by decide +kernel
theorem dL_all_22 : decode cL_all 22 = .ok (.if_icmp .ge 102, 3) := by decide +kernel
theorem dL_all_25 : decode cL_all 25 = .ok (.lload_n 2, 1) := by decide +kernel
theorem dL_all_26 : decode cL_all 26 = .ok (.ldc2_w 90, 3) := by decide +kernel
theorem dL_all_29 : decode cL_all 29 = .ok (.lmul, 1) := by decide +kernel
theorem dL_all_30 : decode cL_all 30 = .ok (.aload_n 0, 1) := by decide +kernel
theorem dL_all_31 : decode cL_all 31 = .ok (.iload 4, 2) := by decide +kernel
theorem dL_all_33 : decode cL_all 33 = .ok (.invokevirtual 43, 3) := by decide +kernel
theorem dL_all_36 : decode cL_all 36 = .ok (.i2l, 1) := by decide +kernel
theorem dL_all_37 : decode cL_all 37 = .ok (.ladd, 1) := by decide +kernel
theorem dL_all_38 : decode cL_all 38 = .ok (.ldc2_w 92, 3) := by decide +kernel
theorem dL_all_41 : decode cL_all 41 = .ok (.lmul, 1) := by decide +kernel
theorem dL_all_42 : decode cL_all 42 = .ok (.aload_n 0, 1) := by decide +kernel
theorem dL_all_43 : decode cL_all 43 = .ok (.iload 4, 2) := by decide +kernel
theorem dL_all_45 : decode cL_all 45 = .ok (.invokevirtual 47, 3) := by decide +kernel
theorem dL_all_48 : decode cL_all 48 = .ok (.i2l, 1) := by decide +kernel
theorem dL_all_49 : decode cL_all 49 = .ok (.ladd, 1) := by decide +kernel
theorem dL_all_50 : decode cL_all 50 = .ok (.ldc2_w 94, 3) := by decide +kernel
theorem dL_all_53 : decode cL_all 53 = .ok (.lmul, 1) := by decide +kernel
theorem dL_all_54 : decode cL_all 54 = .ok (.aload_n 0, 1) := by decide +kernel
theorem dL_all_55 : decode cL_all 55 = .ok (.iload 4, 2) := by decide +kernel
theorem dL_all_57 : decode cL_all 57 = .ok (.invokevirtual 50, 3) := by decide +kernel
theorem dL_all_60 : decode cL_all 60 = .ok (.ifCond .eq 7, 3) := by decide +kernel
theorem dL_all_63 : decode cL_all 63 = .ok (.iconst 1, 1) := by decide +kernel
theorem dL_all_64 : decode cL_all 64 = .ok (.goto 4, 3) := by decide +kernel
theorem dL_all_68 : decode cL_all 68 = .ok (.i2l, 1) := by decide +kernel
theorem dL_all_69 : decode cL_all 69 = .ok (.ladd, 1) := by decide +kernel
theorem dL_all_70 : decode cL_all 70 = .ok (.lstore_n 2, 1) := by decide +kernel
theorem dL_all_71 : decode cL_all 71 = .ok (.lload_n 2, 1) := by decide +kernel
theorem dL_all_72 : decode cL_all 72 = .ok (.ldc2_w 96, 3) := by decide +kernel
theorem dL_all_75 : decode cL_all 75 = .ok (.lmul, 1) := by decide +kernel
theorem dL_all_76 : decode cL_all 76 = .ok (.aload_n 0, 1) := by decide +kernel
theorem dL_all_77 : decode cL_all 77 = .ok (.iload 4, 2) := by decide +kernel
theorem dL_all_79 : decode cL_all 79 = .ok (.iconst 0, 1) := by decide +kernel
theorem dL_all_80 : decode cL_all 80 = .ok (.invokevirtual 67, 3) := by decide +kernel
theorem dL_all_83 : decode cL_all 83 = .ok (.i2l, 1) := by decide +kernel
theorem dL_all_84 : decode cL_all 84 = .ok (.ladd, 1) := by decide +kernel
theorem dL_all_85 : decode cL_all 85 = .ok (.lstore_n 2, 1) := by decide +kernel
theorem dL_all_86 : decode cL_all 86 = .ok (.iconst 0, 1) := by decide +kernel
theorem dL_all_87 : decode cL_all 87 = .ok (.istore 5, 2) := by decide +kernel
theorem dL_all_89 : decode cL_all 89 = .ok (.iload 5, 2) := by decide +kernel
theorem dL_all_91 : decode cL_all 91 = .ok (.iload 4, 2) := by decide +kernel
theorem dL_all_93 : decode cL_all 93 = .ok (.if_icmp .ge 25, 3) := by decide +kernel
theorem dL_all_96 : decode cL_all 96 = .ok (.lload_n 2, 1) := by decide +kernel
theorem dL_all_97 : decode cL_all 97 = .ok (.ldc2_w 90, 3) := by decide +kernel
theorem dL_all_100 : decode cL_all 100 = .ok (.lmul, 1) := by decide +kernel
theorem dL_all_101 : decode cL_all 101 = .ok (.aload_n 0, 1) := by decide +kernel
theorem dL_all_102 : decode cL_all 102 = .ok (.iload 4, 2) := by decide +kernel
theorem dL_all_104 : decode cL_all 104 = .ok (.iload 5, 2) := by decide +kernel
theorem dL_all_106 : decode cL_all 106 = .ok (.invokevirtual 54, 3) := by decide +kernel
theorem dL_all_109 : decode cL_all 109 = .ok (.i2l, 1) := by decide +kernel
theorem dL_all_110 : decode cL_all 110 = .ok (.ladd, 1) := by decide +kernel
theorem dL_all_111 : decode cL_all 111 = .ok (.lstore_n 2, 1) := by decide +kernel
theorem dL_all_112 : decode cL_all 112 = .ok (.iinc 5 1, 3) := by decide +kernel
theorem dL_all_115 : decode cL_all 115 = .ok (.goto (-26), 3) := by decide +kernel
theorem dL_all_118 : decode cL_all 118 = .ok (.iinc 4 1, 3) := by decide +kernel
theorem dL_all_121 : decode cL_all 121 = .ok (.goto (-102), 3) := by decide +kernel
theorem dL_all_124 : decode cL_all 124 = .ok (.iconst 0, 1) := by decide +kernel
theorem dL_all_125 : decode cL_all 125 = .ok (.istore 4, 2) := by decide +kernel
theorem dL_all_127 : decode cL_all 127 = .ok (.iload 4, 2) := by decide +kernel
theorem dL_all_129 : decode cL_all 129 = .ok (.iload_n 1, 1) := by decide +kernel
theorem dL_all_130 : decode cL_all 130 = .ok (.if_icmp .ge 32, 3) := by decide +kernel
theorem dL_all_162 : decode cL_all 162 = .ok (.lload_n 2, 1) := by decide +kernel
theorem dL_all_163 : decode cL_all 163 = .ok (.lreturn, 1) := by decide +kernel
theorem dL_kept_0 : decode cL_kept 0 = .ok (.iconst 0, 1) := by decide +kernel
