theorem dL_kept_1 : decode cL_kept 1 = .ok (.istore_n 2, 1) := by decide +kernel
theorem dL_kept_2 : decode cL_kept 2 = .ok (.iconst 0, 1) := by decide +kernel
theorem dL_kept_3 : decode cL_kept 3 = .ok (.istore_n 3, 1) := by decide +kernel
theorem dL_kept_4 : decode cL_kept 4 = .ok (.aload_n 0, 1) := by decide +kernel
theorem dL_kept_5 : decode cL_kept 5 = .ok (.iconst 4, 1) := by decide +kernel
theorem dL_kept_6 : decode cL_kept 6 = .ok (.iconst 5, 1) := by decide +kernel
theorem dL_kept_7 : decode cL_kept 7 = .ok (.iconst 0, 1) := by decide +kernel
theorem dL_kept_8 : decode cL_kept 8 = .ok (.iconst 0, 1) := by decide +kernel
theorem dL_kept_9 : decode cL_kept 9 = .ok (.iconst 0, 1) := by decide +kernel
theorem dL_kept_10 : decode cL_kept 10 = .ok (.invokestatic 100, 3) := by decide +kernel
theorem dL_kept_13 : decode cL_kept 13 = .ok (.ldc 16, 2) := by decide +kernel
theorem dL_kept_15 : decode cL_kept 15 = .ok (.if_icmp .ne 81, 3) := by decide +kernel
theorem dL_kept_18 : decode cL_kept 18 = .ok (.aload_n 0, 1) := by decide +kernel
theorem dL_kept_19 : decode cL_kept 19 = .ok (.iconst 5, 1) := by decide +kernel
theorem dL_kept_20 : decode cL_kept 20 = .ok (.iconst (-1), 1) := by decide +kernel
theorem dL_kept_21 : decode cL_kept 21 = .ok (.iconst 0, 1) := by decide +kernel
theorem dL_kept_22 : decode cL_kept 22 = .ok (.iconst 0, 1) := by decide +kernel
theorem dL_kept_23 : decode cL_kept 23 = .ok (.iconst 0, 1) := by decide +kernel
theorem dL_kept_24 : decode cL_kept 24 = .ok (.invokestatic 100, 3) := by decide +kernel
theorem dL_kept_27 : decode cL_kept 27 = .ok (.ldc 16, 2) := by decide +kernel
theorem dL_kept_29 : decode cL_kept 29 = .ok (.if_icmp .ne 67, 3) := by decide +kernel
theorem dL_kept_32 : decode cL_kept 32 = .ok (.aload_n 0, 1) := by decide +kernel
theorem dL_kept_33 : decode cL_kept 33 = .ok (.bipush 6, 2) := by decide +kernel
theorem dL_kept_35 : decode cL_kept 35 = .ok (.iconst 5, 1) := by decide +kernel
theorem dL_kept_36 : decode cL_kept 36 = .ok (.iconst 0, 1) := by decide +kernel
theorem dL_kept_37 : decode cL_kept 37 = .ok (.iconst 0, 1) := by decide +kernel
theorem dL_kept_38 : decode cL_kept 38 = .ok (.iconst 0, 1) := by decide +kernel
theorem dL_kept_39 : decode cL_kept 39 = .ok (.invokestatic 100, 3) := by decide +kernel
theorem dL_kept_42 : decode cL_kept 42 = .ok (.ldc 16, 2) := by decide +kernel
theorem dL_kept_44 : decode cL_kept 44 = .ok (.if_icmp .ne 52, 3) := by decide +kernel
theorem dL_kept_47 : decode cL_kept 47 = .ok (.aload_n 0, 1) := by decide +kernel
theorem dL_kept_48 : decode cL_kept 48 = .ok (.bipush 7, 2) := by decide +kernel
theorem dL_kept_50 : decode cL_kept 50 = .ok (.iconst 0, 1) := by decide +kernel
theorem dL_kept_51 : decode cL_kept 51 = .ok (.iconst 5, 1) := by decide +kernel
theorem dL_kept_52 : decode cL_kept 52 = .ok (.iconst 0, 1) := by decide +kernel
theorem dL_kept_53 : decode cL_kept 53 = .ok (.iconst 0, 1) := by decide +kernel
theorem dL_kept_54 : decode cL_kept 54 = .ok (.invokestatic 100, 3) := by decide +kernel
theorem dL_kept_57 : decode cL_kept 57 = .ok (.ldc 16, 2) := by decide +kernel
theorem dL_kept_59 : decode cL_kept 59 = .ok (.if_icmp .ne 37, 3) := by decide +kernel
theorem dL_kept_62 : decode cL_kept 62 = .ok (.aload_n 0, 1) := by decide +kernel
theorem dL_kept_63 : decode cL_kept 63 = .ok (.bipush 11, 2) := by decide +kernel
theorem dL_kept_65 : decode cL_kept 65 = .ok (.iconst 0, 1) := by decide +kernel
theorem dL_kept_66 : decode cL_kept 66 = .ok (.iconst (-1), 1) := by decide +kernel
theorem dL_kept_67 : decode cL_kept 67 = .ok (.iconst 0, 1) := by decide +kernel
theorem dL_kept_68 : decode cL_kept 68 = .ok (.iconst 0, 1) := by decide +kernel
theorem dL_kept_69 : decode cL_kept 69 = .ok (.invokestatic 100, 3) := by decide +kernel
theorem dL_kept_72 : decode cL_kept 72 = .ok (.ldc 16, 2) := by decide +kernel
theorem dL_kept_74 : decode cL_kept 74 = .ok (.if_icmp .ne 22, 3) := by decide +kernel
theorem dL_kept_77 : decode cL_kept 77 = .ok (.aload_n 0, 1) := by decide +kernel
theorem dL_kept_78 : decode cL_kept 78 = .ok (.bipush 12, 2) := by decide +kernel
theorem dL_kept_80 : decode cL_kept 80 = .ok (.iload_n 1, 1) := by decide +kernel
theorem dL_kept_81 : decode cL_kept 81 = .ok (.iconst 0, 1) := by decide +kernel
theorem dL_kept_82 : decode cL_kept 82 = .ok (.iconst 0, 1) := by decide +kernel
theorem dL_kept_83 : decode cL_kept 83 = .ok (.iconst 0, 1) := by decide +kernel
theorem dL_kept_84 : decode cL_kept 84 = .ok (.invokestatic 100, 3) := by decide +kernel
theorem dL_kept_87 : decode cL_kept 87 = .ok (.ldc 16, 2) := by decide +kernel
theorem dL_kept_89 : decode cL_kept 89 = .ok (.if_icmp .ne 7, 3) := by decide +kernel
theorem dL_kept_92 : decode cL_kept 92 = .ok (.iconst 1, 1) := by decide +kernel
theorem dL_kept_93 : decode cL_kept 93 = .ok (.goto 4, 3) := by decide +kernel
theorem dL_kept_97 : decode cL_kept 97 = .ok (.istore 4, 2) := by decide +kernel
theorem dL_kept_99 : decode cL_kept 99 = .ok (.iconst 0, 1) := by decide +kernel
theorem dL_kept_100 : decode cL_kept 100 = .ok (.istore 5, 2) := by decide +kernel
theorem dL_kept_102 : decode cL_kept 102 = .ok (.iload 5, 2) := by decide +kernel
theorem dL_kept_104 : decode cL_kept 104 = .ok (.iload_n 1, 1) := by decide +kernel
theorem dL_kept_105 : decode cL_kept 105 = .ok (.if_icmp .ge 27, 3) := by decide +kernel
theorem dL_kept_132 : decode cL_kept 132 = .ok (.iconst 0, 1) := by decide +kernel
theorem dL_kept_133 : decode cL_kept 133 = .ok (.istore 5, 2) := by decide +kernel
theorem dL_kept_135 : decode cL_kept 135 = .ok (.iload 5, 2) := by decide +kernel
theorem dL_kept_137 : decode cL_kept 137 = .ok (.iconst 5, 1) := by decide +kernel
theorem dL_kept_138 : decode cL_kept 138 = .ok (.if_icmp .ge 156, 3) := by decide +kernel
theorem dL_kept_141 : decode cL_kept 141 = .ok (.iload 4, 2) := by decide +kernel
theorem dL_kept_143 : decode cL_kept 143 = .ok (.ifCond .eq 151, 3) := by decide +kernel
theorem dL_kept_146 : decode cL_kept 146 = .ok (.iconst 0, 1) := by decide +kernel
theorem dL_kept_147 : decode cL_kept 147 = .ok (.istore 6, 2) := by decide +kernel
theorem dL_kept_149 : decode cL_kept 149 = .ok (.aload_n 0, 1) := by decide +kernel
theorem dL_kept_150 : decode cL_kept 150 = .ok (.iload 5, 2) := by decide +kernel
theorem dL_kept_152 : decode cL_kept 152 = .ok (.iload 6, 2) := by decide +kernel
theorem dL_kept_154 : decode cL_kept 154 = .ok (.invokevirtual 67, 3) := by decide +kernel
theorem dL_kept_157 : decode cL_kept 157 = .ok (.iconst (-1), 1) := by decide +kernel
theorem dL_kept_158 : decode cL_kept 158 = .ok (.if_icmp .eq 46, 3) := by decide +kernel
theorem dL_kept_204 : decode cL_kept 204 = .ok (.iload_n 3, 1) := by decide +kernel
theorem dL_kept_205 : decode cL_kept 205 = .ok (.iload 6, 2) := by decide +kernel
theorem dL_kept_207 : decode cL_kept 207 = .ok (.iadd, 1) := by decide +kernel
theorem dL_kept_208 : decode cL_kept 208 = .ok (.istore_n 3, 1) := by decide +kernel
theorem dL_kept_209 : decode cL_kept 209 = .ok (.iload 4, 2) := by decide +kernel
theorem dL_kept_211 : decode cL_kept 211 = .ok (.ifCond .eq 27, 3) := by decide +kernel
theorem dL_kept_214 : decode cL_kept 214 = .ok (.aload_n 0, 1) := by decide +kernel
theorem dL_kept_215 : decode cL_kept 215 = .ok (.iload 5, 2) := by decide +kernel
theorem dL_kept_217 : decode cL_kept 217 = .ok (.invokevirtual 47, 3) := by decide +kernel
theorem dL_kept_220 : decode cL_kept 220 = .ok (.ifCond .lt 18, 3) := by decide +kernel
theorem dL_kept_223 : decode cL_kept 223 = .ok (.aload_n 0, 1) := by decide +kernel
theorem dL_kept_224 : decode cL_kept 224 = .ok (.iload 5, 2) := by decide +kernel
theorem dL_kept_226 : decode cL_kept 226 = .ok (.iload 5, 2) := by decide +kernel
theorem dL_kept_228 : decode cL_kept 228 = .ok (.invokevirtual 54, 3) := by decide +kernel
theorem dL_kept_231 : decode cL_kept 231 = .ok (.ifCond .ne 7, 3) := by decide +kernel
theorem dL_kept_234 : decode cL_kept 234 = .ok (.iconst 1, 1) := by decide +kernel
theorem dL_kept_235 : decode cL_kept 235 = .ok (.goto 4, 3) := by decide +kernel
theorem dL_kept_239 : decode cL_kept 239 = .ok (.istore 4, 2) := by decide +kernel
theorem dL_kept_241 : decode cL_kept 241 = .ok (.iconst 0, 1) := by decide +kernel
theorem dL_kept_242 : decode cL_kept 242 = .ok (.istore 7, 2) := by decide +kernel
theorem dL_kept_244 : decode cL_kept 244 = .ok (.iload 7, 2) := by decide +kernel
theorem dL_kept_246 : decode cL_kept 246 = .ok (.iconst 5, 1) := by decide +kernel
theorem dL_kept_247 : decode cL_kept 247 = .ok (.if_icmp .ge 41, 3) := by decide +kernel
theorem dL_kept_250 : decode cL_kept 250 = .ok (.iload 4, 2) := by decide +kernel
theorem dL_kept_252 : decode cL_kept 252 = .ok (.ifCond .eq 36, 3) := by decide +kernel
theorem dL_kept_255 : decode cL_kept 255 = .ok (.aload_n 0, 1) := by decide +kernel
theorem dL_kept_256 : decode cL_kept 256 = .ok (.iload 5, 2) := by decide +kernel
theorem dL_kept_258 : decode cL_kept 258 = .ok (.iload 7, 2) := by decide +kernel
theorem dL_kept_260 : decode cL_kept 260 = .ok (.invokevirtual 54, 3) := by decide +kernel
theorem dL_kept_263 : decode cL_kept 263 = .ok (.aload_n 0, 1) := by decide +kernel
theorem dL_kept_264 : decode cL_kept 264 = .ok (.iload 7, 2) := by decide +kernel
theorem dL_kept_266 : decode cL_kept 266 = .ok (.iload 5, 2) := by decide +kernel
theorem dL_kept_268 : decode cL_kept 268 = .ok (.invokevirtual 54, 3) := by decide +kernel
theorem dL_kept_271 : decode cL_kept 271 = .ok (.ineg, 1) := by decide +kernel
theorem dL_kept_272 : decode cL_kept 272 = .ok (.if_icmp .ne 7, 3) := by decide +kernel
theorem dL_kept_275 : decode cL_kept 275 = .ok (.iconst 1, 1) := by decide +kernel
theorem dL_kept_276 : decode cL_kept 276 = .ok (.goto 4, 3) := by decide +kernel
theorem dL_kept_280 : decode cL_kept 280 = .ok (.istore 4, 2) := by decide +kernel
theorem dL_kept_282 : decode cL_kept 282 = .ok (.iinc 7 1, 3) := by decide +kernel
theorem dL_kept_285 : decode cL_kept 285 = .ok (.goto (-41), 3) := by decide +kernel
theorem dL_kept_288 : decode cL_kept 288 = .ok (.iinc 5 1, 3) := by decide +kernel
theorem dL_kept_291 : decode cL_kept 291 = .ok (.goto (-156), 3) := by decide +kernel
theorem dL_kept_294 : decode cL_kept 294 = .ok (.iload 4, 2) := by decide +kernel
theorem dL_kept_296 : decode cL_kept 296 = .ok (.ifCond .eq 60, 3) := by decide +kernel
theorem dL_kept_299 : decode cL_kept 299 = .ok (.iload_n 3, 1) := by decide +kernel
theorem dL_kept_300 : decode cL_kept 300 = .ok (.iload_n 2, 1) := by decide +kernel
theorem dL_kept_301 : decode cL_kept 301 = .ok (.if_icmp .ne 55, 3) := by decide +kernel
theorem dL_kept_304 : decode cL_kept 304 = .ok (.iload_n 2, 1) := by decide +kernel
theorem dL_kept_305 : decode cL_kept 305 = .ok (.bipush 10, 2) := by decide +kernel
theorem dL_kept_307 : decode cL_kept 307 = .ok (.if_icmp .le 21, 3) := by decide +kernel
theorem dL_kept_328 : decode cL_kept 328 = .ok (.aload_n 0, 1) := by decide +kernel
theorem dL_kept_329 : decode cL_kept 329 = .ok (.bipush 13, 2) := by decide +kernel
theorem dL_kept_331 : decode cL_kept 331 = .ok (.iconst 0, 1) := by decide +kernel
theorem dL_kept_332 : decode cL_kept 332 = .ok (.iconst 0, 1) := by decide +kernel
theorem dL_kept_333 : decode cL_kept 333 = .ok (.iconst 0, 1) := by decide +kernel
theorem dL_kept_334 : decode cL_kept 334 = .ok (.iconst 0, 1) := by decide +kernel
theorem dL_kept_335 : decode cL_kept 335 = .ok (.invokestatic 100, 3) := by decide +kernel
theorem dL_kept_338 : decode cL_kept 338 = .ok (.ifCond .lt 18, 3) := by decide +kernel
theorem dL_kept_341 : decode cL_kept 341 = .ok (.iload_n 2, 1) := by decide +kernel
theorem dL_kept_342 : decode cL_kept 342 = .ok (.ifCond .gt 10, 3) := by decide +kernel
theorem dL_kept_345 : decode cL_kept 345 = .ok (.aload_n 0, 1) := by decide +kernel
theorem dL_kept_346 : decode cL_kept 346 = .ok (.invokevirtual 73, 3) := by decide +kernel
theorem dL_kept_349 : decode cL_kept 349 = .ok (.ifCond .ne 7, 3) := by decide +kernel
theorem dL_kept_352 : decode cL_kept 352 = .ok (.iconst 1, 1) := by decide +kernel
theorem dL_kept_353 : decode cL_kept 353 = .ok (.goto 4, 3) := by decide +kernel
theorem dL_kept_357 : decode cL_kept 357 = .ok (.ireturn, 1) := by decide +kernel
theorem dL_sets_0 : decode cL_sets 0 = .ok (.aload_n 0, 1) := by decide +kernel
theorem dL_sets_1 : decode cL_sets 1 = .ok (.iload_n 1, 1) := by decide +kernel
theorem dL_sets_2 : decode cL_sets 2 = .ok (.invokestatic 103, 3) := by decide +kernel
theorem dL_sets_5 : decode cL_sets 5 = .ok (.lstore 5, 2) := by decide +kernel
