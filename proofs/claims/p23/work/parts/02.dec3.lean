theorem dL_cell_0 : decode cL_cell 0 = .ok (.iload_n 1, 1) := by decide +kernel
theorem dL_cell_1 : decode cL_cell 1 = .ok (.aload_n 0, 1) := by decide +kernel
theorem dL_cell_2 : decode cL_cell 2 = .ok (.arraylength, 1) := by decide +kernel
theorem dL_cell_3 : decode cL_cell 3 = .ok (.if_icmp .ge 9, 3) := by decide +kernel
theorem dL_cell_6 : decode cL_cell 6 = .ok (.aload_n 0, 1) := by decide +kernel
theorem dL_cell_7 : decode cL_cell 7 = .ok (.iload_n 1, 1) := by decide +kernel
theorem dL_cell_8 : decode cL_cell 8 = .ok (.iaload, 1) := by decide +kernel
theorem dL_cell_9 : decode cL_cell 9 = .ok (.goto 15, 3) := by decide +kernel
theorem dL_cell_12 : decode cL_cell 12 = .ok (.sipush 7919, 3) := by decide +kernel
theorem dL_cell_15 : decode cL_cell 15 = .ok (.iload_n 1, 1) := by decide +kernel
theorem dL_cell_16 : decode cL_cell 16 = .ok (.iconst 3, 1) := by decide +kernel
theorem dL_cell_17 : decode cL_cell 17 = .ok (.iadd, 1) := by decide +kernel
theorem dL_cell_18 : decode cL_cell 18 = .ok (.imul, 1) := by decide +kernel
theorem dL_cell_19 : decode cL_cell 19 = .ok (.iload_n 1, 1) := by decide +kernel
theorem dL_cell_20 : decode cL_cell 20 = .ok (.bipush 11, 2) := by decide +kernel
theorem dL_cell_22 : decode cL_cell 22 = .ok (.iadd, 1) := by decide +kernel
theorem dL_cell_23 : decode cL_cell 23 = .ok (.imul, 1) := by decide +kernel
theorem dL_cell_24 : decode cL_cell 24 = .ok (.ireturn, 1) := by decide +kernel
theorem dL_low_0 : decode cL_low 0 = .ok (.iload_n 0, 1) := by decide +kernel
theorem dL_low_1 : decode cL_low 1 = .ok (.ldc 7, 2) := by decide +kernel
theorem dL_low_3 : decode cL_low 3 = .ok (.iand, 1) := by decide +kernel
theorem dL_low_4 : decode cL_low 4 = .ok (.iload_n 1, 1) := by decide +kernel
theorem dL_low_5 : decode cL_low 5 = .ok (.irem, 1) := by decide +kernel
theorem dL_low_6 : decode cL_low 6 = .ok (.ireturn, 1) := by decide +kernel
theorem dL_areAll_0 : decode cL_areAll 0 = .ok (.aload_n 0, 1) := by decide +kernel
theorem dL_areAll_1 : decode cL_areAll 1 = .ok (.bipush 7, 2) := by decide +kernel
theorem dL_areAll_3 : decode cL_areAll 3 = .ok (.invokevirtual 8, 3) := by decide +kernel
theorem dL_areAll_6 : decode cL_areAll 6 = .ok (.istore_n 1, 1) := by decide +kernel
theorem dL_areAll_7 : decode cL_areAll 7 = .ok (.aload_n 0, 1) := by decide +kernel
theorem dL_areAll_8 : decode cL_areAll 8 = .ok (.bipush 9, 2) := by decide +kernel
theorem dL_areAll_10 : decode cL_areAll 10 = .ok (.invokevirtual 8, 3) := by decide +kernel
theorem dL_areAll_13 : decode cL_areAll 13 = .ok (.istore_n 2, 1) := by decide +kernel
theorem dL_areAll_14 : decode cL_areAll 14 = .ok (.aload_n 0, 1) := by decide +kernel
theorem dL_areAll_15 : decode cL_areAll 15 = .ok (.bipush 8, 2) := by decide +kernel
theorem dL_areAll_17 : decode cL_areAll 17 = .ok (.invokevirtual 8, 3) := by decide +kernel
theorem dL_areAll_20 : decode cL_areAll 20 = .ok (.istore_n 3, 1) := by decide +kernel
theorem dL_areAll_21 : decode cL_areAll 21 = .ok (.iconst 0, 1) := by decide +kernel
theorem dL_areAll_22 : decode cL_areAll 22 = .ok (.istore 4, 2) := by decide +kernel
theorem dL_areAll_24 : decode cL_areAll 24 = .ok (.iconst 0, 1) := by decide +kernel
theorem dL_areAll_25 : decode cL_areAll 25 = .ok (.istore 5, 2) := by decide +kernel
theorem dL_areAll_27 : decode cL_areAll 27 = .ok (.iconst 0, 1) := by decide +kernel
theorem dL_areAll_28 : decode cL_areAll 28 = .ok (.istore 6, 2) := by decide +kernel
theorem dL_areAll_30 : decode cL_areAll 30 = .ok (.iconst 0, 1) := by decide +kernel
theorem dL_areAll_31 : decode cL_areAll 31 = .ok (.istore 7, 2) := by decide +kernel
theorem dL_areAll_33 : decode cL_areAll 33 = .ok (.iconst 0, 1) := by decide +kernel
theorem dL_areAll_34 : decode cL_areAll 34 = .ok (.istore 8, 2) := by decide +kernel
theorem dL_areAll_36 : decode cL_areAll 36 = .ok (.iconst 0, 1) := by decide +kernel
theorem dL_areAll_37 : decode cL_areAll 37 = .ok (.istore 9, 2) := by decide +kernel
theorem dL_areAll_39 : decode cL_areAll 39 = .ok (.iload 9, 2) := by decide +kernel
theorem dL_areAll_41 : decode cL_areAll 41 = .ok (.iload_n 1, 1) := by decide +kernel
theorem dL_areAll_42 : decode cL_areAll 42 = .ok (.if_icmp .ge 232, 3) := by decide +kernel
theorem dL_areAll_45 : decode cL_areAll 45 = .ok (.iload 9, 2) := by decide +kernel
theorem dL_areAll_47 : decode cL_areAll 47 = .ok (.bipush 8, 2) := by decide +kernel
theorem dL_areAll_49 : decode cL_areAll 49 = .ok (.if_icmp .ge 225, 3) := by decide +kernel
theorem dL_areAll_52 : decode cL_areAll 52 = .ok (.aload_n 0, 1) := by decide +kernel
theorem dL_areAll_53 : decode cL_areAll 53 = .ok (.iload 9, 2) := by decide +kernel
theorem dL_areAll_55 : decode cL_areAll 55 = .ok (.iconst 2, 1) := by decide +kernel
theorem dL_areAll_56 : decode cL_areAll 56 = .ok (.invokevirtual 14, 3) := by decide +kernel
theorem dL_areAll_59 : decode cL_areAll 59 = .ok (.istore 10, 2) := by decide +kernel
theorem dL_areAll_61 : decode cL_areAll 61 = .ok (.iload 10, 2) := by decide +kernel
theorem dL_areAll_63 : decode cL_areAll 63 = .ok (.aload_n 0, 1) := by decide +kernel
theorem dL_areAll_64 : decode cL_areAll 64 = .ok (.iconst 4, 1) := by decide +kernel
theorem dL_areAll_65 : decode cL_areAll 65 = .ok (.invokevirtual 8, 3) := by decide +kernel
theorem dL_areAll_68 : decode cL_areAll 68 = .ok (.if_icmp .lt 7, 3) := by decide +kernel
theorem dL_areAll_71 : decode cL_areAll 71 = .ok (.iconst 1, 1) := by decide +kernel
theorem dL_areAll_72 : decode cL_areAll 72 = .ok (.goto 4, 3) := by decide +kernel
theorem dL_areAll_75 : decode cL_areAll 75 = .ok (.iconst 0, 1) := by decide +kernel
theorem dL_areAll_76 : decode cL_areAll 76 = .ok (.istore 11, 2) := by decide +kernel
theorem dL_areAll_78 : decode cL_areAll 78 = .ok (.iload_n 3, 1) := by decide +kernel
theorem dL_areAll_79 : decode cL_areAll 79 = .ok (.iconst 5, 1) := by decide +kernel
theorem dL_areAll_80 : decode cL_areAll 80 = .ok (.aload_n 0, 1) := by decide +kernel
theorem dL_areAll_81 : decode cL_areAll 81 = .ok (.iload 9, 2) := by decide +kernel
theorem dL_areAll_83 : decode cL_areAll 83 = .ok (.iconst 0, 1) := by decide +kernel
theorem dL_areAll_84 : decode cL_areAll 84 = .ok (.invokevirtual 14, 3) := by decide +kernel
theorem dL_areAll_87 : decode cL_areAll 87 = .ok (.imul, 1) := by decide +kernel
theorem dL_areAll_88 : decode cL_areAll 88 = .ok (.iadd, 1) := by decide +kernel
theorem dL_areAll_89 : decode cL_areAll 89 = .ok (.bipush 10, 2) := by decide +kernel
theorem dL_areAll_91 : decode cL_areAll 91 = .ok (.iload 10, 2) := by decide +kernel
theorem dL_areAll_93 : decode cL_areAll 93 = .ok (.imul, 1) := by decide +kernel
theorem dL_areAll_94 : decode cL_areAll 94 = .ok (.isub, 1) := by decide +kernel
theorem dL_areAll_95 : decode cL_areAll 95 = .ok (.istore 12, 2) := by decide +kernel
theorem dL_areAll_97 : decode cL_areAll 97 = .ok (.iload_n 2, 1) := by decide +kernel
theorem dL_areAll_98 : decode cL_areAll 98 = .ok (.ifCond .lt 33, 3) := by decide +kernel
theorem dL_areAll_101 : decode cL_areAll 101 = .ok (.iload_n 2, 1) := by decide +kernel
theorem dL_areAll_102 : decode cL_areAll 102 = .ok (.iload 9, 2) := by decide +kernel
theorem dL_areAll_104 : decode cL_areAll 104 = .ok (.if_icmp .eq 27, 3) := by decide +kernel
theorem dL_areAll_107 : decode cL_areAll 107 = .ok (.iload 11, 2) := by decide +kernel
theorem dL_areAll_109 : decode cL_areAll 109 = .ok (.ifCond .ne 22, 3) := by decide +kernel
theorem dL_areAll_112 : decode cL_areAll 112 = .ok (.aload_n 0, 1) := by decide +kernel
theorem dL_areAll_113 : decode cL_areAll 113 = .ok (.iload 9, 2) := by decide +kernel
theorem dL_areAll_115 : decode cL_areAll 115 = .ok (.iconst 3, 1) := by decide +kernel
theorem dL_areAll_116 : decode cL_areAll 116 = .ok (.invokevirtual 14, 3) := by decide +kernel
theorem dL_areAll_119 : decode cL_areAll 119 = .ok (.aload_n 0, 1) := by decide +kernel
theorem dL_areAll_120 : decode cL_areAll 120 = .ok (.iconst 2, 1) := by decide +kernel
theorem dL_areAll_121 : decode cL_areAll 121 = .ok (.invokevirtual 8, 3) := by decide +kernel
theorem dL_areAll_124 : decode cL_areAll 124 = .ok (.if_icmp .lt 7, 3) := by decide +kernel
theorem dL_areAll_127 : decode cL_areAll 127 = .ok (.iconst 1, 1) := by decide +kernel
theorem dL_areAll_128 : decode cL_areAll 128 = .ok (.goto 4, 3) := by decide +kernel
theorem dL_areAll_131 : decode cL_areAll 131 = .ok (.iconst 0, 1) := by decide +kernel
theorem dL_areAll_132 : decode cL_areAll 132 = .ok (.istore 13, 2) := by decide +kernel
theorem dL_areAll_134 : decode cL_areAll 134 = .ok (.aload_n 0, 1) := by decide +kernel
theorem dL_areAll_135 : decode cL_areAll 135 = .ok (.iload 9, 2) := by decide +kernel
theorem dL_areAll_137 : decode cL_areAll 137 = .ok (.iconst 4, 1) := by decide +kernel
theorem dL_areAll_138 : decode cL_areAll 138 = .ok (.invokevirtual 14, 3) := by decide +kernel
theorem dL_areAll_141 : decode cL_areAll 141 = .ok (.iload 11, 2) := by decide +kernel
theorem dL_areAll_143 : decode cL_areAll 143 = .ok (.ifCond .eq 7, 3) := by decide +kernel
theorem dL_areAll_146 : decode cL_areAll 146 = .ok (.iconst 1, 1) := by decide +kernel
theorem dL_areAll_147 : decode cL_areAll 147 = .ok (.goto 4, 3) := by decide +kernel
theorem dL_areAll_150 : decode cL_areAll 150 = .ok (.iconst 0, 1) := by decide +kernel
theorem dL_areAll_151 : decode cL_areAll 151 = .ok (.if_icmp .ne 55, 3) := by decide +kernel
theorem dL_areAll_154 : decode cL_areAll 154 = .ok (.aload_n 0, 1) := by decide +kernel
theorem dL_areAll_155 : decode cL_areAll 155 = .ok (.iload 9, 2) := by decide +kernel
theorem dL_areAll_157 : decode cL_areAll 157 = .ok (.iconst 5, 1) := by decide +kernel
theorem dL_areAll_158 : decode cL_areAll 158 = .ok (.invokevirtual 14, 3) := by decide +kernel
theorem dL_areAll_161 : decode cL_areAll 161 = .ok (.iload 12, 2) := by decide +kernel
theorem dL_areAll_163 : decode cL_areAll 163 = .ok (.sipush 1000, 3) := by decide +kernel
theorem dL_areAll_166 : decode cL_areAll 166 = .ok (.iadd, 1) := by decide +kernel
theorem dL_areAll_167 : decode cL_areAll 167 = .ok (.if_icmp .ne 39, 3) := by decide +kernel
theorem dL_areAll_170 : decode cL_areAll 170 = .ok (.aload_n 0, 1) := by decide +kernel
theorem dL_areAll_171 : decode cL_areAll 171 = .ok (.iload 9, 2) := by decide +kernel
theorem dL_areAll_173 : decode cL_areAll 173 = .ok (.bipush 8, 2) := by decide +kernel
theorem dL_areAll_175 : decode cL_areAll 175 = .ok (.invokevirtual 14, 3) := by decide +kernel
theorem dL_areAll_178 : decode cL_areAll 178 = .ok (.iload 13, 2) := by decide +kernel
theorem dL_areAll_180 : decode cL_areAll 180 = .ok (.ifCond .eq 7, 3) := by decide +kernel
theorem dL_areAll_183 : decode cL_areAll 183 = .ok (.iconst 1, 1) := by decide +kernel
theorem dL_areAll_184 : decode cL_areAll 184 = .ok (.goto 4, 3) := by decide +kernel
theorem dL_areAll_187 : decode cL_areAll 187 = .ok (.iconst 0, 1) := by decide +kernel
theorem dL_areAll_188 : decode cL_areAll 188 = .ok (.if_icmp .ne 18, 3) := by decide +kernel
theorem dL_areAll_191 : decode cL_areAll 191 = .ok (.aload_n 0, 1) := by decide +kernel
theorem dL_areAll_192 : decode cL_areAll 192 = .ok (.iload 9, 2) := by decide +kernel
theorem dL_areAll_194 : decode cL_areAll 194 = .ok (.iconst 3, 1) := by decide +kernel
theorem dL_areAll_195 : decode cL_areAll 195 = .ok (.invokevirtual 14, 3) := by decide +kernel
theorem dL_areAll_198 : decode cL_areAll 198 = .ok (.ifCond .lt 8, 3) := by decide +kernel
theorem dL_areAll_201 : decode cL_areAll 201 = .ok (.iload 10, 2) := by decide +kernel
theorem dL_areAll_203 : decode cL_areAll 203 = .ok (.ifCond .ge 5, 3) := by decide +kernel
theorem dL_areAll_206 : decode cL_areAll 206 = .ok (.iconst 0, 1) := by decide +kernel
theorem dL_areAll_207 : decode cL_areAll 207 = .ok (.ireturn, 1) := by decide +kernel
theorem dL_areAll_208 : decode cL_areAll 208 = .ok (.iload 4, 2) := by decide +kernel
theorem dL_areAll_210 : decode cL_areAll 210 = .ok (.iload 11, 2) := by decide +kernel
theorem dL_areAll_212 : decode cL_areAll 212 = .ok (.ifCond .eq 7, 3) := by decide +kernel
theorem dL_areAll_215 : decode cL_areAll 215 = .ok (.iconst 1, 1) := by decide +kernel
theorem dL_areAll_216 : decode cL_areAll 216 = .ok (.goto 4, 3) := by decide +kernel
theorem dL_areAll_219 : decode cL_areAll 219 = .ok (.iconst 0, 1) := by decide +kernel
theorem dL_areAll_220 : decode cL_areAll 220 = .ok (.iadd, 1) := by decide +kernel
theorem dL_areAll_221 : decode cL_areAll 221 = .ok (.istore 4, 2) := by decide +kernel
theorem dL_areAll_223 : decode cL_areAll 223 = .ok (.iload 5, 2) := by decide +kernel
theorem dL_areAll_225 : decode cL_areAll 225 = .ok (.aload_n 0, 1) := by decide +kernel
theorem dL_areAll_226 : decode cL_areAll 226 = .ok (.iload 9, 2) := by decide +kernel
theorem dL_areAll_228 : decode cL_areAll 228 = .ok (.iconst 3, 1) := by decide +kernel
theorem dL_areAll_229 : decode cL_areAll 229 = .ok (.invokevirtual 14, 3) := by decide +kernel
theorem dL_areAll_232 : decode cL_areAll 232 = .ok (.iadd, 1) := by decide +kernel
theorem dL_areAll_233 : decode cL_areAll 233 = .ok (.istore 5, 2) := by decide +kernel
theorem dL_areAll_235 : decode cL_areAll 235 = .ok (.iload 7, 2) := by decide +kernel
theorem dL_areAll_237 : decode cL_areAll 237 = .ok (.iload 10, 2) := by decide +kernel
theorem dL_areAll_239 : decode cL_areAll 239 = .ok (.iadd, 1) := by decide +kernel
theorem dL_areAll_240 : decode cL_areAll 240 = .ok (.istore 7, 2) := by decide +kernel
theorem dL_areAll_242 : decode cL_areAll 242 = .ok (.iload 6, 2) := by decide +kernel
theorem dL_areAll_244 : decode cL_areAll 244 = .ok (.aload_n 0, 1) := by decide +kernel
theorem dL_areAll_245 : decode cL_areAll 245 = .ok (.iload 9, 2) := by decide +kernel
theorem dL_areAll_247 : decode cL_areAll 247 = .ok (.bipush 6, 2) := by decide +kernel
theorem dL_areAll_249 : decode cL_areAll 249 = .ok (.invokevirtual 14, 3) := by decide +kernel
theorem dL_areAll_252 : decode cL_areAll 252 = .ok (.iadd, 1) := by decide +kernel
theorem dL_areAll_253 : decode cL_areAll 253 = .ok (.istore 6, 2) := by decide +kernel
theorem dL_areAll_255 : decode cL_areAll 255 = .ok (.iload 8, 2) := by decide +kernel
theorem dL_areAll_257 : decode cL_areAll 257 = .ok (.aload_n 0, 1) := by decide +kernel
theorem dL_areAll_258 : decode cL_areAll 258 = .ok (.iload 9, 2) := by decide +kernel
theorem dL_areAll_260 : decode cL_areAll 260 = .ok (.bipush 7, 2) := by decide +kernel
theorem dL_areAll_262 : decode cL_areAll 262 = .ok (.invokevirtual 14, 3) := by decide +kernel
theorem dL_areAll_265 : decode cL_areAll 265 = .ok (.iadd, 1) := by decide +kernel
theorem dL_areAll_266 : decode cL_areAll 266 = .ok (.istore 8, 2) := by decide +kernel
theorem dL_areAll_268 : decode cL_areAll 268 = .ok (.iinc 9 1, 3) := by decide +kernel
theorem dL_areAll_271 : decode cL_areAll 271 = .ok (.goto (-232), 3) := by decide +kernel
theorem dL_areAll_274 : decode cL_areAll 274 = .ok (.iload_n 2, 1) := by decide +kernel
theorem dL_areAll_275 : decode cL_areAll 275 = .ok (.bipush (-6), 2) := by decide +kernel
theorem dL_areAll_277 : decode cL_areAll 277 = .ok (.if_icmp .ne 38, 3) := by decide +kernel
theorem dL_areAll_280 : decode cL_areAll 280 = .ok (.aload_n 0, 1) := by decide +kernel
theorem dL_areAll_281 : decode cL_areAll 281 = .ok (.bipush 10, 2) := by decide +kernel
theorem dL_areAll_283 : decode cL_areAll 283 = .ok (.invokevirtual 8, 3) := by decide +kernel
theorem dL_areAll_286 : decode cL_areAll 286 = .ok (.ifCond .lt 25, 3) := by decide +kernel
theorem dL_areAll_289 : decode cL_areAll 289 = .ok (.aload_n 0, 1) := by decide +kernel
theorem dL_areAll_290 : decode cL_areAll 290 = .ok (.bipush 10, 2) := by decide +kernel
theorem dL_areAll_292 : decode cL_areAll 292 = .ok (.invokevirtual 8, 3) := by decide +kernel
theorem dL_areAll_295 : decode cL_areAll 295 = .ok (.iload_n 1, 1) := by decide +kernel
theorem dL_areAll_296 : decode cL_areAll 296 = .ok (.ifCond .ne 7, 3) := by decide +kernel
theorem dL_areAll_299 : decode cL_areAll 299 = .ok (.iconst 1, 1) := by decide +kernel
theorem dL_areAll_300 : decode cL_areAll 300 = .ok (.goto 4, 3) := by decide +kernel
theorem dL_areAll_303 : decode cL_areAll 303 = .ok (.iload_n 1, 1) := by decide +kernel
theorem dL_areAll_304 : decode cL_areAll 304 = .ok (.if_icmp .ge 7, 3) := by decide +kernel
theorem dL_areAll_307 : decode cL_areAll 307 = .ok (.iconst 1, 1) := by decide +kernel
theorem dL_areAll_308 : decode cL_areAll 308 = .ok (.goto 32, 3) := by decide +kernel
theorem dL_areAll_311 : decode cL_areAll 311 = .ok (.iconst 0, 1) := by decide +kernel
theorem dL_areAll_312 : decode cL_areAll 312 = .ok (.goto 28, 3) := by decide +kernel
theorem dL_areAll_315 : decode cL_areAll 315 = .ok (.iload_n 2, 1) := by decide +kernel
theorem dL_areAll_316 : decode cL_areAll 316 = .ok (.ifCond .lt 23, 3) := by decide +kernel
theorem dL_areAll_319 : decode cL_areAll 319 = .ok (.iload_n 2, 1) := by decide +kernel
theorem dL_areAll_320 : decode cL_areAll 320 = .ok (.iload_n 1, 1) := by decide +kernel
theorem dL_areAll_321 : decode cL_areAll 321 = .ok (.if_icmp .ge 18, 3) := by decide +kernel
theorem dL_areAll_324 : decode cL_areAll 324 = .ok (.aload_n 0, 1) := by decide +kernel
theorem dL_areAll_325 : decode cL_areAll 325 = .ok (.bipush 10, 2) := by decide +kernel
theorem dL_areAll_327 : decode cL_areAll 327 = .ok (.invokevirtual 8, 3) := by decide +kernel
theorem dL_areAll_330 : decode cL_areAll 330 = .ok (.bipush (-6), 2) := by decide +kernel
theorem dL_areAll_332 : decode cL_areAll 332 = .ok (.if_icmp .ne 7, 3) := by decide +kernel
theorem dL_areAll_335 : decode cL_areAll 335 = .ok (.iconst 1, 1) := by decide +kernel
theorem dL_areAll_336 : decode cL_areAll 336 = .ok (.goto 4, 3) := by decide +kernel
theorem dL_areAll_339 : decode cL_areAll 339 = .ok (.iconst 0, 1) := by decide +kernel
theorem dL_areAll_340 : decode cL_areAll 340 = .ok (.istore 9, 2) := by decide +kernel
theorem dL_areAll_342 : decode cL_areAll 342 = .ok (.iload 9, 2) := by decide +kernel
theorem dL_areAll_344 : decode cL_areAll 344 = .ok (.ifCond .eq 120, 3) := by decide +kernel
theorem dL_areAll_347 : decode cL_areAll 347 = .ok (.iload_n 3, 1) := by decide +kernel
theorem dL_areAll_348 : decode cL_areAll 348 = .ok (.ifCond .lt 116, 3) := by decide +kernel
theorem dL_areAll_351 : decode cL_areAll 351 = .ok (.iload_n 3, 1) := by decide +kernel
theorem dL_areAll_352 : decode cL_areAll 352 = .ok (.bipush 100, 2) := by decide +kernel
theorem dL_areAll_354 : decode cL_areAll 354 = .ok (.if_icmp .ge 110, 3) := by decide +kernel
theorem dL_areAll_357 : decode cL_areAll 357 = .ok (.aload_n 0, 1) := by decide +kernel
theorem dL_areAll_358 : decode cL_areAll 358 = .ok (.bipush 11, 2) := by decide +kernel
theorem dL_areAll_360 : decode cL_areAll 360 = .ok (.invokevirtual 8, 3) := by decide +kernel
theorem dL_areAll_363 : decode cL_areAll 363 = .ok (.ifCond .lt 101, 3) := by decide +kernel
theorem dL_areAll_366 : decode cL_areAll 366 = .ok (.aload_n 0, 1) := by decide +kernel
theorem dL_areAll_367 : decode cL_areAll 367 = .ok (.bipush 12, 2) := by decide +kernel
theorem dL_areAll_369 : decode cL_areAll 369 = .ok (.invokevirtual 8, 3) := by decide +kernel
theorem dL_areAll_372 : decode cL_areAll 372 = .ok (.iload 4, 2) := by decide +kernel
theorem dL_areAll_374 : decode cL_areAll 374 = .ok (.if_icmp .ne 90, 3) := by decide +kernel
theorem dL_areAll_377 : decode cL_areAll 377 = .ok (.aload_n 0, 1) := by decide +kernel
theorem dL_areAll_378 : decode cL_areAll 378 = .ok (.bipush 17, 2) := by decide +kernel
theorem dL_areAll_380 : decode cL_areAll 380 = .ok (.invokevirtual 8, 3) := by decide +kernel
theorem dL_areAll_383 : decode cL_areAll 383 = .ok (.iload 5, 2) := by decide +kernel
theorem dL_areAll_385 : decode cL_areAll 385 = .ok (.if_icmp .ne 79, 3) := by decide +kernel
theorem dL_areAll_388 : decode cL_areAll 388 = .ok (.aload_n 0, 1) := by decide +kernel
theorem dL_areAll_389 : decode cL_areAll 389 = .ok (.bipush 13, 2) := by decide +kernel
theorem dL_areAll_391 : decode cL_areAll 391 = .ok (.invokevirtual 8, 3) := by decide +kernel
theorem dL_areAll_394 : decode cL_areAll 394 = .ok (.iload 7, 2) := by decide +kernel
theorem dL_areAll_396 : decode cL_areAll 396 = .ok (.if_icmp .ne 68, 3) := by decide +kernel
theorem dL_areAll_399 : decode cL_areAll 399 = .ok (.aload_n 0, 1) := by decide +kernel
theorem dL_areAll_400 : decode cL_areAll 400 = .ok (.bipush 14, 2) := by decide +kernel
theorem dL_areAll_402 : decode cL_areAll 402 = .ok (.invokevirtual 8, 3) := by decide +kernel
theorem dL_areAll_405 : decode cL_areAll 405 = .ok (.iload 6, 2) := by decide +kernel
theorem dL_areAll_407 : decode cL_areAll 407 = .ok (.if_icmp .ne 57, 3) := by decide +kernel
theorem dL_areAll_410 : decode cL_areAll 410 = .ok (.iload 8, 2) := by decide +kernel
theorem dL_areAll_412 : decode cL_areAll 412 = .ok (.aload_n 0, 1) := by decide +kernel
theorem dL_areAll_413 : decode cL_areAll 413 = .ok (.bipush 6, 2) := by decide +kernel
theorem dL_areAll_415 : decode cL_areAll 415 = .ok (.invokevirtual 8, 3) := by decide +kernel
theorem dL_areAll_418 : decode cL_areAll 418 = .ok (.if_icmp .gt 46, 3) := by decide +kernel
theorem dL_areAll_421 : decode cL_areAll 421 = .ok (.aload_n 0, 1) := by decide +kernel
theorem dL_areAll_422 : decode cL_areAll 422 = .ok (.bipush 11, 2) := by decide +kernel
theorem dL_areAll_424 : decode cL_areAll 424 = .ok (.invokevirtual 8, 3) := by decide +kernel
theorem dL_areAll_427 : decode cL_areAll 427 = .ok (.iload 5, 2) := by decide +kernel
theorem dL_areAll_429 : decode cL_areAll 429 = .ok (.iadd, 1) := by decide +kernel
theorem dL_areAll_430 : decode cL_areAll 430 = .ok (.aload_n 0, 1) := by decide +kernel
theorem dL_areAll_431 : decode cL_areAll 431 = .ok (.bipush 16, 2) := by decide +kernel
theorem dL_areAll_433 : decode cL_areAll 433 = .ok (.invokevirtual 8, 3) := by decide +kernel
theorem dL_areAll_436 : decode cL_areAll 436 = .ok (.iadd, 1) := by decide +kernel
theorem dL_areAll_437 : decode cL_areAll 437 = .ok (.sipush 1000, 3) := by decide +kernel
theorem dL_areAll_440 : decode cL_areAll 440 = .ok (.aload_n 0, 1) := by decide +kernel
theorem dL_areAll_441 : decode cL_areAll 441 = .ok (.bipush 18, 2) := by decide +kernel
theorem dL_areAll_443 : decode cL_areAll 443 = .ok (.invokevirtual 8, 3) := by decide +kernel
theorem dL_areAll_446 : decode cL_areAll 446 = .ok (.iadd, 1) := by decide +kernel
theorem dL_areAll_447 : decode cL_areAll 447 = .ok (.if_icmp .ne 17, 3) := by decide +kernel
theorem dL_areAll_450 : decode cL_areAll 450 = .ok (.aload_n 0, 1) := by decide +kernel
theorem dL_areAll_451 : decode cL_areAll 451 = .ok (.iload_n 1, 1) := by decide +kernel
theorem dL_areAll_452 : decode cL_areAll 452 = .ok (.iconst 0, 1) := by decide +kernel
theorem dL_areAll_453 : decode cL_areAll 453 = .ok (.invokevirtual 14, 3) := by decide +kernel
theorem dL_areAll_456 : decode cL_areAll 456 = .ok (.iconst (-1), 1) := by decide +kernel
theorem dL_areAll_457 : decode cL_areAll 457 = .ok (.if_icmp .ne 7, 3) := by decide +kernel
theorem dL_areAll_460 : decode cL_areAll 460 = .ok (.iconst 1, 1) := by decide +kernel
theorem dL_areAll_461 : decode cL_areAll 461 = .ok (.goto 4, 3) := by decide +kernel
theorem dL_areAll_464 : decode cL_areAll 464 = .ok (.iconst 0, 1) := by decide +kernel
theorem dL_areAll_465 : decode cL_areAll 465 = .ok (.ireturn, 1) := by decide +kernel
theorem dL_isDay_0 : decode cL_isDay 0 = .ok (.aload_n 0, 1) := by decide +kernel
theorem dL_isDay_1 : decode cL_isDay 1 = .ok (.bipush 7, 2) := by decide +kernel
theorem dL_isDay_3 : decode cL_isDay 3 = .ok (.invokevirtual 8, 3) := by decide +kernel
theorem dL_isDay_6 : decode cL_isDay 6 = .ok (.istore_n 1, 1) := by decide +kernel
theorem dL_isDay_7 : decode cL_isDay 7 = .ok (.aload_n 0, 1) := by decide +kernel
theorem dL_isDay_8 : decode cL_isDay 8 = .ok (.bipush 6, 2) := by decide +kernel
theorem dL_isDay_10 : decode cL_isDay 10 = .ok (.invokevirtual 8, 3) := by decide +kernel
theorem dL_isDay_13 : decode cL_isDay 13 = .ok (.iconst 1, 1) := by decide +kernel
theorem dL_isDay_14 : decode cL_isDay 14 = .ok (.iadd, 1) := by decide +kernel
theorem dL_isDay_15 : decode cL_isDay 15 = .ok (.istore_n 2, 1) := by decide +kernel
theorem dL_isDay_16 : decode cL_isDay 16 = .ok (.aload_n 0, 1) := by decide +kernel
theorem dL_isDay_17 : decode cL_isDay 17 = .ok (.bipush 9, 2) := by decide +kernel
theorem dL_isDay_19 : decode cL_isDay 19 = .ok (.invokevirtual 8, 3) := by decide +kernel
theorem dL_isDay_22 : decode cL_isDay 22 = .ok (.istore_n 3, 1) := by decide +kernel
theorem dL_isDay_23 : decode cL_isDay 23 = .ok (.aload_n 0, 1) := by decide +kernel
theorem dL_isDay_24 : decode cL_isDay 24 = .ok (.bipush 8, 2) := by decide +kernel
theorem dL_isDay_26 : decode cL_isDay 26 = .ok (.invokevirtual 8, 3) := by decide +kernel
theorem dL_isDay_29 : decode cL_isDay 29 = .ok (.istore 4, 2) := by decide +kernel
theorem dL_isDay_31 : decode cL_isDay 31 = .ok (.aload_n 0, 1) := by decide +kernel
theorem dL_isDay_32 : decode cL_isDay 32 = .ok (.bipush 17, 2) := by decide +kernel
theorem dL_isDay_34 : decode cL_isDay 34 = .ok (.invokevirtual 8, 3) := by decide +kernel
theorem dL_isDay_37 : decode cL_isDay 37 = .ok (.istore 5, 2) := by decide +kernel
theorem dL_isDay_39 : decode cL_isDay 39 = .ok (.aload_n 0, 1) := by decide +kernel
theorem dL_isDay_40 : decode cL_isDay 40 = .ok (.bipush 11, 2) := by decide +kernel
theorem dL_isDay_42 : decode cL_isDay 42 = .ok (.invokevirtual 8, 3) := by decide +kernel
theorem dL_isDay_45 : decode cL_isDay 45 = .ok (.istore 6, 2) := by decide +kernel
theorem dL_isDay_47 : decode cL_isDay 47 = .ok (.aload_n 0, 1) := by decide +kernel
theorem dL_isDay_48 : decode cL_isDay 48 = .ok (.bipush 16, 2) := by decide +kernel
theorem dL_isDay_50 : decode cL_isDay 50 = .ok (.invokevirtual 8, 3) := by decide +kernel
theorem dL_isDay_53 : decode cL_isDay 53 = .ok (.istore 7, 2) := by decide +kernel
theorem dL_isDay_55 : decode cL_isDay 55 = .ok (.aload_n 0, 1) := by decide +kernel
theorem dL_isDay_56 : decode cL_isDay 56 = .ok (.bipush 15, 2) := by decide +kernel
theorem dL_isDay_58 : decode cL_isDay 58 = .ok (.invokevirtual 8, 3) := by decide +kernel
theorem dL_isDay_61 : decode cL_isDay 61 = .ok (.istore 8, 2) := by decide +kernel
theorem dL_isDay_63 : decode cL_isDay 63 = .ok (.aload_n 0, 1) := by decide +kernel
theorem dL_isDay_64 : decode cL_isDay 64 = .ok (.bipush 13, 2) := by decide +kernel
theorem dL_isDay_66 : decode cL_isDay 66 = .ok (.invokevirtual 8, 3) := by decide +kernel
theorem dL_isDay_69 : decode cL_isDay 69 = .ok (.istore 9, 2) := by decide +kernel
theorem dL_isDay_71 : decode cL_isDay 71 = .ok (.aload_n 0, 1) := by decide +kernel
theorem dL_isDay_72 : decode cL_isDay 72 = .ok (.bipush 10, 2) := by decide +kernel
theorem dL_isDay_74 : decode cL_isDay 74 = .ok (.invokevirtual 8, 3) := by decide +kernel
theorem dL_isDay_77 : decode cL_isDay 77 = .ok (.istore 10, 2) := by decide +kernel
theorem dL_isDay_79 : decode cL_isDay 79 = .ok (.iconst (-1), 1) := by decide +kernel
theorem dL_isDay_80 : decode cL_isDay 80 = .ok (.istore 11, 2) := by decide +kernel
theorem dL_isDay_82 : decode cL_isDay 82 = .ok (.iload_n 3, 1) := by decide +kernel
theorem dL_isDay_83 : decode cL_isDay 83 = .ok (.istore 12, 2) := by decide +kernel
theorem dL_isDay_85 : decode cL_isDay 85 = .ok (.iconst 0, 1) := by decide +kernel
theorem dL_isDay_86 : decode cL_isDay 86 = .ok (.istore 13, 2) := by decide +kernel
theorem dL_isDay_88 : decode cL_isDay 88 = .ok (.iload_n 1, 1) := by decide +kernel
theorem dL_isDay_89 : decode cL_isDay 89 = .ok (.iconst 1, 1) := by decide +kernel
theorem dL_isDay_90 : decode cL_isDay 90 = .ok (.isub, 1) := by decide +kernel
theorem dL_isDay_91 : decode cL_isDay 91 = .ok (.istore 14, 2) := by decide +kernel
theorem dL_isDay_93 : decode cL_isDay 93 = .ok (.iload 14, 2) := by decide +kernel
theorem dL_isDay_95 : decode cL_isDay 95 = .ok (.ifCond .lt 42, 3) := by decide +kernel
theorem dL_isDay_98 : decode cL_isDay 98 = .ok (.iload_n 3, 1) := by decide +kernel
theorem dL_isDay_99 : decode cL_isDay 99 = .ok (.ifCond .ge 38, 3) := by decide +kernel
theorem dL_isDay_102 : decode cL_isDay 102 = .ok (.aload_n 0, 1) := by decide +kernel
theorem dL_isDay_103 : decode cL_isDay 103 = .ok (.iload 10, 2) := by decide +kernel
theorem dL_isDay_105 : decode cL_isDay 105 = .ok (.iload 14, 2) := by decide +kernel
theorem dL_isDay_107 : decode cL_isDay 107 = .ok (.iadd, 1) := by decide +kernel
theorem dL_isDay_108 : decode cL_isDay 108 = .ok (.iload_n 1, 1) := by decide +kernel
theorem dL_isDay_109 : decode cL_isDay 109 = .ok (.irem, 1) := by decide +kernel
theorem dL_isDay_110 : decode cL_isDay 110 = .ok (.iconst 4, 1) := by decide +kernel
theorem dL_isDay_111 : decode cL_isDay 111 = .ok (.invokevirtual 14, 3) := by decide +kernel
theorem dL_isDay_114 : decode cL_isDay 114 = .ok (.ifCond .ne 13, 3) := by decide +kernel
theorem dL_isDay_117 : decode cL_isDay 117 = .ok (.iload 10, 2) := by decide +kernel
theorem dL_isDay_119 : decode cL_isDay 119 = .ok (.iload 14, 2) := by decide +kernel
theorem dL_isDay_121 : decode cL_isDay 121 = .ok (.iadd, 1) := by decide +kernel
theorem dL_isDay_122 : decode cL_isDay 122 = .ok (.iload_n 1, 1) := by decide +kernel
theorem dL_isDay_123 : decode cL_isDay 123 = .ok (.irem, 1) := by decide +kernel
theorem dL_isDay_124 : decode cL_isDay 124 = .ok (.goto 5, 3) := by decide +kernel
theorem dL_isDay_127 : decode cL_isDay 127 = .ok (.iload 11, 2) := by decide +kernel
theorem dL_isDay_129 : decode cL_isDay 129 = .ok (.istore 11, 2) := by decide +kernel
theorem dL_isDay_131 : decode cL_isDay 131 = .ok (.iinc 14 (-1), 3) := by decide +kernel
theorem dL_isDay_134 : decode cL_isDay 134 = .ok (.goto (-41), 3) := by decide +kernel
theorem dL_isDay_137 : decode cL_isDay 137 = .ok (.iload 11, 2) := by decide +kernel
theorem dL_isDay_139 : decode cL_isDay 139 = .ok (.ifCond .lt 99, 3) := by decide +kernel
theorem dL_isDay_142 : decode cL_isDay 142 = .ok (.aload_n 0, 1) := by decide +kernel
theorem dL_isDay_143 : decode cL_isDay 143 = .ok (.iload 11, 2) := by decide +kernel
theorem dL_isDay_145 : decode cL_isDay 145 = .ok (.iconst 5, 1) := by decide +kernel
theorem dL_isDay_146 : decode cL_isDay 146 = .ok (.invokevirtual 14, 3) := by decide +kernel
theorem dL_isDay_149 : decode cL_isDay 149 = .ok (.sipush 1000, 3) := by decide +kernel
theorem dL_isDay_152 : decode cL_isDay 152 = .ok (.isub, 1) := by decide +kernel
theorem dL_isDay_153 : decode cL_isDay 153 = .ok (.aload_n 0, 1) := by decide +kernel
theorem dL_isDay_154 : decode cL_isDay 154 = .ok (.iconst 0, 1) := by decide +kernel
theorem dL_isDay_155 : decode cL_isDay 155 = .ok (.invokevirtual 8, 3) := by decide +kernel
theorem dL_isDay_158 : decode cL_isDay 158 = .ok (.if_icmp .lt 7, 3) := by decide +kernel
theorem dL_isDay_161 : decode cL_isDay 161 = .ok (.iconst 1, 1) := by decide +kernel
theorem dL_isDay_162 : decode cL_isDay 162 = .ok (.goto 4, 3) := by decide +kernel
theorem dL_isDay_165 : decode cL_isDay 165 = .ok (.iconst 0, 1) := by decide +kernel
theorem dL_isDay_166 : decode cL_isDay 166 = .ok (.istore 14, 2) := by decide +kernel
theorem dL_isDay_168 : decode cL_isDay 168 = .ok (.iload 14, 2) := by decide +kernel
theorem dL_isDay_170 : decode cL_isDay 170 = .ok (.ifCond .eq 8, 3) := by decide +kernel
theorem dL_isDay_173 : decode cL_isDay 173 = .ok (.iload 11, 2) := by decide +kernel
theorem dL_isDay_175 : decode cL_isDay 175 = .ok (.goto 5, 3) := by decide +kernel
theorem dL_isDay_178 : decode cL_isDay 178 = .ok (.bipush (-6), 2) := by decide +kernel
theorem dL_isDay_180 : decode cL_isDay 180 = .ok (.istore 12, 2) := by decide +kernel
theorem dL_isDay_182 : decode cL_isDay 182 = .ok (.iload 14, 2) := by decide +kernel
theorem dL_isDay_184 : decode cL_isDay 184 = .ok (.ifCond .eq 7, 3) := by decide +kernel
theorem dL_isDay_187 : decode cL_isDay 187 = .ok (.iconst 1, 1) := by decide +kernel
theorem dL_isDay_188 : decode cL_isDay 188 = .ok (.goto 4, 3) := by decide +kernel
theorem dL_isDay_191 : decode cL_isDay 191 = .ok (.iconst 0, 1) := by decide +kernel
theorem dL_isDay_192 : decode cL_isDay 192 = .ok (.istore 13, 2) := by decide +kernel
theorem dL_isDay_194 : decode cL_isDay 194 = .ok (.iload 14, 2) := by decide +kernel
theorem dL_isDay_196 : decode cL_isDay 196 = .ok (.ifCond .eq 8, 3) := by decide +kernel
theorem dL_isDay_199 : decode cL_isDay 199 = .ok (.iload 4, 2) := by decide +kernel
theorem dL_isDay_201 : decode cL_isDay 201 = .ok (.goto 17, 3) := by decide +kernel
theorem dL_isDay_204 : decode cL_isDay 204 = .ok (.iload 4, 2) := by decide +kernel
theorem dL_isDay_206 : decode cL_isDay 206 = .ok (.iconst 3, 1) := by decide +kernel
theorem dL_isDay_207 : decode cL_isDay 207 = .ok (.if_icmp .ge 7, 3) := by decide +kernel
theorem dL_isDay_210 : decode cL_isDay 210 = .ok (.iconst 0, 1) := by decide +kernel
theorem dL_isDay_211 : decode cL_isDay 211 = .ok (.goto 7, 3) := by decide +kernel
theorem dL_isDay_214 : decode cL_isDay 214 = .ok (.iload 4, 2) := by decide +kernel
theorem dL_isDay_216 : decode cL_isDay 216 = .ok (.iconst 3, 1) := by decide +kernel
theorem dL_isDay_217 : decode cL_isDay 217 = .ok (.isub, 1) := by decide +kernel
theorem dL_isDay_218 : decode cL_isDay 218 = .ok (.istore 4, 2) := by decide +kernel
theorem dL_isDay_220 : decode cL_isDay 220 = .ok (.iload 14, 2) := by decide +kernel
theorem dL_isDay_222 : decode cL_isDay 222 = .ok (.ifCond .eq 8, 3) := by decide +kernel
theorem dL_isDay_225 : decode cL_isDay 225 = .ok (.iload 10, 2) := by decide +kernel
theorem dL_isDay_227 : decode cL_isDay 227 = .ok (.goto 9, 3) := by decide +kernel
theorem dL_isDay_230 : decode cL_isDay 230 = .ok (.iload 11, 2) := by decide +kernel
theorem dL_isDay_232 : decode cL_isDay 232 = .ok (.iconst 1, 1) := by decide +kernel
theorem dL_isDay_233 : decode cL_isDay 233 = .ok (.iadd, 1) := by decide +kernel
theorem dL_isDay_234 : decode cL_isDay 234 = .ok (.iload_n 1, 1) := by decide +kernel
theorem dL_isDay_235 : decode cL_isDay 235 = .ok (.irem, 1) := by decide +kernel
theorem dL_isDay_236 : decode cL_isDay 236 = .ok (.istore 10, 2) := by decide +kernel
theorem dL_isDay_238 : decode cL_isDay 238 = .ok (.iconst 0, 1) := by decide +kernel
theorem dL_isDay_239 : decode cL_isDay 239 = .ok (.istore 14, 2) := by decide +kernel
theorem dL_isDay_241 : decode cL_isDay 241 = .ok (.iconst 0, 1) := by decide +kernel
theorem dL_isDay_242 : decode cL_isDay 242 = .ok (.istore 15, 2) := by decide +kernel
theorem dL_isDay_244 : decode cL_isDay 244 = .ok (.iconst 0, 1) := by decide +kernel
theorem dL_isDay_245 : decode cL_isDay 245 = .ok (.istore 16, 2) := by decide +kernel
theorem dL_isDay_247 : decode cL_isDay 247 = .ok (.iload_n 2, 1) := by decide +kernel
theorem dL_isDay_248 : decode cL_isDay 248 = .ok (.aload_n 0, 1) := by decide +kernel
theorem dL_isDay_249 : decode cL_isDay 249 = .ok (.iconst 3, 1) := by decide +kernel
theorem dL_isDay_250 : decode cL_isDay 250 = .ok (.invokevirtual 8, 3) := by decide +kernel
theorem dL_isDay_253 : decode cL_isDay 253 = .ok (.irem, 1) := by decide +kernel
theorem dL_isDay_254 : decode cL_isDay 254 = .ok (.ifCond .ne 124, 3) := by decide +kernel
theorem dL_isDay_257 : decode cL_isDay 257 = .ok (.iload 12, 2) := by decide +kernel
theorem dL_isDay_259 : decode cL_isDay 259 = .ok (.ifCond .ge 13, 3) := by decide +kernel
theorem dL_isDay_262 : decode cL_isDay 262 = .ok (.aload_n 0, 1) := by decide +kernel
theorem dL_isDay_263 : decode cL_isDay 263 = .ok (.iconst 1, 1) := by decide +kernel
theorem dL_isDay_264 : decode cL_isDay 264 = .ok (.invokevirtual 8, 3) := by decide +kernel
theorem dL_isDay_267 : decode cL_isDay 267 = .ok (.iconst 2, 1) := by decide +kernel
theorem dL_isDay_268 : decode cL_isDay 268 = .ok (.idiv, 1) := by decide +kernel
theorem dL_isDay_269 : decode cL_isDay 269 = .ok (.goto 8, 3) := by decide +kernel
theorem dL_isDay_272 : decode cL_isDay 272 = .ok (.aload_n 0, 1) := by decide +kernel
theorem dL_isDay_273 : decode cL_isDay 273 = .ok (.iconst 1, 1) := by decide +kernel
theorem dL_isDay_274 : decode cL_isDay 274 = .ok (.invokevirtual 8, 3) := by decide +kernel
theorem dL_isDay_277 : decode cL_isDay 277 = .ok (.istore 14, 2) := by decide +kernel
theorem dL_isDay_279 : decode cL_isDay 279 = .ok (.iload 14, 2) := by decide +kernel
theorem dL_isDay_281 : decode cL_isDay 281 = .ok (.iload 6, 2) := by decide +kernel
theorem dL_isDay_283 : decode cL_isDay 283 = .ok (.if_icmp .ge 8, 3) := by decide +kernel
theorem dL_isDay_286 : decode cL_isDay 286 = .ok (.iload 14, 2) := by decide +kernel
theorem dL_isDay_288 : decode cL_isDay 288 = .ok (.goto 5, 3) := by decide +kernel
theorem dL_isDay_291 : decode cL_isDay 291 = .ok (.iload 6, 2) := by decide +kernel
theorem dL_isDay_293 : decode cL_isDay 293 = .ok (.istore 14, 2) := by decide +kernel
theorem dL_isDay_295 : decode cL_isDay 295 = .ok (.iload 12, 2) := by decide +kernel
theorem dL_isDay_297 : decode cL_isDay 297 = .ok (.ifCond .ge 8, 3) := by decide +kernel
theorem dL_isDay_300 : decode cL_isDay 300 = .ok (.iload 14, 2) := by decide +kernel
theorem dL_isDay_302 : decode cL_isDay 302 = .ok (.goto 16, 3) := by decide +kernel
theorem dL_isDay_305 : decode cL_isDay 305 = .ok (.iload 14, 2) := by decide +kernel
theorem dL_isDay_307 : decode cL_isDay 307 = .ok (.aload_n 0, 1) := by decide +kernel
theorem dL_isDay_308 : decode cL_isDay 308 = .ok (.iload 12, 2) := by decide +kernel
theorem dL_isDay_310 : decode cL_isDay 310 = .ok (.iconst 1, 1) := by decide +kernel
theorem dL_isDay_311 : decode cL_isDay 311 = .ok (.invokevirtual 14, 3) := by decide +kernel
theorem dL_isDay_314 : decode cL_isDay 314 = .ok (.imul, 1) := by decide +kernel
theorem dL_isDay_315 : decode cL_isDay 315 = .ok (.bipush 100, 2) := by decide +kernel
theorem dL_isDay_317 : decode cL_isDay 317 = .ok (.idiv, 1) := by decide +kernel
theorem dL_isDay_318 : decode cL_isDay 318 = .ok (.istore 15, 2) := by decide +kernel
theorem dL_isDay_320 : decode cL_isDay 320 = .ok (.iload 12, 2) := by decide +kernel
theorem dL_isDay_322 : decode cL_isDay 322 = .ok (.ifCond .ge 8, 3) := by decide +kernel
theorem dL_isDay_325 : decode cL_isDay 325 = .ok (.iload 4, 2) := by decide +kernel
theorem dL_isDay_327 : decode cL_isDay 327 = .ok (.goto 27, 3) := by decide +kernel
theorem dL_isDay_330 : decode cL_isDay 330 = .ok (.iload 4, 2) := by decide +kernel
theorem dL_isDay_332 : decode cL_isDay 332 = .ok (.iload 15, 2) := by decide +kernel
theorem dL_isDay_334 : decode cL_isDay 334 = .ok (.iconst 2, 1) := by decide +kernel
theorem dL_isDay_335 : decode cL_isDay 335 = .ok (.idiv, 1) := by decide +kernel
theorem dL_isDay_336 : decode cL_isDay 336 = .ok (.iadd, 1) := by decide +kernel
theorem dL_isDay_337 : decode cL_isDay 337 = .ok (.bipush 99, 2) := by decide +kernel
theorem dL_isDay_339 : decode cL_isDay 339 = .ok (.if_icmp .le 8, 3) := by decide +kernel
theorem dL_isDay_342 : decode cL_isDay 342 = .ok (.bipush 99, 2) := by decide +kernel
theorem dL_isDay_344 : decode cL_isDay 344 = .ok (.goto 10, 3) := by decide +kernel
theorem dL_isDay_347 : decode cL_isDay 347 = .ok (.iload 4, 2) := by decide +kernel
theorem dL_isDay_349 : decode cL_isDay 349 = .ok (.iload 15, 2) := by decide +kernel
theorem dL_isDay_351 : decode cL_isDay 351 = .ok (.iconst 2, 1) := by decide +kernel
theorem dL_isDay_352 : decode cL_isDay 352 = .ok (.idiv, 1) := by decide +kernel
theorem dL_isDay_353 : decode cL_isDay 353 = .ok (.iadd, 1) := by decide +kernel
theorem dL_isDay_354 : decode cL_isDay 354 = .ok (.istore 4, 2) := by decide +kernel
theorem dL_isDay_356 : decode cL_isDay 356 = .ok (.iload 12, 2) := by decide +kernel
theorem dL_isDay_358 : decode cL_isDay 358 = .ok (.ifCond .lt 17, 3) := by decide +kernel
theorem dL_isDay_361 : decode cL_isDay 361 = .ok (.iload 4, 2) := by decide +kernel
theorem dL_isDay_363 : decode cL_isDay 363 = .ok (.aload_n 0, 1) := by decide +kernel
theorem dL_isDay_364 : decode cL_isDay 364 = .ok (.iconst 5, 1) := by decide +kernel
theorem dL_isDay_365 : decode cL_isDay 365 = .ok (.invokevirtual 8, 3) := by decide +kernel
theorem dL_isDay_368 : decode cL_isDay 368 = .ok (.if_icmp .ge 7, 3) := by decide +kernel
theorem dL_isDay_371 : decode cL_isDay 371 = .ok (.iconst 1, 1) := by decide +kernel
theorem dL_isDay_372 : decode cL_isDay 372 = .ok (.goto 4, 3) := by decide +kernel
theorem dL_isDay_375 : decode cL_isDay 375 = .ok (.iconst 0, 1) := by decide +kernel
theorem dL_isDay_376 : decode cL_isDay 376 = .ok (.istore 16, 2) := by decide +kernel
theorem dL_isDay_378 : decode cL_isDay 378 = .ok (.iload 4, 2) := by decide +kernel
theorem dL_isDay_380 : decode cL_isDay 380 = .ok (.iload 4, 2) := by decide +kernel
theorem dL_isDay_382 : decode cL_isDay 382 = .ok (.bipush 50, 2) := by decide +kernel
theorem dL_isDay_384 : decode cL_isDay 384 = .ok (.if_icmp .ge 7, 3) := by decide +kernel
theorem dL_isDay_387 : decode cL_isDay 387 = .ok (.iconst 1, 1) := by decide +kernel
theorem dL_isDay_388 : decode cL_isDay 388 = .ok (.goto 15, 3) := by decide +kernel
theorem dL_isDay_391 : decode cL_isDay 391 = .ok (.iload 4, 2) := by decide +kernel
theorem dL_isDay_393 : decode cL_isDay 393 = .ok (.bipush 50, 2) := by decide +kernel
theorem dL_isDay_395 : decode cL_isDay 395 = .ok (.if_icmp .le 7, 3) := by decide +kernel
theorem dL_isDay_398 : decode cL_isDay 398 = .ok (.iconst (-1), 1) := by decide +kernel
theorem dL_isDay_399 : decode cL_isDay 399 = .ok (.goto 4, 3) := by decide +kernel
theorem dL_isDay_402 : decode cL_isDay 402 = .ok (.iconst 0, 1) := by decide +kernel
theorem dL_isDay_403 : decode cL_isDay 403 = .ok (.iadd, 1) := by decide +kernel
theorem dL_isDay_404 : decode cL_isDay 404 = .ok (.istore 4, 2) := by decide +kernel
theorem dL_isDay_406 : decode cL_isDay 406 = .ok (.iload 16, 2) := by decide +kernel
theorem dL_isDay_408 : decode cL_isDay 408 = .ok (.ifCond .eq 8, 3) := by decide +kernel
theorem dL_isDay_411 : decode cL_isDay 411 = .ok (.bipush (-6), 2) := by decide +kernel
theorem dL_isDay_413 : decode cL_isDay 413 = .ok (.goto 5, 3) := by decide +kernel
theorem dL_isDay_416 : decode cL_isDay 416 = .ok (.iload 12, 2) := by decide +kernel
theorem dL_isDay_418 : decode cL_isDay 418 = .ok (.istore 17, 2) := by decide +kernel
theorem dL_isDay_420 : decode cL_isDay 420 = .ok (.aload_n 0, 1) := by decide +kernel
theorem dL_isDay_421 : decode cL_isDay 421 = .ok (.iconst 1, 1) := by decide +kernel
theorem dL_isDay_422 : decode cL_isDay 422 = .ok (.invokevirtual 18, 3) := by decide +kernel
theorem dL_isDay_425 : decode cL_isDay 425 = .ok (.iload 13, 2) := by decide +kernel
theorem dL_isDay_427 : decode cL_isDay 427 = .ok (.if_icmp .eq 5, 3) := by decide +kernel
theorem dL_isDay_430 : decode cL_isDay 430 = .ok (.iconst 0, 1) := by decide +kernel
theorem dL_isDay_431 : decode cL_isDay 431 = .ok (.ireturn, 1) := by decide +kernel
theorem dL_isDay_432 : decode cL_isDay 432 = .ok (.aload_n 0, 1) := by decide +kernel
theorem dL_isDay_433 : decode cL_isDay 433 = .ok (.bipush 6, 2) := by decide +kernel
theorem dL_isDay_435 : decode cL_isDay 435 = .ok (.invokevirtual 8, 3) := by decide +kernel
theorem dL_isDay_438 : decode cL_isDay 438 = .ok (.iload_n 2, 1) := by decide +kernel
theorem dL_isDay_439 : decode cL_isDay 439 = .ok (.if_icmp .ne 152, 3) := by decide +kernel
theorem dL_isDay_442 : decode cL_isDay 442 = .ok (.aload_n 0, 1) := by decide +kernel
theorem dL_isDay_443 : decode cL_isDay 443 = .ok (.bipush 8, 2) := by decide +kernel
theorem dL_isDay_445 : decode cL_isDay 445 = .ok (.invokevirtual 8, 3) := by decide +kernel
theorem dL_isDay_448 : decode cL_isDay 448 = .ok (.iload 4, 2) := by decide +kernel
theorem dL_isDay_450 : decode cL_isDay 450 = .ok (.if_icmp .ne 141, 3) := by decide +kernel
theorem dL_isDay_453 : decode cL_isDay 453 = .ok (.aload_n 0, 1) := by decide +kernel
theorem dL_isDay_454 : decode cL_isDay 454 = .ok (.bipush 9, 2) := by decide +kernel
theorem dL_isDay_456 : decode cL_isDay 456 = .ok (.invokevirtual 8, 3) := by decide +kernel
theorem dL_isDay_459 : decode cL_isDay 459 = .ok (.iload 17, 2) := by decide +kernel
theorem dL_isDay_461 : decode cL_isDay 461 = .ok (.if_icmp .ne 130, 3) := by decide +kernel
theorem dL_isDay_464 : decode cL_isDay 464 = .ok (.iload 17, 2) := by decide +kernel
theorem dL_isDay_466 : decode cL_isDay 466 = .ok (.ifCond .ge 27, 3) := by decide +kernel
theorem dL_isDay_469 : decode cL_isDay 469 = .ok (.iload_n 1, 1) := by decide +kernel
theorem dL_isDay_470 : decode cL_isDay 470 = .ok (.ifCond .eq 23, 3) := by decide +kernel
theorem dL_isDay_473 : decode cL_isDay 473 = .ok (.aload_n 0, 1) := by decide +kernel
theorem dL_isDay_474 : decode cL_isDay 474 = .ok (.bipush 10, 2) := by decide +kernel
theorem dL_isDay_476 : decode cL_isDay 476 = .ok (.invokevirtual 8, 3) := by decide +kernel
theorem dL_isDay_479 : decode cL_isDay 479 = .ok (.iload 16, 2) := by decide +kernel
theorem dL_isDay_481 : decode cL_isDay 481 = .ok (.ifCond .eq 7, 3) := by decide +kernel
theorem dL_isDay_484 : decode cL_isDay 484 = .ok (.iconst 0, 1) := by decide +kernel
theorem dL_isDay_485 : decode cL_isDay 485 = .ok (.goto 5, 3) := by decide +kernel
theorem dL_isDay_488 : decode cL_isDay 488 = .ok (.iload 10, 2) := by decide +kernel
theorem dL_isDay_490 : decode cL_isDay 490 = .ok (.if_icmp .ne 101, 3) := by decide +kernel
theorem dL_isDay_493 : decode cL_isDay 493 = .ok (.aload_n 0, 1) := by decide +kernel
theorem dL_isDay_494 : decode cL_isDay 494 = .ok (.bipush 11, 2) := by decide +kernel
theorem dL_isDay_496 : decode cL_isDay 496 = .ok (.invokevirtual 8, 3) := by decide +kernel
theorem dL_isDay_499 : decode cL_isDay 499 = .ok (.iload 6, 2) := by decide +kernel
theorem dL_isDay_501 : decode cL_isDay 501 = .ok (.iload 14, 2) := by decide +kernel
theorem dL_isDay_503 : decode cL_isDay 503 = .ok (.isub, 1) := by decide +kernel
theorem dL_isDay_504 : decode cL_isDay 504 = .ok (.if_icmp .ne 87, 3) := by decide +kernel
theorem dL_isDay_507 : decode cL_isDay 507 = .ok (.aload_n 0, 1) := by decide +kernel
theorem dL_isDay_508 : decode cL_isDay 508 = .ok (.bipush 16, 2) := by decide +kernel
theorem dL_isDay_510 : decode cL_isDay 510 = .ok (.invokevirtual 8, 3) := by decide +kernel
theorem dL_isDay_513 : decode cL_isDay 513 = .ok (.iload 7, 2) := by decide +kernel
theorem dL_isDay_515 : decode cL_isDay 515 = .ok (.iload 15, 2) := by decide +kernel
theorem dL_isDay_517 : decode cL_isDay 517 = .ok (.iadd, 1) := by decide +kernel
theorem dL_isDay_518 : decode cL_isDay 518 = .ok (.if_icmp .ne 73, 3) := by decide +kernel
theorem dL_isDay_521 : decode cL_isDay 521 = .ok (.aload_n 0, 1) := by decide +kernel
theorem dL_isDay_522 : decode cL_isDay 522 = .ok (.bipush 17, 2) := by decide +kernel
theorem dL_isDay_524 : decode cL_isDay 524 = .ok (.invokevirtual 8, 3) := by decide +kernel
theorem dL_isDay_527 : decode cL_isDay 527 = .ok (.iload 5, 2) := by decide +kernel
theorem dL_isDay_529 : decode cL_isDay 529 = .ok (.iload 14, 2) := by decide +kernel
theorem dL_isDay_531 : decode cL_isDay 531 = .ok (.iadd, 1) := by decide +kernel
theorem dL_isDay_532 : decode cL_isDay 532 = .ok (.iload 15, 2) := by decide +kernel
theorem dL_isDay_534 : decode cL_isDay 534 = .ok (.isub, 1) := by decide +kernel
theorem dL_isDay_535 : decode cL_isDay 535 = .ok (.if_icmp .ne 56, 3) := by decide +kernel
theorem dL_isDay_538 : decode cL_isDay 538 = .ok (.aload_n 0, 1) := by decide +kernel
theorem dL_isDay_539 : decode cL_isDay 539 = .ok (.bipush 15, 2) := by decide +kernel
theorem dL_isDay_541 : decode cL_isDay 541 = .ok (.invokevirtual 8, 3) := by decide +kernel
theorem dL_isDay_544 : decode cL_isDay 544 = .ok (.iload 8, 2) := by decide +kernel
theorem dL_isDay_546 : decode cL_isDay 546 = .ok (.iload 16, 2) := by decide +kernel
theorem dL_isDay_548 : decode cL_isDay 548 = .ok (.ifCond .eq 7, 3) := by decide +kernel
theorem dL_isDay_551 : decode cL_isDay 551 = .ok (.iconst 1, 1) := by decide +kernel
theorem dL_isDay_552 : decode cL_isDay 552 = .ok (.goto 4, 3) := by decide +kernel
theorem dL_isDay_555 : decode cL_isDay 555 = .ok (.iconst 0, 1) := by decide +kernel
theorem dL_isDay_556 : decode cL_isDay 556 = .ok (.iadd, 1) := by decide +kernel
theorem dL_isDay_557 : decode cL_isDay 557 = .ok (.if_icmp .ne 34, 3) := by decide +kernel
theorem dL_isDay_560 : decode cL_isDay 560 = .ok (.aload_n 0, 1) := by decide +kernel
theorem dL_isDay_561 : decode cL_isDay 561 = .ok (.bipush 13, 2) := by decide +kernel
theorem dL_isDay_563 : decode cL_isDay 563 = .ok (.invokevirtual 8, 3) := by decide +kernel
theorem dL_isDay_566 : decode cL_isDay 566 = .ok (.iload 9, 2) := by decide +kernel
theorem dL_isDay_568 : decode cL_isDay 568 = .ok (.iload 11, 2) := by decide +kernel
theorem dL_isDay_570 : decode cL_isDay 570 = .ok (.ifCond .lt 12, 3) := by decide +kernel
theorem dL_isDay_573 : decode cL_isDay 573 = .ok (.iload 13, 2) := by decide +kernel
theorem dL_isDay_575 : decode cL_isDay 575 = .ok (.ifCond .ne 7, 3) := by decide +kernel
theorem dL_isDay_578 : decode cL_isDay 578 = .ok (.iconst 1, 1) := by decide +kernel
theorem dL_isDay_579 : decode cL_isDay 579 = .ok (.goto 4, 3) := by decide +kernel
theorem dL_isDay_582 : decode cL_isDay 582 = .ok (.iconst 0, 1) := by decide +kernel
theorem dL_isDay_583 : decode cL_isDay 583 = .ok (.iadd, 1) := by decide +kernel
theorem dL_isDay_584 : decode cL_isDay 584 = .ok (.if_icmp .ne 7, 3) := by decide +kernel
theorem dL_isDay_587 : decode cL_isDay 587 = .ok (.iconst 1, 1) := by decide +kernel
theorem dL_isDay_588 : decode cL_isDay 588 = .ok (.goto 4, 3) := by decide +kernel
theorem dL_isDay_591 : decode cL_isDay 591 = .ok (.iconst 0, 1) := by decide +kernel
theorem dL_isDay_592 : decode cL_isDay 592 = .ok (.ireturn, 1) := by decide +kernel
theorem dL_areDays_0 : decode cL_areDays 0 = .ok (.aload_n 0, 1) := by decide +kernel
theorem dL_areDays_1 : decode cL_areDays 1 = .ok (.iload_n 1, 1) := by decide +kernel
theorem dL_areDays_2 : decode cL_areDays 2 = .ok (.iconst 0, 1) := by decide +kernel
theorem dL_areDays_3 : decode cL_areDays 3 = .ok (.invokevirtual 21, 3) := by decide +kernel
theorem dL_areDays_6 : decode cL_areDays 6 = .ok (.istore_n 2, 1) := by decide +kernel
theorem dL_areDays_7 : decode cL_areDays 7 = .ok (.aload_n 0, 1) := by decide +kernel
theorem dL_areDays_8 : decode cL_areDays 8 = .ok (.iload_n 1, 1) := by decide +kernel
theorem dL_areDays_9 : decode cL_areDays 9 = .ok (.iconst 1, 1) := by decide +kernel
theorem dL_areDays_10 : decode cL_areDays 10 = .ok (.invokevirtual 21, 3) := by decide +kernel
theorem dL_areDays_13 : decode cL_areDays 13 = .ok (.istore_n 3, 1) := by decide +kernel
theorem dL_areDays_14 : decode cL_areDays 14 = .ok (.aload_n 0, 1) := by decide +kernel
theorem dL_areDays_15 : decode cL_areDays 15 = .ok (.iload_n 1, 1) := by decide +kernel
theorem dL_areDays_16 : decode cL_areDays 16 = .ok (.iconst 2, 1) := by decide +kernel
theorem dL_areDays_17 : decode cL_areDays 17 = .ok (.invokevirtual 21, 3) := by decide +kernel
theorem dL_areDays_20 : decode cL_areDays 20 = .ok (.istore 4, 2) := by decide +kernel
theorem dL_areDays_22 : decode cL_areDays 22 = .ok (.aload_n 0, 1) := by decide +kernel
theorem dL_areDays_23 : decode cL_areDays 23 = .ok (.iload_n 1, 1) := by decide +kernel
theorem dL_areDays_24 : decode cL_areDays 24 = .ok (.iconst 3, 1) := by decide +kernel
theorem dL_areDays_25 : decode cL_areDays 25 = .ok (.invokevirtual 21, 3) := by decide +kernel
theorem dL_areDays_28 : decode cL_areDays 28 = .ok (.istore 5, 2) := by decide +kernel
theorem dL_areDays_30 : decode cL_areDays 30 = .ok (.aload_n 0, 1) := by decide +kernel
theorem dL_areDays_31 : decode cL_areDays 31 = .ok (.iload_n 1, 1) := by decide +kernel
theorem dL_areDays_32 : decode cL_areDays 32 = .ok (.iconst 4, 1) := by decide +kernel
theorem dL_areDays_33 : decode cL_areDays 33 = .ok (.invokevirtual 21, 3) := by decide +kernel
theorem dL_areDays_36 : decode cL_areDays 36 = .ok (.istore 6, 2) := by decide +kernel
theorem dL_areDays_38 : decode cL_areDays 38 = .ok (.aload_n 0, 1) := by decide +kernel
theorem dL_areDays_39 : decode cL_areDays 39 = .ok (.iconst 0, 1) := by decide +kernel
theorem dL_areDays_40 : decode cL_areDays 40 = .ok (.invokevirtual 24, 3) := by decide +kernel
theorem dL_areDays_43 : decode cL_areDays 43 = .ok (.istore 7, 2) := by decide +kernel
theorem dL_areDays_45 : decode cL_areDays 45 = .ok (.aload_n 0, 1) := by decide +kernel
theorem dL_areDays_46 : decode cL_areDays 46 = .ok (.iconst 1, 1) := by decide +kernel
theorem dL_areDays_47 : decode cL_areDays 47 = .ok (.invokevirtual 24, 3) := by decide +kernel
theorem dL_areDays_50 : decode cL_areDays 50 = .ok (.istore 8, 2) := by decide +kernel
theorem dL_areDays_52 : decode cL_areDays 52 = .ok (.aload_n 0, 1) := by decide +kernel
theorem dL_areDays_53 : decode cL_areDays 53 = .ok (.invokevirtual 27, 3) := by decide +kernel
theorem dL_areDays_56 : decode cL_areDays 56 = .ok (.istore 9, 2) := by decide +kernel
theorem dL_areDays_58 : decode cL_areDays 58 = .ok (.aload_n 0, 1) := by decide +kernel
theorem dL_areDays_59 : decode cL_areDays 59 = .ok (.bipush 13, 2) := by decide +kernel
theorem dL_areDays_61 : decode cL_areDays 61 = .ok (.invokevirtual 8, 3) := by decide +kernel
theorem dL_areDays_64 : decode cL_areDays 64 = .ok (.istore 10, 2) := by decide +kernel
theorem dL_areDays_66 : decode cL_areDays 66 = .ok (.aload_n 0, 1) := by decide +kernel
theorem dL_areDays_67 : decode cL_areDays 67 = .ok (.bipush 16, 2) := by decide +kernel
theorem dL_areDays_69 : decode cL_areDays 69 = .ok (.invokevirtual 8, 3) := by decide +kernel
theorem dL_areDays_72 : decode cL_areDays 72 = .ok (.istore 11, 2) := by decide +kernel
theorem dL_areDays_74 : decode cL_areDays 74 = .ok (.iload 7, 2) := by decide +kernel
theorem dL_areDays_76 : decode cL_areDays 76 = .ok (.ifCond .ge 7, 3) := by decide +kernel
theorem dL_areDays_79 : decode cL_areDays 79 = .ok (.iconst 0, 1) := by decide +kernel
theorem dL_areDays_80 : decode cL_areDays 80 = .ok (.goto 11, 3) := by decide +kernel
theorem dL_areDays_83 : decode cL_areDays 83 = .ok (.aload_n 0, 1) := by decide +kernel
theorem dL_areDays_84 : decode cL_areDays 84 = .ok (.iload 7, 2) := by decide +kernel
theorem dL_areDays_86 : decode cL_areDays 86 = .ok (.bipush 6, 2) := by decide +kernel
theorem dL_areDays_88 : decode cL_areDays 88 = .ok (.invokevirtual 14, 3) := by decide +kernel
theorem dL_areDays_91 : decode cL_areDays 91 = .ok (.istore 12, 2) := by decide +kernel
theorem dL_areDays_93 : decode cL_areDays 93 = .ok (.iload 7, 2) := by decide +kernel
theorem dL_areDays_95 : decode cL_areDays 95 = .ok (.ifCond .ge 7, 3) := by decide +kernel
theorem dL_areDays_98 : decode cL_areDays 98 = .ok (.iconst 1, 1) := by decide +kernel
theorem dL_areDays_99 : decode cL_areDays 99 = .ok (.goto 4, 3) := by decide +kernel
theorem dL_areDays_102 : decode cL_areDays 102 = .ok (.iconst 0, 1) := by decide +kernel
theorem dL_areDays_103 : decode cL_areDays 103 = .ok (.iload 8, 2) := by decide +kernel
theorem dL_areDays_105 : decode cL_areDays 105 = .ok (.ifCond .ge 7, 3) := by decide +kernel
theorem dL_areDays_108 : decode cL_areDays 108 = .ok (.iconst 1, 1) := by decide +kernel
theorem dL_areDays_109 : decode cL_areDays 109 = .ok (.goto 4, 3) := by decide +kernel
theorem dL_areDays_112 : decode cL_areDays 112 = .ok (.iconst 0, 1) := by decide +kernel
theorem dL_areDays_113 : decode cL_areDays 113 = .ok (.if_icmp .ne 58, 3) := by decide +kernel
theorem dL_areDays_116 : decode cL_areDays 116 = .ok (.iload 9, 2) := by decide +kernel
theorem dL_areDays_118 : decode cL_areDays 118 = .ok (.ifCond .ne 7, 3) := by decide +kernel
theorem dL_areDays_121 : decode cL_areDays 121 = .ok (.iconst 1, 1) := by decide +kernel
theorem dL_areDays_122 : decode cL_areDays 122 = .ok (.goto 4, 3) := by decide +kernel
theorem dL_areDays_125 : decode cL_areDays 125 = .ok (.iconst 0, 1) := by decide +kernel
theorem dL_areDays_126 : decode cL_areDays 126 = .ok (.aload_n 0, 1) := by decide +kernel
theorem dL_areDays_127 : decode cL_areDays 127 = .ok (.bipush 11, 2) := by decide +kernel
theorem dL_areDays_129 : decode cL_areDays 129 = .ok (.invokevirtual 8, 3) := by decide +kernel
theorem dL_areDays_132 : decode cL_areDays 132 = .ok (.ifCond .ne 7, 3) := by decide +kernel
theorem dL_areDays_135 : decode cL_areDays 135 = .ok (.iconst 1, 1) := by decide +kernel
theorem dL_areDays_136 : decode cL_areDays 136 = .ok (.goto 4, 3) := by decide +kernel
theorem dL_areDays_139 : decode cL_areDays 139 = .ok (.iconst 0, 1) := by decide +kernel
theorem dL_areDays_140 : decode cL_areDays 140 = .ok (.if_icmp .ne 31, 3) := by decide +kernel
theorem dL_areDays_143 : decode cL_areDays 143 = .ok (.iload_n 2, 1) := by decide +kernel
theorem dL_areDays_144 : decode cL_areDays 144 = .ok (.ifCond .le 7, 3) := by decide +kernel
theorem dL_areDays_147 : decode cL_areDays 147 = .ok (.iconst 1, 1) := by decide +kernel
theorem dL_areDays_148 : decode cL_areDays 148 = .ok (.goto 4, 3) := by decide +kernel
theorem dL_areDays_151 : decode cL_areDays 151 = .ok (.iconst 0, 1) := by decide +kernel
theorem dL_areDays_152 : decode cL_areDays 152 = .ok (.iload 8, 2) := by decide +kernel
theorem dL_areDays_154 : decode cL_areDays 154 = .ok (.ifCond .le 13, 3) := by decide +kernel
theorem dL_areDays_157 : decode cL_areDays 157 = .ok (.iload 8, 2) := by decide +kernel
theorem dL_areDays_159 : decode cL_areDays 159 = .ok (.iload_n 1, 1) := by decide +kernel
theorem dL_areDays_160 : decode cL_areDays 160 = .ok (.if_icmp .gt 7, 3) := by decide +kernel
theorem dL_areDays_163 : decode cL_areDays 163 = .ok (.iconst 1, 1) := by decide +kernel
theorem dL_areDays_164 : decode cL_areDays 164 = .ok (.goto 4, 3) := by decide +kernel
theorem dL_areDays_167 : decode cL_areDays 167 = .ok (.iconst 0, 1) := by decide +kernel
theorem dL_areDays_168 : decode cL_areDays 168 = .ok (.if_icmp .eq 5, 3) := by decide +kernel
theorem dL_areDays_171 : decode cL_areDays 171 = .ok (.iconst 0, 1) := by decide +kernel
theorem dL_areDays_172 : decode cL_areDays 172 = .ok (.ireturn, 1) := by decide +kernel
theorem dL_areDays_173 : decode cL_areDays 173 = .ok (.aload_n 0, 1) := by decide +kernel
theorem dL_areDays_174 : decode cL_areDays 174 = .ok (.iload_n 1, 1) := by decide +kernel
theorem dL_areDays_175 : decode cL_areDays 175 = .ok (.invokevirtual 18, 3) := by decide +kernel
theorem dL_areDays_178 : decode cL_areDays 178 = .ok (.iload_n 2, 1) := by decide +kernel
theorem dL_areDays_179 : decode cL_areDays 179 = .ok (.if_icmp .ne 52, 3) := by decide +kernel
theorem dL_areDays_182 : decode cL_areDays 182 = .ok (.aload_n 0, 1) := by decide +kernel
theorem dL_areDays_183 : decode cL_areDays 183 = .ok (.bipush 13, 2) := by decide +kernel
theorem dL_areDays_185 : decode cL_areDays 185 = .ok (.invokevirtual 8, 3) := by decide +kernel
theorem dL_areDays_188 : decode cL_areDays 188 = .ok (.iload 10, 2) := by decide +kernel
theorem dL_areDays_190 : decode cL_areDays 190 = .ok (.iload_n 3, 1) := by decide +kernel
theorem dL_areDays_191 : decode cL_areDays 191 = .ok (.iadd, 1) := by decide +kernel
theorem dL_areDays_192 : decode cL_areDays 192 = .ok (.if_icmp .ne 39, 3) := by decide +kernel
theorem dL_areDays_195 : decode cL_areDays 195 = .ok (.aload_n 0, 1) := by decide +kernel
theorem dL_areDays_196 : decode cL_areDays 196 = .ok (.bipush 16, 2) := by decide +kernel
theorem dL_areDays_198 : decode cL_areDays 198 = .ok (.invokevirtual 8, 3) := by decide +kernel
theorem dL_areDays_201 : decode cL_areDays 201 = .ok (.iload 11, 2) := by decide +kernel
theorem dL_areDays_203 : decode cL_areDays 203 = .ok (.iload 4, 2) := by decide +kernel
theorem dL_areDays_205 : decode cL_areDays 205 = .ok (.iadd, 1) := by decide +kernel
theorem dL_areDays_206 : decode cL_areDays 206 = .ok (.if_icmp .ne 25, 3) := by decide +kernel
theorem dL_areDays_209 : decode cL_areDays 209 = .ok (.aload_n 0, 1) := by decide +kernel
theorem dL_areDays_210 : decode cL_areDays 210 = .ok (.bipush 8, 2) := by decide +kernel
theorem dL_areDays_212 : decode cL_areDays 212 = .ok (.invokevirtual 8, 3) := by decide +kernel
theorem dL_areDays_215 : decode cL_areDays 215 = .ok (.iload 5, 2) := by decide +kernel
theorem dL_areDays_217 : decode cL_areDays 217 = .ok (.if_icmp .ne 14, 3) := by decide +kernel
theorem dL_areDays_220 : decode cL_areDays 220 = .ok (.aload_n 0, 1) := by decide +kernel
theorem dL_areDays_221 : decode cL_areDays 221 = .ok (.bipush 9, 2) := by decide +kernel
theorem dL_areDays_223 : decode cL_areDays 223 = .ok (.invokevirtual 8, 3) := by decide +kernel
theorem dL_areDays_226 : decode cL_areDays 226 = .ok (.iload 6, 2) := by decide +kernel
theorem dL_areDays_228 : decode cL_areDays 228 = .ok (.if_icmp .eq 5, 3) := by decide +kernel
theorem dL_areDays_231 : decode cL_areDays 231 = .ok (.iconst 0, 1) := by decide +kernel
theorem dL_areDays_232 : decode cL_areDays 232 = .ok (.ireturn, 1) := by decide +kernel
theorem dL_areDays_233 : decode cL_areDays 233 = .ok (.iload_n 2, 1) := by decide +kernel
theorem dL_areDays_234 : decode cL_areDays 234 = .ok (.ifCond .eq 16, 3) := by decide +kernel
theorem dL_areDays_237 : decode cL_areDays 237 = .ok (.aload_n 0, 1) := by decide +kernel
theorem dL_areDays_238 : decode cL_areDays 238 = .ok (.iload 7, 2) := by decide +kernel
theorem dL_areDays_240 : decode cL_areDays 240 = .ok (.bipush 6, 2) := by decide +kernel
theorem dL_areDays_242 : decode cL_areDays 242 = .ok (.invokevirtual 14, 3) := by decide +kernel
theorem dL_areDays_245 : decode cL_areDays 245 = .ok (.iload 12, 2) := by decide +kernel
theorem dL_areDays_247 : decode cL_areDays 247 = .ok (.if_icmp .le 40, 3) := by decide +kernel
theorem dL_areDays_250 : decode cL_areDays 250 = .ok (.iload 9, 2) := by decide +kernel
theorem dL_areDays_252 : decode cL_areDays 252 = .ok (.ifCond .lt 13, 3) := by decide +kernel
theorem dL_areDays_255 : decode cL_areDays 255 = .ok (.iload 9, 2) := by decide +kernel
theorem dL_areDays_257 : decode cL_areDays 257 = .ok (.iload_n 1, 1) := by decide +kernel
theorem dL_areDays_258 : decode cL_areDays 258 = .ok (.if_icmp .gt 7, 3) := by decide +kernel
theorem dL_areDays_261 : decode cL_areDays 261 = .ok (.iconst 1, 1) := by decide +kernel
theorem dL_areDays_262 : decode cL_areDays 262 = .ok (.goto 4, 3) := by decide +kernel
theorem dL_areDays_265 : decode cL_areDays 265 = .ok (.iconst 0, 1) := by decide +kernel
theorem dL_areDays_266 : decode cL_areDays 266 = .ok (.aload_n 0, 1) := by decide +kernel
theorem dL_areDays_267 : decode cL_areDays 267 = .ok (.bipush 11, 2) := by decide +kernel
theorem dL_areDays_269 : decode cL_areDays 269 = .ok (.invokevirtual 8, 3) := by decide +kernel
theorem dL_areDays_272 : decode cL_areDays 272 = .ok (.ifCond .ne 7, 3) := by decide +kernel
theorem dL_areDays_275 : decode cL_areDays 275 = .ok (.iconst 1, 1) := by decide +kernel
theorem dL_areDays_276 : decode cL_areDays 276 = .ok (.goto 4, 3) := by decide +kernel
theorem dL_areDays_279 : decode cL_areDays 279 = .ok (.iconst 0, 1) := by decide +kernel
theorem dL_areDays_280 : decode cL_areDays 280 = .ok (.if_icmp .ne 7, 3) := by decide +kernel
theorem dL_areDays_283 : decode cL_areDays 283 = .ok (.iconst 1, 1) := by decide +kernel
theorem dL_areDays_284 : decode cL_areDays 284 = .ok (.goto 4, 3) := by decide +kernel
theorem dL_areDays_287 : decode cL_areDays 287 = .ok (.iconst 0, 1) := by decide +kernel
theorem dL_areDays_288 : decode cL_areDays 288 = .ok (.ireturn, 1) := by decide +kernel
theorem dL_isAppeal_0 : decode cL_isAppeal 0 = .ok (.aload_n 0, 1) := by decide +kernel
theorem dL_isAppeal_1 : decode cL_isAppeal 1 = .ok (.bipush 9, 2) := by decide +kernel
theorem dL_isAppeal_3 : decode cL_isAppeal 3 = .ok (.invokevirtual 8, 3) := by decide +kernel
theorem dL_isAppeal_6 : decode cL_isAppeal 6 = .ok (.istore_n 2, 1) := by decide +kernel
theorem dL_isAppeal_7 : decode cL_isAppeal 7 = .ok (.aload_n 0, 1) := by decide +kernel
theorem dL_isAppeal_8 : decode cL_isAppeal 8 = .ok (.iload_n 1, 1) := by decide +kernel
theorem dL_isAppeal_9 : decode cL_isAppeal 9 = .ok (.bipush 8, 2) := by decide +kernel
theorem dL_isAppeal_11 : decode cL_isAppeal 11 = .ok (.invokevirtual 14, 3) := by decide +kernel
theorem dL_isAppeal_14 : decode cL_isAppeal 14 = .ok (.iconst 1, 1) := by decide +kernel
theorem dL_isAppeal_15 : decode cL_isAppeal 15 = .ok (.if_icmp .ne 7, 3) := by decide +kernel
theorem dL_isAppeal_18 : decode cL_isAppeal 18 = .ok (.iconst 1, 1) := by decide +kernel
theorem dL_isAppeal_19 : decode cL_isAppeal 19 = .ok (.goto 4, 3) := by decide +kernel
theorem dL_isAppeal_22 : decode cL_isAppeal 22 = .ok (.iconst 0, 1) := by decide +kernel
theorem dL_isAppeal_23 : decode cL_isAppeal 23 = .ok (.istore_n 3, 1) := by decide +kernel
theorem dL_isAppeal_24 : decode cL_isAppeal 24 = .ok (.iload_n 3, 1) := by decide +kernel
theorem dL_isAppeal_25 : decode cL_isAppeal 25 = .ok (.ifCond .eq 22, 3) := by decide +kernel
theorem dL_isAppeal_28 : decode cL_isAppeal 28 = .ok (.aload_n 0, 1) := by decide +kernel
theorem dL_isAppeal_29 : decode cL_isAppeal 29 = .ok (.iload_n 1, 1) := by decide +kernel
theorem dL_isAppeal_30 : decode cL_isAppeal 30 = .ok (.iconst 5, 1) := by decide +kernel
theorem dL_isAppeal_31 : decode cL_isAppeal 31 = .ok (.invokevirtual 14, 3) := by decide +kernel
theorem dL_isAppeal_34 : decode cL_isAppeal 34 = .ok (.aload_n 0, 1) := by decide +kernel
theorem dL_isAppeal_35 : decode cL_isAppeal 35 = .ok (.iload_n 2, 1) := by decide +kernel
theorem dL_isAppeal_36 : decode cL_isAppeal 36 = .ok (.iconst 5, 1) := by decide +kernel
theorem dL_isAppeal_37 : decode cL_isAppeal 37 = .ok (.invokevirtual 14, 3) := by decide +kernel
theorem dL_isAppeal_40 : decode cL_isAppeal 40 = .ok (.if_icmp .le 7, 3) := by decide +kernel
theorem dL_isAppeal_43 : decode cL_isAppeal 43 = .ok (.iconst 1, 1) := by decide +kernel
theorem dL_isAppeal_44 : decode cL_isAppeal 44 = .ok (.goto 4, 3) := by decide +kernel
theorem dL_isAppeal_47 : decode cL_isAppeal 47 = .ok (.iconst 0, 1) := by decide +kernel
theorem dL_isAppeal_48 : decode cL_isAppeal 48 = .ok (.istore 4, 2) := by decide +kernel
theorem dL_isAppeal_50 : decode cL_isAppeal 50 = .ok (.aload_n 0, 1) := by decide +kernel
theorem dL_isAppeal_51 : decode cL_isAppeal 51 = .ok (.iload_n 1, 1) := by decide +kernel
theorem dL_isAppeal_52 : decode cL_isAppeal 52 = .ok (.iconst 3, 1) := by decide +kernel
theorem dL_isAppeal_53 : decode cL_isAppeal 53 = .ok (.invokevirtual 14, 3) := by decide +kernel
theorem dL_isAppeal_56 : decode cL_isAppeal 56 = .ok (.istore 5, 2) := by decide +kernel
theorem dL_isAppeal_58 : decode cL_isAppeal 58 = .ok (.aload_n 0, 1) := by decide +kernel
theorem dL_isAppeal_59 : decode cL_isAppeal 59 = .ok (.bipush 11, 2) := by decide +kernel
theorem dL_isAppeal_61 : decode cL_isAppeal 61 = .ok (.invokevirtual 8, 3) := by decide +kernel
theorem dL_isAppeal_64 : decode cL_isAppeal 64 = .ok (.istore 6, 2) := by decide +kernel
theorem dL_isAppeal_66 : decode cL_isAppeal 66 = .ok (.aload_n 0, 1) := by decide +kernel
theorem dL_isAppeal_67 : decode cL_isAppeal 67 = .ok (.iload_n 1, 1) := by decide +kernel
theorem dL_isAppeal_68 : decode cL_isAppeal 68 = .ok (.iconst 2, 1) := by decide +kernel
theorem dL_isAppeal_69 : decode cL_isAppeal 69 = .ok (.invokevirtual 14, 3) := by decide +kernel
theorem dL_isAppeal_72 : decode cL_isAppeal 72 = .ok (.istore 7, 2) := by decide +kernel
theorem dL_isAppeal_74 : decode cL_isAppeal 74 = .ok (.aload_n 0, 1) := by decide +kernel
theorem dL_isAppeal_75 : decode cL_isAppeal 75 = .ok (.bipush 15, 2) := by decide +kernel
theorem dL_isAppeal_77 : decode cL_isAppeal 77 = .ok (.invokevirtual 8, 3) := by decide +kernel
theorem dL_isAppeal_80 : decode cL_isAppeal 80 = .ok (.istore 8, 2) := by decide +kernel
theorem dL_isAppeal_82 : decode cL_isAppeal 82 = .ok (.aload_n 0, 1) := by decide +kernel
theorem dL_isAppeal_83 : decode cL_isAppeal 83 = .ok (.bipush 8, 2) := by decide +kernel
theorem dL_isAppeal_85 : decode cL_isAppeal 85 = .ok (.invokevirtual 8, 3) := by decide +kernel
theorem dL_isAppeal_88 : decode cL_isAppeal 88 = .ok (.istore 9, 2) := by decide +kernel
theorem dL_isAppeal_90 : decode cL_isAppeal 90 = .ok (.aload_n 0, 1) := by decide +kernel
theorem dL_isAppeal_91 : decode cL_isAppeal 91 = .ok (.iload_n 1, 1) := by decide +kernel
theorem dL_isAppeal_92 : decode cL_isAppeal 92 = .ok (.invokevirtual 31, 3) := by decide +kernel
theorem dL_isAppeal_95 : decode cL_isAppeal 95 = .ok (.istore 10, 2) := by decide +kernel
theorem dL_isAppeal_97 : decode cL_isAppeal 97 = .ok (.iload_n 3, 1) := by decide +kernel
theorem dL_isAppeal_98 : decode cL_isAppeal 98 = .ok (.ifCond .ne 30, 3) := by decide +kernel
theorem dL_isAppeal_101 : decode cL_isAppeal 101 = .ok (.iload 10, 2) := by decide +kernel
theorem dL_isAppeal_103 : decode cL_isAppeal 103 = .ok (.iload_n 1, 1) := by decide +kernel
theorem dL_isAppeal_104 : decode cL_isAppeal 104 = .ok (.aload_n 0, 1) := by decide +kernel
theorem dL_isAppeal_105 : decode cL_isAppeal 105 = .ok (.bipush 7, 2) := by decide +kernel
theorem dL_isAppeal_107 : decode cL_isAppeal 107 = .ok (.invokevirtual 8, 3) := by decide +kernel
theorem dL_isAppeal_110 : decode cL_isAppeal 110 = .ok (.if_icmp .ge 8, 3) := by decide +kernel
theorem dL_isAppeal_113 : decode cL_isAppeal 113 = .ok (.bipush (-5), 2) := by decide +kernel
theorem dL_isAppeal_115 : decode cL_isAppeal 115 = .ok (.goto 4, 3) := by decide +kernel
theorem dL_isAppeal_118 : decode cL_isAppeal 118 = .ok (.iconst (-1), 1) := by decide +kernel
theorem dL_isAppeal_119 : decode cL_isAppeal 119 = .ok (.if_icmp .ne 7, 3) := by decide +kernel
theorem dL_isAppeal_122 : decode cL_isAppeal 122 = .ok (.iconst 1, 1) := by decide +kernel
theorem dL_isAppeal_123 : decode cL_isAppeal 123 = .ok (.goto 4, 3) := by decide +kernel
theorem dL_isAppeal_126 : decode cL_isAppeal 126 = .ok (.iconst 0, 1) := by decide +kernel
theorem dL_isAppeal_127 : decode cL_isAppeal 127 = .ok (.ireturn, 1) := by decide +kernel
theorem dL_isAppeal_128 : decode cL_isAppeal 128 = .ok (.iload 10, 2) := by decide +kernel
theorem dL_isAppeal_130 : decode cL_isAppeal 130 = .ok (.iload 4, 2) := by decide +kernel
theorem dL_isAppeal_132 : decode cL_isAppeal 132 = .ok (.ifCond .eq 7, 3) := by decide +kernel
theorem dL_isAppeal_135 : decode cL_isAppeal 135 = .ok (.iconst 1, 1) := by decide +kernel
theorem dL_isAppeal_136 : decode cL_isAppeal 136 = .ok (.goto 4, 3) := by decide +kernel
theorem dL_isAppeal_139 : decode cL_isAppeal 139 = .ok (.iconst 0, 1) := by decide +kernel
theorem dL_isAppeal_140 : decode cL_isAppeal 140 = .ok (.if_icmp .ne 123, 3) := by decide +kernel
theorem dL_isAppeal_143 : decode cL_isAppeal 143 = .ok (.aload_n 0, 1) := by decide +kernel
theorem dL_isAppeal_144 : decode cL_isAppeal 144 = .ok (.iload_n 1, 1) := by decide +kernel
theorem dL_isAppeal_145 : decode cL_isAppeal 145 = .ok (.iconst 3, 1) := by decide +kernel
theorem dL_isAppeal_146 : decode cL_isAppeal 146 = .ok (.invokevirtual 14, 3) := by decide +kernel
theorem dL_isAppeal_149 : decode cL_isAppeal 149 = .ok (.iload 5, 2) := by decide +kernel
theorem dL_isAppeal_151 : decode cL_isAppeal 151 = .ok (.aload_n 0, 1) := by decide +kernel
theorem dL_isAppeal_152 : decode cL_isAppeal 152 = .ok (.iconst 2, 1) := by decide +kernel
theorem dL_isAppeal_153 : decode cL_isAppeal 153 = .ok (.invokevirtual 8, 3) := by decide +kernel
theorem dL_isAppeal_156 : decode cL_isAppeal 156 = .ok (.isub, 1) := by decide +kernel
theorem dL_isAppeal_157 : decode cL_isAppeal 157 = .ok (.if_icmp .ne 106, 3) := by decide +kernel
theorem dL_isAppeal_160 : decode cL_isAppeal 160 = .ok (.aload_n 0, 1) := by decide +kernel
theorem dL_isAppeal_161 : decode cL_isAppeal 161 = .ok (.bipush 11, 2) := by decide +kernel
theorem dL_isAppeal_163 : decode cL_isAppeal 163 = .ok (.invokevirtual 8, 3) := by decide +kernel
theorem dL_isAppeal_166 : decode cL_isAppeal 166 = .ok (.iload 6, 2) := by decide +kernel
theorem dL_isAppeal_168 : decode cL_isAppeal 168 = .ok (.aload_n 0, 1) := by decide +kernel
theorem dL_isAppeal_169 : decode cL_isAppeal 169 = .ok (.iconst 2, 1) := by decide +kernel
theorem dL_isAppeal_170 : decode cL_isAppeal 170 = .ok (.invokevirtual 8, 3) := by decide +kernel
theorem dL_isAppeal_173 : decode cL_isAppeal 173 = .ok (.iadd, 1) := by decide +kernel
theorem dL_isAppeal_174 : decode cL_isAppeal 174 = .ok (.if_icmp .ne 89, 3) := by decide +kernel
theorem dL_isAppeal_177 : decode cL_isAppeal 177 = .ok (.aload_n 0, 1) := by decide +kernel
theorem dL_isAppeal_178 : decode cL_isAppeal 178 = .ok (.iload_n 1, 1) := by decide +kernel
theorem dL_isAppeal_179 : decode cL_isAppeal 179 = .ok (.iconst 2, 1) := by decide +kernel
theorem dL_isAppeal_180 : decode cL_isAppeal 180 = .ok (.invokevirtual 14, 3) := by decide +kernel
theorem dL_isAppeal_183 : decode cL_isAppeal 183 = .ok (.iload 7, 2) := by decide +kernel
theorem dL_isAppeal_185 : decode cL_isAppeal 185 = .ok (.iload 4, 2) := by decide +kernel
theorem dL_isAppeal_187 : decode cL_isAppeal 187 = .ok (.ifCond .eq 7, 3) := by decide +kernel
theorem dL_isAppeal_190 : decode cL_isAppeal 190 = .ok (.iconst 0, 1) := by decide +kernel
theorem dL_isAppeal_191 : decode cL_isAppeal 191 = .ok (.goto 4, 3) := by decide +kernel
theorem dL_isAppeal_194 : decode cL_isAppeal 194 = .ok (.iconst 1, 1) := by decide +kernel
theorem dL_isAppeal_195 : decode cL_isAppeal 195 = .ok (.iadd, 1) := by decide +kernel
theorem dL_isAppeal_196 : decode cL_isAppeal 196 = .ok (.if_icmp .ne 67, 3) := by decide +kernel
theorem dL_isAppeal_199 : decode cL_isAppeal 199 = .ok (.aload_n 0, 1) := by decide +kernel
theorem dL_isAppeal_200 : decode cL_isAppeal 200 = .ok (.bipush 9, 2) := by decide +kernel
theorem dL_isAppeal_202 : decode cL_isAppeal 202 = .ok (.invokevirtual 8, 3) := by decide +kernel
theorem dL_isAppeal_205 : decode cL_isAppeal 205 = .ok (.iload 4, 2) := by decide +kernel
theorem dL_isAppeal_207 : decode cL_isAppeal 207 = .ok (.ifCond .eq 8, 3) := by decide +kernel
theorem dL_isAppeal_210 : decode cL_isAppeal 210 = .ok (.bipush (-6), 2) := by decide +kernel
theorem dL_isAppeal_212 : decode cL_isAppeal 212 = .ok (.goto 4, 3) := by decide +kernel
theorem dL_isAppeal_215 : decode cL_isAppeal 215 = .ok (.iload_n 2, 1) := by decide +kernel
theorem dL_isAppeal_216 : decode cL_isAppeal 216 = .ok (.if_icmp .ne 47, 3) := by decide +kernel
theorem dL_isAppeal_219 : decode cL_isAppeal 219 = .ok (.aload_n 0, 1) := by decide +kernel
theorem dL_isAppeal_220 : decode cL_isAppeal 220 = .ok (.bipush 15, 2) := by decide +kernel
theorem dL_isAppeal_222 : decode cL_isAppeal 222 = .ok (.invokevirtual 8, 3) := by decide +kernel
theorem dL_isAppeal_225 : decode cL_isAppeal 225 = .ok (.iload 8, 2) := by decide +kernel
theorem dL_isAppeal_227 : decode cL_isAppeal 227 = .ok (.iload 10, 2) := by decide +kernel
theorem dL_isAppeal_229 : decode cL_isAppeal 229 = .ok (.iadd, 1) := by decide +kernel
theorem dL_isAppeal_230 : decode cL_isAppeal 230 = .ok (.if_icmp .ne 33, 3) := by decide +kernel
theorem dL_isAppeal_233 : decode cL_isAppeal 233 = .ok (.aload_n 0, 1) := by decide +kernel
theorem dL_isAppeal_234 : decode cL_isAppeal 234 = .ok (.bipush 8, 2) := by decide +kernel
theorem dL_isAppeal_236 : decode cL_isAppeal 236 = .ok (.invokevirtual 8, 3) := by decide +kernel
theorem dL_isAppeal_239 : decode cL_isAppeal 239 = .ok (.iload 9, 2) := by decide +kernel
theorem dL_isAppeal_241 : decode cL_isAppeal 241 = .ok (.if_icmp .ne 22, 3) := by decide +kernel
theorem dL_isAppeal_244 : decode cL_isAppeal 244 = .ok (.iload 4, 2) := by decide +kernel
theorem dL_isAppeal_246 : decode cL_isAppeal 246 = .ok (.ifCond .eq 13, 3) := by decide +kernel
theorem dL_isAppeal_249 : decode cL_isAppeal 249 = .ok (.aload_n 0, 1) := by decide +kernel
theorem dL_isAppeal_250 : decode cL_isAppeal 250 = .ok (.bipush 10, 2) := by decide +kernel
theorem dL_isAppeal_252 : decode cL_isAppeal 252 = .ok (.invokevirtual 8, 3) := by decide +kernel
theorem dL_isAppeal_255 : decode cL_isAppeal 255 = .ok (.iload_n 1, 1) := by decide +kernel
theorem dL_isAppeal_256 : decode cL_isAppeal 256 = .ok (.if_icmp .ne 7, 3) := by decide +kernel
theorem dL_isAppeal_259 : decode cL_isAppeal 259 = .ok (.iconst 1, 1) := by decide +kernel
theorem dL_isAppeal_260 : decode cL_isAppeal 260 = .ok (.goto 4, 3) := by decide +kernel
theorem dL_isAppeal_263 : decode cL_isAppeal 263 = .ok (.iconst 0, 1) := by decide +kernel
theorem dL_isAppeal_264 : decode cL_isAppeal 264 = .ok (.ireturn, 1) := by decide +kernel
theorem dL_isBest_0 : decode cL_isBest 0 = .ok (.aload_n 0, 1) := by decide +kernel
theorem dL_isBest_1 : decode cL_isBest 1 = .ok (.bipush 7, 2) := by decide +kernel
theorem dL_isBest_3 : decode cL_isBest 3 = .ok (.invokevirtual 8, 3) := by decide +kernel
theorem dL_isBest_6 : decode cL_isBest 6 = .ok (.istore_n 2, 1) := by decide +kernel
theorem dL_isBest_7 : decode cL_isBest 7 = .ok (.aload_n 0, 1) := by decide +kernel
theorem dL_isBest_8 : decode cL_isBest 8 = .ok (.iload_n 1, 1) := by decide +kernel
theorem dL_isBest_9 : decode cL_isBest 9 = .ok (.iconst 0, 1) := by decide +kernel
theorem dL_isBest_10 : decode cL_isBest 10 = .ok (.invokevirtual 34, 3) := by decide +kernel
theorem dL_isBest_13 : decode cL_isBest 13 = .ok (.istore_n 3, 1) := by decide +kernel
theorem dL_isBest_14 : decode cL_isBest 14 = .ok (.aload_n 0, 1) := by decide +kernel
theorem dL_isBest_15 : decode cL_isBest 15 = .ok (.iload_n 1, 1) := by decide +kernel
theorem dL_isBest_16 : decode cL_isBest 16 = .ok (.iconst 1, 1) := by decide +kernel
theorem dL_isBest_17 : decode cL_isBest 17 = .ok (.invokevirtual 34, 3) := by decide +kernel
theorem dL_isBest_20 : decode cL_isBest 20 = .ok (.istore 4, 2) := by decide +kernel
theorem dL_isBest_22 : decode cL_isBest 22 = .ok (.iconst 0, 1) := by decide +kernel
theorem dL_isBest_23 : decode cL_isBest 23 = .ok (.istore 5, 2) := by decide +kernel
theorem dL_isBest_25 : decode cL_isBest 25 = .ok (.iconst (-1), 1) := by decide +kernel
theorem dL_isBest_26 : decode cL_isBest 26 = .ok (.istore 6, 2) := by decide +kernel
theorem dL_isBest_28 : decode cL_isBest 28 = .ok (.iconst 0, 1) := by decide +kernel
theorem dL_isBest_29 : decode cL_isBest 29 = .ok (.istore 7, 2) := by decide +kernel
theorem dL_isBest_31 : decode cL_isBest 31 = .ok (.iload 7, 2) := by decide +kernel
theorem dL_isBest_33 : decode cL_isBest 33 = .ok (.iload_n 2, 1) := by decide +kernel
theorem dL_isBest_34 : decode cL_isBest 34 = .ok (.if_icmp .ge 155, 3) := by decide +kernel
theorem dL_isBest_37 : decode cL_isBest 37 = .ok (.aload_n 0, 1) := by decide +kernel
theorem dL_isBest_38 : decode cL_isBest 38 = .ok (.iconst 0, 1) := by decide +kernel
theorem dL_isBest_39 : decode cL_isBest 39 = .ok (.invokevirtual 37, 3) := by decide +kernel
theorem dL_isBest_42 : decode cL_isBest 42 = .ok (.istore 8, 2) := by decide +kernel
theorem dL_isBest_44 : decode cL_isBest 44 = .ok (.aload_n 0, 1) := by decide +kernel
theorem dL_isBest_45 : decode cL_isBest 45 = .ok (.iload_n 1, 1) := by decide +kernel
theorem dL_isBest_46 : decode cL_isBest 46 = .ok (.iload 7, 2) := by decide +kernel
theorem dL_isBest_48 : decode cL_isBest 48 = .ok (.invokevirtual 40, 3) := by decide +kernel
theorem dL_isBest_51 : decode cL_isBest 51 = .ok (.istore 9, 2) := by decide +kernel
theorem dL_isBest_53 : decode cL_isBest 53 = .ok (.aload_n 0, 1) := by decide +kernel
theorem dL_isBest_54 : decode cL_isBest 54 = .ok (.iload 7, 2) := by decide +kernel
theorem dL_isBest_56 : decode cL_isBest 56 = .ok (.bipush 7, 2) := by decide +kernel
theorem dL_isBest_58 : decode cL_isBest 58 = .ok (.invokevirtual 14, 3) := by decide +kernel
theorem dL_isBest_61 : decode cL_isBest 61 = .ok (.istore 10, 2) := by decide +kernel
theorem dL_isBest_63 : decode cL_isBest 63 = .ok (.aload_n 0, 1) := by decide +kernel
theorem dL_isBest_64 : decode cL_isBest 64 = .ok (.bipush 60, 2) := by decide +kernel
theorem dL_isBest_66 : decode cL_isBest 66 = .ok (.invokevirtual 18, 3) := by decide +kernel
theorem dL_isBest_69 : decode cL_isBest 69 = .ok (.istore 11, 2) := by decide +kernel
theorem dL_isBest_71 : decode cL_isBest 71 = .ok (.aload_n 0, 1) := by decide +kernel
theorem dL_isBest_72 : decode cL_isBest 72 = .ok (.bipush 40, 2) := by decide +kernel
theorem dL_isBest_74 : decode cL_isBest 74 = .ok (.invokevirtual 18, 3) := by decide +kernel
theorem dL_isBest_77 : decode cL_isBest 77 = .ok (.istore 12, 2) := by decide +kernel
theorem dL_isBest_79 : decode cL_isBest 79 = .ok (.aload_n 0, 1) := by decide +kernel
theorem dL_isBest_80 : decode cL_isBest 80 = .ok (.iload 7, 2) := by decide +kernel
theorem dL_isBest_82 : decode cL_isBest 82 = .ok (.bipush 7, 2) := by decide +kernel
theorem dL_isBest_84 : decode cL_isBest 84 = .ok (.invokevirtual 14, 3) := by decide +kernel
theorem dL_isBest_87 : decode cL_isBest 87 = .ok (.iload 10, 2) := by decide +kernel
theorem dL_isBest_89 : decode cL_isBest 89 = .ok (.isub, 1) := by decide +kernel
theorem dL_isBest_90 : decode cL_isBest 90 = .ok (.istore 13, 2) := by decide +kernel
theorem dL_isBest_92 : decode cL_isBest 92 = .ok (.iload 13, 2) := by decide +kernel
theorem dL_isBest_94 : decode cL_isBest 94 = .ok (.iload 6, 2) := by decide +kernel
theorem dL_isBest_96 : decode cL_isBest 96 = .ok (.if_icmp .le 8, 3) := by decide +kernel
theorem dL_isBest_99 : decode cL_isBest 99 = .ok (.iload 7, 2) := by decide +kernel
theorem dL_isBest_101 : decode cL_isBest 101 = .ok (.goto 5, 3) := by decide +kernel
theorem dL_isBest_104 : decode cL_isBest 104 = .ok (.iload 5, 2) := by decide +kernel
theorem dL_isBest_106 : decode cL_isBest 106 = .ok (.istore 5, 2) := by decide +kernel
theorem dL_isBest_108 : decode cL_isBest 108 = .ok (.iload 13, 2) := by decide +kernel
theorem dL_isBest_110 : decode cL_isBest 110 = .ok (.iload 6, 2) := by decide +kernel
theorem dL_isBest_112 : decode cL_isBest 112 = .ok (.if_icmp .le 8, 3) := by decide +kernel
theorem dL_isBest_115 : decode cL_isBest 115 = .ok (.iload 13, 2) := by decide +kernel
theorem dL_isBest_117 : decode cL_isBest 117 = .ok (.goto 5, 3) := by decide +kernel
theorem dL_isBest_120 : decode cL_isBest 120 = .ok (.iload 6, 2) := by decide +kernel
theorem dL_isBest_122 : decode cL_isBest 122 = .ok (.istore 6, 2) := by decide +kernel
theorem dL_isBest_124 : decode cL_isBest 124 = .ok (.iload 7, 2) := by decide +kernel
theorem dL_isBest_126 : decode cL_isBest 126 = .ok (.iload_n 1, 1) := by decide +kernel
theorem dL_isBest_127 : decode cL_isBest 127 = .ok (.if_icmp .ge 10, 3) := by decide +kernel
theorem dL_isBest_130 : decode cL_isBest 130 = .ok (.iload_n 1, 1) := by decide +kernel
theorem dL_isBest_131 : decode cL_isBest 131 = .ok (.iload 7, 2) := by decide +kernel
theorem dL_isBest_133 : decode cL_isBest 133 = .ok (.isub, 1) := by decide +kernel
theorem dL_isBest_134 : decode cL_isBest 134 = .ok (.goto 7, 3) := by decide +kernel
theorem dL_isBest_137 : decode cL_isBest 137 = .ok (.iload 7, 2) := by decide +kernel
theorem dL_isBest_139 : decode cL_isBest 139 = .ok (.iload_n 1, 1) := by decide +kernel
theorem dL_isBest_140 : decode cL_isBest 140 = .ok (.isub, 1) := by decide +kernel
theorem dL_isBest_141 : decode cL_isBest 141 = .ok (.istore 14, 2) := by decide +kernel
theorem dL_isBest_143 : decode cL_isBest 143 = .ok (.iload 9, 2) := by decide +kernel
theorem dL_isBest_145 : decode cL_isBest 145 = .ok (.iload 14, 2) := by decide +kernel
theorem dL_isBest_147 : decode cL_isBest 147 = .ok (.ifCond .ne 7, 3) := by decide +kernel
theorem dL_isBest_150 : decode cL_isBest 150 = .ok (.iconst 0, 1) := by decide +kernel
theorem dL_isBest_151 : decode cL_isBest 151 = .ok (.goto 7, 3) := by decide +kernel
theorem dL_isBest_154 : decode cL_isBest 154 = .ok (.iload 14, 2) := by decide +kernel
theorem dL_isBest_156 : decode cL_isBest 156 = .ok (.iconst 1, 1) := by decide +kernel
theorem dL_isBest_157 : decode cL_isBest 157 = .ok (.iadd, 1) := by decide +kernel
theorem dL_isBest_158 : decode cL_isBest 158 = .ok (.if_icmp .ne 23, 3) := by decide +kernel
theorem dL_isBest_161 : decode cL_isBest 161 = .ok (.iload 11, 2) := by decide +kernel
theorem dL_isBest_163 : decode cL_isBest 163 = .ok (.ifCond .lt 18, 3) := by decide +kernel
theorem dL_isBest_166 : decode cL_isBest 166 = .ok (.iload 12, 2) := by decide +kernel
theorem dL_isBest_168 : decode cL_isBest 168 = .ok (.ifCond .lt 13, 3) := by decide +kernel
theorem dL_isBest_171 : decode cL_isBest 171 = .ok (.aload_n 0, 1) := by decide +kernel
theorem dL_isBest_172 : decode cL_isBest 172 = .ok (.iconst 0, 1) := by decide +kernel
theorem dL_isBest_173 : decode cL_isBest 173 = .ok (.invokevirtual 43, 3) := by decide +kernel
theorem dL_isBest_176 : decode cL_isBest 176 = .ok (.iload 8, 2) := by decide +kernel
theorem dL_isBest_178 : decode cL_isBest 178 = .ok (.if_icmp .eq 5, 3) := by decide +kernel
theorem dL_isBest_181 : decode cL_isBest 181 = .ok (.iconst 0, 1) := by decide +kernel
theorem dL_isBest_182 : decode cL_isBest 182 = .ok (.ireturn, 1) := by decide +kernel
theorem dL_isBest_183 : decode cL_isBest 183 = .ok (.iinc 7 1, 3) := by decide +kernel
theorem dL_isBest_186 : decode cL_isBest 186 = .ok (.goto (-155), 3) := by decide +kernel
theorem dL_isBest_189 : decode cL_isBest 189 = .ok (.iload_n 3, 1) := by decide +kernel
theorem dL_isBest_190 : decode cL_isBest 190 = .ok (.iload 5, 2) := by decide +kernel
theorem dL_isBest_192 : decode cL_isBest 192 = .ok (.if_icmp .ne 14, 3) := by decide +kernel
theorem dL_isBest_195 : decode cL_isBest 195 = .ok (.iload 4, 2) := by decide +kernel
theorem dL_isBest_197 : decode cL_isBest 197 = .ok (.iload 6, 2) := by decide +kernel
theorem dL_isBest_199 : decode cL_isBest 199 = .ok (.if_icmp .ne 7, 3) := by decide +kernel
theorem dL_isBest_202 : decode cL_isBest 202 = .ok (.iconst 1, 1) := by decide +kernel
theorem dL_isBest_203 : decode cL_isBest 203 = .ok (.goto 4, 3) := by decide +kernel
theorem dL_isBest_206 : decode cL_isBest 206 = .ok (.iconst 0, 1) := by decide +kernel
theorem dL_isBest_207 : decode cL_isBest 207 = .ok (.ireturn, 1) := by decide +kernel
theorem dL_isMoved_0 : decode cL_isMoved 0 = .ok (.aload_n 0, 1) := by decide +kernel
theorem dL_isMoved_1 : decode cL_isMoved 1 = .ok (.bipush 7, 2) := by decide +kernel
theorem dL_isMoved_3 : decode cL_isMoved 3 = .ok (.invokevirtual 8, 3) := by decide +kernel
theorem dL_isMoved_6 : decode cL_isMoved 6 = .ok (.istore_n 3, 1) := by decide +kernel
theorem dL_isMoved_7 : decode cL_isMoved 7 = .ok (.aload_n 0, 1) := by decide +kernel
theorem dL_isMoved_8 : decode cL_isMoved 8 = .ok (.bipush 9, 2) := by decide +kernel
theorem dL_isMoved_10 : decode cL_isMoved 10 = .ok (.invokevirtual 8, 3) := by decide +kernel
theorem dL_isMoved_13 : decode cL_isMoved 13 = .ok (.istore 4, 2) := by decide +kernel
theorem dL_isMoved_15 : decode cL_isMoved 15 = .ok (.aload_n 0, 1) := by decide +kernel
theorem dL_isMoved_16 : decode cL_isMoved 16 = .ok (.bipush 10, 2) := by decide +kernel
theorem dL_isMoved_18 : decode cL_isMoved 18 = .ok (.invokevirtual 8, 3) := by decide +kernel
theorem dL_isMoved_21 : decode cL_isMoved 21 = .ok (.istore 5, 2) := by decide +kernel
theorem dL_isMoved_23 : decode cL_isMoved 23 = .ok (.aload_n 0, 1) := by decide +kernel
theorem dL_isMoved_24 : decode cL_isMoved 24 = .ok (.iload_n 1, 1) := by decide +kernel
theorem dL_isMoved_25 : decode cL_isMoved 25 = .ok (.iconst 0, 1) := by decide +kernel
theorem dL_isMoved_26 : decode cL_isMoved 26 = .ok (.invokevirtual 14, 3) := by decide +kernel
theorem dL_isMoved_29 : decode cL_isMoved 29 = .ok (.istore 6, 2) := by decide +kernel
theorem dL_isMoved_31 : decode cL_isMoved 31 = .ok (.aload_n 0, 1) := by decide +kernel
theorem dL_isMoved_32 : decode cL_isMoved 32 = .ok (.iload_n 1, 1) := by decide +kernel
theorem dL_isMoved_33 : decode cL_isMoved 33 = .ok (.iconst 3, 1) := by decide +kernel
theorem dL_isMoved_34 : decode cL_isMoved 34 = .ok (.invokevirtual 14, 3) := by decide +kernel
theorem dL_isMoved_37 : decode cL_isMoved 37 = .ok (.istore 7, 2) := by decide +kernel
theorem dL_isMoved_39 : decode cL_isMoved 39 = .ok (.iload 4, 2) := by decide +kernel
theorem dL_isMoved_41 : decode cL_isMoved 41 = .ok (.ifCond .lt 8, 3) := by decide +kernel
theorem dL_isMoved_44 : decode cL_isMoved 44 = .ok (.iload 4, 2) := by decide +kernel
