theorem dL_isMoved_46 : decode cL_isMoved 46 = .ok (.goto 5, 3) := by decide +kernel
theorem dL_isMoved_49 : decode cL_isMoved 49 = .ok (.iload 5, 2) := by decide +kernel
theorem dL_isMoved_51 : decode cL_isMoved 51 = .ok (.istore 8, 2) := by decide +kernel
theorem dL_isMoved_53 : decode cL_isMoved 53 = .ok (.iload 8, 2) := by decide +kernel
theorem dL_isMoved_55 : decode cL_isMoved 55 = .ok (.iload_n 3, 1) := by decide +kernel
theorem dL_isMoved_56 : decode cL_isMoved 56 = .ok (.if_icmp .ge 14, 3) := by decide +kernel
theorem dL_isMoved_59 : decode cL_isMoved 59 = .ok (.aload_n 0, 1) := by decide +kernel
theorem dL_isMoved_60 : decode cL_isMoved 60 = .ok (.iload 8, 2) := by decide +kernel
theorem dL_isMoved_62 : decode cL_isMoved 62 = .ok (.bipush 7, 2) := by decide +kernel
theorem dL_isMoved_64 : decode cL_isMoved 64 = .ok (.invokevirtual 14, 3) := by decide +kernel
theorem dL_isMoved_67 : decode cL_isMoved 67 = .ok (.goto 4, 3) := by decide +kernel
theorem dL_isMoved_70 : decode cL_isMoved 70 = .ok (.iconst 0, 1) := by decide +kernel
theorem dL_isMoved_71 : decode cL_isMoved 71 = .ok (.istore 9, 2) := by decide +kernel
theorem dL_isMoved_73 : decode cL_isMoved 73 = .ok (.aload_n 0, 1) := by decide +kernel
theorem dL_isMoved_74 : decode cL_isMoved 74 = .ok (.iload_n 1, 1) := by decide +kernel
theorem dL_isMoved_75 : decode cL_isMoved 75 = .ok (.iload_n 2, 1) := by decide +kernel
theorem dL_isMoved_76 : decode cL_isMoved 76 = .ok (.invokevirtual 40, 3) := by decide +kernel
theorem dL_isMoved_79 : decode cL_isMoved 79 = .ok (.istore 10, 2) := by decide +kernel
theorem dL_isMoved_81 : decode cL_isMoved 81 = .ok (.iload 4, 2) := by decide +kernel
theorem dL_isMoved_83 : decode cL_isMoved 83 = .ok (.ifCond .lt 12, 3) := by decide +kernel
theorem dL_isMoved_86 : decode cL_isMoved 86 = .ok (.aload_n 0, 1) := by decide +kernel
theorem dL_isMoved_87 : decode cL_isMoved 87 = .ok (.bipush 9, 2) := by decide +kernel
theorem dL_isMoved_89 : decode cL_isMoved 89 = .ok (.invokevirtual 8, 3) := by decide +kernel
theorem dL_isMoved_92 : decode cL_isMoved 92 = .ok (.goto 9, 3) := by decide +kernel
theorem dL_isMoved_95 : decode cL_isMoved 95 = .ok (.aload_n 0, 1) := by decide +kernel
theorem dL_isMoved_96 : decode cL_isMoved 96 = .ok (.bipush 10, 2) := by decide +kernel
theorem dL_isMoved_98 : decode cL_isMoved 98 = .ok (.invokevirtual 8, 3) := by decide +kernel
theorem dL_isMoved_101 : decode cL_isMoved 101 = .ok (.istore 11, 2) := by decide +kernel
theorem dL_isMoved_103 : decode cL_isMoved 103 = .ok (.iload 8, 2) := by decide +kernel
theorem dL_isMoved_105 : decode cL_isMoved 105 = .ok (.iload_n 1, 1) := by decide +kernel
theorem dL_isMoved_106 : decode cL_isMoved 106 = .ok (.if_icmp .ne 7, 3) := by decide +kernel
theorem dL_isMoved_109 : decode cL_isMoved 109 = .ok (.iload_n 2, 1) := by decide +kernel
theorem dL_isMoved_110 : decode cL_isMoved 110 = .ok (.goto 43, 3) := by decide +kernel
theorem dL_isMoved_113 : decode cL_isMoved 113 = .ok (.iload 8, 2) := by decide +kernel
theorem dL_isMoved_115 : decode cL_isMoved 115 = .ok (.iload_n 1, 1) := by decide +kernel
theorem dL_isMoved_116 : decode cL_isMoved 116 = .ok (.if_icmp .le 16, 3) := by decide +kernel
theorem dL_isMoved_119 : decode cL_isMoved 119 = .ok (.iload 8, 2) := by decide +kernel
theorem dL_isMoved_121 : decode cL_isMoved 121 = .ok (.iload_n 2, 1) := by decide +kernel
theorem dL_isMoved_122 : decode cL_isMoved 122 = .ok (.if_icmp .gt 10, 3) := by decide +kernel
theorem dL_isMoved_125 : decode cL_isMoved 125 = .ok (.iload 8, 2) := by decide +kernel
theorem dL_isMoved_127 : decode cL_isMoved 127 = .ok (.iconst 1, 1) := by decide +kernel
theorem dL_isMoved_128 : decode cL_isMoved 128 = .ok (.isub, 1) := by decide +kernel
theorem dL_isMoved_129 : decode cL_isMoved 129 = .ok (.goto 24, 3) := by decide +kernel
theorem dL_isMoved_132 : decode cL_isMoved 132 = .ok (.iload 8, 2) := by decide +kernel
theorem dL_isMoved_134 : decode cL_isMoved 134 = .ok (.iload_n 1, 1) := by decide +kernel
theorem dL_isMoved_135 : decode cL_isMoved 135 = .ok (.if_icmp .ge 16, 3) := by decide +kernel
theorem dL_isMoved_138 : decode cL_isMoved 138 = .ok (.iload 8, 2) := by decide +kernel
theorem dL_isMoved_140 : decode cL_isMoved 140 = .ok (.iload_n 2, 1) := by decide +kernel
theorem dL_isMoved_141 : decode cL_isMoved 141 = .ok (.if_icmp .lt 10, 3) := by decide +kernel
theorem dL_isMoved_144 : decode cL_isMoved 144 = .ok (.iload 8, 2) := by decide +kernel
theorem dL_isMoved_146 : decode cL_isMoved 146 = .ok (.iconst 1, 1) := by decide +kernel
theorem dL_isMoved_147 : decode cL_isMoved 147 = .ok (.iadd, 1) := by decide +kernel
theorem dL_isMoved_148 : decode cL_isMoved 148 = .ok (.goto 5, 3) := by decide +kernel
theorem dL_isMoved_151 : decode cL_isMoved 151 = .ok (.iload 8, 2) := by decide +kernel
theorem dL_isMoved_153 : decode cL_isMoved 153 = .ok (.istore 12, 2) := by decide +kernel
theorem dL_isMoved_155 : decode cL_isMoved 155 = .ok (.iload 10, 2) := by decide +kernel
theorem dL_isMoved_157 : decode cL_isMoved 157 = .ok (.ifCond .lt 76, 3) := by decide +kernel
theorem dL_isMoved_160 : decode cL_isMoved 160 = .ok (.iload 11, 2) := by decide +kernel
theorem dL_isMoved_162 : decode cL_isMoved 162 = .ok (.iload 12, 2) := by decide +kernel
theorem dL_isMoved_164 : decode cL_isMoved 164 = .ok (.if_icmp .ne 69, 3) := by decide +kernel
theorem dL_isMoved_167 : decode cL_isMoved 167 = .ok (.aload_n 0, 1) := by decide +kernel
theorem dL_isMoved_168 : decode cL_isMoved 168 = .ok (.bipush 9, 2) := by decide +kernel
theorem dL_isMoved_170 : decode cL_isMoved 170 = .ok (.invokevirtual 8, 3) := by decide +kernel
theorem dL_isMoved_173 : decode cL_isMoved 173 = .ok (.ifCond .lt 7, 3) := by decide +kernel
theorem dL_isMoved_176 : decode cL_isMoved 176 = .ok (.iconst 1, 1) := by decide +kernel
theorem dL_isMoved_177 : decode cL_isMoved 177 = .ok (.goto 4, 3) := by decide +kernel
theorem dL_isMoved_180 : decode cL_isMoved 180 = .ok (.iconst 0, 1) := by decide +kernel
theorem dL_isMoved_181 : decode cL_isMoved 181 = .ok (.iload 4, 2) := by decide +kernel
theorem dL_isMoved_183 : decode cL_isMoved 183 = .ok (.ifCond .lt 7, 3) := by decide +kernel
theorem dL_isMoved_186 : decode cL_isMoved 186 = .ok (.iconst 1, 1) := by decide +kernel
theorem dL_isMoved_187 : decode cL_isMoved 187 = .ok (.goto 4, 3) := by decide +kernel
theorem dL_isMoved_190 : decode cL_isMoved 190 = .ok (.iconst 0, 1) := by decide +kernel
theorem dL_isMoved_191 : decode cL_isMoved 191 = .ok (.if_icmp .ne 42, 3) := by decide +kernel
theorem dL_isMoved_194 : decode cL_isMoved 194 = .ok (.aload_n 0, 1) := by decide +kernel
theorem dL_isMoved_195 : decode cL_isMoved 195 = .ok (.iload_n 2, 1) := by decide +kernel
theorem dL_isMoved_196 : decode cL_isMoved 196 = .ok (.iconst 0, 1) := by decide +kernel
theorem dL_isMoved_197 : decode cL_isMoved 197 = .ok (.invokevirtual 14, 3) := by decide +kernel
theorem dL_isMoved_200 : decode cL_isMoved 200 = .ok (.iload 6, 2) := by decide +kernel
theorem dL_isMoved_202 : decode cL_isMoved 202 = .ok (.if_icmp .ne 31, 3) := by decide +kernel
theorem dL_isMoved_205 : decode cL_isMoved 205 = .ok (.aload_n 0, 1) := by decide +kernel
theorem dL_isMoved_206 : decode cL_isMoved 206 = .ok (.iload_n 2, 1) := by decide +kernel
theorem dL_isMoved_207 : decode cL_isMoved 207 = .ok (.iconst 3, 1) := by decide +kernel
theorem dL_isMoved_208 : decode cL_isMoved 208 = .ok (.invokevirtual 14, 3) := by decide +kernel
theorem dL_isMoved_211 : decode cL_isMoved 211 = .ok (.iload 7, 2) := by decide +kernel
theorem dL_isMoved_213 : decode cL_isMoved 213 = .ok (.if_icmp .ne 20, 3) := by decide +kernel
theorem dL_isMoved_216 : decode cL_isMoved 216 = .ok (.aload_n 0, 1) := by decide +kernel
theorem dL_isMoved_217 : decode cL_isMoved 217 = .ok (.iload 11, 2) := by decide +kernel
theorem dL_isMoved_219 : decode cL_isMoved 219 = .ok (.bipush 7, 2) := by decide +kernel
theorem dL_isMoved_221 : decode cL_isMoved 221 = .ok (.invokevirtual 14, 3) := by decide +kernel
theorem dL_isMoved_224 : decode cL_isMoved 224 = .ok (.iload 9, 2) := by decide +kernel
theorem dL_isMoved_226 : decode cL_isMoved 226 = .ok (.if_icmp .ne 7, 3) := by decide +kernel
theorem dL_isMoved_229 : decode cL_isMoved 229 = .ok (.iconst 1, 1) := by decide +kernel
theorem dL_isMoved_230 : decode cL_isMoved 230 = .ok (.goto 4, 3) := by decide +kernel
theorem dL_isMoved_233 : decode cL_isMoved 233 = .ok (.iconst 0, 1) := by decide +kernel
theorem dL_isMoved_234 : decode cL_isMoved 234 = .ok (.ireturn, 1) := by decide +kernel
theorem dL_does_0 : decode cL_does 0 = .ok (.aload_n 0, 1) := by decide +kernel
theorem dL_does_1 : decode cL_does 1 = .ok (.bipush 7, 2) := by decide +kernel
theorem dL_does_3 : decode cL_does 3 = .ok (.invokevirtual 8, 3) := by decide +kernel
theorem dL_does_6 : decode cL_does 6 = .ok (.istore_n 3, 1) := by decide +kernel
theorem dL_does_7 : decode cL_does 7 = .ok (.iload_n 3, 1) := by decide +kernel
theorem dL_does_8 : decode cL_does 8 = .ok (.ifCond .ne 7, 3) := by decide +kernel
theorem dL_does_11 : decode cL_does 11 = .ok (.iconst 0, 1) := by decide +kernel
theorem dL_does_12 : decode cL_does 12 = .ok (.goto 10, 3) := by decide +kernel
theorem dL_does_15 : decode cL_does 15 = .ok (.iload_n 1, 1) := by decide +kernel
theorem dL_does_16 : decode cL_does 16 = .ok (.iconst 4, 1) := by decide +kernel
theorem dL_does_17 : decode cL_does 17 = .ok (.ishr, 1) := by decide +kernel
theorem dL_does_18 : decode cL_does 18 = .ok (.iload_n 3, 1) := by decide +kernel
theorem dL_does_19 : decode cL_does 19 = .ok (.invokestatic 46, 3) := by decide +kernel
theorem dL_does_22 : decode cL_does 22 = .ok (.istore 4, 2) := by decide +kernel
theorem dL_does_24 : decode cL_does 24 = .ok (.iload_n 1, 1) := by decide +kernel
theorem dL_does_25 : decode cL_does 25 = .ok (.bipush 16, 2) := by decide +kernel
theorem dL_does_27 : decode cL_does 27 = .ok (.invokestatic 46, 3) := by decide +kernel
theorem dL_does_30 : decode cL_does 30 = .ok (.tableswitch 530 0 12 #[66, 66, 66, 164, 198, 262, 262, 274, 328, 328, 466, 497, 497], 66) := by decide +kernel
theorem dL_does_96 : decode cL_does 96 = .ok (.aload_n 0, 1) := by decide +kernel
theorem dL_does_97 : decode cL_does 97 = .ok (.iconst 1, 1) := by decide +kernel
theorem dL_does_98 : decode cL_does 98 = .ok (.iload_n 2, 1) := by decide +kernel
theorem dL_does_99 : decode cL_does 99 = .ok (.bipush 9, 2) := by decide +kernel
theorem dL_does_101 : decode cL_does 101 = .ok (.invokestatic 46, 3) := by decide +kernel
theorem dL_does_104 : decode cL_does 104 = .ok (.iadd, 1) := by decide +kernel
theorem dL_does_105 : decode cL_does 105 = .ok (.iload_n 2, 1) := by decide +kernel
theorem dL_does_106 : decode cL_does 106 = .ok (.iconst 4, 1) := by decide +kernel
theorem dL_does_107 : decode cL_does 107 = .ok (.ishr, 1) := by decide +kernel
theorem dL_does_108 : decode cL_does 108 = .ok (.bipush 101, 2) := by decide +kernel
theorem dL_does_110 : decode cL_does 110 = .ok (.invokestatic 46, 3) := by decide +kernel
theorem dL_does_113 : decode cL_does 113 = .ok (.invokevirtual 51, 3) := by decide +kernel
theorem dL_does_116 : decode cL_does 116 = .ok (.istore 5, 2) := by decide +kernel
theorem dL_does_118 : decode cL_does 118 = .ok (.iload_n 3, 1) := by decide +kernel
theorem dL_does_119 : decode cL_does 119 = .ok (.bipush 8, 2) := by decide +kernel
theorem dL_does_121 : decode cL_does 121 = .ok (.if_icmp .ne 18, 3) := by decide +kernel
theorem dL_does_124 : decode cL_does 124 = .ok (.iload 5, 2) := by decide +kernel
theorem dL_does_126 : decode cL_does 126 = .ok (.bipush (-4), 2) := by decide +kernel
theorem dL_does_128 : decode cL_does 128 = .ok (.if_icmp .ne 7, 3) := by decide +kernel
theorem dL_does_131 : decode cL_does 131 = .ok (.iconst 1, 1) := by decide +kernel
theorem dL_does_132 : decode cL_does 132 = .ok (.goto 61, 3) := by decide +kernel
theorem dL_does_135 : decode cL_does 135 = .ok (.iconst 0, 1) := by decide +kernel
theorem dL_does_136 : decode cL_does 136 = .ok (.goto 57, 3) := by decide +kernel
theorem dL_does_139 : decode cL_does 139 = .ok (.iload 5, 2) := by decide +kernel
theorem dL_does_141 : decode cL_does 141 = .ok (.iload_n 3, 1) := by decide +kernel
theorem dL_does_142 : decode cL_does 142 = .ok (.if_icmp .ne 50, 3) := by decide +kernel
theorem dL_does_145 : decode cL_does 145 = .ok (.aload_n 0, 1) := by decide +kernel
theorem dL_does_146 : decode cL_does 146 = .ok (.iload_n 3, 1) := by decide +kernel
theorem dL_does_147 : decode cL_does 147 = .ok (.iconst 0, 1) := by decide +kernel
theorem dL_does_148 : decode cL_does 148 = .ok (.invokevirtual 14, 3) := by decide +kernel
theorem dL_does_151 : decode cL_does 151 = .ok (.iconst 1, 1) := by decide +kernel
theorem dL_does_152 : decode cL_does 152 = .ok (.iload_n 2, 1) := by decide +kernel
theorem dL_does_153 : decode cL_does 153 = .ok (.bipush 9, 2) := by decide +kernel
theorem dL_does_155 : decode cL_does 155 = .ok (.invokestatic 46, 3) := by decide +kernel
theorem dL_does_158 : decode cL_does 158 = .ok (.iadd, 1) := by decide +kernel
theorem dL_does_159 : decode cL_does 159 = .ok (.if_icmp .ne 33, 3) := by decide +kernel
theorem dL_does_162 : decode cL_does 162 = .ok (.aload_n 0, 1) := by decide +kernel
theorem dL_does_163 : decode cL_does 163 = .ok (.iload_n 3, 1) := by decide +kernel
theorem dL_does_164 : decode cL_does 164 = .ok (.iconst 1, 1) := by decide +kernel
theorem dL_does_165 : decode cL_does 165 = .ok (.invokevirtual 14, 3) := by decide +kernel
theorem dL_does_168 : decode cL_does 168 = .ok (.iload_n 2, 1) := by decide +kernel
theorem dL_does_169 : decode cL_does 169 = .ok (.iconst 4, 1) := by decide +kernel
theorem dL_does_170 : decode cL_does 170 = .ok (.ishr, 1) := by decide +kernel
theorem dL_does_171 : decode cL_does 171 = .ok (.bipush 101, 2) := by decide +kernel
theorem dL_does_173 : decode cL_does 173 = .ok (.invokestatic 46, 3) := by decide +kernel
theorem dL_does_176 : decode cL_does 176 = .ok (.if_icmp .ne 16, 3) := by decide +kernel
theorem dL_does_179 : decode cL_does 179 = .ok (.aload_n 0, 1) := by decide +kernel
theorem dL_does_180 : decode cL_does 180 = .ok (.iload_n 3, 1) := by decide +kernel
theorem dL_does_181 : decode cL_does 181 = .ok (.iconst 3, 1) := by decide +kernel
theorem dL_does_182 : decode cL_does 182 = .ok (.invokevirtual 14, 3) := by decide +kernel
theorem dL_does_185 : decode cL_does 185 = .ok (.ifCond .ne 7, 3) := by decide +kernel
theorem dL_does_188 : decode cL_does 188 = .ok (.iconst 1, 1) := by decide +kernel
theorem dL_does_189 : decode cL_does 189 = .ok (.goto 4, 3) := by decide +kernel
theorem dL_does_192 : decode cL_does 192 = .ok (.iconst 0, 1) := by decide +kernel
theorem dL_does_193 : decode cL_does 193 = .ok (.ireturn, 1) := by decide +kernel
theorem dL_does_194 : decode cL_does 194 = .ok (.iload_n 3, 1) := by decide +kernel
theorem dL_does_195 : decode cL_does 195 = .ok (.ifCond .ne 21, 3) := by decide +kernel
theorem dL_does_198 : decode cL_does 198 = .ok (.aload_n 0, 1) := by decide +kernel
theorem dL_does_199 : decode cL_does 199 = .ok (.iconst 0, 1) := by decide +kernel
theorem dL_does_200 : decode cL_does 200 = .ok (.iconst 0, 1) := by decide +kernel
theorem dL_does_201 : decode cL_does 201 = .ok (.invokevirtual 40, 3) := by decide +kernel
theorem dL_does_204 : decode cL_does 204 = .ok (.iconst (-1), 1) := by decide +kernel
theorem dL_does_205 : decode cL_does 205 = .ok (.if_icmp .ne 7, 3) := by decide +kernel
theorem dL_does_208 : decode cL_does 208 = .ok (.iconst 1, 1) := by decide +kernel
theorem dL_does_209 : decode cL_does 209 = .ok (.goto 18, 3) := by decide +kernel
theorem dL_does_212 : decode cL_does 212 = .ok (.iconst 0, 1) := by decide +kernel
theorem dL_does_213 : decode cL_does 213 = .ok (.goto 14, 3) := by decide +kernel
theorem dL_does_216 : decode cL_does 216 = .ok (.aload_n 0, 1) := by decide +kernel
theorem dL_does_217 : decode cL_does 217 = .ok (.iload 4, 2) := by decide +kernel
theorem dL_does_219 : decode cL_does 219 = .ok (.iload_n 2, 1) := by decide +kernel
theorem dL_does_220 : decode cL_does 220 = .ok (.iload_n 3, 1) := by decide +kernel
theorem dL_does_221 : decode cL_does 221 = .ok (.invokestatic 46, 3) := by decide +kernel
theorem dL_does_224 : decode cL_does 224 = .ok (.invokestatic 54, 3) := by decide +kernel
theorem dL_does_227 : decode cL_does 227 = .ok (.ireturn, 1) := by decide +kernel
theorem dL_does_228 : decode cL_does 228 = .ok (.aload_n 0, 1) := by decide +kernel
theorem dL_does_229 : decode cL_does 229 = .ok (.bipush 9, 2) := by decide +kernel
theorem dL_does_231 : decode cL_does 231 = .ok (.invokevirtual 8, 3) := by decide +kernel
theorem dL_does_234 : decode cL_does 234 = .ok (.istore 6, 2) := by decide +kernel
theorem dL_does_236 : decode cL_does 236 = .ok (.aload_n 0, 1) := by decide +kernel
theorem dL_does_237 : decode cL_does 237 = .ok (.invokevirtual 58, 3) := by decide +kernel
theorem dL_does_240 : decode cL_does 240 = .ok (.iload 6, 2) := by decide +kernel
theorem dL_does_242 : decode cL_does 242 = .ok (.ifCond .ge 8, 3) := by decide +kernel
theorem dL_does_245 : decode cL_does 245 = .ok (.bipush (-5), 2) := by decide +kernel
theorem dL_does_247 : decode cL_does 247 = .ok (.goto 5, 3) := by decide +kernel
theorem dL_does_250 : decode cL_does 250 = .ok (.iload 6, 2) := by decide +kernel
theorem dL_does_252 : decode cL_does 252 = .ok (.if_icmp .ne 38, 3) := by decide +kernel
theorem dL_does_255 : decode cL_does 255 = .ok (.aload_n 0, 1) := by decide +kernel
theorem dL_does_256 : decode cL_does 256 = .ok (.bipush 9, 2) := by decide +kernel
theorem dL_does_258 : decode cL_does 258 = .ok (.invokevirtual 8, 3) := by decide +kernel
theorem dL_does_261 : decode cL_does 261 = .ok (.bipush (-6), 2) := by decide +kernel
theorem dL_does_263 : decode cL_does 263 = .ok (.if_icmp .ne 27, 3) := by decide +kernel
theorem dL_does_266 : decode cL_does 266 = .ok (.iload 6, 2) := by decide +kernel
theorem dL_does_268 : decode cL_does 268 = .ok (.ifCond .lt 18, 3) := by decide +kernel
theorem dL_does_271 : decode cL_does 271 = .ok (.aload_n 0, 1) := by decide +kernel
theorem dL_does_272 : decode cL_does 272 = .ok (.bipush 10, 2) := by decide +kernel
theorem dL_does_274 : decode cL_does 274 = .ok (.invokevirtual 8, 3) := by decide +kernel
theorem dL_does_277 : decode cL_does 277 = .ok (.iload 6, 2) := by decide +kernel
theorem dL_does_279 : decode cL_does 279 = .ok (.iconst 1, 1) := by decide +kernel
theorem dL_does_280 : decode cL_does 280 = .ok (.iadd, 1) := by decide +kernel
theorem dL_does_281 : decode cL_does 281 = .ok (.iload_n 3, 1) := by decide +kernel
theorem dL_does_282 : decode cL_does 282 = .ok (.irem, 1) := by decide +kernel
theorem dL_does_283 : decode cL_does 283 = .ok (.if_icmp .ne 7, 3) := by decide +kernel
theorem dL_does_286 : decode cL_does 286 = .ok (.iconst 1, 1) := by decide +kernel
theorem dL_does_287 : decode cL_does 287 = .ok (.goto 4, 3) := by decide +kernel
theorem dL_does_290 : decode cL_does 290 = .ok (.iconst 0, 1) := by decide +kernel
theorem dL_does_291 : decode cL_does 291 = .ok (.ireturn, 1) := by decide +kernel
theorem dL_does_292 : decode cL_does 292 = .ok (.aload_n 0, 1) := by decide +kernel
theorem dL_does_293 : decode cL_does 293 = .ok (.iload_n 2, 1) := by decide +kernel
theorem dL_does_294 : decode cL_does 294 = .ok (.iload_n 3, 1) := by decide +kernel
theorem dL_does_295 : decode cL_does 295 = .ok (.iconst 1, 1) := by decide +kernel
theorem dL_does_296 : decode cL_does 296 = .ok (.iadd, 1) := by decide +kernel
theorem dL_does_297 : decode cL_does 297 = .ok (.invokestatic 46, 3) := by decide +kernel
theorem dL_does_300 : decode cL_does 300 = .ok (.invokestatic 61, 3) := by decide +kernel
theorem dL_does_303 : decode cL_does 303 = .ok (.ireturn, 1) := by decide +kernel
theorem dL_does_304 : decode cL_does 304 = .ok (.aload_n 0, 1) := by decide +kernel
theorem dL_does_305 : decode cL_does 305 = .ok (.bipush 11, 2) := by decide +kernel
theorem dL_does_307 : decode cL_does 307 = .ok (.invokevirtual 8, 3) := by decide +kernel
theorem dL_does_310 : decode cL_does 310 = .ok (.istore 7, 2) := by decide +kernel
theorem dL_does_312 : decode cL_does 312 = .ok (.iconst 1, 1) := by decide +kernel
theorem dL_does_313 : decode cL_does 313 = .ok (.iload_n 2, 1) := by decide +kernel
theorem dL_does_314 : decode cL_does 314 = .ok (.sipush 900, 3) := by decide +kernel
theorem dL_does_317 : decode cL_does 317 = .ok (.invokestatic 46, 3) := by decide +kernel
theorem dL_does_320 : decode cL_does 320 = .ok (.iadd, 1) := by decide +kernel
theorem dL_does_321 : decode cL_does 321 = .ok (.istore 8, 2) := by decide +kernel
theorem dL_does_323 : decode cL_does 323 = .ok (.aload_n 0, 1) := by decide +kernel
theorem dL_does_324 : decode cL_does 324 = .ok (.iload 8, 2) := by decide +kernel
theorem dL_does_326 : decode cL_does 326 = .ok (.invokevirtual 65, 3) := by decide +kernel
theorem dL_does_329 : decode cL_does 329 = .ok (.iload 7, 2) := by decide +kernel
theorem dL_does_331 : decode cL_does 331 = .ok (.iload 8, 2) := by decide +kernel
theorem dL_does_333 : decode cL_does 333 = .ok (.iadd, 1) := by decide +kernel
theorem dL_does_334 : decode cL_does 334 = .ok (.ldc 68, 2) := by decide +kernel
theorem dL_does_336 : decode cL_does 336 = .ok (.if_icmp .le 8, 3) := by decide +kernel
theorem dL_does_339 : decode cL_does 339 = .ok (.bipush (-4), 2) := by decide +kernel
theorem dL_does_341 : decode cL_does 341 = .ok (.goto 8, 3) := by decide +kernel
theorem dL_does_344 : decode cL_does 344 = .ok (.iload 7, 2) := by decide +kernel
theorem dL_does_346 : decode cL_does 346 = .ok (.iload 8, 2) := by decide +kernel
theorem dL_does_348 : decode cL_does 348 = .ok (.iadd, 1) := by decide +kernel
theorem dL_does_349 : decode cL_does 349 = .ok (.if_icmp .ne 7, 3) := by decide +kernel
theorem dL_does_352 : decode cL_does 352 = .ok (.iconst 1, 1) := by decide +kernel
theorem dL_does_353 : decode cL_does 353 = .ok (.goto 4, 3) := by decide +kernel
theorem dL_does_356 : decode cL_does 356 = .ok (.iconst 0, 1) := by decide +kernel
theorem dL_does_357 : decode cL_does 357 = .ok (.ireturn, 1) := by decide +kernel
theorem dL_does_358 : decode cL_does 358 = .ok (.iload_n 1, 1) := by decide +kernel
theorem dL_does_359 : decode cL_does 359 = .ok (.iconst 4, 1) := by decide +kernel
theorem dL_does_360 : decode cL_does 360 = .ok (.ishr, 1) := by decide +kernel
theorem dL_does_361 : decode cL_does 361 = .ok (.bipush 6, 2) := by decide +kernel
theorem dL_does_363 : decode cL_does 363 = .ok (.invokestatic 46, 3) := by decide +kernel
theorem dL_does_366 : decode cL_does 366 = .ok (.istore 9, 2) := by decide +kernel
theorem dL_does_368 : decode cL_does 368 = .ok (.iload 9, 2) := by decide +kernel
theorem dL_does_370 : decode cL_does 370 = .ok (.ifCond .ne 15, 3) := by decide +kernel
theorem dL_does_373 : decode cL_does 373 = .ok (.bipush 40, 2) := by decide +kernel
theorem dL_does_375 : decode cL_does 375 = .ok (.iload_n 2, 1) := by decide +kernel
theorem dL_does_376 : decode cL_does 376 = .ok (.bipush 60, 2) := by decide +kernel
theorem dL_does_378 : decode cL_does 378 = .ok (.invokestatic 46, 3) := by decide +kernel
theorem dL_does_381 : decode cL_does 381 = .ok (.iadd, 1) := by decide +kernel
theorem dL_does_382 : decode cL_does 382 = .ok (.goto 74, 3) := by decide +kernel
theorem dL_does_385 : decode cL_does 385 = .ok (.iload 9, 2) := by decide +kernel
theorem dL_does_387 : decode cL_does 387 = .ok (.iconst 1, 1) := by decide +kernel
theorem dL_does_388 : decode cL_does 388 = .ok (.if_icmp .ne 13, 3) := by decide +kernel
theorem dL_does_391 : decode cL_does 391 = .ok (.iload_n 2, 1) := by decide +kernel
theorem dL_does_392 : decode cL_does 392 = .ok (.sipush 201, 3) := by decide +kernel
theorem dL_does_395 : decode cL_does 395 = .ok (.invokestatic 46, 3) := by decide +kernel
theorem dL_does_398 : decode cL_does 398 = .ok (.goto 58, 3) := by decide +kernel
theorem dL_does_401 : decode cL_does 401 = .ok (.iload 9, 2) := by decide +kernel
theorem dL_does_403 : decode cL_does 403 = .ok (.iconst 2, 1) := by decide +kernel
theorem dL_does_404 : decode cL_does 404 = .ok (.if_icmp .ne 12, 3) := by decide +kernel
theorem dL_does_407 : decode cL_does 407 = .ok (.iload_n 2, 1) := by decide +kernel
theorem dL_does_408 : decode cL_does 408 = .ok (.bipush 30, 2) := by decide +kernel
theorem dL_does_410 : decode cL_does 410 = .ok (.invokestatic 46, 3) := by decide +kernel
theorem dL_does_413 : decode cL_does 413 = .ok (.goto 43, 3) := by decide +kernel
theorem dL_does_416 : decode cL_does 416 = .ok (.iload 9, 2) := by decide +kernel
theorem dL_does_418 : decode cL_does 418 = .ok (.iconst 3, 1) := by decide +kernel
theorem dL_does_419 : decode cL_does 419 = .ok (.if_icmp .ne 14, 3) := by decide +kernel
theorem dL_does_422 : decode cL_does 422 = .ok (.iconst 5, 1) := by decide +kernel
theorem dL_does_423 : decode cL_does 423 = .ok (.iload_n 2, 1) := by decide +kernel
theorem dL_does_424 : decode cL_does 424 = .ok (.bipush 36, 2) := by decide +kernel
theorem dL_does_426 : decode cL_does 426 = .ok (.invokestatic 46, 3) := by decide +kernel
theorem dL_does_429 : decode cL_does 429 = .ok (.iadd, 1) := by decide +kernel
theorem dL_does_430 : decode cL_does 430 = .ok (.goto 26, 3) := by decide +kernel
theorem dL_does_433 : decode cL_does 433 = .ok (.iload 9, 2) := by decide +kernel
theorem dL_does_435 : decode cL_does 435 = .ok (.iconst 4, 1) := by decide +kernel
theorem dL_does_436 : decode cL_does 436 = .ok (.if_icmp .ne 14, 3) := by decide +kernel
theorem dL_does_439 : decode cL_does 439 = .ok (.iconst 1, 1) := by decide +kernel
theorem dL_does_440 : decode cL_does 440 = .ok (.iload_n 2, 1) := by decide +kernel
theorem dL_does_441 : decode cL_does 441 = .ok (.bipush 9, 2) := by decide +kernel
theorem dL_does_443 : decode cL_does 443 = .ok (.invokestatic 46, 3) := by decide +kernel
theorem dL_does_446 : decode cL_does 446 = .ok (.iadd, 1) := by decide +kernel
theorem dL_does_447 : decode cL_does 447 = .ok (.goto 9, 3) := by decide +kernel
theorem dL_does_450 : decode cL_does 450 = .ok (.iload_n 2, 1) := by decide +kernel
theorem dL_does_451 : decode cL_does 451 = .ok (.bipush 61, 2) := by decide +kernel
theorem dL_does_453 : decode cL_does 453 = .ok (.invokestatic 46, 3) := by decide +kernel
theorem dL_does_456 : decode cL_does 456 = .ok (.istore 10, 2) := by decide +kernel
theorem dL_does_458 : decode cL_does 458 = .ok (.aload_n 0, 1) := by decide +kernel
theorem dL_does_459 : decode cL_does 459 = .ok (.iload 9, 2) := by decide +kernel
theorem dL_does_461 : decode cL_does 461 = .ok (.invokevirtual 8, 3) := by decide +kernel
theorem dL_does_464 : decode cL_does 464 = .ok (.istore 11, 2) := by decide +kernel
theorem dL_does_466 : decode cL_does 466 = .ok (.aload_n 0, 1) := by decide +kernel
theorem dL_does_467 : decode cL_does 467 = .ok (.iload 9, 2) := by decide +kernel
theorem dL_does_469 : decode cL_does 469 = .ok (.iload 10, 2) := by decide +kernel
theorem dL_does_471 : decode cL_does 471 = .ok (.invokevirtual 69, 3) := by decide +kernel
theorem dL_does_474 : decode cL_does 474 = .ok (.iload 11, 2) := by decide +kernel
theorem dL_does_476 : decode cL_does 476 = .ok (.if_icmp .ne 18, 3) := by decide +kernel
theorem dL_does_479 : decode cL_does 479 = .ok (.aload_n 0, 1) := by decide +kernel
theorem dL_does_480 : decode cL_does 480 = .ok (.iload 9, 2) := by decide +kernel
theorem dL_does_482 : decode cL_does 482 = .ok (.invokevirtual 8, 3) := by decide +kernel
theorem dL_does_485 : decode cL_does 485 = .ok (.iload 10, 2) := by decide +kernel
theorem dL_does_487 : decode cL_does 487 = .ok (.if_icmp .ne 7, 3) := by decide +kernel
theorem dL_does_490 : decode cL_does 490 = .ok (.iconst 1, 1) := by decide +kernel
theorem dL_does_491 : decode cL_does 491 = .ok (.goto 4, 3) := by decide +kernel
theorem dL_does_494 : decode cL_does 494 = .ok (.iconst 0, 1) := by decide +kernel
theorem dL_does_495 : decode cL_does 495 = .ok (.ireturn, 1) := by decide +kernel
theorem dL_does_496 : decode cL_does 496 = .ok (.iload_n 3, 1) := by decide +kernel
theorem dL_does_497 : decode cL_does 497 = .ok (.ifCond .eq 24, 3) := by decide +kernel
theorem dL_does_500 : decode cL_does 500 = .ok (.aload_n 0, 1) := by decide +kernel
theorem dL_does_501 : decode cL_does 501 = .ok (.bipush 6, 2) := by decide +kernel
theorem dL_does_503 : decode cL_does 503 = .ok (.invokevirtual 8, 3) := by decide +kernel
theorem dL_does_506 : decode cL_does 506 = .ok (.sipush 9800, 3) := by decide +kernel
theorem dL_does_509 : decode cL_does 509 = .ok (.if_icmp .gt 12, 3) := by decide +kernel
theorem dL_does_512 : decode cL_does 512 = .ok (.aload_n 0, 1) := by decide +kernel
theorem dL_does_513 : decode cL_does 513 = .ok (.iload 4, 2) := by decide +kernel
theorem dL_does_515 : decode cL_does 515 = .ok (.invokestatic 72, 3) := by decide +kernel
theorem dL_does_518 : decode cL_does 518 = .ok (.ifCond .eq 7, 3) := by decide +kernel
theorem dL_does_521 : decode cL_does 521 = .ok (.iconst 1, 1) := by decide +kernel
theorem dL_does_522 : decode cL_does 522 = .ok (.goto 4, 3) := by decide +kernel
theorem dL_does_525 : decode cL_does 525 = .ok (.iconst 0, 1) := by decide +kernel
theorem dL_does_526 : decode cL_does 526 = .ok (.ireturn, 1) := by decide +kernel
theorem dL_does_527 : decode cL_does 527 = .ok (.aload_n 0, 1) := by decide +kernel
theorem dL_does_528 : decode cL_does 528 = .ok (.bipush 6, 2) := by decide +kernel
theorem dL_does_530 : decode cL_does 530 = .ok (.invokevirtual 8, 3) := by decide +kernel
theorem dL_does_533 : decode cL_does 533 = .ok (.sipush 9800, 3) := by decide +kernel
theorem dL_does_536 : decode cL_does 536 = .ok (.if_icmp .gt 18, 3) := by decide +kernel
theorem dL_does_539 : decode cL_does 539 = .ok (.aload_n 0, 1) := by decide +kernel
theorem dL_does_540 : decode cL_does 540 = .ok (.iconst 1, 1) := by decide +kernel
theorem dL_does_541 : decode cL_does 541 = .ok (.iload_n 2, 1) := by decide +kernel
theorem dL_does_542 : decode cL_does 542 = .ok (.bipush 99, 2) := by decide +kernel
theorem dL_does_544 : decode cL_does 544 = .ok (.invokestatic 46, 3) := by decide +kernel
theorem dL_does_547 : decode cL_does 547 = .ok (.iadd, 1) := by decide +kernel
theorem dL_does_548 : decode cL_does 548 = .ok (.invokestatic 75, 3) := by decide +kernel
theorem dL_does_551 : decode cL_does 551 = .ok (.ifCond .eq 7, 3) := by decide +kernel
theorem dL_does_554 : decode cL_does 554 = .ok (.iconst 1, 1) := by decide +kernel
theorem dL_does_555 : decode cL_does 555 = .ok (.goto 4, 3) := by decide +kernel
theorem dL_does_558 : decode cL_does 558 = .ok (.iconst 0, 1) := by decide +kernel
theorem dL_does_559 : decode cL_does 559 = .ok (.ireturn, 1) := by decide +kernel
theorem dL_does_560 : decode cL_does 560 = .ok (.aload_n 0, 1) := by decide +kernel
theorem dL_does_561 : decode cL_does 561 = .ok (.bipush 6, 2) := by decide +kernel
theorem dL_does_563 : decode cL_does 563 = .ok (.invokevirtual 8, 3) := by decide +kernel
theorem dL_does_566 : decode cL_does 566 = .ok (.sipush 9800, 3) := by decide +kernel
theorem dL_does_569 : decode cL_does 569 = .ok (.if_icmp .gt 10, 3) := by decide +kernel
theorem dL_does_572 : decode cL_does 572 = .ok (.aload_n 0, 1) := by decide +kernel
theorem dL_does_573 : decode cL_does 573 = .ok (.invokestatic 78, 3) := by decide +kernel
theorem dL_does_576 : decode cL_does 576 = .ok (.ifCond .eq 7, 3) := by decide +kernel
theorem dL_does_579 : decode cL_does 579 = .ok (.iconst 1, 1) := by decide +kernel
theorem dL_does_580 : decode cL_does 580 = .ok (.goto 4, 3) := by decide +kernel
theorem dL_does_583 : decode cL_does 583 = .ok (.iconst 0, 1) := by decide +kernel
theorem dL_does_584 : decode cL_does 584 = .ok (.ireturn, 1) := by decide +kernel
theorem dL_law_0 : decode cL_law 0 = .ok (.new 9, 3) := by decide +kernel
theorem dL_law_3 : decode cL_law 3 = .ok (.dup, 1) := by decide +kernel
theorem dL_law_4 : decode cL_law 4 = .ok (.invokespecial 82, 3) := by decide +kernel
theorem dL_law_7 : decode cL_law 7 = .ok (.astore_n 1, 1) := by decide +kernel
theorem dL_law_8 : decode cL_law 8 = .ok (.aload_n 1, 1) := by decide +kernel
theorem dL_law_9 : decode cL_law 9 = .ok (.invokestatic 83, 3) := by decide +kernel
theorem dL_law_12 : decode cL_law 12 = .ok (.ifCond .eq 40, 3) := by decide +kernel
theorem dL_law_15 : decode cL_law 15 = .ok (.aload_n 1, 1) := by decide +kernel
theorem dL_law_16 : decode cL_law 16 = .ok (.iconst 0, 1) := by decide +kernel
theorem dL_law_17 : decode cL_law 17 = .ok (.invokevirtual 24, 3) := by decide +kernel
theorem dL_law_20 : decode cL_law 20 = .ok (.bipush (-6), 2) := by decide +kernel
theorem dL_law_22 : decode cL_law 22 = .ok (.if_icmp .ne 30, 3) := by decide +kernel
theorem dL_law_25 : decode cL_law 25 = .ok (.aload_n 1, 1) := by decide +kernel
theorem dL_law_26 : decode cL_law 26 = .ok (.invokevirtual 58, 3) := by decide +kernel
theorem dL_law_29 : decode cL_law 29 = .ok (.bipush (-5), 2) := by decide +kernel
theorem dL_law_31 : decode cL_law 31 = .ok (.if_icmp .ne 21, 3) := by decide +kernel
theorem dL_law_34 : decode cL_law 34 = .ok (.aload_n 1, 1) := by decide +kernel
theorem dL_law_35 : decode cL_law 35 = .ok (.iconst 0, 1) := by decide +kernel
theorem dL_law_36 : decode cL_law 36 = .ok (.invokevirtual 31, 3) := by decide +kernel
theorem dL_law_39 : decode cL_law 39 = .ok (.iconst (-1), 1) := by decide +kernel
theorem dL_law_40 : decode cL_law 40 = .ok (.if_icmp .ne 12, 3) := by decide +kernel
theorem dL_law_43 : decode cL_law 43 = .ok (.aload_n 1, 1) := by decide +kernel
theorem dL_law_44 : decode cL_law 44 = .ok (.invokevirtual 86, 3) := by decide +kernel
theorem dL_law_47 : decode cL_law 47 = .ok (.bipush (-5), 2) := by decide +kernel
theorem dL_law_49 : decode cL_law 49 = .ok (.if_icmp .eq 5, 3) := by decide +kernel
theorem dL_law_52 : decode cL_law 52 = .ok (.iconst 0, 1) := by decide +kernel
theorem dL_law_53 : decode cL_law 53 = .ok (.ireturn, 1) := by decide +kernel
theorem dL_law_54 : decode cL_law 54 = .ok (.iconst 0, 1) := by decide +kernel
theorem dL_law_55 : decode cL_law 55 = .ok (.istore_n 2, 1) := by decide +kernel
theorem dL_law_56 : decode cL_law 56 = .ok (.iload_n 2, 1) := by decide +kernel
theorem dL_law_57 : decode cL_law 57 = .ok (.bipush 100, 2) := by decide +kernel
theorem dL_law_59 : decode cL_law 59 = .ok (.if_icmp .ge 41, 3) := by decide +kernel
theorem dL_law_62 : decode cL_law 62 = .ok (.aload_n 1, 1) := by decide +kernel
theorem dL_law_63 : decode cL_law 63 = .ok (.aload_n 0, 1) := by decide +kernel
theorem dL_law_64 : decode cL_law 64 = .ok (.iconst 2, 1) := by decide +kernel
theorem dL_law_65 : decode cL_law 65 = .ok (.iload_n 2, 1) := by decide +kernel
theorem dL_law_66 : decode cL_law 66 = .ok (.imul, 1) := by decide +kernel
theorem dL_law_67 : decode cL_law 67 = .ok (.invokestatic 89, 3) := by decide +kernel
theorem dL_law_70 : decode cL_law 70 = .ok (.aload_n 0, 1) := by decide +kernel
theorem dL_law_71 : decode cL_law 71 = .ok (.iconst 2, 1) := by decide +kernel
theorem dL_law_72 : decode cL_law 72 = .ok (.iload_n 2, 1) := by decide +kernel
theorem dL_law_73 : decode cL_law 73 = .ok (.imul, 1) := by decide +kernel
theorem dL_law_74 : decode cL_law 74 = .ok (.iconst 1, 1) := by decide +kernel
theorem dL_law_75 : decode cL_law 75 = .ok (.iadd, 1) := by decide +kernel
theorem dL_law_76 : decode cL_law 76 = .ok (.invokestatic 89, 3) := by decide +kernel
theorem dL_law_79 : decode cL_law 79 = .ok (.invokestatic 93, 3) := by decide +kernel
theorem dL_law_82 : decode cL_law 82 = .ok (.ifCond .eq 10, 3) := by decide +kernel
theorem dL_law_85 : decode cL_law 85 = .ok (.aload_n 1, 1) := by decide +kernel
theorem dL_law_86 : decode cL_law 86 = .ok (.invokestatic 83, 3) := by decide +kernel
theorem dL_law_89 : decode cL_law 89 = .ok (.ifCond .ne 5, 3) := by decide +kernel
theorem dL_law_92 : decode cL_law 92 = .ok (.iconst 0, 1) := by decide +kernel
theorem dL_law_93 : decode cL_law 93 = .ok (.ireturn, 1) := by decide +kernel
theorem dL_law_94 : decode cL_law 94 = .ok (.iinc 2 1, 3) := by decide +kernel
theorem dL_law_97 : decode cL_law 97 = .ok (.goto (-41), 3) := by decide +kernel
theorem dL_law_100 : decode cL_law 100 = .ok (.aload_n 1, 1) := by decide +kernel
theorem dL_law_101 : decode cL_law 101 = .ok (.iconst 0, 1) := by decide +kernel
theorem dL_law_102 : decode cL_law 102 = .ok (.iconst 1, 1) := by decide +kernel
theorem dL_law_103 : decode cL_law 103 = .ok (.invokevirtual 51, 3) := by decide +kernel
theorem dL_law_106 : decode cL_law 106 = .ok (.bipush (-2), 2) := by decide +kernel
theorem dL_law_108 : decode cL_law 108 = .ok (.if_icmp .ne 97, 3) := by decide +kernel
theorem dL_law_111 : decode cL_law 111 = .ok (.aload_n 1, 1) := by decide +kernel
theorem dL_law_112 : decode cL_law 112 = .ok (.iconst 1, 1) := by decide +kernel
theorem dL_law_113 : decode cL_law 113 = .ok (.bipush 101, 2) := by decide +kernel
theorem dL_law_115 : decode cL_law 115 = .ok (.invokevirtual 51, 3) := by decide +kernel
theorem dL_law_118 : decode cL_law 118 = .ok (.bipush (-2), 2) := by decide +kernel
theorem dL_law_120 : decode cL_law 120 = .ok (.if_icmp .ne 85, 3) := by decide +kernel
theorem dL_law_123 : decode cL_law 123 = .ok (.aload_n 1, 1) := by decide +kernel
theorem dL_law_124 : decode cL_law 124 = .ok (.iconst 0, 1) := by decide +kernel
theorem dL_law_125 : decode cL_law 125 = .ok (.invokevirtual 65, 3) := by decide +kernel
theorem dL_law_128 : decode cL_law 128 = .ok (.bipush (-2), 2) := by decide +kernel
theorem dL_law_130 : decode cL_law 130 = .ok (.if_icmp .ne 75, 3) := by decide +kernel
theorem dL_law_133 : decode cL_law 133 = .ok (.aload_n 1, 1) := by decide +kernel
theorem dL_law_134 : decode cL_law 134 = .ok (.bipush 100, 2) := by decide +kernel
theorem dL_law_136 : decode cL_law 136 = .ok (.invokevirtual 18, 3) := by decide +kernel
theorem dL_law_139 : decode cL_law 139 = .ok (.bipush (-2), 2) := by decide +kernel
theorem dL_law_141 : decode cL_law 141 = .ok (.if_icmp .ne 64, 3) := by decide +kernel
theorem dL_law_144 : decode cL_law 144 = .ok (.aload_n 1, 1) := by decide +kernel
theorem dL_law_145 : decode cL_law 145 = .ok (.iconst 3, 1) := by decide +kernel
theorem dL_law_146 : decode cL_law 146 = .ok (.iconst 4, 1) := by decide +kernel
theorem dL_law_147 : decode cL_law 147 = .ok (.invokevirtual 69, 3) := by decide +kernel
theorem dL_law_150 : decode cL_law 150 = .ok (.bipush (-2), 2) := by decide +kernel
theorem dL_law_152 : decode cL_law 152 = .ok (.if_icmp .ne 53, 3) := by decide +kernel
theorem dL_law_155 : decode cL_law 155 = .ok (.aload_n 1, 1) := by decide +kernel
theorem dL_law_156 : decode cL_law 156 = .ok (.bipush 6, 2) := by decide +kernel
theorem dL_law_158 : decode cL_law 158 = .ok (.iconst 0, 1) := by decide +kernel
theorem dL_law_159 : decode cL_law 159 = .ok (.invokevirtual 69, 3) := by decide +kernel
theorem dL_law_162 : decode cL_law 162 = .ok (.bipush (-2), 2) := by decide +kernel
theorem dL_law_164 : decode cL_law 164 = .ok (.if_icmp .ne 41, 3) := by decide +kernel
theorem dL_law_167 : decode cL_law 167 = .ok (.aload_n 1, 1) := by decide +kernel
theorem dL_law_168 : decode cL_law 168 = .ok (.sipush 501, 3) := by decide +kernel
theorem dL_law_171 : decode cL_law 171 = .ok (.iconst 0, 1) := by decide +kernel
theorem dL_law_172 : decode cL_law 172 = .ok (.invokevirtual 21, 3) := by decide +kernel
theorem dL_law_175 : decode cL_law 175 = .ok (.bipush (-2), 2) := by decide +kernel
theorem dL_law_177 : decode cL_law 177 = .ok (.if_icmp .ne 28, 3) := by decide +kernel
theorem dL_law_180 : decode cL_law 180 = .ok (.aload_n 1, 1) := by decide +kernel
theorem dL_law_181 : decode cL_law 181 = .ok (.iconst 2, 1) := by decide +kernel
theorem dL_law_182 : decode cL_law 182 = .ok (.invokevirtual 24, 3) := by decide +kernel
theorem dL_law_185 : decode cL_law 185 = .ok (.bipush (-2), 2) := by decide +kernel
theorem dL_law_187 : decode cL_law 187 = .ok (.if_icmp .ne 18, 3) := by decide +kernel
theorem dL_law_190 : decode cL_law 190 = .ok (.aload_n 1, 1) := by decide +kernel
theorem dL_law_191 : decode cL_law 191 = .ok (.bipush 21, 2) := by decide +kernel
theorem dL_law_193 : decode cL_law 193 = .ok (.invokevirtual 8, 3) := by decide +kernel
theorem dL_law_196 : decode cL_law 196 = .ok (.bipush (-2), 2) := by decide +kernel
theorem dL_law_198 : decode cL_law 198 = .ok (.if_icmp .ne 7, 3) := by decide +kernel
theorem dL_law_201 : decode cL_law 201 = .ok (.iconst 1, 1) := by decide +kernel
theorem dL_law_202 : decode cL_law 202 = .ok (.goto 4, 3) := by decide +kernel
theorem dL_law_205 : decode cL_law 205 = .ok (.iconst 0, 1) := by decide +kernel
theorem dL_law_206 : decode cL_law 206 = .ok (.ireturn, 1) := by decide +kernel
theorem dJ6_compare_7cf53_0 : decode cJ6_compare_7cf53 0 = .ok (.iload_n 0, 1) := by decide +kernel
theorem dJ6_compare_7cf53_1 : decode cJ6_compare_7cf53 1 = .ok (.iload_n 1, 1) := by decide +kernel
theorem dJ6_compare_7cf53_2 : decode cJ6_compare_7cf53 2 = .ok (.if_icmp .ge 7, 3) := by decide +kernel
theorem dJ6_compare_7cf53_5 : decode cJ6_compare_7cf53 5 = .ok (.iconst (-1), 1) := by decide +kernel
theorem dJ6_compare_7cf53_6 : decode cJ6_compare_7cf53 6 = .ok (.goto 13, 3) := by decide +kernel
theorem dJ6_compare_7cf53_9 : decode cJ6_compare_7cf53 9 = .ok (.iload_n 0, 1) := by decide +kernel
theorem dJ6_compare_7cf53_10 : decode cJ6_compare_7cf53 10 = .ok (.iload_n 1, 1) := by decide +kernel
theorem dJ6_compare_7cf53_11 : decode cJ6_compare_7cf53 11 = .ok (.if_icmp .ne 7, 3) := by decide +kernel
theorem dJ6_compare_7cf53_14 : decode cJ6_compare_7cf53 14 = .ok (.iconst 0, 1) := by decide +kernel
theorem dJ6_compare_7cf53_15 : decode cJ6_compare_7cf53 15 = .ok (.goto 4, 3) := by decide +kernel
theorem dJ6_compare_7cf53_18 : decode cJ6_compare_7cf53 18 = .ok (.iconst 1, 1) := by decide +kernel
theorem dJ6_compare_7cf53_19 : decode cJ6_compare_7cf53 19 = .ok (.ireturn, 1) := by decide +kernel
theorem dJ9_abs_0f7a4_0 : decode cJ9_abs_0f7a4 0 = .ok (.iload_n 0, 1) := by decide +kernel
theorem dJ9_abs_0f7a4_1 : decode cJ9_abs_0f7a4 1 = .ok (.ifCond .ge 8, 3) := by decide +kernel
theorem dJ9_abs_0f7a4_4 : decode cJ9_abs_0f7a4 4 = .ok (.iload_n 0, 1) := by decide +kernel
theorem dJ9_abs_0f7a4_5 : decode cJ9_abs_0f7a4 5 = .ok (.ineg, 1) := by decide +kernel
theorem dJ9_abs_0f7a4_6 : decode cJ9_abs_0f7a4 6 = .ok (.goto 4, 3) := by decide +kernel
theorem dJ9_abs_0f7a4_9 : decode cJ9_abs_0f7a4 9 = .ok (.iload_n 0, 1) := by decide +kernel
theorem dJ9_abs_0f7a4_10 : decode cJ9_abs_0f7a4 10 = .ok (.ireturn, 1) := by decide +kernel
theorem dJ9_max_7cf53_0 : decode cJ9_max_7cf53 0 = .ok (.iload_n 0, 1) := by decide +kernel
theorem dJ9_max_7cf53_1 : decode cJ9_max_7cf53 1 = .ok (.iload_n 1, 1) := by decide +kernel
theorem dJ9_max_7cf53_2 : decode cJ9_max_7cf53 2 = .ok (.if_icmp .lt 7, 3) := by decide +kernel
theorem dJ9_max_7cf53_5 : decode cJ9_max_7cf53 5 = .ok (.iload_n 0, 1) := by decide +kernel
theorem dJ9_max_7cf53_6 : decode cJ9_max_7cf53 6 = .ok (.goto 4, 3) := by decide +kernel
theorem dJ9_max_7cf53_9 : decode cJ9_max_7cf53 9 = .ok (.iload_n 1, 1) := by decide +kernel
theorem dJ9_max_7cf53_10 : decode cJ9_max_7cf53 10 = .ok (.ireturn, 1) := by decide +kernel
theorem dJ9_min_7cf53_0 : decode cJ9_min_7cf53 0 = .ok (.iload_n 0, 1) := by decide +kernel
theorem dJ9_min_7cf53_1 : decode cJ9_min_7cf53 1 = .ok (.iload_n 1, 1) := by decide +kernel
theorem dJ9_min_7cf53_2 : decode cJ9_min_7cf53 2 = .ok (.if_icmp .gt 7, 3) := by decide +kernel
theorem dJ9_min_7cf53_5 : decode cJ9_min_7cf53 5 = .ok (.iload_n 0, 1) := by decide +kernel
theorem dJ9_min_7cf53_6 : decode cJ9_min_7cf53 6 = .ok (.goto 4, 3) := by decide +kernel
theorem dJ9_min_7cf53_9 : decode cJ9_min_7cf53 9 = .ok (.iload_n 1, 1) := by decide +kernel
theorem dJ9_min_7cf53_10 : decode cJ9_min_7cf53 10 = .ok (.ireturn, 1) := by decide +kernel
