theorem dX12_byteAt_0 : decode cX12_byteAt 0 = .ok (.iload_n 1, 1) := by decide +kernel
theorem dX12_byteAt_1 : decode cX12_byteAt 1 = .ok (.aload_n 0, 1) := by decide +kernel
theorem dX12_byteAt_2 : decode cX12_byteAt 2 = .ok (.getfield 79, 3) := by decide +kernel
theorem dX12_byteAt_5 : decode cX12_byteAt 5 = .ok (.if_icmp .ge 12, 3) := by decide +kernel
theorem dX12_byteAt_8 : decode cX12_byteAt 8 = .ok (.aload_n 0, 1) := by decide +kernel
theorem dX12_byteAt_9 : decode cX12_byteAt 9 = .ok (.getfield 19, 3) := by decide +kernel
theorem dX12_byteAt_12 : decode cX12_byteAt 12 = .ok (.iload_n 1, 1) := by decide +kernel
theorem dX12_byteAt_13 : decode cX12_byteAt 13 = .ok (.iaload, 1) := by decide +kernel
theorem dX12_byteAt_14 : decode cX12_byteAt 14 = .ok (.goto 4, 3) := by decide +kernel
theorem dX12_byteAt_17 : decode cX12_byteAt 17 = .ok (.iconst (-1), 1) := by decide +kernel
theorem dX12_byteAt_18 : decode cX12_byteAt 18 = .ok (.ireturn, 1) := by decide +kernel
theorem dX12_isLetter_0 : decode cX12_isLetter 0 = .ok (.iload_n 0, 1) := by decide +kernel
theorem dX12_isLetter_1 : decode cX12_isLetter 1 = .ok (.bipush 97, 2) := by decide +kernel
theorem dX12_isLetter_3 : decode cX12_isLetter 3 = .ok (.bipush 122, 2) := by decide +kernel
theorem dX12_isLetter_5 : decode cX12_isLetter 5 = .ok (.invokestatic 71, 3) := by decide +kernel
theorem dX12_isLetter_8 : decode cX12_isLetter 8 = .ok (.ifCond .ne 14, 3) := by decide +kernel
theorem dX12_isLetter_11 : decode cX12_isLetter 11 = .ok (.iload_n 0, 1) := by decide +kernel
theorem dX12_isLetter_12 : decode cX12_isLetter 12 = .ok (.bipush 65, 2) := by decide +kernel
theorem dX12_isLetter_14 : decode cX12_isLetter 14 = .ok (.bipush 90, 2) := by decide +kernel
theorem dX12_isLetter_16 : decode cX12_isLetter 16 = .ok (.invokestatic 71, 3) := by decide +kernel
theorem dX12_isLetter_19 : decode cX12_isLetter 19 = .ok (.ifCond .eq 7, 3) := by decide +kernel
theorem dX12_isLetter_22 : decode cX12_isLetter 22 = .ok (.iconst 1, 1) := by decide +kernel
theorem dX12_isLetter_23 : decode cX12_isLetter 23 = .ok (.goto 4, 3) := by decide +kernel
theorem dX12_isLetter_26 : decode cX12_isLetter 26 = .ok (.iconst 0, 1) := by decide +kernel
theorem dX12_isLetter_27 : decode cX12_isLetter 27 = .ok (.ireturn, 1) := by decide +kernel
theorem dX12_isDigit_0 : decode cX12_isDigit 0 = .ok (.iload_n 0, 1) := by decide +kernel
theorem dX12_isDigit_1 : decode cX12_isDigit 1 = .ok (.bipush 48, 2) := by decide +kernel
theorem dX12_isDigit_3 : decode cX12_isDigit 3 = .ok (.bipush 57, 2) := by decide +kernel
theorem dX12_isDigit_5 : decode cX12_isDigit 5 = .ok (.invokestatic 71, 3) := by decide +kernel
theorem dX12_isDigit_8 : decode cX12_isDigit 8 = .ok (.ireturn, 1) := by decide +kernel
theorem dX12_nextToken_0 : decode cX12_nextToken 0 = .ok (.aload_n 0, 1) := by decide +kernel
theorem dX12_nextToken_1 : decode cX12_nextToken 1 = .ok (.aload_n 0, 1) := by decide +kernel
theorem dX12_nextToken_2 : decode cX12_nextToken 2 = .ok (.getfield 86, 3) := by decide +kernel
theorem dX12_nextToken_5 : decode cX12_nextToken 5 = .ok (.invokevirtual 89, 3) := by decide +kernel
theorem dX12_nextToken_8 : decode cX12_nextToken 8 = .ok (.bipush 32, 2) := by decide +kernel
theorem dX12_nextToken_10 : decode cX12_nextToken 10 = .ok (.if_icmp .eq 16, 3) := by decide +kernel
theorem dX12_nextToken_13 : decode cX12_nextToken 13 = .ok (.aload_n 0, 1) := by decide +kernel
theorem dX12_nextToken_14 : decode cX12_nextToken 14 = .ok (.aload_n 0, 1) := by decide +kernel
theorem dX12_nextToken_15 : decode cX12_nextToken 15 = .ok (.getfield 86, 3) := by decide +kernel
theorem dX12_nextToken_18 : decode cX12_nextToken 18 = .ok (.invokevirtual 89, 3) := by decide +kernel
theorem dX12_nextToken_21 : decode cX12_nextToken 21 = .ok (.bipush 10, 2) := by decide +kernel
theorem dX12_nextToken_23 : decode cX12_nextToken 23 = .ok (.if_icmp .ne 16, 3) := by decide +kernel
theorem dX12_nextToken_26 : decode cX12_nextToken 26 = .ok (.aload_n 0, 1) := by decide +kernel
theorem dX12_nextToken_27 : decode cX12_nextToken 27 = .ok (.dup, 1) := by decide +kernel
theorem dX12_nextToken_28 : decode cX12_nextToken 28 = .ok (.getfield 86, 3) := by decide +kernel
theorem dX12_nextToken_31 : decode cX12_nextToken 31 = .ok (.iconst 1, 1) := by decide +kernel
theorem dX12_nextToken_32 : decode cX12_nextToken 32 = .ok (.iadd, 1) := by decide +kernel
theorem dX12_nextToken_33 : decode cX12_nextToken 33 = .ok (.putfield 86, 3) := by decide +kernel
theorem dX12_nextToken_36 : decode cX12_nextToken 36 = .ok (.goto (-36), 3) := by decide +kernel
theorem dX12_nextToken_39 : decode cX12_nextToken 39 = .ok (.aload_n 0, 1) := by decide +kernel
theorem dX12_nextToken_40 : decode cX12_nextToken 40 = .ok (.aload_n 0, 1) := by decide +kernel
theorem dX12_nextToken_41 : decode cX12_nextToken 41 = .ok (.getfield 86, 3) := by decide +kernel
theorem dX12_nextToken_44 : decode cX12_nextToken 44 = .ok (.putfield 93, 3) := by decide +kernel
theorem dX12_nextToken_47 : decode cX12_nextToken 47 = .ok (.aload_n 0, 1) := by decide +kernel
theorem dX12_nextToken_48 : decode cX12_nextToken 48 = .ok (.aload_n 0, 1) := by decide +kernel
theorem dX12_nextToken_49 : decode cX12_nextToken 49 = .ok (.getfield 86, 3) := by decide +kernel
theorem dX12_nextToken_52 : decode cX12_nextToken 52 = .ok (.invokevirtual 89, 3) := by decide +kernel
theorem dX12_nextToken_55 : decode cX12_nextToken 55 = .ok (.istore_n 1, 1) := by decide +kernel
theorem dX12_nextToken_56 : decode cX12_nextToken 56 = .ok (.iload_n 1, 1) := by decide +kernel
theorem dX12_nextToken_57 : decode cX12_nextToken 57 = .ok (.ifCond .ge 11, 3) := by decide +kernel
theorem dX12_nextToken_60 : decode cX12_nextToken 60 = .ok (.aload_n 0, 1) := by decide +kernel
theorem dX12_nextToken_61 : decode cX12_nextToken 61 = .ok (.iconst 0, 1) := by decide +kernel
theorem dX12_nextToken_62 : decode cX12_nextToken 62 = .ok (.putfield 96, 3) := by decide +kernel
theorem dX12_nextToken_65 : decode cX12_nextToken 65 = .ok (.goto 343, 3) := by decide +kernel
theorem dX12_nextToken_68 : decode cX12_nextToken 68 = .ok (.iload_n 1, 1) := by decide +kernel
theorem dX12_nextToken_69 : decode cX12_nextToken 69 = .ok (.invokestatic 99, 3) := by decide +kernel
theorem dX12_nextToken_72 : decode cX12_nextToken 72 = .ok (.ifCond .eq 72, 3) := by decide +kernel
theorem dX12_nextToken_75 : decode cX12_nextToken 75 = .ok (.aload_n 0, 1) := by decide +kernel
theorem dX12_nextToken_76 : decode cX12_nextToken 76 = .ok (.iconst 1, 1) := by decide +kernel
theorem dX12_nextToken_77 : decode cX12_nextToken 77 = .ok (.putfield 96, 3) := by decide +kernel
theorem dX12_nextToken_80 : decode cX12_nextToken 80 = .ok (.aload_n 0, 1) := by decide +kernel
theorem dX12_nextToken_81 : decode cX12_nextToken 81 = .ok (.iconst 0, 1) := by decide +kernel
theorem dX12_nextToken_82 : decode cX12_nextToken 82 = .ok (.putfield 102, 3) := by decide +kernel
theorem dX12_nextToken_85 : decode cX12_nextToken 85 = .ok (.aload_n 0, 1) := by decide +kernel
theorem dX12_nextToken_86 : decode cX12_nextToken 86 = .ok (.aload_n 0, 1) := by decide +kernel
theorem dX12_nextToken_87 : decode cX12_nextToken 87 = .ok (.getfield 86, 3) := by decide +kernel
theorem dX12_nextToken_90 : decode cX12_nextToken 90 = .ok (.invokevirtual 89, 3) := by decide +kernel
theorem dX12_nextToken_93 : decode cX12_nextToken 93 = .ok (.invokestatic 99, 3) := by decide +kernel
theorem dX12_nextToken_96 : decode cX12_nextToken 96 = .ok (.ifCond .eq 312, 3) := by decide +kernel
theorem dX12_nextToken_99 : decode cX12_nextToken 99 = .ok (.aload_n 0, 1) := by decide +kernel
theorem dX12_nextToken_100 : decode cX12_nextToken 100 = .ok (.getfield 102, 3) := by decide +kernel
theorem dX12_nextToken_103 : decode cX12_nextToken 103 = .ok (.ldc 105, 2) := by decide +kernel
theorem dX12_nextToken_105 : decode cX12_nextToken 105 = .ok (.if_icmp .ge 26, 3) := by decide +kernel
theorem dX12_nextToken_108 : decode cX12_nextToken 108 = .ok (.aload_n 0, 1) := by decide +kernel
theorem dX12_nextToken_109 : decode cX12_nextToken 109 = .ok (.bipush 10, 2) := by decide +kernel
theorem dX12_nextToken_111 : decode cX12_nextToken 111 = .ok (.aload_n 0, 1) := by decide +kernel
theorem dX12_nextToken_112 : decode cX12_nextToken 112 = .ok (.getfield 102, 3) := by decide +kernel
theorem dX12_nextToken_115 : decode cX12_nextToken 115 = .ok (.imul, 1) := by decide +kernel
theorem dX12_nextToken_116 : decode cX12_nextToken 116 = .ok (.aload_n 0, 1) := by decide +kernel
theorem dX12_nextToken_117 : decode cX12_nextToken 117 = .ok (.aload_n 0, 1) := by decide +kernel
theorem dX12_nextToken_118 : decode cX12_nextToken 118 = .ok (.getfield 86, 3) := by decide +kernel
theorem dX12_nextToken_121 : decode cX12_nextToken 121 = .ok (.invokevirtual 89, 3) := by decide +kernel
theorem dX12_nextToken_124 : decode cX12_nextToken 124 = .ok (.iadd, 1) := by decide +kernel
theorem dX12_nextToken_125 : decode cX12_nextToken 125 = .ok (.bipush 48, 2) := by decide +kernel
theorem dX12_nextToken_127 : decode cX12_nextToken 127 = .ok (.isub, 1) := by decide +kernel
theorem dX12_nextToken_128 : decode cX12_nextToken 128 = .ok (.putfield 102, 3) := by decide +kernel
theorem dX12_nextToken_131 : decode cX12_nextToken 131 = .ok (.aload_n 0, 1) := by decide +kernel
theorem dX12_nextToken_132 : decode cX12_nextToken 132 = .ok (.dup, 1) := by decide +kernel
theorem dX12_nextToken_133 : decode cX12_nextToken 133 = .ok (.getfield 86, 3) := by decide +kernel
theorem dX12_nextToken_136 : decode cX12_nextToken 136 = .ok (.iconst 1, 1) := by decide +kernel
theorem dX12_nextToken_137 : decode cX12_nextToken 137 = .ok (.iadd, 1) := by decide +kernel
theorem dX12_nextToken_138 : decode cX12_nextToken 138 = .ok (.putfield 86, 3) := by decide +kernel
theorem dX12_nextToken_141 : decode cX12_nextToken 141 = .ok (.goto (-56), 3) := by decide +kernel
theorem dX12_nextToken_144 : decode cX12_nextToken 144 = .ok (.iload_n 1, 1) := by decide +kernel
theorem dX12_nextToken_145 : decode cX12_nextToken 145 = .ok (.invokestatic 106, 3) := by decide +kernel
theorem dX12_nextToken_148 : decode cX12_nextToken 148 = .ok (.ifCond .eq 97, 3) := by decide +kernel
theorem dX12_nextToken_151 : decode cX12_nextToken 151 = .ok (.aload_n 0, 1) := by decide +kernel
theorem dX12_nextToken_152 : decode cX12_nextToken 152 = .ok (.iconst 2, 1) := by decide +kernel
theorem dX12_nextToken_153 : decode cX12_nextToken 153 = .ok (.putfield 96, 3) := by decide +kernel
theorem dX12_nextToken_156 : decode cX12_nextToken 156 = .ok (.aload_n 0, 1) := by decide +kernel
theorem dX12_nextToken_157 : decode cX12_nextToken 157 = .ok (.lconst 0, 1) := by decide +kernel
theorem dX12_nextToken_158 : decode cX12_nextToken 158 = .ok (.putfield 109, 3) := by decide +kernel
theorem dX12_nextToken_161 : decode cX12_nextToken 161 = .ok (.aload_n 0, 1) := by decide +kernel
theorem dX12_nextToken_162 : decode cX12_nextToken 162 = .ok (.aload_n 0, 1) := by decide +kernel
theorem dX12_nextToken_163 : decode cX12_nextToken 163 = .ok (.getfield 86, 3) := by decide +kernel
theorem dX12_nextToken_166 : decode cX12_nextToken 166 = .ok (.invokevirtual 89, 3) := by decide +kernel
theorem dX12_nextToken_169 : decode cX12_nextToken 169 = .ok (.invokestatic 106, 3) := by decide +kernel
theorem dX12_nextToken_172 : decode cX12_nextToken 172 = .ok (.ifCond .eq 51, 3) := by decide +kernel
theorem dX12_nextToken_175 : decode cX12_nextToken 175 = .ok (.aload_n 0, 1) := by decide +kernel
theorem dX12_nextToken_176 : decode cX12_nextToken 176 = .ok (.getfield 86, 3) := by decide +kernel
theorem dX12_nextToken_179 : decode cX12_nextToken 179 = .ok (.aload_n 0, 1) := by decide +kernel
theorem dX12_nextToken_180 : decode cX12_nextToken 180 = .ok (.getfield 93, 3) := by decide +kernel
theorem dX12_nextToken_183 : decode cX12_nextToken 183 = .ok (.isub, 1) := by decide +kernel
theorem dX12_nextToken_184 : decode cX12_nextToken 184 = .ok (.bipush 7, 2) := by decide +kernel
theorem dX12_nextToken_186 : decode cX12_nextToken 186 = .ok (.if_icmp .ge 24, 3) := by decide +kernel
theorem dX12_nextToken_189 : decode cX12_nextToken 189 = .ok (.aload_n 0, 1) := by decide +kernel
theorem dX12_nextToken_190 : decode cX12_nextToken 190 = .ok (.aload_n 0, 1) := by decide +kernel
theorem dX12_nextToken_191 : decode cX12_nextToken 191 = .ok (.getfield 109, 3) := by decide +kernel
theorem dX12_nextToken_194 : decode cX12_nextToken 194 = .ok (.bipush 8, 2) := by decide +kernel
theorem dX12_nextToken_196 : decode cX12_nextToken 196 = .ok (.lshl, 1) := by decide +kernel
theorem dX12_nextToken_197 : decode cX12_nextToken 197 = .ok (.aload_n 0, 1) := by decide +kernel
theorem dX12_nextToken_198 : decode cX12_nextToken 198 = .ok (.aload_n 0, 1) := by decide +kernel
theorem dX12_nextToken_199 : decode cX12_nextToken 199 = .ok (.getfield 86, 3) := by decide +kernel
theorem dX12_nextToken_202 : decode cX12_nextToken 202 = .ok (.invokevirtual 89, 3) := by decide +kernel
theorem dX12_nextToken_205 : decode cX12_nextToken 205 = .ok (.i2l, 1) := by decide +kernel
theorem dX12_nextToken_206 : decode cX12_nextToken 206 = .ok (.lor, 1) := by decide +kernel
theorem dX12_nextToken_207 : decode cX12_nextToken 207 = .ok (.putfield 109, 3) := by decide +kernel
theorem dX12_nextToken_210 : decode cX12_nextToken 210 = .ok (.aload_n 0, 1) := by decide +kernel
theorem dX12_nextToken_211 : decode cX12_nextToken 211 = .ok (.dup, 1) := by decide +kernel
theorem dX12_nextToken_212 : decode cX12_nextToken 212 = .ok (.getfield 86, 3) := by decide +kernel
theorem dX12_nextToken_215 : decode cX12_nextToken 215 = .ok (.iconst 1, 1) := by decide +kernel
theorem dX12_nextToken_216 : decode cX12_nextToken 216 = .ok (.iadd, 1) := by decide +kernel
theorem dX12_nextToken_217 : decode cX12_nextToken 217 = .ok (.putfield 86, 3) := by decide +kernel
theorem dX12_nextToken_220 : decode cX12_nextToken 220 = .ok (.goto (-59), 3) := by decide +kernel
theorem dX12_nextToken_223 : decode cX12_nextToken 223 = .ok (.aload_n 0, 1) := by decide +kernel
theorem dX12_nextToken_224 : decode cX12_nextToken 224 = .ok (.getfield 86, 3) := by decide +kernel
theorem dX12_nextToken_227 : decode cX12_nextToken 227 = .ok (.aload_n 0, 1) := by decide +kernel
theorem dX12_nextToken_228 : decode cX12_nextToken 228 = .ok (.getfield 93, 3) := by decide +kernel
theorem dX12_nextToken_231 : decode cX12_nextToken 231 = .ok (.isub, 1) := by decide +kernel
theorem dX12_nextToken_232 : decode cX12_nextToken 232 = .ok (.bipush 7, 2) := by decide +kernel
theorem dX12_nextToken_234 : decode cX12_nextToken 234 = .ok (.if_icmp .le 174, 3) := by decide +kernel
theorem dX12_nextToken_237 : decode cX12_nextToken 237 = .ok (.aload_n 0, 1) := by decide +kernel
theorem dX12_nextToken_238 : decode cX12_nextToken 238 = .ok (.lconst 0, 1) := by decide +kernel
theorem dX12_nextToken_239 : decode cX12_nextToken 239 = .ok (.putfield 109, 3) := by decide +kernel
theorem dX12_nextToken_242 : decode cX12_nextToken 242 = .ok (.goto 166, 3) := by decide +kernel
theorem dX12_nextToken_245 : decode cX12_nextToken 245 = .ok (.aload_n 0, 1) := by decide +kernel
theorem dX12_nextToken_246 : decode cX12_nextToken 246 = .ok (.dup, 1) := by decide +kernel
theorem dX12_nextToken_247 : decode cX12_nextToken 247 = .ok (.getfield 86, 3) := by decide +kernel
theorem dX12_nextToken_250 : decode cX12_nextToken 250 = .ok (.iconst 1, 1) := by decide +kernel
theorem dX12_nextToken_251 : decode cX12_nextToken 251 = .ok (.iadd, 1) := by decide +kernel
theorem dX12_nextToken_252 : decode cX12_nextToken 252 = .ok (.putfield 86, 3) := by decide +kernel
theorem dX12_nextToken_255 : decode cX12_nextToken 255 = .ok (.iload_n 1, 1) := by decide +kernel
theorem dX12_nextToken_256 : decode cX12_nextToken 256 = .ok (.bipush 60, 2) := by decide +kernel
theorem dX12_nextToken_258 : decode cX12_nextToken 258 = .ok (.if_icmp .eq 81, 3) := by decide +kernel
theorem dX12_nextToken_261 : decode cX12_nextToken 261 = .ok (.iload_n 1, 1) := by decide +kernel
theorem dX12_nextToken_262 : decode cX12_nextToken 262 = .ok (.bipush 62, 2) := by decide +kernel
theorem dX12_nextToken_264 : decode cX12_nextToken 264 = .ok (.if_icmp .eq 75, 3) := by decide +kernel
theorem dX12_nextToken_267 : decode cX12_nextToken 267 = .ok (.iload_n 1, 1) := by decide +kernel
theorem dX12_nextToken_268 : decode cX12_nextToken 268 = .ok (.bipush 61, 2) := by decide +kernel
theorem dX12_nextToken_270 : decode cX12_nextToken 270 = .ok (.if_icmp .eq 69, 3) := by decide +kernel
theorem dX12_nextToken_273 : decode cX12_nextToken 273 = .ok (.iload_n 1, 1) := by decide +kernel
theorem dX12_nextToken_274 : decode cX12_nextToken 274 = .ok (.bipush 35, 2) := by decide +kernel
theorem dX12_nextToken_276 : decode cX12_nextToken 276 = .ok (.if_icmp .eq 63, 3) := by decide +kernel
theorem dX12_nextToken_279 : decode cX12_nextToken 279 = .ok (.iload_n 1, 1) := by decide +kernel
theorem dX12_nextToken_280 : decode cX12_nextToken 280 = .ok (.bipush 43, 2) := by decide +kernel
theorem dX12_nextToken_282 : decode cX12_nextToken 282 = .ok (.if_icmp .eq 57, 3) := by decide +kernel
theorem dX12_nextToken_285 : decode cX12_nextToken 285 = .ok (.iload_n 1, 1) := by decide +kernel
theorem dX12_nextToken_286 : decode cX12_nextToken 286 = .ok (.bipush 45, 2) := by decide +kernel
theorem dX12_nextToken_288 : decode cX12_nextToken 288 = .ok (.if_icmp .eq 51, 3) := by decide +kernel
theorem dX12_nextToken_291 : decode cX12_nextToken 291 = .ok (.iload_n 1, 1) := by decide +kernel
theorem dX12_nextToken_292 : decode cX12_nextToken 292 = .ok (.bipush 42, 2) := by decide +kernel
theorem dX12_nextToken_294 : decode cX12_nextToken 294 = .ok (.if_icmp .eq 45, 3) := by decide +kernel
theorem dX12_nextToken_297 : decode cX12_nextToken 297 = .ok (.iload_n 1, 1) := by decide +kernel
theorem dX12_nextToken_298 : decode cX12_nextToken 298 = .ok (.bipush 47, 2) := by decide +kernel
theorem dX12_nextToken_300 : decode cX12_nextToken 300 = .ok (.if_icmp .eq 39, 3) := by decide +kernel
theorem dX12_nextToken_303 : decode cX12_nextToken 303 = .ok (.iload_n 1, 1) := by decide +kernel
theorem dX12_nextToken_304 : decode cX12_nextToken 304 = .ok (.bipush 40, 2) := by decide +kernel
theorem dX12_nextToken_306 : decode cX12_nextToken 306 = .ok (.if_icmp .eq 33, 3) := by decide +kernel
theorem dX12_nextToken_309 : decode cX12_nextToken 309 = .ok (.iload_n 1, 1) := by decide +kernel
theorem dX12_nextToken_310 : decode cX12_nextToken 310 = .ok (.bipush 41, 2) := by decide +kernel
theorem dX12_nextToken_312 : decode cX12_nextToken 312 = .ok (.if_icmp .eq 27, 3) := by decide +kernel
theorem dX12_nextToken_315 : decode cX12_nextToken 315 = .ok (.iload_n 1, 1) := by decide +kernel
theorem dX12_nextToken_316 : decode cX12_nextToken 316 = .ok (.bipush 59, 2) := by decide +kernel
theorem dX12_nextToken_318 : decode cX12_nextToken 318 = .ok (.if_icmp .eq 21, 3) := by decide +kernel
theorem dX12_nextToken_321 : decode cX12_nextToken 321 = .ok (.iload_n 1, 1) := by decide +kernel
theorem dX12_nextToken_322 : decode cX12_nextToken 322 = .ok (.bipush 44, 2) := by decide +kernel
theorem dX12_nextToken_324 : decode cX12_nextToken 324 = .ok (.if_icmp .eq 15, 3) := by decide +kernel
theorem dX12_nextToken_327 : decode cX12_nextToken 327 = .ok (.iload_n 1, 1) := by decide +kernel
theorem dX12_nextToken_328 : decode cX12_nextToken 328 = .ok (.bipush 63, 2) := by decide +kernel
theorem dX12_nextToken_330 : decode cX12_nextToken 330 = .ok (.if_icmp .eq 9, 3) := by decide +kernel
theorem dX12_nextToken_333 : decode cX12_nextToken 333 = .ok (.iload_n 1, 1) := by decide +kernel
theorem dX12_nextToken_334 : decode cX12_nextToken 334 = .ok (.bipush 58, 2) := by decide +kernel
theorem dX12_nextToken_336 : decode cX12_nextToken 336 = .ok (.if_icmp .ne 7, 3) := by decide +kernel
theorem dX12_nextToken_339 : decode cX12_nextToken 339 = .ok (.iconst 1, 1) := by decide +kernel
theorem dX12_nextToken_340 : decode cX12_nextToken 340 = .ok (.goto 4, 3) := by decide +kernel
theorem dX12_nextToken_343 : decode cX12_nextToken 343 = .ok (.iconst 0, 1) := by decide +kernel
theorem dX12_nextToken_344 : decode cX12_nextToken 344 = .ok (.istore_n 2, 1) := by decide +kernel
theorem dX12_nextToken_345 : decode cX12_nextToken 345 = .ok (.aload_n 0, 1) := by decide +kernel
theorem dX12_nextToken_346 : decode cX12_nextToken 346 = .ok (.iload_n 2, 1) := by decide +kernel
theorem dX12_nextToken_347 : decode cX12_nextToken 347 = .ok (.ifCond .eq 7, 3) := by decide +kernel
theorem dX12_nextToken_350 : decode cX12_nextToken 350 = .ok (.iload_n 1, 1) := by decide +kernel
theorem dX12_nextToken_351 : decode cX12_nextToken 351 = .ok (.goto 4, 3) := by decide +kernel
theorem dX12_nextToken_354 : decode cX12_nextToken 354 = .ok (.iconst 3, 1) := by decide +kernel
theorem dX12_nextToken_355 : decode cX12_nextToken 355 = .ok (.putfield 96, 3) := by decide +kernel
theorem dX12_nextToken_358 : decode cX12_nextToken 358 = .ok (.iload_n 1, 1) := by decide +kernel
theorem dX12_nextToken_359 : decode cX12_nextToken 359 = .ok (.bipush 60, 2) := by decide +kernel
theorem dX12_nextToken_361 : decode cX12_nextToken 361 = .ok (.if_icmp .eq 9, 3) := by decide +kernel
theorem dX12_nextToken_364 : decode cX12_nextToken 364 = .ok (.iload_n 1, 1) := by decide +kernel
theorem dX12_nextToken_365 : decode cX12_nextToken 365 = .ok (.bipush 62, 2) := by decide +kernel
theorem dX12_nextToken_367 : decode cX12_nextToken 367 = .ok (.if_icmp .ne 41, 3) := by decide +kernel
theorem dX12_nextToken_370 : decode cX12_nextToken 370 = .ok (.aload_n 0, 1) := by decide +kernel
theorem dX12_nextToken_371 : decode cX12_nextToken 371 = .ok (.aload_n 0, 1) := by decide +kernel
theorem dX12_nextToken_372 : decode cX12_nextToken 372 = .ok (.getfield 86, 3) := by decide +kernel
theorem dX12_nextToken_375 : decode cX12_nextToken 375 = .ok (.invokevirtual 89, 3) := by decide +kernel
theorem dX12_nextToken_378 : decode cX12_nextToken 378 = .ok (.bipush 61, 2) := by decide +kernel
theorem dX12_nextToken_380 : decode cX12_nextToken 380 = .ok (.if_icmp .ne 28, 3) := by decide +kernel
theorem dX12_nextToken_383 : decode cX12_nextToken 383 = .ok (.aload_n 0, 1) := by decide +kernel
theorem dX12_nextToken_384 : decode cX12_nextToken 384 = .ok (.dup, 1) := by decide +kernel
theorem dX12_nextToken_385 : decode cX12_nextToken 385 = .ok (.getfield 86, 3) := by decide +kernel
theorem dX12_nextToken_388 : decode cX12_nextToken 388 = .ok (.iconst 1, 1) := by decide +kernel
theorem dX12_nextToken_389 : decode cX12_nextToken 389 = .ok (.iadd, 1) := by decide +kernel
theorem dX12_nextToken_390 : decode cX12_nextToken 390 = .ok (.putfield 86, 3) := by decide +kernel
theorem dX12_nextToken_393 : decode cX12_nextToken 393 = .ok (.aload_n 0, 1) := by decide +kernel
theorem dX12_nextToken_394 : decode cX12_nextToken 394 = .ok (.iload_n 1, 1) := by decide +kernel
theorem dX12_nextToken_395 : decode cX12_nextToken 395 = .ok (.bipush 60, 2) := by decide +kernel
theorem dX12_nextToken_397 : decode cX12_nextToken 397 = .ok (.if_icmp .ne 7, 3) := by decide +kernel
theorem dX12_nextToken_400 : decode cX12_nextToken 400 = .ok (.iconst 4, 1) := by decide +kernel
theorem dX12_nextToken_401 : decode cX12_nextToken 401 = .ok (.goto 4, 3) := by decide +kernel
theorem dX12_nextToken_404 : decode cX12_nextToken 404 = .ok (.iconst 5, 1) := by decide +kernel
theorem dX12_nextToken_405 : decode cX12_nextToken 405 = .ok (.putfield 96, 3) := by decide +kernel
theorem dX12_nextToken_408 : decode cX12_nextToken 408 = .ok (.return_, 1) := by decide +kernel
theorem dX12_w3_0 : decode cX12_w3 0 = .ok (.iload_n 0, 1) := by decide +kernel
theorem dX12_w3_1 : decode cX12_w3 1 = .ok (.i2l, 1) := by decide +kernel
theorem dX12_w3_2 : decode cX12_w3 2 = .ok (.bipush 8, 2) := by decide +kernel
theorem dX12_w3_4 : decode cX12_w3 4 = .ok (.lshl, 1) := by decide +kernel
theorem dX12_w3_5 : decode cX12_w3 5 = .ok (.iload_n 1, 1) := by decide +kernel
theorem dX12_w3_6 : decode cX12_w3 6 = .ok (.i2l, 1) := by decide +kernel
theorem dX12_w3_7 : decode cX12_w3 7 = .ok (.lor, 1) := by decide +kernel
theorem dX12_w3_8 : decode cX12_w3 8 = .ok (.bipush 8, 2) := by decide +kernel
theorem dX12_w3_10 : decode cX12_w3 10 = .ok (.lshl, 1) := by decide +kernel
theorem dX12_w3_11 : decode cX12_w3 11 = .ok (.iload_n 2, 1) := by decide +kernel
theorem dX12_w3_12 : decode cX12_w3 12 = .ok (.i2l, 1) := by decide +kernel
theorem dX12_w3_13 : decode cX12_w3 13 = .ok (.lor, 1) := by decide +kernel
theorem dX12_w3_14 : decode cX12_w3 14 = .ok (.lreturn, 1) := by decide +kernel
theorem dX12_w5_0 : decode cX12_w5 0 = .ok (.iload_n 0, 1) := by decide +kernel
theorem dX12_w5_1 : decode cX12_w5 1 = .ok (.iload_n 1, 1) := by decide +kernel
theorem dX12_w5_2 : decode cX12_w5 2 = .ok (.iload_n 2, 1) := by decide +kernel
theorem dX12_w5_3 : decode cX12_w5 3 = .ok (.invokestatic 113, 3) := by decide +kernel
theorem dX12_w5_6 : decode cX12_w5 6 = .ok (.bipush 8, 2) := by decide +kernel
theorem dX12_w5_8 : decode cX12_w5 8 = .ok (.lshl, 1) := by decide +kernel
theorem dX12_w5_9 : decode cX12_w5 9 = .ok (.iload_n 3, 1) := by decide +kernel
theorem dX12_w5_10 : decode cX12_w5 10 = .ok (.i2l, 1) := by decide +kernel
theorem dX12_w5_11 : decode cX12_w5 11 = .ok (.lor, 1) := by decide +kernel
theorem dX12_w5_12 : decode cX12_w5 12 = .ok (.bipush 8, 2) := by decide +kernel
theorem dX12_w5_14 : decode cX12_w5 14 = .ok (.lshl, 1) := by decide +kernel
theorem dX12_w5_15 : decode cX12_w5 15 = .ok (.iload 4, 2) := by decide +kernel
theorem dX12_w5_17 : decode cX12_w5 17 = .ok (.i2l, 1) := by decide +kernel
theorem dX12_w5_18 : decode cX12_w5 18 = .ok (.lor, 1) := by decide +kernel
theorem dX12_w5_19 : decode cX12_w5 19 = .ok (.lreturn, 1) := by decide +kernel
theorem dX12_w4_0 : decode cX12_w4 0 = .ok (.iload_n 0, 1) := by decide +kernel
theorem dX12_w4_1 : decode cX12_w4 1 = .ok (.iload_n 1, 1) := by decide +kernel
theorem dX12_w4_2 : decode cX12_w4 2 = .ok (.iload_n 2, 1) := by decide +kernel
theorem dX12_w4_3 : decode cX12_w4 3 = .ok (.invokestatic 113, 3) := by decide +kernel
theorem dX12_w4_6 : decode cX12_w4 6 = .ok (.bipush 8, 2) := by decide +kernel
theorem dX12_w4_8 : decode cX12_w4 8 = .ok (.lshl, 1) := by decide +kernel
theorem dX12_w4_9 : decode cX12_w4 9 = .ok (.iload_n 3, 1) := by decide +kernel
theorem dX12_w4_10 : decode cX12_w4 10 = .ok (.i2l, 1) := by decide +kernel
theorem dX12_w4_11 : decode cX12_w4 11 = .ok (.lor, 1) := by decide +kernel
theorem dX12_w4_12 : decode cX12_w4 12 = .ok (.lreturn, 1) := by decide +kernel
theorem dX12_w6_0 : decode cX12_w6 0 = .ok (.iload_n 0, 1) := by decide +kernel
theorem dX12_w6_1 : decode cX12_w6 1 = .ok (.iload_n 1, 1) := by decide +kernel
theorem dX12_w6_2 : decode cX12_w6 2 = .ok (.iload_n 2, 1) := by decide +kernel
theorem dX12_w6_3 : decode cX12_w6 3 = .ok (.iload_n 3, 1) := by decide +kernel
theorem dX12_w6_4 : decode cX12_w6 4 = .ok (.iload 4, 2) := by decide +kernel
theorem dX12_w6_6 : decode cX12_w6 6 = .ok (.invokestatic 117, 3) := by decide +kernel
theorem dX12_w6_9 : decode cX12_w6 9 = .ok (.bipush 8, 2) := by decide +kernel
theorem dX12_w6_11 : decode cX12_w6 11 = .ok (.lshl, 1) := by decide +kernel
theorem dX12_w6_12 : decode cX12_w6 12 = .ok (.iload 5, 2) := by decide +kernel
theorem dX12_w6_14 : decode cX12_w6 14 = .ok (.i2l, 1) := by decide +kernel
theorem dX12_w6_15 : decode cX12_w6 15 = .ok (.lor, 1) := by decide +kernel
theorem dX12_w6_16 : decode cX12_w6 16 = .ok (.lreturn, 1) := by decide +kernel
theorem dX12_isWord_0 : decode cX12_isWord 0 = .ok (.aload_n 0, 1) := by decide +kernel
theorem dX12_isWord_1 : decode cX12_isWord 1 = .ok (.getfield 96, 3) := by decide +kernel
theorem dX12_isWord_4 : decode cX12_isWord 4 = .ok (.iconst 2, 1) := by decide +kernel
theorem dX12_isWord_5 : decode cX12_isWord 5 = .ok (.if_icmp .ne 16, 3) := by decide +kernel
theorem dX12_isWord_8 : decode cX12_isWord 8 = .ok (.aload_n 0, 1) := by decide +kernel
theorem dX12_isWord_9 : decode cX12_isWord 9 = .ok (.getfield 109, 3) := by decide +kernel
theorem dX12_isWord_12 : decode cX12_isWord 12 = .ok (.lload_n 1, 1) := by decide +kernel
theorem dX12_isWord_13 : decode cX12_isWord 13 = .ok (.lcmp, 1) := by decide +kernel
theorem dX12_isWord_14 : decode cX12_isWord 14 = .ok (.ifCond .ne 7, 3) := by decide +kernel
theorem dX12_isWord_17 : decode cX12_isWord 17 = .ok (.iconst 1, 1) := by decide +kernel
theorem dX12_isWord_18 : decode cX12_isWord 18 = .ok (.goto 4, 3) := by decide +kernel
theorem dX12_isWord_21 : decode cX12_isWord 21 = .ok (.iconst 0, 1) := by decide +kernel
theorem dX12_isWord_22 : decode cX12_isWord 22 = .ok (.ireturn, 1) := by decide +kernel
theorem dX12_emit_0 : decode cX12_emit 0 = .ok (.aload_n 0, 1) := by decide +kernel
theorem dX12_emit_1 : decode cX12_emit 1 = .ok (.getfield 16, 3) := by decide +kernel
theorem dX12_emit_4 : decode cX12_emit 4 = .ok (.aload_n 0, 1) := by decide +kernel
theorem dX12_emit_5 : decode cX12_emit 5 = .ok (.getfield 121, 3) := by decide +kernel
theorem dX12_emit_8 : decode cX12_emit 8 = .ok (.bipush 75, 2) := by decide +kernel
theorem dX12_emit_10 : decode cX12_emit 10 = .ok (.iadd, 1) := by decide +kernel
theorem dX12_emit_11 : decode cX12_emit 11 = .ok (.iconst 2, 1) := by decide +kernel
theorem dX12_emit_12 : decode cX12_emit 12 = .ok (.aload_n 0, 1) := by decide +kernel
theorem dX12_emit_13 : decode cX12_emit 13 = .ok (.getfield 124, 3) := by decide +kernel
theorem dX12_emit_16 : decode cX12_emit 16 = .ok (.imul, 1) := by decide +kernel
theorem dX12_emit_17 : decode cX12_emit 17 = .ok (.iadd, 1) := by decide +kernel
theorem dX12_emit_18 : decode cX12_emit 18 = .ok (.iload_n 1, 1) := by decide +kernel
theorem dX12_emit_19 : decode cX12_emit 19 = .ok (.iastore, 1) := by decide +kernel
theorem dX12_emit_20 : decode cX12_emit 20 = .ok (.aload_n 0, 1) := by decide +kernel
theorem dX12_emit_21 : decode cX12_emit 21 = .ok (.getfield 16, 3) := by decide +kernel
theorem dX12_emit_24 : decode cX12_emit 24 = .ok (.aload_n 0, 1) := by decide +kernel
theorem dX12_emit_25 : decode cX12_emit 25 = .ok (.getfield 121, 3) := by decide +kernel
theorem dX12_emit_28 : decode cX12_emit 28 = .ok (.bipush 75, 2) := by decide +kernel
theorem dX12_emit_30 : decode cX12_emit 30 = .ok (.iadd, 1) := by decide +kernel
theorem dX12_emit_31 : decode cX12_emit 31 = .ok (.iconst 2, 1) := by decide +kernel
theorem dX12_emit_32 : decode cX12_emit 32 = .ok (.aload_n 0, 1) := by decide +kernel
theorem dX12_emit_33 : decode cX12_emit 33 = .ok (.getfield 124, 3) := by decide +kernel
theorem dX12_emit_36 : decode cX12_emit 36 = .ok (.imul, 1) := by decide +kernel
theorem dX12_emit_37 : decode cX12_emit 37 = .ok (.iadd, 1) := by decide +kernel
theorem dX12_emit_38 : decode cX12_emit 38 = .ok (.iconst 1, 1) := by decide +kernel
theorem dX12_emit_39 : decode cX12_emit 39 = .ok (.iadd, 1) := by decide +kernel
theorem dX12_emit_40 : decode cX12_emit 40 = .ok (.iload_n 2, 1) := by decide +kernel
theorem dX12_emit_41 : decode cX12_emit 41 = .ok (.iastore, 1) := by decide +kernel
theorem dX12_emit_42 : decode cX12_emit 42 = .ok (.aload_n 0, 1) := by decide +kernel
theorem dX12_emit_43 : decode cX12_emit 43 = .ok (.dup, 1) := by decide +kernel
theorem dX12_emit_44 : decode cX12_emit 44 = .ok (.getfield 124, 3) := by decide +kernel
theorem dX12_emit_47 : decode cX12_emit 47 = .ok (.iconst 1, 1) := by decide +kernel
theorem dX12_emit_48 : decode cX12_emit 48 = .ok (.iadd, 1) := by decide +kernel
theorem dX12_emit_49 : decode cX12_emit 49 = .ok (.putfield 124, 3) := by decide +kernel
theorem dX12_emit_52 : decode cX12_emit 52 = .ok (.return_, 1) := by decide +kernel
theorem dX12_push_0 : decode cX12_push 0 = .ok (.aload_n 0, 1) := by decide +kernel
theorem dX12_push_1 : decode cX12_push 1 = .ok (.getfield 29, 3) := by decide +kernel
theorem dX12_push_4 : decode cX12_push 4 = .ok (.aload_n 0, 1) := by decide +kernel
theorem dX12_push_5 : decode cX12_push 5 = .ok (.getfield 127, 3) := by decide +kernel
theorem dX12_push_8 : decode cX12_push 8 = .ok (.iload_n 1, 1) := by decide +kernel
theorem dX12_push_9 : decode cX12_push 9 = .ok (.iastore, 1) := by decide +kernel
theorem dX12_push_10 : decode cX12_push 10 = .ok (.aload_n 0, 1) := by decide +kernel
theorem dX12_push_11 : decode cX12_push 11 = .ok (.dup, 1) := by decide +kernel
theorem dX12_push_12 : decode cX12_push 12 = .ok (.getfield 127, 3) := by decide +kernel
theorem dX12_push_15 : decode cX12_push 15 = .ok (.iconst 1, 1) := by decide +kernel
theorem dX12_push_16 : decode cX12_push 16 = .ok (.iadd, 1) := by decide +kernel
theorem dX12_push_17 : decode cX12_push 17 = .ok (.putfield 127, 3) := by decide +kernel
theorem dX12_push_20 : decode cX12_push 20 = .ok (.return_, 1) := by decide +kernel
theorem dX12_rank_0 : decode cX12_rank 0 = .ok (.iload_n 0, 1) := by decide +kernel
theorem dX12_rank_1 : decode cX12_rank 1 = .ok (.bipush 40, 2) := by decide +kernel
theorem dX12_rank_3 : decode cX12_rank 3 = .ok (.if_icmp .lt 7, 3) := by decide +kernel
theorem dX12_rank_6 : decode cX12_rank 6 = .ok (.iconst 0, 1) := by decide +kernel
theorem dX12_rank_7 : decode cX12_rank 7 = .ok (.goto 64, 3) := by decide +kernel
theorem dX12_rank_10 : decode cX12_rank 10 = .ok (.iload_n 0, 1) := by decide +kernel
theorem dX12_rank_11 : decode cX12_rank 11 = .ok (.bipush 22, 2) := by decide +kernel
theorem dX12_rank_13 : decode cX12_rank 13 = .ok (.if_icmp .ne 7, 3) := by decide +kernel
theorem dX12_rank_16 : decode cX12_rank 16 = .ok (.iconst 1, 1) := by decide +kernel
theorem dX12_rank_17 : decode cX12_rank 17 = .ok (.goto 54, 3) := by decide +kernel
theorem dX12_rank_20 : decode cX12_rank 20 = .ok (.iload_n 0, 1) := by decide +kernel
theorem dX12_rank_21 : decode cX12_rank 21 = .ok (.bipush 21, 2) := by decide +kernel
theorem dX12_rank_23 : decode cX12_rank 23 = .ok (.if_icmp .ne 7, 3) := by decide +kernel
theorem dX12_rank_26 : decode cX12_rank 26 = .ok (.iconst 2, 1) := by decide +kernel
theorem dX12_rank_27 : decode cX12_rank 27 = .ok (.goto 44, 3) := by decide +kernel
theorem dX12_rank_30 : decode cX12_rank 30 = .ok (.iload_n 0, 1) := by decide +kernel
theorem dX12_rank_31 : decode cX12_rank 31 = .ok (.bipush 20, 2) := by decide +kernel
theorem dX12_rank_33 : decode cX12_rank 33 = .ok (.if_icmp .ne 7, 3) := by decide +kernel
theorem dX12_rank_36 : decode cX12_rank 36 = .ok (.iconst 3, 1) := by decide +kernel
theorem dX12_rank_37 : decode cX12_rank 37 = .ok (.goto 34, 3) := by decide +kernel
theorem dX12_rank_40 : decode cX12_rank 40 = .ok (.iload_n 0, 1) := by decide +kernel
theorem dX12_rank_41 : decode cX12_rank 41 = .ok (.bipush 10, 2) := by decide +kernel
theorem dX12_rank_43 : decode cX12_rank 43 = .ok (.if_icmp .lt 7, 3) := by decide +kernel
theorem dX12_rank_46 : decode cX12_rank 46 = .ok (.iconst 4, 1) := by decide +kernel
theorem dX12_rank_47 : decode cX12_rank 47 = .ok (.goto 24, 3) := by decide +kernel
theorem dX12_rank_50 : decode cX12_rank 50 = .ok (.iload_n 0, 1) := by decide +kernel
theorem dX12_rank_51 : decode cX12_rank 51 = .ok (.iconst 2, 1) := by decide +kernel
theorem dX12_rank_52 : decode cX12_rank 52 = .ok (.if_icmp .ne 8, 3) := by decide +kernel
theorem dX12_rank_55 : decode cX12_rank 55 = .ok (.bipush 7, 2) := by decide +kernel
theorem dX12_rank_57 : decode cX12_rank 57 = .ok (.goto 14, 3) := by decide +kernel
theorem dX12_rank_60 : decode cX12_rank 60 = .ok (.iload_n 0, 1) := by decide +kernel
theorem dX12_rank_61 : decode cX12_rank 61 = .ok (.iconst 5, 1) := by decide +kernel
theorem dX12_rank_62 : decode cX12_rank 62 = .ok (.if_icmp .lt 8, 3) := by decide +kernel
theorem dX12_rank_65 : decode cX12_rank 65 = .ok (.bipush 6, 2) := by decide +kernel
theorem dX12_rank_67 : decode cX12_rank 67 = .ok (.goto 4, 3) := by decide +kernel
theorem dX12_rank_70 : decode cX12_rank 70 = .ok (.iconst 5, 1) := by decide +kernel
theorem dX12_rank_71 : decode cX12_rank 71 = .ok (.ireturn, 1) := by decide +kernel
theorem dX12_settle_0 : decode cX12_settle 0 = .ok (.aload_n 0, 1) := by decide +kernel
theorem dX12_settle_1 : decode cX12_settle 1 = .ok (.getfield 127, 3) := by decide +kernel
theorem dX12_settle_4 : decode cX12_settle 4 = .ok (.ifCond .le 85, 3) := by decide +kernel
theorem dX12_settle_7 : decode cX12_settle 7 = .ok (.aload_n 0, 1) := by decide +kernel
theorem dX12_settle_8 : decode cX12_settle 8 = .ok (.getfield 29, 3) := by decide +kernel
theorem dX12_settle_11 : decode cX12_settle 11 = .ok (.aload_n 0, 1) := by decide +kernel
theorem dX12_settle_12 : decode cX12_settle 12 = .ok (.getfield 127, 3) := by decide +kernel
theorem dX12_settle_15 : decode cX12_settle 15 = .ok (.iconst 1, 1) := by decide +kernel
theorem dX12_settle_16 : decode cX12_settle 16 = .ok (.isub, 1) := by decide +kernel
theorem dX12_settle_17 : decode cX12_settle 17 = .ok (.iaload, 1) := by decide +kernel
theorem dX12_settle_18 : decode cX12_settle 18 = .ok (.invokestatic 130, 3) := by decide +kernel
theorem dX12_settle_21 : decode cX12_settle 21 = .ok (.iload_n 1, 1) := by decide +kernel
theorem dX12_settle_22 : decode cX12_settle 22 = .ok (.if_icmp .lt 67, 3) := by decide +kernel
theorem dX12_settle_25 : decode cX12_settle 25 = .ok (.aload_n 0, 1) := by decide +kernel
theorem dX12_settle_26 : decode cX12_settle 26 = .ok (.dup, 1) := by decide +kernel
theorem dX12_settle_27 : decode cX12_settle 27 = .ok (.getfield 127, 3) := by decide +kernel
theorem dX12_settle_30 : decode cX12_settle 30 = .ok (.iconst 1, 1) := by decide +kernel
theorem dX12_settle_31 : decode cX12_settle 31 = .ok (.isub, 1) := by decide +kernel
theorem dX12_settle_32 : decode cX12_settle 32 = .ok (.putfield 127, 3) := by decide +kernel
theorem dX12_settle_35 : decode cX12_settle 35 = .ok (.aload_n 0, 1) := by decide +kernel
theorem dX12_settle_36 : decode cX12_settle 36 = .ok (.aload_n 0, 1) := by decide +kernel
theorem dX12_settle_37 : decode cX12_settle 37 = .ok (.getfield 29, 3) := by decide +kernel
theorem dX12_settle_40 : decode cX12_settle 40 = .ok (.aload_n 0, 1) := by decide +kernel
theorem dX12_settle_41 : decode cX12_settle 41 = .ok (.getfield 127, 3) := by decide +kernel
theorem dX12_settle_44 : decode cX12_settle 44 = .ok (.iaload, 1) := by decide +kernel
theorem dX12_settle_45 : decode cX12_settle 45 = .ok (.iconst 0, 1) := by decide +kernel
theorem dX12_settle_46 : decode cX12_settle 46 = .ok (.invokevirtual 133, 3) := by decide +kernel
theorem dX12_settle_49 : decode cX12_settle 49 = .ok (.aload_n 0, 1) := by decide +kernel
theorem dX12_settle_50 : decode cX12_settle 50 = .ok (.getfield 29, 3) := by decide +kernel
theorem dX12_settle_53 : decode cX12_settle 53 = .ok (.aload_n 0, 1) := by decide +kernel
theorem dX12_settle_54 : decode cX12_settle 54 = .ok (.getfield 127, 3) := by decide +kernel
theorem dX12_settle_57 : decode cX12_settle 57 = .ok (.iaload, 1) := by decide +kernel
theorem dX12_settle_58 : decode cX12_settle 58 = .ok (.iconst 2, 1) := by decide +kernel
theorem dX12_settle_59 : decode cX12_settle 59 = .ok (.if_icmp .eq 17, 3) := by decide +kernel
theorem dX12_settle_62 : decode cX12_settle 62 = .ok (.aload_n 0, 1) := by decide +kernel
theorem dX12_settle_63 : decode cX12_settle 63 = .ok (.getfield 29, 3) := by decide +kernel
theorem dX12_settle_66 : decode cX12_settle 66 = .ok (.aload_n 0, 1) := by decide +kernel
theorem dX12_settle_67 : decode cX12_settle 67 = .ok (.getfield 127, 3) := by decide +kernel
theorem dX12_settle_70 : decode cX12_settle 70 = .ok (.iaload, 1) := by decide +kernel
theorem dX12_settle_71 : decode cX12_settle 71 = .ok (.bipush 20, 2) := by decide +kernel
theorem dX12_settle_73 : decode cX12_settle 73 = .ok (.if_icmp .ne (-73), 3) := by decide +kernel
theorem dX12_settle_76 : decode cX12_settle 76 = .ok (.aload_n 0, 1) := by decide +kernel
theorem dX12_settle_77 : decode cX12_settle 77 = .ok (.dup, 1) := by decide +kernel
theorem dX12_settle_78 : decode cX12_settle 78 = .ok (.getfield 137, 3) := by decide +kernel
theorem dX12_settle_81 : decode cX12_settle 81 = .ok (.iconst 1, 1) := by decide +kernel
theorem dX12_settle_82 : decode cX12_settle 82 = .ok (.isub, 1) := by decide +kernel
theorem dX12_settle_83 : decode cX12_settle 83 = .ok (.putfield 137, 3) := by decide +kernel
theorem dX12_settle_86 : decode cX12_settle 86 = .ok (.goto (-86), 3) := by decide +kernel
theorem dX12_settle_89 : decode cX12_settle 89 = .ok (.return_, 1) := by decide +kernel
theorem bw_39 : Cond.selects "CountingHorsesModel" ⟨"CountingHorsesModel", "byteAt", "(I)I"⟩ ⟨"CountingHorsesModel", "byteAt", "(I)I"⟩ ∈ BW := bw_at 39 (by decide +kernel) (by decide +kernel)
theorem bw_51 : Cond.selects "CountingHorsesModel" ⟨"CountingHorsesModel", "emit", "(II)V"⟩ ⟨"CountingHorsesModel", "emit", "(II)V"⟩ ∈ BW := bw_at 51 (by decide +kernel) (by decide +kernel)
theorem bw_1026 : Cond.fieldLink "CountingHorsesModel" 86 "CountingHorsesModel" "at" "I" ∈ BW := bw_at 1026 (by decide +kernel) (by decide +kernel)
theorem bw_1027 : Cond.fieldLink "CountingHorsesModel" 93 "CountingHorsesModel" "place" "I" ∈ BW := bw_at 1027 (by decide +kernel) (by decide +kernel)
theorem bw_1028 : Cond.fieldLink "CountingHorsesModel" 96 "CountingHorsesModel" "token" "I" ∈ BW := bw_at 1028 (by decide +kernel) (by decide +kernel)
theorem bw_1029 : Cond.fieldLink "CountingHorsesModel" 102 "CountingHorsesModel" "number" "I" ∈ BW := bw_at 1029 (by decide +kernel) (by decide +kernel)
theorem bw_1030 : Cond.fieldLink "CountingHorsesModel" 109 "CountingHorsesModel" "word" "J" ∈ BW := bw_at 1030 (by decide +kernel) (by decide +kernel)
theorem bw_1031 : Cond.fieldLink "CountingHorsesModel" 121 "CountingHorsesModel" "text0" "I" ∈ BW := bw_at 1031 (by decide +kernel) (by decide +kernel)
theorem bw_1032 : Cond.fieldLink "CountingHorsesModel" 124 "CountingHorsesModel" "written" "I" ∈ BW := bw_at 1032 (by decide +kernel) (by decide +kernel)
theorem bw_1033 : Cond.fieldLink "CountingHorsesModel" 29 "CountingHorsesModel" "pile" "[I" ∈ BW := bw_at 1033 (by decide +kernel) (by decide +kernel)
theorem bw_1034 : Cond.fieldLink "CountingHorsesModel" 127 "CountingHorsesModel" "piled" "I" ∈ BW := bw_at 1034 (by decide +kernel) (by decide +kernel)
theorem bw_1035 : Cond.fieldLink "CountingHorsesModel" 137 "CountingHorsesModel" "opens" "I" ∈ BW := bw_at 1035 (by decide +kernel) (by decide +kernel)
theorem bw_1178 : Cond.methodLink "CountingHorsesModel" 89 ⟨"CountingHorsesModel", "byteAt", "(I)I"⟩ ∈ BW := bw_at 1178 (by decide +kernel) (by decide +kernel)
theorem bw_1180 : Cond.instanceMethod ⟨"CountingHorsesModel", "byteAt", "(I)I"⟩ ∈ BW := bw_at 1180 (by decide +kernel) (by decide +kernel)
theorem bw_1181 : Cond.code ⟨"CountingHorsesModel", "byteAt", "(I)I"⟩ prog_14_method_17_code 2 (some .int) ∈ BW := bw_at 1181 (by decide +kernel) (by decide +kernel)
theorem bw_1182 : Cond.methodLink "CountingHorsesModel" 99 ⟨"CountingHorsesModel", "isDigit", "(I)Z"⟩ ∈ BW := bw_at 1182 (by decide +kernel) (by decide +kernel)
theorem bw_1183 : Cond.static ⟨"CountingHorsesModel", "isDigit", "(I)Z"⟩ ∈ BW := bw_at 1183 (by decide +kernel) (by decide +kernel)
theorem bw_1184 : Cond.code ⟨"CountingHorsesModel", "isDigit", "(I)Z"⟩ prog_14_method_19_code 1 (some .boolean) ∈ BW := bw_at 1184 (by decide +kernel) (by decide +kernel)
theorem bw_1185 : Cond.constant "CountingHorsesModel" 105 100000 ∈ BW := bw_at 1185 (by decide +kernel) (by decide +kernel)
theorem bw_1186 : Cond.methodLink "CountingHorsesModel" 106 ⟨"CountingHorsesModel", "isLetter", "(I)Z"⟩ ∈ BW := bw_at 1186 (by decide +kernel) (by decide +kernel)
theorem bw_1187 : Cond.static ⟨"CountingHorsesModel", "isLetter", "(I)Z"⟩ ∈ BW := bw_at 1187 (by decide +kernel) (by decide +kernel)
theorem bw_1188 : Cond.code ⟨"CountingHorsesModel", "isLetter", "(I)Z"⟩ prog_14_method_18_code 1 (some .boolean) ∈ BW := bw_at 1188 (by decide +kernel) (by decide +kernel)
theorem bw_1197 : Cond.methodLink "CountingHorsesModel" 117 ⟨"CountingHorsesModel", "w5", "(IIIII)J"⟩ ∈ BW := bw_at 1197 (by decide +kernel) (by decide +kernel)
theorem bw_1198 : Cond.static ⟨"CountingHorsesModel", "w5", "(IIIII)J"⟩ ∈ BW := bw_at 1198 (by decide +kernel) (by decide +kernel)
theorem bw_1199 : Cond.code ⟨"CountingHorsesModel", "w5", "(IIIII)J"⟩ prog_14_method_22_code 5 (some .long) ∈ BW := bw_at 1199 (by decide +kernel) (by decide +kernel)
theorem bw_1200 : Cond.methodLink "CountingHorsesModel" 113 ⟨"CountingHorsesModel", "w3", "(III)J"⟩ ∈ BW := bw_at 1200 (by decide +kernel) (by decide +kernel)
theorem bw_1201 : Cond.static ⟨"CountingHorsesModel", "w3", "(III)J"⟩ ∈ BW := bw_at 1201 (by decide +kernel) (by decide +kernel)
theorem bw_1202 : Cond.code ⟨"CountingHorsesModel", "w3", "(III)J"⟩ prog_14_method_21_code 3 (some .long) ∈ BW := bw_at 1202 (by decide +kernel) (by decide +kernel)
theorem bw_1237 : Cond.methodLink "CountingHorsesModel" 130 ⟨"CountingHorsesModel", "rank", "(I)I"⟩ ∈ BW := bw_at 1237 (by decide +kernel) (by decide +kernel)
theorem bw_1238 : Cond.static ⟨"CountingHorsesModel", "rank", "(I)I"⟩ ∈ BW := bw_at 1238 (by decide +kernel) (by decide +kernel)
theorem bw_1239 : Cond.code ⟨"CountingHorsesModel", "rank", "(I)I"⟩ prog_14_method_28_code 1 (some .int) ∈ BW := bw_at 1239 (by decide +kernel) (by decide +kernel)
theorem bw_1249 : Cond.methodLink "CountingHorsesModel" 133 ⟨"CountingHorsesModel", "emit", "(II)V"⟩ ∈ BW := bw_at 1249 (by decide +kernel) (by decide +kernel)
theorem bw_1251 : Cond.instanceMethod ⟨"CountingHorsesModel", "emit", "(II)V"⟩ ∈ BW := bw_at 1251 (by decide +kernel) (by decide +kernel)
theorem bw_1252 : Cond.code ⟨"CountingHorsesModel", "emit", "(II)V"⟩ prog_14_method_26_code 3 none ∈ BW := bw_at 1252 (by decide +kernel) (by decide +kernel)
theorem zl_97 : (97 : Int32).toInt = 97 := by decide
theorem zl_122 : (122 : Int32).toInt = 122 := by decide
theorem zl_90 : (90 : Int32).toInt = 90 := by decide
theorem zl_100000 : (100000 : Int32).toInt = 100000 := by decide
/-! ===== the reader's pile, as a list (the top first) ===== -/
def rk (e : Int) : Int := if 40 ≤ e then 0 else if e = 22 then 1 else if e = 21 then 2 else if e = 20 then 3 else if 10 ≤ e then 4 else if e = 2 then 7 else if 5 ≤ e then 6 else 5
def vA : List Int → Int
  | [] => 0
  | e :: L => vA L + (if (3 ≤ e ∧ e ≤ 6) ∨ (10 ≤ e ∧ e ≤ 15) ∨ e = 43 then 1 else 0)
def vT : List Int → Int
  | [] => 0
  | e :: L => vT L + (if e = 21 ∨ e = 22 ∨ e = 42 ∨ e = 43 then 1 else 0)
def vO : List Int → Int
  | [] => 0
  | e :: L => vO L + (if e = 2 ∨ e = 20 ∨ 40 ≤ e then 1 else 0)
def vK : List Int → Int
  | [] => 0
  | e :: L => if e = 41 then 1 else if 40 ≤ e then 0 else vK L
def vC : List Int → Int
  | [] => 0
  | e :: L => if 10 ≤ e ∧ e ≤ 15 then 1 else if (3 ≤ e ∧ e ≤ 6) ∨ e = 2 then vC L else 0
def vR : List Int → Int
  | [] => 0
  | e :: _ => rk e
def vM : List Int → Int
  | [] => -1
  | e :: L => if 40 ≤ e then e else vM L
def vX : List Int → Int
  | [] => -1
  | e :: L => if 40 ≤ e then (L.length : Int) else vX L
def okp (e : Int) (L : List Int) : Prop := (40 ≤ e ∧ e ≤ 43) ∨ e = 2 ∨ (3 ≤ e ∧ e ≤ 6 ∧ vR L < rk e) ∨ (10 ≤ e ∧ e ≤ 15 ∧ vK L = 1 ∧ vR L < 4) ∨ (e = 20 ∧ vK L = 1 ∧ vR L ≤ 3) ∨ (e = 21 ∧ vK L = 1 ∧ vR L < 2) ∨ (e = 22 ∧ vK L = 1 ∧ vR L < 1)
def PVal : List Int → Prop
  | [] => True
  | e :: L => PVal L ∧ okp e L
def Rep (f : Nat → Int32) : List Int → Prop
  | [] => True
  | e :: L => (f L.length).toInt = e ∧ Rep f L
theorem rk_m {e : Int} (h : 40 ≤ e) : rk e = 0 := by unfold rk; rw [if_pos h]
theorem rk_a {e : Int} (h : 3 ≤ e) (h2 : e ≤ 6) : 5 ≤ rk e ∧ rk e ≤ 6 := by
  unfold rk
  rw [if_neg (by omega), if_neg (by omega), if_neg (by omega), if_neg (by omega), if_neg (by omega), if_neg (by omega)]
  split <;> omega
theorem rk_c {e : Int} (h : 10 ≤ e) (h2 : e ≤ 15) : rk e = 4 := by
  unfold rk
  rw [if_neg (by omega), if_neg (by omega), if_neg (by omega), if_neg (by omega), if_pos (by omega)]
theorem rk_2 : rk 2 = 7 := by decide
theorem rk_20 : rk 20 = 3 := by decide
theorem rk_21 : rk 21 = 2 := by decide
theorem rk_22 : rk 22 = 1 := by decide
theorem rk_rng (e : Int) : 0 ≤ rk e ∧ rk e ≤ 7 := by
  unfold rk
  repeat' split
  all_goals omega
theorem vR_rng (L : List Int) : 0 ≤ vR L ∧ vR L ≤ 7 := by
  cases L with
  | nil => exact ⟨by decide, by decide⟩
  | cons e L => exact rk_rng e
theorem v_nn : ∀ L : List Int, 0 ≤ vA L ∧ 0 ≤ vT L ∧ 0 ≤ vO L := by
  intro L
  induction L with
  | nil => exact ⟨by decide, by decide, by decide⟩
  | cons e L ih =>
    simp only [vA, vT, vO]
    refine ⟨?_, ?_, ?_⟩ <;> split <;> omega
theorem pl_len : ∀ L : List Int, PVal L → (L.length : Int) ≤ 8 * vO L + vR L := by
  intro L
  induction L with
  | nil => intro _; decide
  | cons e L ih =>
    intro h
    have h1 := ih h.1
    have h2 := vR_rng L
    have hl : ((e :: L).length : Int) = (L.length : Int) + 1 := by simp
    rw [hl]
    show (L.length : Int) + 1 ≤ 8 * (vO L + (if e = 2 ∨ e = 20 ∨ 40 ≤ e then 1 else 0)) + rk e
    rcases h.2 with q | q | q | q | q | q | q
    · rw [rk_m q.1, if_pos (by omega)]; omega
    · subst q; rw [rk_2, if_pos (by omega)]; omega
    · rw [if_neg (by omega)]; omega
    · have := rk_c q.1 q.2.1; rw [if_neg (by omega)]; omega
    · obtain ⟨rfl, q1, q2⟩ := q; rw [rk_20, if_pos (by omega)]; omega
    · obtain ⟨rfl, q1, q2⟩ := q; rw [rk_21, if_neg (by omega)]; omega
    · obtain ⟨rfl, q1, q2⟩ := q; rw [rk_22, if_neg (by omega)]; omega
theorem Rep_up {f : Nat → Int32} {v : Int32} : ∀ {L : List Int} {k : Nat}, L.length ≤ k → Rep f L → Rep (upd f k v) L := by
  intro L
  induction L with
  | nil => intro k _ _; trivial
  | cons e L ih =>
    intro k hk h
    have hl : L.length + 1 ≤ k := by simpa using hk
    exact ⟨by rw [pk_un (by omega)]; exact h.1, ih (by omega) h.2⟩
theorem Rep.push {f : Nat → Int32} {v : Int32} {L : List Int} {k : Nat} (hk : k = L.length) (h : Rep f L) : Rep (upd f k v) (v.toInt :: L) := by
  subst hk
  exact ⟨by rw [pk_us], Rep_up (Nat.le_refl _) h⟩
/-- the marker's entry -/
theorem Rep.mark {f : Nat → Int32} : ∀ {L : List Int}, Rep f L → 0 ≤ vX L → (f (vX L).toNat).toInt = vM L ∧ 40 ≤ vM L ∧ vX L < (L.length : Int) := by
  intro L
  induction L with
  | nil => intro _ h; exact absurd h (by decide)
  | cons e L ih =>
    intro h h0
    have hl : ((e :: L).length : Int) = (L.length : Int) + 1 := by simp
    simp only [vX, vM] at h0 ⊢
    by_cases q : 40 ≤ e
    · rw [if_pos q, if_pos q, hl]
      refine ⟨?_, q, by omega⟩
      rw [Int.toNat_natCast]; exact h.1
    · rw [if_neg q] at h0 ⊢
      rw [if_neg q, hl]
      obtain ⟨a1, a2, a3⟩ := ih h.2 h0
      exact ⟨a1, a2, by omega⟩
theorem vX_ge : ∀ L : List Int, -1 ≤ vX L := by
  intro L
  induction L with
  | nil => decide
  | cons e L ih => simp only [vX]; split <;> omega
theorem vM_none : ∀ {L : List Int}, vX L < 0 → vM L = -1 ∧ vK L = 0 := by
  intro L
  induction L with
  | nil => intro _; exact ⟨rfl, rfl⟩
  | cons e L ih =>
    intro h
    simp only [vX] at h
    by_cases q : 40 ≤ e
    · rw [if_pos q] at h; omega
    · rw [if_neg q] at h
      simp only [vM, vK]
      rw [if_neg q, if_neg (by omega), if_neg q]
      exact ih h
theorem vM_K : ∀ {L : List Int}, (vM L = 41 ↔ vK L = 1) := by
  intro L
  induction L with
  | nil => constructor <;> intro h <;> exact absurd h (by decide)
  | cons e L ih =>
    simp only [vM, vK]
    by_cases q : 40 ≤ e
    · rw [if_pos q]
      by_cases q2 : e = 41
      · rw [if_pos q2]; omega
      · rw [if_neg q2, if_pos q]; omega
    · rw [if_neg q, if_neg (by omega), if_neg q]
      exact ih
theorem vM_or : ∀ {L : List Int}, PVal L → vM L = -1 ∨ (40 ≤ vM L ∧ vM L ≤ 43) := by
  intro L
  induction L with
  | nil => intro _; exact Or.inl rfl
  | cons e L ih =>
    intro h
    simp only [vM]
    by_cases q : 40 ≤ e
    · rw [if_pos q]; right
      rcases h.2 with a | a | a | a | a | a | a <;> omega
    · rw [if_neg q]; exact ih h.1
/-- the segment above a marker that doesn't ask holds sums alone; behind settle(1) the marker is on top -/
theorem top_mark {L : List Int} (h : PVal L) (h0 : vR L < 1) : L = [] ∨ ∃ e L2, L = e :: L2 ∧ 40 ≤ e ∧ e ≤ 43 := by
  cases L with
  | nil => exact Or.inl rfl
  | cons e L2 =>
    right
    refine ⟨e, L2, rfl, ?_⟩
    have h1 : rk e < 1 := h0
    rcases h.2 with q | q | q | q | q | q | q
    · exact q
    · subst q; rw [rk_2] at h1; omega
    · have := rk_a q.1 q.2.1; omega
    · have := rk_c q.1 q.2.1; omega
    · obtain ⟨rfl, q1, q2⟩ := q; rw [rk_20] at h1; omega
    · obtain ⟨rfl, q1, q2⟩ := q; rw [rk_21] at h1; omega
    · obtain ⟨rfl, q1, q2⟩ := q; rw [rk_22] at h1; omega
/-- what a settling keeps: the pile's values and truths, and which of the two the operand is -/
def SV (lst c0 : Int) (L : List Int) (n b tv : Int) : Prop := PVal L ∧ ((tv = 0 ∧ n = vA L + 1 ∧ b = vT L ∧ vC L = c0 ∧ (4 ≤ lst ∨ vC L = 1 ∨ vK L = 0)) ∨ (tv = 1 ∧ n = vA L ∧ b = vT L + 1 ∧ vR L < 4 ∧ vK L = 1)) ∧ ((c0 = 1 ∧ lst ≤ 4) → (tv = 1 ∨ vC L = 1)) ∧ (¬ (c0 = 1 ∧ lst ≤ 4) → tv = 0)
theorem SV.pop {lst c0 e n b tv : Int} {L : List Int} {o v : Int32} (h : SV lst c0 (e :: L) n b tv) (hr : lst ≤ rk e) (hl : 1 ≤ lst) (ho : o.toInt = e) : ∃ n2 b2 tv2, StI o v n b n2 b2 ∧ SV lst c0 L n2 b2 tv2 := by
  obtain ⟨hV, hS, h3, h4⟩ := h
  have hnn := v_nn L
  have hA : vA (e :: L) = vA L + (if (3 ≤ e ∧ e ≤ 6) ∨ (10 ≤ e ∧ e ≤ 15) ∨ e = 43 then 1 else 0) := rfl
  have hT : vT (e :: L) = vT L + (if e = 21 ∨ e = 22 ∨ e = 42 ∨ e = 43 then 1 else 0) := rfl
  have hC : vC (e :: L) = if 10 ≤ e ∧ e ≤ 15 then 1 else if (3 ≤ e ∧ e ≤ 6) ∨ e = 2 then vC L else 0 := rfl
  have hK : vK (e :: L) = if e = 41 then 1 else if 40 ≤ e then 0 else vK L := rfl
  have hR : vR (e :: L) = rk e := rfl
  rcases hV.2 with q | q | q | q | q | q | q
  · rw [rk_m q.1] at hr; omega
  · subst q
    rw [if_neg (by omega)] at hA hT
    rw [if_neg (by omega), if_pos (by omega)] at hC
    rw [if_neg (by omega), if_neg (by omega)] at hK
    rw [rk_2] at hR hr
    rcases hS with ⟨s1, s2, s3, s6, s4⟩ | ⟨s1, s2, s3, s4, s5⟩
    · refine ⟨n, b, 0, ?_, hV.1, Or.inl ⟨rfl, by omega, by omega, by omega, by omega⟩, ?_, ?_⟩
      · unfold StI; omega
      · intro z; have := h3 z; omega
      · intro z; rfl
    · omega
  · have ha := rk_a q.1 q.2.1
    rw [if_pos (by omega)] at hA
    rw [if_neg (by omega)] at hT
    rw [if_neg (by omega), if_pos (by omega)] at hC
    rw [if_neg (by omega), if_neg (by omega)] at hK
    rcases hS with ⟨s1, s2, s3, s6, s4⟩ | ⟨s1, s2, s3, s4, s5⟩
    · refine ⟨n - 1, b, 0, ?_, hV.1, Or.inl ⟨rfl, by omega, by omega, by omega, by omega⟩, ?_, ?_⟩
      · unfold StI; omega
      · intro z; have := h3 z; omega
      · intro z; rfl
    · omega
  · have ha := rk_c q.1 q.2.1
    rw [if_pos (by omega)] at hA
    rw [if_neg (by omega)] at hT
    rw [if_pos (by omega)] at hC
    rw [if_neg (by omega), if_neg (by omega)] at hK
    rcases hS with ⟨s1, s2, s3, s6, s4⟩ | ⟨s1, s2, s3, s4, s5⟩
    · by_cases z0 : c0 = 1 ∧ lst ≤ 4
      · refine ⟨n - 2, b + 1, 1, ?_, hV.1, Or.inr ⟨rfl, by omega, by omega, by omega, by omega⟩, fun _ => Or.inl rfl, fun z => absurd z0 z⟩
        unfold StI; omega
      · exfalso
        have := q.2.2.1
        omega
    · omega
  · obtain ⟨rfl, q1, q2⟩ := q
    rw [rk_20] at hr hR
    rw [if_neg (by omega)] at hA hT
    rw [if_neg (by omega), if_neg (by omega)] at hC
    rw [if_neg (by omega), if_neg (by omega)] at hK
    rcases hS with ⟨s1, s2, s3, s6, s4⟩ | ⟨s1, s2, s3, s4, s5⟩
    · omega
    · refine ⟨n, b, 1, ?_, hV.1, Or.inr ⟨rfl, by omega, by omega, by omega, by omega⟩, fun _ => Or.inl rfl, ?_⟩
      · unfold StI; omega
      · intro z; have := h4 z; omega
  · obtain ⟨rfl, q1, q2⟩ := q
    rw [rk_21] at hr hR
    rw [if_neg (by omega)] at hA
    rw [if_pos (by omega)] at hT
    rw [if_neg (by omega), if_neg (by omega)] at hC
    rw [if_neg (by omega), if_neg (by omega)] at hK
    rcases hS with ⟨s1, s2, s3, s6, s4⟩ | ⟨s1, s2, s3, s4, s5⟩
    · omega
    · refine ⟨n, b - 1, 1, ?_, hV.1, Or.inr ⟨rfl, by omega, by omega, by omega, by omega⟩, fun _ => Or.inl rfl, ?_⟩
      · unfold StI; omega
      · intro z; have := h4 z; omega
  · obtain ⟨rfl, q1, q2⟩ := q
    rw [rk_22] at hr hR
    rw [if_neg (by omega)] at hA
    rw [if_pos (by omega)] at hT
    rw [if_neg (by omega), if_neg (by omega)] at hC
    rw [if_neg (by omega), if_neg (by omega)] at hK
    rcases hS with ⟨s1, s2, s3, s6, s4⟩ | ⟨s1, s2, s3, s4, s5⟩
    · omega
    · refine ⟨n, b - 1, 1, ?_, hV.1, Or.inr ⟨rfl, by omega, by omega, by omega, by omega⟩, fun _ => Or.inl rfl, ?_⟩
      · unfold StI; omega
      · intro z; have := h4 z; omega
/-- where it stops, an asked segment's operand is a truth -/
theorem SV.stop {lst c0 n b tv : Int} {L : List Int} (h : SV lst c0 L n b tv) (he : vR L < lst ∨ L = []) (h0 : c0 = 1 ∧ lst ≤ 4) : tv = 1 := by
  obtain ⟨hV, -, h3, -⟩ := h
  rcases h3 h0 with q | q
  · exact q
  · exfalso
    cases L with
    | nil => exact absurd q (by decide)
    | cons e L =>
      have hC : vC (e :: L) = if 10 ≤ e ∧ e ≤ 15 then 1 else if (3 ≤ e ∧ e ≤ 6) ∨ e = 2 then vC L else 0 := rfl
      rw [hC] at q
      have he2 : rk e < lst := by
        rcases he with a | a
        · exact a
        · cases a
      by_cases z1 : 10 ≤ e ∧ e ≤ 15
      · have := rk_c z1.1 z1.2; omega
      · rw [if_neg z1] at q
        by_cases z2 : (3 ≤ e ∧ e ≤ 6) ∨ e = 2
        · rcases z2 with z2 | z2
          · have := rk_a z2.1 z2.2; omega
          · subst z2; rw [rk_2] at he2; omega
        · rw [if_neg z2] at q; omega
/-- the code that is written so far -/
def GP (t : Nat → Int32) (c F w : Nat) (n b : Int) : Prop := F ≤ w ∧ ∃ N B : Nat → Int, Good t c F w N B ∧ N w = n ∧ B w = b
theorem GP.begin {t : Nat → Int32} {c F : Nat} : GP t c F F 0 0 := ⟨Nat.le_refl _, fun _ => 0, fun _ => 0, ⟨rfl, rfl, fun i h1 h2 => absurd h1 (by omega)⟩, rfl, rfl⟩
theorem GP.emit {t : Nat → Int32} {c F w : Nat} {n b n2 b2 : Int} {o v : Int32} (h : GP t c F w n b) (hs : StI o v n b n2 b2) : GP (upd (upd t (c + 2 * w) o) (c + 2 * w + 1) v) c F (w + 1) n2 b2 := by
  obtain ⟨hF, N, B, ⟨g1, g2, g3⟩, e1, e2⟩ := h
  have hN : ∀ i, i ≤ w → (fun i => if i ≤ w then N i else n2) i = N i := fun i hi => by show (if i ≤ w then N i else n2) = N i; rw [if_pos hi]
  have hB : ∀ i, i ≤ w → (fun i => if i ≤ w then B i else b2) i = B i := fun i hi => by show (if i ≤ w then B i else b2) = B i; rw [if_pos hi]
  have hN2 : (fun i => if i ≤ w then N i else n2) (w + 1) = n2 := by show (if w + 1 ≤ w then N (w + 1) else n2) = n2; rw [if_neg (by omega)]
  have hB2 : (fun i => if i ≤ w then B i else b2) (w + 1) = b2 := by show (if w + 1 ≤ w then B (w + 1) else b2) = b2; rw [if_neg (by omega)]
  refine ⟨by omega, fun i => if i ≤ w then N i else n2, fun i => if i ≤ w then B i else b2, ⟨?_, ?_, ?_⟩, hN2, hB2⟩
  · rw [hN F hF]; exact g1
  · rw [hB F hF]; exact g2
  · intro i h1 h2
    rw [hN i (by omega), hB i (by omega)]
    by_cases q : i = w
    · subst q
      rw [hN2, hB2, pk_un (by omega), pk_us, pk_us, e1, e2]
      exact hs
    · rw [hN (i + 1) (by omega), hB (i + 1) (by omega), pk_un (by omega), pk_un (by omega), pk_un (by omega), pk_un (by omega)]
      exact g3 i h1 (by omega)
theorem GP.agree {t t2 : Nat → Int32} {c F w : Nat} {n b : Int} (h : GP t c F w n b) (e : ∀ j, c ≤ j → t2 j = t j) : GP t2 c F w n b := by
  obtain ⟨hF, N, B, ⟨g1, g2, g3⟩, e1, e2⟩ := h
  refine ⟨hF, N, B, ⟨g1, g2, fun i h1 h2 => ?_⟩, e1, e2⟩
  rw [e _ (by omega), e _ (by omega)]
  exact g3 i h1 h2
/-- below a place two rows are alike -/
def Below (b : Nat) (t t2 : Nat → Int32) : Prop := ∀ j, j < b → t2 j = t j
theorem Below.rf {b : Nat} {t : Nat → Int32} : Below b t t := fun _ _ => rfl
theorem Below.tr {b : Nat} {t t2 t3 : Nat → Int32} (h : Below b t t2) (h2 : Below b t2 t3) : Below b t t3 := fun j hj => (h2 j hj).trans (h j hj)
theorem Below_up {b k : Nat} {t t2 : Nat → Int32} {v : Int32} (h : Below b t t2) (hk : b ≤ k) : Below b t (upd t2 k v) := fun j hj => by rw [pk_un (by omega)]; exact h j hj
theorem list_cons {L : List Int} (h : 0 < L.length) : ∃ e L2, L = e :: L2 := by
  cases L with
  | nil => simp at h
  | cons e L2 => exact ⟨e, L2, rfl⟩
theorem rk_lt40 {e : Int} (h : 1 ≤ rk e) : e < 40 := by
  by_cases q : 40 ≤ e
  · rw [rk_m q] at h; omega
  · omega
theorem seg_pop {e : Int} {L : List Int} (h : 1 ≤ rk e) : vK (e :: L) = vK L ∧ vM (e :: L) = vM L ∧ vX (e :: L) = vX L := by
  have q := rk_lt40 h
  refine ⟨?_, ?_, ?_⟩
  · show (if e = 41 then 1 else if 40 ≤ e then 0 else vK L) = vK L; rw [if_neg (by omega), if_neg (by omega)]
  · show (if 40 ≤ e then e else vM L) = vM L; rw [if_neg (by omega)]
  · show (if 40 ≤ e then (L.length : Int) else vX L) = vX L; rw [if_neg (by omega)]
theorem vO_1 {e : Int} {L : List Int} (h : e = 2 ∨ e = 20) : vO (e :: L) = vO L + 1 := by
  show vO L + (if e = 2 ∨ e = 20 ∨ 40 ≤ e then 1 else 0) = vO L + 1; rw [if_pos (by omega)]
theorem vO_m {e : Int} {L : List Int} (h : 40 ≤ e) : vO (e :: L) = vO L + 1 := by
  show vO L + (if e = 2 ∨ e = 20 ∨ 40 ≤ e then 1 else 0) = vO L + 1; rw [if_pos (by omega)]
theorem vO_0 {e : Int} {L : List Int} (h : e ≠ 2 ∧ e ≠ 20) (h2 : e < 40) : vO (e :: L) = vO L := by
  show vO L + (if e = 2 ∨ e = 20 ∨ 40 ≤ e then 1 else 0) = vO L; rw [if_neg (by omega)]; omega
theorem vA_m {e : Int} {L : List Int} (h : 40 ≤ e ∧ e ≤ 42) : vA (e :: L) = vA L := by
  show vA L + (if (3 ≤ e ∧ e ≤ 6) ∨ (10 ≤ e ∧ e ≤ 15) ∨ e = 43 then 1 else 0) = vA L; rw [if_neg (by omega)]; omega
theorem vA_43 {L : List Int} : vA (43 :: L) = vA L + 1 := by
  show vA L + (if ((3 : Int) ≤ 43 ∧ (43 : Int) ≤ 6) ∨ ((10 : Int) ≤ 43 ∧ (43 : Int) ≤ 15) ∨ (43 : Int) = 43 then 1 else 0) = vA L + 1; rw [if_pos (by omega)]
theorem vA_b {e : Int} {L : List Int} (h : (3 ≤ e ∧ e ≤ 6) ∨ (10 ≤ e ∧ e ≤ 15)) : vA (e :: L) = vA L + 1 := by
  show vA L + (if (3 ≤ e ∧ e ≤ 6) ∨ (10 ≤ e ∧ e ≤ 15) ∨ e = 43 then 1 else 0) = vA L + 1; rw [if_pos (by omega)]
theorem vA_u {e : Int} {L : List Int} (h : e = 2 ∨ (20 ≤ e ∧ e ≤ 22)) : vA (e :: L) = vA L := by
  show vA L + (if (3 ≤ e ∧ e ≤ 6) ∨ (10 ≤ e ∧ e ≤ 15) ∨ e = 43 then 1 else 0) = vA L; rw [if_neg (by omega)]; omega
theorem vT_0 {e : Int} {L : List Int} (h : e ≤ 20 ∨ e = 40 ∨ e = 41) : vT (e :: L) = vT L := by
  show vT L + (if e = 21 ∨ e = 22 ∨ e = 42 ∨ e = 43 then 1 else 0) = vT L; rw [if_neg (by omega)]; omega
theorem vT_1 {e : Int} {L : List Int} (h : e = 21 ∨ e = 22 ∨ e = 42 ∨ e = 43) : vT (e :: L) = vT L + 1 := by
  show vT L + (if e = 21 ∨ e = 22 ∨ e = 42 ∨ e = 43 then 1 else 0) = vT L + 1; rw [if_pos h]
theorem vC_s {e : Int} {L : List Int} (h : PVal (e :: L)) (hr : 4 < rk e) : vC (e :: L) = vC L := by
  have q := rk_lt40 (e := e) (by omega)
  show (if 10 ≤ e ∧ e ≤ 15 then 1 else if (3 ≤ e ∧ e ≤ 6) ∨ e = 2 then vC L else 0) = vC L
  rcases h.2 with a | a | a | a | a | a | a
  · omega
  · rw [if_neg (by omega), if_pos (by omega)]
  · rw [if_neg (by omega), if_pos (by omega)]
  · have := rk_c a.1 a.2.1; omega
  · obtain ⟨rfl, -, -⟩ := a; rw [rk_20] at hr; omega
  · obtain ⟨rfl, -, -⟩ := a; rw [rk_21] at hr; omega
  · obtain ⟨rfl, -, -⟩ := a; rw [rk_22] at hr; omega
theorem vC_e {e : Int} {L : List Int} (h : PVal (e :: L)) (hr : rk e ≤ 4) : (rk e = 4 → vC (e :: L) = 1) ∧ (rk e ≠ 4 → vC (e :: L) = 0) := by
  show (rk e = 4 → (if 10 ≤ e ∧ e ≤ 15 then 1 else if (3 ≤ e ∧ e ≤ 6) ∨ e = 2 then vC L else 0) = 1) ∧ (rk e ≠ 4 → (if 10 ≤ e ∧ e ≤ 15 then 1 else if (3 ≤ e ∧ e ≤ 6) ∨ e = 2 then vC L else 0) = 0)
  rcases h.2 with a | a | a | a | a | a | a
  · rw [rk_m a.1]; exact ⟨fun z => by omega, fun _ => by rw [if_neg (by omega), if_neg (by omega)]⟩
  · subst a; rw [rk_2] at hr; omega
  · have := rk_a a.1 a.2.1; omega
  · rw [rk_c a.1 a.2.1]; exact ⟨fun _ => by rw [if_pos (by omega)], fun z => by omega⟩
  · obtain ⟨rfl, -, -⟩ := a; rw [rk_20]; exact ⟨fun z => by omega, fun _ => by rw [if_neg (by omega), if_neg (by omega)]⟩
  · obtain ⟨rfl, -, -⟩ := a; rw [rk_21]; exact ⟨fun z => by omega, fun _ => by rw [if_neg (by omega), if_neg (by omega)]⟩
  · obtain ⟨rfl, -, -⟩ := a; rw [rk_22]; exact ⟨fun z => by omega, fun _ => by rw [if_neg (by omega), if_neg (by omega)]⟩
/-- the reader's state -/
def PSx (t f : Nat → Int32) (tx0 : Int) (F : Nat) (L : List Int) (w p op n b : Int) : Prop := p = (L.length : Int) ∧ Rep f L ∧ PVal L ∧ op = vO L ∧ op ≤ 8 ∧ 0 ≤ w ∧ GP t (tx0.toNat + 75) F w.toNat n b
def BA (td : Int) (f : Nat → Int32) (k : Int) : Int := if k < td then (f k.toNat).toInt else -1
theorem PSx.len {t f : Nat → Int32} {tx0 : Int} {F : Nat} {L : List Int} {w p op n b : Int} (h : PSx t f tx0 F L w p op n b) : 0 ≤ p ∧ p ≤ 71 := by
  obtain ⟨h1, h2, h3, h4, h5, -, -⟩ := h
  have a := pl_len L h3
  have b := vR_rng L
  omega
theorem PSx.push {t f : Nat → Int32} {tx0 : Int} {F : Nat} {L : List Int} {w p op n b : Int} {v : Int32} {k : Nat} (h : PSx t f tx0 F L w p op n b) (hk : (k : Int) = p) (ho : okp v.toInt L) {p2 op2 : Int} (hp : p2 = p + 1) (hop : op2 = vO (v.toInt :: L)) (h8 : op2 ≤ 8) : PSx t (upd f k v) tx0 F (v.toInt :: L) w p2 op2 n b := by
  obtain ⟨h1, h2, h3, h4, h5, h6, h7⟩ := h
  refine ⟨?_, Rep.push (k := k) (by omega) h2, ⟨h3, ho⟩, hop, h8, h6, h7⟩
  rw [hp, h1]; simp
theorem PSx.emit {t f : Nat → Int32} {tx0 : Int} {F : Nat} {L : List Int} {w p op n b n2 b2 w2 : Int} {o v : Int32} (h : PSx t f tx0 F L w p op n b) (hs : StI o v n b n2 b2) (hw : w2 = w + 1) : PSx (upd (upd t (tx0.toNat + 75 + 2 * w.toNat) o) (tx0.toNat + 75 + 2 * w.toNat + 1) v) f tx0 F L w2 p op n2 b2 := by
  obtain ⟨h1, h2, h3, h4, h5, h6, h7⟩ := h
  refine ⟨h1, h2, h3, h4, h5, by omega, ?_⟩
  rw [show w2.toNat = w.toNat + 1 by omega]
  exact h7.emit hs
theorem v_open {e : Int} {L : List Int} (h : e = 2 ∨ e = 20 ∨ e = 40 ∨ e = 41) : vA (e :: L) = vA L ∧ vT (e :: L) = vT L ∧ vO (e :: L) = vO L + 1 := by
  refine ⟨?_, vT_0 (by omega), ?_⟩
  · rcases h with h | h | h | h
    · exact vA_u (by omega)
    · exact vA_u (by omega)
    · exact vA_m (by omega)
    · exact vA_m (by omega)
  · rcases h with h | h | h | h
    · exact vO_1 (by omega)
    · exact vO_1 (by omega)
    · exact vO_m (by omega)
    · exact vO_m (by omega)
theorem PSx.congr {t f : Nat → Int32} {tx0 : Int} {F : Nat} {L : List Int} {w p op n b n2 b2 : Int} (h : PSx t f tx0 F L w p op n b) (hn : n = n2) (hb : b = b2) : PSx t f tx0 F L w p op n2 b2 := by subst hn; subst hb; exact h
/-- the marker on top goes -/
theorem PSx.drop {t f : Nat → Int32} {tx0 : Int} {F : Nat} {e : Int} {L : List Int} {w p op n b p2 op2 : Int} (h : PSx t f tx0 F (e :: L) w p op n b) (he : 40 ≤ e) (hp : p2 = p - 1) (ho : op2 = op - 1) : PSx t f tx0 F L w p2 op2 n b := by
  obtain ⟨h1, h2, h3, h4, h5, h6, h7⟩ := h
  have hl : ((e :: L).length : Int) = (L.length : Int) + 1 := by simp
  have hm := vO_m (L := L) he
  exact ⟨by omega, h2.2, h3.1, by omega, by omega, h6, h7⟩
/-- the marker on top is another one -/
theorem PSx.turn {t f : Nat → Int32} {tx0 : Int} {F : Nat} {e : Int} {L : List Int} {w p op n b : Int} {v : Int32} {k : Nat} (h : PSx t f tx0 F (e :: L) w p op n b) (he : 40 ≤ e) (hk : (k : Int) = vX (e :: L)) (hv : 40 ≤ v.toInt ∧ v.toInt ≤ 43) : PSx t (upd f k v) tx0 F (v.toInt :: L) w p op n b := by
  obtain ⟨h1, h2, h3, h4, h5, h6, h7⟩ := h
  have hx : vX (e :: L) = (L.length : Int) := by show (if 40 ≤ e then (L.length : Int) else vX L) = L.length; rw [if_pos he]
  have hm := vO_m (L := L) he
  have hm2 := vO_m (L := L) hv.1
  refine ⟨?_, Rep.push (k := k) (by omega) h2.2, ⟨h3.1, Or.inl hv⟩, by omega, h5, h6, h7⟩
  rw [h1]; simp
theorem vK_01 : ∀ L : List Int, vK L = 0 ∨ vK L = 1 := by
  intro L
  induction L with
  | nil => exact Or.inl rfl
  | cons e L ih =>
    show (if e = 41 then (1 : Int) else if 40 ≤ e then 0 else vK L) = 0 ∨ (if e = 41 then (1 : Int) else if 40 ≤ e then 0 else vK L) = 1
    by_cases q : e = 41
    · rw [if_pos q]; exact Or.inr rfl
    · rw [if_neg q]
      by_cases q2 : 40 ≤ e
      · rw [if_pos q2]; exact Or.inl rfl
      · rw [if_neg q2]; exact ih
theorem vC_K : ∀ {L : List Int}, PVal L → vK L = 0 → vC L = 0 := by
  intro L
  induction L with
  | nil => intro _ _; rfl
  | cons e L ih =>
    intro h hk
    have hK : vK (e :: L) = if e = 41 then 1 else if 40 ≤ e then 0 else vK L := rfl
    rw [hk] at hK
    show (if 10 ≤ e ∧ e ≤ 15 then (1 : Int) else if (3 ≤ e ∧ e ≤ 6) ∨ e = 2 then vC L else 0) = 0
    rcases h.2 with a | a | a | a | a | a | a
    · rw [if_neg (by omega), if_neg (by omega)]
    · rw [if_neg (by omega), if_neg (by omega)] at hK
      rw [if_neg (by omega), if_pos (by omega)]; exact ih h.1 hK.symm
    · rw [if_neg (by omega), if_neg (by omega)] at hK
      rw [if_neg (by omega), if_pos (by omega)]; exact ih h.1 hK.symm
    · rw [if_neg (by omega), if_neg (by omega)] at hK
      have := a.2.2.1; omega
    · rw [if_neg (by omega), if_neg (by omega)]
    · rw [if_neg (by omega), if_neg (by omega)]
    · rw [if_neg (by omega), if_neg (by omega)]
theorem vM_c {e : Int} {L : List Int} (h : 40 ≤ e) : vM (e :: L) = e := by
  show (if 40 ≤ e then e else vM L) = e; rw [if_pos h]
theorem vX_c {e : Int} {L : List Int} (h : 40 ≤ e) : vX (e :: L) = (L.length : Int) := by
  show (if 40 ≤ e then (L.length : Int) else vX L) = L.length; rw [if_pos h]
/-- a text as it is read: its clauses so far, their code below w -/
def ClauseW (t : Nat → Int32) (k n w : Nat) : Prop := ∃ (F T : Nat) (N B : Nat → Int), (t (680 * k + 1 + 3 * n + 1)).toInt = (F : Int) ∧ (t (680 * k + 1 + 3 * n + 2)).toInt = (T : Int) ∧ F ≤ T ∧ T ≤ w ∧ Good t (680 * k + 75) F T N B
def RTx (t : Nat → Int32) (k w : Nat) : Prop := (0 ≤ (t (680 * k)).toInt ∧ (t (680 * k)).toInt ≤ 24) ∧ ∀ n : Nat, (n : Int) < (t (680 * k)).toInt → (t (680 * k + 1 + 3 * n)).toInt ≤ 2 → ClauseW t k n w
theorem Good.agree {t t2 : Nat → Int32} {c F T : Nat} {N B : Nat → Int} (h : Good t c F T N B) (e : ∀ j, c ≤ j → j < c + 2 * T → t2 j = t j) : Good t2 c F T N B := by
  obtain ⟨g1, g2, g3⟩ := h
  refine ⟨g1, g2, fun i h1 h2 => ?_⟩
  rw [e _ (by omega) (by omega), e _ (by omega) (by omega)]
  exact g3 i h1 h2
theorem ClauseW.agree {t t2 : Nat → Int32} {k n w w2 : Nat} (h : ClauseW t k n w) (hw : w ≤ w2) (e1 : t2 (680 * k + 1 + 3 * n + 1) = t (680 * k + 1 + 3 * n + 1)) (e2 : t2 (680 * k + 1 + 3 * n + 2) = t (680 * k + 1 + 3 * n + 2)) (e3 : ∀ j, 680 * k + 75 ≤ j → j < 680 * k + 75 + 2 * w → t2 j = t j) : ClauseW t2 k n w2 := by
  obtain ⟨F, T, N, B, a1, a2, a3, a4, a5⟩ := h
  exact ⟨F, T, N, B, by rw [e1]; exact a1, by rw [e2]; exact a2, a3, by omega, a5.agree (fun j h1 h2 => e3 j h1 (by omega))⟩
theorem RTx.ok {t : Nat → Int32} {k w : Nat} (h : RTx t k w) (hw : w ≤ 301) : TextOK t k := by
  refine ⟨h.1, fun n h1 h2 => ?_⟩
  obtain ⟨F, T, N, B, a1, a2, a3, a4, a5⟩ := h.2 n h1 h2
  exact ⟨F, T, N, B, a1, a2, a3, by omega, a5⟩
/-- a law more -/
theorem RTx.law {t t2 : Nat → Int32} {k w w2 n : Nat} {s f w3 c : Int32} (h : RTx t k w) (hn : (t (680 * k)).toInt = (n : Int)) (hn2 : n < 24) (hb : Below (680 * k + 75 + 2 * w) (upd t (680 * k + 1 + 3 * n) s) t2) (hG : GP t2 (680 * k + 75) w w2 1 0) (hf : f.toInt = (w : Int)) (hw3 : w3.toInt = (w2 : Int)) (hc : c.toInt = (n : Int) + 1) : RTx (upd (upd (upd t2 (680 * k + 1 + 3 * n + 1) f) (680 * k + 1 + 3 * n + 2) w3) (680 * k) c) k w2 := by
  obtain ⟨hF, N, B, gG, e1, e2⟩ := hG
  have r0 : ∀ j, j ≠ 680 * k → j ≠ 680 * k + 1 + 3 * n + 1 → j ≠ 680 * k + 1 + 3 * n + 2 → (upd (upd (upd t2 (680 * k + 1 + 3 * n + 1) f) (680 * k + 1 + 3 * n + 2) w3) (680 * k) c) j = t2 j := fun j a1 a2 a3 => by rw [pk_un a1, pk_un a3, pk_un a2]
  have r1 : ∀ j, j < 680 * k + 75 + 2 * w → j ≠ 680 * k + 1 + 3 * n → t2 j = t j := fun j a1 a2 => by rw [hb j a1, pk_un a2]
  refine ⟨?_, ?_⟩
  · rw [pk_us, hc]; omega
  · intro m hm hs
    rw [pk_us, hc] at hm
    by_cases q : m = n
    · subst q
      refine ⟨w, w2, N, B, ?_, ?_, hF, Nat.le_refl _, gG.agree (fun j h1 h2 => r0 j (by omega) (by omega) (by omega))⟩
      · rw [pk_un (by omega), pk_un (by omega), pk_us]; exact hf
      · rw [pk_un (by omega), pk_us]; exact hw3
    · have hm2 : m < n := by omega
      rw [r0 _ (by omega) (by omega) (by omega), r1 _ (by omega) (by omega)] at hs
      refine (h.2 m (by omega) hs).agree hF ?_ ?_ ?_
      · rw [r0 _ (by omega) (by omega) (by omega), r1 _ (by omega) (by omega)]
      · rw [r0 _ (by omega) (by omega) (by omega), r1 _ (by omega) (by omega)]
      · intro j h1 h2
        rw [r0 _ (by omega) (by omega) (by omega), r1 _ (by omega) (by omega)]
/-- an order more -/
theorem RTx.order {t : Nat → Int32} {k w n : Nat} {s v c : Int32} (h : RTx t k w) (hn : (t (680 * k)).toInt = (n : Int)) (hn2 : n < 24) (hs : 3 ≤ s.toInt) (hc : c.toInt = (n : Int) + 1) : RTx (upd (upd (upd t (680 * k + 1 + 3 * n) s) (680 * k + 1 + 3 * n + 1) v) (680 * k) c) k w := by
  have r0 : ∀ j, j ≠ 680 * k → j ≠ 680 * k + 1 + 3 * n + 1 → j ≠ 680 * k + 1 + 3 * n → (upd (upd (upd t (680 * k + 1 + 3 * n) s) (680 * k + 1 + 3 * n + 1) v) (680 * k) c) j = t j := fun j a1 a2 a3 => by rw [pk_un a1, pk_un a2, pk_un a3]
  refine ⟨?_, ?_⟩
  · rw [pk_us, hc]; omega
  · intro m hm hs2
    rw [pk_us, hc] at hm
    by_cases q : m = n
    · subst q
      rw [pk_un (by omega), pk_un (by omega), pk_us] at hs2
      omega
    · rw [r0 _ (by omega) (by omega) (by omega)] at hs2
      refine (h.2 m (by omega) hs2).agree (Nat.le_refl _) ?_ ?_ ?_
      · rw [r0 _ (by omega) (by omega) (by omega)]
      · rw [r0 _ (by omega) (by omega) (by omega)]
      · intro j h1 h2
        rw [r0 _ (by omega) (by omega) (by omega)]
theorem TOK.next {t t2 : Nat → Int32} {k : Nat} (h : TOK (k : Int) t) (hb : Below (680 * k) t t2) (h2 : TextOK t2 k) : TOK ((k : Int) + 1) t2 := by
  intro j hj
  by_cases q : j = k
  · subst q; exact h2
  · have hjk : j < k := by omega
    obtain ⟨a1, a2⟩ := h j (by omega)
    refine ⟨by rw [hb _ (by omega)]; exact a1, fun n h1 h3 => ?_⟩
    rw [hb _ (by omega)] at h1
    have hn : n < 24 := by omega
    rw [hb _ (by omega)] at h3
    obtain ⟨F, T, N, B, b1, b2, b3, b4, b5⟩ := a2 n h1 h3
    exact ⟨F, T, N, B, by rw [hb _ (by omega)]; exact b1, by rw [hb _ (by omega)]; exact b2, b3, b4, b5.agree (fun i h1 h2 => hb i (by omega))⟩
theorem TOK.keep {t t2 : Nat → Int32} {k : Nat} (h : TOK (k : Int) t) (hb : Below (680 * k) t t2) : TOK (k : Int) t2 := by
  intro j hj
  obtain ⟨a1, a2⟩ := h j hj
  have hjk : j < k := by omega
  refine ⟨by rw [hb _ (by omega)]; exact a1, fun n h1 h3 => ?_⟩
  rw [hb _ (by omega)] at h1
  have hn : n < 24 := by omega
  rw [hb _ (by omega)] at h3
  obtain ⟨F, T, N, B, b1, b2, b3, b4, b5⟩ := a2 n h1 h3
  exact ⟨F, T, N, B, by rw [hb _ (by omega)]; exact b1, by rw [hb _ (by omega)]; exact b2, b3, b4, b5.agree (fun i h1 h2 => hb i (by omega))⟩

set_option maxHeartbeats 4000000 in
set_option maxRecDepth 100000 in
theorem c_X12_byteAt (l : Launch) (D : va_G) (cI cM cT cJ cZ : ClassId) (q : Nat) (p0 : Int32) (aA : Nat) (aI : Nat) (xT : Nat) (tP_ : Nat) (td : Int32) (fu : Int32) (fp : Int32) (at_ : Int32) (plc : Int32) (tok : Int32) (num : Int32) (wrd : Int64) (tx0 : Int32) (cls : Int32) (wri : Int32) (cam : Int32) (pI : Nat) (pid : Int32) (ope : Int32) (isw : Int32) (so0 : Int32) (onc : Int32) (nm : Nat) (vL : Nat) (tR : Nat) (spp : Int32) (eat : Int32) (ste : Int32) (rW : Nat) (sP : Nat) (oT : Nat) (bS : Nat) (aS : Nat) (aO : Nat) (cS : Nat) (wY : Nat) (ftp : Nat → Int32) (ha_p0 : 0 ≤ p0.toInt ∧ p0.toInt ≤ 300) (hi_td : 0 ≤ td.toInt ∧ td.toInt ≤ 300) (hi_spp : 0 ≤ spp.toInt ∧ spp.toInt ≤ 299) : Ci l D (ty3 cI cM cT cJ cZ) yX12_byteAt cX12_byteAt 2 (some .int) 0 0 0 [.ref q, .int p0] ([(q, .inr (12, [.ref aA, .ref aI, .ref xT, .ref tP_, .int td, .int fu, .int fp, .int at_, .int plc, .int tok, .int num, .long wrd, .int tx0, .int cls, .int wri, .int cam, .ref pI, .int pid, .int ope, .int isw, .int so0, .int onc, .ref nm, .ref vL, .ref tR, .int spp, .int eat, .int ste, .ref rW, .ref sP, .ref oT, .ref bS, .ref aS, .ref aO, .ref cS, .ref wY])), (tP_, .inl (cI, 300, .inl ftp))]) (fun r u => u = [(q, .inr (12, [.ref aA, .ref aI, .ref xT, .ref tP_, .int td, .int fu, .int fp, .int at_, .int plc, .int tok, .int num, .long wrd, .int tx0, .int cls, .int wri, .int cam, .ref pI, .int pid, .int ope, .int isw, .int so0, .int onc, .ref nm, .ref vL, .ref tR, .int spp, .int eat, .int ste, .ref rW, .ref sP, .ref oT, .ref bS, .ref aS, .ref aO, .ref cS, .ref wY])), (tP_, .inl (cI, 300, .inl ftp))] ∧ r.toInt = BA td.toInt ftp p0.toInt) := by
  refine Ci.of (by decide +kernel) (Nat.le_of_ble_eq_true rfl) ?_
  intro p e s m below meth c A ls Z hin hP hD hl
  have hx := Z.1
  have hb := Z.2.1
  have hS : va_S A s.heap s.heap [] := va_S.rf
  have hl : lv_has ls 2 [(0, .ref q), (1, .int p0)] := hl
  skip
  refine lv_iload_n hx hb dX12_byteAt_0 rfl (lv_at hl 1 rfl) ?_
  refine lv_aload_n hx hb dX12_byteAt_1 rfl (lv_at hl 0 rfl) ?_
  refine z_get Z i_X12 hP 0 rfl rfl 4 (by decide) bw_1023 rfl dX12_byteAt_2 ?_
  refine lv_icmp_ge (tgt := 17) hx hb dX12_byteAt_5 (by decide) (fun c1 => ?_) (fun c1 => ?_)
  · refine lv_iconst (v := (-1)) hx hb dX12_byteAt_17 (by decide) ?_
    exact z_ret Z rfl hP hD hS (⟨rfl, (by unfold BA; rw [if_neg (by (try simp only [zlt, zle, zeq, zl_0, zl_1, zl_2, zl_3, zl_4, zl_5, zl_6, zl_7, zl_8, zl_9, zl_10, zl_11, zl_12, zl_13, zl_14, zl_15, zl_16, zl_17, zl_18, zl_19, zl_20, zl_21, zl_22, zl_23, zl_24, zl_25, zl_26, zl_27, zl_28, zl_29, zl_30, zl_31, zl_32, zl_33, zl_34, zl_35, zl_36, zl_37, zl_38, zl_39, zl_40, zl_41, zl_42, zl_43, zl_44, zl_45, zl_46, zl_47, zl_48, zl_49, zl_50, zl_51, zl_52, zl_53, zl_54, zl_55, zl_56, zl_57, zl_58, zl_59, zl_60, zl_61, zl_62, zl_63, zl_64, zl_65, zl_82, zl_99, zl_100, zl_160, zl_299, zl_300, zl_301, zl_382, zl_398, zl_399, zl_464, zl_680, zl_862, zl_999, zl_1000, zl_9999, zl_10000, zl_1000000, zl_m1, zl_m2, zl_m3, zl_m8, zl_97, zl_122, zl_90, zl_100000, zl_75] at ha_p0 hi_td hi_spp c1 ⊢); omega)]; decide)⟩) dX12_byteAt_18 (Nat.le_of_ble_eq_true rfl) (Nat.le_of_ble_eq_true rfl)
  · refine lv_aload_n hx hb dX12_byteAt_8 rfl (lv_at hl 0 rfl) ?_
    refine z_get Z i_X12 hP 0 rfl rfl 3 (by decide) bw_1022 rfl dX12_byteAt_9 ?_
    refine lv_iload_n hx hb dX12_byteAt_12 rfl (lv_at hl 1 rfl) ?_
    refine z_iald Z hP 1 0 rfl rfl (vp_in_iff.mpr (by (try simp only [zlt, zle, zeq, zl_0, zl_1, zl_2, zl_3, zl_4, zl_5, zl_6, zl_7, zl_8, zl_9, zl_10, zl_11, zl_12, zl_13, zl_14, zl_15, zl_16, zl_17, zl_18, zl_19, zl_20, zl_21, zl_22, zl_23, zl_24, zl_25, zl_26, zl_27, zl_28, zl_29, zl_30, zl_31, zl_32, zl_33, zl_34, zl_35, zl_36, zl_37, zl_38, zl_39, zl_40, zl_41, zl_42, zl_43, zl_44, zl_45, zl_46, zl_47, zl_48, zl_49, zl_50, zl_51, zl_52, zl_53, zl_54, zl_55, zl_56, zl_57, zl_58, zl_59, zl_60, zl_61, zl_62, zl_63, zl_64, zl_65, zl_82, zl_99, zl_100, zl_160, zl_299, zl_300, zl_301, zl_382, zl_398, zl_399, zl_464, zl_680, zl_862, zl_999, zl_1000, zl_9999, zl_10000, zl_1000000, zl_m1, zl_m2, zl_m3, zl_m8, zl_97, zl_122, zl_90, zl_100000, zl_75] at ha_p0 hi_td hi_spp c1 ⊢); omega)) dX12_byteAt_13 ?_
    refine lv_topi (fun z2 ez2 => ?_)
    refine lv_goto (tgt := 18) hx hb dX12_byteAt_14 (by decide) ?_
    exact z_ret Z rfl hP hD hS (⟨rfl, (by unfold BA; rw [if_pos (by (try simp only [zlt, zle, zeq, zl_0, zl_1, zl_2, zl_3, zl_4, zl_5, zl_6, zl_7, zl_8, zl_9, zl_10, zl_11, zl_12, zl_13, zl_14, zl_15, zl_16, zl_17, zl_18, zl_19, zl_20, zl_21, zl_22, zl_23, zl_24, zl_25, zl_26, zl_27, zl_28, zl_29, zl_30, zl_31, zl_32, zl_33, zl_34, zl_35, zl_36, zl_37, zl_38, zl_39, zl_40, zl_41, zl_42, zl_43, zl_44, zl_45, zl_46, zl_47, zl_48, zl_49, zl_50, zl_51, zl_52, zl_53, zl_54, zl_55, zl_56, zl_57, zl_58, zl_59, zl_60, zl_61, zl_62, zl_63, zl_64, zl_65, zl_82, zl_99, zl_100, zl_160, zl_299, zl_300, zl_301, zl_382, zl_398, zl_399, zl_464, zl_680, zl_862, zl_999, zl_1000, zl_9999, zl_10000, zl_1000000, zl_m1, zl_m2, zl_m3, zl_m8, zl_97, zl_122, zl_90, zl_100000, zl_75] at ha_p0 hi_td hi_spp c1 ⊢); omega), ez2]; rfl)⟩) dX12_byteAt_18 (Nat.le_of_ble_eq_true rfl) (Nat.le_of_ble_eq_true rfl)
set_option maxHeartbeats 4000000 in
set_option maxRecDepth 100000 in
theorem c_X12_isLetter (l : Launch) (D : va_G) (cI cM cT cJ cZ : ClassId) (p0 : Int32) : Ci l D (ty3 cI cM cT cJ cZ) yX12_isLetter cX12_isLetter 1 (some .boolean) 1 0 0 [.int p0] ([]) (fun r u => r = (if (97 ≤ p0.toInt ∧ p0.toInt ≤ 122) ∨ (65 ≤ p0.toInt ∧ p0.toInt ≤ 90) then 1 else 0) ∧ u = []) := by
  refine Ci.of (by decide +kernel) (Nat.le_of_ble_eq_true rfl) ?_
  intro p e s m below meth c A ls Z hin hP hD hl
  have hx := Z.1
  have hb := Z.2.1
  have hS : va_S A s.heap s.heap [] := va_S.rf
  have hl : lv_has ls 1 [(0, .int p0)] := hl
  skip
  refine lv_iload_n hx hb dX12_isLetter_0 rfl (lv_at hl 0 rfl) ?_
  refine lv_bipush (v := 97) hx hb dX12_isLetter_1 (by decide) ?_
  refine lv_bipush (v := 122) hx hb dX12_isLetter_3 (by decide) ?_
  have hPc := hP.sub2 (wc := []) [] rfl
  have hDc := hD.sub (ws' := []) [] (by decide) rfl
  refine raw_Si (nA := 3) (As := [.int p0, .int 97, .int 122]) (rest := []) Z hl.1 (c_X12_isIn l D cI cM cT cJ cZ p0 97 122) (bw_S bw_1135 bw_1136 bw_92 bw_1137) ⟨by decide +kernel, by decide +kernel, by decide +kernel⟩ rfl ⟨Nat.le_of_ble_eq_true rfl, Nat.le_of_ble_eq_true rfl⟩ hPc hDc hS rfl (Nat.le_of_ble_eq_true rfl) dX12_isLetter_5 ⟨Nat.le_of_ble_eq_true rfl, Nat.le_of_ble_eq_true rfl⟩ (fun r2 u1 H1 locs1 h3 hku1 hP1 hD1 hS1 => ?_)
  obtain ⟨hrh3, rfl⟩ := h3
  obtain ⟨hP, hD⟩ := z_join (wr := []) Z hS hP hD [] [] rfl (by decide) rfl (by decide) (by decide) hku1 hP1 hD1
  have hS := hS1
  clear hS1
  generalize H1 = H at hP hS ⊢
  generalize locs1 = locs at hS ⊢
  have hP : va_P D vwCl ([]) H := hP
  have hD : va_D A ([]) := hD
  by_cases c4 : 97 ≤ p0 ∧ p0 ≤ 122
  · obtain rfl : r2 = 1 := by rw [hrh3, if_pos c4]
    refine lv_if_ne (tgt := 22) hx hb dX12_isLetter_8 (by decide) (fun c5 => ?_) (fun h => absurd h (by decide))
    refine lv_iconst (v := 1) hx hb dX12_isLetter_22 (by decide) ?_
    refine lv_goto (tgt := 27) hx hb dX12_isLetter_23 (by decide) ?_
    exact z_ret Z rfl hP hD hS (⟨(if_pos (by (try simp only [zlt, zle, zeq, zl_0, zl_1, zl_2, zl_3, zl_4, zl_5, zl_6, zl_7, zl_8, zl_9, zl_10, zl_11, zl_12, zl_13, zl_14, zl_15, zl_16, zl_17, zl_18, zl_19, zl_20, zl_21, zl_22, zl_23, zl_24, zl_25, zl_26, zl_27, zl_28, zl_29, zl_30, zl_31, zl_32, zl_33, zl_34, zl_35, zl_36, zl_37, zl_38, zl_39, zl_40, zl_41, zl_42, zl_43, zl_44, zl_45, zl_46, zl_47, zl_48, zl_49, zl_50, zl_51, zl_52, zl_53, zl_54, zl_55, zl_56, zl_57, zl_58, zl_59, zl_60, zl_61, zl_62, zl_63, zl_64, zl_65, zl_82, zl_99, zl_100, zl_160, zl_299, zl_300, zl_301, zl_382, zl_398, zl_399, zl_464, zl_680, zl_862, zl_999, zl_1000, zl_9999, zl_10000, zl_1000000, zl_m1, zl_m2, zl_m3, zl_m8, zl_97, zl_122, zl_90, zl_100000, zl_75] at c4 c5 ⊢); omega)).symm, rfl⟩) dX12_isLetter_27 (Nat.le_of_ble_eq_true rfl) (Nat.le_of_ble_eq_true rfl)
  · obtain rfl : r2 = 0 := by rw [hrh3, if_neg c4]
    refine lv_if_ne (tgt := 22) hx hb dX12_isLetter_8 (by decide) (fun h => absurd (by decide) h) (fun c6 => ?_)
    refine lv_iload_n hx hb dX12_isLetter_11 rfl (lv_at hl 0 rfl) ?_
    refine lv_bipush (v := 65) hx hb dX12_isLetter_12 (by decide) ?_
    refine lv_bipush (v := 90) hx hb dX12_isLetter_14 (by decide) ?_
    have hPc := hP.sub2 (wc := []) [] rfl
    have hDc := hD.sub (ws' := []) [] (by decide) rfl
    refine raw_Si (nA := 3) (As := [.int p0, .int 65, .int 90]) (rest := []) Z hl.1 (c_X12_isIn l D cI cM cT cJ cZ p0 65 90) (bw_S bw_1135 bw_1136 bw_92 bw_1137) ⟨by decide +kernel, by decide +kernel, by decide +kernel⟩ rfl ⟨Nat.le_of_ble_eq_true rfl, Nat.le_of_ble_eq_true rfl⟩ hPc hDc hS rfl (Nat.le_of_ble_eq_true rfl) dX12_isLetter_16 ⟨Nat.le_of_ble_eq_true rfl, Nat.le_of_ble_eq_true rfl⟩ (fun r8 u7 H1 locs1 h9 hku7 hP1 hD1 hS1 => ?_)
    obtain ⟨hrh9, rfl⟩ := h9
    obtain ⟨hP, hD⟩ := z_join (wr := []) Z hS hP hD [] [] rfl (by decide) rfl (by decide) (by decide) hku7 hP1 hD1
    have hS := hS1
    clear hS1
    generalize H1 = H at hP hS ⊢
    generalize locs1 = locs at hS ⊢
    have hP : va_P D vwCl ([]) H := hP
    have hD : va_D A ([]) := hD
    by_cases c10 : 65 ≤ p0 ∧ p0 ≤ 90
    · obtain rfl : r8 = 1 := by rw [hrh9, if_pos c10]
      refine lv_if_eq (tgt := 26) hx hb dX12_isLetter_19 (by decide) (fun h => absurd h (by decide)) (fun c11 => ?_)
      refine lv_iconst (v := 1) hx hb dX12_isLetter_22 (by decide) ?_
      refine lv_goto (tgt := 27) hx hb dX12_isLetter_23 (by decide) ?_
      exact z_ret Z rfl hP hD hS (⟨(if_pos (by (try simp only [zlt, zle, zeq, zl_0, zl_1, zl_2, zl_3, zl_4, zl_5, zl_6, zl_7, zl_8, zl_9, zl_10, zl_11, zl_12, zl_13, zl_14, zl_15, zl_16, zl_17, zl_18, zl_19, zl_20, zl_21, zl_22, zl_23, zl_24, zl_25, zl_26, zl_27, zl_28, zl_29, zl_30, zl_31, zl_32, zl_33, zl_34, zl_35, zl_36, zl_37, zl_38, zl_39, zl_40, zl_41, zl_42, zl_43, zl_44, zl_45, zl_46, zl_47, zl_48, zl_49, zl_50, zl_51, zl_52, zl_53, zl_54, zl_55, zl_56, zl_57, zl_58, zl_59, zl_60, zl_61, zl_62, zl_63, zl_64, zl_65, zl_82, zl_99, zl_100, zl_160, zl_299, zl_300, zl_301, zl_382, zl_398, zl_399, zl_464, zl_680, zl_862, zl_999, zl_1000, zl_9999, zl_10000, zl_1000000, zl_m1, zl_m2, zl_m3, zl_m8, zl_97, zl_122, zl_90, zl_100000, zl_75] at c4 c6 c10 c11 ⊢); omega)).symm, rfl⟩) dX12_isLetter_27 (Nat.le_of_ble_eq_true rfl) (Nat.le_of_ble_eq_true rfl)
    · obtain rfl : r8 = 0 := by rw [hrh9, if_neg c10]
      refine lv_if_eq (tgt := 26) hx hb dX12_isLetter_19 (by decide) (fun c12 => ?_) (fun h => absurd (by decide) h)
      refine lv_iconst (v := 0) hx hb dX12_isLetter_26 (by decide) ?_
      exact z_ret Z rfl hP hD hS (⟨(if_neg (by (try simp only [zlt, zle, zeq, zl_0, zl_1, zl_2, zl_3, zl_4, zl_5, zl_6, zl_7, zl_8, zl_9, zl_10, zl_11, zl_12, zl_13, zl_14, zl_15, zl_16, zl_17, zl_18, zl_19, zl_20, zl_21, zl_22, zl_23, zl_24, zl_25, zl_26, zl_27, zl_28, zl_29, zl_30, zl_31, zl_32, zl_33, zl_34, zl_35, zl_36, zl_37, zl_38, zl_39, zl_40, zl_41, zl_42, zl_43, zl_44, zl_45, zl_46, zl_47, zl_48, zl_49, zl_50, zl_51, zl_52, zl_53, zl_54, zl_55, zl_56, zl_57, zl_58, zl_59, zl_60, zl_61, zl_62, zl_63, zl_64, zl_65, zl_82, zl_99, zl_100, zl_160, zl_299, zl_300, zl_301, zl_382, zl_398, zl_399, zl_464, zl_680, zl_862, zl_999, zl_1000, zl_9999, zl_10000, zl_1000000, zl_m1, zl_m2, zl_m3, zl_m8, zl_97, zl_122, zl_90, zl_100000, zl_75] at c4 c6 c10 c12 ⊢); omega)).symm, rfl⟩) dX12_isLetter_27 (Nat.le_of_ble_eq_true rfl) (Nat.le_of_ble_eq_true rfl)
set_option maxHeartbeats 4000000 in
set_option maxRecDepth 100000 in
theorem c_X12_isDigit (l : Launch) (D : va_G) (cI cM cT cJ cZ : ClassId) (p0 : Int32) : Ci l D (ty3 cI cM cT cJ cZ) yX12_isDigit cX12_isDigit 1 (some .boolean) 1 0 0 [.int p0] ([]) (fun r u => r = (if 48 ≤ p0.toInt ∧ p0.toInt ≤ 57 then 1 else 0) ∧ u = []) := by
  refine Ci.of (by decide +kernel) (Nat.le_of_ble_eq_true rfl) ?_
  intro p e s m below meth c A ls Z hin hP hD hl
  have hx := Z.1
  have hb := Z.2.1
  have hS : va_S A s.heap s.heap [] := va_S.rf
  have hl : lv_has ls 1 [(0, .int p0)] := hl
  skip
  refine lv_iload_n hx hb dX12_isDigit_0 rfl (lv_at hl 0 rfl) ?_
  refine lv_bipush (v := 48) hx hb dX12_isDigit_1 (by decide) ?_
  refine lv_bipush (v := 57) hx hb dX12_isDigit_3 (by decide) ?_
  have hPc := hP.sub2 (wc := []) [] rfl
  have hDc := hD.sub (ws' := []) [] (by decide) rfl
  refine raw_Si (nA := 3) (As := [.int p0, .int 48, .int 57]) (rest := []) Z hl.1 (c_X12_isIn l D cI cM cT cJ cZ p0 48 57) (bw_S bw_1135 bw_1136 bw_92 bw_1137) ⟨by decide +kernel, by decide +kernel, by decide +kernel⟩ rfl ⟨Nat.le_of_ble_eq_true rfl, Nat.le_of_ble_eq_true rfl⟩ hPc hDc hS rfl (Nat.le_of_ble_eq_true rfl) dX12_isDigit_5 ⟨Nat.le_of_ble_eq_true rfl, Nat.le_of_ble_eq_true rfl⟩ (fun r2 u1 H1 locs1 h3 hku1 hP1 hD1 hS1 => ?_)
  obtain ⟨hrh3, rfl⟩ := h3
  obtain ⟨hP, hD⟩ := z_join (wr := []) Z hS hP hD [] [] rfl (by decide) rfl (by decide) (by decide) hku1 hP1 hD1
  have hS := hS1
  clear hS1
  generalize H1 = H at hP hS ⊢
  generalize locs1 = locs at hS ⊢
  have hP : va_P D vwCl ([]) H := hP
  have hD : va_D A ([]) := hD
  by_cases c4 : 48 ≤ p0 ∧ p0 ≤ 57
  · obtain rfl : r2 = 1 := by rw [hrh3, if_pos c4]
    exact z_ret Z rfl hP hD hS (⟨(if_pos (by (try simp only [zlt, zle, zeq, zl_0, zl_1, zl_2, zl_3, zl_4, zl_5, zl_6, zl_7, zl_8, zl_9, zl_10, zl_11, zl_12, zl_13, zl_14, zl_15, zl_16, zl_17, zl_18, zl_19, zl_20, zl_21, zl_22, zl_23, zl_24, zl_25, zl_26, zl_27, zl_28, zl_29, zl_30, zl_31, zl_32, zl_33, zl_34, zl_35, zl_36, zl_37, zl_38, zl_39, zl_40, zl_41, zl_42, zl_43, zl_44, zl_45, zl_46, zl_47, zl_48, zl_49, zl_50, zl_51, zl_52, zl_53, zl_54, zl_55, zl_56, zl_57, zl_58, zl_59, zl_60, zl_61, zl_62, zl_63, zl_64, zl_65, zl_82, zl_99, zl_100, zl_160, zl_299, zl_300, zl_301, zl_382, zl_398, zl_399, zl_464, zl_680, zl_862, zl_999, zl_1000, zl_9999, zl_10000, zl_1000000, zl_m1, zl_m2, zl_m3, zl_m8, zl_97, zl_122, zl_90, zl_100000, zl_75] at c4 ⊢); omega)).symm, rfl⟩) dX12_isDigit_8 (Nat.le_of_ble_eq_true rfl) (Nat.le_of_ble_eq_true rfl)
  · obtain rfl : r2 = 0 := by rw [hrh3, if_neg c4]
    exact z_ret Z rfl hP hD hS (⟨(if_neg (by (try simp only [zlt, zle, zeq, zl_0, zl_1, zl_2, zl_3, zl_4, zl_5, zl_6, zl_7, zl_8, zl_9, zl_10, zl_11, zl_12, zl_13, zl_14, zl_15, zl_16, zl_17, zl_18, zl_19, zl_20, zl_21, zl_22, zl_23, zl_24, zl_25, zl_26, zl_27, zl_28, zl_29, zl_30, zl_31, zl_32, zl_33, zl_34, zl_35, zl_36, zl_37, zl_38, zl_39, zl_40, zl_41, zl_42, zl_43, zl_44, zl_45, zl_46, zl_47, zl_48, zl_49, zl_50, zl_51, zl_52, zl_53, zl_54, zl_55, zl_56, zl_57, zl_58, zl_59, zl_60, zl_61, zl_62, zl_63, zl_64, zl_65, zl_82, zl_99, zl_100, zl_160, zl_299, zl_300, zl_301, zl_382, zl_398, zl_399, zl_464, zl_680, zl_862, zl_999, zl_1000, zl_9999, zl_10000, zl_1000000, zl_m1, zl_m2, zl_m3, zl_m8, zl_97, zl_122, zl_90, zl_100000, zl_75] at c4 ⊢); omega)).symm, rfl⟩) dX12_isDigit_8 (Nat.le_of_ble_eq_true rfl) (Nat.le_of_ble_eq_true rfl)
theorem BA_lt {td k : Int} {f : Nat → Int32} : k < td ∨ BA td f k = -1 := by
  by_cases q : k < td
  · exact Or.inl q
  · right; unfold BA; rw [if_neg q]
set_option maxHeartbeats 4000000 in
set_option maxRecDepth 100000 in
theorem lp_nt345 {p : Program} (l : Launch) {e : Env} {s : State} {m : MethodId} {below : List Frame} {meth : Method} {c : Code} {A : Nat → Prop} (D : va_G) (cI cM cT cJ cZ : ClassId) (q : Nat) (aA : Nat) (aI : Nat) (xT : Nat) (tP_ : Nat) (td : Int32) (fu : Int32) (fp : Int32) (at_ : Int32) (plc : Int32) (tok : Int32) (num : Int32) (wrd : Int64) (tx0 : Int32) (cls : Int32) (wri : Int32) (cam : Int32) (pI : Nat) (pid : Int32) (ope : Int32) (isw : Int32) (so0 : Int32) (onc : Int32) (nm : Nat) (vL : Nat) (tR : Nat) (spp : Int32) (eat : Int32) (ste : Int32) (rW : Nat) (sP : Nat) (oT : Nat) (bS : Nat) (aS : Nat) (aO : Nat) (cS : Nat) (wY : Nat) (ftp : Nat → Int32) (Z : Zx p s m ([.ref q] : List Value).toArray meth c cX12_nextToken 3 none yX12_nextToken.cls A (ty3 cI cM cT cJ cZ) D) (hi_td : 0 ≤ td.toInt ∧ td.toInt ≤ 300) (hi_spp : 0 ≤ spp.toInt ∧ spp.toInt ≤ 299) (hat : 0 ≤ at_.toInt ∧ at_.toInt ≤ td.toInt) : ∀ (n0 : Nat) (cc : Int32) (is2 : Int32) (vat_ : Int32) (vplc : Int32) (vtok : Int32) (vnum : Int32) (vwrd : Int64) (h0 : at_.toInt ≤ vplc.toInt ∧ vplc.toInt < vat_.toInt ∧ vat_.toInt ≤ td.toInt), 0 < n0 → ∀ (H : Heap) (locs : List Loc) (ls : Array Slot), va_P D vwCl ([(q, .inr (12, [.ref aA, .ref aI, .ref xT, .ref tP_, .int td, .int fu, .int fp, .int vat_, .int vplc, .int vtok, .int vnum, .long vwrd, .int tx0, .int cls, .int wri, .int cam, .ref pI, .int pid, .int ope, .int isw, .int so0, .int onc, .ref nm, .ref vL, .ref tR, .int spp, .int eat, .int ste, .ref rW, .ref sP, .ref oT, .ref bS, .ref aS, .ref aO, .ref cS, .ref wY])), (tP_, .inl (cI, 300, .inl ftp))]) H → va_D A ([(q, .inr (12, [.ref aA, .ref aI, .ref xT, .ref tP_, .int td, .int fu, .int fp, .int vat_, .int vplc, .int vtok, .int vnum, .long vwrd, .int tx0, .int cls, .int wri, .int cam, .ref pI, .int pid, .int ope, .int isw, .int so0, .int onc, .ref nm, .ref vL, .ref tR, .int spp, .int eat, .int ste, .ref rW, .ref sP, .ref oT, .ref bS, .ref aS, .ref aO, .ref cS, .ref wY])), (tP_, .inl (cI, 300, .inl ftp))]) → va_S A s.heap H locs → lv_has ls 3 [(0, .ref q), (1, .int cc), (2, .int is2)] → W p l e (rmv 2 0 0) s m ([.ref q] : List Value).toArray below meth c H locs 0 0 (MQ below (va_Qv (fun u => ∃ (at__n : Int32) (plc_n : Int32) (tok_n : Int32) (num_n : Int32) (wrd_n : Int64), u = [(q, .inr (12, [.ref aA, .ref aI, .ref xT, .ref tP_, .int td, .int fu, .int fp, .int at__n, .int plc_n, .int tok_n, .int num_n, .long wrd_n, .int tx0, .int cls, .int wri, .int cam, .ref pI, .int pid, .int ope, .int isw, .int so0, .int onc, .ref nm, .ref vL, .ref tR, .int spp, .int eat, .int ste, .ref rW, .ref sP, .ref oT, .ref bS, .ref aS, .ref aO, .ref cS, .ref wY])), (tP_, .inl (cI, 300, .inl ftp))] ∧ ((0 ≤ at_.toInt ∧ at_.toInt ≤ plc_n.toInt) ∧ (plc_n.toInt ≤ at__n.toInt ∧ at__n.toInt ≤ td.toInt) ∧ (tok_n.toInt = 0 ∨ plc_n.toInt < at__n.toInt))) (cB D (ty3 cI cM cT cJ cZ) A) A) ([.ref q] : List Value).toArray s 0 0 A) (F0 m 345 ls []) := by
  have hx := Z.1
  have hb := Z.2.1
  intro n0
  induction n0 with
  | zero => intro cc is2 vat_ vplc vtok vnum vwrd h0 hm; exact absurd hm (Nat.not_lt_zero _)
  | succ n0 ih =>
    intro cc is2 vat_ vplc vtok vnum vwrd h0 hm H locs ls hP hD hS hl
    refine lv_aload_n hx hb dX12_nextToken_345 rfl (lv_at hl 0 rfl) ?_
    refine lv_iload_n hx hb dX12_nextToken_346 rfl (lv_at hl 2 rfl) ?_
    refine lv_if_eq (tgt := 354) hx hb dX12_nextToken_347 (by decide) (fun c1 => ?_) (fun c1 => ?_)
    · refine lv_iconst (v := 3) hx hb dX12_nextToken_354 (by decide) ?_
      refine z_put Z i_X12 tyX12 tyX12_ok nmX12 hP hD hS 0 rfl rfl 9 (by decide) bw_1028 rfl rfl rfl (Nat.le_of_ble_eq_true rfl) dX12_nextToken_355 (fun H locs hP hD hS => ?_)
      have hP : va_P D vwCl ([(q, .inr (12, [.ref aA, .ref aI, .ref xT, .ref tP_, .int td, .int fu, .int fp, .int vat_, .int vplc, .int 3, .int vnum, .long vwrd, .int tx0, .int cls, .int wri, .int cam, .ref pI, .int pid, .int ope, .int isw, .int so0, .int onc, .ref nm, .ref vL, .ref tR, .int spp, .int eat, .int ste, .ref rW, .ref sP, .ref oT, .ref bS, .ref aS, .ref aO, .ref cS, .ref wY])), (tP_, .inl (cI, 300, .inl ftp))]) H := hP
      have hD : va_D A ([(q, .inr (12, [.ref aA, .ref aI, .ref xT, .ref tP_, .int td, .int fu, .int fp, .int vat_, .int vplc, .int 3, .int vnum, .long vwrd, .int tx0, .int cls, .int wri, .int cam, .ref pI, .int pid, .int ope, .int isw, .int so0, .int onc, .ref nm, .ref vL, .ref tR, .int spp, .int eat, .int ste, .ref rW, .ref sP, .ref oT, .ref bS, .ref aS, .ref aO, .ref cS, .ref wY])), (tP_, .inl (cI, 300, .inl ftp))]) := hD
      refine lv_iload_n hx hb dX12_nextToken_358 rfl (lv_at hl 1 rfl) ?_
      refine lv_bipush (v := 60) hx hb dX12_nextToken_359 (by decide) ?_
      refine lv_icmp_eq (tgt := 370) hx hb dX12_nextToken_361 (by decide) (fun c2 => ?_) (fun c2 => ?_)
      · refine lv_aload_n hx hb dX12_nextToken_370 rfl (lv_at hl 0 rfl) ?_
        refine lv_aload_n hx hb dX12_nextToken_371 rfl (lv_at hl 0 rfl) ?_
        refine z_get Z i_X12 hP 0 rfl rfl 7 (by decide) bw_1026 rfl dX12_nextToken_372 ?_
        have hPc := hP.sub2 (wc := [(q, .inr (12, [.ref aA, .ref aI, .ref xT, .ref tP_, .int td, .int fu, .int fp, .int vat_, .int vplc, .int 3, .int vnum, .long vwrd, .int tx0, .int cls, .int wri, .int cam, .ref pI, .int pid, .int ope, .int isw, .int so0, .int onc, .ref nm, .ref vL, .ref tR, .int spp, .int eat, .int ste, .ref rW, .ref sP, .ref oT, .ref bS, .ref aS, .ref aO, .ref cS, .ref wY])), (tP_, .inl (cI, 300, .inl ftp))]) [0, 1] rfl
        have hDc := hD.sub (ws' := [(q, .inr (12, [.ref aA, .ref aI, .ref xT, .ref tP_, .int td, .int fu, .int fp, .int vat_, .int vplc, .int 3, .int vnum, .long vwrd, .int tx0, .int cls, .int wri, .int cam, .ref pI, .int pid, .int ope, .int isw, .int so0, .int onc, .ref nm, .ref vL, .ref tR, .int spp, .int eat, .int ste, .ref rW, .ref sP, .ref oT, .ref bS, .ref aS, .ref aO, .ref cS, .ref wY])), (tP_, .inl (cI, 300, .inl ftp))]) [0, 1] (by decide) rfl
        refine raw_Vi (ci := 12) (q0 := 0) (nA := 1) (As := [.int vat_]) (rest := []) Z hl.1 (c_X12_byteAt l D cI cM cT cJ cZ q vat_ aA aI xT tP_ td fu fp vat_ vplc 3 vnum vwrd tx0 cls wri cam pI pid ope isw so0 onc nm vL tR spp eat ste rW sP oT bS aS aO cS wY ftp (by (try simp only [zlt, zle, zeq, zl_0, zl_1, zl_2, zl_3, zl_4, zl_5, zl_6, zl_7, zl_8, zl_9, zl_10, zl_11, zl_12, zl_13, zl_14, zl_15, zl_16, zl_17, zl_18, zl_19, zl_20, zl_21, zl_22, zl_23, zl_24, zl_25, zl_26, zl_27, zl_28, zl_29, zl_30, zl_31, zl_32, zl_33, zl_34, zl_35, zl_36, zl_37, zl_38, zl_39, zl_40, zl_41, zl_42, zl_43, zl_44, zl_45, zl_46, zl_47, zl_48, zl_49, zl_50, zl_51, zl_52, zl_53, zl_54, zl_55, zl_56, zl_57, zl_58, zl_59, zl_60, zl_61, zl_62, zl_63, zl_64, zl_65, zl_82, zl_99, zl_100, zl_160, zl_299, zl_300, zl_301, zl_382, zl_398, zl_399, zl_464, zl_680, zl_862, zl_999, zl_1000, zl_9999, zl_10000, zl_1000000, zl_m1, zl_m2, zl_m3, zl_m8, zl_97, zl_122, zl_90, zl_100000, zl_75] at hi_td hi_spp hat h0 hm c1 c2 ⊢); omega) (by (try simp only [zlt, zle, zeq, zl_0, zl_1, zl_2, zl_3, zl_4, zl_5, zl_6, zl_7, zl_8, zl_9, zl_10, zl_11, zl_12, zl_13, zl_14, zl_15, zl_16, zl_17, zl_18, zl_19, zl_20, zl_21, zl_22, zl_23, zl_24, zl_25, zl_26, zl_27, zl_28, zl_29, zl_30, zl_31, zl_32, zl_33, zl_34, zl_35, zl_36, zl_37, zl_38, zl_39, zl_40, zl_41, zl_42, zl_43, zl_44, zl_45, zl_46, zl_47, zl_48, zl_49, zl_50, zl_51, zl_52, zl_53, zl_54, zl_55, zl_56, zl_57, zl_58, zl_59, zl_60, zl_61, zl_62, zl_63, zl_64, zl_65, zl_82, zl_99, zl_100, zl_160, zl_299, zl_300, zl_301, zl_382, zl_398, zl_399, zl_464, zl_680, zl_862, zl_999, zl_1000, zl_9999, zl_10000, zl_1000000, zl_m1, zl_m2, zl_m3, zl_m8, zl_97, zl_122, zl_90, zl_100000, zl_75] at hi_td hi_spp hat h0 hm c1 c2 ⊢); omega) (by (try simp only [zlt, zle, zeq, zl_0, zl_1, zl_2, zl_3, zl_4, zl_5, zl_6, zl_7, zl_8, zl_9, zl_10, zl_11, zl_12, zl_13, zl_14, zl_15, zl_16, zl_17, zl_18, zl_19, zl_20, zl_21, zl_22, zl_23, zl_24, zl_25, zl_26, zl_27, zl_28, zl_29, zl_30, zl_31, zl_32, zl_33, zl_34, zl_35, zl_36, zl_37, zl_38, zl_39, zl_40, zl_41, zl_42, zl_43, zl_44, zl_45, zl_46, zl_47, zl_48, zl_49, zl_50, zl_51, zl_52, zl_53, zl_54, zl_55, zl_56, zl_57, zl_58, zl_59, zl_60, zl_61, zl_62, zl_63, zl_64, zl_65, zl_82, zl_99, zl_100, zl_160, zl_299, zl_300, zl_301, zl_382, zl_398, zl_399, zl_464, zl_680, zl_862, zl_999, zl_1000, zl_9999, zl_10000, zl_1000000, zl_m1, zl_m2, zl_m3, zl_m8, zl_97, zl_122, zl_90, zl_100000, zl_75] at hi_td hi_spp hat h0 hm c1 c2 ⊢); omega)) (bw_V bw_1178 bw_1180 bw_39 bw_92 bw_1181) ⟨by decide +kernel, by decide +kernel, by decide +kernel⟩ rfl ⟨Nat.le_of_ble_eq_true rfl, Nat.le_of_ble_eq_true rfl⟩ rfl rfl rfl hPc hDc hS rfl (Nat.le_of_ble_eq_true rfl) dX12_nextToken_375 ⟨Nat.le_of_ble_eq_true rfl, Nat.le_of_ble_eq_true rfl⟩ (fun r4 u3 H1 locs1 h5 hku3 hP1 hD1 hS1 => ?_)
        obtain ⟨rfl, huh5_0⟩ := h5
        obtain ⟨hP, hD⟩ := z_join (wr := []) Z hS hP hD [0, 1] [] rfl (by decide) rfl (by decide) (by decide) hku3 hP1 hD1
        have hS := hS1
        clear hS1
        generalize H1 = H at hP hS ⊢
        generalize locs1 = locs at hS ⊢
        have hP : va_P D vwCl ([(q, .inr (12, [.ref aA, .ref aI, .ref xT, .ref tP_, .int td, .int fu, .int fp, .int vat_, .int vplc, .int 3, .int vnum, .long vwrd, .int tx0, .int cls, .int wri, .int cam, .ref pI, .int pid, .int ope, .int isw, .int so0, .int onc, .ref nm, .ref vL, .ref tR, .int spp, .int eat, .int ste, .ref rW, .ref sP, .ref oT, .ref bS, .ref aS, .ref aO, .ref cS, .ref wY])), (tP_, .inl (cI, 300, .inl ftp))]) H := hP
        have hD : va_D A ([(q, .inr (12, [.ref aA, .ref aI, .ref xT, .ref tP_, .int td, .int fu, .int fp, .int vat_, .int vplc, .int 3, .int vnum, .long vwrd, .int tx0, .int cls, .int wri, .int cam, .ref pI, .int pid, .int ope, .int isw, .int so0, .int onc, .ref nm, .ref vL, .ref tR, .int spp, .int eat, .int ste, .ref rW, .ref sP, .ref oT, .ref bS, .ref aS, .ref aO, .ref cS, .ref wY])), (tP_, .inl (cI, 300, .inl ftp))]) := hD
        have hba6 : (vat_ : Int32).toInt < td.toInt ∨ BA td.toInt ftp (vat_ : Int32).toInt = -1 := BA_lt
        refine lv_bipush (v := 61) hx hb dX12_nextToken_378 (by decide) ?_
        refine lv_icmp_ne (tgt := 408) hx hb dX12_nextToken_380 (by decide) (fun c7 => ?_) (fun c7 => ?_)
        · exact z_vret Z hP hD hS (⟨vat_, vplc, 3, vnum, vwrd, rfl, (by (try simp only [zlt, zle, zeq, zl_0, zl_1, zl_2, zl_3, zl_4, zl_5, zl_6, zl_7, zl_8, zl_9, zl_10, zl_11, zl_12, zl_13, zl_14, zl_15, zl_16, zl_17, zl_18, zl_19, zl_20, zl_21, zl_22, zl_23, zl_24, zl_25, zl_26, zl_27, zl_28, zl_29, zl_30, zl_31, zl_32, zl_33, zl_34, zl_35, zl_36, zl_37, zl_38, zl_39, zl_40, zl_41, zl_42, zl_43, zl_44, zl_45, zl_46, zl_47, zl_48, zl_49, zl_50, zl_51, zl_52, zl_53, zl_54, zl_55, zl_56, zl_57, zl_58, zl_59, zl_60, zl_61, zl_62, zl_63, zl_64, zl_65, zl_82, zl_99, zl_100, zl_160, zl_299, zl_300, zl_301, zl_382, zl_398, zl_399, zl_464, zl_680, zl_862, zl_999, zl_1000, zl_9999, zl_10000, zl_1000000, zl_m1, zl_m2, zl_m3, zl_m8, zl_97, zl_122, zl_90, zl_100000, zl_75, and_true, true_and, and_false, false_and, or_false, false_or, or_true, true_or, not_true_eq_false, not_false_eq_true] at hi_td hi_spp hat h0 hm c1 c2 huh5_0 hba6 c7 ⊢) <;> omega)⟩) dX12_nextToken_408 (Nat.le_of_ble_eq_true rfl) (Nat.le_of_ble_eq_true rfl)
        · refine lv_aload_n hx hb dX12_nextToken_383 rfl (lv_at hl 0 rfl) ?_
          refine lv_dup hx hb dX12_nextToken_384 rfl ?_
          refine z_get Z i_X12 hP 0 rfl rfl 7 (by decide) bw_1026 rfl dX12_nextToken_385 ?_
          refine lv_iconst (v := 1) hx hb dX12_nextToken_388 (by decide) ?_
          refine lv_iadd hx hb dX12_nextToken_389 ?_
          refine lv_topi (fun z8 ez8 => ?_)
          have hz8 : z8.toInt = vat_.toInt + 1 := by rw [ez8]; exact zaddg (by (try simp only [zlt, zle, zeq, zl_0, zl_1, zl_2, zl_3, zl_4, zl_5, zl_6, zl_7, zl_8, zl_9, zl_10, zl_11, zl_12, zl_13, zl_14, zl_15, zl_16, zl_17, zl_18, zl_19, zl_20, zl_21, zl_22, zl_23, zl_24, zl_25, zl_26, zl_27, zl_28, zl_29, zl_30, zl_31, zl_32, zl_33, zl_34, zl_35, zl_36, zl_37, zl_38, zl_39, zl_40, zl_41, zl_42, zl_43, zl_44, zl_45, zl_46, zl_47, zl_48, zl_49, zl_50, zl_51, zl_52, zl_53, zl_54, zl_55, zl_56, zl_57, zl_58, zl_59, zl_60, zl_61, zl_62, zl_63, zl_64, zl_65, zl_82, zl_99, zl_100, zl_160, zl_299, zl_300, zl_301, zl_382, zl_398, zl_399, zl_464, zl_680, zl_862, zl_999, zl_1000, zl_9999, zl_10000, zl_1000000, zl_m1, zl_m2, zl_m3, zl_m8, zl_97, zl_122, zl_90, zl_100000, zl_75] at hi_td hi_spp hat h0 hm c1 c2 huh5_0 hba6 c7 ⊢); omega) (by (try simp only [zlt, zle, zeq, zl_0, zl_1, zl_2, zl_3, zl_4, zl_5, zl_6, zl_7, zl_8, zl_9, zl_10, zl_11, zl_12, zl_13, zl_14, zl_15, zl_16, zl_17, zl_18, zl_19, zl_20, zl_21, zl_22, zl_23, zl_24, zl_25, zl_26, zl_27, zl_28, zl_29, zl_30, zl_31, zl_32, zl_33, zl_34, zl_35, zl_36, zl_37, zl_38, zl_39, zl_40, zl_41, zl_42, zl_43, zl_44, zl_45, zl_46, zl_47, zl_48, zl_49, zl_50, zl_51, zl_52, zl_53, zl_54, zl_55, zl_56, zl_57, zl_58, zl_59, zl_60, zl_61, zl_62, zl_63, zl_64, zl_65, zl_82, zl_99, zl_100, zl_160, zl_299, zl_300, zl_301, zl_382, zl_398, zl_399, zl_464, zl_680, zl_862, zl_999, zl_1000, zl_9999, zl_10000, zl_1000000, zl_m1, zl_m2, zl_m3, zl_m8, zl_97, zl_122, zl_90, zl_100000, zl_75] at hi_td hi_spp hat h0 hm c1 c2 huh5_0 hba6 c7 ⊢); omega)
          refine z_put Z i_X12 tyX12 tyX12_ok nmX12 hP hD hS 0 rfl rfl 7 (by decide) bw_1026 rfl rfl rfl (Nat.le_of_ble_eq_true rfl) dX12_nextToken_390 (fun H locs hP hD hS => ?_)
          have hP : va_P D vwCl ([(q, .inr (12, [.ref aA, .ref aI, .ref xT, .ref tP_, .int td, .int fu, .int fp, .int z8, .int vplc, .int 3, .int vnum, .long vwrd, .int tx0, .int cls, .int wri, .int cam, .ref pI, .int pid, .int ope, .int isw, .int so0, .int onc, .ref nm, .ref vL, .ref tR, .int spp, .int eat, .int ste, .ref rW, .ref sP, .ref oT, .ref bS, .ref aS, .ref aO, .ref cS, .ref wY])), (tP_, .inl (cI, 300, .inl ftp))]) H := hP
          have hD : va_D A ([(q, .inr (12, [.ref aA, .ref aI, .ref xT, .ref tP_, .int td, .int fu, .int fp, .int z8, .int vplc, .int 3, .int vnum, .long vwrd, .int tx0, .int cls, .int wri, .int cam, .ref pI, .int pid, .int ope, .int isw, .int so0, .int onc, .ref nm, .ref vL, .ref tR, .int spp, .int eat, .int ste, .ref rW, .ref sP, .ref oT, .ref bS, .ref aS, .ref aO, .ref cS, .ref wY])), (tP_, .inl (cI, 300, .inl ftp))]) := hD
          refine lv_aload_n hx hb dX12_nextToken_393 rfl (lv_at hl 0 rfl) ?_
          refine lv_iload_n hx hb dX12_nextToken_394 rfl (lv_at hl 1 rfl) ?_
          refine lv_bipush (v := 60) hx hb dX12_nextToken_395 (by decide) ?_
          refine lv_icmp_ne (tgt := 404) hx hb dX12_nextToken_397 (by decide) (fun c9 => ?_) (fun c9 => ?_)
          · refine lv_iconst (v := 5) hx hb dX12_nextToken_404 (by decide) ?_
            refine z_put Z i_X12 tyX12 tyX12_ok nmX12 hP hD hS 0 rfl rfl 9 (by decide) bw_1028 rfl rfl rfl (Nat.le_of_ble_eq_true rfl) dX12_nextToken_405 (fun H locs hP hD hS => ?_)
            have hP : va_P D vwCl ([(q, .inr (12, [.ref aA, .ref aI, .ref xT, .ref tP_, .int td, .int fu, .int fp, .int z8, .int vplc, .int 5, .int vnum, .long vwrd, .int tx0, .int cls, .int wri, .int cam, .ref pI, .int pid, .int ope, .int isw, .int so0, .int onc, .ref nm, .ref vL, .ref tR, .int spp, .int eat, .int ste, .ref rW, .ref sP, .ref oT, .ref bS, .ref aS, .ref aO, .ref cS, .ref wY])), (tP_, .inl (cI, 300, .inl ftp))]) H := hP
            have hD : va_D A ([(q, .inr (12, [.ref aA, .ref aI, .ref xT, .ref tP_, .int td, .int fu, .int fp, .int z8, .int vplc, .int 5, .int vnum, .long vwrd, .int tx0, .int cls, .int wri, .int cam, .ref pI, .int pid, .int ope, .int isw, .int so0, .int onc, .ref nm, .ref vL, .ref tR, .int spp, .int eat, .int ste, .ref rW, .ref sP, .ref oT, .ref bS, .ref aS, .ref aO, .ref cS, .ref wY])), (tP_, .inl (cI, 300, .inl ftp))]) := hD
            exact z_vret Z hP hD hS (⟨z8, vplc, 5, vnum, vwrd, rfl, (by (try simp only [zlt, zle, zeq, zl_0, zl_1, zl_2, zl_3, zl_4, zl_5, zl_6, zl_7, zl_8, zl_9, zl_10, zl_11, zl_12, zl_13, zl_14, zl_15, zl_16, zl_17, zl_18, zl_19, zl_20, zl_21, zl_22, zl_23, zl_24, zl_25, zl_26, zl_27, zl_28, zl_29, zl_30, zl_31, zl_32, zl_33, zl_34, zl_35, zl_36, zl_37, zl_38, zl_39, zl_40, zl_41, zl_42, zl_43, zl_44, zl_45, zl_46, zl_47, zl_48, zl_49, zl_50, zl_51, zl_52, zl_53, zl_54, zl_55, zl_56, zl_57, zl_58, zl_59, zl_60, zl_61, zl_62, zl_63, zl_64, zl_65, zl_82, zl_99, zl_100, zl_160, zl_299, zl_300, zl_301, zl_382, zl_398, zl_399, zl_464, zl_680, zl_862, zl_999, zl_1000, zl_9999, zl_10000, zl_1000000, zl_m1, zl_m2, zl_m3, zl_m8, zl_97, zl_122, zl_90, zl_100000, zl_75, and_true, true_and, and_false, false_and, or_false, false_or, or_true, true_or, not_true_eq_false, not_false_eq_true] at hi_td hi_spp hat h0 hm c1 c2 huh5_0 hba6 c7 hz8 c9 ⊢) <;> omega)⟩) dX12_nextToken_408 (Nat.le_of_ble_eq_true rfl) (Nat.le_of_ble_eq_true rfl)
          · refine lv_iconst (v := 4) hx hb dX12_nextToken_400 (by decide) ?_
            refine lv_goto (tgt := 405) hx hb dX12_nextToken_401 (by decide) ?_
            refine z_put Z i_X12 tyX12 tyX12_ok nmX12 hP hD hS 0 rfl rfl 9 (by decide) bw_1028 rfl rfl rfl (Nat.le_of_ble_eq_true rfl) dX12_nextToken_405 (fun H locs hP hD hS => ?_)
            have hP : va_P D vwCl ([(q, .inr (12, [.ref aA, .ref aI, .ref xT, .ref tP_, .int td, .int fu, .int fp, .int z8, .int vplc, .int 4, .int vnum, .long vwrd, .int tx0, .int cls, .int wri, .int cam, .ref pI, .int pid, .int ope, .int isw, .int so0, .int onc, .ref nm, .ref vL, .ref tR, .int spp, .int eat, .int ste, .ref rW, .ref sP, .ref oT, .ref bS, .ref aS, .ref aO, .ref cS, .ref wY])), (tP_, .inl (cI, 300, .inl ftp))]) H := hP
            have hD : va_D A ([(q, .inr (12, [.ref aA, .ref aI, .ref xT, .ref tP_, .int td, .int fu, .int fp, .int z8, .int vplc, .int 4, .int vnum, .long vwrd, .int tx0, .int cls, .int wri, .int cam, .ref pI, .int pid, .int ope, .int isw, .int so0, .int onc, .ref nm, .ref vL, .ref tR, .int spp, .int eat, .int ste, .ref rW, .ref sP, .ref oT, .ref bS, .ref aS, .ref aO, .ref cS, .ref wY])), (tP_, .inl (cI, 300, .inl ftp))]) := hD
            exact z_vret Z hP hD hS (⟨z8, vplc, 4, vnum, vwrd, rfl, (by (try simp only [zlt, zle, zeq, zl_0, zl_1, zl_2, zl_3, zl_4, zl_5, zl_6, zl_7, zl_8, zl_9, zl_10, zl_11, zl_12, zl_13, zl_14, zl_15, zl_16, zl_17, zl_18, zl_19, zl_20, zl_21, zl_22, zl_23, zl_24, zl_25, zl_26, zl_27, zl_28, zl_29, zl_30, zl_31, zl_32, zl_33, zl_34, zl_35, zl_36, zl_37, zl_38, zl_39, zl_40, zl_41, zl_42, zl_43, zl_44, zl_45, zl_46, zl_47, zl_48, zl_49, zl_50, zl_51, zl_52, zl_53, zl_54, zl_55, zl_56, zl_57, zl_58, zl_59, zl_60, zl_61, zl_62, zl_63, zl_64, zl_65, zl_82, zl_99, zl_100, zl_160, zl_299, zl_300, zl_301, zl_382, zl_398, zl_399, zl_464, zl_680, zl_862, zl_999, zl_1000, zl_9999, zl_10000, zl_1000000, zl_m1, zl_m2, zl_m3, zl_m8, zl_97, zl_122, zl_90, zl_100000, zl_75, and_true, true_and, and_false, false_and, or_false, false_or, or_true, true_or, not_true_eq_false, not_false_eq_true] at hi_td hi_spp hat h0 hm c1 c2 huh5_0 hba6 c7 hz8 c9 ⊢) <;> omega)⟩) dX12_nextToken_408 (Nat.le_of_ble_eq_true rfl) (Nat.le_of_ble_eq_true rfl)
      · refine lv_iload_n hx hb dX12_nextToken_364 rfl (lv_at hl 1 rfl) ?_
        refine lv_bipush (v := 62) hx hb dX12_nextToken_365 (by decide) ?_
        refine lv_icmp_ne (tgt := 408) hx hb dX12_nextToken_367 (by decide) (fun c10 => ?_) (fun c10 => ?_)
        · exact z_vret Z hP hD hS (⟨vat_, vplc, 3, vnum, vwrd, rfl, (by (try simp only [zlt, zle, zeq, zl_0, zl_1, zl_2, zl_3, zl_4, zl_5, zl_6, zl_7, zl_8, zl_9, zl_10, zl_11, zl_12, zl_13, zl_14, zl_15, zl_16, zl_17, zl_18, zl_19, zl_20, zl_21, zl_22, zl_23, zl_24, zl_25, zl_26, zl_27, zl_28, zl_29, zl_30, zl_31, zl_32, zl_33, zl_34, zl_35, zl_36, zl_37, zl_38, zl_39, zl_40, zl_41, zl_42, zl_43, zl_44, zl_45, zl_46, zl_47, zl_48, zl_49, zl_50, zl_51, zl_52, zl_53, zl_54, zl_55, zl_56, zl_57, zl_58, zl_59, zl_60, zl_61, zl_62, zl_63, zl_64, zl_65, zl_82, zl_99, zl_100, zl_160, zl_299, zl_300, zl_301, zl_382, zl_398, zl_399, zl_464, zl_680, zl_862, zl_999, zl_1000, zl_9999, zl_10000, zl_1000000, zl_m1, zl_m2, zl_m3, zl_m8, zl_97, zl_122, zl_90, zl_100000, zl_75, and_true, true_and, and_false, false_and, or_false, false_or, or_true, true_or, not_true_eq_false, not_false_eq_true] at hi_td hi_spp hat h0 hm c1 c2 c10 ⊢) <;> omega)⟩) dX12_nextToken_408 (Nat.le_of_ble_eq_true rfl) (Nat.le_of_ble_eq_true rfl)
        · refine lv_aload_n hx hb dX12_nextToken_370 rfl (lv_at hl 0 rfl) ?_
          refine lv_aload_n hx hb dX12_nextToken_371 rfl (lv_at hl 0 rfl) ?_
          refine z_get Z i_X12 hP 0 rfl rfl 7 (by decide) bw_1026 rfl dX12_nextToken_372 ?_
          have hPc := hP.sub2 (wc := [(q, .inr (12, [.ref aA, .ref aI, .ref xT, .ref tP_, .int td, .int fu, .int fp, .int vat_, .int vplc, .int 3, .int vnum, .long vwrd, .int tx0, .int cls, .int wri, .int cam, .ref pI, .int pid, .int ope, .int isw, .int so0, .int onc, .ref nm, .ref vL, .ref tR, .int spp, .int eat, .int ste, .ref rW, .ref sP, .ref oT, .ref bS, .ref aS, .ref aO, .ref cS, .ref wY])), (tP_, .inl (cI, 300, .inl ftp))]) [0, 1] rfl
          have hDc := hD.sub (ws' := [(q, .inr (12, [.ref aA, .ref aI, .ref xT, .ref tP_, .int td, .int fu, .int fp, .int vat_, .int vplc, .int 3, .int vnum, .long vwrd, .int tx0, .int cls, .int wri, .int cam, .ref pI, .int pid, .int ope, .int isw, .int so0, .int onc, .ref nm, .ref vL, .ref tR, .int spp, .int eat, .int ste, .ref rW, .ref sP, .ref oT, .ref bS, .ref aS, .ref aO, .ref cS, .ref wY])), (tP_, .inl (cI, 300, .inl ftp))]) [0, 1] (by decide) rfl
          refine raw_Vi (ci := 12) (q0 := 0) (nA := 1) (As := [.int vat_]) (rest := []) Z hl.1 (c_X12_byteAt l D cI cM cT cJ cZ q vat_ aA aI xT tP_ td fu fp vat_ vplc 3 vnum vwrd tx0 cls wri cam pI pid ope isw so0 onc nm vL tR spp eat ste rW sP oT bS aS aO cS wY ftp (by (try simp only [zlt, zle, zeq, zl_0, zl_1, zl_2, zl_3, zl_4, zl_5, zl_6, zl_7, zl_8, zl_9, zl_10, zl_11, zl_12, zl_13, zl_14, zl_15, zl_16, zl_17, zl_18, zl_19, zl_20, zl_21, zl_22, zl_23, zl_24, zl_25, zl_26, zl_27, zl_28, zl_29, zl_30, zl_31, zl_32, zl_33, zl_34, zl_35, zl_36, zl_37, zl_38, zl_39, zl_40, zl_41, zl_42, zl_43, zl_44, zl_45, zl_46, zl_47, zl_48, zl_49, zl_50, zl_51, zl_52, zl_53, zl_54, zl_55, zl_56, zl_57, zl_58, zl_59, zl_60, zl_61, zl_62, zl_63, zl_64, zl_65, zl_82, zl_99, zl_100, zl_160, zl_299, zl_300, zl_301, zl_382, zl_398, zl_399, zl_464, zl_680, zl_862, zl_999, zl_1000, zl_9999, zl_10000, zl_1000000, zl_m1, zl_m2, zl_m3, zl_m8, zl_97, zl_122, zl_90, zl_100000, zl_75] at hi_td hi_spp hat h0 hm c1 c2 c10 ⊢); omega) (by (try simp only [zlt, zle, zeq, zl_0, zl_1, zl_2, zl_3, zl_4, zl_5, zl_6, zl_7, zl_8, zl_9, zl_10, zl_11, zl_12, zl_13, zl_14, zl_15, zl_16, zl_17, zl_18, zl_19, zl_20, zl_21, zl_22, zl_23, zl_24, zl_25, zl_26, zl_27, zl_28, zl_29, zl_30, zl_31, zl_32, zl_33, zl_34, zl_35, zl_36, zl_37, zl_38, zl_39, zl_40, zl_41, zl_42, zl_43, zl_44, zl_45, zl_46, zl_47, zl_48, zl_49, zl_50, zl_51, zl_52, zl_53, zl_54, zl_55, zl_56, zl_57, zl_58, zl_59, zl_60, zl_61, zl_62, zl_63, zl_64, zl_65, zl_82, zl_99, zl_100, zl_160, zl_299, zl_300, zl_301, zl_382, zl_398, zl_399, zl_464, zl_680, zl_862, zl_999, zl_1000, zl_9999, zl_10000, zl_1000000, zl_m1, zl_m2, zl_m3, zl_m8, zl_97, zl_122, zl_90, zl_100000, zl_75] at hi_td hi_spp hat h0 hm c1 c2 c10 ⊢); omega) (by (try simp only [zlt, zle, zeq, zl_0, zl_1, zl_2, zl_3, zl_4, zl_5, zl_6, zl_7, zl_8, zl_9, zl_10, zl_11, zl_12, zl_13, zl_14, zl_15, zl_16, zl_17, zl_18, zl_19, zl_20, zl_21, zl_22, zl_23, zl_24, zl_25, zl_26, zl_27, zl_28, zl_29, zl_30, zl_31, zl_32, zl_33, zl_34, zl_35, zl_36, zl_37, zl_38, zl_39, zl_40, zl_41, zl_42, zl_43, zl_44, zl_45, zl_46, zl_47, zl_48, zl_49, zl_50, zl_51, zl_52, zl_53, zl_54, zl_55, zl_56, zl_57, zl_58, zl_59, zl_60, zl_61, zl_62, zl_63, zl_64, zl_65, zl_82, zl_99, zl_100, zl_160, zl_299, zl_300, zl_301, zl_382, zl_398, zl_399, zl_464, zl_680, zl_862, zl_999, zl_1000, zl_9999, zl_10000, zl_1000000, zl_m1, zl_m2, zl_m3, zl_m8, zl_97, zl_122, zl_90, zl_100000, zl_75] at hi_td hi_spp hat h0 hm c1 c2 c10 ⊢); omega)) (bw_V bw_1178 bw_1180 bw_39 bw_92 bw_1181) ⟨by decide +kernel, by decide +kernel, by decide +kernel⟩ rfl ⟨Nat.le_of_ble_eq_true rfl, Nat.le_of_ble_eq_true rfl⟩ rfl rfl rfl hPc hDc hS rfl (Nat.le_of_ble_eq_true rfl) dX12_nextToken_375 ⟨Nat.le_of_ble_eq_true rfl, Nat.le_of_ble_eq_true rfl⟩ (fun r12 u11 H1 locs1 h13 hku11 hP1 hD1 hS1 => ?_)
          obtain ⟨rfl, huh13_0⟩ := h13
          obtain ⟨hP, hD⟩ := z_join (wr := []) Z hS hP hD [0, 1] [] rfl (by decide) rfl (by decide) (by decide) hku11 hP1 hD1
          have hS := hS1
          clear hS1
          generalize H1 = H at hP hS ⊢
          generalize locs1 = locs at hS ⊢
          have hP : va_P D vwCl ([(q, .inr (12, [.ref aA, .ref aI, .ref xT, .ref tP_, .int td, .int fu, .int fp, .int vat_, .int vplc, .int 3, .int vnum, .long vwrd, .int tx0, .int cls, .int wri, .int cam, .ref pI, .int pid, .int ope, .int isw, .int so0, .int onc, .ref nm, .ref vL, .ref tR, .int spp, .int eat, .int ste, .ref rW, .ref sP, .ref oT, .ref bS, .ref aS, .ref aO, .ref cS, .ref wY])), (tP_, .inl (cI, 300, .inl ftp))]) H := hP
          have hD : va_D A ([(q, .inr (12, [.ref aA, .ref aI, .ref xT, .ref tP_, .int td, .int fu, .int fp, .int vat_, .int vplc, .int 3, .int vnum, .long vwrd, .int tx0, .int cls, .int wri, .int cam, .ref pI, .int pid, .int ope, .int isw, .int so0, .int onc, .ref nm, .ref vL, .ref tR, .int spp, .int eat, .int ste, .ref rW, .ref sP, .ref oT, .ref bS, .ref aS, .ref aO, .ref cS, .ref wY])), (tP_, .inl (cI, 300, .inl ftp))]) := hD
          have hba14 : (vat_ : Int32).toInt < td.toInt ∨ BA td.toInt ftp (vat_ : Int32).toInt = -1 := BA_lt
          refine lv_bipush (v := 61) hx hb dX12_nextToken_378 (by decide) ?_
          refine lv_icmp_ne (tgt := 408) hx hb dX12_nextToken_380 (by decide) (fun c15 => ?_) (fun c15 => ?_)
          · exact z_vret Z hP hD hS (⟨vat_, vplc, 3, vnum, vwrd, rfl, (by (try simp only [zlt, zle, zeq, zl_0, zl_1, zl_2, zl_3, zl_4, zl_5, zl_6, zl_7, zl_8, zl_9, zl_10, zl_11, zl_12, zl_13, zl_14, zl_15, zl_16, zl_17, zl_18, zl_19, zl_20, zl_21, zl_22, zl_23, zl_24, zl_25, zl_26, zl_27, zl_28, zl_29, zl_30, zl_31, zl_32, zl_33, zl_34, zl_35, zl_36, zl_37, zl_38, zl_39, zl_40, zl_41, zl_42, zl_43, zl_44, zl_45, zl_46, zl_47, zl_48, zl_49, zl_50, zl_51, zl_52, zl_53, zl_54, zl_55, zl_56, zl_57, zl_58, zl_59, zl_60, zl_61, zl_62, zl_63, zl_64, zl_65, zl_82, zl_99, zl_100, zl_160, zl_299, zl_300, zl_301, zl_382, zl_398, zl_399, zl_464, zl_680, zl_862, zl_999, zl_1000, zl_9999, zl_10000, zl_1000000, zl_m1, zl_m2, zl_m3, zl_m8, zl_97, zl_122, zl_90, zl_100000, zl_75, and_true, true_and, and_false, false_and, or_false, false_or, or_true, true_or, not_true_eq_false, not_false_eq_true] at hi_td hi_spp hat h0 hm c1 c2 c10 huh13_0 hba14 c15 ⊢) <;> omega)⟩) dX12_nextToken_408 (Nat.le_of_ble_eq_true rfl) (Nat.le_of_ble_eq_true rfl)
          · refine lv_aload_n hx hb dX12_nextToken_383 rfl (lv_at hl 0 rfl) ?_
            refine lv_dup hx hb dX12_nextToken_384 rfl ?_
            refine z_get Z i_X12 hP 0 rfl rfl 7 (by decide) bw_1026 rfl dX12_nextToken_385 ?_
            refine lv_iconst (v := 1) hx hb dX12_nextToken_388 (by decide) ?_
            refine lv_iadd hx hb dX12_nextToken_389 ?_
            refine lv_topi (fun z16 ez16 => ?_)
            have hz16 : z16.toInt = vat_.toInt + 1 := by rw [ez16]; exact zaddg (by (try simp only [zlt, zle, zeq, zl_0, zl_1, zl_2, zl_3, zl_4, zl_5, zl_6, zl_7, zl_8, zl_9, zl_10, zl_11, zl_12, zl_13, zl_14, zl_15, zl_16, zl_17, zl_18, zl_19, zl_20, zl_21, zl_22, zl_23, zl_24, zl_25, zl_26, zl_27, zl_28, zl_29, zl_30, zl_31, zl_32, zl_33, zl_34, zl_35, zl_36, zl_37, zl_38, zl_39, zl_40, zl_41, zl_42, zl_43, zl_44, zl_45, zl_46, zl_47, zl_48, zl_49, zl_50, zl_51, zl_52, zl_53, zl_54, zl_55, zl_56, zl_57, zl_58, zl_59, zl_60, zl_61, zl_62, zl_63, zl_64, zl_65, zl_82, zl_99, zl_100, zl_160, zl_299, zl_300, zl_301, zl_382, zl_398, zl_399, zl_464, zl_680, zl_862, zl_999, zl_1000, zl_9999, zl_10000, zl_1000000, zl_m1, zl_m2, zl_m3, zl_m8, zl_97, zl_122, zl_90, zl_100000, zl_75] at hi_td hi_spp hat h0 hm c1 c2 c10 huh13_0 hba14 c15 ⊢); omega) (by (try simp only [zlt, zle, zeq, zl_0, zl_1, zl_2, zl_3, zl_4, zl_5, zl_6, zl_7, zl_8, zl_9, zl_10, zl_11, zl_12, zl_13, zl_14, zl_15, zl_16, zl_17, zl_18, zl_19, zl_20, zl_21, zl_22, zl_23, zl_24, zl_25, zl_26, zl_27, zl_28, zl_29, zl_30, zl_31, zl_32, zl_33, zl_34, zl_35, zl_36, zl_37, zl_38, zl_39, zl_40, zl_41, zl_42, zl_43, zl_44, zl_45, zl_46, zl_47, zl_48, zl_49, zl_50, zl_51, zl_52, zl_53, zl_54, zl_55, zl_56, zl_57, zl_58, zl_59, zl_60, zl_61, zl_62, zl_63, zl_64, zl_65, zl_82, zl_99, zl_100, zl_160, zl_299, zl_300, zl_301, zl_382, zl_398, zl_399, zl_464, zl_680, zl_862, zl_999, zl_1000, zl_9999, zl_10000, zl_1000000, zl_m1, zl_m2, zl_m3, zl_m8, zl_97, zl_122, zl_90, zl_100000, zl_75] at hi_td hi_spp hat h0 hm c1 c2 c10 huh13_0 hba14 c15 ⊢); omega)
            refine z_put Z i_X12 tyX12 tyX12_ok nmX12 hP hD hS 0 rfl rfl 7 (by decide) bw_1026 rfl rfl rfl (Nat.le_of_ble_eq_true rfl) dX12_nextToken_390 (fun H locs hP hD hS => ?_)
            have hP : va_P D vwCl ([(q, .inr (12, [.ref aA, .ref aI, .ref xT, .ref tP_, .int td, .int fu, .int fp, .int z16, .int vplc, .int 3, .int vnum, .long vwrd, .int tx0, .int cls, .int wri, .int cam, .ref pI, .int pid, .int ope, .int isw, .int so0, .int onc, .ref nm, .ref vL, .ref tR, .int spp, .int eat, .int ste, .ref rW, .ref sP, .ref oT, .ref bS, .ref aS, .ref aO, .ref cS, .ref wY])), (tP_, .inl (cI, 300, .inl ftp))]) H := hP
            have hD : va_D A ([(q, .inr (12, [.ref aA, .ref aI, .ref xT, .ref tP_, .int td, .int fu, .int fp, .int z16, .int vplc, .int 3, .int vnum, .long vwrd, .int tx0, .int cls, .int wri, .int cam, .ref pI, .int pid, .int ope, .int isw, .int so0, .int onc, .ref nm, .ref vL, .ref tR, .int spp, .int eat, .int ste, .ref rW, .ref sP, .ref oT, .ref bS, .ref aS, .ref aO, .ref cS, .ref wY])), (tP_, .inl (cI, 300, .inl ftp))]) := hD
            refine lv_aload_n hx hb dX12_nextToken_393 rfl (lv_at hl 0 rfl) ?_
            refine lv_iload_n hx hb dX12_nextToken_394 rfl (lv_at hl 1 rfl) ?_
            refine lv_bipush (v := 60) hx hb dX12_nextToken_395 (by decide) ?_
            refine lv_icmp_ne (tgt := 404) hx hb dX12_nextToken_397 (by decide) (fun c17 => ?_) (fun c17 => ?_)
            · refine lv_iconst (v := 5) hx hb dX12_nextToken_404 (by decide) ?_
              refine z_put Z i_X12 tyX12 tyX12_ok nmX12 hP hD hS 0 rfl rfl 9 (by decide) bw_1028 rfl rfl rfl (Nat.le_of_ble_eq_true rfl) dX12_nextToken_405 (fun H locs hP hD hS => ?_)
              have hP : va_P D vwCl ([(q, .inr (12, [.ref aA, .ref aI, .ref xT, .ref tP_, .int td, .int fu, .int fp, .int z16, .int vplc, .int 5, .int vnum, .long vwrd, .int tx0, .int cls, .int wri, .int cam, .ref pI, .int pid, .int ope, .int isw, .int so0, .int onc, .ref nm, .ref vL, .ref tR, .int spp, .int eat, .int ste, .ref rW, .ref sP, .ref oT, .ref bS, .ref aS, .ref aO, .ref cS, .ref wY])), (tP_, .inl (cI, 300, .inl ftp))]) H := hP
              have hD : va_D A ([(q, .inr (12, [.ref aA, .ref aI, .ref xT, .ref tP_, .int td, .int fu, .int fp, .int z16, .int vplc, .int 5, .int vnum, .long vwrd, .int tx0, .int cls, .int wri, .int cam, .ref pI, .int pid, .int ope, .int isw, .int so0, .int onc, .ref nm, .ref vL, .ref tR, .int spp, .int eat, .int ste, .ref rW, .ref sP, .ref oT, .ref bS, .ref aS, .ref aO, .ref cS, .ref wY])), (tP_, .inl (cI, 300, .inl ftp))]) := hD
              exact z_vret Z hP hD hS (⟨z16, vplc, 5, vnum, vwrd, rfl, (by (try simp only [zlt, zle, zeq, zl_0, zl_1, zl_2, zl_3, zl_4, zl_5, zl_6, zl_7, zl_8, zl_9, zl_10, zl_11, zl_12, zl_13, zl_14, zl_15, zl_16, zl_17, zl_18, zl_19, zl_20, zl_21, zl_22, zl_23, zl_24, zl_25, zl_26, zl_27, zl_28, zl_29, zl_30, zl_31, zl_32, zl_33, zl_34, zl_35, zl_36, zl_37, zl_38, zl_39, zl_40, zl_41, zl_42, zl_43, zl_44, zl_45, zl_46, zl_47, zl_48, zl_49, zl_50, zl_51, zl_52, zl_53, zl_54, zl_55, zl_56, zl_57, zl_58, zl_59, zl_60, zl_61, zl_62, zl_63, zl_64, zl_65, zl_82, zl_99, zl_100, zl_160, zl_299, zl_300, zl_301, zl_382, zl_398, zl_399, zl_464, zl_680, zl_862, zl_999, zl_1000, zl_9999, zl_10000, zl_1000000, zl_m1, zl_m2, zl_m3, zl_m8, zl_97, zl_122, zl_90, zl_100000, zl_75, and_true, true_and, and_false, false_and, or_false, false_or, or_true, true_or, not_true_eq_false, not_false_eq_true] at hi_td hi_spp hat h0 hm c1 c2 c10 huh13_0 hba14 c15 hz16 c17 ⊢) <;> omega)⟩) dX12_nextToken_408 (Nat.le_of_ble_eq_true rfl) (Nat.le_of_ble_eq_true rfl)
            · refine lv_iconst (v := 4) hx hb dX12_nextToken_400 (by decide) ?_
              refine lv_goto (tgt := 405) hx hb dX12_nextToken_401 (by decide) ?_
              refine z_put Z i_X12 tyX12 tyX12_ok nmX12 hP hD hS 0 rfl rfl 9 (by decide) bw_1028 rfl rfl rfl (Nat.le_of_ble_eq_true rfl) dX12_nextToken_405 (fun H locs hP hD hS => ?_)
              have hP : va_P D vwCl ([(q, .inr (12, [.ref aA, .ref aI, .ref xT, .ref tP_, .int td, .int fu, .int fp, .int z16, .int vplc, .int 4, .int vnum, .long vwrd, .int tx0, .int cls, .int wri, .int cam, .ref pI, .int pid, .int ope, .int isw, .int so0, .int onc, .ref nm, .ref vL, .ref tR, .int spp, .int eat, .int ste, .ref rW, .ref sP, .ref oT, .ref bS, .ref aS, .ref aO, .ref cS, .ref wY])), (tP_, .inl (cI, 300, .inl ftp))]) H := hP
              have hD : va_D A ([(q, .inr (12, [.ref aA, .ref aI, .ref xT, .ref tP_, .int td, .int fu, .int fp, .int z16, .int vplc, .int 4, .int vnum, .long vwrd, .int tx0, .int cls, .int wri, .int cam, .ref pI, .int pid, .int ope, .int isw, .int so0, .int onc, .ref nm, .ref vL, .ref tR, .int spp, .int eat, .int ste, .ref rW, .ref sP, .ref oT, .ref bS, .ref aS, .ref aO, .ref cS, .ref wY])), (tP_, .inl (cI, 300, .inl ftp))]) := hD
              exact z_vret Z hP hD hS (⟨z16, vplc, 4, vnum, vwrd, rfl, (by (try simp only [zlt, zle, zeq, zl_0, zl_1, zl_2, zl_3, zl_4, zl_5, zl_6, zl_7, zl_8, zl_9, zl_10, zl_11, zl_12, zl_13, zl_14, zl_15, zl_16, zl_17, zl_18, zl_19, zl_20, zl_21, zl_22, zl_23, zl_24, zl_25, zl_26, zl_27, zl_28, zl_29, zl_30, zl_31, zl_32, zl_33, zl_34, zl_35, zl_36, zl_37, zl_38, zl_39, zl_40, zl_41, zl_42, zl_43, zl_44, zl_45, zl_46, zl_47, zl_48, zl_49, zl_50, zl_51, zl_52, zl_53, zl_54, zl_55, zl_56, zl_57, zl_58, zl_59, zl_60, zl_61, zl_62, zl_63, zl_64, zl_65, zl_82, zl_99, zl_100, zl_160, zl_299, zl_300, zl_301, zl_382, zl_398, zl_399, zl_464, zl_680, zl_862, zl_999, zl_1000, zl_9999, zl_10000, zl_1000000, zl_m1, zl_m2, zl_m3, zl_m8, zl_97, zl_122, zl_90, zl_100000, zl_75, and_true, true_and, and_false, false_and, or_false, false_or, or_true, true_or, not_true_eq_false, not_false_eq_true] at hi_td hi_spp hat h0 hm c1 c2 c10 huh13_0 hba14 c15 hz16 c17 ⊢) <;> omega)⟩) dX12_nextToken_408 (Nat.le_of_ble_eq_true rfl) (Nat.le_of_ble_eq_true rfl)
    · refine lv_iload_n hx hb dX12_nextToken_350 rfl (lv_at hl 1 rfl) ?_
      refine lv_goto (tgt := 355) hx hb dX12_nextToken_351 (by decide) ?_
      refine z_put Z i_X12 tyX12 tyX12_ok nmX12 hP hD hS 0 rfl rfl 9 (by decide) bw_1028 rfl rfl rfl (Nat.le_of_ble_eq_true rfl) dX12_nextToken_355 (fun H locs hP hD hS => ?_)
      have hP : va_P D vwCl ([(q, .inr (12, [.ref aA, .ref aI, .ref xT, .ref tP_, .int td, .int fu, .int fp, .int vat_, .int vplc, .int cc, .int vnum, .long vwrd, .int tx0, .int cls, .int wri, .int cam, .ref pI, .int pid, .int ope, .int isw, .int so0, .int onc, .ref nm, .ref vL, .ref tR, .int spp, .int eat, .int ste, .ref rW, .ref sP, .ref oT, .ref bS, .ref aS, .ref aO, .ref cS, .ref wY])), (tP_, .inl (cI, 300, .inl ftp))]) H := hP
      have hD : va_D A ([(q, .inr (12, [.ref aA, .ref aI, .ref xT, .ref tP_, .int td, .int fu, .int fp, .int vat_, .int vplc, .int cc, .int vnum, .long vwrd, .int tx0, .int cls, .int wri, .int cam, .ref pI, .int pid, .int ope, .int isw, .int so0, .int onc, .ref nm, .ref vL, .ref tR, .int spp, .int eat, .int ste, .ref rW, .ref sP, .ref oT, .ref bS, .ref aS, .ref aO, .ref cS, .ref wY])), (tP_, .inl (cI, 300, .inl ftp))]) := hD
      refine lv_iload_n hx hb dX12_nextToken_358 rfl (lv_at hl 1 rfl) ?_
      refine lv_bipush (v := 60) hx hb dX12_nextToken_359 (by decide) ?_
      refine lv_icmp_eq (tgt := 370) hx hb dX12_nextToken_361 (by decide) (fun c18 => ?_) (fun c18 => ?_)
      · refine lv_aload_n hx hb dX12_nextToken_370 rfl (lv_at hl 0 rfl) ?_
        refine lv_aload_n hx hb dX12_nextToken_371 rfl (lv_at hl 0 rfl) ?_
        refine z_get Z i_X12 hP 0 rfl rfl 7 (by decide) bw_1026 rfl dX12_nextToken_372 ?_
        have hPc := hP.sub2 (wc := [(q, .inr (12, [.ref aA, .ref aI, .ref xT, .ref tP_, .int td, .int fu, .int fp, .int vat_, .int vplc, .int cc, .int vnum, .long vwrd, .int tx0, .int cls, .int wri, .int cam, .ref pI, .int pid, .int ope, .int isw, .int so0, .int onc, .ref nm, .ref vL, .ref tR, .int spp, .int eat, .int ste, .ref rW, .ref sP, .ref oT, .ref bS, .ref aS, .ref aO, .ref cS, .ref wY])), (tP_, .inl (cI, 300, .inl ftp))]) [0, 1] rfl
        have hDc := hD.sub (ws' := [(q, .inr (12, [.ref aA, .ref aI, .ref xT, .ref tP_, .int td, .int fu, .int fp, .int vat_, .int vplc, .int cc, .int vnum, .long vwrd, .int tx0, .int cls, .int wri, .int cam, .ref pI, .int pid, .int ope, .int isw, .int so0, .int onc, .ref nm, .ref vL, .ref tR, .int spp, .int eat, .int ste, .ref rW, .ref sP, .ref oT, .ref bS, .ref aS, .ref aO, .ref cS, .ref wY])), (tP_, .inl (cI, 300, .inl ftp))]) [0, 1] (by decide) rfl
        refine raw_Vi (ci := 12) (q0 := 0) (nA := 1) (As := [.int vat_]) (rest := []) Z hl.1 (c_X12_byteAt l D cI cM cT cJ cZ q vat_ aA aI xT tP_ td fu fp vat_ vplc cc vnum vwrd tx0 cls wri cam pI pid ope isw so0 onc nm vL tR spp eat ste rW sP oT bS aS aO cS wY ftp (by (try simp only [zlt, zle, zeq, zl_0, zl_1, zl_2, zl_3, zl_4, zl_5, zl_6, zl_7, zl_8, zl_9, zl_10, zl_11, zl_12, zl_13, zl_14, zl_15, zl_16, zl_17, zl_18, zl_19, zl_20, zl_21, zl_22, zl_23, zl_24, zl_25, zl_26, zl_27, zl_28, zl_29, zl_30, zl_31, zl_32, zl_33, zl_34, zl_35, zl_36, zl_37, zl_38, zl_39, zl_40, zl_41, zl_42, zl_43, zl_44, zl_45, zl_46, zl_47, zl_48, zl_49, zl_50, zl_51, zl_52, zl_53, zl_54, zl_55, zl_56, zl_57, zl_58, zl_59, zl_60, zl_61, zl_62, zl_63, zl_64, zl_65, zl_82, zl_99, zl_100, zl_160, zl_299, zl_300, zl_301, zl_382, zl_398, zl_399, zl_464, zl_680, zl_862, zl_999, zl_1000, zl_9999, zl_10000, zl_1000000, zl_m1, zl_m2, zl_m3, zl_m8, zl_97, zl_122, zl_90, zl_100000, zl_75] at hi_td hi_spp hat h0 hm c1 c18 ⊢); omega) (by (try simp only [zlt, zle, zeq, zl_0, zl_1, zl_2, zl_3, zl_4, zl_5, zl_6, zl_7, zl_8, zl_9, zl_10, zl_11, zl_12, zl_13, zl_14, zl_15, zl_16, zl_17, zl_18, zl_19, zl_20, zl_21, zl_22, zl_23, zl_24, zl_25, zl_26, zl_27, zl_28, zl_29, zl_30, zl_31, zl_32, zl_33, zl_34, zl_35, zl_36, zl_37, zl_38, zl_39, zl_40, zl_41, zl_42, zl_43, zl_44, zl_45, zl_46, zl_47, zl_48, zl_49, zl_50, zl_51, zl_52, zl_53, zl_54, zl_55, zl_56, zl_57, zl_58, zl_59, zl_60, zl_61, zl_62, zl_63, zl_64, zl_65, zl_82, zl_99, zl_100, zl_160, zl_299, zl_300, zl_301, zl_382, zl_398, zl_399, zl_464, zl_680, zl_862, zl_999, zl_1000, zl_9999, zl_10000, zl_1000000, zl_m1, zl_m2, zl_m3, zl_m8, zl_97, zl_122, zl_90, zl_100000, zl_75] at hi_td hi_spp hat h0 hm c1 c18 ⊢); omega) (by (try simp only [zlt, zle, zeq, zl_0, zl_1, zl_2, zl_3, zl_4, zl_5, zl_6, zl_7, zl_8, zl_9, zl_10, zl_11, zl_12, zl_13, zl_14, zl_15, zl_16, zl_17, zl_18, zl_19, zl_20, zl_21, zl_22, zl_23, zl_24, zl_25, zl_26, zl_27, zl_28, zl_29, zl_30, zl_31, zl_32, zl_33, zl_34, zl_35, zl_36, zl_37, zl_38, zl_39, zl_40, zl_41, zl_42, zl_43, zl_44, zl_45, zl_46, zl_47, zl_48, zl_49, zl_50, zl_51, zl_52, zl_53, zl_54, zl_55, zl_56, zl_57, zl_58, zl_59, zl_60, zl_61, zl_62, zl_63, zl_64, zl_65, zl_82, zl_99, zl_100, zl_160, zl_299, zl_300, zl_301, zl_382, zl_398, zl_399, zl_464, zl_680, zl_862, zl_999, zl_1000, zl_9999, zl_10000, zl_1000000, zl_m1, zl_m2, zl_m3, zl_m8, zl_97, zl_122, zl_90, zl_100000, zl_75] at hi_td hi_spp hat h0 hm c1 c18 ⊢); omega)) (bw_V bw_1178 bw_1180 bw_39 bw_92 bw_1181) ⟨by decide +kernel, by decide +kernel, by decide +kernel⟩ rfl ⟨Nat.le_of_ble_eq_true rfl, Nat.le_of_ble_eq_true rfl⟩ rfl rfl rfl hPc hDc hS rfl (Nat.le_of_ble_eq_true rfl) dX12_nextToken_375 ⟨Nat.le_of_ble_eq_true rfl, Nat.le_of_ble_eq_true rfl⟩ (fun r20 u19 H1 locs1 h21 hku19 hP1 hD1 hS1 => ?_)
        obtain ⟨rfl, huh21_0⟩ := h21
        obtain ⟨hP, hD⟩ := z_join (wr := []) Z hS hP hD [0, 1] [] rfl (by decide) rfl (by decide) (by decide) hku19 hP1 hD1
        have hS := hS1
        clear hS1
        generalize H1 = H at hP hS ⊢
        generalize locs1 = locs at hS ⊢
        have hP : va_P D vwCl ([(q, .inr (12, [.ref aA, .ref aI, .ref xT, .ref tP_, .int td, .int fu, .int fp, .int vat_, .int vplc, .int cc, .int vnum, .long vwrd, .int tx0, .int cls, .int wri, .int cam, .ref pI, .int pid, .int ope, .int isw, .int so0, .int onc, .ref nm, .ref vL, .ref tR, .int spp, .int eat, .int ste, .ref rW, .ref sP, .ref oT, .ref bS, .ref aS, .ref aO, .ref cS, .ref wY])), (tP_, .inl (cI, 300, .inl ftp))]) H := hP
        have hD : va_D A ([(q, .inr (12, [.ref aA, .ref aI, .ref xT, .ref tP_, .int td, .int fu, .int fp, .int vat_, .int vplc, .int cc, .int vnum, .long vwrd, .int tx0, .int cls, .int wri, .int cam, .ref pI, .int pid, .int ope, .int isw, .int so0, .int onc, .ref nm, .ref vL, .ref tR, .int spp, .int eat, .int ste, .ref rW, .ref sP, .ref oT, .ref bS, .ref aS, .ref aO, .ref cS, .ref wY])), (tP_, .inl (cI, 300, .inl ftp))]) := hD
        have hba22 : (vat_ : Int32).toInt < td.toInt ∨ BA td.toInt ftp (vat_ : Int32).toInt = -1 := BA_lt
        refine lv_bipush (v := 61) hx hb dX12_nextToken_378 (by decide) ?_
        refine lv_icmp_ne (tgt := 408) hx hb dX12_nextToken_380 (by decide) (fun c23 => ?_) (fun c23 => ?_)
        · exact z_vret Z hP hD hS (⟨vat_, vplc, cc, vnum, vwrd, rfl, (by (try simp only [zlt, zle, zeq, zl_0, zl_1, zl_2, zl_3, zl_4, zl_5, zl_6, zl_7, zl_8, zl_9, zl_10, zl_11, zl_12, zl_13, zl_14, zl_15, zl_16, zl_17, zl_18, zl_19, zl_20, zl_21, zl_22, zl_23, zl_24, zl_25, zl_26, zl_27, zl_28, zl_29, zl_30, zl_31, zl_32, zl_33, zl_34, zl_35, zl_36, zl_37, zl_38, zl_39, zl_40, zl_41, zl_42, zl_43, zl_44, zl_45, zl_46, zl_47, zl_48, zl_49, zl_50, zl_51, zl_52, zl_53, zl_54, zl_55, zl_56, zl_57, zl_58, zl_59, zl_60, zl_61, zl_62, zl_63, zl_64, zl_65, zl_82, zl_99, zl_100, zl_160, zl_299, zl_300, zl_301, zl_382, zl_398, zl_399, zl_464, zl_680, zl_862, zl_999, zl_1000, zl_9999, zl_10000, zl_1000000, zl_m1, zl_m2, zl_m3, zl_m8, zl_97, zl_122, zl_90, zl_100000, zl_75, and_true, true_and, and_false, false_and, or_false, false_or, or_true, true_or, not_true_eq_false, not_false_eq_true] at hi_td hi_spp hat h0 hm c1 c18 huh21_0 hba22 c23 ⊢) <;> omega)⟩) dX12_nextToken_408 (Nat.le_of_ble_eq_true rfl) (Nat.le_of_ble_eq_true rfl)
        · refine lv_aload_n hx hb dX12_nextToken_383 rfl (lv_at hl 0 rfl) ?_
          refine lv_dup hx hb dX12_nextToken_384 rfl ?_
          refine z_get Z i_X12 hP 0 rfl rfl 7 (by decide) bw_1026 rfl dX12_nextToken_385 ?_
          refine lv_iconst (v := 1) hx hb dX12_nextToken_388 (by decide) ?_
          refine lv_iadd hx hb dX12_nextToken_389 ?_
          refine lv_topi (fun z24 ez24 => ?_)
          have hz24 : z24.toInt = vat_.toInt + 1 := by rw [ez24]; exact zaddg (by (try simp only [zlt, zle, zeq, zl_0, zl_1, zl_2, zl_3, zl_4, zl_5, zl_6, zl_7, zl_8, zl_9, zl_10, zl_11, zl_12, zl_13, zl_14, zl_15, zl_16, zl_17, zl_18, zl_19, zl_20, zl_21, zl_22, zl_23, zl_24, zl_25, zl_26, zl_27, zl_28, zl_29, zl_30, zl_31, zl_32, zl_33, zl_34, zl_35, zl_36, zl_37, zl_38, zl_39, zl_40, zl_41, zl_42, zl_43, zl_44, zl_45, zl_46, zl_47, zl_48, zl_49, zl_50, zl_51, zl_52, zl_53, zl_54, zl_55, zl_56, zl_57, zl_58, zl_59, zl_60, zl_61, zl_62, zl_63, zl_64, zl_65, zl_82, zl_99, zl_100, zl_160, zl_299, zl_300, zl_301, zl_382, zl_398, zl_399, zl_464, zl_680, zl_862, zl_999, zl_1000, zl_9999, zl_10000, zl_1000000, zl_m1, zl_m2, zl_m3, zl_m8, zl_97, zl_122, zl_90, zl_100000, zl_75] at hi_td hi_spp hat h0 hm c1 c18 huh21_0 hba22 c23 ⊢); omega) (by (try simp only [zlt, zle, zeq, zl_0, zl_1, zl_2, zl_3, zl_4, zl_5, zl_6, zl_7, zl_8, zl_9, zl_10, zl_11, zl_12, zl_13, zl_14, zl_15, zl_16, zl_17, zl_18, zl_19, zl_20, zl_21, zl_22, zl_23, zl_24, zl_25, zl_26, zl_27, zl_28, zl_29, zl_30, zl_31, zl_32, zl_33, zl_34, zl_35, zl_36, zl_37, zl_38, zl_39, zl_40, zl_41, zl_42, zl_43, zl_44, zl_45, zl_46, zl_47, zl_48, zl_49, zl_50, zl_51, zl_52, zl_53, zl_54, zl_55, zl_56, zl_57, zl_58, zl_59, zl_60, zl_61, zl_62, zl_63, zl_64, zl_65, zl_82, zl_99, zl_100, zl_160, zl_299, zl_300, zl_301, zl_382, zl_398, zl_399, zl_464, zl_680, zl_862, zl_999, zl_1000, zl_9999, zl_10000, zl_1000000, zl_m1, zl_m2, zl_m3, zl_m8, zl_97, zl_122, zl_90, zl_100000, zl_75] at hi_td hi_spp hat h0 hm c1 c18 huh21_0 hba22 c23 ⊢); omega)
          refine z_put Z i_X12 tyX12 tyX12_ok nmX12 hP hD hS 0 rfl rfl 7 (by decide) bw_1026 rfl rfl rfl (Nat.le_of_ble_eq_true rfl) dX12_nextToken_390 (fun H locs hP hD hS => ?_)
          have hP : va_P D vwCl ([(q, .inr (12, [.ref aA, .ref aI, .ref xT, .ref tP_, .int td, .int fu, .int fp, .int z24, .int vplc, .int cc, .int vnum, .long vwrd, .int tx0, .int cls, .int wri, .int cam, .ref pI, .int pid, .int ope, .int isw, .int so0, .int onc, .ref nm, .ref vL, .ref tR, .int spp, .int eat, .int ste, .ref rW, .ref sP, .ref oT, .ref bS, .ref aS, .ref aO, .ref cS, .ref wY])), (tP_, .inl (cI, 300, .inl ftp))]) H := hP
          have hD : va_D A ([(q, .inr (12, [.ref aA, .ref aI, .ref xT, .ref tP_, .int td, .int fu, .int fp, .int z24, .int vplc, .int cc, .int vnum, .long vwrd, .int tx0, .int cls, .int wri, .int cam, .ref pI, .int pid, .int ope, .int isw, .int so0, .int onc, .ref nm, .ref vL, .ref tR, .int spp, .int eat, .int ste, .ref rW, .ref sP, .ref oT, .ref bS, .ref aS, .ref aO, .ref cS, .ref wY])), (tP_, .inl (cI, 300, .inl ftp))]) := hD
          refine lv_aload_n hx hb dX12_nextToken_393 rfl (lv_at hl 0 rfl) ?_
          refine lv_iload_n hx hb dX12_nextToken_394 rfl (lv_at hl 1 rfl) ?_
          refine lv_bipush (v := 60) hx hb dX12_nextToken_395 (by decide) ?_
          refine lv_icmp_ne (tgt := 404) hx hb dX12_nextToken_397 (by decide) (fun c25 => ?_) (fun c25 => ?_)
          · refine lv_iconst (v := 5) hx hb dX12_nextToken_404 (by decide) ?_
            refine z_put Z i_X12 tyX12 tyX12_ok nmX12 hP hD hS 0 rfl rfl 9 (by decide) bw_1028 rfl rfl rfl (Nat.le_of_ble_eq_true rfl) dX12_nextToken_405 (fun H locs hP hD hS => ?_)
            have hP : va_P D vwCl ([(q, .inr (12, [.ref aA, .ref aI, .ref xT, .ref tP_, .int td, .int fu, .int fp, .int z24, .int vplc, .int 5, .int vnum, .long vwrd, .int tx0, .int cls, .int wri, .int cam, .ref pI, .int pid, .int ope, .int isw, .int so0, .int onc, .ref nm, .ref vL, .ref tR, .int spp, .int eat, .int ste, .ref rW, .ref sP, .ref oT, .ref bS, .ref aS, .ref aO, .ref cS, .ref wY])), (tP_, .inl (cI, 300, .inl ftp))]) H := hP
            have hD : va_D A ([(q, .inr (12, [.ref aA, .ref aI, .ref xT, .ref tP_, .int td, .int fu, .int fp, .int z24, .int vplc, .int 5, .int vnum, .long vwrd, .int tx0, .int cls, .int wri, .int cam, .ref pI, .int pid, .int ope, .int isw, .int so0, .int onc, .ref nm, .ref vL, .ref tR, .int spp, .int eat, .int ste, .ref rW, .ref sP, .ref oT, .ref bS, .ref aS, .ref aO, .ref cS, .ref wY])), (tP_, .inl (cI, 300, .inl ftp))]) := hD
            exact z_vret Z hP hD hS (⟨z24, vplc, 5, vnum, vwrd, rfl, (by (try simp only [zlt, zle, zeq, zl_0, zl_1, zl_2, zl_3, zl_4, zl_5, zl_6, zl_7, zl_8, zl_9, zl_10, zl_11, zl_12, zl_13, zl_14, zl_15, zl_16, zl_17, zl_18, zl_19, zl_20, zl_21, zl_22, zl_23, zl_24, zl_25, zl_26, zl_27, zl_28, zl_29, zl_30, zl_31, zl_32, zl_33, zl_34, zl_35, zl_36, zl_37, zl_38, zl_39, zl_40, zl_41, zl_42, zl_43, zl_44, zl_45, zl_46, zl_47, zl_48, zl_49, zl_50, zl_51, zl_52, zl_53, zl_54, zl_55, zl_56, zl_57, zl_58, zl_59, zl_60, zl_61, zl_62, zl_63, zl_64, zl_65, zl_82, zl_99, zl_100, zl_160, zl_299, zl_300, zl_301, zl_382, zl_398, zl_399, zl_464, zl_680, zl_862, zl_999, zl_1000, zl_9999, zl_10000, zl_1000000, zl_m1, zl_m2, zl_m3, zl_m8, zl_97, zl_122, zl_90, zl_100000, zl_75, and_true, true_and, and_false, false_and, or_false, false_or, or_true, true_or, not_true_eq_false, not_false_eq_true] at hi_td hi_spp hat h0 hm c1 c18 huh21_0 hba22 c23 hz24 c25 ⊢) <;> omega)⟩) dX12_nextToken_408 (Nat.le_of_ble_eq_true rfl) (Nat.le_of_ble_eq_true rfl)
          · refine lv_iconst (v := 4) hx hb dX12_nextToken_400 (by decide) ?_
            refine lv_goto (tgt := 405) hx hb dX12_nextToken_401 (by decide) ?_
            refine z_put Z i_X12 tyX12 tyX12_ok nmX12 hP hD hS 0 rfl rfl 9 (by decide) bw_1028 rfl rfl rfl (Nat.le_of_ble_eq_true rfl) dX12_nextToken_405 (fun H locs hP hD hS => ?_)
            have hP : va_P D vwCl ([(q, .inr (12, [.ref aA, .ref aI, .ref xT, .ref tP_, .int td, .int fu, .int fp, .int z24, .int vplc, .int 4, .int vnum, .long vwrd, .int tx0, .int cls, .int wri, .int cam, .ref pI, .int pid, .int ope, .int isw, .int so0, .int onc, .ref nm, .ref vL, .ref tR, .int spp, .int eat, .int ste, .ref rW, .ref sP, .ref oT, .ref bS, .ref aS, .ref aO, .ref cS, .ref wY])), (tP_, .inl (cI, 300, .inl ftp))]) H := hP
            have hD : va_D A ([(q, .inr (12, [.ref aA, .ref aI, .ref xT, .ref tP_, .int td, .int fu, .int fp, .int z24, .int vplc, .int 4, .int vnum, .long vwrd, .int tx0, .int cls, .int wri, .int cam, .ref pI, .int pid, .int ope, .int isw, .int so0, .int onc, .ref nm, .ref vL, .ref tR, .int spp, .int eat, .int ste, .ref rW, .ref sP, .ref oT, .ref bS, .ref aS, .ref aO, .ref cS, .ref wY])), (tP_, .inl (cI, 300, .inl ftp))]) := hD
            exact z_vret Z hP hD hS (⟨z24, vplc, 4, vnum, vwrd, rfl, (by (try simp only [zlt, zle, zeq, zl_0, zl_1, zl_2, zl_3, zl_4, zl_5, zl_6, zl_7, zl_8, zl_9, zl_10, zl_11, zl_12, zl_13, zl_14, zl_15, zl_16, zl_17, zl_18, zl_19, zl_20, zl_21, zl_22, zl_23, zl_24, zl_25, zl_26, zl_27, zl_28, zl_29, zl_30, zl_31, zl_32, zl_33, zl_34, zl_35, zl_36, zl_37, zl_38, zl_39, zl_40, zl_41, zl_42, zl_43, zl_44, zl_45, zl_46, zl_47, zl_48, zl_49, zl_50, zl_51, zl_52, zl_53, zl_54, zl_55, zl_56, zl_57, zl_58, zl_59, zl_60, zl_61, zl_62, zl_63, zl_64, zl_65, zl_82, zl_99, zl_100, zl_160, zl_299, zl_300, zl_301, zl_382, zl_398, zl_399, zl_464, zl_680, zl_862, zl_999, zl_1000, zl_9999, zl_10000, zl_1000000, zl_m1, zl_m2, zl_m3, zl_m8, zl_97, zl_122, zl_90, zl_100000, zl_75, and_true, true_and, and_false, false_and, or_false, false_or, or_true, true_or, not_true_eq_false, not_false_eq_true] at hi_td hi_spp hat h0 hm c1 c18 huh21_0 hba22 c23 hz24 c25 ⊢) <;> omega)⟩) dX12_nextToken_408 (Nat.le_of_ble_eq_true rfl) (Nat.le_of_ble_eq_true rfl)
      · refine lv_iload_n hx hb dX12_nextToken_364 rfl (lv_at hl 1 rfl) ?_
        refine lv_bipush (v := 62) hx hb dX12_nextToken_365 (by decide) ?_
        refine lv_icmp_ne (tgt := 408) hx hb dX12_nextToken_367 (by decide) (fun c26 => ?_) (fun c26 => ?_)
        · exact z_vret Z hP hD hS (⟨vat_, vplc, cc, vnum, vwrd, rfl, (by (try simp only [zlt, zle, zeq, zl_0, zl_1, zl_2, zl_3, zl_4, zl_5, zl_6, zl_7, zl_8, zl_9, zl_10, zl_11, zl_12, zl_13, zl_14, zl_15, zl_16, zl_17, zl_18, zl_19, zl_20, zl_21, zl_22, zl_23, zl_24, zl_25, zl_26, zl_27, zl_28, zl_29, zl_30, zl_31, zl_32, zl_33, zl_34, zl_35, zl_36, zl_37, zl_38, zl_39, zl_40, zl_41, zl_42, zl_43, zl_44, zl_45, zl_46, zl_47, zl_48, zl_49, zl_50, zl_51, zl_52, zl_53, zl_54, zl_55, zl_56, zl_57, zl_58, zl_59, zl_60, zl_61, zl_62, zl_63, zl_64, zl_65, zl_82, zl_99, zl_100, zl_160, zl_299, zl_300, zl_301, zl_382, zl_398, zl_399, zl_464, zl_680, zl_862, zl_999, zl_1000, zl_9999, zl_10000, zl_1000000, zl_m1, zl_m2, zl_m3, zl_m8, zl_97, zl_122, zl_90, zl_100000, zl_75, and_true, true_and, and_false, false_and, or_false, false_or, or_true, true_or, not_true_eq_false, not_false_eq_true] at hi_td hi_spp hat h0 hm c1 c18 c26 ⊢) <;> omega)⟩) dX12_nextToken_408 (Nat.le_of_ble_eq_true rfl) (Nat.le_of_ble_eq_true rfl)
        · refine lv_aload_n hx hb dX12_nextToken_370 rfl (lv_at hl 0 rfl) ?_
          refine lv_aload_n hx hb dX12_nextToken_371 rfl (lv_at hl 0 rfl) ?_
          refine z_get Z i_X12 hP 0 rfl rfl 7 (by decide) bw_1026 rfl dX12_nextToken_372 ?_
          have hPc := hP.sub2 (wc := [(q, .inr (12, [.ref aA, .ref aI, .ref xT, .ref tP_, .int td, .int fu, .int fp, .int vat_, .int vplc, .int cc, .int vnum, .long vwrd, .int tx0, .int cls, .int wri, .int cam, .ref pI, .int pid, .int ope, .int isw, .int so0, .int onc, .ref nm, .ref vL, .ref tR, .int spp, .int eat, .int ste, .ref rW, .ref sP, .ref oT, .ref bS, .ref aS, .ref aO, .ref cS, .ref wY])), (tP_, .inl (cI, 300, .inl ftp))]) [0, 1] rfl
          have hDc := hD.sub (ws' := [(q, .inr (12, [.ref aA, .ref aI, .ref xT, .ref tP_, .int td, .int fu, .int fp, .int vat_, .int vplc, .int cc, .int vnum, .long vwrd, .int tx0, .int cls, .int wri, .int cam, .ref pI, .int pid, .int ope, .int isw, .int so0, .int onc, .ref nm, .ref vL, .ref tR, .int spp, .int eat, .int ste, .ref rW, .ref sP, .ref oT, .ref bS, .ref aS, .ref aO, .ref cS, .ref wY])), (tP_, .inl (cI, 300, .inl ftp))]) [0, 1] (by decide) rfl
          refine raw_Vi (ci := 12) (q0 := 0) (nA := 1) (As := [.int vat_]) (rest := []) Z hl.1 (c_X12_byteAt l D cI cM cT cJ cZ q vat_ aA aI xT tP_ td fu fp vat_ vplc cc vnum vwrd tx0 cls wri cam pI pid ope isw so0 onc nm vL tR spp eat ste rW sP oT bS aS aO cS wY ftp (by (try simp only [zlt, zle, zeq, zl_0, zl_1, zl_2, zl_3, zl_4, zl_5, zl_6, zl_7, zl_8, zl_9, zl_10, zl_11, zl_12, zl_13, zl_14, zl_15, zl_16, zl_17, zl_18, zl_19, zl_20, zl_21, zl_22, zl_23, zl_24, zl_25, zl_26, zl_27, zl_28, zl_29, zl_30, zl_31, zl_32, zl_33, zl_34, zl_35, zl_36, zl_37, zl_38, zl_39, zl_40, zl_41, zl_42, zl_43, zl_44, zl_45, zl_46, zl_47, zl_48, zl_49, zl_50, zl_51, zl_52, zl_53, zl_54, zl_55, zl_56, zl_57, zl_58, zl_59, zl_60, zl_61, zl_62, zl_63, zl_64, zl_65, zl_82, zl_99, zl_100, zl_160, zl_299, zl_300, zl_301, zl_382, zl_398, zl_399, zl_464, zl_680, zl_862, zl_999, zl_1000, zl_9999, zl_10000, zl_1000000, zl_m1, zl_m2, zl_m3, zl_m8, zl_97, zl_122, zl_90, zl_100000, zl_75] at hi_td hi_spp hat h0 hm c1 c18 c26 ⊢); omega) (by (try simp only [zlt, zle, zeq, zl_0, zl_1, zl_2, zl_3, zl_4, zl_5, zl_6, zl_7, zl_8, zl_9, zl_10, zl_11, zl_12, zl_13, zl_14, zl_15, zl_16, zl_17, zl_18, zl_19, zl_20, zl_21, zl_22, zl_23, zl_24, zl_25, zl_26, zl_27, zl_28, zl_29, zl_30, zl_31, zl_32, zl_33, zl_34, zl_35, zl_36, zl_37, zl_38, zl_39, zl_40, zl_41, zl_42, zl_43, zl_44, zl_45, zl_46, zl_47, zl_48, zl_49, zl_50, zl_51, zl_52, zl_53, zl_54, zl_55, zl_56, zl_57, zl_58, zl_59, zl_60, zl_61, zl_62, zl_63, zl_64, zl_65, zl_82, zl_99, zl_100, zl_160, zl_299, zl_300, zl_301, zl_382, zl_398, zl_399, zl_464, zl_680, zl_862, zl_999, zl_1000, zl_9999, zl_10000, zl_1000000, zl_m1, zl_m2, zl_m3, zl_m8, zl_97, zl_122, zl_90, zl_100000, zl_75] at hi_td hi_spp hat h0 hm c1 c18 c26 ⊢); omega) (by (try simp only [zlt, zle, zeq, zl_0, zl_1, zl_2, zl_3, zl_4, zl_5, zl_6, zl_7, zl_8, zl_9, zl_10, zl_11, zl_12, zl_13, zl_14, zl_15, zl_16, zl_17, zl_18, zl_19, zl_20, zl_21, zl_22, zl_23, zl_24, zl_25, zl_26, zl_27, zl_28, zl_29, zl_30, zl_31, zl_32, zl_33, zl_34, zl_35, zl_36, zl_37, zl_38, zl_39, zl_40, zl_41, zl_42, zl_43, zl_44, zl_45, zl_46, zl_47, zl_48, zl_49, zl_50, zl_51, zl_52, zl_53, zl_54, zl_55, zl_56, zl_57, zl_58, zl_59, zl_60, zl_61, zl_62, zl_63, zl_64, zl_65, zl_82, zl_99, zl_100, zl_160, zl_299, zl_300, zl_301, zl_382, zl_398, zl_399, zl_464, zl_680, zl_862, zl_999, zl_1000, zl_9999, zl_10000, zl_1000000, zl_m1, zl_m2, zl_m3, zl_m8, zl_97, zl_122, zl_90, zl_100000, zl_75] at hi_td hi_spp hat h0 hm c1 c18 c26 ⊢); omega)) (bw_V bw_1178 bw_1180 bw_39 bw_92 bw_1181) ⟨by decide +kernel, by decide +kernel, by decide +kernel⟩ rfl ⟨Nat.le_of_ble_eq_true rfl, Nat.le_of_ble_eq_true rfl⟩ rfl rfl rfl hPc hDc hS rfl (Nat.le_of_ble_eq_true rfl) dX12_nextToken_375 ⟨Nat.le_of_ble_eq_true rfl, Nat.le_of_ble_eq_true rfl⟩ (fun r28 u27 H1 locs1 h29 hku27 hP1 hD1 hS1 => ?_)
          obtain ⟨rfl, huh29_0⟩ := h29
          obtain ⟨hP, hD⟩ := z_join (wr := []) Z hS hP hD [0, 1] [] rfl (by decide) rfl (by decide) (by decide) hku27 hP1 hD1
          have hS := hS1
          clear hS1
          generalize H1 = H at hP hS ⊢
          generalize locs1 = locs at hS ⊢
          have hP : va_P D vwCl ([(q, .inr (12, [.ref aA, .ref aI, .ref xT, .ref tP_, .int td, .int fu, .int fp, .int vat_, .int vplc, .int cc, .int vnum, .long vwrd, .int tx0, .int cls, .int wri, .int cam, .ref pI, .int pid, .int ope, .int isw, .int so0, .int onc, .ref nm, .ref vL, .ref tR, .int spp, .int eat, .int ste, .ref rW, .ref sP, .ref oT, .ref bS, .ref aS, .ref aO, .ref cS, .ref wY])), (tP_, .inl (cI, 300, .inl ftp))]) H := hP
          have hD : va_D A ([(q, .inr (12, [.ref aA, .ref aI, .ref xT, .ref tP_, .int td, .int fu, .int fp, .int vat_, .int vplc, .int cc, .int vnum, .long vwrd, .int tx0, .int cls, .int wri, .int cam, .ref pI, .int pid, .int ope, .int isw, .int so0, .int onc, .ref nm, .ref vL, .ref tR, .int spp, .int eat, .int ste, .ref rW, .ref sP, .ref oT, .ref bS, .ref aS, .ref aO, .ref cS, .ref wY])), (tP_, .inl (cI, 300, .inl ftp))]) := hD
          have hba30 : (vat_ : Int32).toInt < td.toInt ∨ BA td.toInt ftp (vat_ : Int32).toInt = -1 := BA_lt
          refine lv_bipush (v := 61) hx hb dX12_nextToken_378 (by decide) ?_
          refine lv_icmp_ne (tgt := 408) hx hb dX12_nextToken_380 (by decide) (fun c31 => ?_) (fun c31 => ?_)
          · exact z_vret Z hP hD hS (⟨vat_, vplc, cc, vnum, vwrd, rfl, (by (try simp only [zlt, zle, zeq, zl_0, zl_1, zl_2, zl_3, zl_4, zl_5, zl_6, zl_7, zl_8, zl_9, zl_10, zl_11, zl_12, zl_13, zl_14, zl_15, zl_16, zl_17, zl_18, zl_19, zl_20, zl_21, zl_22, zl_23, zl_24, zl_25, zl_26, zl_27, zl_28, zl_29, zl_30, zl_31, zl_32, zl_33, zl_34, zl_35, zl_36, zl_37, zl_38, zl_39, zl_40, zl_41, zl_42, zl_43, zl_44, zl_45, zl_46, zl_47, zl_48, zl_49, zl_50, zl_51, zl_52, zl_53, zl_54, zl_55, zl_56, zl_57, zl_58, zl_59, zl_60, zl_61, zl_62, zl_63, zl_64, zl_65, zl_82, zl_99, zl_100, zl_160, zl_299, zl_300, zl_301, zl_382, zl_398, zl_399, zl_464, zl_680, zl_862, zl_999, zl_1000, zl_9999, zl_10000, zl_1000000, zl_m1, zl_m2, zl_m3, zl_m8, zl_97, zl_122, zl_90, zl_100000, zl_75, and_true, true_and, and_false, false_and, or_false, false_or, or_true, true_or, not_true_eq_false, not_false_eq_true] at hi_td hi_spp hat h0 hm c1 c18 c26 huh29_0 hba30 c31 ⊢) <;> omega)⟩) dX12_nextToken_408 (Nat.le_of_ble_eq_true rfl) (Nat.le_of_ble_eq_true rfl)
          · refine lv_aload_n hx hb dX12_nextToken_383 rfl (lv_at hl 0 rfl) ?_
            refine lv_dup hx hb dX12_nextToken_384 rfl ?_
            refine z_get Z i_X12 hP 0 rfl rfl 7 (by decide) bw_1026 rfl dX12_nextToken_385 ?_
            refine lv_iconst (v := 1) hx hb dX12_nextToken_388 (by decide) ?_
            refine lv_iadd hx hb dX12_nextToken_389 ?_
            refine lv_topi (fun z32 ez32 => ?_)
            have hz32 : z32.toInt = vat_.toInt + 1 := by rw [ez32]; exact zaddg (by (try simp only [zlt, zle, zeq, zl_0, zl_1, zl_2, zl_3, zl_4, zl_5, zl_6, zl_7, zl_8, zl_9, zl_10, zl_11, zl_12, zl_13, zl_14, zl_15, zl_16, zl_17, zl_18, zl_19, zl_20, zl_21, zl_22, zl_23, zl_24, zl_25, zl_26, zl_27, zl_28, zl_29, zl_30, zl_31, zl_32, zl_33, zl_34, zl_35, zl_36, zl_37, zl_38, zl_39, zl_40, zl_41, zl_42, zl_43, zl_44, zl_45, zl_46, zl_47, zl_48, zl_49, zl_50, zl_51, zl_52, zl_53, zl_54, zl_55, zl_56, zl_57, zl_58, zl_59, zl_60, zl_61, zl_62, zl_63, zl_64, zl_65, zl_82, zl_99, zl_100, zl_160, zl_299, zl_300, zl_301, zl_382, zl_398, zl_399, zl_464, zl_680, zl_862, zl_999, zl_1000, zl_9999, zl_10000, zl_1000000, zl_m1, zl_m2, zl_m3, zl_m8, zl_97, zl_122, zl_90, zl_100000, zl_75] at hi_td hi_spp hat h0 hm c1 c18 c26 huh29_0 hba30 c31 ⊢); omega) (by (try simp only [zlt, zle, zeq, zl_0, zl_1, zl_2, zl_3, zl_4, zl_5, zl_6, zl_7, zl_8, zl_9, zl_10, zl_11, zl_12, zl_13, zl_14, zl_15, zl_16, zl_17, zl_18, zl_19, zl_20, zl_21, zl_22, zl_23, zl_24, zl_25, zl_26, zl_27, zl_28, zl_29, zl_30, zl_31, zl_32, zl_33, zl_34, zl_35, zl_36, zl_37, zl_38, zl_39, zl_40, zl_41, zl_42, zl_43, zl_44, zl_45, zl_46, zl_47, zl_48, zl_49, zl_50, zl_51, zl_52, zl_53, zl_54, zl_55, zl_56, zl_57, zl_58, zl_59, zl_60, zl_61, zl_62, zl_63, zl_64, zl_65, zl_82, zl_99, zl_100, zl_160, zl_299, zl_300, zl_301, zl_382, zl_398, zl_399, zl_464, zl_680, zl_862, zl_999, zl_1000, zl_9999, zl_10000, zl_1000000, zl_m1, zl_m2, zl_m3, zl_m8, zl_97, zl_122, zl_90, zl_100000, zl_75] at hi_td hi_spp hat h0 hm c1 c18 c26 huh29_0 hba30 c31 ⊢); omega)
            refine z_put Z i_X12 tyX12 tyX12_ok nmX12 hP hD hS 0 rfl rfl 7 (by decide) bw_1026 rfl rfl rfl (Nat.le_of_ble_eq_true rfl) dX12_nextToken_390 (fun H locs hP hD hS => ?_)
            have hP : va_P D vwCl ([(q, .inr (12, [.ref aA, .ref aI, .ref xT, .ref tP_, .int td, .int fu, .int fp, .int z32, .int vplc, .int cc, .int vnum, .long vwrd, .int tx0, .int cls, .int wri, .int cam, .ref pI, .int pid, .int ope, .int isw, .int so0, .int onc, .ref nm, .ref vL, .ref tR, .int spp, .int eat, .int ste, .ref rW, .ref sP, .ref oT, .ref bS, .ref aS, .ref aO, .ref cS, .ref wY])), (tP_, .inl (cI, 300, .inl ftp))]) H := hP
            have hD : va_D A ([(q, .inr (12, [.ref aA, .ref aI, .ref xT, .ref tP_, .int td, .int fu, .int fp, .int z32, .int vplc, .int cc, .int vnum, .long vwrd, .int tx0, .int cls, .int wri, .int cam, .ref pI, .int pid, .int ope, .int isw, .int so0, .int onc, .ref nm, .ref vL, .ref tR, .int spp, .int eat, .int ste, .ref rW, .ref sP, .ref oT, .ref bS, .ref aS, .ref aO, .ref cS, .ref wY])), (tP_, .inl (cI, 300, .inl ftp))]) := hD
            refine lv_aload_n hx hb dX12_nextToken_393 rfl (lv_at hl 0 rfl) ?_
            refine lv_iload_n hx hb dX12_nextToken_394 rfl (lv_at hl 1 rfl) ?_
            refine lv_bipush (v := 60) hx hb dX12_nextToken_395 (by decide) ?_
            refine lv_icmp_ne (tgt := 404) hx hb dX12_nextToken_397 (by decide) (fun c33 => ?_) (fun c33 => ?_)
            · refine lv_iconst (v := 5) hx hb dX12_nextToken_404 (by decide) ?_
              refine z_put Z i_X12 tyX12 tyX12_ok nmX12 hP hD hS 0 rfl rfl 9 (by decide) bw_1028 rfl rfl rfl (Nat.le_of_ble_eq_true rfl) dX12_nextToken_405 (fun H locs hP hD hS => ?_)
              have hP : va_P D vwCl ([(q, .inr (12, [.ref aA, .ref aI, .ref xT, .ref tP_, .int td, .int fu, .int fp, .int z32, .int vplc, .int 5, .int vnum, .long vwrd, .int tx0, .int cls, .int wri, .int cam, .ref pI, .int pid, .int ope, .int isw, .int so0, .int onc, .ref nm, .ref vL, .ref tR, .int spp, .int eat, .int ste, .ref rW, .ref sP, .ref oT, .ref bS, .ref aS, .ref aO, .ref cS, .ref wY])), (tP_, .inl (cI, 300, .inl ftp))]) H := hP
              have hD : va_D A ([(q, .inr (12, [.ref aA, .ref aI, .ref xT, .ref tP_, .int td, .int fu, .int fp, .int z32, .int vplc, .int 5, .int vnum, .long vwrd, .int tx0, .int cls, .int wri, .int cam, .ref pI, .int pid, .int ope, .int isw, .int so0, .int onc, .ref nm, .ref vL, .ref tR, .int spp, .int eat, .int ste, .ref rW, .ref sP, .ref oT, .ref bS, .ref aS, .ref aO, .ref cS, .ref wY])), (tP_, .inl (cI, 300, .inl ftp))]) := hD
              exact z_vret Z hP hD hS (⟨z32, vplc, 5, vnum, vwrd, rfl, (by (try simp only [zlt, zle, zeq, zl_0, zl_1, zl_2, zl_3, zl_4, zl_5, zl_6, zl_7, zl_8, zl_9, zl_10, zl_11, zl_12, zl_13, zl_14, zl_15, zl_16, zl_17, zl_18, zl_19, zl_20, zl_21, zl_22, zl_23, zl_24, zl_25, zl_26, zl_27, zl_28, zl_29, zl_30, zl_31, zl_32, zl_33, zl_34, zl_35, zl_36, zl_37, zl_38, zl_39, zl_40, zl_41, zl_42, zl_43, zl_44, zl_45, zl_46, zl_47, zl_48, zl_49, zl_50, zl_51, zl_52, zl_53, zl_54, zl_55, zl_56, zl_57, zl_58, zl_59, zl_60, zl_61, zl_62, zl_63, zl_64, zl_65, zl_82, zl_99, zl_100, zl_160, zl_299, zl_300, zl_301, zl_382, zl_398, zl_399, zl_464, zl_680, zl_862, zl_999, zl_1000, zl_9999, zl_10000, zl_1000000, zl_m1, zl_m2, zl_m3, zl_m8, zl_97, zl_122, zl_90, zl_100000, zl_75, and_true, true_and, and_false, false_and, or_false, false_or, or_true, true_or, not_true_eq_false, not_false_eq_true] at hi_td hi_spp hat h0 hm c1 c18 c26 huh29_0 hba30 c31 hz32 c33 ⊢) <;> omega)⟩) dX12_nextToken_408 (Nat.le_of_ble_eq_true rfl) (Nat.le_of_ble_eq_true rfl)
            · refine lv_iconst (v := 4) hx hb dX12_nextToken_400 (by decide) ?_
              refine lv_goto (tgt := 405) hx hb dX12_nextToken_401 (by decide) ?_
              refine z_put Z i_X12 tyX12 tyX12_ok nmX12 hP hD hS 0 rfl rfl 9 (by decide) bw_1028 rfl rfl rfl (Nat.le_of_ble_eq_true rfl) dX12_nextToken_405 (fun H locs hP hD hS => ?_)
              have hP : va_P D vwCl ([(q, .inr (12, [.ref aA, .ref aI, .ref xT, .ref tP_, .int td, .int fu, .int fp, .int z32, .int vplc, .int 4, .int vnum, .long vwrd, .int tx0, .int cls, .int wri, .int cam, .ref pI, .int pid, .int ope, .int isw, .int so0, .int onc, .ref nm, .ref vL, .ref tR, .int spp, .int eat, .int ste, .ref rW, .ref sP, .ref oT, .ref bS, .ref aS, .ref aO, .ref cS, .ref wY])), (tP_, .inl (cI, 300, .inl ftp))]) H := hP
              have hD : va_D A ([(q, .inr (12, [.ref aA, .ref aI, .ref xT, .ref tP_, .int td, .int fu, .int fp, .int z32, .int vplc, .int 4, .int vnum, .long vwrd, .int tx0, .int cls, .int wri, .int cam, .ref pI, .int pid, .int ope, .int isw, .int so0, .int onc, .ref nm, .ref vL, .ref tR, .int spp, .int eat, .int ste, .ref rW, .ref sP, .ref oT, .ref bS, .ref aS, .ref aO, .ref cS, .ref wY])), (tP_, .inl (cI, 300, .inl ftp))]) := hD
              exact z_vret Z hP hD hS (⟨z32, vplc, 4, vnum, vwrd, rfl, (by (try simp only [zlt, zle, zeq, zl_0, zl_1, zl_2, zl_3, zl_4, zl_5, zl_6, zl_7, zl_8, zl_9, zl_10, zl_11, zl_12, zl_13, zl_14, zl_15, zl_16, zl_17, zl_18, zl_19, zl_20, zl_21, zl_22, zl_23, zl_24, zl_25, zl_26, zl_27, zl_28, zl_29, zl_30, zl_31, zl_32, zl_33, zl_34, zl_35, zl_36, zl_37, zl_38, zl_39, zl_40, zl_41, zl_42, zl_43, zl_44, zl_45, zl_46, zl_47, zl_48, zl_49, zl_50, zl_51, zl_52, zl_53, zl_54, zl_55, zl_56, zl_57, zl_58, zl_59, zl_60, zl_61, zl_62, zl_63, zl_64, zl_65, zl_82, zl_99, zl_100, zl_160, zl_299, zl_300, zl_301, zl_382, zl_398, zl_399, zl_464, zl_680, zl_862, zl_999, zl_1000, zl_9999, zl_10000, zl_1000000, zl_m1, zl_m2, zl_m3, zl_m8, zl_97, zl_122, zl_90, zl_100000, zl_75, and_true, true_and, and_false, false_and, or_false, false_or, or_true, true_or, not_true_eq_false, not_false_eq_true] at hi_td hi_spp hat h0 hm c1 c18 c26 huh29_0 hba30 c31 hz32 c33 ⊢) <;> omega)⟩) dX12_nextToken_408 (Nat.le_of_ble_eq_true rfl) (Nat.le_of_ble_eq_true rfl)
set_option maxHeartbeats 4000000 in
set_option maxRecDepth 100000 in
theorem lp_nt161 {p : Program} (l : Launch) {e : Env} {s : State} {m : MethodId} {below : List Frame} {meth : Method} {c : Code} {A : Nat → Prop} (D : va_G) (cI cM cT cJ cZ : ClassId) (q : Nat) (aA : Nat) (aI : Nat) (xT : Nat) (tP_ : Nat) (td : Int32) (fu : Int32) (fp : Int32) (at_ : Int32) (plc : Int32) (tok : Int32) (num : Int32) (wrd : Int64) (tx0 : Int32) (cls : Int32) (wri : Int32) (cam : Int32) (pI : Nat) (pid : Int32) (ope : Int32) (isw : Int32) (so0 : Int32) (onc : Int32) (nm : Nat) (vL : Nat) (tR : Nat) (spp : Int32) (eat : Int32) (ste : Int32) (rW : Nat) (sP : Nat) (oT : Nat) (bS : Nat) (aS : Nat) (aO : Nat) (cS : Nat) (wY : Nat) (ftp : Nat → Int32) (Z : Zx p s m ([.ref q] : List Value).toArray meth c cX12_nextToken 3 none yX12_nextToken.cls A (ty3 cI cM cT cJ cZ) D) (hi_td : 0 ≤ td.toInt ∧ td.toInt ≤ 300) (hi_spp : 0 ≤ spp.toInt ∧ spp.toInt ≤ 299) (hat : 0 ≤ at_.toInt ∧ at_.toInt ≤ td.toInt) : ∀ (n0 : Nat) (vat_ : Int32) (vplc : Int32) (vtok : Int32) (vnum : Int32) (vwrd : Int64) (h0 : at_.toInt ≤ vplc.toInt ∧ vplc.toInt ≤ vat_.toInt ∧ vat_.toInt ≤ td.toInt) (h1 : vplc.toInt < vat_.toInt ∨ ((97 ≤ BA td.toInt ftp vat_.toInt ∧ BA td.toInt ftp vat_.toInt ≤ 122) ∨ (65 ≤ BA td.toInt ftp vat_.toInt ∧ BA td.toInt ftp vat_.toInt ≤ 90))) (h2 : vtok.toInt ≠ 0), (td.toInt - vat_.toInt).toNat < n0 → ∀ (H : Heap) (locs : List Loc) (ls : Array Slot), va_P D vwCl ([(q, .inr (12, [.ref aA, .ref aI, .ref xT, .ref tP_, .int td, .int fu, .int fp, .int vat_, .int vplc, .int vtok, .int vnum, .long vwrd, .int tx0, .int cls, .int wri, .int cam, .ref pI, .int pid, .int ope, .int isw, .int so0, .int onc, .ref nm, .ref vL, .ref tR, .int spp, .int eat, .int ste, .ref rW, .ref sP, .ref oT, .ref bS, .ref aS, .ref aO, .ref cS, .ref wY])), (tP_, .inl (cI, 300, .inl ftp))]) H → va_D A ([(q, .inr (12, [.ref aA, .ref aI, .ref xT, .ref tP_, .int td, .int fu, .int fp, .int vat_, .int vplc, .int vtok, .int vnum, .long vwrd, .int tx0, .int cls, .int wri, .int cam, .ref pI, .int pid, .int ope, .int isw, .int so0, .int onc, .ref nm, .ref vL, .ref tR, .int spp, .int eat, .int ste, .ref rW, .ref sP, .ref oT, .ref bS, .ref aS, .ref aO, .ref cS, .ref wY])), (tP_, .inl (cI, 300, .inl ftp))]) → va_S A s.heap H locs → lv_has ls 3 [(0, .ref q)] → W p l e (rmv 2 0 0) s m ([.ref q] : List Value).toArray below meth c H locs 0 0 (MQ below (va_Qv (fun u => ∃ (at__n : Int32) (plc_n : Int32) (tok_n : Int32) (num_n : Int32) (wrd_n : Int64), u = [(q, .inr (12, [.ref aA, .ref aI, .ref xT, .ref tP_, .int td, .int fu, .int fp, .int at__n, .int plc_n, .int tok_n, .int num_n, .long wrd_n, .int tx0, .int cls, .int wri, .int cam, .ref pI, .int pid, .int ope, .int isw, .int so0, .int onc, .ref nm, .ref vL, .ref tR, .int spp, .int eat, .int ste, .ref rW, .ref sP, .ref oT, .ref bS, .ref aS, .ref aO, .ref cS, .ref wY])), (tP_, .inl (cI, 300, .inl ftp))] ∧ ((0 ≤ at_.toInt ∧ at_.toInt ≤ plc_n.toInt) ∧ (plc_n.toInt ≤ at__n.toInt ∧ at__n.toInt ≤ td.toInt) ∧ (tok_n.toInt = 0 ∨ plc_n.toInt < at__n.toInt))) (cB D (ty3 cI cM cT cJ cZ) A) A) ([.ref q] : List Value).toArray s 0 0 A) (F0 m 161 ls []) := by
  have hx := Z.1
  have hb := Z.2.1
  intro n0
  induction n0 with
  | zero => intro vat_ vplc vtok vnum vwrd h0 h1 h2 hm; exact absurd hm (Nat.not_lt_zero _)
  | succ n0 ih =>
    intro vat_ vplc vtok vnum vwrd h0 h1 h2 hm H locs ls hP hD hS hl
    refine lv_aload_n hx hb dX12_nextToken_161 rfl (lv_at hl 0 rfl) ?_
    refine lv_aload_n hx hb dX12_nextToken_162 rfl (lv_at hl 0 rfl) ?_
    refine z_get Z i_X12 hP 0 rfl rfl 7 (by decide) bw_1026 rfl dX12_nextToken_163 ?_
    have hPc := hP.sub2 (wc := [(q, .inr (12, [.ref aA, .ref aI, .ref xT, .ref tP_, .int td, .int fu, .int fp, .int vat_, .int vplc, .int vtok, .int vnum, .long vwrd, .int tx0, .int cls, .int wri, .int cam, .ref pI, .int pid, .int ope, .int isw, .int so0, .int onc, .ref nm, .ref vL, .ref tR, .int spp, .int eat, .int ste, .ref rW, .ref sP, .ref oT, .ref bS, .ref aS, .ref aO, .ref cS, .ref wY])), (tP_, .inl (cI, 300, .inl ftp))]) [0, 1] rfl
    have hDc := hD.sub (ws' := [(q, .inr (12, [.ref aA, .ref aI, .ref xT, .ref tP_, .int td, .int fu, .int fp, .int vat_, .int vplc, .int vtok, .int vnum, .long vwrd, .int tx0, .int cls, .int wri, .int cam, .ref pI, .int pid, .int ope, .int isw, .int so0, .int onc, .ref nm, .ref vL, .ref tR, .int spp, .int eat, .int ste, .ref rW, .ref sP, .ref oT, .ref bS, .ref aS, .ref aO, .ref cS, .ref wY])), (tP_, .inl (cI, 300, .inl ftp))]) [0, 1] (by decide) rfl
    refine raw_Vi (ci := 12) (q0 := 0) (nA := 1) (As := [.int vat_]) (rest := []) Z hl.1 (c_X12_byteAt l D cI cM cT cJ cZ q vat_ aA aI xT tP_ td fu fp vat_ vplc vtok vnum vwrd tx0 cls wri cam pI pid ope isw so0 onc nm vL tR spp eat ste rW sP oT bS aS aO cS wY ftp (by (try simp only [zlt, zle, zeq, zl_0, zl_1, zl_2, zl_3, zl_4, zl_5, zl_6, zl_7, zl_8, zl_9, zl_10, zl_11, zl_12, zl_13, zl_14, zl_15, zl_16, zl_17, zl_18, zl_19, zl_20, zl_21, zl_22, zl_23, zl_24, zl_25, zl_26, zl_27, zl_28, zl_29, zl_30, zl_31, zl_32, zl_33, zl_34, zl_35, zl_36, zl_37, zl_38, zl_39, zl_40, zl_41, zl_42, zl_43, zl_44, zl_45, zl_46, zl_47, zl_48, zl_49, zl_50, zl_51, zl_52, zl_53, zl_54, zl_55, zl_56, zl_57, zl_58, zl_59, zl_60, zl_61, zl_62, zl_63, zl_64, zl_65, zl_82, zl_99, zl_100, zl_160, zl_299, zl_300, zl_301, zl_382, zl_398, zl_399, zl_464, zl_680, zl_862, zl_999, zl_1000, zl_9999, zl_10000, zl_1000000, zl_m1, zl_m2, zl_m3, zl_m8, zl_97, zl_122, zl_90, zl_100000, zl_75] at hi_td hi_spp hat h0 h1 h2 hm ⊢); omega) (by (try simp only [zlt, zle, zeq, zl_0, zl_1, zl_2, zl_3, zl_4, zl_5, zl_6, zl_7, zl_8, zl_9, zl_10, zl_11, zl_12, zl_13, zl_14, zl_15, zl_16, zl_17, zl_18, zl_19, zl_20, zl_21, zl_22, zl_23, zl_24, zl_25, zl_26, zl_27, zl_28, zl_29, zl_30, zl_31, zl_32, zl_33, zl_34, zl_35, zl_36, zl_37, zl_38, zl_39, zl_40, zl_41, zl_42, zl_43, zl_44, zl_45, zl_46, zl_47, zl_48, zl_49, zl_50, zl_51, zl_52, zl_53, zl_54, zl_55, zl_56, zl_57, zl_58, zl_59, zl_60, zl_61, zl_62, zl_63, zl_64, zl_65, zl_82, zl_99, zl_100, zl_160, zl_299, zl_300, zl_301, zl_382, zl_398, zl_399, zl_464, zl_680, zl_862, zl_999, zl_1000, zl_9999, zl_10000, zl_1000000, zl_m1, zl_m2, zl_m3, zl_m8, zl_97, zl_122, zl_90, zl_100000, zl_75] at hi_td hi_spp hat h0 h1 h2 hm ⊢); omega) (by (try simp only [zlt, zle, zeq, zl_0, zl_1, zl_2, zl_3, zl_4, zl_5, zl_6, zl_7, zl_8, zl_9, zl_10, zl_11, zl_12, zl_13, zl_14, zl_15, zl_16, zl_17, zl_18, zl_19, zl_20, zl_21, zl_22, zl_23, zl_24, zl_25, zl_26, zl_27, zl_28, zl_29, zl_30, zl_31, zl_32, zl_33, zl_34, zl_35, zl_36, zl_37, zl_38, zl_39, zl_40, zl_41, zl_42, zl_43, zl_44, zl_45, zl_46, zl_47, zl_48, zl_49, zl_50, zl_51, zl_52, zl_53, zl_54, zl_55, zl_56, zl_57, zl_58, zl_59, zl_60, zl_61, zl_62, zl_63, zl_64, zl_65, zl_82, zl_99, zl_100, zl_160, zl_299, zl_300, zl_301, zl_382, zl_398, zl_399, zl_464, zl_680, zl_862, zl_999, zl_1000, zl_9999, zl_10000, zl_1000000, zl_m1, zl_m2, zl_m3, zl_m8, zl_97, zl_122, zl_90, zl_100000, zl_75] at hi_td hi_spp hat h0 h1 h2 hm ⊢); omega)) (bw_V bw_1178 bw_1180 bw_39 bw_92 bw_1181) ⟨by decide +kernel, by decide +kernel, by decide +kernel⟩ rfl ⟨Nat.le_of_ble_eq_true rfl, Nat.le_of_ble_eq_true rfl⟩ rfl rfl rfl hPc hDc hS rfl (Nat.le_of_ble_eq_true rfl) dX12_nextToken_166 ⟨Nat.le_of_ble_eq_true rfl, Nat.le_of_ble_eq_true rfl⟩ (fun r2 u1 H1 locs1 h3 hku1 hP1 hD1 hS1 => ?_)
    obtain ⟨rfl, huh3_0⟩ := h3
    obtain ⟨hP, hD⟩ := z_join (wr := []) Z hS hP hD [0, 1] [] rfl (by decide) rfl (by decide) (by decide) hku1 hP1 hD1
    have hS := hS1
    clear hS1
    generalize H1 = H at hP hS ⊢
    generalize locs1 = locs at hS ⊢
    have hP : va_P D vwCl ([(q, .inr (12, [.ref aA, .ref aI, .ref xT, .ref tP_, .int td, .int fu, .int fp, .int vat_, .int vplc, .int vtok, .int vnum, .long vwrd, .int tx0, .int cls, .int wri, .int cam, .ref pI, .int pid, .int ope, .int isw, .int so0, .int onc, .ref nm, .ref vL, .ref tR, .int spp, .int eat, .int ste, .ref rW, .ref sP, .ref oT, .ref bS, .ref aS, .ref aO, .ref cS, .ref wY])), (tP_, .inl (cI, 300, .inl ftp))]) H := hP
    have hD : va_D A ([(q, .inr (12, [.ref aA, .ref aI, .ref xT, .ref tP_, .int td, .int fu, .int fp, .int vat_, .int vplc, .int vtok, .int vnum, .long vwrd, .int tx0, .int cls, .int wri, .int cam, .ref pI, .int pid, .int ope, .int isw, .int so0, .int onc, .ref nm, .ref vL, .ref tR, .int spp, .int eat, .int ste, .ref rW, .ref sP, .ref oT, .ref bS, .ref aS, .ref aO, .ref cS, .ref wY])), (tP_, .inl (cI, 300, .inl ftp))]) := hD
    have hba4 : (vat_ : Int32).toInt < td.toInt ∨ BA td.toInt ftp (vat_ : Int32).toInt = -1 := BA_lt
    have hPc := hP.sub2 (wc := []) [] rfl
    have hDc := hD.sub (ws' := []) [] (by decide) rfl
    refine raw_Si (nA := 1) (As := [.int r2]) (rest := []) Z hl.1 (c_X12_isLetter l D cI cM cT cJ cZ r2) (bw_S bw_1186 bw_1187 bw_92 bw_1188) ⟨by decide +kernel, by decide +kernel, by decide +kernel⟩ rfl ⟨Nat.le_of_ble_eq_true rfl, Nat.le_of_ble_eq_true rfl⟩ hPc hDc hS rfl (Nat.le_of_ble_eq_true rfl) dX12_nextToken_169 ⟨Nat.le_of_ble_eq_true rfl, Nat.le_of_ble_eq_true rfl⟩ (fun r6 u5 H1 locs1 h7 hku5 hP1 hD1 hS1 => ?_)
    obtain ⟨hrh7, rfl⟩ := h7
    obtain ⟨hP, hD⟩ := z_join (wr := [(q, .inr (12, [.ref aA, .ref aI, .ref xT, .ref tP_, .int td, .int fu, .int fp, .int vat_, .int vplc, .int vtok, .int vnum, .long vwrd, .int tx0, .int cls, .int wri, .int cam, .ref pI, .int pid, .int ope, .int isw, .int so0, .int onc, .ref nm, .ref vL, .ref tR, .int spp, .int eat, .int ste, .ref rW, .ref sP, .ref oT, .ref bS, .ref aS, .ref aO, .ref cS, .ref wY])), (tP_, .inl (cI, 300, .inl ftp))]) Z hS hP hD [] [0, 1] rfl (by decide) rfl (by decide) (by decide) hku5 hP1 hD1
    have hS := hS1
    clear hS1
    generalize H1 = H at hP hS ⊢
    generalize locs1 = locs at hS ⊢
    have hP : va_P D vwCl ([(q, .inr (12, [.ref aA, .ref aI, .ref xT, .ref tP_, .int td, .int fu, .int fp, .int vat_, .int vplc, .int vtok, .int vnum, .long vwrd, .int tx0, .int cls, .int wri, .int cam, .ref pI, .int pid, .int ope, .int isw, .int so0, .int onc, .ref nm, .ref vL, .ref tR, .int spp, .int eat, .int ste, .ref rW, .ref sP, .ref oT, .ref bS, .ref aS, .ref aO, .ref cS, .ref wY])), (tP_, .inl (cI, 300, .inl ftp))]) H := hP
    have hD : va_D A ([(q, .inr (12, [.ref aA, .ref aI, .ref xT, .ref tP_, .int td, .int fu, .int fp, .int vat_, .int vplc, .int vtok, .int vnum, .long vwrd, .int tx0, .int cls, .int wri, .int cam, .ref pI, .int pid, .int ope, .int isw, .int so0, .int onc, .ref nm, .ref vL, .ref tR, .int spp, .int eat, .int ste, .ref rW, .ref sP, .ref oT, .ref bS, .ref aS, .ref aO, .ref cS, .ref wY])), (tP_, .inl (cI, 300, .inl ftp))]) := hD
    by_cases c8 : (97 ≤ r2.toInt ∧ r2.toInt ≤ 122) ∨ (65 ≤ r2.toInt ∧ r2.toInt ≤ 90)
    · obtain rfl : r6 = 1 := by rw [hrh7, if_pos c8]
      refine lv_if_eq (tgt := 223) hx hb dX12_nextToken_172 (by decide) (fun h => absurd h (by decide)) (fun c9 => ?_)
      refine lv_aload_n hx hb dX12_nextToken_175 rfl (lv_at hl 0 rfl) ?_
      refine z_get Z i_X12 hP 0 rfl rfl 7 (by decide) bw_1026 rfl dX12_nextToken_176 ?_
      refine lv_aload_n hx hb dX12_nextToken_179 rfl (lv_at hl 0 rfl) ?_
      refine z_get Z i_X12 hP 0 rfl rfl 8 (by decide) bw_1027 rfl dX12_nextToken_180 ?_
      refine lv_isub hx hb dX12_nextToken_183 ?_
      refine lv_topi (fun z10 ez10 => ?_)
      have hz10 : z10.toInt = vat_.toInt - vplc.toInt := by rw [ez10]; exact zsubg (by (try simp only [zlt, zle, zeq, zl_0, zl_1, zl_2, zl_3, zl_4, zl_5, zl_6, zl_7, zl_8, zl_9, zl_10, zl_11, zl_12, zl_13, zl_14, zl_15, zl_16, zl_17, zl_18, zl_19, zl_20, zl_21, zl_22, zl_23, zl_24, zl_25, zl_26, zl_27, zl_28, zl_29, zl_30, zl_31, zl_32, zl_33, zl_34, zl_35, zl_36, zl_37, zl_38, zl_39, zl_40, zl_41, zl_42, zl_43, zl_44, zl_45, zl_46, zl_47, zl_48, zl_49, zl_50, zl_51, zl_52, zl_53, zl_54, zl_55, zl_56, zl_57, zl_58, zl_59, zl_60, zl_61, zl_62, zl_63, zl_64, zl_65, zl_82, zl_99, zl_100, zl_160, zl_299, zl_300, zl_301, zl_382, zl_398, zl_399, zl_464, zl_680, zl_862, zl_999, zl_1000, zl_9999, zl_10000, zl_1000000, zl_m1, zl_m2, zl_m3, zl_m8, zl_97, zl_122, zl_90, zl_100000, zl_75] at hi_td hi_spp hat h0 h1 h2 hm huh3_0 hba4 c8 c9 ⊢); omega) (by (try simp only [zlt, zle, zeq, zl_0, zl_1, zl_2, zl_3, zl_4, zl_5, zl_6, zl_7, zl_8, zl_9, zl_10, zl_11, zl_12, zl_13, zl_14, zl_15, zl_16, zl_17, zl_18, zl_19, zl_20, zl_21, zl_22, zl_23, zl_24, zl_25, zl_26, zl_27, zl_28, zl_29, zl_30, zl_31, zl_32, zl_33, zl_34, zl_35, zl_36, zl_37, zl_38, zl_39, zl_40, zl_41, zl_42, zl_43, zl_44, zl_45, zl_46, zl_47, zl_48, zl_49, zl_50, zl_51, zl_52, zl_53, zl_54, zl_55, zl_56, zl_57, zl_58, zl_59, zl_60, zl_61, zl_62, zl_63, zl_64, zl_65, zl_82, zl_99, zl_100, zl_160, zl_299, zl_300, zl_301, zl_382, zl_398, zl_399, zl_464, zl_680, zl_862, zl_999, zl_1000, zl_9999, zl_10000, zl_1000000, zl_m1, zl_m2, zl_m3, zl_m8, zl_97, zl_122, zl_90, zl_100000, zl_75] at hi_td hi_spp hat h0 h1 h2 hm huh3_0 hba4 c8 c9 ⊢); omega)
      refine lv_bipush (v := 7) hx hb dX12_nextToken_184 (by decide) ?_
      refine lv_icmp_ge (tgt := 210) hx hb dX12_nextToken_186 (by decide) (fun c11 => ?_) (fun c11 => ?_)
      · refine lv_aload_n hx hb dX12_nextToken_210 rfl (lv_at hl 0 rfl) ?_
        refine lv_dup hx hb dX12_nextToken_211 rfl ?_
        refine z_get Z i_X12 hP 0 rfl rfl 7 (by decide) bw_1026 rfl dX12_nextToken_212 ?_
        refine lv_iconst (v := 1) hx hb dX12_nextToken_215 (by decide) ?_
        refine lv_iadd hx hb dX12_nextToken_216 ?_
        refine lv_topi (fun z12 ez12 => ?_)
        have hz12 : z12.toInt = vat_.toInt + 1 := by rw [ez12]; exact zaddg (by (try simp only [zlt, zle, zeq, zl_0, zl_1, zl_2, zl_3, zl_4, zl_5, zl_6, zl_7, zl_8, zl_9, zl_10, zl_11, zl_12, zl_13, zl_14, zl_15, zl_16, zl_17, zl_18, zl_19, zl_20, zl_21, zl_22, zl_23, zl_24, zl_25, zl_26, zl_27, zl_28, zl_29, zl_30, zl_31, zl_32, zl_33, zl_34, zl_35, zl_36, zl_37, zl_38, zl_39, zl_40, zl_41, zl_42, zl_43, zl_44, zl_45, zl_46, zl_47, zl_48, zl_49, zl_50, zl_51, zl_52, zl_53, zl_54, zl_55, zl_56, zl_57, zl_58, zl_59, zl_60, zl_61, zl_62, zl_63, zl_64, zl_65, zl_82, zl_99, zl_100, zl_160, zl_299, zl_300, zl_301, zl_382, zl_398, zl_399, zl_464, zl_680, zl_862, zl_999, zl_1000, zl_9999, zl_10000, zl_1000000, zl_m1, zl_m2, zl_m3, zl_m8, zl_97, zl_122, zl_90, zl_100000, zl_75] at hi_td hi_spp hat h0 h1 h2 hm huh3_0 hba4 c8 c9 hz10 c11 ⊢); omega) (by (try simp only [zlt, zle, zeq, zl_0, zl_1, zl_2, zl_3, zl_4, zl_5, zl_6, zl_7, zl_8, zl_9, zl_10, zl_11, zl_12, zl_13, zl_14, zl_15, zl_16, zl_17, zl_18, zl_19, zl_20, zl_21, zl_22, zl_23, zl_24, zl_25, zl_26, zl_27, zl_28, zl_29, zl_30, zl_31, zl_32, zl_33, zl_34, zl_35, zl_36, zl_37, zl_38, zl_39, zl_40, zl_41, zl_42, zl_43, zl_44, zl_45, zl_46, zl_47, zl_48, zl_49, zl_50, zl_51, zl_52, zl_53, zl_54, zl_55, zl_56, zl_57, zl_58, zl_59, zl_60, zl_61, zl_62, zl_63, zl_64, zl_65, zl_82, zl_99, zl_100, zl_160, zl_299, zl_300, zl_301, zl_382, zl_398, zl_399, zl_464, zl_680, zl_862, zl_999, zl_1000, zl_9999, zl_10000, zl_1000000, zl_m1, zl_m2, zl_m3, zl_m8, zl_97, zl_122, zl_90, zl_100000, zl_75] at hi_td hi_spp hat h0 h1 h2 hm huh3_0 hba4 c8 c9 hz10 c11 ⊢); omega)
        refine z_put Z i_X12 tyX12 tyX12_ok nmX12 hP hD hS 0 rfl rfl 7 (by decide) bw_1026 rfl rfl rfl (Nat.le_of_ble_eq_true rfl) dX12_nextToken_217 (fun H locs hP hD hS => ?_)
        have hP : va_P D vwCl ([(q, .inr (12, [.ref aA, .ref aI, .ref xT, .ref tP_, .int td, .int fu, .int fp, .int z12, .int vplc, .int vtok, .int vnum, .long vwrd, .int tx0, .int cls, .int wri, .int cam, .ref pI, .int pid, .int ope, .int isw, .int so0, .int onc, .ref nm, .ref vL, .ref tR, .int spp, .int eat, .int ste, .ref rW, .ref sP, .ref oT, .ref bS, .ref aS, .ref aO, .ref cS, .ref wY])), (tP_, .inl (cI, 300, .inl ftp))]) H := hP
        have hD : va_D A ([(q, .inr (12, [.ref aA, .ref aI, .ref xT, .ref tP_, .int td, .int fu, .int fp, .int z12, .int vplc, .int vtok, .int vnum, .long vwrd, .int tx0, .int cls, .int wri, .int cam, .ref pI, .int pid, .int ope, .int isw, .int so0, .int onc, .ref nm, .ref vL, .ref tR, .int spp, .int eat, .int ste, .ref rW, .ref sP, .ref oT, .ref bS, .ref aS, .ref aO, .ref cS, .ref wY])), (tP_, .inl (cI, 300, .inl ftp))]) := hD
        refine lv_goto (tgt := 161) hx hb dX12_nextToken_220 (by decide) ?_
        exact ih z12 vplc vtok vnum vwrd (by (try simp only [zlt, zle, zeq, zl_0, zl_1, zl_2, zl_3, zl_4, zl_5, zl_6, zl_7, zl_8, zl_9, zl_10, zl_11, zl_12, zl_13, zl_14, zl_15, zl_16, zl_17, zl_18, zl_19, zl_20, zl_21, zl_22, zl_23, zl_24, zl_25, zl_26, zl_27, zl_28, zl_29, zl_30, zl_31, zl_32, zl_33, zl_34, zl_35, zl_36, zl_37, zl_38, zl_39, zl_40, zl_41, zl_42, zl_43, zl_44, zl_45, zl_46, zl_47, zl_48, zl_49, zl_50, zl_51, zl_52, zl_53, zl_54, zl_55, zl_56, zl_57, zl_58, zl_59, zl_60, zl_61, zl_62, zl_63, zl_64, zl_65, zl_82, zl_99, zl_100, zl_160, zl_299, zl_300, zl_301, zl_382, zl_398, zl_399, zl_464, zl_680, zl_862, zl_999, zl_1000, zl_9999, zl_10000, zl_1000000, zl_m1, zl_m2, zl_m3, zl_m8, zl_97, zl_122, zl_90, zl_100000, zl_75] at hi_td hi_spp hat h0 h1 h2 hm huh3_0 hba4 c8 c9 hz10 c11 hz12 ⊢); omega) (by (try simp only [zlt, zle, zeq, zl_0, zl_1, zl_2, zl_3, zl_4, zl_5, zl_6, zl_7, zl_8, zl_9, zl_10, zl_11, zl_12, zl_13, zl_14, zl_15, zl_16, zl_17, zl_18, zl_19, zl_20, zl_21, zl_22, zl_23, zl_24, zl_25, zl_26, zl_27, zl_28, zl_29, zl_30, zl_31, zl_32, zl_33, zl_34, zl_35, zl_36, zl_37, zl_38, zl_39, zl_40, zl_41, zl_42, zl_43, zl_44, zl_45, zl_46, zl_47, zl_48, zl_49, zl_50, zl_51, zl_52, zl_53, zl_54, zl_55, zl_56, zl_57, zl_58, zl_59, zl_60, zl_61, zl_62, zl_63, zl_64, zl_65, zl_82, zl_99, zl_100, zl_160, zl_299, zl_300, zl_301, zl_382, zl_398, zl_399, zl_464, zl_680, zl_862, zl_999, zl_1000, zl_9999, zl_10000, zl_1000000, zl_m1, zl_m2, zl_m3, zl_m8, zl_97, zl_122, zl_90, zl_100000, zl_75] at hi_td hi_spp hat h0 h1 h2 hm huh3_0 hba4 c8 c9 hz10 c11 hz12 ⊢); omega) (by (try simp only [zlt, zle, zeq, zl_0, zl_1, zl_2, zl_3, zl_4, zl_5, zl_6, zl_7, zl_8, zl_9, zl_10, zl_11, zl_12, zl_13, zl_14, zl_15, zl_16, zl_17, zl_18, zl_19, zl_20, zl_21, zl_22, zl_23, zl_24, zl_25, zl_26, zl_27, zl_28, zl_29, zl_30, zl_31, zl_32, zl_33, zl_34, zl_35, zl_36, zl_37, zl_38, zl_39, zl_40, zl_41, zl_42, zl_43, zl_44, zl_45, zl_46, zl_47, zl_48, zl_49, zl_50, zl_51, zl_52, zl_53, zl_54, zl_55, zl_56, zl_57, zl_58, zl_59, zl_60, zl_61, zl_62, zl_63, zl_64, zl_65, zl_82, zl_99, zl_100, zl_160, zl_299, zl_300, zl_301, zl_382, zl_398, zl_399, zl_464, zl_680, zl_862, zl_999, zl_1000, zl_9999, zl_10000, zl_1000000, zl_m1, zl_m2, zl_m3, zl_m8, zl_97, zl_122, zl_90, zl_100000, zl_75] at hi_td hi_spp hat h0 h1 h2 hm huh3_0 hba4 c8 c9 hz10 c11 hz12 ⊢); omega) (by (try simp only [zlt, zle, zeq, zl_0, zl_1, zl_2, zl_3, zl_4, zl_5, zl_6, zl_7, zl_8, zl_9, zl_10, zl_11, zl_12, zl_13, zl_14, zl_15, zl_16, zl_17, zl_18, zl_19, zl_20, zl_21, zl_22, zl_23, zl_24, zl_25, zl_26, zl_27, zl_28, zl_29, zl_30, zl_31, zl_32, zl_33, zl_34, zl_35, zl_36, zl_37, zl_38, zl_39, zl_40, zl_41, zl_42, zl_43, zl_44, zl_45, zl_46, zl_47, zl_48, zl_49, zl_50, zl_51, zl_52, zl_53, zl_54, zl_55, zl_56, zl_57, zl_58, zl_59, zl_60, zl_61, zl_62, zl_63, zl_64, zl_65, zl_82, zl_99, zl_100, zl_160, zl_299, zl_300, zl_301, zl_382, zl_398, zl_399, zl_464, zl_680, zl_862, zl_999, zl_1000, zl_9999, zl_10000, zl_1000000, zl_m1, zl_m2, zl_m3, zl_m8, zl_97, zl_122, zl_90, zl_100000, zl_75] at hi_td hi_spp hat h0 h1 h2 hm huh3_0 hba4 c8 c9 hz10 c11 hz12 ⊢); omega) _ _ _ hP hD hS (lv_sub hl [0] rfl)
      · refine lv_aload_n hx hb dX12_nextToken_189 rfl (lv_at hl 0 rfl) ?_
        refine lv_aload_n hx hb dX12_nextToken_190 rfl (lv_at hl 0 rfl) ?_
        refine z_get Z i_X12 hP 0 rfl rfl 11 (by decide) bw_1030 rfl dX12_nextToken_191 ?_
        refine lv_bipush (v := 8) hx hb dX12_nextToken_194 (by decide) ?_
        refine lv_lshl hx hb dX12_nextToken_196 rfl ?_
        refine lv_topl (fun w13 ew13 => ?_)
        refine lv_aload_n hx hb dX12_nextToken_197 rfl (lv_at hl 0 rfl) ?_
        refine lv_aload_n hx hb dX12_nextToken_198 rfl (lv_at hl 0 rfl) ?_
        refine z_get Z i_X12 hP 0 rfl rfl 7 (by decide) bw_1026 rfl dX12_nextToken_199 ?_
        have hPc := hP.sub2 (wc := [(q, .inr (12, [.ref aA, .ref aI, .ref xT, .ref tP_, .int td, .int fu, .int fp, .int vat_, .int vplc, .int vtok, .int vnum, .long vwrd, .int tx0, .int cls, .int wri, .int cam, .ref pI, .int pid, .int ope, .int isw, .int so0, .int onc, .ref nm, .ref vL, .ref tR, .int spp, .int eat, .int ste, .ref rW, .ref sP, .ref oT, .ref bS, .ref aS, .ref aO, .ref cS, .ref wY])), (tP_, .inl (cI, 300, .inl ftp))]) [0, 1] rfl
        have hDc := hD.sub (ws' := [(q, .inr (12, [.ref aA, .ref aI, .ref xT, .ref tP_, .int td, .int fu, .int fp, .int vat_, .int vplc, .int vtok, .int vnum, .long vwrd, .int tx0, .int cls, .int wri, .int cam, .ref pI, .int pid, .int ope, .int isw, .int so0, .int onc, .ref nm, .ref vL, .ref tR, .int spp, .int eat, .int ste, .ref rW, .ref sP, .ref oT, .ref bS, .ref aS, .ref aO, .ref cS, .ref wY])), (tP_, .inl (cI, 300, .inl ftp))]) [0, 1] (by decide) rfl
        refine raw_Vi (ci := 12) (q0 := 0) (nA := 1) (As := [.int vat_]) (rest := [.long w13, .ref q]) Z hl.1 (c_X12_byteAt l D cI cM cT cJ cZ q vat_ aA aI xT tP_ td fu fp vat_ vplc vtok vnum vwrd tx0 cls wri cam pI pid ope isw so0 onc nm vL tR spp eat ste rW sP oT bS aS aO cS wY ftp (by (try simp only [zlt, zle, zeq, zl_0, zl_1, zl_2, zl_3, zl_4, zl_5, zl_6, zl_7, zl_8, zl_9, zl_10, zl_11, zl_12, zl_13, zl_14, zl_15, zl_16, zl_17, zl_18, zl_19, zl_20, zl_21, zl_22, zl_23, zl_24, zl_25, zl_26, zl_27, zl_28, zl_29, zl_30, zl_31, zl_32, zl_33, zl_34, zl_35, zl_36, zl_37, zl_38, zl_39, zl_40, zl_41, zl_42, zl_43, zl_44, zl_45, zl_46, zl_47, zl_48, zl_49, zl_50, zl_51, zl_52, zl_53, zl_54, zl_55, zl_56, zl_57, zl_58, zl_59, zl_60, zl_61, zl_62, zl_63, zl_64, zl_65, zl_82, zl_99, zl_100, zl_160, zl_299, zl_300, zl_301, zl_382, zl_398, zl_399, zl_464, zl_680, zl_862, zl_999, zl_1000, zl_9999, zl_10000, zl_1000000, zl_m1, zl_m2, zl_m3, zl_m8, zl_97, zl_122, zl_90, zl_100000, zl_75] at hi_td hi_spp hat h0 h1 h2 hm huh3_0 hba4 c8 c9 hz10 c11 ⊢); omega) (by (try simp only [zlt, zle, zeq, zl_0, zl_1, zl_2, zl_3, zl_4, zl_5, zl_6, zl_7, zl_8, zl_9, zl_10, zl_11, zl_12, zl_13, zl_14, zl_15, zl_16, zl_17, zl_18, zl_19, zl_20, zl_21, zl_22, zl_23, zl_24, zl_25, zl_26, zl_27, zl_28, zl_29, zl_30, zl_31, zl_32, zl_33, zl_34, zl_35, zl_36, zl_37, zl_38, zl_39, zl_40, zl_41, zl_42, zl_43, zl_44, zl_45, zl_46, zl_47, zl_48, zl_49, zl_50, zl_51, zl_52, zl_53, zl_54, zl_55, zl_56, zl_57, zl_58, zl_59, zl_60, zl_61, zl_62, zl_63, zl_64, zl_65, zl_82, zl_99, zl_100, zl_160, zl_299, zl_300, zl_301, zl_382, zl_398, zl_399, zl_464, zl_680, zl_862, zl_999, zl_1000, zl_9999, zl_10000, zl_1000000, zl_m1, zl_m2, zl_m3, zl_m8, zl_97, zl_122, zl_90, zl_100000, zl_75] at hi_td hi_spp hat h0 h1 h2 hm huh3_0 hba4 c8 c9 hz10 c11 ⊢); omega) (by (try simp only [zlt, zle, zeq, zl_0, zl_1, zl_2, zl_3, zl_4, zl_5, zl_6, zl_7, zl_8, zl_9, zl_10, zl_11, zl_12, zl_13, zl_14, zl_15, zl_16, zl_17, zl_18, zl_19, zl_20, zl_21, zl_22, zl_23, zl_24, zl_25, zl_26, zl_27, zl_28, zl_29, zl_30, zl_31, zl_32, zl_33, zl_34, zl_35, zl_36, zl_37, zl_38, zl_39, zl_40, zl_41, zl_42, zl_43, zl_44, zl_45, zl_46, zl_47, zl_48, zl_49, zl_50, zl_51, zl_52, zl_53, zl_54, zl_55, zl_56, zl_57, zl_58, zl_59, zl_60, zl_61, zl_62, zl_63, zl_64, zl_65, zl_82, zl_99, zl_100, zl_160, zl_299, zl_300, zl_301, zl_382, zl_398, zl_399, zl_464, zl_680, zl_862, zl_999, zl_1000, zl_9999, zl_10000, zl_1000000, zl_m1, zl_m2, zl_m3, zl_m8, zl_97, zl_122, zl_90, zl_100000, zl_75] at hi_td hi_spp hat h0 h1 h2 hm huh3_0 hba4 c8 c9 hz10 c11 ⊢); omega)) (bw_V bw_1178 bw_1180 bw_39 bw_92 bw_1181) ⟨by decide +kernel, by decide +kernel, by decide +kernel⟩ rfl ⟨Nat.le_of_ble_eq_true rfl, Nat.le_of_ble_eq_true rfl⟩ rfl rfl rfl hPc hDc hS rfl (Nat.le_of_ble_eq_true rfl) dX12_nextToken_202 ⟨Nat.le_of_ble_eq_true rfl, Nat.le_of_ble_eq_true rfl⟩ (fun r15 u14 H1 locs1 h16 hku14 hP1 hD1 hS1 => ?_)
        obtain ⟨rfl, huh16_0⟩ := h16
        obtain ⟨hP, hD⟩ := z_join (wr := []) Z hS hP hD [0, 1] [] rfl (by decide) rfl (by decide) (by decide) hku14 hP1 hD1
        have hS := hS1
        clear hS1
        generalize H1 = H at hP hS ⊢
        generalize locs1 = locs at hS ⊢
        have hP : va_P D vwCl ([(q, .inr (12, [.ref aA, .ref aI, .ref xT, .ref tP_, .int td, .int fu, .int fp, .int vat_, .int vplc, .int vtok, .int vnum, .long vwrd, .int tx0, .int cls, .int wri, .int cam, .ref pI, .int pid, .int ope, .int isw, .int so0, .int onc, .ref nm, .ref vL, .ref tR, .int spp, .int eat, .int ste, .ref rW, .ref sP, .ref oT, .ref bS, .ref aS, .ref aO, .ref cS, .ref wY])), (tP_, .inl (cI, 300, .inl ftp))]) H := hP
        have hD : va_D A ([(q, .inr (12, [.ref aA, .ref aI, .ref xT, .ref tP_, .int td, .int fu, .int fp, .int vat_, .int vplc, .int vtok, .int vnum, .long vwrd, .int tx0, .int cls, .int wri, .int cam, .ref pI, .int pid, .int ope, .int isw, .int so0, .int onc, .ref nm, .ref vL, .ref tR, .int spp, .int eat, .int ste, .ref rW, .ref sP, .ref oT, .ref bS, .ref aS, .ref aO, .ref cS, .ref wY])), (tP_, .inl (cI, 300, .inl ftp))]) := hD
        have hba17 : (vat_ : Int32).toInt < td.toInt ∨ BA td.toInt ftp (vat_ : Int32).toInt = -1 := BA_lt
        refine lv_i2l hx hb dX12_nextToken_205 rfl ?_
        refine lv_topl (fun w18 ew18 => ?_)
        refine lv_lor hx hb dX12_nextToken_206 ?_
        refine lv_topl (fun w19 ew19 => ?_)
        refine z_put Z i_X12 tyX12 tyX12_ok nmX12 hP hD hS 0 rfl rfl 11 (by decide) bw_1030 rfl rfl rfl (Nat.le_of_ble_eq_true rfl) dX12_nextToken_207 (fun H locs hP hD hS => ?_)
        have hP : va_P D vwCl ([(q, .inr (12, [.ref aA, .ref aI, .ref xT, .ref tP_, .int td, .int fu, .int fp, .int vat_, .int vplc, .int vtok, .int vnum, .long w19, .int tx0, .int cls, .int wri, .int cam, .ref pI, .int pid, .int ope, .int isw, .int so0, .int onc, .ref nm, .ref vL, .ref tR, .int spp, .int eat, .int ste, .ref rW, .ref sP, .ref oT, .ref bS, .ref aS, .ref aO, .ref cS, .ref wY])), (tP_, .inl (cI, 300, .inl ftp))]) H := hP
        have hD : va_D A ([(q, .inr (12, [.ref aA, .ref aI, .ref xT, .ref tP_, .int td, .int fu, .int fp, .int vat_, .int vplc, .int vtok, .int vnum, .long w19, .int tx0, .int cls, .int wri, .int cam, .ref pI, .int pid, .int ope, .int isw, .int so0, .int onc, .ref nm, .ref vL, .ref tR, .int spp, .int eat, .int ste, .ref rW, .ref sP, .ref oT, .ref bS, .ref aS, .ref aO, .ref cS, .ref wY])), (tP_, .inl (cI, 300, .inl ftp))]) := hD
        refine lv_aload_n hx hb dX12_nextToken_210 rfl (lv_at hl 0 rfl) ?_
        refine lv_dup hx hb dX12_nextToken_211 rfl ?_
        refine z_get Z i_X12 hP 0 rfl rfl 7 (by decide) bw_1026 rfl dX12_nextToken_212 ?_
        refine lv_iconst (v := 1) hx hb dX12_nextToken_215 (by decide) ?_
        refine lv_iadd hx hb dX12_nextToken_216 ?_
        refine lv_topi (fun z20 ez20 => ?_)
        have hz20 : z20.toInt = vat_.toInt + 1 := by rw [ez20]; exact zaddg (by (try simp only [zlt, zle, zeq, zl_0, zl_1, zl_2, zl_3, zl_4, zl_5, zl_6, zl_7, zl_8, zl_9, zl_10, zl_11, zl_12, zl_13, zl_14, zl_15, zl_16, zl_17, zl_18, zl_19, zl_20, zl_21, zl_22, zl_23, zl_24, zl_25, zl_26, zl_27, zl_28, zl_29, zl_30, zl_31, zl_32, zl_33, zl_34, zl_35, zl_36, zl_37, zl_38, zl_39, zl_40, zl_41, zl_42, zl_43, zl_44, zl_45, zl_46, zl_47, zl_48, zl_49, zl_50, zl_51, zl_52, zl_53, zl_54, zl_55, zl_56, zl_57, zl_58, zl_59, zl_60, zl_61, zl_62, zl_63, zl_64, zl_65, zl_82, zl_99, zl_100, zl_160, zl_299, zl_300, zl_301, zl_382, zl_398, zl_399, zl_464, zl_680, zl_862, zl_999, zl_1000, zl_9999, zl_10000, zl_1000000, zl_m1, zl_m2, zl_m3, zl_m8, zl_97, zl_122, zl_90, zl_100000, zl_75] at hi_td hi_spp hat h0 h1 h2 hm huh3_0 hba4 c8 c9 hz10 c11 huh16_0 hba17 ⊢); omega) (by (try simp only [zlt, zle, zeq, zl_0, zl_1, zl_2, zl_3, zl_4, zl_5, zl_6, zl_7, zl_8, zl_9, zl_10, zl_11, zl_12, zl_13, zl_14, zl_15, zl_16, zl_17, zl_18, zl_19, zl_20, zl_21, zl_22, zl_23, zl_24, zl_25, zl_26, zl_27, zl_28, zl_29, zl_30, zl_31, zl_32, zl_33, zl_34, zl_35, zl_36, zl_37, zl_38, zl_39, zl_40, zl_41, zl_42, zl_43, zl_44, zl_45, zl_46, zl_47, zl_48, zl_49, zl_50, zl_51, zl_52, zl_53, zl_54, zl_55, zl_56, zl_57, zl_58, zl_59, zl_60, zl_61, zl_62, zl_63, zl_64, zl_65, zl_82, zl_99, zl_100, zl_160, zl_299, zl_300, zl_301, zl_382, zl_398, zl_399, zl_464, zl_680, zl_862, zl_999, zl_1000, zl_9999, zl_10000, zl_1000000, zl_m1, zl_m2, zl_m3, zl_m8, zl_97, zl_122, zl_90, zl_100000, zl_75] at hi_td hi_spp hat h0 h1 h2 hm huh3_0 hba4 c8 c9 hz10 c11 huh16_0 hba17 ⊢); omega)
        refine z_put Z i_X12 tyX12 tyX12_ok nmX12 hP hD hS 0 rfl rfl 7 (by decide) bw_1026 rfl rfl rfl (Nat.le_of_ble_eq_true rfl) dX12_nextToken_217 (fun H locs hP hD hS => ?_)
        have hP : va_P D vwCl ([(q, .inr (12, [.ref aA, .ref aI, .ref xT, .ref tP_, .int td, .int fu, .int fp, .int z20, .int vplc, .int vtok, .int vnum, .long w19, .int tx0, .int cls, .int wri, .int cam, .ref pI, .int pid, .int ope, .int isw, .int so0, .int onc, .ref nm, .ref vL, .ref tR, .int spp, .int eat, .int ste, .ref rW, .ref sP, .ref oT, .ref bS, .ref aS, .ref aO, .ref cS, .ref wY])), (tP_, .inl (cI, 300, .inl ftp))]) H := hP
        have hD : va_D A ([(q, .inr (12, [.ref aA, .ref aI, .ref xT, .ref tP_, .int td, .int fu, .int fp, .int z20, .int vplc, .int vtok, .int vnum, .long w19, .int tx0, .int cls, .int wri, .int cam, .ref pI, .int pid, .int ope, .int isw, .int so0, .int onc, .ref nm, .ref vL, .ref tR, .int spp, .int eat, .int ste, .ref rW, .ref sP, .ref oT, .ref bS, .ref aS, .ref aO, .ref cS, .ref wY])), (tP_, .inl (cI, 300, .inl ftp))]) := hD
        refine lv_goto (tgt := 161) hx hb dX12_nextToken_220 (by decide) ?_
        exact ih z20 vplc vtok vnum w19 (by (try simp only [zlt, zle, zeq, zl_0, zl_1, zl_2, zl_3, zl_4, zl_5, zl_6, zl_7, zl_8, zl_9, zl_10, zl_11, zl_12, zl_13, zl_14, zl_15, zl_16, zl_17, zl_18, zl_19, zl_20, zl_21, zl_22, zl_23, zl_24, zl_25, zl_26, zl_27, zl_28, zl_29, zl_30, zl_31, zl_32, zl_33, zl_34, zl_35, zl_36, zl_37, zl_38, zl_39, zl_40, zl_41, zl_42, zl_43, zl_44, zl_45, zl_46, zl_47, zl_48, zl_49, zl_50, zl_51, zl_52, zl_53, zl_54, zl_55, zl_56, zl_57, zl_58, zl_59, zl_60, zl_61, zl_62, zl_63, zl_64, zl_65, zl_82, zl_99, zl_100, zl_160, zl_299, zl_300, zl_301, zl_382, zl_398, zl_399, zl_464, zl_680, zl_862, zl_999, zl_1000, zl_9999, zl_10000, zl_1000000, zl_m1, zl_m2, zl_m3, zl_m8, zl_97, zl_122, zl_90, zl_100000, zl_75] at hi_td hi_spp hat h0 h1 h2 hm huh3_0 hba4 c8 c9 hz10 c11 huh16_0 hba17 hz20 ⊢); omega) (by (try simp only [zlt, zle, zeq, zl_0, zl_1, zl_2, zl_3, zl_4, zl_5, zl_6, zl_7, zl_8, zl_9, zl_10, zl_11, zl_12, zl_13, zl_14, zl_15, zl_16, zl_17, zl_18, zl_19, zl_20, zl_21, zl_22, zl_23, zl_24, zl_25, zl_26, zl_27, zl_28, zl_29, zl_30, zl_31, zl_32, zl_33, zl_34, zl_35, zl_36, zl_37, zl_38, zl_39, zl_40, zl_41, zl_42, zl_43, zl_44, zl_45, zl_46, zl_47, zl_48, zl_49, zl_50, zl_51, zl_52, zl_53, zl_54, zl_55, zl_56, zl_57, zl_58, zl_59, zl_60, zl_61, zl_62, zl_63, zl_64, zl_65, zl_82, zl_99, zl_100, zl_160, zl_299, zl_300, zl_301, zl_382, zl_398, zl_399, zl_464, zl_680, zl_862, zl_999, zl_1000, zl_9999, zl_10000, zl_1000000, zl_m1, zl_m2, zl_m3, zl_m8, zl_97, zl_122, zl_90, zl_100000, zl_75] at hi_td hi_spp hat h0 h1 h2 hm huh3_0 hba4 c8 c9 hz10 c11 huh16_0 hba17 hz20 ⊢); omega) (by (try simp only [zlt, zle, zeq, zl_0, zl_1, zl_2, zl_3, zl_4, zl_5, zl_6, zl_7, zl_8, zl_9, zl_10, zl_11, zl_12, zl_13, zl_14, zl_15, zl_16, zl_17, zl_18, zl_19, zl_20, zl_21, zl_22, zl_23, zl_24, zl_25, zl_26, zl_27, zl_28, zl_29, zl_30, zl_31, zl_32, zl_33, zl_34, zl_35, zl_36, zl_37, zl_38, zl_39, zl_40, zl_41, zl_42, zl_43, zl_44, zl_45, zl_46, zl_47, zl_48, zl_49, zl_50, zl_51, zl_52, zl_53, zl_54, zl_55, zl_56, zl_57, zl_58, zl_59, zl_60, zl_61, zl_62, zl_63, zl_64, zl_65, zl_82, zl_99, zl_100, zl_160, zl_299, zl_300, zl_301, zl_382, zl_398, zl_399, zl_464, zl_680, zl_862, zl_999, zl_1000, zl_9999, zl_10000, zl_1000000, zl_m1, zl_m2, zl_m3, zl_m8, zl_97, zl_122, zl_90, zl_100000, zl_75] at hi_td hi_spp hat h0 h1 h2 hm huh3_0 hba4 c8 c9 hz10 c11 huh16_0 hba17 hz20 ⊢); omega) (by (try simp only [zlt, zle, zeq, zl_0, zl_1, zl_2, zl_3, zl_4, zl_5, zl_6, zl_7, zl_8, zl_9, zl_10, zl_11, zl_12, zl_13, zl_14, zl_15, zl_16, zl_17, zl_18, zl_19, zl_20, zl_21, zl_22, zl_23, zl_24, zl_25, zl_26, zl_27, zl_28, zl_29, zl_30, zl_31, zl_32, zl_33, zl_34, zl_35, zl_36, zl_37, zl_38, zl_39, zl_40, zl_41, zl_42, zl_43, zl_44, zl_45, zl_46, zl_47, zl_48, zl_49, zl_50, zl_51, zl_52, zl_53, zl_54, zl_55, zl_56, zl_57, zl_58, zl_59, zl_60, zl_61, zl_62, zl_63, zl_64, zl_65, zl_82, zl_99, zl_100, zl_160, zl_299, zl_300, zl_301, zl_382, zl_398, zl_399, zl_464, zl_680, zl_862, zl_999, zl_1000, zl_9999, zl_10000, zl_1000000, zl_m1, zl_m2, zl_m3, zl_m8, zl_97, zl_122, zl_90, zl_100000, zl_75] at hi_td hi_spp hat h0 h1 h2 hm huh3_0 hba4 c8 c9 hz10 c11 huh16_0 hba17 hz20 ⊢); omega) _ _ _ hP hD hS (lv_sub hl [0] rfl)
    · obtain rfl : r6 = 0 := by rw [hrh7, if_neg c8]
      refine lv_if_eq (tgt := 223) hx hb dX12_nextToken_172 (by decide) (fun c21 => ?_) (fun h => absurd (by decide) h)
      refine lv_aload_n hx hb dX12_nextToken_223 rfl (lv_at hl 0 rfl) ?_
      refine z_get Z i_X12 hP 0 rfl rfl 7 (by decide) bw_1026 rfl dX12_nextToken_224 ?_
      refine lv_aload_n hx hb dX12_nextToken_227 rfl (lv_at hl 0 rfl) ?_
      refine z_get Z i_X12 hP 0 rfl rfl 8 (by decide) bw_1027 rfl dX12_nextToken_228 ?_
      refine lv_isub hx hb dX12_nextToken_231 ?_
      refine lv_topi (fun z22 ez22 => ?_)
      have hz22 : z22.toInt = vat_.toInt - vplc.toInt := by rw [ez22]; exact zsubg (by (try simp only [zlt, zle, zeq, zl_0, zl_1, zl_2, zl_3, zl_4, zl_5, zl_6, zl_7, zl_8, zl_9, zl_10, zl_11, zl_12, zl_13, zl_14, zl_15, zl_16, zl_17, zl_18, zl_19, zl_20, zl_21, zl_22, zl_23, zl_24, zl_25, zl_26, zl_27, zl_28, zl_29, zl_30, zl_31, zl_32, zl_33, zl_34, zl_35, zl_36, zl_37, zl_38, zl_39, zl_40, zl_41, zl_42, zl_43, zl_44, zl_45, zl_46, zl_47, zl_48, zl_49, zl_50, zl_51, zl_52, zl_53, zl_54, zl_55, zl_56, zl_57, zl_58, zl_59, zl_60, zl_61, zl_62, zl_63, zl_64, zl_65, zl_82, zl_99, zl_100, zl_160, zl_299, zl_300, zl_301, zl_382, zl_398, zl_399, zl_464, zl_680, zl_862, zl_999, zl_1000, zl_9999, zl_10000, zl_1000000, zl_m1, zl_m2, zl_m3, zl_m8, zl_97, zl_122, zl_90, zl_100000, zl_75] at hi_td hi_spp hat h0 h1 h2 hm huh3_0 hba4 c8 c21 ⊢); omega) (by (try simp only [zlt, zle, zeq, zl_0, zl_1, zl_2, zl_3, zl_4, zl_5, zl_6, zl_7, zl_8, zl_9, zl_10, zl_11, zl_12, zl_13, zl_14, zl_15, zl_16, zl_17, zl_18, zl_19, zl_20, zl_21, zl_22, zl_23, zl_24, zl_25, zl_26, zl_27, zl_28, zl_29, zl_30, zl_31, zl_32, zl_33, zl_34, zl_35, zl_36, zl_37, zl_38, zl_39, zl_40, zl_41, zl_42, zl_43, zl_44, zl_45, zl_46, zl_47, zl_48, zl_49, zl_50, zl_51, zl_52, zl_53, zl_54, zl_55, zl_56, zl_57, zl_58, zl_59, zl_60, zl_61, zl_62, zl_63, zl_64, zl_65, zl_82, zl_99, zl_100, zl_160, zl_299, zl_300, zl_301, zl_382, zl_398, zl_399, zl_464, zl_680, zl_862, zl_999, zl_1000, zl_9999, zl_10000, zl_1000000, zl_m1, zl_m2, zl_m3, zl_m8, zl_97, zl_122, zl_90, zl_100000, zl_75] at hi_td hi_spp hat h0 h1 h2 hm huh3_0 hba4 c8 c21 ⊢); omega)
      refine lv_bipush (v := 7) hx hb dX12_nextToken_232 (by decide) ?_
      refine lv_icmp_le (tgt := 408) hx hb dX12_nextToken_234 (by decide) (fun c23 => ?_) (fun c23 => ?_)
      · exact z_vret Z hP hD hS (⟨vat_, vplc, vtok, vnum, vwrd, rfl, (by (try simp only [zlt, zle, zeq, zl_0, zl_1, zl_2, zl_3, zl_4, zl_5, zl_6, zl_7, zl_8, zl_9, zl_10, zl_11, zl_12, zl_13, zl_14, zl_15, zl_16, zl_17, zl_18, zl_19, zl_20, zl_21, zl_22, zl_23, zl_24, zl_25, zl_26, zl_27, zl_28, zl_29, zl_30, zl_31, zl_32, zl_33, zl_34, zl_35, zl_36, zl_37, zl_38, zl_39, zl_40, zl_41, zl_42, zl_43, zl_44, zl_45, zl_46, zl_47, zl_48, zl_49, zl_50, zl_51, zl_52, zl_53, zl_54, zl_55, zl_56, zl_57, zl_58, zl_59, zl_60, zl_61, zl_62, zl_63, zl_64, zl_65, zl_82, zl_99, zl_100, zl_160, zl_299, zl_300, zl_301, zl_382, zl_398, zl_399, zl_464, zl_680, zl_862, zl_999, zl_1000, zl_9999, zl_10000, zl_1000000, zl_m1, zl_m2, zl_m3, zl_m8, zl_97, zl_122, zl_90, zl_100000, zl_75, and_true, true_and, and_false, false_and, or_false, false_or, or_true, true_or, not_true_eq_false, not_false_eq_true] at hi_td hi_spp hat h0 h1 h2 hm huh3_0 hba4 c8 c21 hz22 c23 ⊢) <;> omega)⟩) dX12_nextToken_408 (Nat.le_of_ble_eq_true rfl) (Nat.le_of_ble_eq_true rfl)
      · refine lv_aload_n hx hb dX12_nextToken_237 rfl (lv_at hl 0 rfl) ?_
        refine lv_lconst (v := 0) hx hb dX12_nextToken_238 (by decide) ?_
        refine z_put Z i_X12 tyX12 tyX12_ok nmX12 hP hD hS 0 rfl rfl 11 (by decide) bw_1030 rfl rfl rfl (Nat.le_of_ble_eq_true rfl) dX12_nextToken_239 (fun H locs hP hD hS => ?_)
        have hP : va_P D vwCl ([(q, .inr (12, [.ref aA, .ref aI, .ref xT, .ref tP_, .int td, .int fu, .int fp, .int vat_, .int vplc, .int vtok, .int vnum, .long 0, .int tx0, .int cls, .int wri, .int cam, .ref pI, .int pid, .int ope, .int isw, .int so0, .int onc, .ref nm, .ref vL, .ref tR, .int spp, .int eat, .int ste, .ref rW, .ref sP, .ref oT, .ref bS, .ref aS, .ref aO, .ref cS, .ref wY])), (tP_, .inl (cI, 300, .inl ftp))]) H := hP
        have hD : va_D A ([(q, .inr (12, [.ref aA, .ref aI, .ref xT, .ref tP_, .int td, .int fu, .int fp, .int vat_, .int vplc, .int vtok, .int vnum, .long 0, .int tx0, .int cls, .int wri, .int cam, .ref pI, .int pid, .int ope, .int isw, .int so0, .int onc, .ref nm, .ref vL, .ref tR, .int spp, .int eat, .int ste, .ref rW, .ref sP, .ref oT, .ref bS, .ref aS, .ref aO, .ref cS, .ref wY])), (tP_, .inl (cI, 300, .inl ftp))]) := hD
        refine lv_goto (tgt := 408) hx hb dX12_nextToken_242 (by decide) ?_
        exact z_vret Z hP hD hS (⟨vat_, vplc, vtok, vnum, 0, rfl, (by (try simp only [zlt, zle, zeq, zl_0, zl_1, zl_2, zl_3, zl_4, zl_5, zl_6, zl_7, zl_8, zl_9, zl_10, zl_11, zl_12, zl_13, zl_14, zl_15, zl_16, zl_17, zl_18, zl_19, zl_20, zl_21, zl_22, zl_23, zl_24, zl_25, zl_26, zl_27, zl_28, zl_29, zl_30, zl_31, zl_32, zl_33, zl_34, zl_35, zl_36, zl_37, zl_38, zl_39, zl_40, zl_41, zl_42, zl_43, zl_44, zl_45, zl_46, zl_47, zl_48, zl_49, zl_50, zl_51, zl_52, zl_53, zl_54, zl_55, zl_56, zl_57, zl_58, zl_59, zl_60, zl_61, zl_62, zl_63, zl_64, zl_65, zl_82, zl_99, zl_100, zl_160, zl_299, zl_300, zl_301, zl_382, zl_398, zl_399, zl_464, zl_680, zl_862, zl_999, zl_1000, zl_9999, zl_10000, zl_1000000, zl_m1, zl_m2, zl_m3, zl_m8, zl_97, zl_122, zl_90, zl_100000, zl_75, and_true, true_and, and_false, false_and, or_false, false_or, or_true, true_or, not_true_eq_false, not_false_eq_true] at hi_td hi_spp hat h0 h1 h2 hm huh3_0 hba4 c8 c21 hz22 c23 ⊢) <;> omega)⟩) dX12_nextToken_408 (Nat.le_of_ble_eq_true rfl) (Nat.le_of_ble_eq_true rfl)
set_option maxHeartbeats 4000000 in
set_option maxRecDepth 100000 in
theorem lp_nt85 {p : Program} (l : Launch) {e : Env} {s : State} {m : MethodId} {below : List Frame} {meth : Method} {c : Code} {A : Nat → Prop} (D : va_G) (cI cM cT cJ cZ : ClassId) (q : Nat) (aA : Nat) (aI : Nat) (xT : Nat) (tP_ : Nat) (td : Int32) (fu : Int32) (fp : Int32) (at_ : Int32) (plc : Int32) (tok : Int32) (num : Int32) (wrd : Int64) (tx0 : Int32) (cls : Int32) (wri : Int32) (cam : Int32) (pI : Nat) (pid : Int32) (ope : Int32) (isw : Int32) (so0 : Int32) (onc : Int32) (nm : Nat) (vL : Nat) (tR : Nat) (spp : Int32) (eat : Int32) (ste : Int32) (rW : Nat) (sP : Nat) (oT : Nat) (bS : Nat) (aS : Nat) (aO : Nat) (cS : Nat) (wY : Nat) (ftp : Nat → Int32) (Z : Zx p s m ([.ref q] : List Value).toArray meth c cX12_nextToken 3 none yX12_nextToken.cls A (ty3 cI cM cT cJ cZ) D) (hi_td : 0 ≤ td.toInt ∧ td.toInt ≤ 300) (hi_spp : 0 ≤ spp.toInt ∧ spp.toInt ≤ 299) (hat : 0 ≤ at_.toInt ∧ at_.toInt ≤ td.toInt) : ∀ (n0 : Nat) (vat_ : Int32) (vplc : Int32) (vtok : Int32) (vnum : Int32) (vwrd : Int64) (h0 : at_.toInt ≤ vplc.toInt ∧ vplc.toInt ≤ vat_.toInt ∧ vat_.toInt ≤ td.toInt) (h1 : vplc.toInt < vat_.toInt ∨ (48 ≤ BA td.toInt ftp vat_.toInt ∧ BA td.toInt ftp vat_.toInt ≤ 57)) (h2 : vtok.toInt ≠ 0), (td.toInt - vat_.toInt).toNat < n0 → ∀ (H : Heap) (locs : List Loc) (ls : Array Slot), va_P D vwCl ([(q, .inr (12, [.ref aA, .ref aI, .ref xT, .ref tP_, .int td, .int fu, .int fp, .int vat_, .int vplc, .int vtok, .int vnum, .long vwrd, .int tx0, .int cls, .int wri, .int cam, .ref pI, .int pid, .int ope, .int isw, .int so0, .int onc, .ref nm, .ref vL, .ref tR, .int spp, .int eat, .int ste, .ref rW, .ref sP, .ref oT, .ref bS, .ref aS, .ref aO, .ref cS, .ref wY])), (tP_, .inl (cI, 300, .inl ftp))]) H → va_D A ([(q, .inr (12, [.ref aA, .ref aI, .ref xT, .ref tP_, .int td, .int fu, .int fp, .int vat_, .int vplc, .int vtok, .int vnum, .long vwrd, .int tx0, .int cls, .int wri, .int cam, .ref pI, .int pid, .int ope, .int isw, .int so0, .int onc, .ref nm, .ref vL, .ref tR, .int spp, .int eat, .int ste, .ref rW, .ref sP, .ref oT, .ref bS, .ref aS, .ref aO, .ref cS, .ref wY])), (tP_, .inl (cI, 300, .inl ftp))]) → va_S A s.heap H locs → lv_has ls 3 [(0, .ref q)] → W p l e (rmv 2 0 0) s m ([.ref q] : List Value).toArray below meth c H locs 0 0 (MQ below (va_Qv (fun u => ∃ (at__n : Int32) (plc_n : Int32) (tok_n : Int32) (num_n : Int32) (wrd_n : Int64), u = [(q, .inr (12, [.ref aA, .ref aI, .ref xT, .ref tP_, .int td, .int fu, .int fp, .int at__n, .int plc_n, .int tok_n, .int num_n, .long wrd_n, .int tx0, .int cls, .int wri, .int cam, .ref pI, .int pid, .int ope, .int isw, .int so0, .int onc, .ref nm, .ref vL, .ref tR, .int spp, .int eat, .int ste, .ref rW, .ref sP, .ref oT, .ref bS, .ref aS, .ref aO, .ref cS, .ref wY])), (tP_, .inl (cI, 300, .inl ftp))] ∧ ((0 ≤ at_.toInt ∧ at_.toInt ≤ plc_n.toInt) ∧ (plc_n.toInt ≤ at__n.toInt ∧ at__n.toInt ≤ td.toInt) ∧ (tok_n.toInt = 0 ∨ plc_n.toInt < at__n.toInt))) (cB D (ty3 cI cM cT cJ cZ) A) A) ([.ref q] : List Value).toArray s 0 0 A) (F0 m 85 ls []) := by
  have hx := Z.1
  have hb := Z.2.1
  intro n0
  induction n0 with
  | zero => intro vat_ vplc vtok vnum vwrd h0 h1 h2 hm; exact absurd hm (Nat.not_lt_zero _)
  | succ n0 ih =>
    intro vat_ vplc vtok vnum vwrd h0 h1 h2 hm H locs ls hP hD hS hl
    refine lv_aload_n hx hb dX12_nextToken_85 rfl (lv_at hl 0 rfl) ?_
    refine lv_aload_n hx hb dX12_nextToken_86 rfl (lv_at hl 0 rfl) ?_
    refine z_get Z i_X12 hP 0 rfl rfl 7 (by decide) bw_1026 rfl dX12_nextToken_87 ?_
    have hPc := hP.sub2 (wc := [(q, .inr (12, [.ref aA, .ref aI, .ref xT, .ref tP_, .int td, .int fu, .int fp, .int vat_, .int vplc, .int vtok, .int vnum, .long vwrd, .int tx0, .int cls, .int wri, .int cam, .ref pI, .int pid, .int ope, .int isw, .int so0, .int onc, .ref nm, .ref vL, .ref tR, .int spp, .int eat, .int ste, .ref rW, .ref sP, .ref oT, .ref bS, .ref aS, .ref aO, .ref cS, .ref wY])), (tP_, .inl (cI, 300, .inl ftp))]) [0, 1] rfl
    have hDc := hD.sub (ws' := [(q, .inr (12, [.ref aA, .ref aI, .ref xT, .ref tP_, .int td, .int fu, .int fp, .int vat_, .int vplc, .int vtok, .int vnum, .long vwrd, .int tx0, .int cls, .int wri, .int cam, .ref pI, .int pid, .int ope, .int isw, .int so0, .int onc, .ref nm, .ref vL, .ref tR, .int spp, .int eat, .int ste, .ref rW, .ref sP, .ref oT, .ref bS, .ref aS, .ref aO, .ref cS, .ref wY])), (tP_, .inl (cI, 300, .inl ftp))]) [0, 1] (by decide) rfl
    refine raw_Vi (ci := 12) (q0 := 0) (nA := 1) (As := [.int vat_]) (rest := []) Z hl.1 (c_X12_byteAt l D cI cM cT cJ cZ q vat_ aA aI xT tP_ td fu fp vat_ vplc vtok vnum vwrd tx0 cls wri cam pI pid ope isw so0 onc nm vL tR spp eat ste rW sP oT bS aS aO cS wY ftp (by (try simp only [zlt, zle, zeq, zl_0, zl_1, zl_2, zl_3, zl_4, zl_5, zl_6, zl_7, zl_8, zl_9, zl_10, zl_11, zl_12, zl_13, zl_14, zl_15, zl_16, zl_17, zl_18, zl_19, zl_20, zl_21, zl_22, zl_23, zl_24, zl_25, zl_26, zl_27, zl_28, zl_29, zl_30, zl_31, zl_32, zl_33, zl_34, zl_35, zl_36, zl_37, zl_38, zl_39, zl_40, zl_41, zl_42, zl_43, zl_44, zl_45, zl_46, zl_47, zl_48, zl_49, zl_50, zl_51, zl_52, zl_53, zl_54, zl_55, zl_56, zl_57, zl_58, zl_59, zl_60, zl_61, zl_62, zl_63, zl_64, zl_65, zl_82, zl_99, zl_100, zl_160, zl_299, zl_300, zl_301, zl_382, zl_398, zl_399, zl_464, zl_680, zl_862, zl_999, zl_1000, zl_9999, zl_10000, zl_1000000, zl_m1, zl_m2, zl_m3, zl_m8, zl_97, zl_122, zl_90, zl_100000, zl_75] at hi_td hi_spp hat h0 h1 h2 hm ⊢); omega) (by (try simp only [zlt, zle, zeq, zl_0, zl_1, zl_2, zl_3, zl_4, zl_5, zl_6, zl_7, zl_8, zl_9, zl_10, zl_11, zl_12, zl_13, zl_14, zl_15, zl_16, zl_17, zl_18, zl_19, zl_20, zl_21, zl_22, zl_23, zl_24, zl_25, zl_26, zl_27, zl_28, zl_29, zl_30, zl_31, zl_32, zl_33, zl_34, zl_35, zl_36, zl_37, zl_38, zl_39, zl_40, zl_41, zl_42, zl_43, zl_44, zl_45, zl_46, zl_47, zl_48, zl_49, zl_50, zl_51, zl_52, zl_53, zl_54, zl_55, zl_56, zl_57, zl_58, zl_59, zl_60, zl_61, zl_62, zl_63, zl_64, zl_65, zl_82, zl_99, zl_100, zl_160, zl_299, zl_300, zl_301, zl_382, zl_398, zl_399, zl_464, zl_680, zl_862, zl_999, zl_1000, zl_9999, zl_10000, zl_1000000, zl_m1, zl_m2, zl_m3, zl_m8, zl_97, zl_122, zl_90, zl_100000, zl_75] at hi_td hi_spp hat h0 h1 h2 hm ⊢); omega) (by (try simp only [zlt, zle, zeq, zl_0, zl_1, zl_2, zl_3, zl_4, zl_5, zl_6, zl_7, zl_8, zl_9, zl_10, zl_11, zl_12, zl_13, zl_14, zl_15, zl_16, zl_17, zl_18, zl_19, zl_20, zl_21, zl_22, zl_23, zl_24, zl_25, zl_26, zl_27, zl_28, zl_29, zl_30, zl_31, zl_32, zl_33, zl_34, zl_35, zl_36, zl_37, zl_38, zl_39, zl_40, zl_41, zl_42, zl_43, zl_44, zl_45, zl_46, zl_47, zl_48, zl_49, zl_50, zl_51, zl_52, zl_53, zl_54, zl_55, zl_56, zl_57, zl_58, zl_59, zl_60, zl_61, zl_62, zl_63, zl_64, zl_65, zl_82, zl_99, zl_100, zl_160, zl_299, zl_300, zl_301, zl_382, zl_398, zl_399, zl_464, zl_680, zl_862, zl_999, zl_1000, zl_9999, zl_10000, zl_1000000, zl_m1, zl_m2, zl_m3, zl_m8, zl_97, zl_122, zl_90, zl_100000, zl_75] at hi_td hi_spp hat h0 h1 h2 hm ⊢); omega)) (bw_V bw_1178 bw_1180 bw_39 bw_92 bw_1181) ⟨by decide +kernel, by decide +kernel, by decide +kernel⟩ rfl ⟨Nat.le_of_ble_eq_true rfl, Nat.le_of_ble_eq_true rfl⟩ rfl rfl rfl hPc hDc hS rfl (Nat.le_of_ble_eq_true rfl) dX12_nextToken_90 ⟨Nat.le_of_ble_eq_true rfl, Nat.le_of_ble_eq_true rfl⟩ (fun r2 u1 H1 locs1 h3 hku1 hP1 hD1 hS1 => ?_)
    obtain ⟨rfl, huh3_0⟩ := h3
    obtain ⟨hP, hD⟩ := z_join (wr := []) Z hS hP hD [0, 1] [] rfl (by decide) rfl (by decide) (by decide) hku1 hP1 hD1
    have hS := hS1
    clear hS1
    generalize H1 = H at hP hS ⊢
    generalize locs1 = locs at hS ⊢
    have hP : va_P D vwCl ([(q, .inr (12, [.ref aA, .ref aI, .ref xT, .ref tP_, .int td, .int fu, .int fp, .int vat_, .int vplc, .int vtok, .int vnum, .long vwrd, .int tx0, .int cls, .int wri, .int cam, .ref pI, .int pid, .int ope, .int isw, .int so0, .int onc, .ref nm, .ref vL, .ref tR, .int spp, .int eat, .int ste, .ref rW, .ref sP, .ref oT, .ref bS, .ref aS, .ref aO, .ref cS, .ref wY])), (tP_, .inl (cI, 300, .inl ftp))]) H := hP
    have hD : va_D A ([(q, .inr (12, [.ref aA, .ref aI, .ref xT, .ref tP_, .int td, .int fu, .int fp, .int vat_, .int vplc, .int vtok, .int vnum, .long vwrd, .int tx0, .int cls, .int wri, .int cam, .ref pI, .int pid, .int ope, .int isw, .int so0, .int onc, .ref nm, .ref vL, .ref tR, .int spp, .int eat, .int ste, .ref rW, .ref sP, .ref oT, .ref bS, .ref aS, .ref aO, .ref cS, .ref wY])), (tP_, .inl (cI, 300, .inl ftp))]) := hD
    have hba4 : (vat_ : Int32).toInt < td.toInt ∨ BA td.toInt ftp (vat_ : Int32).toInt = -1 := BA_lt
    have hPc := hP.sub2 (wc := []) [] rfl
    have hDc := hD.sub (ws' := []) [] (by decide) rfl
    refine raw_Si (nA := 1) (As := [.int r2]) (rest := []) Z hl.1 (c_X12_isDigit l D cI cM cT cJ cZ r2) (bw_S bw_1182 bw_1183 bw_92 bw_1184) ⟨by decide +kernel, by decide +kernel, by decide +kernel⟩ rfl ⟨Nat.le_of_ble_eq_true rfl, Nat.le_of_ble_eq_true rfl⟩ hPc hDc hS rfl (Nat.le_of_ble_eq_true rfl) dX12_nextToken_93 ⟨Nat.le_of_ble_eq_true rfl, Nat.le_of_ble_eq_true rfl⟩ (fun r6 u5 H1 locs1 h7 hku5 hP1 hD1 hS1 => ?_)
    obtain ⟨hrh7, rfl⟩ := h7
    obtain ⟨hP, hD⟩ := z_join (wr := [(q, .inr (12, [.ref aA, .ref aI, .ref xT, .ref tP_, .int td, .int fu, .int fp, .int vat_, .int vplc, .int vtok, .int vnum, .long vwrd, .int tx0, .int cls, .int wri, .int cam, .ref pI, .int pid, .int ope, .int isw, .int so0, .int onc, .ref nm, .ref vL, .ref tR, .int spp, .int eat, .int ste, .ref rW, .ref sP, .ref oT, .ref bS, .ref aS, .ref aO, .ref cS, .ref wY])), (tP_, .inl (cI, 300, .inl ftp))]) Z hS hP hD [] [0, 1] rfl (by decide) rfl (by decide) (by decide) hku5 hP1 hD1
    have hS := hS1
    clear hS1
    generalize H1 = H at hP hS ⊢
    generalize locs1 = locs at hS ⊢
    have hP : va_P D vwCl ([(q, .inr (12, [.ref aA, .ref aI, .ref xT, .ref tP_, .int td, .int fu, .int fp, .int vat_, .int vplc, .int vtok, .int vnum, .long vwrd, .int tx0, .int cls, .int wri, .int cam, .ref pI, .int pid, .int ope, .int isw, .int so0, .int onc, .ref nm, .ref vL, .ref tR, .int spp, .int eat, .int ste, .ref rW, .ref sP, .ref oT, .ref bS, .ref aS, .ref aO, .ref cS, .ref wY])), (tP_, .inl (cI, 300, .inl ftp))]) H := hP
    have hD : va_D A ([(q, .inr (12, [.ref aA, .ref aI, .ref xT, .ref tP_, .int td, .int fu, .int fp, .int vat_, .int vplc, .int vtok, .int vnum, .long vwrd, .int tx0, .int cls, .int wri, .int cam, .ref pI, .int pid, .int ope, .int isw, .int so0, .int onc, .ref nm, .ref vL, .ref tR, .int spp, .int eat, .int ste, .ref rW, .ref sP, .ref oT, .ref bS, .ref aS, .ref aO, .ref cS, .ref wY])), (tP_, .inl (cI, 300, .inl ftp))]) := hD
    by_cases c8 : 48 ≤ r2.toInt ∧ r2.toInt ≤ 57
    · obtain rfl : r6 = 1 := by rw [hrh7, if_pos c8]
      refine lv_if_eq (tgt := 408) hx hb dX12_nextToken_96 (by decide) (fun h => absurd h (by decide)) (fun c9 => ?_)
      refine lv_aload_n hx hb dX12_nextToken_99 rfl (lv_at hl 0 rfl) ?_
      refine z_get Z i_X12 hP 0 rfl rfl 10 (by decide) bw_1029 rfl dX12_nextToken_100 ?_
      refine lv_ldc (v := 100000) hx hb Z.2.2.2.1 (Z.2.2.2.2.1 _ bw_1185) dX12_nextToken_103 ?_
      refine lv_icmp_ge (tgt := 131) hx hb dX12_nextToken_105 (by decide) (fun c10 => ?_) (fun c10 => ?_)
      · refine lv_aload_n hx hb dX12_nextToken_131 rfl (lv_at hl 0 rfl) ?_
        refine lv_dup hx hb dX12_nextToken_132 rfl ?_
        refine z_get Z i_X12 hP 0 rfl rfl 7 (by decide) bw_1026 rfl dX12_nextToken_133 ?_
        refine lv_iconst (v := 1) hx hb dX12_nextToken_136 (by decide) ?_
        refine lv_iadd hx hb dX12_nextToken_137 ?_
        refine lv_topi (fun z11 ez11 => ?_)
        have hz11 : z11.toInt = vat_.toInt + 1 := by rw [ez11]; exact zaddg (by (try simp only [zlt, zle, zeq, zl_0, zl_1, zl_2, zl_3, zl_4, zl_5, zl_6, zl_7, zl_8, zl_9, zl_10, zl_11, zl_12, zl_13, zl_14, zl_15, zl_16, zl_17, zl_18, zl_19, zl_20, zl_21, zl_22, zl_23, zl_24, zl_25, zl_26, zl_27, zl_28, zl_29, zl_30, zl_31, zl_32, zl_33, zl_34, zl_35, zl_36, zl_37, zl_38, zl_39, zl_40, zl_41, zl_42, zl_43, zl_44, zl_45, zl_46, zl_47, zl_48, zl_49, zl_50, zl_51, zl_52, zl_53, zl_54, zl_55, zl_56, zl_57, zl_58, zl_59, zl_60, zl_61, zl_62, zl_63, zl_64, zl_65, zl_82, zl_99, zl_100, zl_160, zl_299, zl_300, zl_301, zl_382, zl_398, zl_399, zl_464, zl_680, zl_862, zl_999, zl_1000, zl_9999, zl_10000, zl_1000000, zl_m1, zl_m2, zl_m3, zl_m8, zl_97, zl_122, zl_90, zl_100000, zl_75] at hi_td hi_spp hat h0 h1 h2 hm huh3_0 hba4 c8 c9 c10 ⊢); omega) (by (try simp only [zlt, zle, zeq, zl_0, zl_1, zl_2, zl_3, zl_4, zl_5, zl_6, zl_7, zl_8, zl_9, zl_10, zl_11, zl_12, zl_13, zl_14, zl_15, zl_16, zl_17, zl_18, zl_19, zl_20, zl_21, zl_22, zl_23, zl_24, zl_25, zl_26, zl_27, zl_28, zl_29, zl_30, zl_31, zl_32, zl_33, zl_34, zl_35, zl_36, zl_37, zl_38, zl_39, zl_40, zl_41, zl_42, zl_43, zl_44, zl_45, zl_46, zl_47, zl_48, zl_49, zl_50, zl_51, zl_52, zl_53, zl_54, zl_55, zl_56, zl_57, zl_58, zl_59, zl_60, zl_61, zl_62, zl_63, zl_64, zl_65, zl_82, zl_99, zl_100, zl_160, zl_299, zl_300, zl_301, zl_382, zl_398, zl_399, zl_464, zl_680, zl_862, zl_999, zl_1000, zl_9999, zl_10000, zl_1000000, zl_m1, zl_m2, zl_m3, zl_m8, zl_97, zl_122, zl_90, zl_100000, zl_75] at hi_td hi_spp hat h0 h1 h2 hm huh3_0 hba4 c8 c9 c10 ⊢); omega)
        refine z_put Z i_X12 tyX12 tyX12_ok nmX12 hP hD hS 0 rfl rfl 7 (by decide) bw_1026 rfl rfl rfl (Nat.le_of_ble_eq_true rfl) dX12_nextToken_138 (fun H locs hP hD hS => ?_)
        have hP : va_P D vwCl ([(q, .inr (12, [.ref aA, .ref aI, .ref xT, .ref tP_, .int td, .int fu, .int fp, .int z11, .int vplc, .int vtok, .int vnum, .long vwrd, .int tx0, .int cls, .int wri, .int cam, .ref pI, .int pid, .int ope, .int isw, .int so0, .int onc, .ref nm, .ref vL, .ref tR, .int spp, .int eat, .int ste, .ref rW, .ref sP, .ref oT, .ref bS, .ref aS, .ref aO, .ref cS, .ref wY])), (tP_, .inl (cI, 300, .inl ftp))]) H := hP
        have hD : va_D A ([(q, .inr (12, [.ref aA, .ref aI, .ref xT, .ref tP_, .int td, .int fu, .int fp, .int z11, .int vplc, .int vtok, .int vnum, .long vwrd, .int tx0, .int cls, .int wri, .int cam, .ref pI, .int pid, .int ope, .int isw, .int so0, .int onc, .ref nm, .ref vL, .ref tR, .int spp, .int eat, .int ste, .ref rW, .ref sP, .ref oT, .ref bS, .ref aS, .ref aO, .ref cS, .ref wY])), (tP_, .inl (cI, 300, .inl ftp))]) := hD
        refine lv_goto (tgt := 85) hx hb dX12_nextToken_141 (by decide) ?_
        exact ih z11 vplc vtok vnum vwrd (by (try simp only [zlt, zle, zeq, zl_0, zl_1, zl_2, zl_3, zl_4, zl_5, zl_6, zl_7, zl_8, zl_9, zl_10, zl_11, zl_12, zl_13, zl_14, zl_15, zl_16, zl_17, zl_18, zl_19, zl_20, zl_21, zl_22, zl_23, zl_24, zl_25, zl_26, zl_27, zl_28, zl_29, zl_30, zl_31, zl_32, zl_33, zl_34, zl_35, zl_36, zl_37, zl_38, zl_39, zl_40, zl_41, zl_42, zl_43, zl_44, zl_45, zl_46, zl_47, zl_48, zl_49, zl_50, zl_51, zl_52, zl_53, zl_54, zl_55, zl_56, zl_57, zl_58, zl_59, zl_60, zl_61, zl_62, zl_63, zl_64, zl_65, zl_82, zl_99, zl_100, zl_160, zl_299, zl_300, zl_301, zl_382, zl_398, zl_399, zl_464, zl_680, zl_862, zl_999, zl_1000, zl_9999, zl_10000, zl_1000000, zl_m1, zl_m2, zl_m3, zl_m8, zl_97, zl_122, zl_90, zl_100000, zl_75] at hi_td hi_spp hat h0 h1 h2 hm huh3_0 hba4 c8 c9 c10 hz11 ⊢); omega) (by (try simp only [zlt, zle, zeq, zl_0, zl_1, zl_2, zl_3, zl_4, zl_5, zl_6, zl_7, zl_8, zl_9, zl_10, zl_11, zl_12, zl_13, zl_14, zl_15, zl_16, zl_17, zl_18, zl_19, zl_20, zl_21, zl_22, zl_23, zl_24, zl_25, zl_26, zl_27, zl_28, zl_29, zl_30, zl_31, zl_32, zl_33, zl_34, zl_35, zl_36, zl_37, zl_38, zl_39, zl_40, zl_41, zl_42, zl_43, zl_44, zl_45, zl_46, zl_47, zl_48, zl_49, zl_50, zl_51, zl_52, zl_53, zl_54, zl_55, zl_56, zl_57, zl_58, zl_59, zl_60, zl_61, zl_62, zl_63, zl_64, zl_65, zl_82, zl_99, zl_100, zl_160, zl_299, zl_300, zl_301, zl_382, zl_398, zl_399, zl_464, zl_680, zl_862, zl_999, zl_1000, zl_9999, zl_10000, zl_1000000, zl_m1, zl_m2, zl_m3, zl_m8, zl_97, zl_122, zl_90, zl_100000, zl_75] at hi_td hi_spp hat h0 h1 h2 hm huh3_0 hba4 c8 c9 c10 hz11 ⊢); omega) (by (try simp only [zlt, zle, zeq, zl_0, zl_1, zl_2, zl_3, zl_4, zl_5, zl_6, zl_7, zl_8, zl_9, zl_10, zl_11, zl_12, zl_13, zl_14, zl_15, zl_16, zl_17, zl_18, zl_19, zl_20, zl_21, zl_22, zl_23, zl_24, zl_25, zl_26, zl_27, zl_28, zl_29, zl_30, zl_31, zl_32, zl_33, zl_34, zl_35, zl_36, zl_37, zl_38, zl_39, zl_40, zl_41, zl_42, zl_43, zl_44, zl_45, zl_46, zl_47, zl_48, zl_49, zl_50, zl_51, zl_52, zl_53, zl_54, zl_55, zl_56, zl_57, zl_58, zl_59, zl_60, zl_61, zl_62, zl_63, zl_64, zl_65, zl_82, zl_99, zl_100, zl_160, zl_299, zl_300, zl_301, zl_382, zl_398, zl_399, zl_464, zl_680, zl_862, zl_999, zl_1000, zl_9999, zl_10000, zl_1000000, zl_m1, zl_m2, zl_m3, zl_m8, zl_97, zl_122, zl_90, zl_100000, zl_75] at hi_td hi_spp hat h0 h1 h2 hm huh3_0 hba4 c8 c9 c10 hz11 ⊢); omega) (by (try simp only [zlt, zle, zeq, zl_0, zl_1, zl_2, zl_3, zl_4, zl_5, zl_6, zl_7, zl_8, zl_9, zl_10, zl_11, zl_12, zl_13, zl_14, zl_15, zl_16, zl_17, zl_18, zl_19, zl_20, zl_21, zl_22, zl_23, zl_24, zl_25, zl_26, zl_27, zl_28, zl_29, zl_30, zl_31, zl_32, zl_33, zl_34, zl_35, zl_36, zl_37, zl_38, zl_39, zl_40, zl_41, zl_42, zl_43, zl_44, zl_45, zl_46, zl_47, zl_48, zl_49, zl_50, zl_51, zl_52, zl_53, zl_54, zl_55, zl_56, zl_57, zl_58, zl_59, zl_60, zl_61, zl_62, zl_63, zl_64, zl_65, zl_82, zl_99, zl_100, zl_160, zl_299, zl_300, zl_301, zl_382, zl_398, zl_399, zl_464, zl_680, zl_862, zl_999, zl_1000, zl_9999, zl_10000, zl_1000000, zl_m1, zl_m2, zl_m3, zl_m8, zl_97, zl_122, zl_90, zl_100000, zl_75] at hi_td hi_spp hat h0 h1 h2 hm huh3_0 hba4 c8 c9 c10 hz11 ⊢); omega) _ _ _ hP hD hS (lv_sub hl [0] rfl)
      · refine lv_aload_n hx hb dX12_nextToken_108 rfl (lv_at hl 0 rfl) ?_
        refine lv_bipush (v := 10) hx hb dX12_nextToken_109 (by decide) ?_
        refine lv_aload_n hx hb dX12_nextToken_111 rfl (lv_at hl 0 rfl) ?_
        refine z_get Z i_X12 hP 0 rfl rfl 10 (by decide) bw_1029 rfl dX12_nextToken_112 ?_
        refine lv_imul hx hb dX12_nextToken_115 ?_
        refine lv_topi (fun z12 ez12 => ?_)
        refine lv_aload_n hx hb dX12_nextToken_116 rfl (lv_at hl 0 rfl) ?_
        refine lv_aload_n hx hb dX12_nextToken_117 rfl (lv_at hl 0 rfl) ?_
        refine z_get Z i_X12 hP 0 rfl rfl 7 (by decide) bw_1026 rfl dX12_nextToken_118 ?_
        have hPc := hP.sub2 (wc := [(q, .inr (12, [.ref aA, .ref aI, .ref xT, .ref tP_, .int td, .int fu, .int fp, .int vat_, .int vplc, .int vtok, .int vnum, .long vwrd, .int tx0, .int cls, .int wri, .int cam, .ref pI, .int pid, .int ope, .int isw, .int so0, .int onc, .ref nm, .ref vL, .ref tR, .int spp, .int eat, .int ste, .ref rW, .ref sP, .ref oT, .ref bS, .ref aS, .ref aO, .ref cS, .ref wY])), (tP_, .inl (cI, 300, .inl ftp))]) [0, 1] rfl
        have hDc := hD.sub (ws' := [(q, .inr (12, [.ref aA, .ref aI, .ref xT, .ref tP_, .int td, .int fu, .int fp, .int vat_, .int vplc, .int vtok, .int vnum, .long vwrd, .int tx0, .int cls, .int wri, .int cam, .ref pI, .int pid, .int ope, .int isw, .int so0, .int onc, .ref nm, .ref vL, .ref tR, .int spp, .int eat, .int ste, .ref rW, .ref sP, .ref oT, .ref bS, .ref aS, .ref aO, .ref cS, .ref wY])), (tP_, .inl (cI, 300, .inl ftp))]) [0, 1] (by decide) rfl
        refine raw_Vi (ci := 12) (q0 := 0) (nA := 1) (As := [.int vat_]) (rest := [.int z12, .ref q]) Z hl.1 (c_X12_byteAt l D cI cM cT cJ cZ q vat_ aA aI xT tP_ td fu fp vat_ vplc vtok vnum vwrd tx0 cls wri cam pI pid ope isw so0 onc nm vL tR spp eat ste rW sP oT bS aS aO cS wY ftp (by (try simp only [zlt, zle, zeq, zl_0, zl_1, zl_2, zl_3, zl_4, zl_5, zl_6, zl_7, zl_8, zl_9, zl_10, zl_11, zl_12, zl_13, zl_14, zl_15, zl_16, zl_17, zl_18, zl_19, zl_20, zl_21, zl_22, zl_23, zl_24, zl_25, zl_26, zl_27, zl_28, zl_29, zl_30, zl_31, zl_32, zl_33, zl_34, zl_35, zl_36, zl_37, zl_38, zl_39, zl_40, zl_41, zl_42, zl_43, zl_44, zl_45, zl_46, zl_47, zl_48, zl_49, zl_50, zl_51, zl_52, zl_53, zl_54, zl_55, zl_56, zl_57, zl_58, zl_59, zl_60, zl_61, zl_62, zl_63, zl_64, zl_65, zl_82, zl_99, zl_100, zl_160, zl_299, zl_300, zl_301, zl_382, zl_398, zl_399, zl_464, zl_680, zl_862, zl_999, zl_1000, zl_9999, zl_10000, zl_1000000, zl_m1, zl_m2, zl_m3, zl_m8, zl_97, zl_122, zl_90, zl_100000, zl_75] at hi_td hi_spp hat h0 h1 h2 hm huh3_0 hba4 c8 c9 c10 ⊢); omega) (by (try simp only [zlt, zle, zeq, zl_0, zl_1, zl_2, zl_3, zl_4, zl_5, zl_6, zl_7, zl_8, zl_9, zl_10, zl_11, zl_12, zl_13, zl_14, zl_15, zl_16, zl_17, zl_18, zl_19, zl_20, zl_21, zl_22, zl_23, zl_24, zl_25, zl_26, zl_27, zl_28, zl_29, zl_30, zl_31, zl_32, zl_33, zl_34, zl_35, zl_36, zl_37, zl_38, zl_39, zl_40, zl_41, zl_42, zl_43, zl_44, zl_45, zl_46, zl_47, zl_48, zl_49, zl_50, zl_51, zl_52, zl_53, zl_54, zl_55, zl_56, zl_57, zl_58, zl_59, zl_60, zl_61, zl_62, zl_63, zl_64, zl_65, zl_82, zl_99, zl_100, zl_160, zl_299, zl_300, zl_301, zl_382, zl_398, zl_399, zl_464, zl_680, zl_862, zl_999, zl_1000, zl_9999, zl_10000, zl_1000000, zl_m1, zl_m2, zl_m3, zl_m8, zl_97, zl_122, zl_90, zl_100000, zl_75] at hi_td hi_spp hat h0 h1 h2 hm huh3_0 hba4 c8 c9 c10 ⊢); omega) (by (try simp only [zlt, zle, zeq, zl_0, zl_1, zl_2, zl_3, zl_4, zl_5, zl_6, zl_7, zl_8, zl_9, zl_10, zl_11, zl_12, zl_13, zl_14, zl_15, zl_16, zl_17, zl_18, zl_19, zl_20, zl_21, zl_22, zl_23, zl_24, zl_25, zl_26, zl_27, zl_28, zl_29, zl_30, zl_31, zl_32, zl_33, zl_34, zl_35, zl_36, zl_37, zl_38, zl_39, zl_40, zl_41, zl_42, zl_43, zl_44, zl_45, zl_46, zl_47, zl_48, zl_49, zl_50, zl_51, zl_52, zl_53, zl_54, zl_55, zl_56, zl_57, zl_58, zl_59, zl_60, zl_61, zl_62, zl_63, zl_64, zl_65, zl_82, zl_99, zl_100, zl_160, zl_299, zl_300, zl_301, zl_382, zl_398, zl_399, zl_464, zl_680, zl_862, zl_999, zl_1000, zl_9999, zl_10000, zl_1000000, zl_m1, zl_m2, zl_m3, zl_m8, zl_97, zl_122, zl_90, zl_100000, zl_75] at hi_td hi_spp hat h0 h1 h2 hm huh3_0 hba4 c8 c9 c10 ⊢); omega)) (bw_V bw_1178 bw_1180 bw_39 bw_92 bw_1181) ⟨by decide +kernel, by decide +kernel, by decide +kernel⟩ rfl ⟨Nat.le_of_ble_eq_true rfl, Nat.le_of_ble_eq_true rfl⟩ rfl rfl rfl hPc hDc hS rfl (Nat.le_of_ble_eq_true rfl) dX12_nextToken_121 ⟨Nat.le_of_ble_eq_true rfl, Nat.le_of_ble_eq_true rfl⟩ (fun r14 u13 H1 locs1 h15 hku13 hP1 hD1 hS1 => ?_)
        obtain ⟨rfl, huh15_0⟩ := h15
        obtain ⟨hP, hD⟩ := z_join (wr := []) Z hS hP hD [0, 1] [] rfl (by decide) rfl (by decide) (by decide) hku13 hP1 hD1
        have hS := hS1
        clear hS1
        generalize H1 = H at hP hS ⊢
        generalize locs1 = locs at hS ⊢
        have hP : va_P D vwCl ([(q, .inr (12, [.ref aA, .ref aI, .ref xT, .ref tP_, .int td, .int fu, .int fp, .int vat_, .int vplc, .int vtok, .int vnum, .long vwrd, .int tx0, .int cls, .int wri, .int cam, .ref pI, .int pid, .int ope, .int isw, .int so0, .int onc, .ref nm, .ref vL, .ref tR, .int spp, .int eat, .int ste, .ref rW, .ref sP, .ref oT, .ref bS, .ref aS, .ref aO, .ref cS, .ref wY])), (tP_, .inl (cI, 300, .inl ftp))]) H := hP
        have hD : va_D A ([(q, .inr (12, [.ref aA, .ref aI, .ref xT, .ref tP_, .int td, .int fu, .int fp, .int vat_, .int vplc, .int vtok, .int vnum, .long vwrd, .int tx0, .int cls, .int wri, .int cam, .ref pI, .int pid, .int ope, .int isw, .int so0, .int onc, .ref nm, .ref vL, .ref tR, .int spp, .int eat, .int ste, .ref rW, .ref sP, .ref oT, .ref bS, .ref aS, .ref aO, .ref cS, .ref wY])), (tP_, .inl (cI, 300, .inl ftp))]) := hD
        have hba16 : (vat_ : Int32).toInt < td.toInt ∨ BA td.toInt ftp (vat_ : Int32).toInt = -1 := BA_lt
        refine lv_iadd hx hb dX12_nextToken_124 ?_
        refine lv_topi (fun z17 ez17 => ?_)
        refine lv_bipush (v := 48) hx hb dX12_nextToken_125 (by decide) ?_
        refine lv_isub hx hb dX12_nextToken_127 ?_
        refine lv_topi (fun z18 ez18 => ?_)
        refine z_put Z i_X12 tyX12 tyX12_ok nmX12 hP hD hS 0 rfl rfl 10 (by decide) bw_1029 rfl rfl rfl (Nat.le_of_ble_eq_true rfl) dX12_nextToken_128 (fun H locs hP hD hS => ?_)
        have hP : va_P D vwCl ([(q, .inr (12, [.ref aA, .ref aI, .ref xT, .ref tP_, .int td, .int fu, .int fp, .int vat_, .int vplc, .int vtok, .int z18, .long vwrd, .int tx0, .int cls, .int wri, .int cam, .ref pI, .int pid, .int ope, .int isw, .int so0, .int onc, .ref nm, .ref vL, .ref tR, .int spp, .int eat, .int ste, .ref rW, .ref sP, .ref oT, .ref bS, .ref aS, .ref aO, .ref cS, .ref wY])), (tP_, .inl (cI, 300, .inl ftp))]) H := hP
        have hD : va_D A ([(q, .inr (12, [.ref aA, .ref aI, .ref xT, .ref tP_, .int td, .int fu, .int fp, .int vat_, .int vplc, .int vtok, .int z18, .long vwrd, .int tx0, .int cls, .int wri, .int cam, .ref pI, .int pid, .int ope, .int isw, .int so0, .int onc, .ref nm, .ref vL, .ref tR, .int spp, .int eat, .int ste, .ref rW, .ref sP, .ref oT, .ref bS, .ref aS, .ref aO, .ref cS, .ref wY])), (tP_, .inl (cI, 300, .inl ftp))]) := hD
        refine lv_aload_n hx hb dX12_nextToken_131 rfl (lv_at hl 0 rfl) ?_
        refine lv_dup hx hb dX12_nextToken_132 rfl ?_
        refine z_get Z i_X12 hP 0 rfl rfl 7 (by decide) bw_1026 rfl dX12_nextToken_133 ?_
        refine lv_iconst (v := 1) hx hb dX12_nextToken_136 (by decide) ?_
        refine lv_iadd hx hb dX12_nextToken_137 ?_
        refine lv_topi (fun z19 ez19 => ?_)
        have hz19 : z19.toInt = vat_.toInt + 1 := by rw [ez19]; exact zaddg (by (try simp only [zlt, zle, zeq, zl_0, zl_1, zl_2, zl_3, zl_4, zl_5, zl_6, zl_7, zl_8, zl_9, zl_10, zl_11, zl_12, zl_13, zl_14, zl_15, zl_16, zl_17, zl_18, zl_19, zl_20, zl_21, zl_22, zl_23, zl_24, zl_25, zl_26, zl_27, zl_28, zl_29, zl_30, zl_31, zl_32, zl_33, zl_34, zl_35, zl_36, zl_37, zl_38, zl_39, zl_40, zl_41, zl_42, zl_43, zl_44, zl_45, zl_46, zl_47, zl_48, zl_49, zl_50, zl_51, zl_52, zl_53, zl_54, zl_55, zl_56, zl_57, zl_58, zl_59, zl_60, zl_61, zl_62, zl_63, zl_64, zl_65, zl_82, zl_99, zl_100, zl_160, zl_299, zl_300, zl_301, zl_382, zl_398, zl_399, zl_464, zl_680, zl_862, zl_999, zl_1000, zl_9999, zl_10000, zl_1000000, zl_m1, zl_m2, zl_m3, zl_m8, zl_97, zl_122, zl_90, zl_100000, zl_75] at hi_td hi_spp hat h0 h1 h2 hm huh3_0 hba4 c8 c9 c10 huh15_0 hba16 ⊢); omega) (by (try simp only [zlt, zle, zeq, zl_0, zl_1, zl_2, zl_3, zl_4, zl_5, zl_6, zl_7, zl_8, zl_9, zl_10, zl_11, zl_12, zl_13, zl_14, zl_15, zl_16, zl_17, zl_18, zl_19, zl_20, zl_21, zl_22, zl_23, zl_24, zl_25, zl_26, zl_27, zl_28, zl_29, zl_30, zl_31, zl_32, zl_33, zl_34, zl_35, zl_36, zl_37, zl_38, zl_39, zl_40, zl_41, zl_42, zl_43, zl_44, zl_45, zl_46, zl_47, zl_48, zl_49, zl_50, zl_51, zl_52, zl_53, zl_54, zl_55, zl_56, zl_57, zl_58, zl_59, zl_60, zl_61, zl_62, zl_63, zl_64, zl_65, zl_82, zl_99, zl_100, zl_160, zl_299, zl_300, zl_301, zl_382, zl_398, zl_399, zl_464, zl_680, zl_862, zl_999, zl_1000, zl_9999, zl_10000, zl_1000000, zl_m1, zl_m2, zl_m3, zl_m8, zl_97, zl_122, zl_90, zl_100000, zl_75] at hi_td hi_spp hat h0 h1 h2 hm huh3_0 hba4 c8 c9 c10 huh15_0 hba16 ⊢); omega)
        refine z_put Z i_X12 tyX12 tyX12_ok nmX12 hP hD hS 0 rfl rfl 7 (by decide) bw_1026 rfl rfl rfl (Nat.le_of_ble_eq_true rfl) dX12_nextToken_138 (fun H locs hP hD hS => ?_)
        have hP : va_P D vwCl ([(q, .inr (12, [.ref aA, .ref aI, .ref xT, .ref tP_, .int td, .int fu, .int fp, .int z19, .int vplc, .int vtok, .int z18, .long vwrd, .int tx0, .int cls, .int wri, .int cam, .ref pI, .int pid, .int ope, .int isw, .int so0, .int onc, .ref nm, .ref vL, .ref tR, .int spp, .int eat, .int ste, .ref rW, .ref sP, .ref oT, .ref bS, .ref aS, .ref aO, .ref cS, .ref wY])), (tP_, .inl (cI, 300, .inl ftp))]) H := hP
        have hD : va_D A ([(q, .inr (12, [.ref aA, .ref aI, .ref xT, .ref tP_, .int td, .int fu, .int fp, .int z19, .int vplc, .int vtok, .int z18, .long vwrd, .int tx0, .int cls, .int wri, .int cam, .ref pI, .int pid, .int ope, .int isw, .int so0, .int onc, .ref nm, .ref vL, .ref tR, .int spp, .int eat, .int ste, .ref rW, .ref sP, .ref oT, .ref bS, .ref aS, .ref aO, .ref cS, .ref wY])), (tP_, .inl (cI, 300, .inl ftp))]) := hD
        refine lv_goto (tgt := 85) hx hb dX12_nextToken_141 (by decide) ?_
        exact ih z19 vplc vtok z18 vwrd (by (try simp only [zlt, zle, zeq, zl_0, zl_1, zl_2, zl_3, zl_4, zl_5, zl_6, zl_7, zl_8, zl_9, zl_10, zl_11, zl_12, zl_13, zl_14, zl_15, zl_16, zl_17, zl_18, zl_19, zl_20, zl_21, zl_22, zl_23, zl_24, zl_25, zl_26, zl_27, zl_28, zl_29, zl_30, zl_31, zl_32, zl_33, zl_34, zl_35, zl_36, zl_37, zl_38, zl_39, zl_40, zl_41, zl_42, zl_43, zl_44, zl_45, zl_46, zl_47, zl_48, zl_49, zl_50, zl_51, zl_52, zl_53, zl_54, zl_55, zl_56, zl_57, zl_58, zl_59, zl_60, zl_61, zl_62, zl_63, zl_64, zl_65, zl_82, zl_99, zl_100, zl_160, zl_299, zl_300, zl_301, zl_382, zl_398, zl_399, zl_464, zl_680, zl_862, zl_999, zl_1000, zl_9999, zl_10000, zl_1000000, zl_m1, zl_m2, zl_m3, zl_m8, zl_97, zl_122, zl_90, zl_100000, zl_75] at hi_td hi_spp hat h0 h1 h2 hm huh3_0 hba4 c8 c9 c10 huh15_0 hba16 hz19 ⊢); omega) (by (try simp only [zlt, zle, zeq, zl_0, zl_1, zl_2, zl_3, zl_4, zl_5, zl_6, zl_7, zl_8, zl_9, zl_10, zl_11, zl_12, zl_13, zl_14, zl_15, zl_16, zl_17, zl_18, zl_19, zl_20, zl_21, zl_22, zl_23, zl_24, zl_25, zl_26, zl_27, zl_28, zl_29, zl_30, zl_31, zl_32, zl_33, zl_34, zl_35, zl_36, zl_37, zl_38, zl_39, zl_40, zl_41, zl_42, zl_43, zl_44, zl_45, zl_46, zl_47, zl_48, zl_49, zl_50, zl_51, zl_52, zl_53, zl_54, zl_55, zl_56, zl_57, zl_58, zl_59, zl_60, zl_61, zl_62, zl_63, zl_64, zl_65, zl_82, zl_99, zl_100, zl_160, zl_299, zl_300, zl_301, zl_382, zl_398, zl_399, zl_464, zl_680, zl_862, zl_999, zl_1000, zl_9999, zl_10000, zl_1000000, zl_m1, zl_m2, zl_m3, zl_m8, zl_97, zl_122, zl_90, zl_100000, zl_75] at hi_td hi_spp hat h0 h1 h2 hm huh3_0 hba4 c8 c9 c10 huh15_0 hba16 hz19 ⊢); omega) (by (try simp only [zlt, zle, zeq, zl_0, zl_1, zl_2, zl_3, zl_4, zl_5, zl_6, zl_7, zl_8, zl_9, zl_10, zl_11, zl_12, zl_13, zl_14, zl_15, zl_16, zl_17, zl_18, zl_19, zl_20, zl_21, zl_22, zl_23, zl_24, zl_25, zl_26, zl_27, zl_28, zl_29, zl_30, zl_31, zl_32, zl_33, zl_34, zl_35, zl_36, zl_37, zl_38, zl_39, zl_40, zl_41, zl_42, zl_43, zl_44, zl_45, zl_46, zl_47, zl_48, zl_49, zl_50, zl_51, zl_52, zl_53, zl_54, zl_55, zl_56, zl_57, zl_58, zl_59, zl_60, zl_61, zl_62, zl_63, zl_64, zl_65, zl_82, zl_99, zl_100, zl_160, zl_299, zl_300, zl_301, zl_382, zl_398, zl_399, zl_464, zl_680, zl_862, zl_999, zl_1000, zl_9999, zl_10000, zl_1000000, zl_m1, zl_m2, zl_m3, zl_m8, zl_97, zl_122, zl_90, zl_100000, zl_75] at hi_td hi_spp hat h0 h1 h2 hm huh3_0 hba4 c8 c9 c10 huh15_0 hba16 hz19 ⊢); omega) (by (try simp only [zlt, zle, zeq, zl_0, zl_1, zl_2, zl_3, zl_4, zl_5, zl_6, zl_7, zl_8, zl_9, zl_10, zl_11, zl_12, zl_13, zl_14, zl_15, zl_16, zl_17, zl_18, zl_19, zl_20, zl_21, zl_22, zl_23, zl_24, zl_25, zl_26, zl_27, zl_28, zl_29, zl_30, zl_31, zl_32, zl_33, zl_34, zl_35, zl_36, zl_37, zl_38, zl_39, zl_40, zl_41, zl_42, zl_43, zl_44, zl_45, zl_46, zl_47, zl_48, zl_49, zl_50, zl_51, zl_52, zl_53, zl_54, zl_55, zl_56, zl_57, zl_58, zl_59, zl_60, zl_61, zl_62, zl_63, zl_64, zl_65, zl_82, zl_99, zl_100, zl_160, zl_299, zl_300, zl_301, zl_382, zl_398, zl_399, zl_464, zl_680, zl_862, zl_999, zl_1000, zl_9999, zl_10000, zl_1000000, zl_m1, zl_m2, zl_m3, zl_m8, zl_97, zl_122, zl_90, zl_100000, zl_75] at hi_td hi_spp hat h0 h1 h2 hm huh3_0 hba4 c8 c9 c10 huh15_0 hba16 hz19 ⊢); omega) _ _ _ hP hD hS (lv_sub hl [0] rfl)
    · obtain rfl : r6 = 0 := by rw [hrh7, if_neg c8]
      refine lv_if_eq (tgt := 408) hx hb dX12_nextToken_96 (by decide) (fun c20 => ?_) (fun h => absurd (by decide) h)
      exact z_vret Z hP hD hS (⟨vat_, vplc, vtok, vnum, vwrd, rfl, (by (try simp only [zlt, zle, zeq, zl_0, zl_1, zl_2, zl_3, zl_4, zl_5, zl_6, zl_7, zl_8, zl_9, zl_10, zl_11, zl_12, zl_13, zl_14, zl_15, zl_16, zl_17, zl_18, zl_19, zl_20, zl_21, zl_22, zl_23, zl_24, zl_25, zl_26, zl_27, zl_28, zl_29, zl_30, zl_31, zl_32, zl_33, zl_34, zl_35, zl_36, zl_37, zl_38, zl_39, zl_40, zl_41, zl_42, zl_43, zl_44, zl_45, zl_46, zl_47, zl_48, zl_49, zl_50, zl_51, zl_52, zl_53, zl_54, zl_55, zl_56, zl_57, zl_58, zl_59, zl_60, zl_61, zl_62, zl_63, zl_64, zl_65, zl_82, zl_99, zl_100, zl_160, zl_299, zl_300, zl_301, zl_382, zl_398, zl_399, zl_464, zl_680, zl_862, zl_999, zl_1000, zl_9999, zl_10000, zl_1000000, zl_m1, zl_m2, zl_m3, zl_m8, zl_97, zl_122, zl_90, zl_100000, zl_75, and_true, true_and, and_false, false_and, or_false, false_or, or_true, true_or, not_true_eq_false, not_false_eq_true] at hi_td hi_spp hat h0 h1 h2 hm huh3_0 hba4 c8 c20 ⊢) <;> omega)⟩) dX12_nextToken_408 (Nat.le_of_ble_eq_true rfl) (Nat.le_of_ble_eq_true rfl)
set_option maxHeartbeats 4000000 in
set_option maxRecDepth 100000 in
theorem lp_nt0 {p : Program} (l : Launch) {e : Env} {s : State} {m : MethodId} {below : List Frame} {meth : Method} {c : Code} {A : Nat → Prop} (D : va_G) (cI cM cT cJ cZ : ClassId) (q : Nat) (aA : Nat) (aI : Nat) (xT : Nat) (tP_ : Nat) (td : Int32) (fu : Int32) (fp : Int32) (at_ : Int32) (plc : Int32) (tok : Int32) (num : Int32) (wrd : Int64) (tx0 : Int32) (cls : Int32) (wri : Int32) (cam : Int32) (pI : Nat) (pid : Int32) (ope : Int32) (isw : Int32) (so0 : Int32) (onc : Int32) (nm : Nat) (vL : Nat) (tR : Nat) (spp : Int32) (eat : Int32) (ste : Int32) (rW : Nat) (sP : Nat) (oT : Nat) (bS : Nat) (aS : Nat) (aO : Nat) (cS : Nat) (wY : Nat) (ftp : Nat → Int32) (Z : Zx p s m ([.ref q] : List Value).toArray meth c cX12_nextToken 3 none yX12_nextToken.cls A (ty3 cI cM cT cJ cZ) D) (hi_td : 0 ≤ td.toInt ∧ td.toInt ≤ 300) (hi_spp : 0 ≤ spp.toInt ∧ spp.toInt ≤ 299) (hat : 0 ≤ at_.toInt ∧ at_.toInt ≤ td.toInt) : ∀ (n0 : Nat) (vat_ : Int32) (vplc : Int32) (vtok : Int32) (vnum : Int32) (vwrd : Int64) (h0 : at_.toInt ≤ vat_.toInt ∧ vat_.toInt ≤ td.toInt), (td.toInt - vat_.toInt).toNat < n0 → ∀ (H : Heap) (locs : List Loc) (ls : Array Slot), va_P D vwCl ([(q, .inr (12, [.ref aA, .ref aI, .ref xT, .ref tP_, .int td, .int fu, .int fp, .int vat_, .int vplc, .int vtok, .int vnum, .long vwrd, .int tx0, .int cls, .int wri, .int cam, .ref pI, .int pid, .int ope, .int isw, .int so0, .int onc, .ref nm, .ref vL, .ref tR, .int spp, .int eat, .int ste, .ref rW, .ref sP, .ref oT, .ref bS, .ref aS, .ref aO, .ref cS, .ref wY])), (tP_, .inl (cI, 300, .inl ftp))]) H → va_D A ([(q, .inr (12, [.ref aA, .ref aI, .ref xT, .ref tP_, .int td, .int fu, .int fp, .int vat_, .int vplc, .int vtok, .int vnum, .long vwrd, .int tx0, .int cls, .int wri, .int cam, .ref pI, .int pid, .int ope, .int isw, .int so0, .int onc, .ref nm, .ref vL, .ref tR, .int spp, .int eat, .int ste, .ref rW, .ref sP, .ref oT, .ref bS, .ref aS, .ref aO, .ref cS, .ref wY])), (tP_, .inl (cI, 300, .inl ftp))]) → va_S A s.heap H locs → lv_has ls 3 [(0, .ref q)] → W p l e (rmv 2 0 0) s m ([.ref q] : List Value).toArray below meth c H locs 0 0 (MQ below (va_Qv (fun u => ∃ (at__n : Int32) (plc_n : Int32) (tok_n : Int32) (num_n : Int32) (wrd_n : Int64), u = [(q, .inr (12, [.ref aA, .ref aI, .ref xT, .ref tP_, .int td, .int fu, .int fp, .int at__n, .int plc_n, .int tok_n, .int num_n, .long wrd_n, .int tx0, .int cls, .int wri, .int cam, .ref pI, .int pid, .int ope, .int isw, .int so0, .int onc, .ref nm, .ref vL, .ref tR, .int spp, .int eat, .int ste, .ref rW, .ref sP, .ref oT, .ref bS, .ref aS, .ref aO, .ref cS, .ref wY])), (tP_, .inl (cI, 300, .inl ftp))] ∧ ((0 ≤ at_.toInt ∧ at_.toInt ≤ plc_n.toInt) ∧ (plc_n.toInt ≤ at__n.toInt ∧ at__n.toInt ≤ td.toInt) ∧ (tok_n.toInt = 0 ∨ plc_n.toInt < at__n.toInt))) (cB D (ty3 cI cM cT cJ cZ) A) A) ([.ref q] : List Value).toArray s 0 0 A) (F0 m 0 ls []) := by
  have hx := Z.1
  have hb := Z.2.1
  intro n0
  induction n0 with
  | zero => intro vat_ vplc vtok vnum vwrd h0 hm; exact absurd hm (Nat.not_lt_zero _)
  | succ n0 ih =>
    intro vat_ vplc vtok vnum vwrd h0 hm H locs ls hP hD hS hl
    refine lv_aload_n hx hb dX12_nextToken_0 rfl (lv_at hl 0 rfl) ?_
    refine lv_aload_n hx hb dX12_nextToken_1 rfl (lv_at hl 0 rfl) ?_
    refine z_get Z i_X12 hP 0 rfl rfl 7 (by decide) bw_1026 rfl dX12_nextToken_2 ?_
    have hPc := hP.sub2 (wc := [(q, .inr (12, [.ref aA, .ref aI, .ref xT, .ref tP_, .int td, .int fu, .int fp, .int vat_, .int vplc, .int vtok, .int vnum, .long vwrd, .int tx0, .int cls, .int wri, .int cam, .ref pI, .int pid, .int ope, .int isw, .int so0, .int onc, .ref nm, .ref vL, .ref tR, .int spp, .int eat, .int ste, .ref rW, .ref sP, .ref oT, .ref bS, .ref aS, .ref aO, .ref cS, .ref wY])), (tP_, .inl (cI, 300, .inl ftp))]) [0, 1] rfl
    have hDc := hD.sub (ws' := [(q, .inr (12, [.ref aA, .ref aI, .ref xT, .ref tP_, .int td, .int fu, .int fp, .int vat_, .int vplc, .int vtok, .int vnum, .long vwrd, .int tx0, .int cls, .int wri, .int cam, .ref pI, .int pid, .int ope, .int isw, .int so0, .int onc, .ref nm, .ref vL, .ref tR, .int spp, .int eat, .int ste, .ref rW, .ref sP, .ref oT, .ref bS, .ref aS, .ref aO, .ref cS, .ref wY])), (tP_, .inl (cI, 300, .inl ftp))]) [0, 1] (by decide) rfl
    refine raw_Vi (ci := 12) (q0 := 0) (nA := 1) (As := [.int vat_]) (rest := []) Z hl.1 (c_X12_byteAt l D cI cM cT cJ cZ q vat_ aA aI xT tP_ td fu fp vat_ vplc vtok vnum vwrd tx0 cls wri cam pI pid ope isw so0 onc nm vL tR spp eat ste rW sP oT bS aS aO cS wY ftp (by (try simp only [zlt, zle, zeq, zl_0, zl_1, zl_2, zl_3, zl_4, zl_5, zl_6, zl_7, zl_8, zl_9, zl_10, zl_11, zl_12, zl_13, zl_14, zl_15, zl_16, zl_17, zl_18, zl_19, zl_20, zl_21, zl_22, zl_23, zl_24, zl_25, zl_26, zl_27, zl_28, zl_29, zl_30, zl_31, zl_32, zl_33, zl_34, zl_35, zl_36, zl_37, zl_38, zl_39, zl_40, zl_41, zl_42, zl_43, zl_44, zl_45, zl_46, zl_47, zl_48, zl_49, zl_50, zl_51, zl_52, zl_53, zl_54, zl_55, zl_56, zl_57, zl_58, zl_59, zl_60, zl_61, zl_62, zl_63, zl_64, zl_65, zl_82, zl_99, zl_100, zl_160, zl_299, zl_300, zl_301, zl_382, zl_398, zl_399, zl_464, zl_680, zl_862, zl_999, zl_1000, zl_9999, zl_10000, zl_1000000, zl_m1, zl_m2, zl_m3, zl_m8, zl_97, zl_122, zl_90, zl_100000, zl_75] at hi_td hi_spp hat h0 hm ⊢); omega) (by (try simp only [zlt, zle, zeq, zl_0, zl_1, zl_2, zl_3, zl_4, zl_5, zl_6, zl_7, zl_8, zl_9, zl_10, zl_11, zl_12, zl_13, zl_14, zl_15, zl_16, zl_17, zl_18, zl_19, zl_20, zl_21, zl_22, zl_23, zl_24, zl_25, zl_26, zl_27, zl_28, zl_29, zl_30, zl_31, zl_32, zl_33, zl_34, zl_35, zl_36, zl_37, zl_38, zl_39, zl_40, zl_41, zl_42, zl_43, zl_44, zl_45, zl_46, zl_47, zl_48, zl_49, zl_50, zl_51, zl_52, zl_53, zl_54, zl_55, zl_56, zl_57, zl_58, zl_59, zl_60, zl_61, zl_62, zl_63, zl_64, zl_65, zl_82, zl_99, zl_100, zl_160, zl_299, zl_300, zl_301, zl_382, zl_398, zl_399, zl_464, zl_680, zl_862, zl_999, zl_1000, zl_9999, zl_10000, zl_1000000, zl_m1, zl_m2, zl_m3, zl_m8, zl_97, zl_122, zl_90, zl_100000, zl_75] at hi_td hi_spp hat h0 hm ⊢); omega) (by (try simp only [zlt, zle, zeq, zl_0, zl_1, zl_2, zl_3, zl_4, zl_5, zl_6, zl_7, zl_8, zl_9, zl_10, zl_11, zl_12, zl_13, zl_14, zl_15, zl_16, zl_17, zl_18, zl_19, zl_20, zl_21, zl_22, zl_23, zl_24, zl_25, zl_26, zl_27, zl_28, zl_29, zl_30, zl_31, zl_32, zl_33, zl_34, zl_35, zl_36, zl_37, zl_38, zl_39, zl_40, zl_41, zl_42, zl_43, zl_44, zl_45, zl_46, zl_47, zl_48, zl_49, zl_50, zl_51, zl_52, zl_53, zl_54, zl_55, zl_56, zl_57, zl_58, zl_59, zl_60, zl_61, zl_62, zl_63, zl_64, zl_65, zl_82, zl_99, zl_100, zl_160, zl_299, zl_300, zl_301, zl_382, zl_398, zl_399, zl_464, zl_680, zl_862, zl_999, zl_1000, zl_9999, zl_10000, zl_1000000, zl_m1, zl_m2, zl_m3, zl_m8, zl_97, zl_122, zl_90, zl_100000, zl_75] at hi_td hi_spp hat h0 hm ⊢); omega)) (bw_V bw_1178 bw_1180 bw_39 bw_92 bw_1181) ⟨by decide +kernel, by decide +kernel, by decide +kernel⟩ rfl ⟨Nat.le_of_ble_eq_true rfl, Nat.le_of_ble_eq_true rfl⟩ rfl rfl rfl hPc hDc hS rfl (Nat.le_of_ble_eq_true rfl) dX12_nextToken_5 ⟨Nat.le_of_ble_eq_true rfl, Nat.le_of_ble_eq_true rfl⟩ (fun r2 u1 H1 locs1 h3 hku1 hP1 hD1 hS1 => ?_)
    obtain ⟨rfl, huh3_0⟩ := h3
    obtain ⟨hP, hD⟩ := z_join (wr := []) Z hS hP hD [0, 1] [] rfl (by decide) rfl (by decide) (by decide) hku1 hP1 hD1
    have hS := hS1
    clear hS1
    generalize H1 = H at hP hS ⊢
    generalize locs1 = locs at hS ⊢
    have hP : va_P D vwCl ([(q, .inr (12, [.ref aA, .ref aI, .ref xT, .ref tP_, .int td, .int fu, .int fp, .int vat_, .int vplc, .int vtok, .int vnum, .long vwrd, .int tx0, .int cls, .int wri, .int cam, .ref pI, .int pid, .int ope, .int isw, .int so0, .int onc, .ref nm, .ref vL, .ref tR, .int spp, .int eat, .int ste, .ref rW, .ref sP, .ref oT, .ref bS, .ref aS, .ref aO, .ref cS, .ref wY])), (tP_, .inl (cI, 300, .inl ftp))]) H := hP
    have hD : va_D A ([(q, .inr (12, [.ref aA, .ref aI, .ref xT, .ref tP_, .int td, .int fu, .int fp, .int vat_, .int vplc, .int vtok, .int vnum, .long vwrd, .int tx0, .int cls, .int wri, .int cam, .ref pI, .int pid, .int ope, .int isw, .int so0, .int onc, .ref nm, .ref vL, .ref tR, .int spp, .int eat, .int ste, .ref rW, .ref sP, .ref oT, .ref bS, .ref aS, .ref aO, .ref cS, .ref wY])), (tP_, .inl (cI, 300, .inl ftp))]) := hD
    have hba4 : (vat_ : Int32).toInt < td.toInt ∨ BA td.toInt ftp (vat_ : Int32).toInt = -1 := BA_lt
    refine lv_bipush (v := 32) hx hb dX12_nextToken_8 (by decide) ?_
    refine lv_icmp_eq (tgt := 26) hx hb dX12_nextToken_10 (by decide) (fun c5 => ?_) (fun c5 => ?_)
    · refine lv_aload_n hx hb dX12_nextToken_26 rfl (lv_at hl 0 rfl) ?_
      refine lv_dup hx hb dX12_nextToken_27 rfl ?_
      refine z_get Z i_X12 hP 0 rfl rfl 7 (by decide) bw_1026 rfl dX12_nextToken_28 ?_
      refine lv_iconst (v := 1) hx hb dX12_nextToken_31 (by decide) ?_
      refine lv_iadd hx hb dX12_nextToken_32 ?_
      refine lv_topi (fun z6 ez6 => ?_)
      have hz6 : z6.toInt = vat_.toInt + 1 := by rw [ez6]; exact zaddg (by (try simp only [zlt, zle, zeq, zl_0, zl_1, zl_2, zl_3, zl_4, zl_5, zl_6, zl_7, zl_8, zl_9, zl_10, zl_11, zl_12, zl_13, zl_14, zl_15, zl_16, zl_17, zl_18, zl_19, zl_20, zl_21, zl_22, zl_23, zl_24, zl_25, zl_26, zl_27, zl_28, zl_29, zl_30, zl_31, zl_32, zl_33, zl_34, zl_35, zl_36, zl_37, zl_38, zl_39, zl_40, zl_41, zl_42, zl_43, zl_44, zl_45, zl_46, zl_47, zl_48, zl_49, zl_50, zl_51, zl_52, zl_53, zl_54, zl_55, zl_56, zl_57, zl_58, zl_59, zl_60, zl_61, zl_62, zl_63, zl_64, zl_65, zl_82, zl_99, zl_100, zl_160, zl_299, zl_300, zl_301, zl_382, zl_398, zl_399, zl_464, zl_680, zl_862, zl_999, zl_1000, zl_9999, zl_10000, zl_1000000, zl_m1, zl_m2, zl_m3, zl_m8, zl_97, zl_122, zl_90, zl_100000, zl_75] at hi_td hi_spp hat h0 hm huh3_0 hba4 c5 ⊢); omega) (by (try simp only [zlt, zle, zeq, zl_0, zl_1, zl_2, zl_3, zl_4, zl_5, zl_6, zl_7, zl_8, zl_9, zl_10, zl_11, zl_12, zl_13, zl_14, zl_15, zl_16, zl_17, zl_18, zl_19, zl_20, zl_21, zl_22, zl_23, zl_24, zl_25, zl_26, zl_27, zl_28, zl_29, zl_30, zl_31, zl_32, zl_33, zl_34, zl_35, zl_36, zl_37, zl_38, zl_39, zl_40, zl_41, zl_42, zl_43, zl_44, zl_45, zl_46, zl_47, zl_48, zl_49, zl_50, zl_51, zl_52, zl_53, zl_54, zl_55, zl_56, zl_57, zl_58, zl_59, zl_60, zl_61, zl_62, zl_63, zl_64, zl_65, zl_82, zl_99, zl_100, zl_160, zl_299, zl_300, zl_301, zl_382, zl_398, zl_399, zl_464, zl_680, zl_862, zl_999, zl_1000, zl_9999, zl_10000, zl_1000000, zl_m1, zl_m2, zl_m3, zl_m8, zl_97, zl_122, zl_90, zl_100000, zl_75] at hi_td hi_spp hat h0 hm huh3_0 hba4 c5 ⊢); omega)
      refine z_put Z i_X12 tyX12 tyX12_ok nmX12 hP hD hS 0 rfl rfl 7 (by decide) bw_1026 rfl rfl rfl (Nat.le_of_ble_eq_true rfl) dX12_nextToken_33 (fun H locs hP hD hS => ?_)
      have hP : va_P D vwCl ([(q, .inr (12, [.ref aA, .ref aI, .ref xT, .ref tP_, .int td, .int fu, .int fp, .int z6, .int vplc, .int vtok, .int vnum, .long vwrd, .int tx0, .int cls, .int wri, .int cam, .ref pI, .int pid, .int ope, .int isw, .int so0, .int onc, .ref nm, .ref vL, .ref tR, .int spp, .int eat, .int ste, .ref rW, .ref sP, .ref oT, .ref bS, .ref aS, .ref aO, .ref cS, .ref wY])), (tP_, .inl (cI, 300, .inl ftp))]) H := hP
      have hD : va_D A ([(q, .inr (12, [.ref aA, .ref aI, .ref xT, .ref tP_, .int td, .int fu, .int fp, .int z6, .int vplc, .int vtok, .int vnum, .long vwrd, .int tx0, .int cls, .int wri, .int cam, .ref pI, .int pid, .int ope, .int isw, .int so0, .int onc, .ref nm, .ref vL, .ref tR, .int spp, .int eat, .int ste, .ref rW, .ref sP, .ref oT, .ref bS, .ref aS, .ref aO, .ref cS, .ref wY])), (tP_, .inl (cI, 300, .inl ftp))]) := hD
      refine lv_goto (tgt := 0) hx hb dX12_nextToken_36 (by decide) ?_
      exact ih z6 vplc vtok vnum vwrd (by (try simp only [zlt, zle, zeq, zl_0, zl_1, zl_2, zl_3, zl_4, zl_5, zl_6, zl_7, zl_8, zl_9, zl_10, zl_11, zl_12, zl_13, zl_14, zl_15, zl_16, zl_17, zl_18, zl_19, zl_20, zl_21, zl_22, zl_23, zl_24, zl_25, zl_26, zl_27, zl_28, zl_29, zl_30, zl_31, zl_32, zl_33, zl_34, zl_35, zl_36, zl_37, zl_38, zl_39, zl_40, zl_41, zl_42, zl_43, zl_44, zl_45, zl_46, zl_47, zl_48, zl_49, zl_50, zl_51, zl_52, zl_53, zl_54, zl_55, zl_56, zl_57, zl_58, zl_59, zl_60, zl_61, zl_62, zl_63, zl_64, zl_65, zl_82, zl_99, zl_100, zl_160, zl_299, zl_300, zl_301, zl_382, zl_398, zl_399, zl_464, zl_680, zl_862, zl_999, zl_1000, zl_9999, zl_10000, zl_1000000, zl_m1, zl_m2, zl_m3, zl_m8, zl_97, zl_122, zl_90, zl_100000, zl_75] at hi_td hi_spp hat h0 hm huh3_0 hba4 c5 hz6 ⊢); omega) (by (try simp only [zlt, zle, zeq, zl_0, zl_1, zl_2, zl_3, zl_4, zl_5, zl_6, zl_7, zl_8, zl_9, zl_10, zl_11, zl_12, zl_13, zl_14, zl_15, zl_16, zl_17, zl_18, zl_19, zl_20, zl_21, zl_22, zl_23, zl_24, zl_25, zl_26, zl_27, zl_28, zl_29, zl_30, zl_31, zl_32, zl_33, zl_34, zl_35, zl_36, zl_37, zl_38, zl_39, zl_40, zl_41, zl_42, zl_43, zl_44, zl_45, zl_46, zl_47, zl_48, zl_49, zl_50, zl_51, zl_52, zl_53, zl_54, zl_55, zl_56, zl_57, zl_58, zl_59, zl_60, zl_61, zl_62, zl_63, zl_64, zl_65, zl_82, zl_99, zl_100, zl_160, zl_299, zl_300, zl_301, zl_382, zl_398, zl_399, zl_464, zl_680, zl_862, zl_999, zl_1000, zl_9999, zl_10000, zl_1000000, zl_m1, zl_m2, zl_m3, zl_m8, zl_97, zl_122, zl_90, zl_100000, zl_75] at hi_td hi_spp hat h0 hm huh3_0 hba4 c5 hz6 ⊢); omega) _ _ _ hP hD hS (lv_sub hl [0] rfl)
    · refine lv_aload_n hx hb dX12_nextToken_13 rfl (lv_at hl 0 rfl) ?_
      refine lv_aload_n hx hb dX12_nextToken_14 rfl (lv_at hl 0 rfl) ?_
      refine z_get Z i_X12 hP 0 rfl rfl 7 (by decide) bw_1026 rfl dX12_nextToken_15 ?_
      have hPc := hP.sub2 (wc := [(q, .inr (12, [.ref aA, .ref aI, .ref xT, .ref tP_, .int td, .int fu, .int fp, .int vat_, .int vplc, .int vtok, .int vnum, .long vwrd, .int tx0, .int cls, .int wri, .int cam, .ref pI, .int pid, .int ope, .int isw, .int so0, .int onc, .ref nm, .ref vL, .ref tR, .int spp, .int eat, .int ste, .ref rW, .ref sP, .ref oT, .ref bS, .ref aS, .ref aO, .ref cS, .ref wY])), (tP_, .inl (cI, 300, .inl ftp))]) [0, 1] rfl
      have hDc := hD.sub (ws' := [(q, .inr (12, [.ref aA, .ref aI, .ref xT, .ref tP_, .int td, .int fu, .int fp, .int vat_, .int vplc, .int vtok, .int vnum, .long vwrd, .int tx0, .int cls, .int wri, .int cam, .ref pI, .int pid, .int ope, .int isw, .int so0, .int onc, .ref nm, .ref vL, .ref tR, .int spp, .int eat, .int ste, .ref rW, .ref sP, .ref oT, .ref bS, .ref aS, .ref aO, .ref cS, .ref wY])), (tP_, .inl (cI, 300, .inl ftp))]) [0, 1] (by decide) rfl
      refine raw_Vi (ci := 12) (q0 := 0) (nA := 1) (As := [.int vat_]) (rest := []) Z hl.1 (c_X12_byteAt l D cI cM cT cJ cZ q vat_ aA aI xT tP_ td fu fp vat_ vplc vtok vnum vwrd tx0 cls wri cam pI pid ope isw so0 onc nm vL tR spp eat ste rW sP oT bS aS aO cS wY ftp (by (try simp only [zlt, zle, zeq, zl_0, zl_1, zl_2, zl_3, zl_4, zl_5, zl_6, zl_7, zl_8, zl_9, zl_10, zl_11, zl_12, zl_13, zl_14, zl_15, zl_16, zl_17, zl_18, zl_19, zl_20, zl_21, zl_22, zl_23, zl_24, zl_25, zl_26, zl_27, zl_28, zl_29, zl_30, zl_31, zl_32, zl_33, zl_34, zl_35, zl_36, zl_37, zl_38, zl_39, zl_40, zl_41, zl_42, zl_43, zl_44, zl_45, zl_46, zl_47, zl_48, zl_49, zl_50, zl_51, zl_52, zl_53, zl_54, zl_55, zl_56, zl_57, zl_58, zl_59, zl_60, zl_61, zl_62, zl_63, zl_64, zl_65, zl_82, zl_99, zl_100, zl_160, zl_299, zl_300, zl_301, zl_382, zl_398, zl_399, zl_464, zl_680, zl_862, zl_999, zl_1000, zl_9999, zl_10000, zl_1000000, zl_m1, zl_m2, zl_m3, zl_m8, zl_97, zl_122, zl_90, zl_100000, zl_75] at hi_td hi_spp hat h0 hm huh3_0 hba4 c5 ⊢); omega) (by (try simp only [zlt, zle, zeq, zl_0, zl_1, zl_2, zl_3, zl_4, zl_5, zl_6, zl_7, zl_8, zl_9, zl_10, zl_11, zl_12, zl_13, zl_14, zl_15, zl_16, zl_17, zl_18, zl_19, zl_20, zl_21, zl_22, zl_23, zl_24, zl_25, zl_26, zl_27, zl_28, zl_29, zl_30, zl_31, zl_32, zl_33, zl_34, zl_35, zl_36, zl_37, zl_38, zl_39, zl_40, zl_41, zl_42, zl_43, zl_44, zl_45, zl_46, zl_47, zl_48, zl_49, zl_50, zl_51, zl_52, zl_53, zl_54, zl_55, zl_56, zl_57, zl_58, zl_59, zl_60, zl_61, zl_62, zl_63, zl_64, zl_65, zl_82, zl_99, zl_100, zl_160, zl_299, zl_300, zl_301, zl_382, zl_398, zl_399, zl_464, zl_680, zl_862, zl_999, zl_1000, zl_9999, zl_10000, zl_1000000, zl_m1, zl_m2, zl_m3, zl_m8, zl_97, zl_122, zl_90, zl_100000, zl_75] at hi_td hi_spp hat h0 hm huh3_0 hba4 c5 ⊢); omega) (by (try simp only [zlt, zle, zeq, zl_0, zl_1, zl_2, zl_3, zl_4, zl_5, zl_6, zl_7, zl_8, zl_9, zl_10, zl_11, zl_12, zl_13, zl_14, zl_15, zl_16, zl_17, zl_18, zl_19, zl_20, zl_21, zl_22, zl_23, zl_24, zl_25, zl_26, zl_27, zl_28, zl_29, zl_30, zl_31, zl_32, zl_33, zl_34, zl_35, zl_36, zl_37, zl_38, zl_39, zl_40, zl_41, zl_42, zl_43, zl_44, zl_45, zl_46, zl_47, zl_48, zl_49, zl_50, zl_51, zl_52, zl_53, zl_54, zl_55, zl_56, zl_57, zl_58, zl_59, zl_60, zl_61, zl_62, zl_63, zl_64, zl_65, zl_82, zl_99, zl_100, zl_160, zl_299, zl_300, zl_301, zl_382, zl_398, zl_399, zl_464, zl_680, zl_862, zl_999, zl_1000, zl_9999, zl_10000, zl_1000000, zl_m1, zl_m2, zl_m3, zl_m8, zl_97, zl_122, zl_90, zl_100000, zl_75] at hi_td hi_spp hat h0 hm huh3_0 hba4 c5 ⊢); omega)) (bw_V bw_1178 bw_1180 bw_39 bw_92 bw_1181) ⟨by decide +kernel, by decide +kernel, by decide +kernel⟩ rfl ⟨Nat.le_of_ble_eq_true rfl, Nat.le_of_ble_eq_true rfl⟩ rfl rfl rfl hPc hDc hS rfl (Nat.le_of_ble_eq_true rfl) dX12_nextToken_18 ⟨Nat.le_of_ble_eq_true rfl, Nat.le_of_ble_eq_true rfl⟩ (fun r8 u7 H1 locs1 h9 hku7 hP1 hD1 hS1 => ?_)
      obtain ⟨rfl, huh9_0⟩ := h9
      obtain ⟨hP, hD⟩ := z_join (wr := []) Z hS hP hD [0, 1] [] rfl (by decide) rfl (by decide) (by decide) hku7 hP1 hD1
      have hS := hS1
      clear hS1
      generalize H1 = H at hP hS ⊢
      generalize locs1 = locs at hS ⊢
      have hP : va_P D vwCl ([(q, .inr (12, [.ref aA, .ref aI, .ref xT, .ref tP_, .int td, .int fu, .int fp, .int vat_, .int vplc, .int vtok, .int vnum, .long vwrd, .int tx0, .int cls, .int wri, .int cam, .ref pI, .int pid, .int ope, .int isw, .int so0, .int onc, .ref nm, .ref vL, .ref tR, .int spp, .int eat, .int ste, .ref rW, .ref sP, .ref oT, .ref bS, .ref aS, .ref aO, .ref cS, .ref wY])), (tP_, .inl (cI, 300, .inl ftp))]) H := hP
      have hD : va_D A ([(q, .inr (12, [.ref aA, .ref aI, .ref xT, .ref tP_, .int td, .int fu, .int fp, .int vat_, .int vplc, .int vtok, .int vnum, .long vwrd, .int tx0, .int cls, .int wri, .int cam, .ref pI, .int pid, .int ope, .int isw, .int so0, .int onc, .ref nm, .ref vL, .ref tR, .int spp, .int eat, .int ste, .ref rW, .ref sP, .ref oT, .ref bS, .ref aS, .ref aO, .ref cS, .ref wY])), (tP_, .inl (cI, 300, .inl ftp))]) := hD
      have hba10 : (vat_ : Int32).toInt < td.toInt ∨ BA td.toInt ftp (vat_ : Int32).toInt = -1 := BA_lt
      refine lv_bipush (v := 10) hx hb dX12_nextToken_21 (by decide) ?_
      refine lv_icmp_ne (tgt := 39) hx hb dX12_nextToken_23 (by decide) (fun c11 => ?_) (fun c11 => ?_)
      · refine lv_aload_n hx hb dX12_nextToken_39 rfl (lv_at hl 0 rfl) ?_
        refine lv_aload_n hx hb dX12_nextToken_40 rfl (lv_at hl 0 rfl) ?_
        refine z_get Z i_X12 hP 0 rfl rfl 7 (by decide) bw_1026 rfl dX12_nextToken_41 ?_
        refine z_put Z i_X12 tyX12 tyX12_ok nmX12 hP hD hS 0 rfl rfl 8 (by decide) bw_1027 rfl rfl rfl (Nat.le_of_ble_eq_true rfl) dX12_nextToken_44 (fun H locs hP hD hS => ?_)
        have hP : va_P D vwCl ([(q, .inr (12, [.ref aA, .ref aI, .ref xT, .ref tP_, .int td, .int fu, .int fp, .int vat_, .int vat_, .int vtok, .int vnum, .long vwrd, .int tx0, .int cls, .int wri, .int cam, .ref pI, .int pid, .int ope, .int isw, .int so0, .int onc, .ref nm, .ref vL, .ref tR, .int spp, .int eat, .int ste, .ref rW, .ref sP, .ref oT, .ref bS, .ref aS, .ref aO, .ref cS, .ref wY])), (tP_, .inl (cI, 300, .inl ftp))]) H := hP
        have hD : va_D A ([(q, .inr (12, [.ref aA, .ref aI, .ref xT, .ref tP_, .int td, .int fu, .int fp, .int vat_, .int vat_, .int vtok, .int vnum, .long vwrd, .int tx0, .int cls, .int wri, .int cam, .ref pI, .int pid, .int ope, .int isw, .int so0, .int onc, .ref nm, .ref vL, .ref tR, .int spp, .int eat, .int ste, .ref rW, .ref sP, .ref oT, .ref bS, .ref aS, .ref aO, .ref cS, .ref wY])), (tP_, .inl (cI, 300, .inl ftp))]) := hD
        refine lv_aload_n hx hb dX12_nextToken_47 rfl (lv_at hl 0 rfl) ?_
        refine lv_aload_n hx hb dX12_nextToken_48 rfl (lv_at hl 0 rfl) ?_
        refine z_get Z i_X12 hP 0 rfl rfl 7 (by decide) bw_1026 rfl dX12_nextToken_49 ?_
        have hPc := hP.sub2 (wc := [(q, .inr (12, [.ref aA, .ref aI, .ref xT, .ref tP_, .int td, .int fu, .int fp, .int vat_, .int vat_, .int vtok, .int vnum, .long vwrd, .int tx0, .int cls, .int wri, .int cam, .ref pI, .int pid, .int ope, .int isw, .int so0, .int onc, .ref nm, .ref vL, .ref tR, .int spp, .int eat, .int ste, .ref rW, .ref sP, .ref oT, .ref bS, .ref aS, .ref aO, .ref cS, .ref wY])), (tP_, .inl (cI, 300, .inl ftp))]) [0, 1] rfl
        have hDc := hD.sub (ws' := [(q, .inr (12, [.ref aA, .ref aI, .ref xT, .ref tP_, .int td, .int fu, .int fp, .int vat_, .int vat_, .int vtok, .int vnum, .long vwrd, .int tx0, .int cls, .int wri, .int cam, .ref pI, .int pid, .int ope, .int isw, .int so0, .int onc, .ref nm, .ref vL, .ref tR, .int spp, .int eat, .int ste, .ref rW, .ref sP, .ref oT, .ref bS, .ref aS, .ref aO, .ref cS, .ref wY])), (tP_, .inl (cI, 300, .inl ftp))]) [0, 1] (by decide) rfl
        refine raw_Vi (ci := 12) (q0 := 0) (nA := 1) (As := [.int vat_]) (rest := []) Z hl.1 (c_X12_byteAt l D cI cM cT cJ cZ q vat_ aA aI xT tP_ td fu fp vat_ vat_ vtok vnum vwrd tx0 cls wri cam pI pid ope isw so0 onc nm vL tR spp eat ste rW sP oT bS aS aO cS wY ftp (by (try simp only [zlt, zle, zeq, zl_0, zl_1, zl_2, zl_3, zl_4, zl_5, zl_6, zl_7, zl_8, zl_9, zl_10, zl_11, zl_12, zl_13, zl_14, zl_15, zl_16, zl_17, zl_18, zl_19, zl_20, zl_21, zl_22, zl_23, zl_24, zl_25, zl_26, zl_27, zl_28, zl_29, zl_30, zl_31, zl_32, zl_33, zl_34, zl_35, zl_36, zl_37, zl_38, zl_39, zl_40, zl_41, zl_42, zl_43, zl_44, zl_45, zl_46, zl_47, zl_48, zl_49, zl_50, zl_51, zl_52, zl_53, zl_54, zl_55, zl_56, zl_57, zl_58, zl_59, zl_60, zl_61, zl_62, zl_63, zl_64, zl_65, zl_82, zl_99, zl_100, zl_160, zl_299, zl_300, zl_301, zl_382, zl_398, zl_399, zl_464, zl_680, zl_862, zl_999, zl_1000, zl_9999, zl_10000, zl_1000000, zl_m1, zl_m2, zl_m3, zl_m8, zl_97, zl_122, zl_90, zl_100000, zl_75] at hi_td hi_spp hat h0 hm huh3_0 hba4 c5 huh9_0 hba10 c11 ⊢); omega) (by (try simp only [zlt, zle, zeq, zl_0, zl_1, zl_2, zl_3, zl_4, zl_5, zl_6, zl_7, zl_8, zl_9, zl_10, zl_11, zl_12, zl_13, zl_14, zl_15, zl_16, zl_17, zl_18, zl_19, zl_20, zl_21, zl_22, zl_23, zl_24, zl_25, zl_26, zl_27, zl_28, zl_29, zl_30, zl_31, zl_32, zl_33, zl_34, zl_35, zl_36, zl_37, zl_38, zl_39, zl_40, zl_41, zl_42, zl_43, zl_44, zl_45, zl_46, zl_47, zl_48, zl_49, zl_50, zl_51, zl_52, zl_53, zl_54, zl_55, zl_56, zl_57, zl_58, zl_59, zl_60, zl_61, zl_62, zl_63, zl_64, zl_65, zl_82, zl_99, zl_100, zl_160, zl_299, zl_300, zl_301, zl_382, zl_398, zl_399, zl_464, zl_680, zl_862, zl_999, zl_1000, zl_9999, zl_10000, zl_1000000, zl_m1, zl_m2, zl_m3, zl_m8, zl_97, zl_122, zl_90, zl_100000, zl_75] at hi_td hi_spp hat h0 hm huh3_0 hba4 c5 huh9_0 hba10 c11 ⊢); omega) (by (try simp only [zlt, zle, zeq, zl_0, zl_1, zl_2, zl_3, zl_4, zl_5, zl_6, zl_7, zl_8, zl_9, zl_10, zl_11, zl_12, zl_13, zl_14, zl_15, zl_16, zl_17, zl_18, zl_19, zl_20, zl_21, zl_22, zl_23, zl_24, zl_25, zl_26, zl_27, zl_28, zl_29, zl_30, zl_31, zl_32, zl_33, zl_34, zl_35, zl_36, zl_37, zl_38, zl_39, zl_40, zl_41, zl_42, zl_43, zl_44, zl_45, zl_46, zl_47, zl_48, zl_49, zl_50, zl_51, zl_52, zl_53, zl_54, zl_55, zl_56, zl_57, zl_58, zl_59, zl_60, zl_61, zl_62, zl_63, zl_64, zl_65, zl_82, zl_99, zl_100, zl_160, zl_299, zl_300, zl_301, zl_382, zl_398, zl_399, zl_464, zl_680, zl_862, zl_999, zl_1000, zl_9999, zl_10000, zl_1000000, zl_m1, zl_m2, zl_m3, zl_m8, zl_97, zl_122, zl_90, zl_100000, zl_75] at hi_td hi_spp hat h0 hm huh3_0 hba4 c5 huh9_0 hba10 c11 ⊢); omega)) (bw_V bw_1178 bw_1180 bw_39 bw_92 bw_1181) ⟨by decide +kernel, by decide +kernel, by decide +kernel⟩ rfl ⟨Nat.le_of_ble_eq_true rfl, Nat.le_of_ble_eq_true rfl⟩ rfl rfl rfl hPc hDc hS rfl (Nat.le_of_ble_eq_true rfl) dX12_nextToken_52 ⟨Nat.le_of_ble_eq_true rfl, Nat.le_of_ble_eq_true rfl⟩ (fun r13 u12 H1 locs1 h14 hku12 hP1 hD1 hS1 => ?_)
        obtain ⟨rfl, huh14_0⟩ := h14
        obtain ⟨hP, hD⟩ := z_join (wr := []) Z hS hP hD [0, 1] [] rfl (by decide) rfl (by decide) (by decide) hku12 hP1 hD1
        have hS := hS1
        clear hS1
        generalize H1 = H at hP hS ⊢
        generalize locs1 = locs at hS ⊢
        have hP : va_P D vwCl ([(q, .inr (12, [.ref aA, .ref aI, .ref xT, .ref tP_, .int td, .int fu, .int fp, .int vat_, .int vat_, .int vtok, .int vnum, .long vwrd, .int tx0, .int cls, .int wri, .int cam, .ref pI, .int pid, .int ope, .int isw, .int so0, .int onc, .ref nm, .ref vL, .ref tR, .int spp, .int eat, .int ste, .ref rW, .ref sP, .ref oT, .ref bS, .ref aS, .ref aO, .ref cS, .ref wY])), (tP_, .inl (cI, 300, .inl ftp))]) H := hP
        have hD : va_D A ([(q, .inr (12, [.ref aA, .ref aI, .ref xT, .ref tP_, .int td, .int fu, .int fp, .int vat_, .int vat_, .int vtok, .int vnum, .long vwrd, .int tx0, .int cls, .int wri, .int cam, .ref pI, .int pid, .int ope, .int isw, .int so0, .int onc, .ref nm, .ref vL, .ref tR, .int spp, .int eat, .int ste, .ref rW, .ref sP, .ref oT, .ref bS, .ref aS, .ref aO, .ref cS, .ref wY])), (tP_, .inl (cI, 300, .inl ftp))]) := hD
        have hba15 : (vat_ : Int32).toInt < td.toInt ∨ BA td.toInt ftp (vat_ : Int32).toInt = -1 := BA_lt
        refine lv_istore_n (lv' := [(1, .int r13), (0, .ref q)]) hx hb dX12_nextToken_55 rfl hl (by decide) rfl (fun ls hl => ?_)
        refine lv_iload_n hx hb dX12_nextToken_56 rfl (lv_at hl 0 rfl) ?_
        refine lv_if_ge (tgt := 68) hx hb dX12_nextToken_57 (by decide) (fun c16 => ?_) (fun c16 => ?_)
        · refine lv_iload_n hx hb dX12_nextToken_68 rfl (lv_at hl 0 rfl) ?_
          have hPc := hP.sub2 (wc := []) [] rfl
          have hDc := hD.sub (ws' := []) [] (by decide) rfl
          refine raw_Si (nA := 1) (As := [.int r13]) (rest := []) Z hl.1 (c_X12_isDigit l D cI cM cT cJ cZ r13) (bw_S bw_1182 bw_1183 bw_92 bw_1184) ⟨by decide +kernel, by decide +kernel, by decide +kernel⟩ rfl ⟨Nat.le_of_ble_eq_true rfl, Nat.le_of_ble_eq_true rfl⟩ hPc hDc hS rfl (Nat.le_of_ble_eq_true rfl) dX12_nextToken_69 ⟨Nat.le_of_ble_eq_true rfl, Nat.le_of_ble_eq_true rfl⟩ (fun r18 u17 H1 locs1 h19 hku17 hP1 hD1 hS1 => ?_)
          obtain ⟨hrh19, rfl⟩ := h19
          obtain ⟨hP, hD⟩ := z_join (wr := [(q, .inr (12, [.ref aA, .ref aI, .ref xT, .ref tP_, .int td, .int fu, .int fp, .int vat_, .int vat_, .int vtok, .int vnum, .long vwrd, .int tx0, .int cls, .int wri, .int cam, .ref pI, .int pid, .int ope, .int isw, .int so0, .int onc, .ref nm, .ref vL, .ref tR, .int spp, .int eat, .int ste, .ref rW, .ref sP, .ref oT, .ref bS, .ref aS, .ref aO, .ref cS, .ref wY])), (tP_, .inl (cI, 300, .inl ftp))]) Z hS hP hD [] [0, 1] rfl (by decide) rfl (by decide) (by decide) hku17 hP1 hD1
          have hS := hS1
          clear hS1
          generalize H1 = H at hP hS ⊢
          generalize locs1 = locs at hS ⊢
          have hP : va_P D vwCl ([(q, .inr (12, [.ref aA, .ref aI, .ref xT, .ref tP_, .int td, .int fu, .int fp, .int vat_, .int vat_, .int vtok, .int vnum, .long vwrd, .int tx0, .int cls, .int wri, .int cam, .ref pI, .int pid, .int ope, .int isw, .int so0, .int onc, .ref nm, .ref vL, .ref tR, .int spp, .int eat, .int ste, .ref rW, .ref sP, .ref oT, .ref bS, .ref aS, .ref aO, .ref cS, .ref wY])), (tP_, .inl (cI, 300, .inl ftp))]) H := hP
          have hD : va_D A ([(q, .inr (12, [.ref aA, .ref aI, .ref xT, .ref tP_, .int td, .int fu, .int fp, .int vat_, .int vat_, .int vtok, .int vnum, .long vwrd, .int tx0, .int cls, .int wri, .int cam, .ref pI, .int pid, .int ope, .int isw, .int so0, .int onc, .ref nm, .ref vL, .ref tR, .int spp, .int eat, .int ste, .ref rW, .ref sP, .ref oT, .ref bS, .ref aS, .ref aO, .ref cS, .ref wY])), (tP_, .inl (cI, 300, .inl ftp))]) := hD
          by_cases c20 : 48 ≤ r13.toInt ∧ r13.toInt ≤ 57
          · obtain rfl : r18 = 1 := by rw [hrh19, if_pos c20]
            refine lv_if_eq (tgt := 144) hx hb dX12_nextToken_72 (by decide) (fun h => absurd h (by decide)) (fun c21 => ?_)
            refine lv_aload_n hx hb dX12_nextToken_75 rfl (lv_at hl 1 rfl) ?_
            refine lv_iconst (v := 1) hx hb dX12_nextToken_76 (by decide) ?_
            refine z_put Z i_X12 tyX12 tyX12_ok nmX12 hP hD hS 0 rfl rfl 9 (by decide) bw_1028 rfl rfl rfl (Nat.le_of_ble_eq_true rfl) dX12_nextToken_77 (fun H locs hP hD hS => ?_)
            have hP : va_P D vwCl ([(q, .inr (12, [.ref aA, .ref aI, .ref xT, .ref tP_, .int td, .int fu, .int fp, .int vat_, .int vat_, .int 1, .int vnum, .long vwrd, .int tx0, .int cls, .int wri, .int cam, .ref pI, .int pid, .int ope, .int isw, .int so0, .int onc, .ref nm, .ref vL, .ref tR, .int spp, .int eat, .int ste, .ref rW, .ref sP, .ref oT, .ref bS, .ref aS, .ref aO, .ref cS, .ref wY])), (tP_, .inl (cI, 300, .inl ftp))]) H := hP
            have hD : va_D A ([(q, .inr (12, [.ref aA, .ref aI, .ref xT, .ref tP_, .int td, .int fu, .int fp, .int vat_, .int vat_, .int 1, .int vnum, .long vwrd, .int tx0, .int cls, .int wri, .int cam, .ref pI, .int pid, .int ope, .int isw, .int so0, .int onc, .ref nm, .ref vL, .ref tR, .int spp, .int eat, .int ste, .ref rW, .ref sP, .ref oT, .ref bS, .ref aS, .ref aO, .ref cS, .ref wY])), (tP_, .inl (cI, 300, .inl ftp))]) := hD
            refine lv_aload_n hx hb dX12_nextToken_80 rfl (lv_at hl 1 rfl) ?_
            refine lv_iconst (v := 0) hx hb dX12_nextToken_81 (by decide) ?_
            refine z_put Z i_X12 tyX12 tyX12_ok nmX12 hP hD hS 0 rfl rfl 10 (by decide) bw_1029 rfl rfl rfl (Nat.le_of_ble_eq_true rfl) dX12_nextToken_82 (fun H locs hP hD hS => ?_)
            have hP : va_P D vwCl ([(q, .inr (12, [.ref aA, .ref aI, .ref xT, .ref tP_, .int td, .int fu, .int fp, .int vat_, .int vat_, .int 1, .int 0, .long vwrd, .int tx0, .int cls, .int wri, .int cam, .ref pI, .int pid, .int ope, .int isw, .int so0, .int onc, .ref nm, .ref vL, .ref tR, .int spp, .int eat, .int ste, .ref rW, .ref sP, .ref oT, .ref bS, .ref aS, .ref aO, .ref cS, .ref wY])), (tP_, .inl (cI, 300, .inl ftp))]) H := hP
            have hD : va_D A ([(q, .inr (12, [.ref aA, .ref aI, .ref xT, .ref tP_, .int td, .int fu, .int fp, .int vat_, .int vat_, .int 1, .int 0, .long vwrd, .int tx0, .int cls, .int wri, .int cam, .ref pI, .int pid, .int ope, .int isw, .int so0, .int onc, .ref nm, .ref vL, .ref tR, .int spp, .int eat, .int ste, .ref rW, .ref sP, .ref oT, .ref bS, .ref aS, .ref aO, .ref cS, .ref wY])), (tP_, .inl (cI, 300, .inl ftp))]) := hD
            refine W.widen (k := 0) (n := 0) (Nat.le_of_ble_eq_true rfl) (Nat.le_of_ble_eq_true rfl) ?_
            exact lp_nt85 l D cI cM cT cJ cZ q aA aI xT tP_ td fu fp at_ plc tok num wrd tx0 cls wri cam pI pid ope isw so0 onc nm vL tR spp eat ste rW sP oT bS aS aO cS wY ftp Z hi_td hi_spp hat  _ vat_ vat_ 1 0 vwrd (by (try simp only [zlt, zle, zeq, zl_0, zl_1, zl_2, zl_3, zl_4, zl_5, zl_6, zl_7, zl_8, zl_9, zl_10, zl_11, zl_12, zl_13, zl_14, zl_15, zl_16, zl_17, zl_18, zl_19, zl_20, zl_21, zl_22, zl_23, zl_24, zl_25, zl_26, zl_27, zl_28, zl_29, zl_30, zl_31, zl_32, zl_33, zl_34, zl_35, zl_36, zl_37, zl_38, zl_39, zl_40, zl_41, zl_42, zl_43, zl_44, zl_45, zl_46, zl_47, zl_48, zl_49, zl_50, zl_51, zl_52, zl_53, zl_54, zl_55, zl_56, zl_57, zl_58, zl_59, zl_60, zl_61, zl_62, zl_63, zl_64, zl_65, zl_82, zl_99, zl_100, zl_160, zl_299, zl_300, zl_301, zl_382, zl_398, zl_399, zl_464, zl_680, zl_862, zl_999, zl_1000, zl_9999, zl_10000, zl_1000000, zl_m1, zl_m2, zl_m3, zl_m8, zl_97, zl_122, zl_90, zl_100000, zl_75] at hi_td hi_spp hat h0 hm huh3_0 hba4 c5 huh9_0 hba10 c11 huh14_0 hba15 c16 c20 c21 ⊢); omega) (by (try simp only [zlt, zle, zeq, zl_0, zl_1, zl_2, zl_3, zl_4, zl_5, zl_6, zl_7, zl_8, zl_9, zl_10, zl_11, zl_12, zl_13, zl_14, zl_15, zl_16, zl_17, zl_18, zl_19, zl_20, zl_21, zl_22, zl_23, zl_24, zl_25, zl_26, zl_27, zl_28, zl_29, zl_30, zl_31, zl_32, zl_33, zl_34, zl_35, zl_36, zl_37, zl_38, zl_39, zl_40, zl_41, zl_42, zl_43, zl_44, zl_45, zl_46, zl_47, zl_48, zl_49, zl_50, zl_51, zl_52, zl_53, zl_54, zl_55, zl_56, zl_57, zl_58, zl_59, zl_60, zl_61, zl_62, zl_63, zl_64, zl_65, zl_82, zl_99, zl_100, zl_160, zl_299, zl_300, zl_301, zl_382, zl_398, zl_399, zl_464, zl_680, zl_862, zl_999, zl_1000, zl_9999, zl_10000, zl_1000000, zl_m1, zl_m2, zl_m3, zl_m8, zl_97, zl_122, zl_90, zl_100000, zl_75] at hi_td hi_spp hat h0 hm huh3_0 hba4 c5 huh9_0 hba10 c11 huh14_0 hba15 c16 c20 c21 ⊢); omega) (by (try simp only [zlt, zle, zeq, zl_0, zl_1, zl_2, zl_3, zl_4, zl_5, zl_6, zl_7, zl_8, zl_9, zl_10, zl_11, zl_12, zl_13, zl_14, zl_15, zl_16, zl_17, zl_18, zl_19, zl_20, zl_21, zl_22, zl_23, zl_24, zl_25, zl_26, zl_27, zl_28, zl_29, zl_30, zl_31, zl_32, zl_33, zl_34, zl_35, zl_36, zl_37, zl_38, zl_39, zl_40, zl_41, zl_42, zl_43, zl_44, zl_45, zl_46, zl_47, zl_48, zl_49, zl_50, zl_51, zl_52, zl_53, zl_54, zl_55, zl_56, zl_57, zl_58, zl_59, zl_60, zl_61, zl_62, zl_63, zl_64, zl_65, zl_82, zl_99, zl_100, zl_160, zl_299, zl_300, zl_301, zl_382, zl_398, zl_399, zl_464, zl_680, zl_862, zl_999, zl_1000, zl_9999, zl_10000, zl_1000000, zl_m1, zl_m2, zl_m3, zl_m8, zl_97, zl_122, zl_90, zl_100000, zl_75] at hi_td hi_spp hat h0 hm huh3_0 hba4 c5 huh9_0 hba10 c11 huh14_0 hba15 c16 c20 c21 ⊢); omega) (Nat.lt_succ_self _) _ _ _ hP hD hS (lv_sub hl [1] rfl)
          · obtain rfl : r18 = 0 := by rw [hrh19, if_neg c20]
            refine lv_if_eq (tgt := 144) hx hb dX12_nextToken_72 (by decide) (fun c22 => ?_) (fun h => absurd (by decide) h)
            refine lv_iload_n hx hb dX12_nextToken_144 rfl (lv_at hl 0 rfl) ?_
            have hPc := hP.sub2 (wc := []) [] rfl
            have hDc := hD.sub (ws' := []) [] (by decide) rfl
            refine raw_Si (nA := 1) (As := [.int r13]) (rest := []) Z hl.1 (c_X12_isLetter l D cI cM cT cJ cZ r13) (bw_S bw_1186 bw_1187 bw_92 bw_1188) ⟨by decide +kernel, by decide +kernel, by decide +kernel⟩ rfl ⟨Nat.le_of_ble_eq_true rfl, Nat.le_of_ble_eq_true rfl⟩ hPc hDc hS rfl (Nat.le_of_ble_eq_true rfl) dX12_nextToken_145 ⟨Nat.le_of_ble_eq_true rfl, Nat.le_of_ble_eq_true rfl⟩ (fun r24 u23 H1 locs1 h25 hku23 hP1 hD1 hS1 => ?_)
            obtain ⟨hrh25, rfl⟩ := h25
            obtain ⟨hP, hD⟩ := z_join (wr := [(q, .inr (12, [.ref aA, .ref aI, .ref xT, .ref tP_, .int td, .int fu, .int fp, .int vat_, .int vat_, .int vtok, .int vnum, .long vwrd, .int tx0, .int cls, .int wri, .int cam, .ref pI, .int pid, .int ope, .int isw, .int so0, .int onc, .ref nm, .ref vL, .ref tR, .int spp, .int eat, .int ste, .ref rW, .ref sP, .ref oT, .ref bS, .ref aS, .ref aO, .ref cS, .ref wY])), (tP_, .inl (cI, 300, .inl ftp))]) Z hS hP hD [] [0, 1] rfl (by decide) rfl (by decide) (by decide) hku23 hP1 hD1
            have hS := hS1
            clear hS1
            generalize H1 = H at hP hS ⊢
            generalize locs1 = locs at hS ⊢
            have hP : va_P D vwCl ([(q, .inr (12, [.ref aA, .ref aI, .ref xT, .ref tP_, .int td, .int fu, .int fp, .int vat_, .int vat_, .int vtok, .int vnum, .long vwrd, .int tx0, .int cls, .int wri, .int cam, .ref pI, .int pid, .int ope, .int isw, .int so0, .int onc, .ref nm, .ref vL, .ref tR, .int spp, .int eat, .int ste, .ref rW, .ref sP, .ref oT, .ref bS, .ref aS, .ref aO, .ref cS, .ref wY])), (tP_, .inl (cI, 300, .inl ftp))]) H := hP
            have hD : va_D A ([(q, .inr (12, [.ref aA, .ref aI, .ref xT, .ref tP_, .int td, .int fu, .int fp, .int vat_, .int vat_, .int vtok, .int vnum, .long vwrd, .int tx0, .int cls, .int wri, .int cam, .ref pI, .int pid, .int ope, .int isw, .int so0, .int onc, .ref nm, .ref vL, .ref tR, .int spp, .int eat, .int ste, .ref rW, .ref sP, .ref oT, .ref bS, .ref aS, .ref aO, .ref cS, .ref wY])), (tP_, .inl (cI, 300, .inl ftp))]) := hD
            by_cases c26 : (97 ≤ r13.toInt ∧ r13.toInt ≤ 122) ∨ (65 ≤ r13.toInt ∧ r13.toInt ≤ 90)
            · obtain rfl : r24 = 1 := by rw [hrh25, if_pos c26]
              refine lv_if_eq (tgt := 245) hx hb dX12_nextToken_148 (by decide) (fun h => absurd h (by decide)) (fun c27 => ?_)
              refine lv_aload_n hx hb dX12_nextToken_151 rfl (lv_at hl 1 rfl) ?_
              refine lv_iconst (v := 2) hx hb dX12_nextToken_152 (by decide) ?_
              refine z_put Z i_X12 tyX12 tyX12_ok nmX12 hP hD hS 0 rfl rfl 9 (by decide) bw_1028 rfl rfl rfl (Nat.le_of_ble_eq_true rfl) dX12_nextToken_153 (fun H locs hP hD hS => ?_)
              have hP : va_P D vwCl ([(q, .inr (12, [.ref aA, .ref aI, .ref xT, .ref tP_, .int td, .int fu, .int fp, .int vat_, .int vat_, .int 2, .int vnum, .long vwrd, .int tx0, .int cls, .int wri, .int cam, .ref pI, .int pid, .int ope, .int isw, .int so0, .int onc, .ref nm, .ref vL, .ref tR, .int spp, .int eat, .int ste, .ref rW, .ref sP, .ref oT, .ref bS, .ref aS, .ref aO, .ref cS, .ref wY])), (tP_, .inl (cI, 300, .inl ftp))]) H := hP
              have hD : va_D A ([(q, .inr (12, [.ref aA, .ref aI, .ref xT, .ref tP_, .int td, .int fu, .int fp, .int vat_, .int vat_, .int 2, .int vnum, .long vwrd, .int tx0, .int cls, .int wri, .int cam, .ref pI, .int pid, .int ope, .int isw, .int so0, .int onc, .ref nm, .ref vL, .ref tR, .int spp, .int eat, .int ste, .ref rW, .ref sP, .ref oT, .ref bS, .ref aS, .ref aO, .ref cS, .ref wY])), (tP_, .inl (cI, 300, .inl ftp))]) := hD
              refine lv_aload_n hx hb dX12_nextToken_156 rfl (lv_at hl 1 rfl) ?_
              refine lv_lconst (v := 0) hx hb dX12_nextToken_157 (by decide) ?_
              refine z_put Z i_X12 tyX12 tyX12_ok nmX12 hP hD hS 0 rfl rfl 11 (by decide) bw_1030 rfl rfl rfl (Nat.le_of_ble_eq_true rfl) dX12_nextToken_158 (fun H locs hP hD hS => ?_)
              have hP : va_P D vwCl ([(q, .inr (12, [.ref aA, .ref aI, .ref xT, .ref tP_, .int td, .int fu, .int fp, .int vat_, .int vat_, .int 2, .int vnum, .long 0, .int tx0, .int cls, .int wri, .int cam, .ref pI, .int pid, .int ope, .int isw, .int so0, .int onc, .ref nm, .ref vL, .ref tR, .int spp, .int eat, .int ste, .ref rW, .ref sP, .ref oT, .ref bS, .ref aS, .ref aO, .ref cS, .ref wY])), (tP_, .inl (cI, 300, .inl ftp))]) H := hP
              have hD : va_D A ([(q, .inr (12, [.ref aA, .ref aI, .ref xT, .ref tP_, .int td, .int fu, .int fp, .int vat_, .int vat_, .int 2, .int vnum, .long 0, .int tx0, .int cls, .int wri, .int cam, .ref pI, .int pid, .int ope, .int isw, .int so0, .int onc, .ref nm, .ref vL, .ref tR, .int spp, .int eat, .int ste, .ref rW, .ref sP, .ref oT, .ref bS, .ref aS, .ref aO, .ref cS, .ref wY])), (tP_, .inl (cI, 300, .inl ftp))]) := hD
              refine W.widen (k := 0) (n := 0) (Nat.le_of_ble_eq_true rfl) (Nat.le_of_ble_eq_true rfl) ?_
              exact lp_nt161 l D cI cM cT cJ cZ q aA aI xT tP_ td fu fp at_ plc tok num wrd tx0 cls wri cam pI pid ope isw so0 onc nm vL tR spp eat ste rW sP oT bS aS aO cS wY ftp Z hi_td hi_spp hat  _ vat_ vat_ 2 vnum 0 (by (try simp only [zlt, zle, zeq, zl_0, zl_1, zl_2, zl_3, zl_4, zl_5, zl_6, zl_7, zl_8, zl_9, zl_10, zl_11, zl_12, zl_13, zl_14, zl_15, zl_16, zl_17, zl_18, zl_19, zl_20, zl_21, zl_22, zl_23, zl_24, zl_25, zl_26, zl_27, zl_28, zl_29, zl_30, zl_31, zl_32, zl_33, zl_34, zl_35, zl_36, zl_37, zl_38, zl_39, zl_40, zl_41, zl_42, zl_43, zl_44, zl_45, zl_46, zl_47, zl_48, zl_49, zl_50, zl_51, zl_52, zl_53, zl_54, zl_55, zl_56, zl_57, zl_58, zl_59, zl_60, zl_61, zl_62, zl_63, zl_64, zl_65, zl_82, zl_99, zl_100, zl_160, zl_299, zl_300, zl_301, zl_382, zl_398, zl_399, zl_464, zl_680, zl_862, zl_999, zl_1000, zl_9999, zl_10000, zl_1000000, zl_m1, zl_m2, zl_m3, zl_m8, zl_97, zl_122, zl_90, zl_100000, zl_75] at hi_td hi_spp hat h0 hm huh3_0 hba4 c5 huh9_0 hba10 c11 huh14_0 hba15 c16 c20 c22 c26 c27 ⊢); omega) (by (try simp only [zlt, zle, zeq, zl_0, zl_1, zl_2, zl_3, zl_4, zl_5, zl_6, zl_7, zl_8, zl_9, zl_10, zl_11, zl_12, zl_13, zl_14, zl_15, zl_16, zl_17, zl_18, zl_19, zl_20, zl_21, zl_22, zl_23, zl_24, zl_25, zl_26, zl_27, zl_28, zl_29, zl_30, zl_31, zl_32, zl_33, zl_34, zl_35, zl_36, zl_37, zl_38, zl_39, zl_40, zl_41, zl_42, zl_43, zl_44, zl_45, zl_46, zl_47, zl_48, zl_49, zl_50, zl_51, zl_52, zl_53, zl_54, zl_55, zl_56, zl_57, zl_58, zl_59, zl_60, zl_61, zl_62, zl_63, zl_64, zl_65, zl_82, zl_99, zl_100, zl_160, zl_299, zl_300, zl_301, zl_382, zl_398, zl_399, zl_464, zl_680, zl_862, zl_999, zl_1000, zl_9999, zl_10000, zl_1000000, zl_m1, zl_m2, zl_m3, zl_m8, zl_97, zl_122, zl_90, zl_100000, zl_75] at hi_td hi_spp hat h0 hm huh3_0 hba4 c5 huh9_0 hba10 c11 huh14_0 hba15 c16 c20 c22 c26 c27 ⊢); omega) (by (try simp only [zlt, zle, zeq, zl_0, zl_1, zl_2, zl_3, zl_4, zl_5, zl_6, zl_7, zl_8, zl_9, zl_10, zl_11, zl_12, zl_13, zl_14, zl_15, zl_16, zl_17, zl_18, zl_19, zl_20, zl_21, zl_22, zl_23, zl_24, zl_25, zl_26, zl_27, zl_28, zl_29, zl_30, zl_31, zl_32, zl_33, zl_34, zl_35, zl_36, zl_37, zl_38, zl_39, zl_40, zl_41, zl_42, zl_43, zl_44, zl_45, zl_46, zl_47, zl_48, zl_49, zl_50, zl_51, zl_52, zl_53, zl_54, zl_55, zl_56, zl_57, zl_58, zl_59, zl_60, zl_61, zl_62, zl_63, zl_64, zl_65, zl_82, zl_99, zl_100, zl_160, zl_299, zl_300, zl_301, zl_382, zl_398, zl_399, zl_464, zl_680, zl_862, zl_999, zl_1000, zl_9999, zl_10000, zl_1000000, zl_m1, zl_m2, zl_m3, zl_m8, zl_97, zl_122, zl_90, zl_100000, zl_75] at hi_td hi_spp hat h0 hm huh3_0 hba4 c5 huh9_0 hba10 c11 huh14_0 hba15 c16 c20 c22 c26 c27 ⊢); omega) (Nat.lt_succ_self _) _ _ _ hP hD hS (lv_sub hl [1] rfl)
            · obtain rfl : r24 = 0 := by rw [hrh25, if_neg c26]
              refine lv_if_eq (tgt := 245) hx hb dX12_nextToken_148 (by decide) (fun c28 => ?_) (fun h => absurd (by decide) h)
              refine lv_aload_n hx hb dX12_nextToken_245 rfl (lv_at hl 1 rfl) ?_
              refine lv_dup hx hb dX12_nextToken_246 rfl ?_
              refine z_get Z i_X12 hP 0 rfl rfl 7 (by decide) bw_1026 rfl dX12_nextToken_247 ?_
              refine lv_iconst (v := 1) hx hb dX12_nextToken_250 (by decide) ?_
              refine lv_iadd hx hb dX12_nextToken_251 ?_
              refine lv_topi (fun z29 ez29 => ?_)
              have hz29 : z29.toInt = vat_.toInt + 1 := by rw [ez29]; exact zaddg (by (try simp only [zlt, zle, zeq, zl_0, zl_1, zl_2, zl_3, zl_4, zl_5, zl_6, zl_7, zl_8, zl_9, zl_10, zl_11, zl_12, zl_13, zl_14, zl_15, zl_16, zl_17, zl_18, zl_19, zl_20, zl_21, zl_22, zl_23, zl_24, zl_25, zl_26, zl_27, zl_28, zl_29, zl_30, zl_31, zl_32, zl_33, zl_34, zl_35, zl_36, zl_37, zl_38, zl_39, zl_40, zl_41, zl_42, zl_43, zl_44, zl_45, zl_46, zl_47, zl_48, zl_49, zl_50, zl_51, zl_52, zl_53, zl_54, zl_55, zl_56, zl_57, zl_58, zl_59, zl_60, zl_61, zl_62, zl_63, zl_64, zl_65, zl_82, zl_99, zl_100, zl_160, zl_299, zl_300, zl_301, zl_382, zl_398, zl_399, zl_464, zl_680, zl_862, zl_999, zl_1000, zl_9999, zl_10000, zl_1000000, zl_m1, zl_m2, zl_m3, zl_m8, zl_97, zl_122, zl_90, zl_100000, zl_75] at hi_td hi_spp hat h0 hm huh3_0 hba4 c5 huh9_0 hba10 c11 huh14_0 hba15 c16 c20 c22 c26 c28 ⊢); omega) (by (try simp only [zlt, zle, zeq, zl_0, zl_1, zl_2, zl_3, zl_4, zl_5, zl_6, zl_7, zl_8, zl_9, zl_10, zl_11, zl_12, zl_13, zl_14, zl_15, zl_16, zl_17, zl_18, zl_19, zl_20, zl_21, zl_22, zl_23, zl_24, zl_25, zl_26, zl_27, zl_28, zl_29, zl_30, zl_31, zl_32, zl_33, zl_34, zl_35, zl_36, zl_37, zl_38, zl_39, zl_40, zl_41, zl_42, zl_43, zl_44, zl_45, zl_46, zl_47, zl_48, zl_49, zl_50, zl_51, zl_52, zl_53, zl_54, zl_55, zl_56, zl_57, zl_58, zl_59, zl_60, zl_61, zl_62, zl_63, zl_64, zl_65, zl_82, zl_99, zl_100, zl_160, zl_299, zl_300, zl_301, zl_382, zl_398, zl_399, zl_464, zl_680, zl_862, zl_999, zl_1000, zl_9999, zl_10000, zl_1000000, zl_m1, zl_m2, zl_m3, zl_m8, zl_97, zl_122, zl_90, zl_100000, zl_75] at hi_td hi_spp hat h0 hm huh3_0 hba4 c5 huh9_0 hba10 c11 huh14_0 hba15 c16 c20 c22 c26 c28 ⊢); omega)
              refine z_put Z i_X12 tyX12 tyX12_ok nmX12 hP hD hS 0 rfl rfl 7 (by decide) bw_1026 rfl rfl rfl (Nat.le_of_ble_eq_true rfl) dX12_nextToken_252 (fun H locs hP hD hS => ?_)
              have hP : va_P D vwCl ([(q, .inr (12, [.ref aA, .ref aI, .ref xT, .ref tP_, .int td, .int fu, .int fp, .int z29, .int vat_, .int vtok, .int vnum, .long vwrd, .int tx0, .int cls, .int wri, .int cam, .ref pI, .int pid, .int ope, .int isw, .int so0, .int onc, .ref nm, .ref vL, .ref tR, .int spp, .int eat, .int ste, .ref rW, .ref sP, .ref oT, .ref bS, .ref aS, .ref aO, .ref cS, .ref wY])), (tP_, .inl (cI, 300, .inl ftp))]) H := hP
              have hD : va_D A ([(q, .inr (12, [.ref aA, .ref aI, .ref xT, .ref tP_, .int td, .int fu, .int fp, .int z29, .int vat_, .int vtok, .int vnum, .long vwrd, .int tx0, .int cls, .int wri, .int cam, .ref pI, .int pid, .int ope, .int isw, .int so0, .int onc, .ref nm, .ref vL, .ref tR, .int spp, .int eat, .int ste, .ref rW, .ref sP, .ref oT, .ref bS, .ref aS, .ref aO, .ref cS, .ref wY])), (tP_, .inl (cI, 300, .inl ftp))]) := hD
              refine lv_iload_n hx hb dX12_nextToken_255 rfl (lv_at hl 0 rfl) ?_
              refine lv_bipush (v := 60) hx hb dX12_nextToken_256 (by decide) ?_
              refine lv_icmp_eq (tgt := 339) hx hb dX12_nextToken_258 (by decide) (fun c30 => ?_) (fun c30 => ?_)
              · refine lv_iconst (v := 1) hx hb dX12_nextToken_339 (by decide) ?_
                refine lv_goto (tgt := 344) hx hb dX12_nextToken_340 (by decide) ?_
                refine lv_istore_n (lv' := [(2, .int 1), (1, .int r13), (0, .ref q)]) hx hb dX12_nextToken_344 rfl hl (by decide) rfl (fun ls hl => ?_)
                refine W.widen (k := 0) (n := 0) (Nat.le_of_ble_eq_true rfl) (Nat.le_of_ble_eq_true rfl) ?_
                exact lp_nt345 l D cI cM cT cJ cZ q aA aI xT tP_ td fu fp at_ plc tok num wrd tx0 cls wri cam pI pid ope isw so0 onc nm vL tR spp eat ste rW sP oT bS aS aO cS wY ftp Z hi_td hi_spp hat  _ r13 1 z29 vat_ vtok vnum vwrd (by (try simp only [zlt, zle, zeq, zl_0, zl_1, zl_2, zl_3, zl_4, zl_5, zl_6, zl_7, zl_8, zl_9, zl_10, zl_11, zl_12, zl_13, zl_14, zl_15, zl_16, zl_17, zl_18, zl_19, zl_20, zl_21, zl_22, zl_23, zl_24, zl_25, zl_26, zl_27, zl_28, zl_29, zl_30, zl_31, zl_32, zl_33, zl_34, zl_35, zl_36, zl_37, zl_38, zl_39, zl_40, zl_41, zl_42, zl_43, zl_44, zl_45, zl_46, zl_47, zl_48, zl_49, zl_50, zl_51, zl_52, zl_53, zl_54, zl_55, zl_56, zl_57, zl_58, zl_59, zl_60, zl_61, zl_62, zl_63, zl_64, zl_65, zl_82, zl_99, zl_100, zl_160, zl_299, zl_300, zl_301, zl_382, zl_398, zl_399, zl_464, zl_680, zl_862, zl_999, zl_1000, zl_9999, zl_10000, zl_1000000, zl_m1, zl_m2, zl_m3, zl_m8, zl_97, zl_122, zl_90, zl_100000, zl_75] at hi_td hi_spp hat h0 hm huh3_0 hba4 c5 huh9_0 hba10 c11 huh14_0 hba15 c16 c20 c22 c26 c28 hz29 c30 ⊢); omega) (Nat.lt_succ_self _) _ _ _ hP hD hS (lv_sub hl [2, 1, 0] rfl)
              · refine lv_iload_n hx hb dX12_nextToken_261 rfl (lv_at hl 0 rfl) ?_
                refine lv_bipush (v := 62) hx hb dX12_nextToken_262 (by decide) ?_
                refine lv_icmp_eq (tgt := 339) hx hb dX12_nextToken_264 (by decide) (fun c31 => ?_) (fun c31 => ?_)
                · refine lv_iconst (v := 1) hx hb dX12_nextToken_339 (by decide) ?_
                  refine lv_goto (tgt := 344) hx hb dX12_nextToken_340 (by decide) ?_
                  refine lv_istore_n (lv' := [(2, .int 1), (1, .int r13), (0, .ref q)]) hx hb dX12_nextToken_344 rfl hl (by decide) rfl (fun ls hl => ?_)
                  refine W.widen (k := 0) (n := 0) (Nat.le_of_ble_eq_true rfl) (Nat.le_of_ble_eq_true rfl) ?_
                  exact lp_nt345 l D cI cM cT cJ cZ q aA aI xT tP_ td fu fp at_ plc tok num wrd tx0 cls wri cam pI pid ope isw so0 onc nm vL tR spp eat ste rW sP oT bS aS aO cS wY ftp Z hi_td hi_spp hat  _ r13 1 z29 vat_ vtok vnum vwrd (by (try simp only [zlt, zle, zeq, zl_0, zl_1, zl_2, zl_3, zl_4, zl_5, zl_6, zl_7, zl_8, zl_9, zl_10, zl_11, zl_12, zl_13, zl_14, zl_15, zl_16, zl_17, zl_18, zl_19, zl_20, zl_21, zl_22, zl_23, zl_24, zl_25, zl_26, zl_27, zl_28, zl_29, zl_30, zl_31, zl_32, zl_33, zl_34, zl_35, zl_36, zl_37, zl_38, zl_39, zl_40, zl_41, zl_42, zl_43, zl_44, zl_45, zl_46, zl_47, zl_48, zl_49, zl_50, zl_51, zl_52, zl_53, zl_54, zl_55, zl_56, zl_57, zl_58, zl_59, zl_60, zl_61, zl_62, zl_63, zl_64, zl_65, zl_82, zl_99, zl_100, zl_160, zl_299, zl_300, zl_301, zl_382, zl_398, zl_399, zl_464, zl_680, zl_862, zl_999, zl_1000, zl_9999, zl_10000, zl_1000000, zl_m1, zl_m2, zl_m3, zl_m8, zl_97, zl_122, zl_90, zl_100000, zl_75] at hi_td hi_spp hat h0 hm huh3_0 hba4 c5 huh9_0 hba10 c11 huh14_0 hba15 c16 c20 c22 c26 c28 hz29 c30 c31 ⊢); omega) (Nat.lt_succ_self _) _ _ _ hP hD hS (lv_sub hl [2, 1, 0] rfl)
                · refine lv_iload_n hx hb dX12_nextToken_267 rfl (lv_at hl 0 rfl) ?_
                  refine lv_bipush (v := 61) hx hb dX12_nextToken_268 (by decide) ?_
                  refine lv_icmp_eq (tgt := 339) hx hb dX12_nextToken_270 (by decide) (fun c32 => ?_) (fun c32 => ?_)
                  · refine lv_iconst (v := 1) hx hb dX12_nextToken_339 (by decide) ?_
                    refine lv_goto (tgt := 344) hx hb dX12_nextToken_340 (by decide) ?_
                    refine lv_istore_n (lv' := [(2, .int 1), (1, .int r13), (0, .ref q)]) hx hb dX12_nextToken_344 rfl hl (by decide) rfl (fun ls hl => ?_)
                    refine W.widen (k := 0) (n := 0) (Nat.le_of_ble_eq_true rfl) (Nat.le_of_ble_eq_true rfl) ?_
                    exact lp_nt345 l D cI cM cT cJ cZ q aA aI xT tP_ td fu fp at_ plc tok num wrd tx0 cls wri cam pI pid ope isw so0 onc nm vL tR spp eat ste rW sP oT bS aS aO cS wY ftp Z hi_td hi_spp hat  _ r13 1 z29 vat_ vtok vnum vwrd (by (try simp only [zlt, zle, zeq, zl_0, zl_1, zl_2, zl_3, zl_4, zl_5, zl_6, zl_7, zl_8, zl_9, zl_10, zl_11, zl_12, zl_13, zl_14, zl_15, zl_16, zl_17, zl_18, zl_19, zl_20, zl_21, zl_22, zl_23, zl_24, zl_25, zl_26, zl_27, zl_28, zl_29, zl_30, zl_31, zl_32, zl_33, zl_34, zl_35, zl_36, zl_37, zl_38, zl_39, zl_40, zl_41, zl_42, zl_43, zl_44, zl_45, zl_46, zl_47, zl_48, zl_49, zl_50, zl_51, zl_52, zl_53, zl_54, zl_55, zl_56, zl_57, zl_58, zl_59, zl_60, zl_61, zl_62, zl_63, zl_64, zl_65, zl_82, zl_99, zl_100, zl_160, zl_299, zl_300, zl_301, zl_382, zl_398, zl_399, zl_464, zl_680, zl_862, zl_999, zl_1000, zl_9999, zl_10000, zl_1000000, zl_m1, zl_m2, zl_m3, zl_m8, zl_97, zl_122, zl_90, zl_100000, zl_75] at hi_td hi_spp hat h0 hm huh3_0 hba4 c5 huh9_0 hba10 c11 huh14_0 hba15 c16 c20 c22 c26 c28 hz29 c30 c31 c32 ⊢); omega) (Nat.lt_succ_self _) _ _ _ hP hD hS (lv_sub hl [2, 1, 0] rfl)
                  · refine lv_iload_n hx hb dX12_nextToken_273 rfl (lv_at hl 0 rfl) ?_
                    refine lv_bipush (v := 35) hx hb dX12_nextToken_274 (by decide) ?_
                    refine lv_icmp_eq (tgt := 339) hx hb dX12_nextToken_276 (by decide) (fun c33 => ?_) (fun c33 => ?_)
                    · refine lv_iconst (v := 1) hx hb dX12_nextToken_339 (by decide) ?_
                      refine lv_goto (tgt := 344) hx hb dX12_nextToken_340 (by decide) ?_
                      refine lv_istore_n (lv' := [(2, .int 1), (1, .int r13), (0, .ref q)]) hx hb dX12_nextToken_344 rfl hl (by decide) rfl (fun ls hl => ?_)
                      refine W.widen (k := 0) (n := 0) (Nat.le_of_ble_eq_true rfl) (Nat.le_of_ble_eq_true rfl) ?_
                      exact lp_nt345 l D cI cM cT cJ cZ q aA aI xT tP_ td fu fp at_ plc tok num wrd tx0 cls wri cam pI pid ope isw so0 onc nm vL tR spp eat ste rW sP oT bS aS aO cS wY ftp Z hi_td hi_spp hat  _ r13 1 z29 vat_ vtok vnum vwrd (by (try simp only [zlt, zle, zeq, zl_0, zl_1, zl_2, zl_3, zl_4, zl_5, zl_6, zl_7, zl_8, zl_9, zl_10, zl_11, zl_12, zl_13, zl_14, zl_15, zl_16, zl_17, zl_18, zl_19, zl_20, zl_21, zl_22, zl_23, zl_24, zl_25, zl_26, zl_27, zl_28, zl_29, zl_30, zl_31, zl_32, zl_33, zl_34, zl_35, zl_36, zl_37, zl_38, zl_39, zl_40, zl_41, zl_42, zl_43, zl_44, zl_45, zl_46, zl_47, zl_48, zl_49, zl_50, zl_51, zl_52, zl_53, zl_54, zl_55, zl_56, zl_57, zl_58, zl_59, zl_60, zl_61, zl_62, zl_63, zl_64, zl_65, zl_82, zl_99, zl_100, zl_160, zl_299, zl_300, zl_301, zl_382, zl_398, zl_399, zl_464, zl_680, zl_862, zl_999, zl_1000, zl_9999, zl_10000, zl_1000000, zl_m1, zl_m2, zl_m3, zl_m8, zl_97, zl_122, zl_90, zl_100000, zl_75] at hi_td hi_spp hat h0 hm huh3_0 hba4 c5 huh9_0 hba10 c11 huh14_0 hba15 c16 c20 c22 c26 c28 hz29 c30 c31 c32 c33 ⊢); omega) (Nat.lt_succ_self _) _ _ _ hP hD hS (lv_sub hl [2, 1, 0] rfl)
                    · refine lv_iload_n hx hb dX12_nextToken_279 rfl (lv_at hl 0 rfl) ?_
                      refine lv_bipush (v := 43) hx hb dX12_nextToken_280 (by decide) ?_
                      refine lv_icmp_eq (tgt := 339) hx hb dX12_nextToken_282 (by decide) (fun c34 => ?_) (fun c34 => ?_)
                      · refine lv_iconst (v := 1) hx hb dX12_nextToken_339 (by decide) ?_
                        refine lv_goto (tgt := 344) hx hb dX12_nextToken_340 (by decide) ?_
                        refine lv_istore_n (lv' := [(2, .int 1), (1, .int r13), (0, .ref q)]) hx hb dX12_nextToken_344 rfl hl (by decide) rfl (fun ls hl => ?_)
                        refine W.widen (k := 0) (n := 0) (Nat.le_of_ble_eq_true rfl) (Nat.le_of_ble_eq_true rfl) ?_
                        exact lp_nt345 l D cI cM cT cJ cZ q aA aI xT tP_ td fu fp at_ plc tok num wrd tx0 cls wri cam pI pid ope isw so0 onc nm vL tR spp eat ste rW sP oT bS aS aO cS wY ftp Z hi_td hi_spp hat  _ r13 1 z29 vat_ vtok vnum vwrd (by (try simp only [zlt, zle, zeq, zl_0, zl_1, zl_2, zl_3, zl_4, zl_5, zl_6, zl_7, zl_8, zl_9, zl_10, zl_11, zl_12, zl_13, zl_14, zl_15, zl_16, zl_17, zl_18, zl_19, zl_20, zl_21, zl_22, zl_23, zl_24, zl_25, zl_26, zl_27, zl_28, zl_29, zl_30, zl_31, zl_32, zl_33, zl_34, zl_35, zl_36, zl_37, zl_38, zl_39, zl_40, zl_41, zl_42, zl_43, zl_44, zl_45, zl_46, zl_47, zl_48, zl_49, zl_50, zl_51, zl_52, zl_53, zl_54, zl_55, zl_56, zl_57, zl_58, zl_59, zl_60, zl_61, zl_62, zl_63, zl_64, zl_65, zl_82, zl_99, zl_100, zl_160, zl_299, zl_300, zl_301, zl_382, zl_398, zl_399, zl_464, zl_680, zl_862, zl_999, zl_1000, zl_9999, zl_10000, zl_1000000, zl_m1, zl_m2, zl_m3, zl_m8, zl_97, zl_122, zl_90, zl_100000, zl_75] at hi_td hi_spp hat h0 hm huh3_0 hba4 c5 huh9_0 hba10 c11 huh14_0 hba15 c16 c20 c22 c26 c28 hz29 c30 c31 c32 c33 c34 ⊢); omega) (Nat.lt_succ_self _) _ _ _ hP hD hS (lv_sub hl [2, 1, 0] rfl)
                      · refine lv_iload_n hx hb dX12_nextToken_285 rfl (lv_at hl 0 rfl) ?_
                        refine lv_bipush (v := 45) hx hb dX12_nextToken_286 (by decide) ?_
                        refine lv_icmp_eq (tgt := 339) hx hb dX12_nextToken_288 (by decide) (fun c35 => ?_) (fun c35 => ?_)
                        · refine lv_iconst (v := 1) hx hb dX12_nextToken_339 (by decide) ?_
                          refine lv_goto (tgt := 344) hx hb dX12_nextToken_340 (by decide) ?_
                          refine lv_istore_n (lv' := [(2, .int 1), (1, .int r13), (0, .ref q)]) hx hb dX12_nextToken_344 rfl hl (by decide) rfl (fun ls hl => ?_)
                          refine W.widen (k := 0) (n := 0) (Nat.le_of_ble_eq_true rfl) (Nat.le_of_ble_eq_true rfl) ?_
                          exact lp_nt345 l D cI cM cT cJ cZ q aA aI xT tP_ td fu fp at_ plc tok num wrd tx0 cls wri cam pI pid ope isw so0 onc nm vL tR spp eat ste rW sP oT bS aS aO cS wY ftp Z hi_td hi_spp hat  _ r13 1 z29 vat_ vtok vnum vwrd (by (try simp only [zlt, zle, zeq, zl_0, zl_1, zl_2, zl_3, zl_4, zl_5, zl_6, zl_7, zl_8, zl_9, zl_10, zl_11, zl_12, zl_13, zl_14, zl_15, zl_16, zl_17, zl_18, zl_19, zl_20, zl_21, zl_22, zl_23, zl_24, zl_25, zl_26, zl_27, zl_28, zl_29, zl_30, zl_31, zl_32, zl_33, zl_34, zl_35, zl_36, zl_37, zl_38, zl_39, zl_40, zl_41, zl_42, zl_43, zl_44, zl_45, zl_46, zl_47, zl_48, zl_49, zl_50, zl_51, zl_52, zl_53, zl_54, zl_55, zl_56, zl_57, zl_58, zl_59, zl_60, zl_61, zl_62, zl_63, zl_64, zl_65, zl_82, zl_99, zl_100, zl_160, zl_299, zl_300, zl_301, zl_382, zl_398, zl_399, zl_464, zl_680, zl_862, zl_999, zl_1000, zl_9999, zl_10000, zl_1000000, zl_m1, zl_m2, zl_m3, zl_m8, zl_97, zl_122, zl_90, zl_100000, zl_75] at hi_td hi_spp hat h0 hm huh3_0 hba4 c5 huh9_0 hba10 c11 huh14_0 hba15 c16 c20 c22 c26 c28 hz29 c30 c31 c32 c33 c34 c35 ⊢); omega) (Nat.lt_succ_self _) _ _ _ hP hD hS (lv_sub hl [2, 1, 0] rfl)
                        · refine lv_iload_n hx hb dX12_nextToken_291 rfl (lv_at hl 0 rfl) ?_
                          refine lv_bipush (v := 42) hx hb dX12_nextToken_292 (by decide) ?_
                          refine lv_icmp_eq (tgt := 339) hx hb dX12_nextToken_294 (by decide) (fun c36 => ?_) (fun c36 => ?_)
                          · refine lv_iconst (v := 1) hx hb dX12_nextToken_339 (by decide) ?_
                            refine lv_goto (tgt := 344) hx hb dX12_nextToken_340 (by decide) ?_
                            refine lv_istore_n (lv' := [(2, .int 1), (1, .int r13), (0, .ref q)]) hx hb dX12_nextToken_344 rfl hl (by decide) rfl (fun ls hl => ?_)
                            refine W.widen (k := 0) (n := 0) (Nat.le_of_ble_eq_true rfl) (Nat.le_of_ble_eq_true rfl) ?_
                            exact lp_nt345 l D cI cM cT cJ cZ q aA aI xT tP_ td fu fp at_ plc tok num wrd tx0 cls wri cam pI pid ope isw so0 onc nm vL tR spp eat ste rW sP oT bS aS aO cS wY ftp Z hi_td hi_spp hat  _ r13 1 z29 vat_ vtok vnum vwrd (by (try simp only [zlt, zle, zeq, zl_0, zl_1, zl_2, zl_3, zl_4, zl_5, zl_6, zl_7, zl_8, zl_9, zl_10, zl_11, zl_12, zl_13, zl_14, zl_15, zl_16, zl_17, zl_18, zl_19, zl_20, zl_21, zl_22, zl_23, zl_24, zl_25, zl_26, zl_27, zl_28, zl_29, zl_30, zl_31, zl_32, zl_33, zl_34, zl_35, zl_36, zl_37, zl_38, zl_39, zl_40, zl_41, zl_42, zl_43, zl_44, zl_45, zl_46, zl_47, zl_48, zl_49, zl_50, zl_51, zl_52, zl_53, zl_54, zl_55, zl_56, zl_57, zl_58, zl_59, zl_60, zl_61, zl_62, zl_63, zl_64, zl_65, zl_82, zl_99, zl_100, zl_160, zl_299, zl_300, zl_301, zl_382, zl_398, zl_399, zl_464, zl_680, zl_862, zl_999, zl_1000, zl_9999, zl_10000, zl_1000000, zl_m1, zl_m2, zl_m3, zl_m8, zl_97, zl_122, zl_90, zl_100000, zl_75] at hi_td hi_spp hat h0 hm huh3_0 hba4 c5 huh9_0 hba10 c11 huh14_0 hba15 c16 c20 c22 c26 c28 hz29 c30 c31 c32 c33 c34 c35 c36 ⊢); omega) (Nat.lt_succ_self _) _ _ _ hP hD hS (lv_sub hl [2, 1, 0] rfl)
                          · refine lv_iload_n hx hb dX12_nextToken_297 rfl (lv_at hl 0 rfl) ?_
                            refine lv_bipush (v := 47) hx hb dX12_nextToken_298 (by decide) ?_
                            refine lv_icmp_eq (tgt := 339) hx hb dX12_nextToken_300 (by decide) (fun c37 => ?_) (fun c37 => ?_)
                            · refine lv_iconst (v := 1) hx hb dX12_nextToken_339 (by decide) ?_
                              refine lv_goto (tgt := 344) hx hb dX12_nextToken_340 (by decide) ?_
                              refine lv_istore_n (lv' := [(2, .int 1), (1, .int r13), (0, .ref q)]) hx hb dX12_nextToken_344 rfl hl (by decide) rfl (fun ls hl => ?_)
                              refine W.widen (k := 0) (n := 0) (Nat.le_of_ble_eq_true rfl) (Nat.le_of_ble_eq_true rfl) ?_
                              exact lp_nt345 l D cI cM cT cJ cZ q aA aI xT tP_ td fu fp at_ plc tok num wrd tx0 cls wri cam pI pid ope isw so0 onc nm vL tR spp eat ste rW sP oT bS aS aO cS wY ftp Z hi_td hi_spp hat  _ r13 1 z29 vat_ vtok vnum vwrd (by (try simp only [zlt, zle, zeq, zl_0, zl_1, zl_2, zl_3, zl_4, zl_5, zl_6, zl_7, zl_8, zl_9, zl_10, zl_11, zl_12, zl_13, zl_14, zl_15, zl_16, zl_17, zl_18, zl_19, zl_20, zl_21, zl_22, zl_23, zl_24, zl_25, zl_26, zl_27, zl_28, zl_29, zl_30, zl_31, zl_32, zl_33, zl_34, zl_35, zl_36, zl_37, zl_38, zl_39, zl_40, zl_41, zl_42, zl_43, zl_44, zl_45, zl_46, zl_47, zl_48, zl_49, zl_50, zl_51, zl_52, zl_53, zl_54, zl_55, zl_56, zl_57, zl_58, zl_59, zl_60, zl_61, zl_62, zl_63, zl_64, zl_65, zl_82, zl_99, zl_100, zl_160, zl_299, zl_300, zl_301, zl_382, zl_398, zl_399, zl_464, zl_680, zl_862, zl_999, zl_1000, zl_9999, zl_10000, zl_1000000, zl_m1, zl_m2, zl_m3, zl_m8, zl_97, zl_122, zl_90, zl_100000, zl_75] at hi_td hi_spp hat h0 hm huh3_0 hba4 c5 huh9_0 hba10 c11 huh14_0 hba15 c16 c20 c22 c26 c28 hz29 c30 c31 c32 c33 c34 c35 c36 c37 ⊢); omega) (Nat.lt_succ_self _) _ _ _ hP hD hS (lv_sub hl [2, 1, 0] rfl)
                            · refine lv_iload_n hx hb dX12_nextToken_303 rfl (lv_at hl 0 rfl) ?_
                              refine lv_bipush (v := 40) hx hb dX12_nextToken_304 (by decide) ?_
                              refine lv_icmp_eq (tgt := 339) hx hb dX12_nextToken_306 (by decide) (fun c38 => ?_) (fun c38 => ?_)
                              · refine lv_iconst (v := 1) hx hb dX12_nextToken_339 (by decide) ?_
                                refine lv_goto (tgt := 344) hx hb dX12_nextToken_340 (by decide) ?_
                                refine lv_istore_n (lv' := [(2, .int 1), (1, .int r13), (0, .ref q)]) hx hb dX12_nextToken_344 rfl hl (by decide) rfl (fun ls hl => ?_)
                                refine W.widen (k := 0) (n := 0) (Nat.le_of_ble_eq_true rfl) (Nat.le_of_ble_eq_true rfl) ?_
                                exact lp_nt345 l D cI cM cT cJ cZ q aA aI xT tP_ td fu fp at_ plc tok num wrd tx0 cls wri cam pI pid ope isw so0 onc nm vL tR spp eat ste rW sP oT bS aS aO cS wY ftp Z hi_td hi_spp hat  _ r13 1 z29 vat_ vtok vnum vwrd (by (try simp only [zlt, zle, zeq, zl_0, zl_1, zl_2, zl_3, zl_4, zl_5, zl_6, zl_7, zl_8, zl_9, zl_10, zl_11, zl_12, zl_13, zl_14, zl_15, zl_16, zl_17, zl_18, zl_19, zl_20, zl_21, zl_22, zl_23, zl_24, zl_25, zl_26, zl_27, zl_28, zl_29, zl_30, zl_31, zl_32, zl_33, zl_34, zl_35, zl_36, zl_37, zl_38, zl_39, zl_40, zl_41, zl_42, zl_43, zl_44, zl_45, zl_46, zl_47, zl_48, zl_49, zl_50, zl_51, zl_52, zl_53, zl_54, zl_55, zl_56, zl_57, zl_58, zl_59, zl_60, zl_61, zl_62, zl_63, zl_64, zl_65, zl_82, zl_99, zl_100, zl_160, zl_299, zl_300, zl_301, zl_382, zl_398, zl_399, zl_464, zl_680, zl_862, zl_999, zl_1000, zl_9999, zl_10000, zl_1000000, zl_m1, zl_m2, zl_m3, zl_m8, zl_97, zl_122, zl_90, zl_100000, zl_75] at hi_td hi_spp hat h0 hm huh3_0 hba4 c5 huh9_0 hba10 c11 huh14_0 hba15 c16 c20 c22 c26 c28 hz29 c30 c31 c32 c33 c34 c35 c36 c37 c38 ⊢); omega) (Nat.lt_succ_self _) _ _ _ hP hD hS (lv_sub hl [2, 1, 0] rfl)
                              · refine lv_iload_n hx hb dX12_nextToken_309 rfl (lv_at hl 0 rfl) ?_
                                refine lv_bipush (v := 41) hx hb dX12_nextToken_310 (by decide) ?_
                                refine lv_icmp_eq (tgt := 339) hx hb dX12_nextToken_312 (by decide) (fun c39 => ?_) (fun c39 => ?_)
                                · refine lv_iconst (v := 1) hx hb dX12_nextToken_339 (by decide) ?_
                                  refine lv_goto (tgt := 344) hx hb dX12_nextToken_340 (by decide) ?_
                                  refine lv_istore_n (lv' := [(2, .int 1), (1, .int r13), (0, .ref q)]) hx hb dX12_nextToken_344 rfl hl (by decide) rfl (fun ls hl => ?_)
                                  refine W.widen (k := 0) (n := 0) (Nat.le_of_ble_eq_true rfl) (Nat.le_of_ble_eq_true rfl) ?_
                                  exact lp_nt345 l D cI cM cT cJ cZ q aA aI xT tP_ td fu fp at_ plc tok num wrd tx0 cls wri cam pI pid ope isw so0 onc nm vL tR spp eat ste rW sP oT bS aS aO cS wY ftp Z hi_td hi_spp hat  _ r13 1 z29 vat_ vtok vnum vwrd (by (try simp only [zlt, zle, zeq, zl_0, zl_1, zl_2, zl_3, zl_4, zl_5, zl_6, zl_7, zl_8, zl_9, zl_10, zl_11, zl_12, zl_13, zl_14, zl_15, zl_16, zl_17, zl_18, zl_19, zl_20, zl_21, zl_22, zl_23, zl_24, zl_25, zl_26, zl_27, zl_28, zl_29, zl_30, zl_31, zl_32, zl_33, zl_34, zl_35, zl_36, zl_37, zl_38, zl_39, zl_40, zl_41, zl_42, zl_43, zl_44, zl_45, zl_46, zl_47, zl_48, zl_49, zl_50, zl_51, zl_52, zl_53, zl_54, zl_55, zl_56, zl_57, zl_58, zl_59, zl_60, zl_61, zl_62, zl_63, zl_64, zl_65, zl_82, zl_99, zl_100, zl_160, zl_299, zl_300, zl_301, zl_382, zl_398, zl_399, zl_464, zl_680, zl_862, zl_999, zl_1000, zl_9999, zl_10000, zl_1000000, zl_m1, zl_m2, zl_m3, zl_m8, zl_97, zl_122, zl_90, zl_100000, zl_75] at hi_td hi_spp hat h0 hm huh3_0 hba4 c5 huh9_0 hba10 c11 huh14_0 hba15 c16 c20 c22 c26 c28 hz29 c30 c31 c32 c33 c34 c35 c36 c37 c38 c39 ⊢); omega) (Nat.lt_succ_self _) _ _ _ hP hD hS (lv_sub hl [2, 1, 0] rfl)
                                · refine lv_iload_n hx hb dX12_nextToken_315 rfl (lv_at hl 0 rfl) ?_
                                  refine lv_bipush (v := 59) hx hb dX12_nextToken_316 (by decide) ?_
                                  refine lv_icmp_eq (tgt := 339) hx hb dX12_nextToken_318 (by decide) (fun c40 => ?_) (fun c40 => ?_)
                                  · refine lv_iconst (v := 1) hx hb dX12_nextToken_339 (by decide) ?_
                                    refine lv_goto (tgt := 344) hx hb dX12_nextToken_340 (by decide) ?_
                                    refine lv_istore_n (lv' := [(2, .int 1), (1, .int r13), (0, .ref q)]) hx hb dX12_nextToken_344 rfl hl (by decide) rfl (fun ls hl => ?_)
                                    refine W.widen (k := 0) (n := 0) (Nat.le_of_ble_eq_true rfl) (Nat.le_of_ble_eq_true rfl) ?_
                                    exact lp_nt345 l D cI cM cT cJ cZ q aA aI xT tP_ td fu fp at_ plc tok num wrd tx0 cls wri cam pI pid ope isw so0 onc nm vL tR spp eat ste rW sP oT bS aS aO cS wY ftp Z hi_td hi_spp hat  _ r13 1 z29 vat_ vtok vnum vwrd (by (try simp only [zlt, zle, zeq, zl_0, zl_1, zl_2, zl_3, zl_4, zl_5, zl_6, zl_7, zl_8, zl_9, zl_10, zl_11, zl_12, zl_13, zl_14, zl_15, zl_16, zl_17, zl_18, zl_19, zl_20, zl_21, zl_22, zl_23, zl_24, zl_25, zl_26, zl_27, zl_28, zl_29, zl_30, zl_31, zl_32, zl_33, zl_34, zl_35, zl_36, zl_37, zl_38, zl_39, zl_40, zl_41, zl_42, zl_43, zl_44, zl_45, zl_46, zl_47, zl_48, zl_49, zl_50, zl_51, zl_52, zl_53, zl_54, zl_55, zl_56, zl_57, zl_58, zl_59, zl_60, zl_61, zl_62, zl_63, zl_64, zl_65, zl_82, zl_99, zl_100, zl_160, zl_299, zl_300, zl_301, zl_382, zl_398, zl_399, zl_464, zl_680, zl_862, zl_999, zl_1000, zl_9999, zl_10000, zl_1000000, zl_m1, zl_m2, zl_m3, zl_m8, zl_97, zl_122, zl_90, zl_100000, zl_75] at hi_td hi_spp hat h0 hm huh3_0 hba4 c5 huh9_0 hba10 c11 huh14_0 hba15 c16 c20 c22 c26 c28 hz29 c30 c31 c32 c33 c34 c35 c36 c37 c38 c39 c40 ⊢); omega) (Nat.lt_succ_self _) _ _ _ hP hD hS (lv_sub hl [2, 1, 0] rfl)
                                  · refine lv_iload_n hx hb dX12_nextToken_321 rfl (lv_at hl 0 rfl) ?_
                                    refine lv_bipush (v := 44) hx hb dX12_nextToken_322 (by decide) ?_
                                    refine lv_icmp_eq (tgt := 339) hx hb dX12_nextToken_324 (by decide) (fun c41 => ?_) (fun c41 => ?_)
                                    · refine lv_iconst (v := 1) hx hb dX12_nextToken_339 (by decide) ?_
                                      refine lv_goto (tgt := 344) hx hb dX12_nextToken_340 (by decide) ?_
                                      refine lv_istore_n (lv' := [(2, .int 1), (1, .int r13), (0, .ref q)]) hx hb dX12_nextToken_344 rfl hl (by decide) rfl (fun ls hl => ?_)
                                      refine W.widen (k := 0) (n := 0) (Nat.le_of_ble_eq_true rfl) (Nat.le_of_ble_eq_true rfl) ?_
                                      exact lp_nt345 l D cI cM cT cJ cZ q aA aI xT tP_ td fu fp at_ plc tok num wrd tx0 cls wri cam pI pid ope isw so0 onc nm vL tR spp eat ste rW sP oT bS aS aO cS wY ftp Z hi_td hi_spp hat  _ r13 1 z29 vat_ vtok vnum vwrd (by (try simp only [zlt, zle, zeq, zl_0, zl_1, zl_2, zl_3, zl_4, zl_5, zl_6, zl_7, zl_8, zl_9, zl_10, zl_11, zl_12, zl_13, zl_14, zl_15, zl_16, zl_17, zl_18, zl_19, zl_20, zl_21, zl_22, zl_23, zl_24, zl_25, zl_26, zl_27, zl_28, zl_29, zl_30, zl_31, zl_32, zl_33, zl_34, zl_35, zl_36, zl_37, zl_38, zl_39, zl_40, zl_41, zl_42, zl_43, zl_44, zl_45, zl_46, zl_47, zl_48, zl_49, zl_50, zl_51, zl_52, zl_53, zl_54, zl_55, zl_56, zl_57, zl_58, zl_59, zl_60, zl_61, zl_62, zl_63, zl_64, zl_65, zl_82, zl_99, zl_100, zl_160, zl_299, zl_300, zl_301, zl_382, zl_398, zl_399, zl_464, zl_680, zl_862, zl_999, zl_1000, zl_9999, zl_10000, zl_1000000, zl_m1, zl_m2, zl_m3, zl_m8, zl_97, zl_122, zl_90, zl_100000, zl_75] at hi_td hi_spp hat h0 hm huh3_0 hba4 c5 huh9_0 hba10 c11 huh14_0 hba15 c16 c20 c22 c26 c28 hz29 c30 c31 c32 c33 c34 c35 c36 c37 c38 c39 c40 c41 ⊢); omega) (Nat.lt_succ_self _) _ _ _ hP hD hS (lv_sub hl [2, 1, 0] rfl)
                                    · refine lv_iload_n hx hb dX12_nextToken_327 rfl (lv_at hl 0 rfl) ?_
                                      refine lv_bipush (v := 63) hx hb dX12_nextToken_328 (by decide) ?_
                                      refine lv_icmp_eq (tgt := 339) hx hb dX12_nextToken_330 (by decide) (fun c42 => ?_) (fun c42 => ?_)
                                      · refine lv_iconst (v := 1) hx hb dX12_nextToken_339 (by decide) ?_
                                        refine lv_goto (tgt := 344) hx hb dX12_nextToken_340 (by decide) ?_
                                        refine lv_istore_n (lv' := [(2, .int 1), (1, .int r13), (0, .ref q)]) hx hb dX12_nextToken_344 rfl hl (by decide) rfl (fun ls hl => ?_)
                                        refine W.widen (k := 0) (n := 0) (Nat.le_of_ble_eq_true rfl) (Nat.le_of_ble_eq_true rfl) ?_
                                        exact lp_nt345 l D cI cM cT cJ cZ q aA aI xT tP_ td fu fp at_ plc tok num wrd tx0 cls wri cam pI pid ope isw so0 onc nm vL tR spp eat ste rW sP oT bS aS aO cS wY ftp Z hi_td hi_spp hat  _ r13 1 z29 vat_ vtok vnum vwrd (by (try simp only [zlt, zle, zeq, zl_0, zl_1, zl_2, zl_3, zl_4, zl_5, zl_6, zl_7, zl_8, zl_9, zl_10, zl_11, zl_12, zl_13, zl_14, zl_15, zl_16, zl_17, zl_18, zl_19, zl_20, zl_21, zl_22, zl_23, zl_24, zl_25, zl_26, zl_27, zl_28, zl_29, zl_30, zl_31, zl_32, zl_33, zl_34, zl_35, zl_36, zl_37, zl_38, zl_39, zl_40, zl_41, zl_42, zl_43, zl_44, zl_45, zl_46, zl_47, zl_48, zl_49, zl_50, zl_51, zl_52, zl_53, zl_54, zl_55, zl_56, zl_57, zl_58, zl_59, zl_60, zl_61, zl_62, zl_63, zl_64, zl_65, zl_82, zl_99, zl_100, zl_160, zl_299, zl_300, zl_301, zl_382, zl_398, zl_399, zl_464, zl_680, zl_862, zl_999, zl_1000, zl_9999, zl_10000, zl_1000000, zl_m1, zl_m2, zl_m3, zl_m8, zl_97, zl_122, zl_90, zl_100000, zl_75] at hi_td hi_spp hat h0 hm huh3_0 hba4 c5 huh9_0 hba10 c11 huh14_0 hba15 c16 c20 c22 c26 c28 hz29 c30 c31 c32 c33 c34 c35 c36 c37 c38 c39 c40 c41 c42 ⊢); omega) (Nat.lt_succ_self _) _ _ _ hP hD hS (lv_sub hl [2, 1, 0] rfl)
                                      · refine lv_iload_n hx hb dX12_nextToken_333 rfl (lv_at hl 0 rfl) ?_
                                        refine lv_bipush (v := 58) hx hb dX12_nextToken_334 (by decide) ?_
                                        refine lv_icmp_ne (tgt := 343) hx hb dX12_nextToken_336 (by decide) (fun c43 => ?_) (fun c43 => ?_)
                                        · refine lv_iconst (v := 0) hx hb dX12_nextToken_343 (by decide) ?_
                                          refine lv_istore_n (lv' := [(2, .int 0), (1, .int r13), (0, .ref q)]) hx hb dX12_nextToken_344 rfl hl (by decide) rfl (fun ls hl => ?_)
                                          refine W.widen (k := 0) (n := 0) (Nat.le_of_ble_eq_true rfl) (Nat.le_of_ble_eq_true rfl) ?_
                                          exact lp_nt345 l D cI cM cT cJ cZ q aA aI xT tP_ td fu fp at_ plc tok num wrd tx0 cls wri cam pI pid ope isw so0 onc nm vL tR spp eat ste rW sP oT bS aS aO cS wY ftp Z hi_td hi_spp hat  _ r13 0 z29 vat_ vtok vnum vwrd (by (try simp only [zlt, zle, zeq, zl_0, zl_1, zl_2, zl_3, zl_4, zl_5, zl_6, zl_7, zl_8, zl_9, zl_10, zl_11, zl_12, zl_13, zl_14, zl_15, zl_16, zl_17, zl_18, zl_19, zl_20, zl_21, zl_22, zl_23, zl_24, zl_25, zl_26, zl_27, zl_28, zl_29, zl_30, zl_31, zl_32, zl_33, zl_34, zl_35, zl_36, zl_37, zl_38, zl_39, zl_40, zl_41, zl_42, zl_43, zl_44, zl_45, zl_46, zl_47, zl_48, zl_49, zl_50, zl_51, zl_52, zl_53, zl_54, zl_55, zl_56, zl_57, zl_58, zl_59, zl_60, zl_61, zl_62, zl_63, zl_64, zl_65, zl_82, zl_99, zl_100, zl_160, zl_299, zl_300, zl_301, zl_382, zl_398, zl_399, zl_464, zl_680, zl_862, zl_999, zl_1000, zl_9999, zl_10000, zl_1000000, zl_m1, zl_m2, zl_m3, zl_m8, zl_97, zl_122, zl_90, zl_100000, zl_75] at hi_td hi_spp hat h0 hm huh3_0 hba4 c5 huh9_0 hba10 c11 huh14_0 hba15 c16 c20 c22 c26 c28 hz29 c30 c31 c32 c33 c34 c35 c36 c37 c38 c39 c40 c41 c42 c43 ⊢); omega) (Nat.lt_succ_self _) _ _ _ hP hD hS (lv_sub hl [2, 1, 0] rfl)
                                        · refine lv_iconst (v := 1) hx hb dX12_nextToken_339 (by decide) ?_
                                          refine lv_goto (tgt := 344) hx hb dX12_nextToken_340 (by decide) ?_
                                          refine lv_istore_n (lv' := [(2, .int 1), (1, .int r13), (0, .ref q)]) hx hb dX12_nextToken_344 rfl hl (by decide) rfl (fun ls hl => ?_)
                                          refine W.widen (k := 0) (n := 0) (Nat.le_of_ble_eq_true rfl) (Nat.le_of_ble_eq_true rfl) ?_
                                          exact lp_nt345 l D cI cM cT cJ cZ q aA aI xT tP_ td fu fp at_ plc tok num wrd tx0 cls wri cam pI pid ope isw so0 onc nm vL tR spp eat ste rW sP oT bS aS aO cS wY ftp Z hi_td hi_spp hat  _ r13 1 z29 vat_ vtok vnum vwrd (by (try simp only [zlt, zle, zeq, zl_0, zl_1, zl_2, zl_3, zl_4, zl_5, zl_6, zl_7, zl_8, zl_9, zl_10, zl_11, zl_12, zl_13, zl_14, zl_15, zl_16, zl_17, zl_18, zl_19, zl_20, zl_21, zl_22, zl_23, zl_24, zl_25, zl_26, zl_27, zl_28, zl_29, zl_30, zl_31, zl_32, zl_33, zl_34, zl_35, zl_36, zl_37, zl_38, zl_39, zl_40, zl_41, zl_42, zl_43, zl_44, zl_45, zl_46, zl_47, zl_48, zl_49, zl_50, zl_51, zl_52, zl_53, zl_54, zl_55, zl_56, zl_57, zl_58, zl_59, zl_60, zl_61, zl_62, zl_63, zl_64, zl_65, zl_82, zl_99, zl_100, zl_160, zl_299, zl_300, zl_301, zl_382, zl_398, zl_399, zl_464, zl_680, zl_862, zl_999, zl_1000, zl_9999, zl_10000, zl_1000000, zl_m1, zl_m2, zl_m3, zl_m8, zl_97, zl_122, zl_90, zl_100000, zl_75] at hi_td hi_spp hat h0 hm huh3_0 hba4 c5 huh9_0 hba10 c11 huh14_0 hba15 c16 c20 c22 c26 c28 hz29 c30 c31 c32 c33 c34 c35 c36 c37 c38 c39 c40 c41 c42 c43 ⊢); omega) (Nat.lt_succ_self _) _ _ _ hP hD hS (lv_sub hl [2, 1, 0] rfl)
        · refine lv_aload_n hx hb dX12_nextToken_60 rfl (lv_at hl 1 rfl) ?_
          refine lv_iconst (v := 0) hx hb dX12_nextToken_61 (by decide) ?_
          refine z_put Z i_X12 tyX12 tyX12_ok nmX12 hP hD hS 0 rfl rfl 9 (by decide) bw_1028 rfl rfl rfl (Nat.le_of_ble_eq_true rfl) dX12_nextToken_62 (fun H locs hP hD hS => ?_)
          have hP : va_P D vwCl ([(q, .inr (12, [.ref aA, .ref aI, .ref xT, .ref tP_, .int td, .int fu, .int fp, .int vat_, .int vat_, .int 0, .int vnum, .long vwrd, .int tx0, .int cls, .int wri, .int cam, .ref pI, .int pid, .int ope, .int isw, .int so0, .int onc, .ref nm, .ref vL, .ref tR, .int spp, .int eat, .int ste, .ref rW, .ref sP, .ref oT, .ref bS, .ref aS, .ref aO, .ref cS, .ref wY])), (tP_, .inl (cI, 300, .inl ftp))]) H := hP
          have hD : va_D A ([(q, .inr (12, [.ref aA, .ref aI, .ref xT, .ref tP_, .int td, .int fu, .int fp, .int vat_, .int vat_, .int 0, .int vnum, .long vwrd, .int tx0, .int cls, .int wri, .int cam, .ref pI, .int pid, .int ope, .int isw, .int so0, .int onc, .ref nm, .ref vL, .ref tR, .int spp, .int eat, .int ste, .ref rW, .ref sP, .ref oT, .ref bS, .ref aS, .ref aO, .ref cS, .ref wY])), (tP_, .inl (cI, 300, .inl ftp))]) := hD
          refine lv_goto (tgt := 408) hx hb dX12_nextToken_65 (by decide) ?_
          exact z_vret Z hP hD hS (⟨vat_, vat_, 0, vnum, vwrd, rfl, (by (try simp only [zlt, zle, zeq, zl_0, zl_1, zl_2, zl_3, zl_4, zl_5, zl_6, zl_7, zl_8, zl_9, zl_10, zl_11, zl_12, zl_13, zl_14, zl_15, zl_16, zl_17, zl_18, zl_19, zl_20, zl_21, zl_22, zl_23, zl_24, zl_25, zl_26, zl_27, zl_28, zl_29, zl_30, zl_31, zl_32, zl_33, zl_34, zl_35, zl_36, zl_37, zl_38, zl_39, zl_40, zl_41, zl_42, zl_43, zl_44, zl_45, zl_46, zl_47, zl_48, zl_49, zl_50, zl_51, zl_52, zl_53, zl_54, zl_55, zl_56, zl_57, zl_58, zl_59, zl_60, zl_61, zl_62, zl_63, zl_64, zl_65, zl_82, zl_99, zl_100, zl_160, zl_299, zl_300, zl_301, zl_382, zl_398, zl_399, zl_464, zl_680, zl_862, zl_999, zl_1000, zl_9999, zl_10000, zl_1000000, zl_m1, zl_m2, zl_m3, zl_m8, zl_97, zl_122, zl_90, zl_100000, zl_75, and_true, true_and, and_false, false_and, or_false, false_or, or_true, true_or, not_true_eq_false, not_false_eq_true] at hi_td hi_spp hat h0 hm huh3_0 hba4 c5 huh9_0 hba10 c11 huh14_0 hba15 c16 ⊢) <;> omega)⟩) dX12_nextToken_408 (Nat.le_of_ble_eq_true rfl) (Nat.le_of_ble_eq_true rfl)
      · refine lv_aload_n hx hb dX12_nextToken_26 rfl (lv_at hl 0 rfl) ?_
        refine lv_dup hx hb dX12_nextToken_27 rfl ?_
        refine z_get Z i_X12 hP 0 rfl rfl 7 (by decide) bw_1026 rfl dX12_nextToken_28 ?_
        refine lv_iconst (v := 1) hx hb dX12_nextToken_31 (by decide) ?_
        refine lv_iadd hx hb dX12_nextToken_32 ?_
        refine lv_topi (fun z44 ez44 => ?_)
        have hz44 : z44.toInt = vat_.toInt + 1 := by rw [ez44]; exact zaddg (by (try simp only [zlt, zle, zeq, zl_0, zl_1, zl_2, zl_3, zl_4, zl_5, zl_6, zl_7, zl_8, zl_9, zl_10, zl_11, zl_12, zl_13, zl_14, zl_15, zl_16, zl_17, zl_18, zl_19, zl_20, zl_21, zl_22, zl_23, zl_24, zl_25, zl_26, zl_27, zl_28, zl_29, zl_30, zl_31, zl_32, zl_33, zl_34, zl_35, zl_36, zl_37, zl_38, zl_39, zl_40, zl_41, zl_42, zl_43, zl_44, zl_45, zl_46, zl_47, zl_48, zl_49, zl_50, zl_51, zl_52, zl_53, zl_54, zl_55, zl_56, zl_57, zl_58, zl_59, zl_60, zl_61, zl_62, zl_63, zl_64, zl_65, zl_82, zl_99, zl_100, zl_160, zl_299, zl_300, zl_301, zl_382, zl_398, zl_399, zl_464, zl_680, zl_862, zl_999, zl_1000, zl_9999, zl_10000, zl_1000000, zl_m1, zl_m2, zl_m3, zl_m8, zl_97, zl_122, zl_90, zl_100000, zl_75] at hi_td hi_spp hat h0 hm huh3_0 hba4 c5 huh9_0 hba10 c11 ⊢); omega) (by (try simp only [zlt, zle, zeq, zl_0, zl_1, zl_2, zl_3, zl_4, zl_5, zl_6, zl_7, zl_8, zl_9, zl_10, zl_11, zl_12, zl_13, zl_14, zl_15, zl_16, zl_17, zl_18, zl_19, zl_20, zl_21, zl_22, zl_23, zl_24, zl_25, zl_26, zl_27, zl_28, zl_29, zl_30, zl_31, zl_32, zl_33, zl_34, zl_35, zl_36, zl_37, zl_38, zl_39, zl_40, zl_41, zl_42, zl_43, zl_44, zl_45, zl_46, zl_47, zl_48, zl_49, zl_50, zl_51, zl_52, zl_53, zl_54, zl_55, zl_56, zl_57, zl_58, zl_59, zl_60, zl_61, zl_62, zl_63, zl_64, zl_65, zl_82, zl_99, zl_100, zl_160, zl_299, zl_300, zl_301, zl_382, zl_398, zl_399, zl_464, zl_680, zl_862, zl_999, zl_1000, zl_9999, zl_10000, zl_1000000, zl_m1, zl_m2, zl_m3, zl_m8, zl_97, zl_122, zl_90, zl_100000, zl_75] at hi_td hi_spp hat h0 hm huh3_0 hba4 c5 huh9_0 hba10 c11 ⊢); omega)
        refine z_put Z i_X12 tyX12 tyX12_ok nmX12 hP hD hS 0 rfl rfl 7 (by decide) bw_1026 rfl rfl rfl (Nat.le_of_ble_eq_true rfl) dX12_nextToken_33 (fun H locs hP hD hS => ?_)
        have hP : va_P D vwCl ([(q, .inr (12, [.ref aA, .ref aI, .ref xT, .ref tP_, .int td, .int fu, .int fp, .int z44, .int vplc, .int vtok, .int vnum, .long vwrd, .int tx0, .int cls, .int wri, .int cam, .ref pI, .int pid, .int ope, .int isw, .int so0, .int onc, .ref nm, .ref vL, .ref tR, .int spp, .int eat, .int ste, .ref rW, .ref sP, .ref oT, .ref bS, .ref aS, .ref aO, .ref cS, .ref wY])), (tP_, .inl (cI, 300, .inl ftp))]) H := hP
        have hD : va_D A ([(q, .inr (12, [.ref aA, .ref aI, .ref xT, .ref tP_, .int td, .int fu, .int fp, .int z44, .int vplc, .int vtok, .int vnum, .long vwrd, .int tx0, .int cls, .int wri, .int cam, .ref pI, .int pid, .int ope, .int isw, .int so0, .int onc, .ref nm, .ref vL, .ref tR, .int spp, .int eat, .int ste, .ref rW, .ref sP, .ref oT, .ref bS, .ref aS, .ref aO, .ref cS, .ref wY])), (tP_, .inl (cI, 300, .inl ftp))]) := hD
        refine lv_goto (tgt := 0) hx hb dX12_nextToken_36 (by decide) ?_
        exact ih z44 vplc vtok vnum vwrd (by (try simp only [zlt, zle, zeq, zl_0, zl_1, zl_2, zl_3, zl_4, zl_5, zl_6, zl_7, zl_8, zl_9, zl_10, zl_11, zl_12, zl_13, zl_14, zl_15, zl_16, zl_17, zl_18, zl_19, zl_20, zl_21, zl_22, zl_23, zl_24, zl_25, zl_26, zl_27, zl_28, zl_29, zl_30, zl_31, zl_32, zl_33, zl_34, zl_35, zl_36, zl_37, zl_38, zl_39, zl_40, zl_41, zl_42, zl_43, zl_44, zl_45, zl_46, zl_47, zl_48, zl_49, zl_50, zl_51, zl_52, zl_53, zl_54, zl_55, zl_56, zl_57, zl_58, zl_59, zl_60, zl_61, zl_62, zl_63, zl_64, zl_65, zl_82, zl_99, zl_100, zl_160, zl_299, zl_300, zl_301, zl_382, zl_398, zl_399, zl_464, zl_680, zl_862, zl_999, zl_1000, zl_9999, zl_10000, zl_1000000, zl_m1, zl_m2, zl_m3, zl_m8, zl_97, zl_122, zl_90, zl_100000, zl_75] at hi_td hi_spp hat h0 hm huh3_0 hba4 c5 huh9_0 hba10 c11 hz44 ⊢); omega) (by (try simp only [zlt, zle, zeq, zl_0, zl_1, zl_2, zl_3, zl_4, zl_5, zl_6, zl_7, zl_8, zl_9, zl_10, zl_11, zl_12, zl_13, zl_14, zl_15, zl_16, zl_17, zl_18, zl_19, zl_20, zl_21, zl_22, zl_23, zl_24, zl_25, zl_26, zl_27, zl_28, zl_29, zl_30, zl_31, zl_32, zl_33, zl_34, zl_35, zl_36, zl_37, zl_38, zl_39, zl_40, zl_41, zl_42, zl_43, zl_44, zl_45, zl_46, zl_47, zl_48, zl_49, zl_50, zl_51, zl_52, zl_53, zl_54, zl_55, zl_56, zl_57, zl_58, zl_59, zl_60, zl_61, zl_62, zl_63, zl_64, zl_65, zl_82, zl_99, zl_100, zl_160, zl_299, zl_300, zl_301, zl_382, zl_398, zl_399, zl_464, zl_680, zl_862, zl_999, zl_1000, zl_9999, zl_10000, zl_1000000, zl_m1, zl_m2, zl_m3, zl_m8, zl_97, zl_122, zl_90, zl_100000, zl_75] at hi_td hi_spp hat h0 hm huh3_0 hba4 c5 huh9_0 hba10 c11 hz44 ⊢); omega) _ _ _ hP hD hS (lv_sub hl [0] rfl)
set_option maxHeartbeats 4000000 in
set_option maxRecDepth 100000 in
theorem c_X12_nextToken (l : Launch) (D : va_G) (cI cM cT cJ cZ : ClassId) (q : Nat) (aA : Nat) (aI : Nat) (xT : Nat) (tP_ : Nat) (td : Int32) (fu : Int32) (fp : Int32) (at_ : Int32) (plc : Int32) (tok : Int32) (num : Int32) (wrd : Int64) (tx0 : Int32) (cls : Int32) (wri : Int32) (cam : Int32) (pI : Nat) (pid : Int32) (ope : Int32) (isw : Int32) (so0 : Int32) (onc : Int32) (nm : Nat) (vL : Nat) (tR : Nat) (spp : Int32) (eat : Int32) (ste : Int32) (rW : Nat) (sP : Nat) (oT : Nat) (bS : Nat) (aS : Nat) (aO : Nat) (cS : Nat) (wY : Nat) (ftp : Nat → Int32) (hi_td : 0 ≤ td.toInt ∧ td.toInt ≤ 300) (hi_spp : 0 ≤ spp.toInt ∧ spp.toInt ≤ 299) (hat : 0 ≤ at_.toInt ∧ at_.toInt ≤ td.toInt) : Cv l D (ty3 cI cM cT cJ cZ) yX12_nextToken cX12_nextToken 3 2 0 0 [.ref q] ([(q, .inr (12, [.ref aA, .ref aI, .ref xT, .ref tP_, .int td, .int fu, .int fp, .int at_, .int plc, .int tok, .int num, .long wrd, .int tx0, .int cls, .int wri, .int cam, .ref pI, .int pid, .int ope, .int isw, .int so0, .int onc, .ref nm, .ref vL, .ref tR, .int spp, .int eat, .int ste, .ref rW, .ref sP, .ref oT, .ref bS, .ref aS, .ref aO, .ref cS, .ref wY])), (tP_, .inl (cI, 300, .inl ftp))]) (fun u => ∃ (at__n : Int32) (plc_n : Int32) (tok_n : Int32) (num_n : Int32) (wrd_n : Int64), u = [(q, .inr (12, [.ref aA, .ref aI, .ref xT, .ref tP_, .int td, .int fu, .int fp, .int at__n, .int plc_n, .int tok_n, .int num_n, .long wrd_n, .int tx0, .int cls, .int wri, .int cam, .ref pI, .int pid, .int ope, .int isw, .int so0, .int onc, .ref nm, .ref vL, .ref tR, .int spp, .int eat, .int ste, .ref rW, .ref sP, .ref oT, .ref bS, .ref aS, .ref aO, .ref cS, .ref wY])), (tP_, .inl (cI, 300, .inl ftp))] ∧ ((0 ≤ at_.toInt ∧ at_.toInt ≤ plc_n.toInt) ∧ (plc_n.toInt ≤ at__n.toInt ∧ at__n.toInt ≤ td.toInt) ∧ (tok_n.toInt = 0 ∨ plc_n.toInt < at__n.toInt))) := by
  refine Cv.of (by decide +kernel) (Nat.le_of_ble_eq_true rfl) ?_
  intro p e s m below meth c A ls Z hin hP hD hl
  have hx := Z.1
  have hb := Z.2.1
  have hS : va_S A s.heap s.heap [] := va_S.rf
  have hl : lv_has ls 3 [(0, .ref q)] := hl
  skip
  refine W.widen (k := 0) (n := 0) (Nat.le_of_ble_eq_true rfl) (Nat.le_of_ble_eq_true rfl) ?_
  exact lp_nt0 l D cI cM cT cJ cZ q aA aI xT tP_ td fu fp at_ plc tok num wrd tx0 cls wri cam pI pid ope isw so0 onc nm vL tR spp eat ste rW sP oT bS aS aO cS wY ftp Z hi_td hi_spp hat  _ at_ plc tok num wrd (by (try simp only [zlt, zle, zeq, zl_0, zl_1, zl_2, zl_3, zl_4, zl_5, zl_6, zl_7, zl_8, zl_9, zl_10, zl_11, zl_12, zl_13, zl_14, zl_15, zl_16, zl_17, zl_18, zl_19, zl_20, zl_21, zl_22, zl_23, zl_24, zl_25, zl_26, zl_27, zl_28, zl_29, zl_30, zl_31, zl_32, zl_33, zl_34, zl_35, zl_36, zl_37, zl_38, zl_39, zl_40, zl_41, zl_42, zl_43, zl_44, zl_45, zl_46, zl_47, zl_48, zl_49, zl_50, zl_51, zl_52, zl_53, zl_54, zl_55, zl_56, zl_57, zl_58, zl_59, zl_60, zl_61, zl_62, zl_63, zl_64, zl_65, zl_82, zl_99, zl_100, zl_160, zl_299, zl_300, zl_301, zl_382, zl_398, zl_399, zl_464, zl_680, zl_862, zl_999, zl_1000, zl_9999, zl_10000, zl_1000000, zl_m1, zl_m2, zl_m3, zl_m8, zl_97, zl_122, zl_90, zl_100000, zl_75] at hi_td hi_spp hat ⊢); omega) (Nat.lt_succ_self _) _ _ _ hP hD hS (lv_sub hl [0] rfl)
set_option maxHeartbeats 4000000 in
set_option maxRecDepth 100000 in
theorem c_X12_w3 (l : Launch) (D : va_G) (cI cM cT cJ cZ : ClassId) (p0 : Int32) (p1 : Int32) (p2 : Int32) : Cl l D (ty3 cI cM cT cJ cZ) yX12_w3 cX12_w3 3 (some .long) 0 0 0 [.int p0, .int p1, .int p2] ([]) (fun r u => u = []) := by
  refine Cl.of (by decide +kernel) (Nat.le_of_ble_eq_true rfl) ?_
  intro p e s m below meth c A ls Z hin hP hD hl
  have hx := Z.1
  have hb := Z.2.1
  have hS : va_S A s.heap s.heap [] := va_S.rf
  have hl : lv_has ls 3 [(0, .int p0), (1, .int p1), (2, .int p2)] := hl
  skip
  refine lv_iload_n hx hb dX12_w3_0 rfl (lv_at hl 0 rfl) ?_
  refine lv_i2l hx hb dX12_w3_1 rfl ?_
  refine lv_topl (fun w1 ew1 => ?_)
  refine lv_bipush (v := 8) hx hb dX12_w3_2 (by decide) ?_
  refine lv_lshl hx hb dX12_w3_4 rfl ?_
  refine lv_topl (fun w2 ew2 => ?_)
  refine lv_iload_n hx hb dX12_w3_5 rfl (lv_at hl 1 rfl) ?_
  refine lv_i2l hx hb dX12_w3_6 rfl ?_
  refine lv_topl (fun w3 ew3 => ?_)
  refine lv_lor hx hb dX12_w3_7 ?_
  refine lv_topl (fun w4 ew4 => ?_)
  refine lv_bipush (v := 8) hx hb dX12_w3_8 (by decide) ?_
  refine lv_lshl hx hb dX12_w3_10 rfl ?_
  refine lv_topl (fun w5 ew5 => ?_)
  refine lv_iload_n hx hb dX12_w3_11 rfl (lv_at hl 2 rfl) ?_
  refine lv_i2l hx hb dX12_w3_12 rfl ?_
  refine lv_topl (fun w6 ew6 => ?_)
  refine lv_lor hx hb dX12_w3_13 ?_
  refine lv_topl (fun w7 ew7 => ?_)
  exact z_lret Z hP hD hS (rfl) dX12_w3_14 (Nat.le_of_ble_eq_true rfl) (Nat.le_of_ble_eq_true rfl)
set_option maxHeartbeats 4000000 in
set_option maxRecDepth 100000 in
theorem c_X12_w5 (l : Launch) (D : va_G) (cI cM cT cJ cZ : ClassId) (p0 : Int32) (p1 : Int32) (p2 : Int32) (p3 : Int32) (p4 : Int32) : Cl l D (ty3 cI cM cT cJ cZ) yX12_w5 cX12_w5 5 (some .long) 1 0 0 [.int p0, .int p1, .int p2, .int p3, .int p4] ([]) (fun r u => u = []) := by
  refine Cl.of (by decide +kernel) (Nat.le_of_ble_eq_true rfl) ?_
  intro p e s m below meth c A ls Z hin hP hD hl
  have hx := Z.1
  have hb := Z.2.1
  have hS : va_S A s.heap s.heap [] := va_S.rf
  have hl : lv_has ls 5 [(0, .int p0), (1, .int p1), (2, .int p2), (3, .int p3), (4, .int p4)] := hl
  skip
  refine lv_iload_n hx hb dX12_w5_0 rfl (lv_at hl 0 rfl) ?_
  refine lv_iload_n hx hb dX12_w5_1 rfl (lv_at hl 1 rfl) ?_
  refine lv_iload_n hx hb dX12_w5_2 rfl (lv_at hl 2 rfl) ?_
  have hPc := hP.sub2 (wc := []) [] rfl
  have hDc := hD.sub (ws' := []) [] (by decide) rfl
  refine raw_Sl (nA := 3) (As := [.int p0, .int p1, .int p2]) (rest := []) Z hl.1 (c_X12_w3 l D cI cM cT cJ cZ p0 p1 p2) (bw_S bw_1200 bw_1201 bw_92 bw_1202) ⟨by decide +kernel, by decide +kernel, by decide +kernel⟩ rfl ⟨Nat.le_of_ble_eq_true rfl, Nat.le_of_ble_eq_true rfl⟩ hPc hDc hS rfl (Nat.le_of_ble_eq_true rfl) dX12_w5_3 ⟨Nat.le_of_ble_eq_true rfl, Nat.le_of_ble_eq_true rfl⟩ (fun r2 u1 H1 locs1 h3 hku1 hP1 hD1 hS1 => ?_)
  obtain rfl := h3
  obtain ⟨hP, hD⟩ := z_join (wr := []) Z hS hP hD [] [] rfl (by decide) rfl (by decide) (by decide) hku1 hP1 hD1
  have hS := hS1
  clear hS1
  generalize H1 = H at hP hS ⊢
  generalize locs1 = locs at hS ⊢
  have hP : va_P D vwCl ([]) H := hP
  have hD : va_D A ([]) := hD
  refine lv_bipush (v := 8) hx hb dX12_w5_6 (by decide) ?_
  refine lv_lshl hx hb dX12_w5_8 rfl ?_
  refine lv_topl (fun w4 ew4 => ?_)
  refine lv_iload_n hx hb dX12_w5_9 rfl (lv_at hl 3 rfl) ?_
  refine lv_i2l hx hb dX12_w5_10 rfl ?_
  refine lv_topl (fun w5 ew5 => ?_)
  refine lv_lor hx hb dX12_w5_11 ?_
  refine lv_topl (fun w6 ew6 => ?_)
  refine lv_bipush (v := 8) hx hb dX12_w5_12 (by decide) ?_
  refine lv_lshl hx hb dX12_w5_14 rfl ?_
  refine lv_topl (fun w7 ew7 => ?_)
  refine lv_iload hx hb dX12_w5_15 (lv_at hl 4 rfl) ?_
  refine lv_i2l hx hb dX12_w5_17 rfl ?_
  refine lv_topl (fun w8 ew8 => ?_)
  refine lv_lor hx hb dX12_w5_18 ?_
  refine lv_topl (fun w9 ew9 => ?_)
  exact z_lret Z hP hD hS (rfl) dX12_w5_19 (Nat.le_of_ble_eq_true rfl) (Nat.le_of_ble_eq_true rfl)
set_option maxHeartbeats 4000000 in
set_option maxRecDepth 100000 in
theorem c_X12_w4 (l : Launch) (D : va_G) (cI cM cT cJ cZ : ClassId) (p0 : Int32) (p1 : Int32) (p2 : Int32) (p3 : Int32) : Cl l D (ty3 cI cM cT cJ cZ) yX12_w4 cX12_w4 4 (some .long) 1 0 0 [.int p0, .int p1, .int p2, .int p3] ([]) (fun r u => u = []) := by
  refine Cl.of (by decide +kernel) (Nat.le_of_ble_eq_true rfl) ?_
  intro p e s m below meth c A ls Z hin hP hD hl
  have hx := Z.1
  have hb := Z.2.1
  have hS : va_S A s.heap s.heap [] := va_S.rf
  have hl : lv_has ls 4 [(0, .int p0), (1, .int p1), (2, .int p2), (3, .int p3)] := hl
  skip
  refine lv_iload_n hx hb dX12_w4_0 rfl (lv_at hl 0 rfl) ?_
  refine lv_iload_n hx hb dX12_w4_1 rfl (lv_at hl 1 rfl) ?_
  refine lv_iload_n hx hb dX12_w4_2 rfl (lv_at hl 2 rfl) ?_
  have hPc := hP.sub2 (wc := []) [] rfl
  have hDc := hD.sub (ws' := []) [] (by decide) rfl
  refine raw_Sl (nA := 3) (As := [.int p0, .int p1, .int p2]) (rest := []) Z hl.1 (c_X12_w3 l D cI cM cT cJ cZ p0 p1 p2) (bw_S bw_1200 bw_1201 bw_92 bw_1202) ⟨by decide +kernel, by decide +kernel, by decide +kernel⟩ rfl ⟨Nat.le_of_ble_eq_true rfl, Nat.le_of_ble_eq_true rfl⟩ hPc hDc hS rfl (Nat.le_of_ble_eq_true rfl) dX12_w4_3 ⟨Nat.le_of_ble_eq_true rfl, Nat.le_of_ble_eq_true rfl⟩ (fun r2 u1 H1 locs1 h3 hku1 hP1 hD1 hS1 => ?_)
  obtain rfl := h3
  obtain ⟨hP, hD⟩ := z_join (wr := []) Z hS hP hD [] [] rfl (by decide) rfl (by decide) (by decide) hku1 hP1 hD1
  have hS := hS1
  clear hS1
  generalize H1 = H at hP hS ⊢
  generalize locs1 = locs at hS ⊢
  have hP : va_P D vwCl ([]) H := hP
  have hD : va_D A ([]) := hD
  refine lv_bipush (v := 8) hx hb dX12_w4_6 (by decide) ?_
  refine lv_lshl hx hb dX12_w4_8 rfl ?_
  refine lv_topl (fun w4 ew4 => ?_)
  refine lv_iload_n hx hb dX12_w4_9 rfl (lv_at hl 3 rfl) ?_
  refine lv_i2l hx hb dX12_w4_10 rfl ?_
  refine lv_topl (fun w5 ew5 => ?_)
  refine lv_lor hx hb dX12_w4_11 ?_
  refine lv_topl (fun w6 ew6 => ?_)
  exact z_lret Z hP hD hS (rfl) dX12_w4_12 (Nat.le_of_ble_eq_true rfl) (Nat.le_of_ble_eq_true rfl)
set_option maxHeartbeats 4000000 in
set_option maxRecDepth 100000 in
theorem c_X12_w6 (l : Launch) (D : va_G) (cI cM cT cJ cZ : ClassId) (p0 : Int32) (p1 : Int32) (p2 : Int32) (p3 : Int32) (p4 : Int32) (p5 : Int32) : Cl l D (ty3 cI cM cT cJ cZ) yX12_w6 cX12_w6 6 (some .long) 2 0 0 [.int p0, .int p1, .int p2, .int p3, .int p4, .int p5] ([]) (fun r u => u = []) := by
  refine Cl.of (by decide +kernel) (Nat.le_of_ble_eq_true rfl) ?_
  intro p e s m below meth c A ls Z hin hP hD hl
  have hx := Z.1
  have hb := Z.2.1
  have hS : va_S A s.heap s.heap [] := va_S.rf
  have hl : lv_has ls 6 [(0, .int p0), (1, .int p1), (2, .int p2), (3, .int p3), (4, .int p4), (5, .int p5)] := hl
  skip
  refine lv_iload_n hx hb dX12_w6_0 rfl (lv_at hl 0 rfl) ?_
  refine lv_iload_n hx hb dX12_w6_1 rfl (lv_at hl 1 rfl) ?_
  refine lv_iload_n hx hb dX12_w6_2 rfl (lv_at hl 2 rfl) ?_
  refine lv_iload_n hx hb dX12_w6_3 rfl (lv_at hl 3 rfl) ?_
  refine lv_iload hx hb dX12_w6_4 (lv_at hl 4 rfl) ?_
  have hPc := hP.sub2 (wc := []) [] rfl
  have hDc := hD.sub (ws' := []) [] (by decide) rfl
  refine raw_Sl (nA := 5) (As := [.int p0, .int p1, .int p2, .int p3, .int p4]) (rest := []) Z hl.1 (c_X12_w5 l D cI cM cT cJ cZ p0 p1 p2 p3 p4) (bw_S bw_1197 bw_1198 bw_92 bw_1199) ⟨by decide +kernel, by decide +kernel, by decide +kernel⟩ rfl ⟨Nat.le_of_ble_eq_true rfl, Nat.le_of_ble_eq_true rfl⟩ hPc hDc hS rfl (Nat.le_of_ble_eq_true rfl) dX12_w6_6 ⟨Nat.le_of_ble_eq_true rfl, Nat.le_of_ble_eq_true rfl⟩ (fun r2 u1 H1 locs1 h3 hku1 hP1 hD1 hS1 => ?_)
  obtain rfl := h3
  obtain ⟨hP, hD⟩ := z_join (wr := []) Z hS hP hD [] [] rfl (by decide) rfl (by decide) (by decide) hku1 hP1 hD1
  have hS := hS1
  clear hS1
  generalize H1 = H at hP hS ⊢
  generalize locs1 = locs at hS ⊢
  have hP : va_P D vwCl ([]) H := hP
  have hD : va_D A ([]) := hD
  refine lv_bipush (v := 8) hx hb dX12_w6_9 (by decide) ?_
  refine lv_lshl hx hb dX12_w6_11 rfl ?_
  refine lv_topl (fun w4 ew4 => ?_)
  refine lv_iload hx hb dX12_w6_12 (lv_at hl 5 rfl) ?_
  refine lv_i2l hx hb dX12_w6_14 rfl ?_
  refine lv_topl (fun w5 ew5 => ?_)
  refine lv_lor hx hb dX12_w6_15 ?_
  refine lv_topl (fun w6 ew6 => ?_)
  exact z_lret Z hP hD hS (rfl) dX12_w6_16 (Nat.le_of_ble_eq_true rfl) (Nat.le_of_ble_eq_true rfl)
set_option maxHeartbeats 4000000 in
set_option maxRecDepth 100000 in
theorem c_X12_isWord (l : Launch) (D : va_G) (cI cM cT cJ cZ : ClassId) (q : Nat) (w0 : Int64) (aA : Nat) (aI : Nat) (xT : Nat) (tP_ : Nat) (td : Int32) (fu : Int32) (fp : Int32) (at_ : Int32) (plc : Int32) (tok : Int32) (num : Int32) (wrd : Int64) (tx0 : Int32) (cls : Int32) (wri : Int32) (cam : Int32) (pI : Nat) (pid : Int32) (ope : Int32) (isw : Int32) (so0 : Int32) (onc : Int32) (nm : Nat) (vL : Nat) (tR : Nat) (spp : Int32) (eat : Int32) (ste : Int32) (rW : Nat) (sP : Nat) (oT : Nat) (bS : Nat) (aS : Nat) (aO : Nat) (cS : Nat) (wY : Nat) (hi_td : 0 ≤ td.toInt ∧ td.toInt ≤ 300) (hi_spp : 0 ≤ spp.toInt ∧ spp.toInt ≤ 299) : Ci l D (ty3 cI cM cT cJ cZ) yX12_isWord cX12_isWord 3 (some .boolean) 0 0 0 [.ref q, .long w0] ([(q, .inr (12, [.ref aA, .ref aI, .ref xT, .ref tP_, .int td, .int fu, .int fp, .int at_, .int plc, .int tok, .int num, .long wrd, .int tx0, .int cls, .int wri, .int cam, .ref pI, .int pid, .int ope, .int isw, .int so0, .int onc, .ref nm, .ref vL, .ref tR, .int spp, .int eat, .int ste, .ref rW, .ref sP, .ref oT, .ref bS, .ref aS, .ref aO, .ref cS, .ref wY]))]) (fun r u => (0 ≤ r.toInt ∧ r.toInt ≤ 1) ∧ u = [(q, .inr (12, [.ref aA, .ref aI, .ref xT, .ref tP_, .int td, .int fu, .int fp, .int at_, .int plc, .int tok, .int num, .long wrd, .int tx0, .int cls, .int wri, .int cam, .ref pI, .int pid, .int ope, .int isw, .int so0, .int onc, .ref nm, .ref vL, .ref tR, .int spp, .int eat, .int ste, .ref rW, .ref sP, .ref oT, .ref bS, .ref aS, .ref aO, .ref cS, .ref wY]))] ∧ (r.toInt = 0 ∨ tok.toInt = 2)) := by
  refine Ci.of (by decide +kernel) (Nat.le_of_ble_eq_true rfl) ?_
  intro p e s m below meth c A ls Z hin hP hD hl
  have hx := Z.1
  have hb := Z.2.1
  have hS : va_S A s.heap s.heap [] := va_S.rf
  have hl : lv_has ls 3 [(0, .ref q), (1, .long w0)] := hl
  skip
  refine lv_aload_n hx hb dX12_isWord_0 rfl (lv_at hl 0 rfl) ?_
  refine z_get Z i_X12 hP 0 rfl rfl 9 (by decide) bw_1028 rfl dX12_isWord_1 ?_
  refine lv_iconst (v := 2) hx hb dX12_isWord_4 (by decide) ?_
  refine lv_icmp_ne (tgt := 21) hx hb dX12_isWord_5 (by decide) (fun c1 => ?_) (fun c1 => ?_)
  · refine lv_iconst (v := 0) hx hb dX12_isWord_21 (by decide) ?_
    exact z_ret Z rfl hP hD hS (⟨(by decide), rfl, (by (try simp only [zlt, zle, zeq, zl_0, zl_1, zl_2, zl_3, zl_4, zl_5, zl_6, zl_7, zl_8, zl_9, zl_10, zl_11, zl_12, zl_13, zl_14, zl_15, zl_16, zl_17, zl_18, zl_19, zl_20, zl_21, zl_22, zl_23, zl_24, zl_25, zl_26, zl_27, zl_28, zl_29, zl_30, zl_31, zl_32, zl_33, zl_34, zl_35, zl_36, zl_37, zl_38, zl_39, zl_40, zl_41, zl_42, zl_43, zl_44, zl_45, zl_46, zl_47, zl_48, zl_49, zl_50, zl_51, zl_52, zl_53, zl_54, zl_55, zl_56, zl_57, zl_58, zl_59, zl_60, zl_61, zl_62, zl_63, zl_64, zl_65, zl_82, zl_99, zl_100, zl_160, zl_299, zl_300, zl_301, zl_382, zl_398, zl_399, zl_464, zl_680, zl_862, zl_999, zl_1000, zl_9999, zl_10000, zl_1000000, zl_m1, zl_m2, zl_m3, zl_m8, zl_97, zl_122, zl_90, zl_100000, zl_75, and_true, true_and, and_false, false_and, or_false, false_or, or_true, true_or, not_true_eq_false, not_false_eq_true] at hi_td hi_spp c1 ⊢) <;> omega)⟩) dX12_isWord_22 (Nat.le_of_ble_eq_true rfl) (Nat.le_of_ble_eq_true rfl)
  · refine lv_aload_n hx hb dX12_isWord_8 rfl (lv_at hl 0 rfl) ?_
    refine z_get Z i_X12 hP 0 rfl rfl 11 (by decide) bw_1030 rfl dX12_isWord_9 ?_
    refine lv_lload_n hx hb dX12_isWord_12 rfl (lv_at hl 1 rfl) ?_
    refine W.lcmp hx hb dX12_isWord_13 ?_
    refine lv_topi (fun z2 ez2 => ?_)
    refine lv_if_ne (tgt := 21) hx hb dX12_isWord_14 (by decide) (fun c3 => ?_) (fun c3 => ?_)
    · refine lv_iconst (v := 0) hx hb dX12_isWord_21 (by decide) ?_
      exact z_ret Z rfl hP hD hS (⟨(by decide), rfl, (by (try simp only [zlt, zle, zeq, zl_0, zl_1, zl_2, zl_3, zl_4, zl_5, zl_6, zl_7, zl_8, zl_9, zl_10, zl_11, zl_12, zl_13, zl_14, zl_15, zl_16, zl_17, zl_18, zl_19, zl_20, zl_21, zl_22, zl_23, zl_24, zl_25, zl_26, zl_27, zl_28, zl_29, zl_30, zl_31, zl_32, zl_33, zl_34, zl_35, zl_36, zl_37, zl_38, zl_39, zl_40, zl_41, zl_42, zl_43, zl_44, zl_45, zl_46, zl_47, zl_48, zl_49, zl_50, zl_51, zl_52, zl_53, zl_54, zl_55, zl_56, zl_57, zl_58, zl_59, zl_60, zl_61, zl_62, zl_63, zl_64, zl_65, zl_82, zl_99, zl_100, zl_160, zl_299, zl_300, zl_301, zl_382, zl_398, zl_399, zl_464, zl_680, zl_862, zl_999, zl_1000, zl_9999, zl_10000, zl_1000000, zl_m1, zl_m2, zl_m3, zl_m8, zl_97, zl_122, zl_90, zl_100000, zl_75, and_true, true_and, and_false, false_and, or_false, false_or, or_true, true_or, not_true_eq_false, not_false_eq_true] at hi_td hi_spp c1 c3 ⊢) <;> omega)⟩) dX12_isWord_22 (Nat.le_of_ble_eq_true rfl) (Nat.le_of_ble_eq_true rfl)
    · refine lv_iconst (v := 1) hx hb dX12_isWord_17 (by decide) ?_
      refine lv_goto (tgt := 22) hx hb dX12_isWord_18 (by decide) ?_
      exact z_ret Z rfl hP hD hS (⟨(by decide), rfl, (by (try simp only [zlt, zle, zeq, zl_0, zl_1, zl_2, zl_3, zl_4, zl_5, zl_6, zl_7, zl_8, zl_9, zl_10, zl_11, zl_12, zl_13, zl_14, zl_15, zl_16, zl_17, zl_18, zl_19, zl_20, zl_21, zl_22, zl_23, zl_24, zl_25, zl_26, zl_27, zl_28, zl_29, zl_30, zl_31, zl_32, zl_33, zl_34, zl_35, zl_36, zl_37, zl_38, zl_39, zl_40, zl_41, zl_42, zl_43, zl_44, zl_45, zl_46, zl_47, zl_48, zl_49, zl_50, zl_51, zl_52, zl_53, zl_54, zl_55, zl_56, zl_57, zl_58, zl_59, zl_60, zl_61, zl_62, zl_63, zl_64, zl_65, zl_82, zl_99, zl_100, zl_160, zl_299, zl_300, zl_301, zl_382, zl_398, zl_399, zl_464, zl_680, zl_862, zl_999, zl_1000, zl_9999, zl_10000, zl_1000000, zl_m1, zl_m2, zl_m3, zl_m8, zl_97, zl_122, zl_90, zl_100000, zl_75, and_true, true_and, and_false, false_and, or_false, false_or, or_true, true_or, not_true_eq_false, not_false_eq_true] at hi_td hi_spp c1 c3 ⊢) <;> omega)⟩) dX12_isWord_22 (Nat.le_of_ble_eq_true rfl) (Nat.le_of_ble_eq_true rfl)
set_option maxHeartbeats 4000000 in
set_option maxRecDepth 100000 in
theorem c_X12_emit (l : Launch) (D : va_G) (cI cM cT cJ cZ : ClassId) (q : Nat) (p0 : Int32) (p1 : Int32) (aA : Nat) (aI : Nat) (xT : Nat) (tP_ : Nat) (td : Int32) (fu : Int32) (fp : Int32) (at_ : Int32) (plc : Int32) (tok : Int32) (num : Int32) (wrd : Int64) (tx0 : Int32) (cls : Int32) (wri : Int32) (cam : Int32) (pI : Nat) (pid : Int32) (ope : Int32) (isw : Int32) (so0 : Int32) (onc : Int32) (nm : Nat) (vL : Nat) (tR : Nat) (spp : Int32) (eat : Int32) (ste : Int32) (rW : Nat) (sP : Nat) (oT : Nat) (bS : Nat) (aS : Nat) (aO : Nat) (cS : Nat) (wY : Nat) (fxt : Nat → Int32) (hi_td : 0 ≤ td.toInt ∧ td.toInt ≤ 300) (hi_spp : 0 ≤ spp.toInt ∧ spp.toInt ≤ 299) (htx : (0 ≤ tx0.toInt ∧ tx0.toInt ≤ 2040) ∧ (0 ≤ wri.toInt ∧ wri.toInt ≤ 301)) : Cv l D (ty3 cI cM cT cJ cZ) yX12_emit cX12_emit 3 0 0 0 [.ref q, .int p0, .int p1] ([(q, .inr (12, [.ref aA, .ref aI, .ref xT, .ref tP_, .int td, .int fu, .int fp, .int at_, .int plc, .int tok, .int num, .long wrd, .int tx0, .int cls, .int wri, .int cam, .ref pI, .int pid, .int ope, .int isw, .int so0, .int onc, .ref nm, .ref vL, .ref tR, .int spp, .int eat, .int ste, .ref rW, .ref sP, .ref oT, .ref bS, .ref aS, .ref aO, .ref cS, .ref wY])), (xT, .inl (cI, 2720, .inl fxt))]) (fun u => ∃ (wri_n : Int32) (fxt_n : Nat → Int32), u = [(q, .inr (12, [.ref aA, .ref aI, .ref xT, .ref tP_, .int td, .int fu, .int fp, .int at_, .int plc, .int tok, .int num, .long wrd, .int tx0, .int cls, .int wri_n, .int cam, .ref pI, .int pid, .int ope, .int isw, .int so0, .int onc, .ref nm, .ref vL, .ref tR, .int spp, .int eat, .int ste, .ref rW, .ref sP, .ref oT, .ref bS, .ref aS, .ref aO, .ref cS, .ref wY])), (xT, .inl (cI, 2720, .inl fxt_n))] ∧ (wri_n.toInt = wri.toInt + 1) ∧ fxt_n = upd (upd fxt (tx0.toInt.toNat + 75 + 2 * wri.toInt.toNat) p0) (tx0.toInt.toNat + 75 + 2 * wri.toInt.toNat + 1) p1) := by
  refine Cv.of (by decide +kernel) (Nat.le_of_ble_eq_true rfl) ?_
  intro p e s m below meth c A ls Z hin hP hD hl
  have hx := Z.1
  have hb := Z.2.1
  have hS : va_S A s.heap s.heap [] := va_S.rf
  have hl : lv_has ls 3 [(0, .ref q), (1, .int p0), (2, .int p1)] := hl
  skip
  refine lv_aload_n hx hb dX12_emit_0 rfl (lv_at hl 0 rfl) ?_
  refine z_get Z i_X12 hP 0 rfl rfl 2 (by decide) bw_1021 rfl dX12_emit_1 ?_
  refine lv_aload_n hx hb dX12_emit_4 rfl (lv_at hl 0 rfl) ?_
  refine z_get Z i_X12 hP 0 rfl rfl 12 (by decide) bw_1031 rfl dX12_emit_5 ?_
  refine lv_bipush (v := 75) hx hb dX12_emit_8 (by decide) ?_
  refine lv_iadd hx hb dX12_emit_10 ?_
  refine lv_topi (fun z1 ez1 => ?_)
  have hz1 : z1.toInt = tx0.toInt + 75 := by rw [ez1]; exact zaddg (by (try simp only [zlt, zle, zeq, zl_0, zl_1, zl_2, zl_3, zl_4, zl_5, zl_6, zl_7, zl_8, zl_9, zl_10, zl_11, zl_12, zl_13, zl_14, zl_15, zl_16, zl_17, zl_18, zl_19, zl_20, zl_21, zl_22, zl_23, zl_24, zl_25, zl_26, zl_27, zl_28, zl_29, zl_30, zl_31, zl_32, zl_33, zl_34, zl_35, zl_36, zl_37, zl_38, zl_39, zl_40, zl_41, zl_42, zl_43, zl_44, zl_45, zl_46, zl_47, zl_48, zl_49, zl_50, zl_51, zl_52, zl_53, zl_54, zl_55, zl_56, zl_57, zl_58, zl_59, zl_60, zl_61, zl_62, zl_63, zl_64, zl_65, zl_82, zl_99, zl_100, zl_160, zl_299, zl_300, zl_301, zl_382, zl_398, zl_399, zl_464, zl_680, zl_862, zl_999, zl_1000, zl_9999, zl_10000, zl_1000000, zl_m1, zl_m2, zl_m3, zl_m8, zl_97, zl_122, zl_90, zl_100000, zl_75] at hi_td hi_spp htx ⊢); omega) (by (try simp only [zlt, zle, zeq, zl_0, zl_1, zl_2, zl_3, zl_4, zl_5, zl_6, zl_7, zl_8, zl_9, zl_10, zl_11, zl_12, zl_13, zl_14, zl_15, zl_16, zl_17, zl_18, zl_19, zl_20, zl_21, zl_22, zl_23, zl_24, zl_25, zl_26, zl_27, zl_28, zl_29, zl_30, zl_31, zl_32, zl_33, zl_34, zl_35, zl_36, zl_37, zl_38, zl_39, zl_40, zl_41, zl_42, zl_43, zl_44, zl_45, zl_46, zl_47, zl_48, zl_49, zl_50, zl_51, zl_52, zl_53, zl_54, zl_55, zl_56, zl_57, zl_58, zl_59, zl_60, zl_61, zl_62, zl_63, zl_64, zl_65, zl_82, zl_99, zl_100, zl_160, zl_299, zl_300, zl_301, zl_382, zl_398, zl_399, zl_464, zl_680, zl_862, zl_999, zl_1000, zl_9999, zl_10000, zl_1000000, zl_m1, zl_m2, zl_m3, zl_m8, zl_97, zl_122, zl_90, zl_100000, zl_75] at hi_td hi_spp htx ⊢); omega)
  refine lv_iconst (v := 2) hx hb dX12_emit_11 (by decide) ?_
  refine lv_aload_n hx hb dX12_emit_12 rfl (lv_at hl 0 rfl) ?_
  refine z_get Z i_X12 hP 0 rfl rfl 14 (by decide) bw_1032 rfl dX12_emit_13 ?_
  refine lv_imul hx hb dX12_emit_16 ?_
  refine lv_topi (fun z2 ez2 => ?_)
  have hz2 : z2.toInt = 2 * wri.toInt := by rw [ez2]; exact zmulg (by (try simp only [zlt, zle, zeq, zl_0, zl_1, zl_2, zl_3, zl_4, zl_5, zl_6, zl_7, zl_8, zl_9, zl_10, zl_11, zl_12, zl_13, zl_14, zl_15, zl_16, zl_17, zl_18, zl_19, zl_20, zl_21, zl_22, zl_23, zl_24, zl_25, zl_26, zl_27, zl_28, zl_29, zl_30, zl_31, zl_32, zl_33, zl_34, zl_35, zl_36, zl_37, zl_38, zl_39, zl_40, zl_41, zl_42, zl_43, zl_44, zl_45, zl_46, zl_47, zl_48, zl_49, zl_50, zl_51, zl_52, zl_53, zl_54, zl_55, zl_56, zl_57, zl_58, zl_59, zl_60, zl_61, zl_62, zl_63, zl_64, zl_65, zl_82, zl_99, zl_100, zl_160, zl_299, zl_300, zl_301, zl_382, zl_398, zl_399, zl_464, zl_680, zl_862, zl_999, zl_1000, zl_9999, zl_10000, zl_1000000, zl_m1, zl_m2, zl_m3, zl_m8, zl_97, zl_122, zl_90, zl_100000, zl_75] at hi_td hi_spp htx hz1 ⊢); omega) (by (try simp only [zlt, zle, zeq, zl_0, zl_1, zl_2, zl_3, zl_4, zl_5, zl_6, zl_7, zl_8, zl_9, zl_10, zl_11, zl_12, zl_13, zl_14, zl_15, zl_16, zl_17, zl_18, zl_19, zl_20, zl_21, zl_22, zl_23, zl_24, zl_25, zl_26, zl_27, zl_28, zl_29, zl_30, zl_31, zl_32, zl_33, zl_34, zl_35, zl_36, zl_37, zl_38, zl_39, zl_40, zl_41, zl_42, zl_43, zl_44, zl_45, zl_46, zl_47, zl_48, zl_49, zl_50, zl_51, zl_52, zl_53, zl_54, zl_55, zl_56, zl_57, zl_58, zl_59, zl_60, zl_61, zl_62, zl_63, zl_64, zl_65, zl_82, zl_99, zl_100, zl_160, zl_299, zl_300, zl_301, zl_382, zl_398, zl_399, zl_464, zl_680, zl_862, zl_999, zl_1000, zl_9999, zl_10000, zl_1000000, zl_m1, zl_m2, zl_m3, zl_m8, zl_97, zl_122, zl_90, zl_100000, zl_75] at hi_td hi_spp htx hz1 ⊢); omega)
  refine lv_iadd hx hb dX12_emit_17 ?_
  refine lv_topi (fun z3 ez3 => ?_)
  have hz3 : z3.toInt = z1.toInt + z2.toInt := by rw [ez3]; exact zaddg (by (try simp only [zlt, zle, zeq, zl_0, zl_1, zl_2, zl_3, zl_4, zl_5, zl_6, zl_7, zl_8, zl_9, zl_10, zl_11, zl_12, zl_13, zl_14, zl_15, zl_16, zl_17, zl_18, zl_19, zl_20, zl_21, zl_22, zl_23, zl_24, zl_25, zl_26, zl_27, zl_28, zl_29, zl_30, zl_31, zl_32, zl_33, zl_34, zl_35, zl_36, zl_37, zl_38, zl_39, zl_40, zl_41, zl_42, zl_43, zl_44, zl_45, zl_46, zl_47, zl_48, zl_49, zl_50, zl_51, zl_52, zl_53, zl_54, zl_55, zl_56, zl_57, zl_58, zl_59, zl_60, zl_61, zl_62, zl_63, zl_64, zl_65, zl_82, zl_99, zl_100, zl_160, zl_299, zl_300, zl_301, zl_382, zl_398, zl_399, zl_464, zl_680, zl_862, zl_999, zl_1000, zl_9999, zl_10000, zl_1000000, zl_m1, zl_m2, zl_m3, zl_m8, zl_97, zl_122, zl_90, zl_100000, zl_75] at hi_td hi_spp htx hz1 hz2 ⊢); omega) (by (try simp only [zlt, zle, zeq, zl_0, zl_1, zl_2, zl_3, zl_4, zl_5, zl_6, zl_7, zl_8, zl_9, zl_10, zl_11, zl_12, zl_13, zl_14, zl_15, zl_16, zl_17, zl_18, zl_19, zl_20, zl_21, zl_22, zl_23, zl_24, zl_25, zl_26, zl_27, zl_28, zl_29, zl_30, zl_31, zl_32, zl_33, zl_34, zl_35, zl_36, zl_37, zl_38, zl_39, zl_40, zl_41, zl_42, zl_43, zl_44, zl_45, zl_46, zl_47, zl_48, zl_49, zl_50, zl_51, zl_52, zl_53, zl_54, zl_55, zl_56, zl_57, zl_58, zl_59, zl_60, zl_61, zl_62, zl_63, zl_64, zl_65, zl_82, zl_99, zl_100, zl_160, zl_299, zl_300, zl_301, zl_382, zl_398, zl_399, zl_464, zl_680, zl_862, zl_999, zl_1000, zl_9999, zl_10000, zl_1000000, zl_m1, zl_m2, zl_m3, zl_m8, zl_97, zl_122, zl_90, zl_100000, zl_75] at hi_td hi_spp htx hz1 hz2 ⊢); omega)
  refine lv_iload_n hx hb dX12_emit_18 rfl (lv_at hl 1 rfl) ?_
  refine z_iast Z hP hD hS 1 0 rfl rfl (vp_in_iff.mpr (by (try simp only [zlt, zle, zeq, zl_0, zl_1, zl_2, zl_3, zl_4, zl_5, zl_6, zl_7, zl_8, zl_9, zl_10, zl_11, zl_12, zl_13, zl_14, zl_15, zl_16, zl_17, zl_18, zl_19, zl_20, zl_21, zl_22, zl_23, zl_24, zl_25, zl_26, zl_27, zl_28, zl_29, zl_30, zl_31, zl_32, zl_33, zl_34, zl_35, zl_36, zl_37, zl_38, zl_39, zl_40, zl_41, zl_42, zl_43, zl_44, zl_45, zl_46, zl_47, zl_48, zl_49, zl_50, zl_51, zl_52, zl_53, zl_54, zl_55, zl_56, zl_57, zl_58, zl_59, zl_60, zl_61, zl_62, zl_63, zl_64, zl_65, zl_82, zl_99, zl_100, zl_160, zl_299, zl_300, zl_301, zl_382, zl_398, zl_399, zl_464, zl_680, zl_862, zl_999, zl_1000, zl_9999, zl_10000, zl_1000000, zl_m1, zl_m2, zl_m3, zl_m8, zl_97, zl_122, zl_90, zl_100000, zl_75] at hi_td hi_spp htx hz1 hz2 hz3 ⊢); omega)) dX12_emit_19 (fun H locs hP hD hS => ?_)
  have hP : va_P D vwCl ([(q, .inr (12, [.ref aA, .ref aI, .ref xT, .ref tP_, .int td, .int fu, .int fp, .int at_, .int plc, .int tok, .int num, .long wrd, .int tx0, .int cls, .int wri, .int cam, .ref pI, .int pid, .int ope, .int isw, .int so0, .int onc, .ref nm, .ref vL, .ref tR, .int spp, .int eat, .int ste, .ref rW, .ref sP, .ref oT, .ref bS, .ref aS, .ref aO, .ref cS, .ref wY])), (xT, .inl (cI, 2720, .inl (upd fxt (z3 : Int32).toNatClampNeg p0)))]) H := hP
  have hD : va_D A ([(q, .inr (12, [.ref aA, .ref aI, .ref xT, .ref tP_, .int td, .int fu, .int fp, .int at_, .int plc, .int tok, .int num, .long wrd, .int tx0, .int cls, .int wri, .int cam, .ref pI, .int pid, .int ope, .int isw, .int so0, .int onc, .ref nm, .ref vL, .ref tR, .int spp, .int eat, .int ste, .ref rW, .ref sP, .ref oT, .ref bS, .ref aS, .ref aO, .ref cS, .ref wY])), (xT, .inl (cI, 2720, .inl (upd fxt (z3 : Int32).toNatClampNeg p0)))]) := hD
  refine lv_aload_n hx hb dX12_emit_20 rfl (lv_at hl 0 rfl) ?_
  refine z_get Z i_X12 hP 0 rfl rfl 2 (by decide) bw_1021 rfl dX12_emit_21 ?_
  refine lv_aload_n hx hb dX12_emit_24 rfl (lv_at hl 0 rfl) ?_
  refine z_get Z i_X12 hP 0 rfl rfl 12 (by decide) bw_1031 rfl dX12_emit_25 ?_
  refine lv_bipush (v := 75) hx hb dX12_emit_28 (by decide) ?_
  refine lv_iadd hx hb dX12_emit_30 ?_
  refine lv_topi (fun z4 ez4 => ?_)
  have hz4 : z4.toInt = tx0.toInt + 75 := by rw [ez4]; exact zaddg (by (try simp only [zlt, zle, zeq, zl_0, zl_1, zl_2, zl_3, zl_4, zl_5, zl_6, zl_7, zl_8, zl_9, zl_10, zl_11, zl_12, zl_13, zl_14, zl_15, zl_16, zl_17, zl_18, zl_19, zl_20, zl_21, zl_22, zl_23, zl_24, zl_25, zl_26, zl_27, zl_28, zl_29, zl_30, zl_31, zl_32, zl_33, zl_34, zl_35, zl_36, zl_37, zl_38, zl_39, zl_40, zl_41, zl_42, zl_43, zl_44, zl_45, zl_46, zl_47, zl_48, zl_49, zl_50, zl_51, zl_52, zl_53, zl_54, zl_55, zl_56, zl_57, zl_58, zl_59, zl_60, zl_61, zl_62, zl_63, zl_64, zl_65, zl_82, zl_99, zl_100, zl_160, zl_299, zl_300, zl_301, zl_382, zl_398, zl_399, zl_464, zl_680, zl_862, zl_999, zl_1000, zl_9999, zl_10000, zl_1000000, zl_m1, zl_m2, zl_m3, zl_m8, zl_97, zl_122, zl_90, zl_100000, zl_75] at hi_td hi_spp htx hz1 hz2 hz3 ⊢); omega) (by (try simp only [zlt, zle, zeq, zl_0, zl_1, zl_2, zl_3, zl_4, zl_5, zl_6, zl_7, zl_8, zl_9, zl_10, zl_11, zl_12, zl_13, zl_14, zl_15, zl_16, zl_17, zl_18, zl_19, zl_20, zl_21, zl_22, zl_23, zl_24, zl_25, zl_26, zl_27, zl_28, zl_29, zl_30, zl_31, zl_32, zl_33, zl_34, zl_35, zl_36, zl_37, zl_38, zl_39, zl_40, zl_41, zl_42, zl_43, zl_44, zl_45, zl_46, zl_47, zl_48, zl_49, zl_50, zl_51, zl_52, zl_53, zl_54, zl_55, zl_56, zl_57, zl_58, zl_59, zl_60, zl_61, zl_62, zl_63, zl_64, zl_65, zl_82, zl_99, zl_100, zl_160, zl_299, zl_300, zl_301, zl_382, zl_398, zl_399, zl_464, zl_680, zl_862, zl_999, zl_1000, zl_9999, zl_10000, zl_1000000, zl_m1, zl_m2, zl_m3, zl_m8, zl_97, zl_122, zl_90, zl_100000, zl_75] at hi_td hi_spp htx hz1 hz2 hz3 ⊢); omega)
  refine lv_iconst (v := 2) hx hb dX12_emit_31 (by decide) ?_
  refine lv_aload_n hx hb dX12_emit_32 rfl (lv_at hl 0 rfl) ?_
  refine z_get Z i_X12 hP 0 rfl rfl 14 (by decide) bw_1032 rfl dX12_emit_33 ?_
  refine lv_imul hx hb dX12_emit_36 ?_
  refine lv_topi (fun z5 ez5 => ?_)
  have hz5 : z5.toInt = 2 * wri.toInt := by rw [ez5]; exact zmulg (by (try simp only [zlt, zle, zeq, zl_0, zl_1, zl_2, zl_3, zl_4, zl_5, zl_6, zl_7, zl_8, zl_9, zl_10, zl_11, zl_12, zl_13, zl_14, zl_15, zl_16, zl_17, zl_18, zl_19, zl_20, zl_21, zl_22, zl_23, zl_24, zl_25, zl_26, zl_27, zl_28, zl_29, zl_30, zl_31, zl_32, zl_33, zl_34, zl_35, zl_36, zl_37, zl_38, zl_39, zl_40, zl_41, zl_42, zl_43, zl_44, zl_45, zl_46, zl_47, zl_48, zl_49, zl_50, zl_51, zl_52, zl_53, zl_54, zl_55, zl_56, zl_57, zl_58, zl_59, zl_60, zl_61, zl_62, zl_63, zl_64, zl_65, zl_82, zl_99, zl_100, zl_160, zl_299, zl_300, zl_301, zl_382, zl_398, zl_399, zl_464, zl_680, zl_862, zl_999, zl_1000, zl_9999, zl_10000, zl_1000000, zl_m1, zl_m2, zl_m3, zl_m8, zl_97, zl_122, zl_90, zl_100000, zl_75] at hi_td hi_spp htx hz1 hz2 hz3 hz4 ⊢); omega) (by (try simp only [zlt, zle, zeq, zl_0, zl_1, zl_2, zl_3, zl_4, zl_5, zl_6, zl_7, zl_8, zl_9, zl_10, zl_11, zl_12, zl_13, zl_14, zl_15, zl_16, zl_17, zl_18, zl_19, zl_20, zl_21, zl_22, zl_23, zl_24, zl_25, zl_26, zl_27, zl_28, zl_29, zl_30, zl_31, zl_32, zl_33, zl_34, zl_35, zl_36, zl_37, zl_38, zl_39, zl_40, zl_41, zl_42, zl_43, zl_44, zl_45, zl_46, zl_47, zl_48, zl_49, zl_50, zl_51, zl_52, zl_53, zl_54, zl_55, zl_56, zl_57, zl_58, zl_59, zl_60, zl_61, zl_62, zl_63, zl_64, zl_65, zl_82, zl_99, zl_100, zl_160, zl_299, zl_300, zl_301, zl_382, zl_398, zl_399, zl_464, zl_680, zl_862, zl_999, zl_1000, zl_9999, zl_10000, zl_1000000, zl_m1, zl_m2, zl_m3, zl_m8, zl_97, zl_122, zl_90, zl_100000, zl_75] at hi_td hi_spp htx hz1 hz2 hz3 hz4 ⊢); omega)
  refine lv_iadd hx hb dX12_emit_37 ?_
  refine lv_topi (fun z6 ez6 => ?_)
  have hz6 : z6.toInt = z4.toInt + z5.toInt := by rw [ez6]; exact zaddg (by (try simp only [zlt, zle, zeq, zl_0, zl_1, zl_2, zl_3, zl_4, zl_5, zl_6, zl_7, zl_8, zl_9, zl_10, zl_11, zl_12, zl_13, zl_14, zl_15, zl_16, zl_17, zl_18, zl_19, zl_20, zl_21, zl_22, zl_23, zl_24, zl_25, zl_26, zl_27, zl_28, zl_29, zl_30, zl_31, zl_32, zl_33, zl_34, zl_35, zl_36, zl_37, zl_38, zl_39, zl_40, zl_41, zl_42, zl_43, zl_44, zl_45, zl_46, zl_47, zl_48, zl_49, zl_50, zl_51, zl_52, zl_53, zl_54, zl_55, zl_56, zl_57, zl_58, zl_59, zl_60, zl_61, zl_62, zl_63, zl_64, zl_65, zl_82, zl_99, zl_100, zl_160, zl_299, zl_300, zl_301, zl_382, zl_398, zl_399, zl_464, zl_680, zl_862, zl_999, zl_1000, zl_9999, zl_10000, zl_1000000, zl_m1, zl_m2, zl_m3, zl_m8, zl_97, zl_122, zl_90, zl_100000, zl_75] at hi_td hi_spp htx hz1 hz2 hz3 hz4 hz5 ⊢); omega) (by (try simp only [zlt, zle, zeq, zl_0, zl_1, zl_2, zl_3, zl_4, zl_5, zl_6, zl_7, zl_8, zl_9, zl_10, zl_11, zl_12, zl_13, zl_14, zl_15, zl_16, zl_17, zl_18, zl_19, zl_20, zl_21, zl_22, zl_23, zl_24, zl_25, zl_26, zl_27, zl_28, zl_29, zl_30, zl_31, zl_32, zl_33, zl_34, zl_35, zl_36, zl_37, zl_38, zl_39, zl_40, zl_41, zl_42, zl_43, zl_44, zl_45, zl_46, zl_47, zl_48, zl_49, zl_50, zl_51, zl_52, zl_53, zl_54, zl_55, zl_56, zl_57, zl_58, zl_59, zl_60, zl_61, zl_62, zl_63, zl_64, zl_65, zl_82, zl_99, zl_100, zl_160, zl_299, zl_300, zl_301, zl_382, zl_398, zl_399, zl_464, zl_680, zl_862, zl_999, zl_1000, zl_9999, zl_10000, zl_1000000, zl_m1, zl_m2, zl_m3, zl_m8, zl_97, zl_122, zl_90, zl_100000, zl_75] at hi_td hi_spp htx hz1 hz2 hz3 hz4 hz5 ⊢); omega)
  refine lv_iconst (v := 1) hx hb dX12_emit_38 (by decide) ?_
  refine lv_iadd hx hb dX12_emit_39 ?_
  refine lv_topi (fun z7 ez7 => ?_)
  have hz7 : z7.toInt = z6.toInt + 1 := by rw [ez7]; exact zaddg (by (try simp only [zlt, zle, zeq, zl_0, zl_1, zl_2, zl_3, zl_4, zl_5, zl_6, zl_7, zl_8, zl_9, zl_10, zl_11, zl_12, zl_13, zl_14, zl_15, zl_16, zl_17, zl_18, zl_19, zl_20, zl_21, zl_22, zl_23, zl_24, zl_25, zl_26, zl_27, zl_28, zl_29, zl_30, zl_31, zl_32, zl_33, zl_34, zl_35, zl_36, zl_37, zl_38, zl_39, zl_40, zl_41, zl_42, zl_43, zl_44, zl_45, zl_46, zl_47, zl_48, zl_49, zl_50, zl_51, zl_52, zl_53, zl_54, zl_55, zl_56, zl_57, zl_58, zl_59, zl_60, zl_61, zl_62, zl_63, zl_64, zl_65, zl_82, zl_99, zl_100, zl_160, zl_299, zl_300, zl_301, zl_382, zl_398, zl_399, zl_464, zl_680, zl_862, zl_999, zl_1000, zl_9999, zl_10000, zl_1000000, zl_m1, zl_m2, zl_m3, zl_m8, zl_97, zl_122, zl_90, zl_100000, zl_75] at hi_td hi_spp htx hz1 hz2 hz3 hz4 hz5 hz6 ⊢); omega) (by (try simp only [zlt, zle, zeq, zl_0, zl_1, zl_2, zl_3, zl_4, zl_5, zl_6, zl_7, zl_8, zl_9, zl_10, zl_11, zl_12, zl_13, zl_14, zl_15, zl_16, zl_17, zl_18, zl_19, zl_20, zl_21, zl_22, zl_23, zl_24, zl_25, zl_26, zl_27, zl_28, zl_29, zl_30, zl_31, zl_32, zl_33, zl_34, zl_35, zl_36, zl_37, zl_38, zl_39, zl_40, zl_41, zl_42, zl_43, zl_44, zl_45, zl_46, zl_47, zl_48, zl_49, zl_50, zl_51, zl_52, zl_53, zl_54, zl_55, zl_56, zl_57, zl_58, zl_59, zl_60, zl_61, zl_62, zl_63, zl_64, zl_65, zl_82, zl_99, zl_100, zl_160, zl_299, zl_300, zl_301, zl_382, zl_398, zl_399, zl_464, zl_680, zl_862, zl_999, zl_1000, zl_9999, zl_10000, zl_1000000, zl_m1, zl_m2, zl_m3, zl_m8, zl_97, zl_122, zl_90, zl_100000, zl_75] at hi_td hi_spp htx hz1 hz2 hz3 hz4 hz5 hz6 ⊢); omega)
  refine lv_iload_n hx hb dX12_emit_40 rfl (lv_at hl 2 rfl) ?_
  refine z_iast Z hP hD hS 1 0 rfl rfl (vp_in_iff.mpr (by (try simp only [zlt, zle, zeq, zl_0, zl_1, zl_2, zl_3, zl_4, zl_5, zl_6, zl_7, zl_8, zl_9, zl_10, zl_11, zl_12, zl_13, zl_14, zl_15, zl_16, zl_17, zl_18, zl_19, zl_20, zl_21, zl_22, zl_23, zl_24, zl_25, zl_26, zl_27, zl_28, zl_29, zl_30, zl_31, zl_32, zl_33, zl_34, zl_35, zl_36, zl_37, zl_38, zl_39, zl_40, zl_41, zl_42, zl_43, zl_44, zl_45, zl_46, zl_47, zl_48, zl_49, zl_50, zl_51, zl_52, zl_53, zl_54, zl_55, zl_56, zl_57, zl_58, zl_59, zl_60, zl_61, zl_62, zl_63, zl_64, zl_65, zl_82, zl_99, zl_100, zl_160, zl_299, zl_300, zl_301, zl_382, zl_398, zl_399, zl_464, zl_680, zl_862, zl_999, zl_1000, zl_9999, zl_10000, zl_1000000, zl_m1, zl_m2, zl_m3, zl_m8, zl_97, zl_122, zl_90, zl_100000, zl_75] at hi_td hi_spp htx hz1 hz2 hz3 hz4 hz5 hz6 hz7 ⊢); omega)) dX12_emit_41 (fun H locs hP hD hS => ?_)
  have hP : va_P D vwCl ([(q, .inr (12, [.ref aA, .ref aI, .ref xT, .ref tP_, .int td, .int fu, .int fp, .int at_, .int plc, .int tok, .int num, .long wrd, .int tx0, .int cls, .int wri, .int cam, .ref pI, .int pid, .int ope, .int isw, .int so0, .int onc, .ref nm, .ref vL, .ref tR, .int spp, .int eat, .int ste, .ref rW, .ref sP, .ref oT, .ref bS, .ref aS, .ref aO, .ref cS, .ref wY])), (xT, .inl (cI, 2720, .inl (upd (upd fxt (z3 : Int32).toNatClampNeg p0) (z7 : Int32).toNatClampNeg p1)))]) H := hP
  have hD : va_D A ([(q, .inr (12, [.ref aA, .ref aI, .ref xT, .ref tP_, .int td, .int fu, .int fp, .int at_, .int plc, .int tok, .int num, .long wrd, .int tx0, .int cls, .int wri, .int cam, .ref pI, .int pid, .int ope, .int isw, .int so0, .int onc, .ref nm, .ref vL, .ref tR, .int spp, .int eat, .int ste, .ref rW, .ref sP, .ref oT, .ref bS, .ref aS, .ref aO, .ref cS, .ref wY])), (xT, .inl (cI, 2720, .inl (upd (upd fxt (z3 : Int32).toNatClampNeg p0) (z7 : Int32).toNatClampNeg p1)))]) := hD
  refine lv_aload_n hx hb dX12_emit_42 rfl (lv_at hl 0 rfl) ?_
  refine lv_dup hx hb dX12_emit_43 rfl ?_
  refine z_get Z i_X12 hP 0 rfl rfl 14 (by decide) bw_1032 rfl dX12_emit_44 ?_
  refine lv_iconst (v := 1) hx hb dX12_emit_47 (by decide) ?_
  refine lv_iadd hx hb dX12_emit_48 ?_
  refine lv_topi (fun z8 ez8 => ?_)
  have hz8 : z8.toInt = wri.toInt + 1 := by rw [ez8]; exact zaddg (by (try simp only [zlt, zle, zeq, zl_0, zl_1, zl_2, zl_3, zl_4, zl_5, zl_6, zl_7, zl_8, zl_9, zl_10, zl_11, zl_12, zl_13, zl_14, zl_15, zl_16, zl_17, zl_18, zl_19, zl_20, zl_21, zl_22, zl_23, zl_24, zl_25, zl_26, zl_27, zl_28, zl_29, zl_30, zl_31, zl_32, zl_33, zl_34, zl_35, zl_36, zl_37, zl_38, zl_39, zl_40, zl_41, zl_42, zl_43, zl_44, zl_45, zl_46, zl_47, zl_48, zl_49, zl_50, zl_51, zl_52, zl_53, zl_54, zl_55, zl_56, zl_57, zl_58, zl_59, zl_60, zl_61, zl_62, zl_63, zl_64, zl_65, zl_82, zl_99, zl_100, zl_160, zl_299, zl_300, zl_301, zl_382, zl_398, zl_399, zl_464, zl_680, zl_862, zl_999, zl_1000, zl_9999, zl_10000, zl_1000000, zl_m1, zl_m2, zl_m3, zl_m8, zl_97, zl_122, zl_90, zl_100000, zl_75] at hi_td hi_spp htx hz1 hz2 hz3 hz4 hz5 hz6 hz7 ⊢); omega) (by (try simp only [zlt, zle, zeq, zl_0, zl_1, zl_2, zl_3, zl_4, zl_5, zl_6, zl_7, zl_8, zl_9, zl_10, zl_11, zl_12, zl_13, zl_14, zl_15, zl_16, zl_17, zl_18, zl_19, zl_20, zl_21, zl_22, zl_23, zl_24, zl_25, zl_26, zl_27, zl_28, zl_29, zl_30, zl_31, zl_32, zl_33, zl_34, zl_35, zl_36, zl_37, zl_38, zl_39, zl_40, zl_41, zl_42, zl_43, zl_44, zl_45, zl_46, zl_47, zl_48, zl_49, zl_50, zl_51, zl_52, zl_53, zl_54, zl_55, zl_56, zl_57, zl_58, zl_59, zl_60, zl_61, zl_62, zl_63, zl_64, zl_65, zl_82, zl_99, zl_100, zl_160, zl_299, zl_300, zl_301, zl_382, zl_398, zl_399, zl_464, zl_680, zl_862, zl_999, zl_1000, zl_9999, zl_10000, zl_1000000, zl_m1, zl_m2, zl_m3, zl_m8, zl_97, zl_122, zl_90, zl_100000, zl_75] at hi_td hi_spp htx hz1 hz2 hz3 hz4 hz5 hz6 hz7 ⊢); omega)
  refine z_put Z i_X12 tyX12 tyX12_ok nmX12 hP hD hS 0 rfl rfl 14 (by decide) bw_1032 rfl rfl rfl (Nat.le_of_ble_eq_true rfl) dX12_emit_49 (fun H locs hP hD hS => ?_)
  have hP : va_P D vwCl ([(q, .inr (12, [.ref aA, .ref aI, .ref xT, .ref tP_, .int td, .int fu, .int fp, .int at_, .int plc, .int tok, .int num, .long wrd, .int tx0, .int cls, .int z8, .int cam, .ref pI, .int pid, .int ope, .int isw, .int so0, .int onc, .ref nm, .ref vL, .ref tR, .int spp, .int eat, .int ste, .ref rW, .ref sP, .ref oT, .ref bS, .ref aS, .ref aO, .ref cS, .ref wY])), (xT, .inl (cI, 2720, .inl (upd (upd fxt (z3 : Int32).toNatClampNeg p0) (z7 : Int32).toNatClampNeg p1)))]) H := hP
  have hD : va_D A ([(q, .inr (12, [.ref aA, .ref aI, .ref xT, .ref tP_, .int td, .int fu, .int fp, .int at_, .int plc, .int tok, .int num, .long wrd, .int tx0, .int cls, .int z8, .int cam, .ref pI, .int pid, .int ope, .int isw, .int so0, .int onc, .ref nm, .ref vL, .ref tR, .int spp, .int eat, .int ste, .ref rW, .ref sP, .ref oT, .ref bS, .ref aS, .ref aO, .ref cS, .ref wY])), (xT, .inl (cI, 2720, .inl (upd (upd fxt (z3 : Int32).toNatClampNeg p0) (z7 : Int32).toNatClampNeg p1)))]) := hD
  exact z_vret Z hP hD hS (⟨z8, (upd (upd fxt (z3 : Int32).toNatClampNeg p0) (z7 : Int32).toNatClampNeg p1), rfl, (by (try simp only [zlt, zle, zeq, zl_0, zl_1, zl_2, zl_3, zl_4, zl_5, zl_6, zl_7, zl_8, zl_9, zl_10, zl_11, zl_12, zl_13, zl_14, zl_15, zl_16, zl_17, zl_18, zl_19, zl_20, zl_21, zl_22, zl_23, zl_24, zl_25, zl_26, zl_27, zl_28, zl_29, zl_30, zl_31, zl_32, zl_33, zl_34, zl_35, zl_36, zl_37, zl_38, zl_39, zl_40, zl_41, zl_42, zl_43, zl_44, zl_45, zl_46, zl_47, zl_48, zl_49, zl_50, zl_51, zl_52, zl_53, zl_54, zl_55, zl_56, zl_57, zl_58, zl_59, zl_60, zl_61, zl_62, zl_63, zl_64, zl_65, zl_82, zl_99, zl_100, zl_160, zl_299, zl_300, zl_301, zl_382, zl_398, zl_399, zl_464, zl_680, zl_862, zl_999, zl_1000, zl_9999, zl_10000, zl_1000000, zl_m1, zl_m2, zl_m3, zl_m8, zl_97, zl_122, zl_90, zl_100000, zl_75, and_true, true_and, and_false, false_and, or_false, false_or, or_true, true_or, not_true_eq_false, not_false_eq_true] at hi_td hi_spp htx hz1 hz2 hz3 hz4 hz5 hz6 hz7 hz8 ⊢) <;> omega), (by rw [show (z3 : Int32).toNatClampNeg = tx0.toInt.toNat + 75 + 2 * wri.toInt.toNat from by have ez9 := zcl (x := z3) (by (try simp only [zlt, zle, zeq, zl_0, zl_1, zl_2, zl_3, zl_4, zl_5, zl_6, zl_7, zl_8, zl_9, zl_10, zl_11, zl_12, zl_13, zl_14, zl_15, zl_16, zl_17, zl_18, zl_19, zl_20, zl_21, zl_22, zl_23, zl_24, zl_25, zl_26, zl_27, zl_28, zl_29, zl_30, zl_31, zl_32, zl_33, zl_34, zl_35, zl_36, zl_37, zl_38, zl_39, zl_40, zl_41, zl_42, zl_43, zl_44, zl_45, zl_46, zl_47, zl_48, zl_49, zl_50, zl_51, zl_52, zl_53, zl_54, zl_55, zl_56, zl_57, zl_58, zl_59, zl_60, zl_61, zl_62, zl_63, zl_64, zl_65, zl_82, zl_99, zl_100, zl_160, zl_299, zl_300, zl_301, zl_382, zl_398, zl_399, zl_464, zl_680, zl_862, zl_999, zl_1000, zl_9999, zl_10000, zl_1000000, zl_m1, zl_m2, zl_m3, zl_m8, zl_97, zl_122, zl_90, zl_100000, zl_75] at hi_td hi_spp htx hz1 hz2 hz3 hz4 hz5 hz6 hz7 hz8 ⊢); omega); (try simp only [zlt, zle, zeq, zl_0, zl_1, zl_2, zl_3, zl_4, zl_5, zl_6, zl_7, zl_8, zl_9, zl_10, zl_11, zl_12, zl_13, zl_14, zl_15, zl_16, zl_17, zl_18, zl_19, zl_20, zl_21, zl_22, zl_23, zl_24, zl_25, zl_26, zl_27, zl_28, zl_29, zl_30, zl_31, zl_32, zl_33, zl_34, zl_35, zl_36, zl_37, zl_38, zl_39, zl_40, zl_41, zl_42, zl_43, zl_44, zl_45, zl_46, zl_47, zl_48, zl_49, zl_50, zl_51, zl_52, zl_53, zl_54, zl_55, zl_56, zl_57, zl_58, zl_59, zl_60, zl_61, zl_62, zl_63, zl_64, zl_65, zl_82, zl_99, zl_100, zl_160, zl_299, zl_300, zl_301, zl_382, zl_398, zl_399, zl_464, zl_680, zl_862, zl_999, zl_1000, zl_9999, zl_10000, zl_1000000, zl_m1, zl_m2, zl_m3, zl_m8, zl_97, zl_122, zl_90, zl_100000, zl_75] at hi_td hi_spp htx hz1 hz2 hz3 hz4 hz5 hz6 hz7 hz8 ez9 ⊢); omega, show (z7 : Int32).toNatClampNeg = tx0.toInt.toNat + 75 + 2 * wri.toInt.toNat + 1 from by have ez9 := zcl (x := z7) (by (try simp only [zlt, zle, zeq, zl_0, zl_1, zl_2, zl_3, zl_4, zl_5, zl_6, zl_7, zl_8, zl_9, zl_10, zl_11, zl_12, zl_13, zl_14, zl_15, zl_16, zl_17, zl_18, zl_19, zl_20, zl_21, zl_22, zl_23, zl_24, zl_25, zl_26, zl_27, zl_28, zl_29, zl_30, zl_31, zl_32, zl_33, zl_34, zl_35, zl_36, zl_37, zl_38, zl_39, zl_40, zl_41, zl_42, zl_43, zl_44, zl_45, zl_46, zl_47, zl_48, zl_49, zl_50, zl_51, zl_52, zl_53, zl_54, zl_55, zl_56, zl_57, zl_58, zl_59, zl_60, zl_61, zl_62, zl_63, zl_64, zl_65, zl_82, zl_99, zl_100, zl_160, zl_299, zl_300, zl_301, zl_382, zl_398, zl_399, zl_464, zl_680, zl_862, zl_999, zl_1000, zl_9999, zl_10000, zl_1000000, zl_m1, zl_m2, zl_m3, zl_m8, zl_97, zl_122, zl_90, zl_100000, zl_75] at hi_td hi_spp htx hz1 hz2 hz3 hz4 hz5 hz6 hz7 hz8 ⊢); omega); (try simp only [zlt, zle, zeq, zl_0, zl_1, zl_2, zl_3, zl_4, zl_5, zl_6, zl_7, zl_8, zl_9, zl_10, zl_11, zl_12, zl_13, zl_14, zl_15, zl_16, zl_17, zl_18, zl_19, zl_20, zl_21, zl_22, zl_23, zl_24, zl_25, zl_26, zl_27, zl_28, zl_29, zl_30, zl_31, zl_32, zl_33, zl_34, zl_35, zl_36, zl_37, zl_38, zl_39, zl_40, zl_41, zl_42, zl_43, zl_44, zl_45, zl_46, zl_47, zl_48, zl_49, zl_50, zl_51, zl_52, zl_53, zl_54, zl_55, zl_56, zl_57, zl_58, zl_59, zl_60, zl_61, zl_62, zl_63, zl_64, zl_65, zl_82, zl_99, zl_100, zl_160, zl_299, zl_300, zl_301, zl_382, zl_398, zl_399, zl_464, zl_680, zl_862, zl_999, zl_1000, zl_9999, zl_10000, zl_1000000, zl_m1, zl_m2, zl_m3, zl_m8, zl_97, zl_122, zl_90, zl_100000, zl_75] at hi_td hi_spp htx hz1 hz2 hz3 hz4 hz5 hz6 hz7 hz8 ez9 ⊢); omega])⟩) dX12_emit_52 (Nat.le_of_ble_eq_true rfl) (Nat.le_of_ble_eq_true rfl)
set_option maxHeartbeats 4000000 in
set_option maxRecDepth 100000 in
theorem c_X12_push (l : Launch) (D : va_G) (cI cM cT cJ cZ : ClassId) (q : Nat) (p0 : Int32) (aA : Nat) (aI : Nat) (xT : Nat) (tP_ : Nat) (td : Int32) (fu : Int32) (fp : Int32) (at_ : Int32) (plc : Int32) (tok : Int32) (num : Int32) (wrd : Int64) (tx0 : Int32) (cls : Int32) (wri : Int32) (cam : Int32) (pI : Nat) (pid : Int32) (ope : Int32) (isw : Int32) (so0 : Int32) (onc : Int32) (nm : Nat) (vL : Nat) (tR : Nat) (spp : Int32) (eat : Int32) (ste : Int32) (rW : Nat) (sP : Nat) (oT : Nat) (bS : Nat) (aS : Nat) (aO : Nat) (cS : Nat) (wY : Nat) (fpi : Nat → Int32) (hi_td : 0 ≤ td.toInt ∧ td.toInt ≤ 300) (hi_spp : 0 ≤ spp.toInt ∧ spp.toInt ≤ 299) (hpp : 0 ≤ pid.toInt ∧ pid.toInt ≤ 150) : Cv l D (ty3 cI cM cT cJ cZ) yX12_push cX12_push 2 0 0 0 [.ref q, .int p0] ([(q, .inr (12, [.ref aA, .ref aI, .ref xT, .ref tP_, .int td, .int fu, .int fp, .int at_, .int plc, .int tok, .int num, .long wrd, .int tx0, .int cls, .int wri, .int cam, .ref pI, .int pid, .int ope, .int isw, .int so0, .int onc, .ref nm, .ref vL, .ref tR, .int spp, .int eat, .int ste, .ref rW, .ref sP, .ref oT, .ref bS, .ref aS, .ref aO, .ref cS, .ref wY])), (pI, .inl (cI, 160, .inl fpi))]) (fun u => ∃ (pid_n : Int32) (fpi_n : Nat → Int32), u = [(q, .inr (12, [.ref aA, .ref aI, .ref xT, .ref tP_, .int td, .int fu, .int fp, .int at_, .int plc, .int tok, .int num, .long wrd, .int tx0, .int cls, .int wri, .int cam, .ref pI, .int pid_n, .int ope, .int isw, .int so0, .int onc, .ref nm, .ref vL, .ref tR, .int spp, .int eat, .int ste, .ref rW, .ref sP, .ref oT, .ref bS, .ref aS, .ref aO, .ref cS, .ref wY])), (pI, .inl (cI, 160, .inl fpi_n))] ∧ (pid_n.toInt = pid.toInt + 1) ∧ fpi_n = upd fpi pid.toInt.toNat p0) := by
  refine Cv.of (by decide +kernel) (Nat.le_of_ble_eq_true rfl) ?_
  intro p e s m below meth c A ls Z hin hP hD hl
  have hx := Z.1
  have hb := Z.2.1
  have hS : va_S A s.heap s.heap [] := va_S.rf
  have hl : lv_has ls 2 [(0, .ref q), (1, .int p0)] := hl
  skip
  refine lv_aload_n hx hb dX12_push_0 rfl (lv_at hl 0 rfl) ?_
  refine z_get Z i_X12 hP 0 rfl rfl 16 (by decide) bw_1033 rfl dX12_push_1 ?_
  refine lv_aload_n hx hb dX12_push_4 rfl (lv_at hl 0 rfl) ?_
  refine z_get Z i_X12 hP 0 rfl rfl 17 (by decide) bw_1034 rfl dX12_push_5 ?_
  refine lv_iload_n hx hb dX12_push_8 rfl (lv_at hl 1 rfl) ?_
  refine z_iast Z hP hD hS 1 0 rfl rfl (vp_in_iff.mpr (by (try simp only [zlt, zle, zeq, zl_0, zl_1, zl_2, zl_3, zl_4, zl_5, zl_6, zl_7, zl_8, zl_9, zl_10, zl_11, zl_12, zl_13, zl_14, zl_15, zl_16, zl_17, zl_18, zl_19, zl_20, zl_21, zl_22, zl_23, zl_24, zl_25, zl_26, zl_27, zl_28, zl_29, zl_30, zl_31, zl_32, zl_33, zl_34, zl_35, zl_36, zl_37, zl_38, zl_39, zl_40, zl_41, zl_42, zl_43, zl_44, zl_45, zl_46, zl_47, zl_48, zl_49, zl_50, zl_51, zl_52, zl_53, zl_54, zl_55, zl_56, zl_57, zl_58, zl_59, zl_60, zl_61, zl_62, zl_63, zl_64, zl_65, zl_82, zl_99, zl_100, zl_160, zl_299, zl_300, zl_301, zl_382, zl_398, zl_399, zl_464, zl_680, zl_862, zl_999, zl_1000, zl_9999, zl_10000, zl_1000000, zl_m1, zl_m2, zl_m3, zl_m8, zl_97, zl_122, zl_90, zl_100000, zl_75] at hi_td hi_spp hpp ⊢); omega)) dX12_push_9 (fun H locs hP hD hS => ?_)
  have hP : va_P D vwCl ([(q, .inr (12, [.ref aA, .ref aI, .ref xT, .ref tP_, .int td, .int fu, .int fp, .int at_, .int plc, .int tok, .int num, .long wrd, .int tx0, .int cls, .int wri, .int cam, .ref pI, .int pid, .int ope, .int isw, .int so0, .int onc, .ref nm, .ref vL, .ref tR, .int spp, .int eat, .int ste, .ref rW, .ref sP, .ref oT, .ref bS, .ref aS, .ref aO, .ref cS, .ref wY])), (pI, .inl (cI, 160, .inl (upd fpi (pid : Int32).toNatClampNeg p0)))]) H := hP
  have hD : va_D A ([(q, .inr (12, [.ref aA, .ref aI, .ref xT, .ref tP_, .int td, .int fu, .int fp, .int at_, .int plc, .int tok, .int num, .long wrd, .int tx0, .int cls, .int wri, .int cam, .ref pI, .int pid, .int ope, .int isw, .int so0, .int onc, .ref nm, .ref vL, .ref tR, .int spp, .int eat, .int ste, .ref rW, .ref sP, .ref oT, .ref bS, .ref aS, .ref aO, .ref cS, .ref wY])), (pI, .inl (cI, 160, .inl (upd fpi (pid : Int32).toNatClampNeg p0)))]) := hD
  refine lv_aload_n hx hb dX12_push_10 rfl (lv_at hl 0 rfl) ?_
  refine lv_dup hx hb dX12_push_11 rfl ?_
  refine z_get Z i_X12 hP 0 rfl rfl 17 (by decide) bw_1034 rfl dX12_push_12 ?_
  refine lv_iconst (v := 1) hx hb dX12_push_15 (by decide) ?_
  refine lv_iadd hx hb dX12_push_16 ?_
  refine lv_topi (fun z1 ez1 => ?_)
  have hz1 : z1.toInt = pid.toInt + 1 := by rw [ez1]; exact zaddg (by (try simp only [zlt, zle, zeq, zl_0, zl_1, zl_2, zl_3, zl_4, zl_5, zl_6, zl_7, zl_8, zl_9, zl_10, zl_11, zl_12, zl_13, zl_14, zl_15, zl_16, zl_17, zl_18, zl_19, zl_20, zl_21, zl_22, zl_23, zl_24, zl_25, zl_26, zl_27, zl_28, zl_29, zl_30, zl_31, zl_32, zl_33, zl_34, zl_35, zl_36, zl_37, zl_38, zl_39, zl_40, zl_41, zl_42, zl_43, zl_44, zl_45, zl_46, zl_47, zl_48, zl_49, zl_50, zl_51, zl_52, zl_53, zl_54, zl_55, zl_56, zl_57, zl_58, zl_59, zl_60, zl_61, zl_62, zl_63, zl_64, zl_65, zl_82, zl_99, zl_100, zl_160, zl_299, zl_300, zl_301, zl_382, zl_398, zl_399, zl_464, zl_680, zl_862, zl_999, zl_1000, zl_9999, zl_10000, zl_1000000, zl_m1, zl_m2, zl_m3, zl_m8, zl_97, zl_122, zl_90, zl_100000, zl_75] at hi_td hi_spp hpp ⊢); omega) (by (try simp only [zlt, zle, zeq, zl_0, zl_1, zl_2, zl_3, zl_4, zl_5, zl_6, zl_7, zl_8, zl_9, zl_10, zl_11, zl_12, zl_13, zl_14, zl_15, zl_16, zl_17, zl_18, zl_19, zl_20, zl_21, zl_22, zl_23, zl_24, zl_25, zl_26, zl_27, zl_28, zl_29, zl_30, zl_31, zl_32, zl_33, zl_34, zl_35, zl_36, zl_37, zl_38, zl_39, zl_40, zl_41, zl_42, zl_43, zl_44, zl_45, zl_46, zl_47, zl_48, zl_49, zl_50, zl_51, zl_52, zl_53, zl_54, zl_55, zl_56, zl_57, zl_58, zl_59, zl_60, zl_61, zl_62, zl_63, zl_64, zl_65, zl_82, zl_99, zl_100, zl_160, zl_299, zl_300, zl_301, zl_382, zl_398, zl_399, zl_464, zl_680, zl_862, zl_999, zl_1000, zl_9999, zl_10000, zl_1000000, zl_m1, zl_m2, zl_m3, zl_m8, zl_97, zl_122, zl_90, zl_100000, zl_75] at hi_td hi_spp hpp ⊢); omega)
  refine z_put Z i_X12 tyX12 tyX12_ok nmX12 hP hD hS 0 rfl rfl 17 (by decide) bw_1034 rfl rfl rfl (Nat.le_of_ble_eq_true rfl) dX12_push_17 (fun H locs hP hD hS => ?_)
  have hP : va_P D vwCl ([(q, .inr (12, [.ref aA, .ref aI, .ref xT, .ref tP_, .int td, .int fu, .int fp, .int at_, .int plc, .int tok, .int num, .long wrd, .int tx0, .int cls, .int wri, .int cam, .ref pI, .int z1, .int ope, .int isw, .int so0, .int onc, .ref nm, .ref vL, .ref tR, .int spp, .int eat, .int ste, .ref rW, .ref sP, .ref oT, .ref bS, .ref aS, .ref aO, .ref cS, .ref wY])), (pI, .inl (cI, 160, .inl (upd fpi (pid : Int32).toNatClampNeg p0)))]) H := hP
  have hD : va_D A ([(q, .inr (12, [.ref aA, .ref aI, .ref xT, .ref tP_, .int td, .int fu, .int fp, .int at_, .int plc, .int tok, .int num, .long wrd, .int tx0, .int cls, .int wri, .int cam, .ref pI, .int z1, .int ope, .int isw, .int so0, .int onc, .ref nm, .ref vL, .ref tR, .int spp, .int eat, .int ste, .ref rW, .ref sP, .ref oT, .ref bS, .ref aS, .ref aO, .ref cS, .ref wY])), (pI, .inl (cI, 160, .inl (upd fpi (pid : Int32).toNatClampNeg p0)))]) := hD
  exact z_vret Z hP hD hS (⟨z1, (upd fpi (pid : Int32).toNatClampNeg p0), rfl, (by (try simp only [zlt, zle, zeq, zl_0, zl_1, zl_2, zl_3, zl_4, zl_5, zl_6, zl_7, zl_8, zl_9, zl_10, zl_11, zl_12, zl_13, zl_14, zl_15, zl_16, zl_17, zl_18, zl_19, zl_20, zl_21, zl_22, zl_23, zl_24, zl_25, zl_26, zl_27, zl_28, zl_29, zl_30, zl_31, zl_32, zl_33, zl_34, zl_35, zl_36, zl_37, zl_38, zl_39, zl_40, zl_41, zl_42, zl_43, zl_44, zl_45, zl_46, zl_47, zl_48, zl_49, zl_50, zl_51, zl_52, zl_53, zl_54, zl_55, zl_56, zl_57, zl_58, zl_59, zl_60, zl_61, zl_62, zl_63, zl_64, zl_65, zl_82, zl_99, zl_100, zl_160, zl_299, zl_300, zl_301, zl_382, zl_398, zl_399, zl_464, zl_680, zl_862, zl_999, zl_1000, zl_9999, zl_10000, zl_1000000, zl_m1, zl_m2, zl_m3, zl_m8, zl_97, zl_122, zl_90, zl_100000, zl_75, and_true, true_and, and_false, false_and, or_false, false_or, or_true, true_or, not_true_eq_false, not_false_eq_true] at hi_td hi_spp hpp hz1 ⊢) <;> omega), rfl⟩) dX12_push_20 (Nat.le_of_ble_eq_true rfl) (Nat.le_of_ble_eq_true rfl)
set_option maxHeartbeats 4000000 in
set_option maxRecDepth 100000 in
theorem c_X12_rank (l : Launch) (D : va_G) (cI cM cT cJ cZ : ClassId) (p0 : Int32) : Ci l D (ty3 cI cM cT cJ cZ) yX12_rank cX12_rank 1 (some .int) 0 0 0 [.int p0] ([]) (fun r u => u = [] ∧ r.toInt = rk p0.toInt) := by
  refine Ci.of (by decide +kernel) (Nat.le_of_ble_eq_true rfl) ?_
  intro p e s m below meth c A ls Z hin hP hD hl
  have hx := Z.1
  have hb := Z.2.1
  have hS : va_S A s.heap s.heap [] := va_S.rf
  have hl : lv_has ls 1 [(0, .int p0)] := hl
  skip
  refine lv_iload_n hx hb dX12_rank_0 rfl (lv_at hl 0 rfl) ?_
  refine lv_bipush (v := 40) hx hb dX12_rank_1 (by decide) ?_
  refine lv_icmp_lt (tgt := 10) hx hb dX12_rank_3 (by decide) (fun c1 => ?_) (fun c1 => ?_)
  · refine lv_iload_n hx hb dX12_rank_10 rfl (lv_at hl 0 rfl) ?_
    refine lv_bipush (v := 22) hx hb dX12_rank_11 (by decide) ?_
    refine lv_icmp_ne (tgt := 20) hx hb dX12_rank_13 (by decide) (fun c2 => ?_) (fun c2 => ?_)
    · refine lv_iload_n hx hb dX12_rank_20 rfl (lv_at hl 0 rfl) ?_
      refine lv_bipush (v := 21) hx hb dX12_rank_21 (by decide) ?_
      refine lv_icmp_ne (tgt := 30) hx hb dX12_rank_23 (by decide) (fun c3 => ?_) (fun c3 => ?_)
      · refine lv_iload_n hx hb dX12_rank_30 rfl (lv_at hl 0 rfl) ?_
        refine lv_bipush (v := 20) hx hb dX12_rank_31 (by decide) ?_
        refine lv_icmp_ne (tgt := 40) hx hb dX12_rank_33 (by decide) (fun c4 => ?_) (fun c4 => ?_)
        · refine lv_iload_n hx hb dX12_rank_40 rfl (lv_at hl 0 rfl) ?_
          refine lv_bipush (v := 10) hx hb dX12_rank_41 (by decide) ?_
          refine lv_icmp_lt (tgt := 50) hx hb dX12_rank_43 (by decide) (fun c5 => ?_) (fun c5 => ?_)
          · refine lv_iload_n hx hb dX12_rank_50 rfl (lv_at hl 0 rfl) ?_
            refine lv_iconst (v := 2) hx hb dX12_rank_51 (by decide) ?_
            refine lv_icmp_ne (tgt := 60) hx hb dX12_rank_52 (by decide) (fun c6 => ?_) (fun c6 => ?_)
            · refine lv_iload_n hx hb dX12_rank_60 rfl (lv_at hl 0 rfl) ?_
              refine lv_iconst (v := 5) hx hb dX12_rank_61 (by decide) ?_
              refine lv_icmp_lt (tgt := 70) hx hb dX12_rank_62 (by decide) (fun c7 => ?_) (fun c7 => ?_)
              · refine lv_iconst (v := 5) hx hb dX12_rank_70 (by decide) ?_
                exact z_ret Z rfl hP hD hS (⟨rfl, (by (try simp only [zlt, zle, zeq, zl_0, zl_1, zl_2, zl_3, zl_4, zl_5, zl_6, zl_7, zl_8, zl_9, zl_10, zl_11, zl_12, zl_13, zl_14, zl_15, zl_16, zl_17, zl_18, zl_19, zl_20, zl_21, zl_22, zl_23, zl_24, zl_25, zl_26, zl_27, zl_28, zl_29, zl_30, zl_31, zl_32, zl_33, zl_34, zl_35, zl_36, zl_37, zl_38, zl_39, zl_40, zl_41, zl_42, zl_43, zl_44, zl_45, zl_46, zl_47, zl_48, zl_49, zl_50, zl_51, zl_52, zl_53, zl_54, zl_55, zl_56, zl_57, zl_58, zl_59, zl_60, zl_61, zl_62, zl_63, zl_64, zl_65, zl_82, zl_99, zl_100, zl_160, zl_299, zl_300, zl_301, zl_382, zl_398, zl_399, zl_464, zl_680, zl_862, zl_999, zl_1000, zl_9999, zl_10000, zl_1000000, zl_m1, zl_m2, zl_m3, zl_m8, zl_97, zl_122, zl_90, zl_100000, zl_75] at c1 c2 c3 c4 c5 c6 c7 ⊢); unfold rk; (repeat' split) <;> omega)⟩) dX12_rank_71 (Nat.le_of_ble_eq_true rfl) (Nat.le_of_ble_eq_true rfl)
              · refine lv_bipush (v := 6) hx hb dX12_rank_65 (by decide) ?_
                refine lv_goto (tgt := 71) hx hb dX12_rank_67 (by decide) ?_
                exact z_ret Z rfl hP hD hS (⟨rfl, (by (try simp only [zlt, zle, zeq, zl_0, zl_1, zl_2, zl_3, zl_4, zl_5, zl_6, zl_7, zl_8, zl_9, zl_10, zl_11, zl_12, zl_13, zl_14, zl_15, zl_16, zl_17, zl_18, zl_19, zl_20, zl_21, zl_22, zl_23, zl_24, zl_25, zl_26, zl_27, zl_28, zl_29, zl_30, zl_31, zl_32, zl_33, zl_34, zl_35, zl_36, zl_37, zl_38, zl_39, zl_40, zl_41, zl_42, zl_43, zl_44, zl_45, zl_46, zl_47, zl_48, zl_49, zl_50, zl_51, zl_52, zl_53, zl_54, zl_55, zl_56, zl_57, zl_58, zl_59, zl_60, zl_61, zl_62, zl_63, zl_64, zl_65, zl_82, zl_99, zl_100, zl_160, zl_299, zl_300, zl_301, zl_382, zl_398, zl_399, zl_464, zl_680, zl_862, zl_999, zl_1000, zl_9999, zl_10000, zl_1000000, zl_m1, zl_m2, zl_m3, zl_m8, zl_97, zl_122, zl_90, zl_100000, zl_75] at c1 c2 c3 c4 c5 c6 c7 ⊢); unfold rk; (repeat' split) <;> omega)⟩) dX12_rank_71 (Nat.le_of_ble_eq_true rfl) (Nat.le_of_ble_eq_true rfl)
            · refine lv_bipush (v := 7) hx hb dX12_rank_55 (by decide) ?_
              refine lv_goto (tgt := 71) hx hb dX12_rank_57 (by decide) ?_
              exact z_ret Z rfl hP hD hS (⟨rfl, (by (try simp only [zlt, zle, zeq, zl_0, zl_1, zl_2, zl_3, zl_4, zl_5, zl_6, zl_7, zl_8, zl_9, zl_10, zl_11, zl_12, zl_13, zl_14, zl_15, zl_16, zl_17, zl_18, zl_19, zl_20, zl_21, zl_22, zl_23, zl_24, zl_25, zl_26, zl_27, zl_28, zl_29, zl_30, zl_31, zl_32, zl_33, zl_34, zl_35, zl_36, zl_37, zl_38, zl_39, zl_40, zl_41, zl_42, zl_43, zl_44, zl_45, zl_46, zl_47, zl_48, zl_49, zl_50, zl_51, zl_52, zl_53, zl_54, zl_55, zl_56, zl_57, zl_58, zl_59, zl_60, zl_61, zl_62, zl_63, zl_64, zl_65, zl_82, zl_99, zl_100, zl_160, zl_299, zl_300, zl_301, zl_382, zl_398, zl_399, zl_464, zl_680, zl_862, zl_999, zl_1000, zl_9999, zl_10000, zl_1000000, zl_m1, zl_m2, zl_m3, zl_m8, zl_97, zl_122, zl_90, zl_100000, zl_75] at c1 c2 c3 c4 c5 c6 ⊢); unfold rk; (repeat' split) <;> omega)⟩) dX12_rank_71 (Nat.le_of_ble_eq_true rfl) (Nat.le_of_ble_eq_true rfl)
          · refine lv_iconst (v := 4) hx hb dX12_rank_46 (by decide) ?_
            refine lv_goto (tgt := 71) hx hb dX12_rank_47 (by decide) ?_
            exact z_ret Z rfl hP hD hS (⟨rfl, (by (try simp only [zlt, zle, zeq, zl_0, zl_1, zl_2, zl_3, zl_4, zl_5, zl_6, zl_7, zl_8, zl_9, zl_10, zl_11, zl_12, zl_13, zl_14, zl_15, zl_16, zl_17, zl_18, zl_19, zl_20, zl_21, zl_22, zl_23, zl_24, zl_25, zl_26, zl_27, zl_28, zl_29, zl_30, zl_31, zl_32, zl_33, zl_34, zl_35, zl_36, zl_37, zl_38, zl_39, zl_40, zl_41, zl_42, zl_43, zl_44, zl_45, zl_46, zl_47, zl_48, zl_49, zl_50, zl_51, zl_52, zl_53, zl_54, zl_55, zl_56, zl_57, zl_58, zl_59, zl_60, zl_61, zl_62, zl_63, zl_64, zl_65, zl_82, zl_99, zl_100, zl_160, zl_299, zl_300, zl_301, zl_382, zl_398, zl_399, zl_464, zl_680, zl_862, zl_999, zl_1000, zl_9999, zl_10000, zl_1000000, zl_m1, zl_m2, zl_m3, zl_m8, zl_97, zl_122, zl_90, zl_100000, zl_75] at c1 c2 c3 c4 c5 ⊢); unfold rk; (repeat' split) <;> omega)⟩) dX12_rank_71 (Nat.le_of_ble_eq_true rfl) (Nat.le_of_ble_eq_true rfl)
        · refine lv_iconst (v := 3) hx hb dX12_rank_36 (by decide) ?_
          refine lv_goto (tgt := 71) hx hb dX12_rank_37 (by decide) ?_
          exact z_ret Z rfl hP hD hS (⟨rfl, (by (try simp only [zlt, zle, zeq, zl_0, zl_1, zl_2, zl_3, zl_4, zl_5, zl_6, zl_7, zl_8, zl_9, zl_10, zl_11, zl_12, zl_13, zl_14, zl_15, zl_16, zl_17, zl_18, zl_19, zl_20, zl_21, zl_22, zl_23, zl_24, zl_25, zl_26, zl_27, zl_28, zl_29, zl_30, zl_31, zl_32, zl_33, zl_34, zl_35, zl_36, zl_37, zl_38, zl_39, zl_40, zl_41, zl_42, zl_43, zl_44, zl_45, zl_46, zl_47, zl_48, zl_49, zl_50, zl_51, zl_52, zl_53, zl_54, zl_55, zl_56, zl_57, zl_58, zl_59, zl_60, zl_61, zl_62, zl_63, zl_64, zl_65, zl_82, zl_99, zl_100, zl_160, zl_299, zl_300, zl_301, zl_382, zl_398, zl_399, zl_464, zl_680, zl_862, zl_999, zl_1000, zl_9999, zl_10000, zl_1000000, zl_m1, zl_m2, zl_m3, zl_m8, zl_97, zl_122, zl_90, zl_100000, zl_75] at c1 c2 c3 c4 ⊢); unfold rk; (repeat' split) <;> omega)⟩) dX12_rank_71 (Nat.le_of_ble_eq_true rfl) (Nat.le_of_ble_eq_true rfl)
      · refine lv_iconst (v := 2) hx hb dX12_rank_26 (by decide) ?_
        refine lv_goto (tgt := 71) hx hb dX12_rank_27 (by decide) ?_
        exact z_ret Z rfl hP hD hS (⟨rfl, (by (try simp only [zlt, zle, zeq, zl_0, zl_1, zl_2, zl_3, zl_4, zl_5, zl_6, zl_7, zl_8, zl_9, zl_10, zl_11, zl_12, zl_13, zl_14, zl_15, zl_16, zl_17, zl_18, zl_19, zl_20, zl_21, zl_22, zl_23, zl_24, zl_25, zl_26, zl_27, zl_28, zl_29, zl_30, zl_31, zl_32, zl_33, zl_34, zl_35, zl_36, zl_37, zl_38, zl_39, zl_40, zl_41, zl_42, zl_43, zl_44, zl_45, zl_46, zl_47, zl_48, zl_49, zl_50, zl_51, zl_52, zl_53, zl_54, zl_55, zl_56, zl_57, zl_58, zl_59, zl_60, zl_61, zl_62, zl_63, zl_64, zl_65, zl_82, zl_99, zl_100, zl_160, zl_299, zl_300, zl_301, zl_382, zl_398, zl_399, zl_464, zl_680, zl_862, zl_999, zl_1000, zl_9999, zl_10000, zl_1000000, zl_m1, zl_m2, zl_m3, zl_m8, zl_97, zl_122, zl_90, zl_100000, zl_75] at c1 c2 c3 ⊢); unfold rk; (repeat' split) <;> omega)⟩) dX12_rank_71 (Nat.le_of_ble_eq_true rfl) (Nat.le_of_ble_eq_true rfl)
    · refine lv_iconst (v := 1) hx hb dX12_rank_16 (by decide) ?_
      refine lv_goto (tgt := 71) hx hb dX12_rank_17 (by decide) ?_
      exact z_ret Z rfl hP hD hS (⟨rfl, (by (try simp only [zlt, zle, zeq, zl_0, zl_1, zl_2, zl_3, zl_4, zl_5, zl_6, zl_7, zl_8, zl_9, zl_10, zl_11, zl_12, zl_13, zl_14, zl_15, zl_16, zl_17, zl_18, zl_19, zl_20, zl_21, zl_22, zl_23, zl_24, zl_25, zl_26, zl_27, zl_28, zl_29, zl_30, zl_31, zl_32, zl_33, zl_34, zl_35, zl_36, zl_37, zl_38, zl_39, zl_40, zl_41, zl_42, zl_43, zl_44, zl_45, zl_46, zl_47, zl_48, zl_49, zl_50, zl_51, zl_52, zl_53, zl_54, zl_55, zl_56, zl_57, zl_58, zl_59, zl_60, zl_61, zl_62, zl_63, zl_64, zl_65, zl_82, zl_99, zl_100, zl_160, zl_299, zl_300, zl_301, zl_382, zl_398, zl_399, zl_464, zl_680, zl_862, zl_999, zl_1000, zl_9999, zl_10000, zl_1000000, zl_m1, zl_m2, zl_m3, zl_m8, zl_97, zl_122, zl_90, zl_100000, zl_75] at c1 c2 ⊢); unfold rk; (repeat' split) <;> omega)⟩) dX12_rank_71 (Nat.le_of_ble_eq_true rfl) (Nat.le_of_ble_eq_true rfl)
  · refine lv_iconst (v := 0) hx hb dX12_rank_6 (by decide) ?_
    refine lv_goto (tgt := 71) hx hb dX12_rank_7 (by decide) ?_
    exact z_ret Z rfl hP hD hS (⟨rfl, (by (try simp only [zlt, zle, zeq, zl_0, zl_1, zl_2, zl_3, zl_4, zl_5, zl_6, zl_7, zl_8, zl_9, zl_10, zl_11, zl_12, zl_13, zl_14, zl_15, zl_16, zl_17, zl_18, zl_19, zl_20, zl_21, zl_22, zl_23, zl_24, zl_25, zl_26, zl_27, zl_28, zl_29, zl_30, zl_31, zl_32, zl_33, zl_34, zl_35, zl_36, zl_37, zl_38, zl_39, zl_40, zl_41, zl_42, zl_43, zl_44, zl_45, zl_46, zl_47, zl_48, zl_49, zl_50, zl_51, zl_52, zl_53, zl_54, zl_55, zl_56, zl_57, zl_58, zl_59, zl_60, zl_61, zl_62, zl_63, zl_64, zl_65, zl_82, zl_99, zl_100, zl_160, zl_299, zl_300, zl_301, zl_382, zl_398, zl_399, zl_464, zl_680, zl_862, zl_999, zl_1000, zl_9999, zl_10000, zl_1000000, zl_m1, zl_m2, zl_m3, zl_m8, zl_97, zl_122, zl_90, zl_100000, zl_75] at c1 ⊢); unfold rk; (repeat' split) <;> omega)⟩) dX12_rank_71 (Nat.le_of_ble_eq_true rfl) (Nat.le_of_ble_eq_true rfl)
set_option maxHeartbeats 4000000 in
set_option maxRecDepth 100000 in
theorem lp_X12_settle {p : Program} (l : Launch) {e : Env} {s : State} {m : MethodId} {below : List Frame} {meth : Method} {c : Code} {A : Nat → Prop} (D : va_G) (cI cM cT cJ cZ : ClassId) (q : Nat) (p0 : Int32) (aA : Nat) (aI : Nat) (xT : Nat) (tP_ : Nat) (td : Int32) (fu : Int32) (fp : Int32) (at_ : Int32) (plc : Int32) (tok : Int32) (num : Int32) (wrd : Int64) (tx0 : Int32) (cls : Int32) (wri : Int32) (cam : Int32) (pI : Nat) (pid : Int32) (ope : Int32) (isw : Int32) (so0 : Int32) (onc : Int32) (nm : Nat) (vL : Nat) (tR : Nat) (spp : Int32) (eat : Int32) (ste : Int32) (rW : Nat) (sP : Nat) (oT : Nat) (bS : Nat) (aS : Nat) (aO : Nat) (cS : Nat) (wY : Nat) (fxt : Nat → Int32) (fpi : Nat → Int32) (F : Nat) (L : List Int) (Z : Zx p s m ([.ref q, .int p0] : List Value).toArray meth c cX12_settle 2 none yX12_settle.cls A (ty3 cI cM cT cJ cZ) D) (hi_td : 0 ≤ td.toInt ∧ td.toInt ≤ 300) (hi_spp : 0 ≤ spp.toInt ∧ spp.toInt ≤ 299) (hps : PSx fxt fpi tx0.toInt F L wri.toInt pid.toInt ope.toInt (vA L + 1) (vT L)) (hcd : (1 ≤ p0.toInt ∧ p0.toInt ≤ 7) ∧ (4 ≤ p0.toInt ∨ vC L = 1 ∨ vK L = 0)) (hw : (0 ≤ tx0.toInt ∧ tx0.toInt ≤ 2040) ∧ wri.toInt + pid.toInt ≤ 300) : ∀ (n0 : Nat) (L2 : List Int) (n2 : Int) (b2 : Int) (tv : Int) (vwri : Int32) (vpid : Int32) (vope : Int32) (vfxt : Nat → Int32) (h1 : vpid.toInt = (L2.length : Int)) (hRp : Rep fpi L2) (hSV : SV p0.toInt (vC L) L2 n2 b2 tv) (hO : vope.toInt = vO L2 ∧ vO L2 ≤ 8) (hG : GP vfxt (tx0.toInt.toNat + 75) F vwri.toInt.toNat n2 b2) (hw2 : 0 ≤ vwri.toInt ∧ vwri.toInt + vpid.toInt = wri.toInt + pid.toInt) (hk : vK L2 = vK L ∧ vM L2 = vM L ∧ vX L2 = vX L) (hB : Below (tx0.toInt.toNat + 75 + 2 * F) fxt vfxt), L2.length < n0 → ∀ (H : Heap) (locs : List Loc) (ls : Array Slot), va_P D vwCl ([(q, .inr (12, [.ref aA, .ref aI, .ref xT, .ref tP_, .int td, .int fu, .int fp, .int at_, .int plc, .int tok, .int num, .long wrd, .int tx0, .int cls, .int vwri, .int cam, .ref pI, .int vpid, .int vope, .int isw, .int so0, .int onc, .ref nm, .ref vL, .ref tR, .int spp, .int eat, .int ste, .ref rW, .ref sP, .ref oT, .ref bS, .ref aS, .ref aO, .ref cS, .ref wY])), (xT, .inl (cI, 2720, .inl vfxt)), (pI, .inl (cI, 160, .inl fpi))]) H → va_D A ([(q, .inr (12, [.ref aA, .ref aI, .ref xT, .ref tP_, .int td, .int fu, .int fp, .int at_, .int plc, .int tok, .int num, .long wrd, .int tx0, .int cls, .int vwri, .int cam, .ref pI, .int vpid, .int vope, .int isw, .int so0, .int onc, .ref nm, .ref vL, .ref tR, .int spp, .int eat, .int ste, .ref rW, .ref sP, .ref oT, .ref bS, .ref aS, .ref aO, .ref cS, .ref wY])), (xT, .inl (cI, 2720, .inl vfxt)), (pI, .inl (cI, 160, .inl fpi))]) → va_S A s.heap H locs → lv_has ls 2 [(0, .ref q), (1, .int p0)] → W p l e (rmv 1 0 0) s m ([.ref q, .int p0] : List Value).toArray below meth c H locs 0 0 (MQ below (va_Qv (fun u => ∃ (wri_n : Int32) (pid_n : Int32) (ope_n : Int32) (fxt_n : Nat → Int32) (L2 : List Int) (n2 : Int) (b2 : Int), u = [(q, .inr (12, [.ref aA, .ref aI, .ref xT, .ref tP_, .int td, .int fu, .int fp, .int at_, .int plc, .int tok, .int num, .long wrd, .int tx0, .int cls, .int wri_n, .int cam, .ref pI, .int pid_n, .int ope_n, .int isw, .int so0, .int onc, .ref nm, .ref vL, .ref tR, .int spp, .int eat, .int ste, .ref rW, .ref sP, .ref oT, .ref bS, .ref aS, .ref aO, .ref cS, .ref wY])), (xT, .inl (cI, 2720, .inl fxt_n)), (pI, .inl (cI, 160, .inl fpi))] ∧ (wri_n.toInt + pid_n.toInt = wri.toInt + pid.toInt) ∧ (vK L2 = vK L ∧ vM L2 = vM L ∧ vX L2 = vX L ∧ vR L2 < p0.toInt) ∧ (((vC L = 1 ∧ p0.toInt ≤ 4) ∧ n2 = vA L2 ∧ b2 = vT L2 + 1) ∨ (¬ (vC L = 1 ∧ p0.toInt ≤ 4) ∧ n2 = vA L2 + 1 ∧ b2 = vT L2)) ∧ PSx fxt_n fpi tx0.toInt F L2 wri_n.toInt pid_n.toInt ope_n.toInt n2 b2 ∧ Below (tx0.toInt.toNat + 75 + 2 * F) fxt fxt_n) (cB D (ty3 cI cM cT cJ cZ) A) A) ([.ref q, .int p0] : List Value).toArray s 0 0 A) (F0 m 0 ls []) := by
  have hx := Z.1
  have hb := Z.2.1
  intro n0
  induction n0 with
  | zero => intro L2 n2 b2 tv vwri vpid vope vfxt h1 hRp hSV hO hG hw2 hk hB hm; exact absurd hm (Nat.not_lt_zero _)
  | succ n0 ih =>
    intro L2 n2 b2 tv vwri vpid vope vfxt h1 hRp hSV hO hG hw2 hk hB hm H locs ls hP hD hS hl
    refine lv_aload_n hx hb dX12_settle_0 rfl (lv_at hl 0 rfl) ?_
    refine z_get Z i_X12 hP 0 rfl rfl 17 (by decide) bw_1034 rfl dX12_settle_1 ?_
    refine lv_if_le (tgt := 89) hx hb dX12_settle_4 (by decide) (fun c1 => ?_) (fun c1 => ?_)
    · have hnil : L2 = [] := List.length_eq_zero_iff.mp (by (try simp only [zlt, zle, zeq, zl_0, zl_1, zl_2, zl_3, zl_4, zl_5, zl_6, zl_7, zl_8, zl_9, zl_10, zl_11, zl_12, zl_13, zl_14, zl_15, zl_16, zl_17, zl_18, zl_19, zl_20, zl_21, zl_22, zl_23, zl_24, zl_25, zl_26, zl_27, zl_28, zl_29, zl_30, zl_31, zl_32, zl_33, zl_34, zl_35, zl_36, zl_37, zl_38, zl_39, zl_40, zl_41, zl_42, zl_43, zl_44, zl_45, zl_46, zl_47, zl_48, zl_49, zl_50, zl_51, zl_52, zl_53, zl_54, zl_55, zl_56, zl_57, zl_58, zl_59, zl_60, zl_61, zl_62, zl_63, zl_64, zl_65, zl_82, zl_99, zl_100, zl_160, zl_299, zl_300, zl_301, zl_382, zl_398, zl_399, zl_464, zl_680, zl_862, zl_999, zl_1000, zl_9999, zl_10000, zl_1000000, zl_m1, zl_m2, zl_m3, zl_m8, zl_97, zl_122, zl_90, zl_100000, zl_75] at hi_td hi_spp hcd hw h1 hO hw2 hk hm c1 ⊢); omega)
      have hvr : vR L2 < p0.toInt := by rw [hnil]; show (0 : Int) < p0.toInt; (try simp only [zlt, zle, zeq, zl_0, zl_1, zl_2, zl_3, zl_4, zl_5, zl_6, zl_7, zl_8, zl_9, zl_10, zl_11, zl_12, zl_13, zl_14, zl_15, zl_16, zl_17, zl_18, zl_19, zl_20, zl_21, zl_22, zl_23, zl_24, zl_25, zl_26, zl_27, zl_28, zl_29, zl_30, zl_31, zl_32, zl_33, zl_34, zl_35, zl_36, zl_37, zl_38, zl_39, zl_40, zl_41, zl_42, zl_43, zl_44, zl_45, zl_46, zl_47, zl_48, zl_49, zl_50, zl_51, zl_52, zl_53, zl_54, zl_55, zl_56, zl_57, zl_58, zl_59, zl_60, zl_61, zl_62, zl_63, zl_64, zl_65, zl_82, zl_99, zl_100, zl_160, zl_299, zl_300, zl_301, zl_382, zl_398, zl_399, zl_464, zl_680, zl_862, zl_999, zl_1000, zl_9999, zl_10000, zl_1000000, zl_m1, zl_m2, zl_m3, zl_m8, zl_97, zl_122, zl_90, zl_100000, zl_75] at hi_td hi_spp hcd hw h1 hO hw2 hk hm c1 ⊢); omega
      have hst9 := fun z => SV.stop hSV (Or.inl hvr) z
      obtain ⟨hV9, hS9, -, hn9⟩ := hSV
      have hfin : ((vC L = 1 ∧ p0.toInt ≤ 4) ∧ n2 = vA L2 ∧ b2 = vT L2 + 1) ∨ (¬ (vC L = 1 ∧ p0.toInt ≤ 4) ∧ n2 = vA L2 + 1 ∧ b2 = vT L2) := by
        by_cases z : (vC L = 1 ∧ p0.toInt ≤ 4)
        · left; have z2 := hst9 z; refine ⟨z, ?_⟩; rcases hS9 with q | q
          · omega
          · exact ⟨q.2.1, q.2.2.1⟩
        · right; have z2 := hn9 z; refine ⟨z, ?_⟩; rcases hS9 with q | q
          · exact ⟨q.2.1, q.2.2.1⟩
          · omega
      exact z_vret Z hP hD hS (⟨vwri, vpid, vope, vfxt, L2, n2, b2, rfl, (by (try simp only [zlt, zle, zeq, zl_0, zl_1, zl_2, zl_3, zl_4, zl_5, zl_6, zl_7, zl_8, zl_9, zl_10, zl_11, zl_12, zl_13, zl_14, zl_15, zl_16, zl_17, zl_18, zl_19, zl_20, zl_21, zl_22, zl_23, zl_24, zl_25, zl_26, zl_27, zl_28, zl_29, zl_30, zl_31, zl_32, zl_33, zl_34, zl_35, zl_36, zl_37, zl_38, zl_39, zl_40, zl_41, zl_42, zl_43, zl_44, zl_45, zl_46, zl_47, zl_48, zl_49, zl_50, zl_51, zl_52, zl_53, zl_54, zl_55, zl_56, zl_57, zl_58, zl_59, zl_60, zl_61, zl_62, zl_63, zl_64, zl_65, zl_82, zl_99, zl_100, zl_160, zl_299, zl_300, zl_301, zl_382, zl_398, zl_399, zl_464, zl_680, zl_862, zl_999, zl_1000, zl_9999, zl_10000, zl_1000000, zl_m1, zl_m2, zl_m3, zl_m8, zl_97, zl_122, zl_90, zl_100000, zl_75, and_true, true_and, and_false, false_and, or_false, false_or, or_true, true_or, not_true_eq_false, not_false_eq_true] at hi_td hi_spp hcd hw h1 hO hw2 hk hm c1 hvr ⊢) <;> omega), ⟨hk.1, hk.2.1, hk.2.2, hvr⟩, hfin, ⟨h1, hRp, hV9, hO.1, by rw [hO.1]; exact hO.2, hw2.1, hG⟩, hB⟩) dX12_settle_89 (Nat.le_of_ble_eq_true rfl) (Nat.le_of_ble_eq_true rfl)
    · obtain ⟨e9, L3, rfl⟩ := list_cons (L := L2) (by (try simp only [zlt, zle, zeq, zl_0, zl_1, zl_2, zl_3, zl_4, zl_5, zl_6, zl_7, zl_8, zl_9, zl_10, zl_11, zl_12, zl_13, zl_14, zl_15, zl_16, zl_17, zl_18, zl_19, zl_20, zl_21, zl_22, zl_23, zl_24, zl_25, zl_26, zl_27, zl_28, zl_29, zl_30, zl_31, zl_32, zl_33, zl_34, zl_35, zl_36, zl_37, zl_38, zl_39, zl_40, zl_41, zl_42, zl_43, zl_44, zl_45, zl_46, zl_47, zl_48, zl_49, zl_50, zl_51, zl_52, zl_53, zl_54, zl_55, zl_56, zl_57, zl_58, zl_59, zl_60, zl_61, zl_62, zl_63, zl_64, zl_65, zl_82, zl_99, zl_100, zl_160, zl_299, zl_300, zl_301, zl_382, zl_398, zl_399, zl_464, zl_680, zl_862, zl_999, zl_1000, zl_9999, zl_10000, zl_1000000, zl_m1, zl_m2, zl_m3, zl_m8, zl_97, zl_122, zl_90, zl_100000, zl_75] at hi_td hi_spp hcd hw h1 hO hw2 hk hm c1 ⊢); omega)
      have hln : ((e9 :: L3).length : Int) = (L3.length : Int) + 1 := by simp
      have hpl9 := pl_len _ hSV.1
      have hvr9 := vR_rng (e9 :: L3)
      refine lv_aload_n hx hb dX12_settle_7 rfl (lv_at hl 0 rfl) ?_
      refine z_get Z i_X12 hP 0 rfl rfl 16 (by decide) bw_1033 rfl dX12_settle_8 ?_
      refine lv_aload_n hx hb dX12_settle_11 rfl (lv_at hl 0 rfl) ?_
      refine z_get Z i_X12 hP 0 rfl rfl 17 (by decide) bw_1034 rfl dX12_settle_12 ?_
      refine lv_iconst (v := 1) hx hb dX12_settle_15 (by decide) ?_
      refine lv_isub hx hb dX12_settle_16 ?_
      refine lv_topi (fun z2 ez2 => ?_)
      have hz2 : z2.toInt = vpid.toInt - 1 := by rw [ez2]; exact zsubg (by (try simp only [zlt, zle, zeq, zl_0, zl_1, zl_2, zl_3, zl_4, zl_5, zl_6, zl_7, zl_8, zl_9, zl_10, zl_11, zl_12, zl_13, zl_14, zl_15, zl_16, zl_17, zl_18, zl_19, zl_20, zl_21, zl_22, zl_23, zl_24, zl_25, zl_26, zl_27, zl_28, zl_29, zl_30, zl_31, zl_32, zl_33, zl_34, zl_35, zl_36, zl_37, zl_38, zl_39, zl_40, zl_41, zl_42, zl_43, zl_44, zl_45, zl_46, zl_47, zl_48, zl_49, zl_50, zl_51, zl_52, zl_53, zl_54, zl_55, zl_56, zl_57, zl_58, zl_59, zl_60, zl_61, zl_62, zl_63, zl_64, zl_65, zl_82, zl_99, zl_100, zl_160, zl_299, zl_300, zl_301, zl_382, zl_398, zl_399, zl_464, zl_680, zl_862, zl_999, zl_1000, zl_9999, zl_10000, zl_1000000, zl_m1, zl_m2, zl_m3, zl_m8, zl_97, zl_122, zl_90, zl_100000, zl_75] at hi_td hi_spp hcd hw h1 hO hw2 hk hm c1 hln hpl9 hvr9 ⊢); omega) (by (try simp only [zlt, zle, zeq, zl_0, zl_1, zl_2, zl_3, zl_4, zl_5, zl_6, zl_7, zl_8, zl_9, zl_10, zl_11, zl_12, zl_13, zl_14, zl_15, zl_16, zl_17, zl_18, zl_19, zl_20, zl_21, zl_22, zl_23, zl_24, zl_25, zl_26, zl_27, zl_28, zl_29, zl_30, zl_31, zl_32, zl_33, zl_34, zl_35, zl_36, zl_37, zl_38, zl_39, zl_40, zl_41, zl_42, zl_43, zl_44, zl_45, zl_46, zl_47, zl_48, zl_49, zl_50, zl_51, zl_52, zl_53, zl_54, zl_55, zl_56, zl_57, zl_58, zl_59, zl_60, zl_61, zl_62, zl_63, zl_64, zl_65, zl_82, zl_99, zl_100, zl_160, zl_299, zl_300, zl_301, zl_382, zl_398, zl_399, zl_464, zl_680, zl_862, zl_999, zl_1000, zl_9999, zl_10000, zl_1000000, zl_m1, zl_m2, zl_m3, zl_m8, zl_97, zl_122, zl_90, zl_100000, zl_75] at hi_td hi_spp hcd hw h1 hO hw2 hk hm c1 hln hpl9 hvr9 ⊢); omega)
      refine z_iald Z hP 2 0 rfl rfl (vp_in_iff.mpr (by (try simp only [zlt, zle, zeq, zl_0, zl_1, zl_2, zl_3, zl_4, zl_5, zl_6, zl_7, zl_8, zl_9, zl_10, zl_11, zl_12, zl_13, zl_14, zl_15, zl_16, zl_17, zl_18, zl_19, zl_20, zl_21, zl_22, zl_23, zl_24, zl_25, zl_26, zl_27, zl_28, zl_29, zl_30, zl_31, zl_32, zl_33, zl_34, zl_35, zl_36, zl_37, zl_38, zl_39, zl_40, zl_41, zl_42, zl_43, zl_44, zl_45, zl_46, zl_47, zl_48, zl_49, zl_50, zl_51, zl_52, zl_53, zl_54, zl_55, zl_56, zl_57, zl_58, zl_59, zl_60, zl_61, zl_62, zl_63, zl_64, zl_65, zl_82, zl_99, zl_100, zl_160, zl_299, zl_300, zl_301, zl_382, zl_398, zl_399, zl_464, zl_680, zl_862, zl_999, zl_1000, zl_9999, zl_10000, zl_1000000, zl_m1, zl_m2, zl_m3, zl_m8, zl_97, zl_122, zl_90, zl_100000, zl_75] at hi_td hi_spp hcd hw h1 hO hw2 hk hm c1 hln hpl9 hvr9 hz2 ⊢); omega)) dX12_settle_17 ?_
      refine lv_topi (fun z3 ez3 => ?_)
      have ixz3 : (z2 : Int32).toNatClampNeg = L3.length := by have ez9 := zcl (x := z2) (by (try simp only [zlt, zle, zeq, zl_0, zl_1, zl_2, zl_3, zl_4, zl_5, zl_6, zl_7, zl_8, zl_9, zl_10, zl_11, zl_12, zl_13, zl_14, zl_15, zl_16, zl_17, zl_18, zl_19, zl_20, zl_21, zl_22, zl_23, zl_24, zl_25, zl_26, zl_27, zl_28, zl_29, zl_30, zl_31, zl_32, zl_33, zl_34, zl_35, zl_36, zl_37, zl_38, zl_39, zl_40, zl_41, zl_42, zl_43, zl_44, zl_45, zl_46, zl_47, zl_48, zl_49, zl_50, zl_51, zl_52, zl_53, zl_54, zl_55, zl_56, zl_57, zl_58, zl_59, zl_60, zl_61, zl_62, zl_63, zl_64, zl_65, zl_82, zl_99, zl_100, zl_160, zl_299, zl_300, zl_301, zl_382, zl_398, zl_399, zl_464, zl_680, zl_862, zl_999, zl_1000, zl_9999, zl_10000, zl_1000000, zl_m1, zl_m2, zl_m3, zl_m8, zl_97, zl_122, zl_90, zl_100000, zl_75] at hi_td hi_spp hcd hw h1 hO hw2 hk hm c1 hln hpl9 hvr9 hz2 ⊢); omega); (try simp only [zlt, zle, zeq, zl_0, zl_1, zl_2, zl_3, zl_4, zl_5, zl_6, zl_7, zl_8, zl_9, zl_10, zl_11, zl_12, zl_13, zl_14, zl_15, zl_16, zl_17, zl_18, zl_19, zl_20, zl_21, zl_22, zl_23, zl_24, zl_25, zl_26, zl_27, zl_28, zl_29, zl_30, zl_31, zl_32, zl_33, zl_34, zl_35, zl_36, zl_37, zl_38, zl_39, zl_40, zl_41, zl_42, zl_43, zl_44, zl_45, zl_46, zl_47, zl_48, zl_49, zl_50, zl_51, zl_52, zl_53, zl_54, zl_55, zl_56, zl_57, zl_58, zl_59, zl_60, zl_61, zl_62, zl_63, zl_64, zl_65, zl_82, zl_99, zl_100, zl_160, zl_299, zl_300, zl_301, zl_382, zl_398, zl_399, zl_464, zl_680, zl_862, zl_999, zl_1000, zl_9999, zl_10000, zl_1000000, zl_m1, zl_m2, zl_m3, zl_m8, zl_97, zl_122, zl_90, zl_100000, zl_75] at hi_td hi_spp hcd hw h1 hO hw2 hk hm c1 hln hpl9 hvr9 hz2 ez9 ⊢); omega
      have hz3 : z3.toInt = e9 := by rw [ez3, ixz3]; exact hRp.1
      have hPc := hP.sub2 (wc := []) [] rfl
      have hDc := hD.sub (ws' := []) [] (by decide) rfl
      refine raw_Si (nA := 1) (As := [.int z3]) (rest := []) Z hl.1 (c_X12_rank l D cI cM cT cJ cZ z3) (bw_S bw_1237 bw_1238 bw_92 bw_1239) ⟨by decide +kernel, by decide +kernel, by decide +kernel⟩ rfl ⟨Nat.le_of_ble_eq_true rfl, Nat.le_of_ble_eq_true rfl⟩ hPc hDc hS rfl (Nat.le_of_ble_eq_true rfl) dX12_settle_18 ⟨Nat.le_of_ble_eq_true rfl, Nat.le_of_ble_eq_true rfl⟩ (fun r5 u4 H1 locs1 h6 hku4 hP1 hD1 hS1 => ?_)
      obtain ⟨rfl, huh6_0⟩ := h6
      obtain ⟨hP, hD⟩ := z_join (wr := [(q, .inr (12, [.ref aA, .ref aI, .ref xT, .ref tP_, .int td, .int fu, .int fp, .int at_, .int plc, .int tok, .int num, .long wrd, .int tx0, .int cls, .int vwri, .int cam, .ref pI, .int vpid, .int vope, .int isw, .int so0, .int onc, .ref nm, .ref vL, .ref tR, .int spp, .int eat, .int ste, .ref rW, .ref sP, .ref oT, .ref bS, .ref aS, .ref aO, .ref cS, .ref wY])), (xT, .inl (cI, 2720, .inl vfxt)), (pI, .inl (cI, 160, .inl fpi))]) Z hS hP hD [] [0, 1, 2] rfl (by decide) rfl (by decide) (by decide) hku4 hP1 hD1
      have hS := hS1
      clear hS1
      generalize H1 = H at hP hS ⊢
      generalize locs1 = locs at hS ⊢
      have hP : va_P D vwCl ([(q, .inr (12, [.ref aA, .ref aI, .ref xT, .ref tP_, .int td, .int fu, .int fp, .int at_, .int plc, .int tok, .int num, .long wrd, .int tx0, .int cls, .int vwri, .int cam, .ref pI, .int vpid, .int vope, .int isw, .int so0, .int onc, .ref nm, .ref vL, .ref tR, .int spp, .int eat, .int ste, .ref rW, .ref sP, .ref oT, .ref bS, .ref aS, .ref aO, .ref cS, .ref wY])), (xT, .inl (cI, 2720, .inl vfxt)), (pI, .inl (cI, 160, .inl fpi))]) H := hP
      have hD : va_D A ([(q, .inr (12, [.ref aA, .ref aI, .ref xT, .ref tP_, .int td, .int fu, .int fp, .int at_, .int plc, .int tok, .int num, .long wrd, .int tx0, .int cls, .int vwri, .int cam, .ref pI, .int vpid, .int vope, .int isw, .int so0, .int onc, .ref nm, .ref vL, .ref tR, .int spp, .int eat, .int ste, .ref rW, .ref sP, .ref oT, .ref bS, .ref aS, .ref aO, .ref cS, .ref wY])), (xT, .inl (cI, 2720, .inl vfxt)), (pI, .inl (cI, 160, .inl fpi))]) := hD
      have hrk7 : r5.toInt = rk e9 := by rw [huh6_0, hz3]
      have hrghrk7 := rk_rng e9
      refine lv_iload_n hx hb dX12_settle_21 rfl (lv_at hl 1 rfl) ?_
      refine lv_icmp_lt (tgt := 89) hx hb dX12_settle_22 (by decide) (fun c8 => ?_) (fun c8 => ?_)
      · have hvr : vR (e9 :: L3) < p0.toInt := by show rk e9 < p0.toInt; (try simp only [zlt, zle, zeq, zl_0, zl_1, zl_2, zl_3, zl_4, zl_5, zl_6, zl_7, zl_8, zl_9, zl_10, zl_11, zl_12, zl_13, zl_14, zl_15, zl_16, zl_17, zl_18, zl_19, zl_20, zl_21, zl_22, zl_23, zl_24, zl_25, zl_26, zl_27, zl_28, zl_29, zl_30, zl_31, zl_32, zl_33, zl_34, zl_35, zl_36, zl_37, zl_38, zl_39, zl_40, zl_41, zl_42, zl_43, zl_44, zl_45, zl_46, zl_47, zl_48, zl_49, zl_50, zl_51, zl_52, zl_53, zl_54, zl_55, zl_56, zl_57, zl_58, zl_59, zl_60, zl_61, zl_62, zl_63, zl_64, zl_65, zl_82, zl_99, zl_100, zl_160, zl_299, zl_300, zl_301, zl_382, zl_398, zl_399, zl_464, zl_680, zl_862, zl_999, zl_1000, zl_9999, zl_10000, zl_1000000, zl_m1, zl_m2, zl_m3, zl_m8, zl_97, zl_122, zl_90, zl_100000, zl_75] at hi_td hi_spp hcd hw h1 hO hw2 hk hm c1 hln hpl9 hvr9 hz2 hz3 hrk7 hrghrk7 c8 ⊢); omega
        have hst9 := fun z => SV.stop hSV (Or.inl hvr) z
        obtain ⟨hV9, hS9, -, hn9⟩ := hSV
        have hfin : ((vC L = 1 ∧ p0.toInt ≤ 4) ∧ n2 = vA (e9 :: L3) ∧ b2 = vT (e9 :: L3) + 1) ∨ (¬ (vC L = 1 ∧ p0.toInt ≤ 4) ∧ n2 = vA (e9 :: L3) + 1 ∧ b2 = vT (e9 :: L3)) := by
          by_cases z : (vC L = 1 ∧ p0.toInt ≤ 4)
          · left; have z2 := hst9 z; refine ⟨z, ?_⟩; rcases hS9 with q | q
            · omega
            · exact ⟨q.2.1, q.2.2.1⟩
          · right; have z2 := hn9 z; refine ⟨z, ?_⟩; rcases hS9 with q | q
            · exact ⟨q.2.1, q.2.2.1⟩
            · omega
        exact z_vret Z hP hD hS (⟨vwri, vpid, vope, vfxt, (e9 :: L3), n2, b2, rfl, (by (try simp only [zlt, zle, zeq, zl_0, zl_1, zl_2, zl_3, zl_4, zl_5, zl_6, zl_7, zl_8, zl_9, zl_10, zl_11, zl_12, zl_13, zl_14, zl_15, zl_16, zl_17, zl_18, zl_19, zl_20, zl_21, zl_22, zl_23, zl_24, zl_25, zl_26, zl_27, zl_28, zl_29, zl_30, zl_31, zl_32, zl_33, zl_34, zl_35, zl_36, zl_37, zl_38, zl_39, zl_40, zl_41, zl_42, zl_43, zl_44, zl_45, zl_46, zl_47, zl_48, zl_49, zl_50, zl_51, zl_52, zl_53, zl_54, zl_55, zl_56, zl_57, zl_58, zl_59, zl_60, zl_61, zl_62, zl_63, zl_64, zl_65, zl_82, zl_99, zl_100, zl_160, zl_299, zl_300, zl_301, zl_382, zl_398, zl_399, zl_464, zl_680, zl_862, zl_999, zl_1000, zl_9999, zl_10000, zl_1000000, zl_m1, zl_m2, zl_m3, zl_m8, zl_97, zl_122, zl_90, zl_100000, zl_75, and_true, true_and, and_false, false_and, or_false, false_or, or_true, true_or, not_true_eq_false, not_false_eq_true] at hi_td hi_spp hcd hw h1 hO hw2 hk hm c1 hln hpl9 hvr9 hz2 hz3 hrk7 hrghrk7 c8 hvr ⊢) <;> omega), ⟨hk.1, hk.2.1, hk.2.2, hvr⟩, hfin, ⟨h1, hRp, hV9, hO.1, by rw [hO.1]; exact hO.2, hw2.1, hG⟩, hB⟩) dX12_settle_89 (Nat.le_of_ble_eq_true rfl) (Nat.le_of_ble_eq_true rfl)
      · refine lv_aload_n hx hb dX12_settle_25 rfl (lv_at hl 0 rfl) ?_
        refine lv_dup hx hb dX12_settle_26 rfl ?_
        refine z_get Z i_X12 hP 0 rfl rfl 17 (by decide) bw_1034 rfl dX12_settle_27 ?_
        refine lv_iconst (v := 1) hx hb dX12_settle_30 (by decide) ?_
        refine lv_isub hx hb dX12_settle_31 ?_
        refine lv_topi (fun z9 ez9 => ?_)
        have hz9 : z9.toInt = vpid.toInt - 1 := by rw [ez9]; exact zsubg (by (try simp only [zlt, zle, zeq, zl_0, zl_1, zl_2, zl_3, zl_4, zl_5, zl_6, zl_7, zl_8, zl_9, zl_10, zl_11, zl_12, zl_13, zl_14, zl_15, zl_16, zl_17, zl_18, zl_19, zl_20, zl_21, zl_22, zl_23, zl_24, zl_25, zl_26, zl_27, zl_28, zl_29, zl_30, zl_31, zl_32, zl_33, zl_34, zl_35, zl_36, zl_37, zl_38, zl_39, zl_40, zl_41, zl_42, zl_43, zl_44, zl_45, zl_46, zl_47, zl_48, zl_49, zl_50, zl_51, zl_52, zl_53, zl_54, zl_55, zl_56, zl_57, zl_58, zl_59, zl_60, zl_61, zl_62, zl_63, zl_64, zl_65, zl_82, zl_99, zl_100, zl_160, zl_299, zl_300, zl_301, zl_382, zl_398, zl_399, zl_464, zl_680, zl_862, zl_999, zl_1000, zl_9999, zl_10000, zl_1000000, zl_m1, zl_m2, zl_m3, zl_m8, zl_97, zl_122, zl_90, zl_100000, zl_75] at hi_td hi_spp hcd hw h1 hO hw2 hk hm c1 hln hpl9 hvr9 hz2 hz3 hrk7 hrghrk7 c8 ⊢); omega) (by (try simp only [zlt, zle, zeq, zl_0, zl_1, zl_2, zl_3, zl_4, zl_5, zl_6, zl_7, zl_8, zl_9, zl_10, zl_11, zl_12, zl_13, zl_14, zl_15, zl_16, zl_17, zl_18, zl_19, zl_20, zl_21, zl_22, zl_23, zl_24, zl_25, zl_26, zl_27, zl_28, zl_29, zl_30, zl_31, zl_32, zl_33, zl_34, zl_35, zl_36, zl_37, zl_38, zl_39, zl_40, zl_41, zl_42, zl_43, zl_44, zl_45, zl_46, zl_47, zl_48, zl_49, zl_50, zl_51, zl_52, zl_53, zl_54, zl_55, zl_56, zl_57, zl_58, zl_59, zl_60, zl_61, zl_62, zl_63, zl_64, zl_65, zl_82, zl_99, zl_100, zl_160, zl_299, zl_300, zl_301, zl_382, zl_398, zl_399, zl_464, zl_680, zl_862, zl_999, zl_1000, zl_9999, zl_10000, zl_1000000, zl_m1, zl_m2, zl_m3, zl_m8, zl_97, zl_122, zl_90, zl_100000, zl_75] at hi_td hi_spp hcd hw h1 hO hw2 hk hm c1 hln hpl9 hvr9 hz2 hz3 hrk7 hrghrk7 c8 ⊢); omega)
        refine z_put Z i_X12 tyX12 tyX12_ok nmX12 hP hD hS 0 rfl rfl 17 (by decide) bw_1034 rfl rfl rfl (Nat.le_of_ble_eq_true rfl) dX12_settle_32 (fun H locs hP hD hS => ?_)
        have hP : va_P D vwCl ([(q, .inr (12, [.ref aA, .ref aI, .ref xT, .ref tP_, .int td, .int fu, .int fp, .int at_, .int plc, .int tok, .int num, .long wrd, .int tx0, .int cls, .int vwri, .int cam, .ref pI, .int z9, .int vope, .int isw, .int so0, .int onc, .ref nm, .ref vL, .ref tR, .int spp, .int eat, .int ste, .ref rW, .ref sP, .ref oT, .ref bS, .ref aS, .ref aO, .ref cS, .ref wY])), (xT, .inl (cI, 2720, .inl vfxt)), (pI, .inl (cI, 160, .inl fpi))]) H := hP
        have hD : va_D A ([(q, .inr (12, [.ref aA, .ref aI, .ref xT, .ref tP_, .int td, .int fu, .int fp, .int at_, .int plc, .int tok, .int num, .long wrd, .int tx0, .int cls, .int vwri, .int cam, .ref pI, .int z9, .int vope, .int isw, .int so0, .int onc, .ref nm, .ref vL, .ref tR, .int spp, .int eat, .int ste, .ref rW, .ref sP, .ref oT, .ref bS, .ref aS, .ref aO, .ref cS, .ref wY])), (xT, .inl (cI, 2720, .inl vfxt)), (pI, .inl (cI, 160, .inl fpi))]) := hD
        refine lv_aload_n hx hb dX12_settle_35 rfl (lv_at hl 0 rfl) ?_
        refine lv_aload_n hx hb dX12_settle_36 rfl (lv_at hl 0 rfl) ?_
        refine z_get Z i_X12 hP 0 rfl rfl 16 (by decide) bw_1033 rfl dX12_settle_37 ?_
        refine lv_aload_n hx hb dX12_settle_40 rfl (lv_at hl 0 rfl) ?_
        refine z_get Z i_X12 hP 0 rfl rfl 17 (by decide) bw_1034 rfl dX12_settle_41 ?_
        refine z_iald Z hP 2 0 rfl rfl (vp_in_iff.mpr (by (try simp only [zlt, zle, zeq, zl_0, zl_1, zl_2, zl_3, zl_4, zl_5, zl_6, zl_7, zl_8, zl_9, zl_10, zl_11, zl_12, zl_13, zl_14, zl_15, zl_16, zl_17, zl_18, zl_19, zl_20, zl_21, zl_22, zl_23, zl_24, zl_25, zl_26, zl_27, zl_28, zl_29, zl_30, zl_31, zl_32, zl_33, zl_34, zl_35, zl_36, zl_37, zl_38, zl_39, zl_40, zl_41, zl_42, zl_43, zl_44, zl_45, zl_46, zl_47, zl_48, zl_49, zl_50, zl_51, zl_52, zl_53, zl_54, zl_55, zl_56, zl_57, zl_58, zl_59, zl_60, zl_61, zl_62, zl_63, zl_64, zl_65, zl_82, zl_99, zl_100, zl_160, zl_299, zl_300, zl_301, zl_382, zl_398, zl_399, zl_464, zl_680, zl_862, zl_999, zl_1000, zl_9999, zl_10000, zl_1000000, zl_m1, zl_m2, zl_m3, zl_m8, zl_97, zl_122, zl_90, zl_100000, zl_75] at hi_td hi_spp hcd hw h1 hO hw2 hk hm c1 hln hpl9 hvr9 hz2 hz3 hrk7 hrghrk7 c8 hz9 ⊢); omega)) dX12_settle_44 ?_
        refine lv_topi (fun z10 ez10 => ?_)
        have ixz10 : (z9 : Int32).toNatClampNeg = L3.length := by have ez9 := zcl (x := z9) (by (try simp only [zlt, zle, zeq, zl_0, zl_1, zl_2, zl_3, zl_4, zl_5, zl_6, zl_7, zl_8, zl_9, zl_10, zl_11, zl_12, zl_13, zl_14, zl_15, zl_16, zl_17, zl_18, zl_19, zl_20, zl_21, zl_22, zl_23, zl_24, zl_25, zl_26, zl_27, zl_28, zl_29, zl_30, zl_31, zl_32, zl_33, zl_34, zl_35, zl_36, zl_37, zl_38, zl_39, zl_40, zl_41, zl_42, zl_43, zl_44, zl_45, zl_46, zl_47, zl_48, zl_49, zl_50, zl_51, zl_52, zl_53, zl_54, zl_55, zl_56, zl_57, zl_58, zl_59, zl_60, zl_61, zl_62, zl_63, zl_64, zl_65, zl_82, zl_99, zl_100, zl_160, zl_299, zl_300, zl_301, zl_382, zl_398, zl_399, zl_464, zl_680, zl_862, zl_999, zl_1000, zl_9999, zl_10000, zl_1000000, zl_m1, zl_m2, zl_m3, zl_m8, zl_97, zl_122, zl_90, zl_100000, zl_75] at hi_td hi_spp hcd hw h1 hO hw2 hk hm c1 hln hpl9 hvr9 hz2 hz3 hrk7 hrghrk7 c8 hz9 ⊢); omega); (try simp only [zlt, zle, zeq, zl_0, zl_1, zl_2, zl_3, zl_4, zl_5, zl_6, zl_7, zl_8, zl_9, zl_10, zl_11, zl_12, zl_13, zl_14, zl_15, zl_16, zl_17, zl_18, zl_19, zl_20, zl_21, zl_22, zl_23, zl_24, zl_25, zl_26, zl_27, zl_28, zl_29, zl_30, zl_31, zl_32, zl_33, zl_34, zl_35, zl_36, zl_37, zl_38, zl_39, zl_40, zl_41, zl_42, zl_43, zl_44, zl_45, zl_46, zl_47, zl_48, zl_49, zl_50, zl_51, zl_52, zl_53, zl_54, zl_55, zl_56, zl_57, zl_58, zl_59, zl_60, zl_61, zl_62, zl_63, zl_64, zl_65, zl_82, zl_99, zl_100, zl_160, zl_299, zl_300, zl_301, zl_382, zl_398, zl_399, zl_464, zl_680, zl_862, zl_999, zl_1000, zl_9999, zl_10000, zl_1000000, zl_m1, zl_m2, zl_m3, zl_m8, zl_97, zl_122, zl_90, zl_100000, zl_75] at hi_td hi_spp hcd hw h1 hO hw2 hk hm c1 hln hpl9 hvr9 hz2 hz3 hrk7 hrghrk7 c8 hz9 ez9 ⊢); omega
        have hz10 : z10.toInt = e9 := by rw [ez10, ixz10]; exact hRp.1
        refine lv_iconst (v := 0) hx hb dX12_settle_45 (by decide) ?_
        obtain ⟨n3, b3, tv3, hs3, hSV3⟩ := SV.pop (o := z10) (v := 0) hSV (by (try simp only [zlt, zle, zeq, zl_0, zl_1, zl_2, zl_3, zl_4, zl_5, zl_6, zl_7, zl_8, zl_9, zl_10, zl_11, zl_12, zl_13, zl_14, zl_15, zl_16, zl_17, zl_18, zl_19, zl_20, zl_21, zl_22, zl_23, zl_24, zl_25, zl_26, zl_27, zl_28, zl_29, zl_30, zl_31, zl_32, zl_33, zl_34, zl_35, zl_36, zl_37, zl_38, zl_39, zl_40, zl_41, zl_42, zl_43, zl_44, zl_45, zl_46, zl_47, zl_48, zl_49, zl_50, zl_51, zl_52, zl_53, zl_54, zl_55, zl_56, zl_57, zl_58, zl_59, zl_60, zl_61, zl_62, zl_63, zl_64, zl_65, zl_82, zl_99, zl_100, zl_160, zl_299, zl_300, zl_301, zl_382, zl_398, zl_399, zl_464, zl_680, zl_862, zl_999, zl_1000, zl_9999, zl_10000, zl_1000000, zl_m1, zl_m2, zl_m3, zl_m8, zl_97, zl_122, zl_90, zl_100000, zl_75] at hi_td hi_spp hcd hw h1 hO hw2 hk hm c1 hln hpl9 hvr9 hz2 hz3 hrk7 hrghrk7 c8 hz9 hz10 ⊢); omega) (by (try simp only [zlt, zle, zeq, zl_0, zl_1, zl_2, zl_3, zl_4, zl_5, zl_6, zl_7, zl_8, zl_9, zl_10, zl_11, zl_12, zl_13, zl_14, zl_15, zl_16, zl_17, zl_18, zl_19, zl_20, zl_21, zl_22, zl_23, zl_24, zl_25, zl_26, zl_27, zl_28, zl_29, zl_30, zl_31, zl_32, zl_33, zl_34, zl_35, zl_36, zl_37, zl_38, zl_39, zl_40, zl_41, zl_42, zl_43, zl_44, zl_45, zl_46, zl_47, zl_48, zl_49, zl_50, zl_51, zl_52, zl_53, zl_54, zl_55, zl_56, zl_57, zl_58, zl_59, zl_60, zl_61, zl_62, zl_63, zl_64, zl_65, zl_82, zl_99, zl_100, zl_160, zl_299, zl_300, zl_301, zl_382, zl_398, zl_399, zl_464, zl_680, zl_862, zl_999, zl_1000, zl_9999, zl_10000, zl_1000000, zl_m1, zl_m2, zl_m3, zl_m8, zl_97, zl_122, zl_90, zl_100000, zl_75] at hi_td hi_spp hcd hw h1 hO hw2 hk hm c1 hln hpl9 hvr9 hz2 hz3 hrk7 hrghrk7 c8 hz9 hz10 ⊢); omega) (by (try simp only [zlt, zle, zeq, zl_0, zl_1, zl_2, zl_3, zl_4, zl_5, zl_6, zl_7, zl_8, zl_9, zl_10, zl_11, zl_12, zl_13, zl_14, zl_15, zl_16, zl_17, zl_18, zl_19, zl_20, zl_21, zl_22, zl_23, zl_24, zl_25, zl_26, zl_27, zl_28, zl_29, zl_30, zl_31, zl_32, zl_33, zl_34, zl_35, zl_36, zl_37, zl_38, zl_39, zl_40, zl_41, zl_42, zl_43, zl_44, zl_45, zl_46, zl_47, zl_48, zl_49, zl_50, zl_51, zl_52, zl_53, zl_54, zl_55, zl_56, zl_57, zl_58, zl_59, zl_60, zl_61, zl_62, zl_63, zl_64, zl_65, zl_82, zl_99, zl_100, zl_160, zl_299, zl_300, zl_301, zl_382, zl_398, zl_399, zl_464, zl_680, zl_862, zl_999, zl_1000, zl_9999, zl_10000, zl_1000000, zl_m1, zl_m2, zl_m3, zl_m8, zl_97, zl_122, zl_90, zl_100000, zl_75] at hi_td hi_spp hcd hw h1 hO hw2 hk hm c1 hln hpl9 hvr9 hz2 hz3 hrk7 hrghrk7 c8 hz9 hz10 ⊢); omega)
        have hPc := hP.sub2 (wc := [(q, .inr (12, [.ref aA, .ref aI, .ref xT, .ref tP_, .int td, .int fu, .int fp, .int at_, .int plc, .int tok, .int num, .long wrd, .int tx0, .int cls, .int vwri, .int cam, .ref pI, .int z9, .int vope, .int isw, .int so0, .int onc, .ref nm, .ref vL, .ref tR, .int spp, .int eat, .int ste, .ref rW, .ref sP, .ref oT, .ref bS, .ref aS, .ref aO, .ref cS, .ref wY])), (xT, .inl (cI, 2720, .inl vfxt))]) [0, 1] rfl
        have hDc := hD.sub (ws' := [(q, .inr (12, [.ref aA, .ref aI, .ref xT, .ref tP_, .int td, .int fu, .int fp, .int at_, .int plc, .int tok, .int num, .long wrd, .int tx0, .int cls, .int vwri, .int cam, .ref pI, .int z9, .int vope, .int isw, .int so0, .int onc, .ref nm, .ref vL, .ref tR, .int spp, .int eat, .int ste, .ref rW, .ref sP, .ref oT, .ref bS, .ref aS, .ref aO, .ref cS, .ref wY])), (xT, .inl (cI, 2720, .inl vfxt))]) [0, 1] (by decide) rfl
        refine raw_Vv (ci := 12) (q0 := 0) (nA := 2) (As := [.int z10, .int 0]) (rest := []) Z hl.1 (c_X12_emit l D cI cM cT cJ cZ q z10 0 aA aI xT tP_ td fu fp at_ plc tok num wrd tx0 cls vwri cam pI z9 vope isw so0 onc nm vL tR spp eat ste rW sP oT bS aS aO cS wY vfxt (by (try simp only [zlt, zle, zeq, zl_0, zl_1, zl_2, zl_3, zl_4, zl_5, zl_6, zl_7, zl_8, zl_9, zl_10, zl_11, zl_12, zl_13, zl_14, zl_15, zl_16, zl_17, zl_18, zl_19, zl_20, zl_21, zl_22, zl_23, zl_24, zl_25, zl_26, zl_27, zl_28, zl_29, zl_30, zl_31, zl_32, zl_33, zl_34, zl_35, zl_36, zl_37, zl_38, zl_39, zl_40, zl_41, zl_42, zl_43, zl_44, zl_45, zl_46, zl_47, zl_48, zl_49, zl_50, zl_51, zl_52, zl_53, zl_54, zl_55, zl_56, zl_57, zl_58, zl_59, zl_60, zl_61, zl_62, zl_63, zl_64, zl_65, zl_82, zl_99, zl_100, zl_160, zl_299, zl_300, zl_301, zl_382, zl_398, zl_399, zl_464, zl_680, zl_862, zl_999, zl_1000, zl_9999, zl_10000, zl_1000000, zl_m1, zl_m2, zl_m3, zl_m8, zl_97, zl_122, zl_90, zl_100000, zl_75] at hi_td hi_spp hcd hw h1 hO hw2 hk hm c1 hln hpl9 hvr9 hz2 hz3 hrk7 hrghrk7 c8 hz9 hz10 ⊢); omega) (by (try simp only [zlt, zle, zeq, zl_0, zl_1, zl_2, zl_3, zl_4, zl_5, zl_6, zl_7, zl_8, zl_9, zl_10, zl_11, zl_12, zl_13, zl_14, zl_15, zl_16, zl_17, zl_18, zl_19, zl_20, zl_21, zl_22, zl_23, zl_24, zl_25, zl_26, zl_27, zl_28, zl_29, zl_30, zl_31, zl_32, zl_33, zl_34, zl_35, zl_36, zl_37, zl_38, zl_39, zl_40, zl_41, zl_42, zl_43, zl_44, zl_45, zl_46, zl_47, zl_48, zl_49, zl_50, zl_51, zl_52, zl_53, zl_54, zl_55, zl_56, zl_57, zl_58, zl_59, zl_60, zl_61, zl_62, zl_63, zl_64, zl_65, zl_82, zl_99, zl_100, zl_160, zl_299, zl_300, zl_301, zl_382, zl_398, zl_399, zl_464, zl_680, zl_862, zl_999, zl_1000, zl_9999, zl_10000, zl_1000000, zl_m1, zl_m2, zl_m3, zl_m8, zl_97, zl_122, zl_90, zl_100000, zl_75] at hi_td hi_spp hcd hw h1 hO hw2 hk hm c1 hln hpl9 hvr9 hz2 hz3 hrk7 hrghrk7 c8 hz9 hz10 ⊢); omega) (by (try simp only [zlt, zle, zeq, zl_0, zl_1, zl_2, zl_3, zl_4, zl_5, zl_6, zl_7, zl_8, zl_9, zl_10, zl_11, zl_12, zl_13, zl_14, zl_15, zl_16, zl_17, zl_18, zl_19, zl_20, zl_21, zl_22, zl_23, zl_24, zl_25, zl_26, zl_27, zl_28, zl_29, zl_30, zl_31, zl_32, zl_33, zl_34, zl_35, zl_36, zl_37, zl_38, zl_39, zl_40, zl_41, zl_42, zl_43, zl_44, zl_45, zl_46, zl_47, zl_48, zl_49, zl_50, zl_51, zl_52, zl_53, zl_54, zl_55, zl_56, zl_57, zl_58, zl_59, zl_60, zl_61, zl_62, zl_63, zl_64, zl_65, zl_82, zl_99, zl_100, zl_160, zl_299, zl_300, zl_301, zl_382, zl_398, zl_399, zl_464, zl_680, zl_862, zl_999, zl_1000, zl_9999, zl_10000, zl_1000000, zl_m1, zl_m2, zl_m3, zl_m8, zl_97, zl_122, zl_90, zl_100000, zl_75] at hi_td hi_spp hcd hw h1 hO hw2 hk hm c1 hln hpl9 hvr9 hz2 hz3 hrk7 hrghrk7 c8 hz9 hz10 ⊢); omega)) (bw_V bw_1249 bw_1251 bw_51 bw_92 bw_1252) ⟨by decide +kernel, by decide +kernel, by decide +kernel⟩ rfl ⟨Nat.le_of_ble_eq_true rfl, Nat.le_of_ble_eq_true rfl⟩ rfl rfl rfl hPc hDc hS rfl (Nat.le_of_ble_eq_true rfl) dX12_settle_46 ⟨Nat.le_of_ble_eq_true rfl, Nat.le_of_ble_eq_true rfl⟩ (fun u11 H1 locs1 h13 hku11 hP1 hD1 hS1 => ?_)
        obtain ⟨wri_n_14, fxt_n_15, rfl, huh13_0, huh13_1⟩ := h13
        obtain ⟨hP, hD⟩ := z_join (wr := [(pI, .inl (cI, 160, .inl fpi))]) Z hS hP hD [0, 1] [2] rfl (by decide) rfl (by decide) (by decide) hku11 hP1 hD1
        have hS := hS1
        clear hS1
        generalize H1 = H at hP hS ⊢
        generalize locs1 = locs at hS ⊢
        have hP : va_P D vwCl ([(pI, .inl (cI, 160, .inl fpi)), (q, .inr (12, [.ref aA, .ref aI, .ref xT, .ref tP_, .int td, .int fu, .int fp, .int at_, .int plc, .int tok, .int num, .long wrd, .int tx0, .int cls, .int wri_n_14, .int cam, .ref pI, .int z9, .int vope, .int isw, .int so0, .int onc, .ref nm, .ref vL, .ref tR, .int spp, .int eat, .int ste, .ref rW, .ref sP, .ref oT, .ref bS, .ref aS, .ref aO, .ref cS, .ref wY])), (xT, .inl (cI, 2720, .inl fxt_n_15))]) H := hP
        have hD : va_D A ([(pI, .inl (cI, 160, .inl fpi)), (q, .inr (12, [.ref aA, .ref aI, .ref xT, .ref tP_, .int td, .int fu, .int fp, .int at_, .int plc, .int tok, .int num, .long wrd, .int tx0, .int cls, .int wri_n_14, .int cam, .ref pI, .int z9, .int vope, .int isw, .int so0, .int onc, .ref nm, .ref vL, .ref tR, .int spp, .int eat, .int ste, .ref rW, .ref sP, .ref oT, .ref bS, .ref aS, .ref aO, .ref cS, .ref wY])), (xT, .inl (cI, 2720, .inl fxt_n_15))]) := hD
        refine lv_aload_n hx hb dX12_settle_49 rfl (lv_at hl 0 rfl) ?_
        refine z_get Z i_X12 hP 1 rfl rfl 16 (by decide) bw_1033 rfl dX12_settle_50 ?_
        refine lv_aload_n hx hb dX12_settle_53 rfl (lv_at hl 0 rfl) ?_
        refine z_get Z i_X12 hP 1 rfl rfl 17 (by decide) bw_1034 rfl dX12_settle_54 ?_
        refine z_iald Z hP 0 0 rfl rfl (vp_in_iff.mpr (by (try simp only [zlt, zle, zeq, zl_0, zl_1, zl_2, zl_3, zl_4, zl_5, zl_6, zl_7, zl_8, zl_9, zl_10, zl_11, zl_12, zl_13, zl_14, zl_15, zl_16, zl_17, zl_18, zl_19, zl_20, zl_21, zl_22, zl_23, zl_24, zl_25, zl_26, zl_27, zl_28, zl_29, zl_30, zl_31, zl_32, zl_33, zl_34, zl_35, zl_36, zl_37, zl_38, zl_39, zl_40, zl_41, zl_42, zl_43, zl_44, zl_45, zl_46, zl_47, zl_48, zl_49, zl_50, zl_51, zl_52, zl_53, zl_54, zl_55, zl_56, zl_57, zl_58, zl_59, zl_60, zl_61, zl_62, zl_63, zl_64, zl_65, zl_82, zl_99, zl_100, zl_160, zl_299, zl_300, zl_301, zl_382, zl_398, zl_399, zl_464, zl_680, zl_862, zl_999, zl_1000, zl_9999, zl_10000, zl_1000000, zl_m1, zl_m2, zl_m3, zl_m8, zl_97, zl_122, zl_90, zl_100000, zl_75] at hi_td hi_spp hcd hw h1 hO hw2 hk hm c1 hln hpl9 hvr9 hz2 hz3 hrk7 hrghrk7 c8 hz9 hz10 huh13_0 ⊢); omega)) dX12_settle_57 ?_
        refine lv_topi (fun z16 ez16 => ?_)
        have ixz16 : (z9 : Int32).toNatClampNeg = L3.length := by have ez9 := zcl (x := z9) (by (try simp only [zlt, zle, zeq, zl_0, zl_1, zl_2, zl_3, zl_4, zl_5, zl_6, zl_7, zl_8, zl_9, zl_10, zl_11, zl_12, zl_13, zl_14, zl_15, zl_16, zl_17, zl_18, zl_19, zl_20, zl_21, zl_22, zl_23, zl_24, zl_25, zl_26, zl_27, zl_28, zl_29, zl_30, zl_31, zl_32, zl_33, zl_34, zl_35, zl_36, zl_37, zl_38, zl_39, zl_40, zl_41, zl_42, zl_43, zl_44, zl_45, zl_46, zl_47, zl_48, zl_49, zl_50, zl_51, zl_52, zl_53, zl_54, zl_55, zl_56, zl_57, zl_58, zl_59, zl_60, zl_61, zl_62, zl_63, zl_64, zl_65, zl_82, zl_99, zl_100, zl_160, zl_299, zl_300, zl_301, zl_382, zl_398, zl_399, zl_464, zl_680, zl_862, zl_999, zl_1000, zl_9999, zl_10000, zl_1000000, zl_m1, zl_m2, zl_m3, zl_m8, zl_97, zl_122, zl_90, zl_100000, zl_75] at hi_td hi_spp hcd hw h1 hO hw2 hk hm c1 hln hpl9 hvr9 hz2 hz3 hrk7 hrghrk7 c8 hz9 hz10 huh13_0 ⊢); omega); (try simp only [zlt, zle, zeq, zl_0, zl_1, zl_2, zl_3, zl_4, zl_5, zl_6, zl_7, zl_8, zl_9, zl_10, zl_11, zl_12, zl_13, zl_14, zl_15, zl_16, zl_17, zl_18, zl_19, zl_20, zl_21, zl_22, zl_23, zl_24, zl_25, zl_26, zl_27, zl_28, zl_29, zl_30, zl_31, zl_32, zl_33, zl_34, zl_35, zl_36, zl_37, zl_38, zl_39, zl_40, zl_41, zl_42, zl_43, zl_44, zl_45, zl_46, zl_47, zl_48, zl_49, zl_50, zl_51, zl_52, zl_53, zl_54, zl_55, zl_56, zl_57, zl_58, zl_59, zl_60, zl_61, zl_62, zl_63, zl_64, zl_65, zl_82, zl_99, zl_100, zl_160, zl_299, zl_300, zl_301, zl_382, zl_398, zl_399, zl_464, zl_680, zl_862, zl_999, zl_1000, zl_9999, zl_10000, zl_1000000, zl_m1, zl_m2, zl_m3, zl_m8, zl_97, zl_122, zl_90, zl_100000, zl_75] at hi_td hi_spp hcd hw h1 hO hw2 hk hm c1 hln hpl9 hvr9 hz2 hz3 hrk7 hrghrk7 c8 hz9 hz10 huh13_0 ez9 ⊢); omega
        have hz16 : z16.toInt = e9 := by rw [ez16, ixz16]; exact hRp.1
        refine lv_iconst (v := 2) hx hb dX12_settle_58 (by decide) ?_
        refine lv_icmp_eq (tgt := 76) hx hb dX12_settle_59 (by decide) (fun c17 => ?_) (fun c17 => ?_)
        · refine lv_aload_n hx hb dX12_settle_76 rfl (lv_at hl 0 rfl) ?_
          refine lv_dup hx hb dX12_settle_77 rfl ?_
          refine z_get Z i_X12 hP 1 rfl rfl 18 (by decide) bw_1035 rfl dX12_settle_78 ?_
          refine lv_iconst (v := 1) hx hb dX12_settle_81 (by decide) ?_
          refine lv_isub hx hb dX12_settle_82 ?_
          refine lv_topi (fun z18 ez18 => ?_)
          have hz18 : z18.toInt = vope.toInt - 1 := by rw [ez18]; exact zsubg (by (try simp only [zlt, zle, zeq, zl_0, zl_1, zl_2, zl_3, zl_4, zl_5, zl_6, zl_7, zl_8, zl_9, zl_10, zl_11, zl_12, zl_13, zl_14, zl_15, zl_16, zl_17, zl_18, zl_19, zl_20, zl_21, zl_22, zl_23, zl_24, zl_25, zl_26, zl_27, zl_28, zl_29, zl_30, zl_31, zl_32, zl_33, zl_34, zl_35, zl_36, zl_37, zl_38, zl_39, zl_40, zl_41, zl_42, zl_43, zl_44, zl_45, zl_46, zl_47, zl_48, zl_49, zl_50, zl_51, zl_52, zl_53, zl_54, zl_55, zl_56, zl_57, zl_58, zl_59, zl_60, zl_61, zl_62, zl_63, zl_64, zl_65, zl_82, zl_99, zl_100, zl_160, zl_299, zl_300, zl_301, zl_382, zl_398, zl_399, zl_464, zl_680, zl_862, zl_999, zl_1000, zl_9999, zl_10000, zl_1000000, zl_m1, zl_m2, zl_m3, zl_m8, zl_97, zl_122, zl_90, zl_100000, zl_75] at hi_td hi_spp hcd hw h1 hO hw2 hk hm c1 hln hpl9 hvr9 hz2 hz3 hrk7 hrghrk7 c8 hz9 hz10 huh13_0 hz16 c17 ⊢); omega) (by (try simp only [zlt, zle, zeq, zl_0, zl_1, zl_2, zl_3, zl_4, zl_5, zl_6, zl_7, zl_8, zl_9, zl_10, zl_11, zl_12, zl_13, zl_14, zl_15, zl_16, zl_17, zl_18, zl_19, zl_20, zl_21, zl_22, zl_23, zl_24, zl_25, zl_26, zl_27, zl_28, zl_29, zl_30, zl_31, zl_32, zl_33, zl_34, zl_35, zl_36, zl_37, zl_38, zl_39, zl_40, zl_41, zl_42, zl_43, zl_44, zl_45, zl_46, zl_47, zl_48, zl_49, zl_50, zl_51, zl_52, zl_53, zl_54, zl_55, zl_56, zl_57, zl_58, zl_59, zl_60, zl_61, zl_62, zl_63, zl_64, zl_65, zl_82, zl_99, zl_100, zl_160, zl_299, zl_300, zl_301, zl_382, zl_398, zl_399, zl_464, zl_680, zl_862, zl_999, zl_1000, zl_9999, zl_10000, zl_1000000, zl_m1, zl_m2, zl_m3, zl_m8, zl_97, zl_122, zl_90, zl_100000, zl_75] at hi_td hi_spp hcd hw h1 hO hw2 hk hm c1 hln hpl9 hvr9 hz2 hz3 hrk7 hrghrk7 c8 hz9 hz10 huh13_0 hz16 c17 ⊢); omega)
          refine z_put Z i_X12 tyX12 tyX12_ok nmX12 hP hD hS 1 rfl rfl 18 (by decide) bw_1035 rfl rfl rfl (Nat.le_of_ble_eq_true rfl) dX12_settle_83 (fun H locs hP hD hS => ?_)
          have hP : va_P D vwCl ([(pI, .inl (cI, 160, .inl fpi)), (q, .inr (12, [.ref aA, .ref aI, .ref xT, .ref tP_, .int td, .int fu, .int fp, .int at_, .int plc, .int tok, .int num, .long wrd, .int tx0, .int cls, .int wri_n_14, .int cam, .ref pI, .int z9, .int z18, .int isw, .int so0, .int onc, .ref nm, .ref vL, .ref tR, .int spp, .int eat, .int ste, .ref rW, .ref sP, .ref oT, .ref bS, .ref aS, .ref aO, .ref cS, .ref wY])), (xT, .inl (cI, 2720, .inl fxt_n_15))]) H := hP
          have hD : va_D A ([(pI, .inl (cI, 160, .inl fpi)), (q, .inr (12, [.ref aA, .ref aI, .ref xT, .ref tP_, .int td, .int fu, .int fp, .int at_, .int plc, .int tok, .int num, .long wrd, .int tx0, .int cls, .int wri_n_14, .int cam, .ref pI, .int z9, .int z18, .int isw, .int so0, .int onc, .ref nm, .ref vL, .ref tR, .int spp, .int eat, .int ste, .ref rW, .ref sP, .ref oT, .ref bS, .ref aS, .ref aO, .ref cS, .ref wY])), (xT, .inl (cI, 2720, .inl fxt_n_15))]) := hD
          refine lv_goto (tgt := 0) hx hb dX12_settle_86 (by decide) ?_
          exact ih L3 n3 b3 tv3 wri_n_14 z9 z18 fxt_n_15 (by (try simp only [zlt, zle, zeq, zl_0, zl_1, zl_2, zl_3, zl_4, zl_5, zl_6, zl_7, zl_8, zl_9, zl_10, zl_11, zl_12, zl_13, zl_14, zl_15, zl_16, zl_17, zl_18, zl_19, zl_20, zl_21, zl_22, zl_23, zl_24, zl_25, zl_26, zl_27, zl_28, zl_29, zl_30, zl_31, zl_32, zl_33, zl_34, zl_35, zl_36, zl_37, zl_38, zl_39, zl_40, zl_41, zl_42, zl_43, zl_44, zl_45, zl_46, zl_47, zl_48, zl_49, zl_50, zl_51, zl_52, zl_53, zl_54, zl_55, zl_56, zl_57, zl_58, zl_59, zl_60, zl_61, zl_62, zl_63, zl_64, zl_65, zl_82, zl_99, zl_100, zl_160, zl_299, zl_300, zl_301, zl_382, zl_398, zl_399, zl_464, zl_680, zl_862, zl_999, zl_1000, zl_9999, zl_10000, zl_1000000, zl_m1, zl_m2, zl_m3, zl_m8, zl_97, zl_122, zl_90, zl_100000, zl_75] at hi_td hi_spp hcd hw h1 hO hw2 hk hm c1 hln hpl9 hvr9 hz2 hz3 hrk7 hrghrk7 c8 hz9 hz10 huh13_0 hz16 c17 hz18 ⊢); omega) hRp.2 hSV3 (by rw [vO_1 (by (try simp only [zlt, zle, zeq, zl_0, zl_1, zl_2, zl_3, zl_4, zl_5, zl_6, zl_7, zl_8, zl_9, zl_10, zl_11, zl_12, zl_13, zl_14, zl_15, zl_16, zl_17, zl_18, zl_19, zl_20, zl_21, zl_22, zl_23, zl_24, zl_25, zl_26, zl_27, zl_28, zl_29, zl_30, zl_31, zl_32, zl_33, zl_34, zl_35, zl_36, zl_37, zl_38, zl_39, zl_40, zl_41, zl_42, zl_43, zl_44, zl_45, zl_46, zl_47, zl_48, zl_49, zl_50, zl_51, zl_52, zl_53, zl_54, zl_55, zl_56, zl_57, zl_58, zl_59, zl_60, zl_61, zl_62, zl_63, zl_64, zl_65, zl_82, zl_99, zl_100, zl_160, zl_299, zl_300, zl_301, zl_382, zl_398, zl_399, zl_464, zl_680, zl_862, zl_999, zl_1000, zl_9999, zl_10000, zl_1000000, zl_m1, zl_m2, zl_m3, zl_m8, zl_97, zl_122, zl_90, zl_100000, zl_75] at hi_td hi_spp hcd hw h1 hO hw2 hk hm c1 hln hpl9 hvr9 hz2 hz3 hrk7 hrghrk7 c8 hz9 hz10 huh13_0 hz16 c17 hz18 ⊢); omega)] at hO; have hl9 := hO; (try simp only [zlt, zle, zeq, zl_0, zl_1, zl_2, zl_3, zl_4, zl_5, zl_6, zl_7, zl_8, zl_9, zl_10, zl_11, zl_12, zl_13, zl_14, zl_15, zl_16, zl_17, zl_18, zl_19, zl_20, zl_21, zl_22, zl_23, zl_24, zl_25, zl_26, zl_27, zl_28, zl_29, zl_30, zl_31, zl_32, zl_33, zl_34, zl_35, zl_36, zl_37, zl_38, zl_39, zl_40, zl_41, zl_42, zl_43, zl_44, zl_45, zl_46, zl_47, zl_48, zl_49, zl_50, zl_51, zl_52, zl_53, zl_54, zl_55, zl_56, zl_57, zl_58, zl_59, zl_60, zl_61, zl_62, zl_63, zl_64, zl_65, zl_82, zl_99, zl_100, zl_160, zl_299, zl_300, zl_301, zl_382, zl_398, zl_399, zl_464, zl_680, zl_862, zl_999, zl_1000, zl_9999, zl_10000, zl_1000000, zl_m1, zl_m2, zl_m3, zl_m8, zl_97, zl_122, zl_90, zl_100000, zl_75] at hi_td hi_spp hcd hw h1 hO hw2 hk hm c1 hln hpl9 hvr9 hz2 hz3 hrk7 hrghrk7 c8 hz9 hz10 huh13_0 hz16 c17 hz18 hl9 ⊢); omega) (by rw [show wri_n_14.toInt.toNat = vwri.toInt.toNat + 1 by (try simp only [zlt, zle, zeq, zl_0, zl_1, zl_2, zl_3, zl_4, zl_5, zl_6, zl_7, zl_8, zl_9, zl_10, zl_11, zl_12, zl_13, zl_14, zl_15, zl_16, zl_17, zl_18, zl_19, zl_20, zl_21, zl_22, zl_23, zl_24, zl_25, zl_26, zl_27, zl_28, zl_29, zl_30, zl_31, zl_32, zl_33, zl_34, zl_35, zl_36, zl_37, zl_38, zl_39, zl_40, zl_41, zl_42, zl_43, zl_44, zl_45, zl_46, zl_47, zl_48, zl_49, zl_50, zl_51, zl_52, zl_53, zl_54, zl_55, zl_56, zl_57, zl_58, zl_59, zl_60, zl_61, zl_62, zl_63, zl_64, zl_65, zl_82, zl_99, zl_100, zl_160, zl_299, zl_300, zl_301, zl_382, zl_398, zl_399, zl_464, zl_680, zl_862, zl_999, zl_1000, zl_9999, zl_10000, zl_1000000, zl_m1, zl_m2, zl_m3, zl_m8, zl_97, zl_122, zl_90, zl_100000, zl_75] at hi_td hi_spp hcd hw h1 hO hw2 hk hm c1 hln hpl9 hvr9 hz2 hz3 hrk7 hrghrk7 c8 hz9 hz10 huh13_0 hz16 c17 hz18 ⊢); omega, huh13_1]; exact GP.emit hG hs3) (by (try simp only [zlt, zle, zeq, zl_0, zl_1, zl_2, zl_3, zl_4, zl_5, zl_6, zl_7, zl_8, zl_9, zl_10, zl_11, zl_12, zl_13, zl_14, zl_15, zl_16, zl_17, zl_18, zl_19, zl_20, zl_21, zl_22, zl_23, zl_24, zl_25, zl_26, zl_27, zl_28, zl_29, zl_30, zl_31, zl_32, zl_33, zl_34, zl_35, zl_36, zl_37, zl_38, zl_39, zl_40, zl_41, zl_42, zl_43, zl_44, zl_45, zl_46, zl_47, zl_48, zl_49, zl_50, zl_51, zl_52, zl_53, zl_54, zl_55, zl_56, zl_57, zl_58, zl_59, zl_60, zl_61, zl_62, zl_63, zl_64, zl_65, zl_82, zl_99, zl_100, zl_160, zl_299, zl_300, zl_301, zl_382, zl_398, zl_399, zl_464, zl_680, zl_862, zl_999, zl_1000, zl_9999, zl_10000, zl_1000000, zl_m1, zl_m2, zl_m3, zl_m8, zl_97, zl_122, zl_90, zl_100000, zl_75] at hi_td hi_spp hcd hw h1 hO hw2 hk hm c1 hln hpl9 hvr9 hz2 hz3 hrk7 hrghrk7 c8 hz9 hz10 huh13_0 hz16 c17 hz18 ⊢); omega) (by have hsg := seg_pop (e := e9) (L := L3) (by (try simp only [zlt, zle, zeq, zl_0, zl_1, zl_2, zl_3, zl_4, zl_5, zl_6, zl_7, zl_8, zl_9, zl_10, zl_11, zl_12, zl_13, zl_14, zl_15, zl_16, zl_17, zl_18, zl_19, zl_20, zl_21, zl_22, zl_23, zl_24, zl_25, zl_26, zl_27, zl_28, zl_29, zl_30, zl_31, zl_32, zl_33, zl_34, zl_35, zl_36, zl_37, zl_38, zl_39, zl_40, zl_41, zl_42, zl_43, zl_44, zl_45, zl_46, zl_47, zl_48, zl_49, zl_50, zl_51, zl_52, zl_53, zl_54, zl_55, zl_56, zl_57, zl_58, zl_59, zl_60, zl_61, zl_62, zl_63, zl_64, zl_65, zl_82, zl_99, zl_100, zl_160, zl_299, zl_300, zl_301, zl_382, zl_398, zl_399, zl_464, zl_680, zl_862, zl_999, zl_1000, zl_9999, zl_10000, zl_1000000, zl_m1, zl_m2, zl_m3, zl_m8, zl_97, zl_122, zl_90, zl_100000, zl_75] at hi_td hi_spp hcd hw h1 hO hw2 hk hm c1 hln hpl9 hvr9 hz2 hz3 hrk7 hrghrk7 c8 hz9 hz10 huh13_0 hz16 c17 hz18 ⊢); omega); (try simp only [zlt, zle, zeq, zl_0, zl_1, zl_2, zl_3, zl_4, zl_5, zl_6, zl_7, zl_8, zl_9, zl_10, zl_11, zl_12, zl_13, zl_14, zl_15, zl_16, zl_17, zl_18, zl_19, zl_20, zl_21, zl_22, zl_23, zl_24, zl_25, zl_26, zl_27, zl_28, zl_29, zl_30, zl_31, zl_32, zl_33, zl_34, zl_35, zl_36, zl_37, zl_38, zl_39, zl_40, zl_41, zl_42, zl_43, zl_44, zl_45, zl_46, zl_47, zl_48, zl_49, zl_50, zl_51, zl_52, zl_53, zl_54, zl_55, zl_56, zl_57, zl_58, zl_59, zl_60, zl_61, zl_62, zl_63, zl_64, zl_65, zl_82, zl_99, zl_100, zl_160, zl_299, zl_300, zl_301, zl_382, zl_398, zl_399, zl_464, zl_680, zl_862, zl_999, zl_1000, zl_9999, zl_10000, zl_1000000, zl_m1, zl_m2, zl_m3, zl_m8, zl_97, zl_122, zl_90, zl_100000, zl_75] at hi_td hi_spp hcd hw h1 hO hw2 hk hm c1 hln hpl9 hvr9 hz2 hz3 hrk7 hrghrk7 c8 hz9 hz10 huh13_0 hz16 c17 hz18 hsg ⊢); omega) (by rw [huh13_1]; have hF9 := hG.1; exact Below_up (Below_up hB (by (try simp only [zlt, zle, zeq, zl_0, zl_1, zl_2, zl_3, zl_4, zl_5, zl_6, zl_7, zl_8, zl_9, zl_10, zl_11, zl_12, zl_13, zl_14, zl_15, zl_16, zl_17, zl_18, zl_19, zl_20, zl_21, zl_22, zl_23, zl_24, zl_25, zl_26, zl_27, zl_28, zl_29, zl_30, zl_31, zl_32, zl_33, zl_34, zl_35, zl_36, zl_37, zl_38, zl_39, zl_40, zl_41, zl_42, zl_43, zl_44, zl_45, zl_46, zl_47, zl_48, zl_49, zl_50, zl_51, zl_52, zl_53, zl_54, zl_55, zl_56, zl_57, zl_58, zl_59, zl_60, zl_61, zl_62, zl_63, zl_64, zl_65, zl_82, zl_99, zl_100, zl_160, zl_299, zl_300, zl_301, zl_382, zl_398, zl_399, zl_464, zl_680, zl_862, zl_999, zl_1000, zl_9999, zl_10000, zl_1000000, zl_m1, zl_m2, zl_m3, zl_m8, zl_97, zl_122, zl_90, zl_100000, zl_75] at hi_td hi_spp hcd hw h1 hO hw2 hk hm c1 hln hpl9 hvr9 hz2 hz3 hrk7 hrghrk7 c8 hz9 hz10 huh13_0 hz16 c17 hz18 hF9 ⊢); omega)) (by (try simp only [zlt, zle, zeq, zl_0, zl_1, zl_2, zl_3, zl_4, zl_5, zl_6, zl_7, zl_8, zl_9, zl_10, zl_11, zl_12, zl_13, zl_14, zl_15, zl_16, zl_17, zl_18, zl_19, zl_20, zl_21, zl_22, zl_23, zl_24, zl_25, zl_26, zl_27, zl_28, zl_29, zl_30, zl_31, zl_32, zl_33, zl_34, zl_35, zl_36, zl_37, zl_38, zl_39, zl_40, zl_41, zl_42, zl_43, zl_44, zl_45, zl_46, zl_47, zl_48, zl_49, zl_50, zl_51, zl_52, zl_53, zl_54, zl_55, zl_56, zl_57, zl_58, zl_59, zl_60, zl_61, zl_62, zl_63, zl_64, zl_65, zl_82, zl_99, zl_100, zl_160, zl_299, zl_300, zl_301, zl_382, zl_398, zl_399, zl_464, zl_680, zl_862, zl_999, zl_1000, zl_9999, zl_10000, zl_1000000, zl_m1, zl_m2, zl_m3, zl_m8, zl_97, zl_122, zl_90, zl_100000, zl_75] at hi_td hi_spp hcd hw h1 hO hw2 hk hm c1 hln hpl9 hvr9 hz2 hz3 hrk7 hrghrk7 c8 hz9 hz10 huh13_0 hz16 c17 hz18 hF9 ⊢); omega)) (by (try simp only [zlt, zle, zeq, zl_0, zl_1, zl_2, zl_3, zl_4, zl_5, zl_6, zl_7, zl_8, zl_9, zl_10, zl_11, zl_12, zl_13, zl_14, zl_15, zl_16, zl_17, zl_18, zl_19, zl_20, zl_21, zl_22, zl_23, zl_24, zl_25, zl_26, zl_27, zl_28, zl_29, zl_30, zl_31, zl_32, zl_33, zl_34, zl_35, zl_36, zl_37, zl_38, zl_39, zl_40, zl_41, zl_42, zl_43, zl_44, zl_45, zl_46, zl_47, zl_48, zl_49, zl_50, zl_51, zl_52, zl_53, zl_54, zl_55, zl_56, zl_57, zl_58, zl_59, zl_60, zl_61, zl_62, zl_63, zl_64, zl_65, zl_82, zl_99, zl_100, zl_160, zl_299, zl_300, zl_301, zl_382, zl_398, zl_399, zl_464, zl_680, zl_862, zl_999, zl_1000, zl_9999, zl_10000, zl_1000000, zl_m1, zl_m2, zl_m3, zl_m8, zl_97, zl_122, zl_90, zl_100000, zl_75] at hi_td hi_spp hcd hw h1 hO hw2 hk hm c1 hln hpl9 hvr9 hz2 hz3 hrk7 hrghrk7 c8 hz9 hz10 huh13_0 hz16 c17 hz18 ⊢); omega) _ _ _ (hP.sub2 [1, 2, 0] rfl) (hD.sub [1, 2, 0] (by decide) rfl) hS (lv_sub hl [0, 1] rfl)
        · refine lv_aload_n hx hb dX12_settle_62 rfl (lv_at hl 0 rfl) ?_
          refine z_get Z i_X12 hP 1 rfl rfl 16 (by decide) bw_1033 rfl dX12_settle_63 ?_
          refine lv_aload_n hx hb dX12_settle_66 rfl (lv_at hl 0 rfl) ?_
          refine z_get Z i_X12 hP 1 rfl rfl 17 (by decide) bw_1034 rfl dX12_settle_67 ?_
          refine z_iald Z hP 0 0 rfl rfl (vp_in_iff.mpr (by (try simp only [zlt, zle, zeq, zl_0, zl_1, zl_2, zl_3, zl_4, zl_5, zl_6, zl_7, zl_8, zl_9, zl_10, zl_11, zl_12, zl_13, zl_14, zl_15, zl_16, zl_17, zl_18, zl_19, zl_20, zl_21, zl_22, zl_23, zl_24, zl_25, zl_26, zl_27, zl_28, zl_29, zl_30, zl_31, zl_32, zl_33, zl_34, zl_35, zl_36, zl_37, zl_38, zl_39, zl_40, zl_41, zl_42, zl_43, zl_44, zl_45, zl_46, zl_47, zl_48, zl_49, zl_50, zl_51, zl_52, zl_53, zl_54, zl_55, zl_56, zl_57, zl_58, zl_59, zl_60, zl_61, zl_62, zl_63, zl_64, zl_65, zl_82, zl_99, zl_100, zl_160, zl_299, zl_300, zl_301, zl_382, zl_398, zl_399, zl_464, zl_680, zl_862, zl_999, zl_1000, zl_9999, zl_10000, zl_1000000, zl_m1, zl_m2, zl_m3, zl_m8, zl_97, zl_122, zl_90, zl_100000, zl_75] at hi_td hi_spp hcd hw h1 hO hw2 hk hm c1 hln hpl9 hvr9 hz2 hz3 hrk7 hrghrk7 c8 hz9 hz10 huh13_0 hz16 c17 ⊢); omega)) dX12_settle_70 ?_
          refine lv_topi (fun z19 ez19 => ?_)
          have ixz19 : (z9 : Int32).toNatClampNeg = L3.length := by have ez9 := zcl (x := z9) (by (try simp only [zlt, zle, zeq, zl_0, zl_1, zl_2, zl_3, zl_4, zl_5, zl_6, zl_7, zl_8, zl_9, zl_10, zl_11, zl_12, zl_13, zl_14, zl_15, zl_16, zl_17, zl_18, zl_19, zl_20, zl_21, zl_22, zl_23, zl_24, zl_25, zl_26, zl_27, zl_28, zl_29, zl_30, zl_31, zl_32, zl_33, zl_34, zl_35, zl_36, zl_37, zl_38, zl_39, zl_40, zl_41, zl_42, zl_43, zl_44, zl_45, zl_46, zl_47, zl_48, zl_49, zl_50, zl_51, zl_52, zl_53, zl_54, zl_55, zl_56, zl_57, zl_58, zl_59, zl_60, zl_61, zl_62, zl_63, zl_64, zl_65, zl_82, zl_99, zl_100, zl_160, zl_299, zl_300, zl_301, zl_382, zl_398, zl_399, zl_464, zl_680, zl_862, zl_999, zl_1000, zl_9999, zl_10000, zl_1000000, zl_m1, zl_m2, zl_m3, zl_m8, zl_97, zl_122, zl_90, zl_100000, zl_75] at hi_td hi_spp hcd hw h1 hO hw2 hk hm c1 hln hpl9 hvr9 hz2 hz3 hrk7 hrghrk7 c8 hz9 hz10 huh13_0 hz16 c17 ⊢); omega); (try simp only [zlt, zle, zeq, zl_0, zl_1, zl_2, zl_3, zl_4, zl_5, zl_6, zl_7, zl_8, zl_9, zl_10, zl_11, zl_12, zl_13, zl_14, zl_15, zl_16, zl_17, zl_18, zl_19, zl_20, zl_21, zl_22, zl_23, zl_24, zl_25, zl_26, zl_27, zl_28, zl_29, zl_30, zl_31, zl_32, zl_33, zl_34, zl_35, zl_36, zl_37, zl_38, zl_39, zl_40, zl_41, zl_42, zl_43, zl_44, zl_45, zl_46, zl_47, zl_48, zl_49, zl_50, zl_51, zl_52, zl_53, zl_54, zl_55, zl_56, zl_57, zl_58, zl_59, zl_60, zl_61, zl_62, zl_63, zl_64, zl_65, zl_82, zl_99, zl_100, zl_160, zl_299, zl_300, zl_301, zl_382, zl_398, zl_399, zl_464, zl_680, zl_862, zl_999, zl_1000, zl_9999, zl_10000, zl_1000000, zl_m1, zl_m2, zl_m3, zl_m8, zl_97, zl_122, zl_90, zl_100000, zl_75] at hi_td hi_spp hcd hw h1 hO hw2 hk hm c1 hln hpl9 hvr9 hz2 hz3 hrk7 hrghrk7 c8 hz9 hz10 huh13_0 hz16 c17 ez9 ⊢); omega
          have hz19 : z19.toInt = e9 := by rw [ez19, ixz19]; exact hRp.1
          refine lv_bipush (v := 20) hx hb dX12_settle_71 (by decide) ?_
          refine lv_icmp_ne (tgt := 0) hx hb dX12_settle_73 (by decide) (fun c20 => ?_) (fun c20 => ?_)
          · exact ih L3 n3 b3 tv3 wri_n_14 z9 vope fxt_n_15 (by (try simp only [zlt, zle, zeq, zl_0, zl_1, zl_2, zl_3, zl_4, zl_5, zl_6, zl_7, zl_8, zl_9, zl_10, zl_11, zl_12, zl_13, zl_14, zl_15, zl_16, zl_17, zl_18, zl_19, zl_20, zl_21, zl_22, zl_23, zl_24, zl_25, zl_26, zl_27, zl_28, zl_29, zl_30, zl_31, zl_32, zl_33, zl_34, zl_35, zl_36, zl_37, zl_38, zl_39, zl_40, zl_41, zl_42, zl_43, zl_44, zl_45, zl_46, zl_47, zl_48, zl_49, zl_50, zl_51, zl_52, zl_53, zl_54, zl_55, zl_56, zl_57, zl_58, zl_59, zl_60, zl_61, zl_62, zl_63, zl_64, zl_65, zl_82, zl_99, zl_100, zl_160, zl_299, zl_300, zl_301, zl_382, zl_398, zl_399, zl_464, zl_680, zl_862, zl_999, zl_1000, zl_9999, zl_10000, zl_1000000, zl_m1, zl_m2, zl_m3, zl_m8, zl_97, zl_122, zl_90, zl_100000, zl_75] at hi_td hi_spp hcd hw h1 hO hw2 hk hm c1 hln hpl9 hvr9 hz2 hz3 hrk7 hrghrk7 c8 hz9 hz10 huh13_0 hz16 c17 hz19 c20 ⊢); omega) hRp.2 hSV3 (by rw [vO_0 (by (try simp only [zlt, zle, zeq, zl_0, zl_1, zl_2, zl_3, zl_4, zl_5, zl_6, zl_7, zl_8, zl_9, zl_10, zl_11, zl_12, zl_13, zl_14, zl_15, zl_16, zl_17, zl_18, zl_19, zl_20, zl_21, zl_22, zl_23, zl_24, zl_25, zl_26, zl_27, zl_28, zl_29, zl_30, zl_31, zl_32, zl_33, zl_34, zl_35, zl_36, zl_37, zl_38, zl_39, zl_40, zl_41, zl_42, zl_43, zl_44, zl_45, zl_46, zl_47, zl_48, zl_49, zl_50, zl_51, zl_52, zl_53, zl_54, zl_55, zl_56, zl_57, zl_58, zl_59, zl_60, zl_61, zl_62, zl_63, zl_64, zl_65, zl_82, zl_99, zl_100, zl_160, zl_299, zl_300, zl_301, zl_382, zl_398, zl_399, zl_464, zl_680, zl_862, zl_999, zl_1000, zl_9999, zl_10000, zl_1000000, zl_m1, zl_m2, zl_m3, zl_m8, zl_97, zl_122, zl_90, zl_100000, zl_75] at hi_td hi_spp hcd hw h1 hO hw2 hk hm c1 hln hpl9 hvr9 hz2 hz3 hrk7 hrghrk7 c8 hz9 hz10 huh13_0 hz16 c17 hz19 c20 ⊢); omega) (rk_lt40 (by (try simp only [zlt, zle, zeq, zl_0, zl_1, zl_2, zl_3, zl_4, zl_5, zl_6, zl_7, zl_8, zl_9, zl_10, zl_11, zl_12, zl_13, zl_14, zl_15, zl_16, zl_17, zl_18, zl_19, zl_20, zl_21, zl_22, zl_23, zl_24, zl_25, zl_26, zl_27, zl_28, zl_29, zl_30, zl_31, zl_32, zl_33, zl_34, zl_35, zl_36, zl_37, zl_38, zl_39, zl_40, zl_41, zl_42, zl_43, zl_44, zl_45, zl_46, zl_47, zl_48, zl_49, zl_50, zl_51, zl_52, zl_53, zl_54, zl_55, zl_56, zl_57, zl_58, zl_59, zl_60, zl_61, zl_62, zl_63, zl_64, zl_65, zl_82, zl_99, zl_100, zl_160, zl_299, zl_300, zl_301, zl_382, zl_398, zl_399, zl_464, zl_680, zl_862, zl_999, zl_1000, zl_9999, zl_10000, zl_1000000, zl_m1, zl_m2, zl_m3, zl_m8, zl_97, zl_122, zl_90, zl_100000, zl_75] at hi_td hi_spp hcd hw h1 hO hw2 hk hm c1 hln hpl9 hvr9 hz2 hz3 hrk7 hrghrk7 c8 hz9 hz10 huh13_0 hz16 c17 hz19 c20 ⊢); omega))] at hO; have hl9 := hO; (try simp only [zlt, zle, zeq, zl_0, zl_1, zl_2, zl_3, zl_4, zl_5, zl_6, zl_7, zl_8, zl_9, zl_10, zl_11, zl_12, zl_13, zl_14, zl_15, zl_16, zl_17, zl_18, zl_19, zl_20, zl_21, zl_22, zl_23, zl_24, zl_25, zl_26, zl_27, zl_28, zl_29, zl_30, zl_31, zl_32, zl_33, zl_34, zl_35, zl_36, zl_37, zl_38, zl_39, zl_40, zl_41, zl_42, zl_43, zl_44, zl_45, zl_46, zl_47, zl_48, zl_49, zl_50, zl_51, zl_52, zl_53, zl_54, zl_55, zl_56, zl_57, zl_58, zl_59, zl_60, zl_61, zl_62, zl_63, zl_64, zl_65, zl_82, zl_99, zl_100, zl_160, zl_299, zl_300, zl_301, zl_382, zl_398, zl_399, zl_464, zl_680, zl_862, zl_999, zl_1000, zl_9999, zl_10000, zl_1000000, zl_m1, zl_m2, zl_m3, zl_m8, zl_97, zl_122, zl_90, zl_100000, zl_75] at hi_td hi_spp hcd hw h1 hO hw2 hk hm c1 hln hpl9 hvr9 hz2 hz3 hrk7 hrghrk7 c8 hz9 hz10 huh13_0 hz16 c17 hz19 c20 hl9 ⊢); omega) (by rw [show wri_n_14.toInt.toNat = vwri.toInt.toNat + 1 by (try simp only [zlt, zle, zeq, zl_0, zl_1, zl_2, zl_3, zl_4, zl_5, zl_6, zl_7, zl_8, zl_9, zl_10, zl_11, zl_12, zl_13, zl_14, zl_15, zl_16, zl_17, zl_18, zl_19, zl_20, zl_21, zl_22, zl_23, zl_24, zl_25, zl_26, zl_27, zl_28, zl_29, zl_30, zl_31, zl_32, zl_33, zl_34, zl_35, zl_36, zl_37, zl_38, zl_39, zl_40, zl_41, zl_42, zl_43, zl_44, zl_45, zl_46, zl_47, zl_48, zl_49, zl_50, zl_51, zl_52, zl_53, zl_54, zl_55, zl_56, zl_57, zl_58, zl_59, zl_60, zl_61, zl_62, zl_63, zl_64, zl_65, zl_82, zl_99, zl_100, zl_160, zl_299, zl_300, zl_301, zl_382, zl_398, zl_399, zl_464, zl_680, zl_862, zl_999, zl_1000, zl_9999, zl_10000, zl_1000000, zl_m1, zl_m2, zl_m3, zl_m8, zl_97, zl_122, zl_90, zl_100000, zl_75] at hi_td hi_spp hcd hw h1 hO hw2 hk hm c1 hln hpl9 hvr9 hz2 hz3 hrk7 hrghrk7 c8 hz9 hz10 huh13_0 hz16 c17 hz19 c20 ⊢); omega, huh13_1]; exact GP.emit hG hs3) (by (try simp only [zlt, zle, zeq, zl_0, zl_1, zl_2, zl_3, zl_4, zl_5, zl_6, zl_7, zl_8, zl_9, zl_10, zl_11, zl_12, zl_13, zl_14, zl_15, zl_16, zl_17, zl_18, zl_19, zl_20, zl_21, zl_22, zl_23, zl_24, zl_25, zl_26, zl_27, zl_28, zl_29, zl_30, zl_31, zl_32, zl_33, zl_34, zl_35, zl_36, zl_37, zl_38, zl_39, zl_40, zl_41, zl_42, zl_43, zl_44, zl_45, zl_46, zl_47, zl_48, zl_49, zl_50, zl_51, zl_52, zl_53, zl_54, zl_55, zl_56, zl_57, zl_58, zl_59, zl_60, zl_61, zl_62, zl_63, zl_64, zl_65, zl_82, zl_99, zl_100, zl_160, zl_299, zl_300, zl_301, zl_382, zl_398, zl_399, zl_464, zl_680, zl_862, zl_999, zl_1000, zl_9999, zl_10000, zl_1000000, zl_m1, zl_m2, zl_m3, zl_m8, zl_97, zl_122, zl_90, zl_100000, zl_75] at hi_td hi_spp hcd hw h1 hO hw2 hk hm c1 hln hpl9 hvr9 hz2 hz3 hrk7 hrghrk7 c8 hz9 hz10 huh13_0 hz16 c17 hz19 c20 ⊢); omega) (by have hsg := seg_pop (e := e9) (L := L3) (by (try simp only [zlt, zle, zeq, zl_0, zl_1, zl_2, zl_3, zl_4, zl_5, zl_6, zl_7, zl_8, zl_9, zl_10, zl_11, zl_12, zl_13, zl_14, zl_15, zl_16, zl_17, zl_18, zl_19, zl_20, zl_21, zl_22, zl_23, zl_24, zl_25, zl_26, zl_27, zl_28, zl_29, zl_30, zl_31, zl_32, zl_33, zl_34, zl_35, zl_36, zl_37, zl_38, zl_39, zl_40, zl_41, zl_42, zl_43, zl_44, zl_45, zl_46, zl_47, zl_48, zl_49, zl_50, zl_51, zl_52, zl_53, zl_54, zl_55, zl_56, zl_57, zl_58, zl_59, zl_60, zl_61, zl_62, zl_63, zl_64, zl_65, zl_82, zl_99, zl_100, zl_160, zl_299, zl_300, zl_301, zl_382, zl_398, zl_399, zl_464, zl_680, zl_862, zl_999, zl_1000, zl_9999, zl_10000, zl_1000000, zl_m1, zl_m2, zl_m3, zl_m8, zl_97, zl_122, zl_90, zl_100000, zl_75] at hi_td hi_spp hcd hw h1 hO hw2 hk hm c1 hln hpl9 hvr9 hz2 hz3 hrk7 hrghrk7 c8 hz9 hz10 huh13_0 hz16 c17 hz19 c20 ⊢); omega); (try simp only [zlt, zle, zeq, zl_0, zl_1, zl_2, zl_3, zl_4, zl_5, zl_6, zl_7, zl_8, zl_9, zl_10, zl_11, zl_12, zl_13, zl_14, zl_15, zl_16, zl_17, zl_18, zl_19, zl_20, zl_21, zl_22, zl_23, zl_24, zl_25, zl_26, zl_27, zl_28, zl_29, zl_30, zl_31, zl_32, zl_33, zl_34, zl_35, zl_36, zl_37, zl_38, zl_39, zl_40, zl_41, zl_42, zl_43, zl_44, zl_45, zl_46, zl_47, zl_48, zl_49, zl_50, zl_51, zl_52, zl_53, zl_54, zl_55, zl_56, zl_57, zl_58, zl_59, zl_60, zl_61, zl_62, zl_63, zl_64, zl_65, zl_82, zl_99, zl_100, zl_160, zl_299, zl_300, zl_301, zl_382, zl_398, zl_399, zl_464, zl_680, zl_862, zl_999, zl_1000, zl_9999, zl_10000, zl_1000000, zl_m1, zl_m2, zl_m3, zl_m8, zl_97, zl_122, zl_90, zl_100000, zl_75] at hi_td hi_spp hcd hw h1 hO hw2 hk hm c1 hln hpl9 hvr9 hz2 hz3 hrk7 hrghrk7 c8 hz9 hz10 huh13_0 hz16 c17 hz19 c20 hsg ⊢); omega) (by rw [huh13_1]; have hF9 := hG.1; exact Below_up (Below_up hB (by (try simp only [zlt, zle, zeq, zl_0, zl_1, zl_2, zl_3, zl_4, zl_5, zl_6, zl_7, zl_8, zl_9, zl_10, zl_11, zl_12, zl_13, zl_14, zl_15, zl_16, zl_17, zl_18, zl_19, zl_20, zl_21, zl_22, zl_23, zl_24, zl_25, zl_26, zl_27, zl_28, zl_29, zl_30, zl_31, zl_32, zl_33, zl_34, zl_35, zl_36, zl_37, zl_38, zl_39, zl_40, zl_41, zl_42, zl_43, zl_44, zl_45, zl_46, zl_47, zl_48, zl_49, zl_50, zl_51, zl_52, zl_53, zl_54, zl_55, zl_56, zl_57, zl_58, zl_59, zl_60, zl_61, zl_62, zl_63, zl_64, zl_65, zl_82, zl_99, zl_100, zl_160, zl_299, zl_300, zl_301, zl_382, zl_398, zl_399, zl_464, zl_680, zl_862, zl_999, zl_1000, zl_9999, zl_10000, zl_1000000, zl_m1, zl_m2, zl_m3, zl_m8, zl_97, zl_122, zl_90, zl_100000, zl_75] at hi_td hi_spp hcd hw h1 hO hw2 hk hm c1 hln hpl9 hvr9 hz2 hz3 hrk7 hrghrk7 c8 hz9 hz10 huh13_0 hz16 c17 hz19 c20 hF9 ⊢); omega)) (by (try simp only [zlt, zle, zeq, zl_0, zl_1, zl_2, zl_3, zl_4, zl_5, zl_6, zl_7, zl_8, zl_9, zl_10, zl_11, zl_12, zl_13, zl_14, zl_15, zl_16, zl_17, zl_18, zl_19, zl_20, zl_21, zl_22, zl_23, zl_24, zl_25, zl_26, zl_27, zl_28, zl_29, zl_30, zl_31, zl_32, zl_33, zl_34, zl_35, zl_36, zl_37, zl_38, zl_39, zl_40, zl_41, zl_42, zl_43, zl_44, zl_45, zl_46, zl_47, zl_48, zl_49, zl_50, zl_51, zl_52, zl_53, zl_54, zl_55, zl_56, zl_57, zl_58, zl_59, zl_60, zl_61, zl_62, zl_63, zl_64, zl_65, zl_82, zl_99, zl_100, zl_160, zl_299, zl_300, zl_301, zl_382, zl_398, zl_399, zl_464, zl_680, zl_862, zl_999, zl_1000, zl_9999, zl_10000, zl_1000000, zl_m1, zl_m2, zl_m3, zl_m8, zl_97, zl_122, zl_90, zl_100000, zl_75] at hi_td hi_spp hcd hw h1 hO hw2 hk hm c1 hln hpl9 hvr9 hz2 hz3 hrk7 hrghrk7 c8 hz9 hz10 huh13_0 hz16 c17 hz19 c20 hF9 ⊢); omega)) (by (try simp only [zlt, zle, zeq, zl_0, zl_1, zl_2, zl_3, zl_4, zl_5, zl_6, zl_7, zl_8, zl_9, zl_10, zl_11, zl_12, zl_13, zl_14, zl_15, zl_16, zl_17, zl_18, zl_19, zl_20, zl_21, zl_22, zl_23, zl_24, zl_25, zl_26, zl_27, zl_28, zl_29, zl_30, zl_31, zl_32, zl_33, zl_34, zl_35, zl_36, zl_37, zl_38, zl_39, zl_40, zl_41, zl_42, zl_43, zl_44, zl_45, zl_46, zl_47, zl_48, zl_49, zl_50, zl_51, zl_52, zl_53, zl_54, zl_55, zl_56, zl_57, zl_58, zl_59, zl_60, zl_61, zl_62, zl_63, zl_64, zl_65, zl_82, zl_99, zl_100, zl_160, zl_299, zl_300, zl_301, zl_382, zl_398, zl_399, zl_464, zl_680, zl_862, zl_999, zl_1000, zl_9999, zl_10000, zl_1000000, zl_m1, zl_m2, zl_m3, zl_m8, zl_97, zl_122, zl_90, zl_100000, zl_75] at hi_td hi_spp hcd hw h1 hO hw2 hk hm c1 hln hpl9 hvr9 hz2 hz3 hrk7 hrghrk7 c8 hz9 hz10 huh13_0 hz16 c17 hz19 c20 ⊢); omega) _ _ _ (hP.sub2 [1, 2, 0] rfl) (hD.sub [1, 2, 0] (by decide) rfl) hS (lv_sub hl [0, 1] rfl)
          · refine lv_aload_n hx hb dX12_settle_76 rfl (lv_at hl 0 rfl) ?_
            refine lv_dup hx hb dX12_settle_77 rfl ?_
            refine z_get Z i_X12 hP 1 rfl rfl 18 (by decide) bw_1035 rfl dX12_settle_78 ?_
            refine lv_iconst (v := 1) hx hb dX12_settle_81 (by decide) ?_
            refine lv_isub hx hb dX12_settle_82 ?_
            refine lv_topi (fun z21 ez21 => ?_)
            have hz21 : z21.toInt = vope.toInt - 1 := by rw [ez21]; exact zsubg (by (try simp only [zlt, zle, zeq, zl_0, zl_1, zl_2, zl_3, zl_4, zl_5, zl_6, zl_7, zl_8, zl_9, zl_10, zl_11, zl_12, zl_13, zl_14, zl_15, zl_16, zl_17, zl_18, zl_19, zl_20, zl_21, zl_22, zl_23, zl_24, zl_25, zl_26, zl_27, zl_28, zl_29, zl_30, zl_31, zl_32, zl_33, zl_34, zl_35, zl_36, zl_37, zl_38, zl_39, zl_40, zl_41, zl_42, zl_43, zl_44, zl_45, zl_46, zl_47, zl_48, zl_49, zl_50, zl_51, zl_52, zl_53, zl_54, zl_55, zl_56, zl_57, zl_58, zl_59, zl_60, zl_61, zl_62, zl_63, zl_64, zl_65, zl_82, zl_99, zl_100, zl_160, zl_299, zl_300, zl_301, zl_382, zl_398, zl_399, zl_464, zl_680, zl_862, zl_999, zl_1000, zl_9999, zl_10000, zl_1000000, zl_m1, zl_m2, zl_m3, zl_m8, zl_97, zl_122, zl_90, zl_100000, zl_75] at hi_td hi_spp hcd hw h1 hO hw2 hk hm c1 hln hpl9 hvr9 hz2 hz3 hrk7 hrghrk7 c8 hz9 hz10 huh13_0 hz16 c17 hz19 c20 ⊢); omega) (by (try simp only [zlt, zle, zeq, zl_0, zl_1, zl_2, zl_3, zl_4, zl_5, zl_6, zl_7, zl_8, zl_9, zl_10, zl_11, zl_12, zl_13, zl_14, zl_15, zl_16, zl_17, zl_18, zl_19, zl_20, zl_21, zl_22, zl_23, zl_24, zl_25, zl_26, zl_27, zl_28, zl_29, zl_30, zl_31, zl_32, zl_33, zl_34, zl_35, zl_36, zl_37, zl_38, zl_39, zl_40, zl_41, zl_42, zl_43, zl_44, zl_45, zl_46, zl_47, zl_48, zl_49, zl_50, zl_51, zl_52, zl_53, zl_54, zl_55, zl_56, zl_57, zl_58, zl_59, zl_60, zl_61, zl_62, zl_63, zl_64, zl_65, zl_82, zl_99, zl_100, zl_160, zl_299, zl_300, zl_301, zl_382, zl_398, zl_399, zl_464, zl_680, zl_862, zl_999, zl_1000, zl_9999, zl_10000, zl_1000000, zl_m1, zl_m2, zl_m3, zl_m8, zl_97, zl_122, zl_90, zl_100000, zl_75] at hi_td hi_spp hcd hw h1 hO hw2 hk hm c1 hln hpl9 hvr9 hz2 hz3 hrk7 hrghrk7 c8 hz9 hz10 huh13_0 hz16 c17 hz19 c20 ⊢); omega)
            refine z_put Z i_X12 tyX12 tyX12_ok nmX12 hP hD hS 1 rfl rfl 18 (by decide) bw_1035 rfl rfl rfl (Nat.le_of_ble_eq_true rfl) dX12_settle_83 (fun H locs hP hD hS => ?_)
            have hP : va_P D vwCl ([(pI, .inl (cI, 160, .inl fpi)), (q, .inr (12, [.ref aA, .ref aI, .ref xT, .ref tP_, .int td, .int fu, .int fp, .int at_, .int plc, .int tok, .int num, .long wrd, .int tx0, .int cls, .int wri_n_14, .int cam, .ref pI, .int z9, .int z21, .int isw, .int so0, .int onc, .ref nm, .ref vL, .ref tR, .int spp, .int eat, .int ste, .ref rW, .ref sP, .ref oT, .ref bS, .ref aS, .ref aO, .ref cS, .ref wY])), (xT, .inl (cI, 2720, .inl fxt_n_15))]) H := hP
            have hD : va_D A ([(pI, .inl (cI, 160, .inl fpi)), (q, .inr (12, [.ref aA, .ref aI, .ref xT, .ref tP_, .int td, .int fu, .int fp, .int at_, .int plc, .int tok, .int num, .long wrd, .int tx0, .int cls, .int wri_n_14, .int cam, .ref pI, .int z9, .int z21, .int isw, .int so0, .int onc, .ref nm, .ref vL, .ref tR, .int spp, .int eat, .int ste, .ref rW, .ref sP, .ref oT, .ref bS, .ref aS, .ref aO, .ref cS, .ref wY])), (xT, .inl (cI, 2720, .inl fxt_n_15))]) := hD
            refine lv_goto (tgt := 0) hx hb dX12_settle_86 (by decide) ?_
            exact ih L3 n3 b3 tv3 wri_n_14 z9 z21 fxt_n_15 (by (try simp only [zlt, zle, zeq, zl_0, zl_1, zl_2, zl_3, zl_4, zl_5, zl_6, zl_7, zl_8, zl_9, zl_10, zl_11, zl_12, zl_13, zl_14, zl_15, zl_16, zl_17, zl_18, zl_19, zl_20, zl_21, zl_22, zl_23, zl_24, zl_25, zl_26, zl_27, zl_28, zl_29, zl_30, zl_31, zl_32, zl_33, zl_34, zl_35, zl_36, zl_37, zl_38, zl_39, zl_40, zl_41, zl_42, zl_43, zl_44, zl_45, zl_46, zl_47, zl_48, zl_49, zl_50, zl_51, zl_52, zl_53, zl_54, zl_55, zl_56, zl_57, zl_58, zl_59, zl_60, zl_61, zl_62, zl_63, zl_64, zl_65, zl_82, zl_99, zl_100, zl_160, zl_299, zl_300, zl_301, zl_382, zl_398, zl_399, zl_464, zl_680, zl_862, zl_999, zl_1000, zl_9999, zl_10000, zl_1000000, zl_m1, zl_m2, zl_m3, zl_m8, zl_97, zl_122, zl_90, zl_100000, zl_75] at hi_td hi_spp hcd hw h1 hO hw2 hk hm c1 hln hpl9 hvr9 hz2 hz3 hrk7 hrghrk7 c8 hz9 hz10 huh13_0 hz16 c17 hz19 c20 hz21 ⊢); omega) hRp.2 hSV3 (by rw [vO_1 (by (try simp only [zlt, zle, zeq, zl_0, zl_1, zl_2, zl_3, zl_4, zl_5, zl_6, zl_7, zl_8, zl_9, zl_10, zl_11, zl_12, zl_13, zl_14, zl_15, zl_16, zl_17, zl_18, zl_19, zl_20, zl_21, zl_22, zl_23, zl_24, zl_25, zl_26, zl_27, zl_28, zl_29, zl_30, zl_31, zl_32, zl_33, zl_34, zl_35, zl_36, zl_37, zl_38, zl_39, zl_40, zl_41, zl_42, zl_43, zl_44, zl_45, zl_46, zl_47, zl_48, zl_49, zl_50, zl_51, zl_52, zl_53, zl_54, zl_55, zl_56, zl_57, zl_58, zl_59, zl_60, zl_61, zl_62, zl_63, zl_64, zl_65, zl_82, zl_99, zl_100, zl_160, zl_299, zl_300, zl_301, zl_382, zl_398, zl_399, zl_464, zl_680, zl_862, zl_999, zl_1000, zl_9999, zl_10000, zl_1000000, zl_m1, zl_m2, zl_m3, zl_m8, zl_97, zl_122, zl_90, zl_100000, zl_75] at hi_td hi_spp hcd hw h1 hO hw2 hk hm c1 hln hpl9 hvr9 hz2 hz3 hrk7 hrghrk7 c8 hz9 hz10 huh13_0 hz16 c17 hz19 c20 hz21 ⊢); omega)] at hO; have hl9 := hO; (try simp only [zlt, zle, zeq, zl_0, zl_1, zl_2, zl_3, zl_4, zl_5, zl_6, zl_7, zl_8, zl_9, zl_10, zl_11, zl_12, zl_13, zl_14, zl_15, zl_16, zl_17, zl_18, zl_19, zl_20, zl_21, zl_22, zl_23, zl_24, zl_25, zl_26, zl_27, zl_28, zl_29, zl_30, zl_31, zl_32, zl_33, zl_34, zl_35, zl_36, zl_37, zl_38, zl_39, zl_40, zl_41, zl_42, zl_43, zl_44, zl_45, zl_46, zl_47, zl_48, zl_49, zl_50, zl_51, zl_52, zl_53, zl_54, zl_55, zl_56, zl_57, zl_58, zl_59, zl_60, zl_61, zl_62, zl_63, zl_64, zl_65, zl_82, zl_99, zl_100, zl_160, zl_299, zl_300, zl_301, zl_382, zl_398, zl_399, zl_464, zl_680, zl_862, zl_999, zl_1000, zl_9999, zl_10000, zl_1000000, zl_m1, zl_m2, zl_m3, zl_m8, zl_97, zl_122, zl_90, zl_100000, zl_75] at hi_td hi_spp hcd hw h1 hO hw2 hk hm c1 hln hpl9 hvr9 hz2 hz3 hrk7 hrghrk7 c8 hz9 hz10 huh13_0 hz16 c17 hz19 c20 hz21 hl9 ⊢); omega) (by rw [show wri_n_14.toInt.toNat = vwri.toInt.toNat + 1 by (try simp only [zlt, zle, zeq, zl_0, zl_1, zl_2, zl_3, zl_4, zl_5, zl_6, zl_7, zl_8, zl_9, zl_10, zl_11, zl_12, zl_13, zl_14, zl_15, zl_16, zl_17, zl_18, zl_19, zl_20, zl_21, zl_22, zl_23, zl_24, zl_25, zl_26, zl_27, zl_28, zl_29, zl_30, zl_31, zl_32, zl_33, zl_34, zl_35, zl_36, zl_37, zl_38, zl_39, zl_40, zl_41, zl_42, zl_43, zl_44, zl_45, zl_46, zl_47, zl_48, zl_49, zl_50, zl_51, zl_52, zl_53, zl_54, zl_55, zl_56, zl_57, zl_58, zl_59, zl_60, zl_61, zl_62, zl_63, zl_64, zl_65, zl_82, zl_99, zl_100, zl_160, zl_299, zl_300, zl_301, zl_382, zl_398, zl_399, zl_464, zl_680, zl_862, zl_999, zl_1000, zl_9999, zl_10000, zl_1000000, zl_m1, zl_m2, zl_m3, zl_m8, zl_97, zl_122, zl_90, zl_100000, zl_75] at hi_td hi_spp hcd hw h1 hO hw2 hk hm c1 hln hpl9 hvr9 hz2 hz3 hrk7 hrghrk7 c8 hz9 hz10 huh13_0 hz16 c17 hz19 c20 hz21 ⊢); omega, huh13_1]; exact GP.emit hG hs3) (by (try simp only [zlt, zle, zeq, zl_0, zl_1, zl_2, zl_3, zl_4, zl_5, zl_6, zl_7, zl_8, zl_9, zl_10, zl_11, zl_12, zl_13, zl_14, zl_15, zl_16, zl_17, zl_18, zl_19, zl_20, zl_21, zl_22, zl_23, zl_24, zl_25, zl_26, zl_27, zl_28, zl_29, zl_30, zl_31, zl_32, zl_33, zl_34, zl_35, zl_36, zl_37, zl_38, zl_39, zl_40, zl_41, zl_42, zl_43, zl_44, zl_45, zl_46, zl_47, zl_48, zl_49, zl_50, zl_51, zl_52, zl_53, zl_54, zl_55, zl_56, zl_57, zl_58, zl_59, zl_60, zl_61, zl_62, zl_63, zl_64, zl_65, zl_82, zl_99, zl_100, zl_160, zl_299, zl_300, zl_301, zl_382, zl_398, zl_399, zl_464, zl_680, zl_862, zl_999, zl_1000, zl_9999, zl_10000, zl_1000000, zl_m1, zl_m2, zl_m3, zl_m8, zl_97, zl_122, zl_90, zl_100000, zl_75] at hi_td hi_spp hcd hw h1 hO hw2 hk hm c1 hln hpl9 hvr9 hz2 hz3 hrk7 hrghrk7 c8 hz9 hz10 huh13_0 hz16 c17 hz19 c20 hz21 ⊢); omega) (by have hsg := seg_pop (e := e9) (L := L3) (by (try simp only [zlt, zle, zeq, zl_0, zl_1, zl_2, zl_3, zl_4, zl_5, zl_6, zl_7, zl_8, zl_9, zl_10, zl_11, zl_12, zl_13, zl_14, zl_15, zl_16, zl_17, zl_18, zl_19, zl_20, zl_21, zl_22, zl_23, zl_24, zl_25, zl_26, zl_27, zl_28, zl_29, zl_30, zl_31, zl_32, zl_33, zl_34, zl_35, zl_36, zl_37, zl_38, zl_39, zl_40, zl_41, zl_42, zl_43, zl_44, zl_45, zl_46, zl_47, zl_48, zl_49, zl_50, zl_51, zl_52, zl_53, zl_54, zl_55, zl_56, zl_57, zl_58, zl_59, zl_60, zl_61, zl_62, zl_63, zl_64, zl_65, zl_82, zl_99, zl_100, zl_160, zl_299, zl_300, zl_301, zl_382, zl_398, zl_399, zl_464, zl_680, zl_862, zl_999, zl_1000, zl_9999, zl_10000, zl_1000000, zl_m1, zl_m2, zl_m3, zl_m8, zl_97, zl_122, zl_90, zl_100000, zl_75] at hi_td hi_spp hcd hw h1 hO hw2 hk hm c1 hln hpl9 hvr9 hz2 hz3 hrk7 hrghrk7 c8 hz9 hz10 huh13_0 hz16 c17 hz19 c20 hz21 ⊢); omega); (try simp only [zlt, zle, zeq, zl_0, zl_1, zl_2, zl_3, zl_4, zl_5, zl_6, zl_7, zl_8, zl_9, zl_10, zl_11, zl_12, zl_13, zl_14, zl_15, zl_16, zl_17, zl_18, zl_19, zl_20, zl_21, zl_22, zl_23, zl_24, zl_25, zl_26, zl_27, zl_28, zl_29, zl_30, zl_31, zl_32, zl_33, zl_34, zl_35, zl_36, zl_37, zl_38, zl_39, zl_40, zl_41, zl_42, zl_43, zl_44, zl_45, zl_46, zl_47, zl_48, zl_49, zl_50, zl_51, zl_52, zl_53, zl_54, zl_55, zl_56, zl_57, zl_58, zl_59, zl_60, zl_61, zl_62, zl_63, zl_64, zl_65, zl_82, zl_99, zl_100, zl_160, zl_299, zl_300, zl_301, zl_382, zl_398, zl_399, zl_464, zl_680, zl_862, zl_999, zl_1000, zl_9999, zl_10000, zl_1000000, zl_m1, zl_m2, zl_m3, zl_m8, zl_97, zl_122, zl_90, zl_100000, zl_75] at hi_td hi_spp hcd hw h1 hO hw2 hk hm c1 hln hpl9 hvr9 hz2 hz3 hrk7 hrghrk7 c8 hz9 hz10 huh13_0 hz16 c17 hz19 c20 hz21 hsg ⊢); omega) (by rw [huh13_1]; have hF9 := hG.1; exact Below_up (Below_up hB (by (try simp only [zlt, zle, zeq, zl_0, zl_1, zl_2, zl_3, zl_4, zl_5, zl_6, zl_7, zl_8, zl_9, zl_10, zl_11, zl_12, zl_13, zl_14, zl_15, zl_16, zl_17, zl_18, zl_19, zl_20, zl_21, zl_22, zl_23, zl_24, zl_25, zl_26, zl_27, zl_28, zl_29, zl_30, zl_31, zl_32, zl_33, zl_34, zl_35, zl_36, zl_37, zl_38, zl_39, zl_40, zl_41, zl_42, zl_43, zl_44, zl_45, zl_46, zl_47, zl_48, zl_49, zl_50, zl_51, zl_52, zl_53, zl_54, zl_55, zl_56, zl_57, zl_58, zl_59, zl_60, zl_61, zl_62, zl_63, zl_64, zl_65, zl_82, zl_99, zl_100, zl_160, zl_299, zl_300, zl_301, zl_382, zl_398, zl_399, zl_464, zl_680, zl_862, zl_999, zl_1000, zl_9999, zl_10000, zl_1000000, zl_m1, zl_m2, zl_m3, zl_m8, zl_97, zl_122, zl_90, zl_100000, zl_75] at hi_td hi_spp hcd hw h1 hO hw2 hk hm c1 hln hpl9 hvr9 hz2 hz3 hrk7 hrghrk7 c8 hz9 hz10 huh13_0 hz16 c17 hz19 c20 hz21 hF9 ⊢); omega)) (by (try simp only [zlt, zle, zeq, zl_0, zl_1, zl_2, zl_3, zl_4, zl_5, zl_6, zl_7, zl_8, zl_9, zl_10, zl_11, zl_12, zl_13, zl_14, zl_15, zl_16, zl_17, zl_18, zl_19, zl_20, zl_21, zl_22, zl_23, zl_24, zl_25, zl_26, zl_27, zl_28, zl_29, zl_30, zl_31, zl_32, zl_33, zl_34, zl_35, zl_36, zl_37, zl_38, zl_39, zl_40, zl_41, zl_42, zl_43, zl_44, zl_45, zl_46, zl_47, zl_48, zl_49, zl_50, zl_51, zl_52, zl_53, zl_54, zl_55, zl_56, zl_57, zl_58, zl_59, zl_60, zl_61, zl_62, zl_63, zl_64, zl_65, zl_82, zl_99, zl_100, zl_160, zl_299, zl_300, zl_301, zl_382, zl_398, zl_399, zl_464, zl_680, zl_862, zl_999, zl_1000, zl_9999, zl_10000, zl_1000000, zl_m1, zl_m2, zl_m3, zl_m8, zl_97, zl_122, zl_90, zl_100000, zl_75] at hi_td hi_spp hcd hw h1 hO hw2 hk hm c1 hln hpl9 hvr9 hz2 hz3 hrk7 hrghrk7 c8 hz9 hz10 huh13_0 hz16 c17 hz19 c20 hz21 hF9 ⊢); omega)) (by (try simp only [zlt, zle, zeq, zl_0, zl_1, zl_2, zl_3, zl_4, zl_5, zl_6, zl_7, zl_8, zl_9, zl_10, zl_11, zl_12, zl_13, zl_14, zl_15, zl_16, zl_17, zl_18, zl_19, zl_20, zl_21, zl_22, zl_23, zl_24, zl_25, zl_26, zl_27, zl_28, zl_29, zl_30, zl_31, zl_32, zl_33, zl_34, zl_35, zl_36, zl_37, zl_38, zl_39, zl_40, zl_41, zl_42, zl_43, zl_44, zl_45, zl_46, zl_47, zl_48, zl_49, zl_50, zl_51, zl_52, zl_53, zl_54, zl_55, zl_56, zl_57, zl_58, zl_59, zl_60, zl_61, zl_62, zl_63, zl_64, zl_65, zl_82, zl_99, zl_100, zl_160, zl_299, zl_300, zl_301, zl_382, zl_398, zl_399, zl_464, zl_680, zl_862, zl_999, zl_1000, zl_9999, zl_10000, zl_1000000, zl_m1, zl_m2, zl_m3, zl_m8, zl_97, zl_122, zl_90, zl_100000, zl_75] at hi_td hi_spp hcd hw h1 hO hw2 hk hm c1 hln hpl9 hvr9 hz2 hz3 hrk7 hrghrk7 c8 hz9 hz10 huh13_0 hz16 c17 hz19 c20 hz21 ⊢); omega) _ _ _ (hP.sub2 [1, 2, 0] rfl) (hD.sub [1, 2, 0] (by decide) rfl) hS (lv_sub hl [0, 1] rfl)
set_option maxHeartbeats 4000000 in
set_option maxRecDepth 100000 in
theorem c_X12_settle (l : Launch) (D : va_G) (cI cM cT cJ cZ : ClassId) (q : Nat) (p0 : Int32) (aA : Nat) (aI : Nat) (xT : Nat) (tP_ : Nat) (td : Int32) (fu : Int32) (fp : Int32) (at_ : Int32) (plc : Int32) (tok : Int32) (num : Int32) (wrd : Int64) (tx0 : Int32) (cls : Int32) (wri : Int32) (cam : Int32) (pI : Nat) (pid : Int32) (ope : Int32) (isw : Int32) (so0 : Int32) (onc : Int32) (nm : Nat) (vL : Nat) (tR : Nat) (spp : Int32) (eat : Int32) (ste : Int32) (rW : Nat) (sP : Nat) (oT : Nat) (bS : Nat) (aS : Nat) (aO : Nat) (cS : Nat) (wY : Nat) (fxt : Nat → Int32) (fpi : Nat → Int32) (F : Nat) (L : List Int) (hi_td : 0 ≤ td.toInt ∧ td.toInt ≤ 300) (hi_spp : 0 ≤ spp.toInt ∧ spp.toInt ≤ 299) (hps : PSx fxt fpi tx0.toInt F L wri.toInt pid.toInt ope.toInt (vA L + 1) (vT L)) (hcd : (1 ≤ p0.toInt ∧ p0.toInt ≤ 7) ∧ (4 ≤ p0.toInt ∨ vC L = 1 ∨ vK L = 0)) (hw : (0 ≤ tx0.toInt ∧ tx0.toInt ≤ 2040) ∧ wri.toInt + pid.toInt ≤ 300) : Cv l D (ty3 cI cM cT cJ cZ) yX12_settle cX12_settle 2 1 0 0 [.ref q, .int p0] ([(q, .inr (12, [.ref aA, .ref aI, .ref xT, .ref tP_, .int td, .int fu, .int fp, .int at_, .int plc, .int tok, .int num, .long wrd, .int tx0, .int cls, .int wri, .int cam, .ref pI, .int pid, .int ope, .int isw, .int so0, .int onc, .ref nm, .ref vL, .ref tR, .int spp, .int eat, .int ste, .ref rW, .ref sP, .ref oT, .ref bS, .ref aS, .ref aO, .ref cS, .ref wY])), (xT, .inl (cI, 2720, .inl fxt)), (pI, .inl (cI, 160, .inl fpi))]) (fun u => ∃ (wri_n : Int32) (pid_n : Int32) (ope_n : Int32) (fxt_n : Nat → Int32) (L2 : List Int) (n2 : Int) (b2 : Int), u = [(q, .inr (12, [.ref aA, .ref aI, .ref xT, .ref tP_, .int td, .int fu, .int fp, .int at_, .int plc, .int tok, .int num, .long wrd, .int tx0, .int cls, .int wri_n, .int cam, .ref pI, .int pid_n, .int ope_n, .int isw, .int so0, .int onc, .ref nm, .ref vL, .ref tR, .int spp, .int eat, .int ste, .ref rW, .ref sP, .ref oT, .ref bS, .ref aS, .ref aO, .ref cS, .ref wY])), (xT, .inl (cI, 2720, .inl fxt_n)), (pI, .inl (cI, 160, .inl fpi))] ∧ (wri_n.toInt + pid_n.toInt = wri.toInt + pid.toInt) ∧ (vK L2 = vK L ∧ vM L2 = vM L ∧ vX L2 = vX L ∧ vR L2 < p0.toInt) ∧ (((vC L = 1 ∧ p0.toInt ≤ 4) ∧ n2 = vA L2 ∧ b2 = vT L2 + 1) ∨ (¬ (vC L = 1 ∧ p0.toInt ≤ 4) ∧ n2 = vA L2 + 1 ∧ b2 = vT L2)) ∧ PSx fxt_n fpi tx0.toInt F L2 wri_n.toInt pid_n.toInt ope_n.toInt n2 b2 ∧ Below (tx0.toInt.toNat + 75 + 2 * F) fxt fxt_n) := by
  refine Cv.of (by decide +kernel) (Nat.le_of_ble_eq_true rfl) ?_
  intro p e s m below meth c A ls Z hin hP hD hl
  have hx := Z.1
  have hb := Z.2.1
  have hS : va_S A s.heap s.heap [] := va_S.rf
  have hl : lv_has ls 2 [(0, .ref q), (1, .int p0)] := hl
  skip
  refine W.widen (k := 0) (n := 0) (Nat.le_of_ble_eq_true rfl) (Nat.le_of_ble_eq_true rfl) ?_
  exact lp_X12_settle l D cI cM cT cJ cZ q p0 aA aI xT tP_ td fu fp at_ plc tok num wrd tx0 cls wri cam pI pid ope isw so0 onc nm vL tR spp eat ste rW sP oT bS aS aO cS wY fxt fpi F L Z hi_td hi_spp hps hcd hw  _ L (vA L + 1) (vT L) 0 wri pid ope fxt hps.1 hps.2.1 ⟨hps.2.2.1, Or.inl ⟨rfl, rfl, rfl, rfl, hcd.2⟩, fun z => Or.inr z.1, fun _ => rfl⟩ ⟨hps.2.2.2.1, by rw [← hps.2.2.2.1]; exact hps.2.2.2.2.1⟩ hps.2.2.2.2.2.2 ⟨hps.2.2.2.2.2.1, rfl⟩ ⟨rfl, rfl, rfl⟩ Below.rf (Nat.lt_succ_self _) _ _ _ hP hD hS (lv_sub hl [0, 1] rfl)
