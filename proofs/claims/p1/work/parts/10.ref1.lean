theorem dX12_isPlace_0 : decode cX12_isPlace 0 = .ok (.iload_n 0, 1) := by decide +kernel
theorem dX12_isPlace_1 : decode cX12_isPlace 1 = .ok (.iconst 0, 1) := by decide +kernel
theorem dX12_isPlace_2 : decode cX12_isPlace 2 = .ok (.sipush 299, 3) := by decide +kernel
theorem dX12_isPlace_5 : decode cX12_isPlace 5 = .ok (.invokestatic 71, 3) := by decide +kernel
theorem dX12_isPlace_8 : decode cX12_isPlace 8 = .ok (.ireturn, 1) := by decide +kernel
theorem dX12_isHorse_0 : decode cX12_isHorse 0 = .ok (.iload_n 1, 1) := by decide +kernel
theorem dX12_isHorse_1 : decode cX12_isHorse 1 = .ok (.iconst 0, 1) := by decide +kernel
theorem dX12_isHorse_2 : decode cX12_isHorse 2 = .ok (.aload_n 0, 1) := by decide +kernel
theorem dX12_isHorse_3 : decode cX12_isHorse 3 = .ok (.getfield 7, 3) := by decide +kernel
theorem dX12_isHorse_6 : decode cX12_isHorse 6 = .ok (.iconst 0, 1) := by decide +kernel
theorem dX12_isHorse_7 : decode cX12_isHorse 7 = .ok (.iaload, 1) := by decide +kernel
theorem dX12_isHorse_8 : decode cX12_isHorse 8 = .ok (.iconst 1, 1) := by decide +kernel
theorem dX12_isHorse_9 : decode cX12_isHorse 9 = .ok (.isub, 1) := by decide +kernel
theorem dX12_isHorse_10 : decode cX12_isHorse 10 = .ok (.invokestatic 71, 3) := by decide +kernel
theorem dX12_isHorse_13 : decode cX12_isHorse 13 = .ok (.ireturn, 1) := by decide +kernel
theorem dX12_innAt_0 : decode cX12_innAt 0 = .ok (.iconst 0, 1) := by decide +kernel
theorem dX12_innAt_1 : decode cX12_innAt 1 = .ok (.istore_n 2, 1) := by decide +kernel
theorem dX12_innAt_2 : decode cX12_innAt 2 = .ok (.iload_n 2, 1) := by decide +kernel
theorem dX12_innAt_3 : decode cX12_innAt 3 = .ok (.aload_n 0, 1) := by decide +kernel
theorem dX12_innAt_4 : decode cX12_innAt 4 = .ok (.getfield 7, 3) := by decide +kernel
theorem dX12_innAt_7 : decode cX12_innAt 7 = .ok (.iconst 2, 1) := by decide +kernel
theorem dX12_innAt_8 : decode cX12_innAt 8 = .ok (.iaload, 1) := by decide +kernel
theorem dX12_innAt_9 : decode cX12_innAt 9 = .ok (.if_icmp .ge 24, 3) := by decide +kernel
theorem dX12_innAt_12 : decode cX12_innAt 12 = .ok (.aload_n 0, 1) := by decide +kernel
theorem dX12_innAt_13 : decode cX12_innAt 13 = .ok (.getfield 7, 3) := by decide +kernel
theorem dX12_innAt_16 : decode cX12_innAt 16 = .ok (.bipush 24, 2) := by decide +kernel
theorem dX12_innAt_18 : decode cX12_innAt 18 = .ok (.iload_n 2, 1) := by decide +kernel
theorem dX12_innAt_19 : decode cX12_innAt 19 = .ok (.iadd, 1) := by decide +kernel
theorem dX12_innAt_20 : decode cX12_innAt 20 = .ok (.iaload, 1) := by decide +kernel
theorem dX12_innAt_21 : decode cX12_innAt 21 = .ok (.iload_n 1, 1) := by decide +kernel
theorem dX12_innAt_22 : decode cX12_innAt 22 = .ok (.if_icmp .ne 5, 3) := by decide +kernel
theorem dX12_innAt_25 : decode cX12_innAt 25 = .ok (.iload_n 2, 1) := by decide +kernel
theorem dX12_innAt_26 : decode cX12_innAt 26 = .ok (.ireturn, 1) := by decide +kernel
theorem dX12_innAt_27 : decode cX12_innAt 27 = .ok (.iinc 2 1, 3) := by decide +kernel
theorem dX12_innAt_30 : decode cX12_innAt 30 = .ok (.goto (-28), 3) := by decide +kernel
theorem dX12_innAt_33 : decode cX12_innAt 33 = .ok (.iconst (-1), 1) := by decide +kernel
theorem dX12_innAt_34 : decode cX12_innAt 34 = .ok (.ireturn, 1) := by decide +kernel
theorem dX12_byteAt_0 : decode cX12_byteAt 0 = .ok (.iload_n 1, 1) := by decide +kernel
theorem dX12_byteAt_1 : decode cX12_byteAt 1 = .ok (.aload_n 0, 1) := by decide +kernel
theorem dX12_byteAt_2 : decode cX12_byteAt 2 = .ok (.getfield 79, 3) := by decide +kernel
theorem dX12_byteAt_5 : decode cX12_byteAt 5 = .ok (.if_icmp .ge 12, 3) := by decide +kernel
theorem dX12_byteAt_8 : decode cX12_byteAt 8 = .ok (.aload_n 0, 1) := by decide +kernel
theorem dX12_byteAt_9 : decode cX12_byteAt 9 = .ok (.getfield 19, 3) := by decide +kernel
theorem dX12_byteAt_12 : decode cX12_byteAt 12 = .ok (.iload_n 1, 1) := by decide +kernel
theorem dX12_byteAt_13 : decode cX12_byteAt 13 = .ok (.iaload, 1) := by decide +kernel
theorem dX12_byteAt_14 : decode cX12_byteAt 14 = .ok (.goto 4, 3) := by decide +kernel
theorem dX12_byteAt_17 : decode cX12_byteAt 17 = .ok (.iconst (-1), 1) := by decide +kernel
theorem dX12_byteAt_18 : decode cX12_byteAt 18 = .ok (.ireturn, 1) := by decide +kernel
theorem dX12_nextToken_0 : decode cX12_nextToken 0 = .ok (.aload_n 0, 1) := by decide +kernel
theorem dX12_nextToken_1 : decode cX12_nextToken 1 = .ok (.aload_n 0, 1) := by decide +kernel
theorem dX12_nextToken_2 : decode cX12_nextToken 2 = .ok (.getfield 86, 3) := by decide +kernel
theorem dX12_nextToken_5 : decode cX12_nextToken 5 = .ok (.invokevirtual 89, 3) := by decide +kernel
theorem dX12_nextToken_8 : decode cX12_nextToken 8 = .ok (.bipush 32, 2) := by decide +kernel
theorem dX12_nextToken_10 : decode cX12_nextToken 10 = .ok (.if_icmp .eq 16, 3) := by decide +kernel
theorem dX12_nextToken_13 : decode cX12_nextToken 13 = .ok (.aload_n 0, 1) := by decide +kernel
theorem dX12_nextToken_14 : decode cX12_nextToken 14 = .ok (.aload_n 0, 1) := by decide +kernel
theorem dX12_nextToken_15 : decode cX12_nextToken 15 = .ok (.getfield 86, 3) := by decide +kernel
theorem dX12_nextToken_18 : decode cX12_nextToken 18 = .ok (.invokevirtual 89, 3) := by decide +kernel
theorem dX12_nextToken_21 : decode cX12_nextToken 21 = .ok (.bipush 10, 2) := by decide +kernel
theorem dX12_nextToken_23 : decode cX12_nextToken 23 = .ok (.if_icmp .ne 16, 3) := by decide +kernel
theorem dX12_nextToken_26 : decode cX12_nextToken 26 = .ok (.aload_n 0, 1) := by decide +kernel
theorem dX12_nextToken_27 : decode cX12_nextToken 27 = .ok (.dup, 1) := by decide +kernel
theorem dX12_nextToken_28 : decode cX12_nextToken 28 = .ok (.getfield 86, 3) := by decide +kernel
theorem dX12_nextToken_31 : decode cX12_nextToken 31 = .ok (.iconst 1, 1) := by decide +kernel
theorem dX12_nextToken_32 : decode cX12_nextToken 32 = .ok (.iadd, 1) := by decide +kernel
theorem dX12_nextToken_33 : decode cX12_nextToken 33 = .ok (.putfield 86, 3) := by decide +kernel
theorem dX12_nextToken_36 : decode cX12_nextToken 36 = .ok (.goto (-36), 3) := by decide +kernel
theorem dX12_nextToken_39 : decode cX12_nextToken 39 = .ok (.aload_n 0, 1) := by decide +kernel
theorem dX12_nextToken_40 : decode cX12_nextToken 40 = .ok (.aload_n 0, 1) := by decide +kernel
theorem dX12_nextToken_41 : decode cX12_nextToken 41 = .ok (.getfield 86, 3) := by decide +kernel
theorem dX12_nextToken_44 : decode cX12_nextToken 44 = .ok (.putfield 93, 3) := by decide +kernel
theorem dX12_nextToken_47 : decode cX12_nextToken 47 = .ok (.aload_n 0, 1) := by decide +kernel
theorem dX12_nextToken_48 : decode cX12_nextToken 48 = .ok (.aload_n 0, 1) := by decide +kernel
theorem dX12_nextToken_49 : decode cX12_nextToken 49 = .ok (.getfield 86, 3) := by decide +kernel
theorem dX12_nextToken_52 : decode cX12_nextToken 52 = .ok (.invokevirtual 89, 3) := by decide +kernel
theorem dX12_nextToken_55 : decode cX12_nextToken 55 = .ok (.istore_n 1, 1) := by decide +kernel
theorem dX12_nextToken_56 : decode cX12_nextToken 56 = .ok (.iload_n 1, 1) := by decide +kernel
theorem dX12_nextToken_57 : decode cX12_nextToken 57 = .ok (.ifCond .ge 11, 3) := by decide +kernel
theorem dX12_nextToken_60 : decode cX12_nextToken 60 = .ok (.aload_n 0, 1) := by decide +kernel
theorem dX12_nextToken_61 : decode cX12_nextToken 61 = .ok (.iconst 0, 1) := by decide +kernel
theorem dX12_nextToken_62 : decode cX12_nextToken 62 = .ok (.putfield 96, 3) := by decide +kernel
theorem dX12_nextToken_65 : decode cX12_nextToken 65 = .ok (.goto 343, 3) := by decide +kernel
theorem dX12_nextToken_68 : decode cX12_nextToken 68 = .ok (.iload_n 1, 1) := by decide +kernel
theorem dX12_nextToken_69 : decode cX12_nextToken 69 = .ok (.invokestatic 99, 3) := by decide +kernel
theorem dX12_nextToken_72 : decode cX12_nextToken 72 = .ok (.ifCond .eq 72, 3) := by decide +kernel
theorem dX12_nextToken_75 : decode cX12_nextToken 75 = .ok (.aload_n 0, 1) := by decide +kernel
theorem dX12_nextToken_76 : decode cX12_nextToken 76 = .ok (.iconst 1, 1) := by decide +kernel
theorem dX12_nextToken_77 : decode cX12_nextToken 77 = .ok (.putfield 96, 3) := by decide +kernel
theorem dX12_nextToken_80 : decode cX12_nextToken 80 = .ok (.aload_n 0, 1) := by decide +kernel
theorem dX12_nextToken_81 : decode cX12_nextToken 81 = .ok (.iconst 0, 1) := by decide +kernel
theorem dX12_nextToken_82 : decode cX12_nextToken 82 = .ok (.putfield 102, 3) := by decide +kernel
theorem dX12_nextToken_85 : decode cX12_nextToken 85 = .ok (.aload_n 0, 1) := by decide +kernel
theorem dX12_nextToken_86 : decode cX12_nextToken 86 = .ok (.aload_n 0, 1) := by decide +kernel
theorem dX12_nextToken_87 : decode cX12_nextToken 87 = .ok (.getfield 86, 3) := by decide +kernel
theorem dX12_nextToken_90 : decode cX12_nextToken 90 = .ok (.invokevirtual 89, 3) := by decide +kernel
theorem dX12_nextToken_93 : decode cX12_nextToken 93 = .ok (.invokestatic 99, 3) := by decide +kernel
theorem dX12_nextToken_96 : decode cX12_nextToken 96 = .ok (.ifCond .eq 312, 3) := by decide +kernel
theorem dX12_nextToken_99 : decode cX12_nextToken 99 = .ok (.aload_n 0, 1) := by decide +kernel
theorem dX12_nextToken_100 : decode cX12_nextToken 100 = .ok (.getfield 102, 3) := by decide +kernel
theorem dX12_nextToken_103 : decode cX12_nextToken 103 = .ok (.ldc 105, 2) := by decide +kernel
theorem dX12_nextToken_105 : decode cX12_nextToken 105 = .ok (.if_icmp .ge 26, 3) := by decide +kernel
theorem dX12_nextToken_108 : decode cX12_nextToken 108 = .ok (.aload_n 0, 1) := by decide +kernel
theorem dX12_nextToken_109 : decode cX12_nextToken 109 = .ok (.bipush 10, 2) := by decide +kernel
theorem dX12_nextToken_111 : decode cX12_nextToken 111 = .ok (.aload_n 0, 1) := by decide +kernel
theorem dX12_nextToken_112 : decode cX12_nextToken 112 = .ok (.getfield 102, 3) := by decide +kernel
theorem dX12_nextToken_115 : decode cX12_nextToken 115 = .ok (.imul, 1) := by decide +kernel
theorem dX12_nextToken_116 : decode cX12_nextToken 116 = .ok (.aload_n 0, 1) := by decide +kernel
theorem dX12_nextToken_117 : decode cX12_nextToken 117 = .ok (.aload_n 0, 1) := by decide +kernel
theorem dX12_nextToken_118 : decode cX12_nextToken 118 = .ok (.getfield 86, 3) := by decide +kernel
theorem dX12_nextToken_121 : decode cX12_nextToken 121 = .ok (.invokevirtual 89, 3) := by decide +kernel
theorem dX12_nextToken_124 : decode cX12_nextToken 124 = .ok (.iadd, 1) := by decide +kernel
theorem dX12_nextToken_125 : decode cX12_nextToken 125 = .ok (.bipush 48, 2) := by decide +kernel
theorem dX12_nextToken_127 : decode cX12_nextToken 127 = .ok (.isub, 1) := by decide +kernel
theorem dX12_nextToken_128 : decode cX12_nextToken 128 = .ok (.putfield 102, 3) := by decide +kernel
theorem dX12_nextToken_131 : decode cX12_nextToken 131 = .ok (.aload_n 0, 1) := by decide +kernel
theorem dX12_nextToken_132 : decode cX12_nextToken 132 = .ok (.dup, 1) := by decide +kernel
theorem dX12_nextToken_133 : decode cX12_nextToken 133 = .ok (.getfield 86, 3) := by decide +kernel
theorem dX12_nextToken_136 : decode cX12_nextToken 136 = .ok (.iconst 1, 1) := by decide +kernel
theorem dX12_nextToken_137 : decode cX12_nextToken 137 = .ok (.iadd, 1) := by decide +kernel
theorem dX12_nextToken_138 : decode cX12_nextToken 138 = .ok (.putfield 86, 3) := by decide +kernel
theorem dX12_nextToken_141 : decode cX12_nextToken 141 = .ok (.goto (-56), 3) := by decide +kernel
theorem dX12_nextToken_144 : decode cX12_nextToken 144 = .ok (.iload_n 1, 1) := by decide +kernel
theorem dX12_nextToken_145 : decode cX12_nextToken 145 = .ok (.invokestatic 106, 3) := by decide +kernel
theorem dX12_nextToken_148 : decode cX12_nextToken 148 = .ok (.ifCond .eq 97, 3) := by decide +kernel
theorem dX12_nextToken_151 : decode cX12_nextToken 151 = .ok (.aload_n 0, 1) := by decide +kernel
theorem dX12_nextToken_152 : decode cX12_nextToken 152 = .ok (.iconst 2, 1) := by decide +kernel
theorem dX12_nextToken_153 : decode cX12_nextToken 153 = .ok (.putfield 96, 3) := by decide +kernel
theorem dX12_nextToken_156 : decode cX12_nextToken 156 = .ok (.aload_n 0, 1) := by decide +kernel
theorem dX12_nextToken_157 : decode cX12_nextToken 157 = .ok (.lconst 0, 1) := by decide +kernel
theorem dX12_nextToken_158 : decode cX12_nextToken 158 = .ok (.putfield 109, 3) := by decide +kernel
theorem dX12_nextToken_161 : decode cX12_nextToken 161 = .ok (.aload_n 0, 1) := by decide +kernel
theorem dX12_nextToken_162 : decode cX12_nextToken 162 = .ok (.aload_n 0, 1) := by decide +kernel
theorem dX12_nextToken_163 : decode cX12_nextToken 163 = .ok (.getfield 86, 3) := by decide +kernel
theorem dX12_nextToken_166 : decode cX12_nextToken 166 = .ok (.invokevirtual 89, 3) := by decide +kernel
theorem dX12_nextToken_169 : decode cX12_nextToken 169 = .ok (.invokestatic 106, 3) := by decide +kernel
theorem dX12_nextToken_172 : decode cX12_nextToken 172 = .ok (.ifCond .eq 51, 3) := by decide +kernel
theorem dX12_nextToken_175 : decode cX12_nextToken 175 = .ok (.aload_n 0, 1) := by decide +kernel
theorem dX12_nextToken_176 : decode cX12_nextToken 176 = .ok (.getfield 86, 3) := by decide +kernel
theorem dX12_nextToken_179 : decode cX12_nextToken 179 = .ok (.aload_n 0, 1) := by decide +kernel
theorem dX12_nextToken_180 : decode cX12_nextToken 180 = .ok (.getfield 93, 3) := by decide +kernel
theorem dX12_nextToken_183 : decode cX12_nextToken 183 = .ok (.isub, 1) := by decide +kernel
theorem dX12_nextToken_184 : decode cX12_nextToken 184 = .ok (.bipush 7, 2) := by decide +kernel
theorem dX12_nextToken_186 : decode cX12_nextToken 186 = .ok (.if_icmp .ge 24, 3) := by decide +kernel
theorem dX12_nextToken_189 : decode cX12_nextToken 189 = .ok (.aload_n 0, 1) := by decide +kernel
theorem dX12_nextToken_190 : decode cX12_nextToken 190 = .ok (.aload_n 0, 1) := by decide +kernel
theorem dX12_nextToken_191 : decode cX12_nextToken 191 = .ok (.getfield 109, 3) := by decide +kernel
theorem dX12_nextToken_194 : decode cX12_nextToken 194 = .ok (.bipush 8, 2) := by decide +kernel
theorem dX12_nextToken_196 : decode cX12_nextToken 196 = .ok (.lshl, 1) := by decide +kernel
theorem dX12_nextToken_197 : decode cX12_nextToken 197 = .ok (.aload_n 0, 1) := by decide +kernel
theorem dX12_nextToken_198 : decode cX12_nextToken 198 = .ok (.aload_n 0, 1) := by decide +kernel
theorem dX12_nextToken_199 : decode cX12_nextToken 199 = .ok (.getfield 86, 3) := by decide +kernel
theorem dX12_nextToken_202 : decode cX12_nextToken 202 = .ok (.invokevirtual 89, 3) := by decide +kernel
theorem dX12_nextToken_205 : decode cX12_nextToken 205 = .ok (.i2l, 1) := by decide +kernel
theorem dX12_nextToken_206 : decode cX12_nextToken 206 = .ok (.lor, 1) := by decide +kernel
theorem dX12_nextToken_207 : decode cX12_nextToken 207 = .ok (.putfield 109, 3) := by decide +kernel
theorem dX12_nextToken_210 : decode cX12_nextToken 210 = .ok (.aload_n 0, 1) := by decide +kernel
theorem dX12_nextToken_211 : decode cX12_nextToken 211 = .ok (.dup, 1) := by decide +kernel
theorem dX12_nextToken_212 : decode cX12_nextToken 212 = .ok (.getfield 86, 3) := by decide +kernel
theorem dX12_nextToken_215 : decode cX12_nextToken 215 = .ok (.iconst 1, 1) := by decide +kernel
theorem dX12_nextToken_216 : decode cX12_nextToken 216 = .ok (.iadd, 1) := by decide +kernel
theorem dX12_nextToken_217 : decode cX12_nextToken 217 = .ok (.putfield 86, 3) := by decide +kernel
theorem dX12_nextToken_220 : decode cX12_nextToken 220 = .ok (.goto (-59), 3) := by decide +kernel
theorem dX12_nextToken_223 : decode cX12_nextToken 223 = .ok (.aload_n 0, 1) := by decide +kernel
theorem dX12_nextToken_224 : decode cX12_nextToken 224 = .ok (.getfield 86, 3) := by decide +kernel
theorem dX12_nextToken_227 : decode cX12_nextToken 227 = .ok (.aload_n 0, 1) := by decide +kernel
theorem dX12_nextToken_228 : decode cX12_nextToken 228 = .ok (.getfield 93, 3) := by decide +kernel
theorem dX12_nextToken_231 : decode cX12_nextToken 231 = .ok (.isub, 1) := by decide +kernel
theorem dX12_nextToken_232 : decode cX12_nextToken 232 = .ok (.bipush 7, 2) := by decide +kernel
theorem dX12_nextToken_234 : decode cX12_nextToken 234 = .ok (.if_icmp .le 174, 3) := by decide +kernel
theorem dX12_nextToken_237 : decode cX12_nextToken 237 = .ok (.aload_n 0, 1) := by decide +kernel
theorem dX12_nextToken_238 : decode cX12_nextToken 238 = .ok (.lconst 0, 1) := by decide +kernel
theorem dX12_nextToken_239 : decode cX12_nextToken 239 = .ok (.putfield 109, 3) := by decide +kernel
theorem dX12_nextToken_242 : decode cX12_nextToken 242 = .ok (.goto 166, 3) := by decide +kernel
theorem dX12_nextToken_245 : decode cX12_nextToken 245 = .ok (.aload_n 0, 1) := by decide +kernel
theorem dX12_nextToken_246 : decode cX12_nextToken 246 = .ok (.dup, 1) := by decide +kernel
theorem dX12_nextToken_247 : decode cX12_nextToken 247 = .ok (.getfield 86, 3) := by decide +kernel
theorem dX12_nextToken_250 : decode cX12_nextToken 250 = .ok (.iconst 1, 1) := by decide +kernel
theorem dX12_nextToken_251 : decode cX12_nextToken 251 = .ok (.iadd, 1) := by decide +kernel
theorem dX12_nextToken_252 : decode cX12_nextToken 252 = .ok (.putfield 86, 3) := by decide +kernel
theorem dX12_nextToken_255 : decode cX12_nextToken 255 = .ok (.iload_n 1, 1) := by decide +kernel
theorem dX12_nextToken_256 : decode cX12_nextToken 256 = .ok (.bipush 60, 2) := by decide +kernel
theorem dX12_nextToken_258 : decode cX12_nextToken 258 = .ok (.if_icmp .eq 81, 3) := by decide +kernel
theorem dX12_nextToken_261 : decode cX12_nextToken 261 = .ok (.iload_n 1, 1) := by decide +kernel
theorem dX12_nextToken_262 : decode cX12_nextToken 262 = .ok (.bipush 62, 2) := by decide +kernel
theorem dX12_nextToken_264 : decode cX12_nextToken 264 = .ok (.if_icmp .eq 75, 3) := by decide +kernel
theorem dX12_nextToken_267 : decode cX12_nextToken 267 = .ok (.iload_n 1, 1) := by decide +kernel
theorem dX12_nextToken_268 : decode cX12_nextToken 268 = .ok (.bipush 61, 2) := by decide +kernel
theorem dX12_nextToken_270 : decode cX12_nextToken 270 = .ok (.if_icmp .eq 69, 3) := by decide +kernel
theorem dX12_nextToken_273 : decode cX12_nextToken 273 = .ok (.iload_n 1, 1) := by decide +kernel
theorem dX12_nextToken_274 : decode cX12_nextToken 274 = .ok (.bipush 35, 2) := by decide +kernel
theorem dX12_nextToken_276 : decode cX12_nextToken 276 = .ok (.if_icmp .eq 63, 3) := by decide +kernel
theorem dX12_nextToken_279 : decode cX12_nextToken 279 = .ok (.iload_n 1, 1) := by decide +kernel
theorem dX12_nextToken_280 : decode cX12_nextToken 280 = .ok (.bipush 43, 2) := by decide +kernel
theorem dX12_nextToken_282 : decode cX12_nextToken 282 = .ok (.if_icmp .eq 57, 3) := by decide +kernel
theorem dX12_nextToken_285 : decode cX12_nextToken 285 = .ok (.iload_n 1, 1) := by decide +kernel
theorem dX12_nextToken_286 : decode cX12_nextToken 286 = .ok (.bipush 45, 2) := by decide +kernel
theorem dX12_nextToken_288 : decode cX12_nextToken 288 = .ok (.if_icmp .eq 51, 3) := by decide +kernel
theorem dX12_nextToken_291 : decode cX12_nextToken 291 = .ok (.iload_n 1, 1) := by decide +kernel
theorem dX12_nextToken_292 : decode cX12_nextToken 292 = .ok (.bipush 42, 2) := by decide +kernel
theorem dX12_nextToken_294 : decode cX12_nextToken 294 = .ok (.if_icmp .eq 45, 3) := by decide +kernel
theorem dX12_nextToken_297 : decode cX12_nextToken 297 = .ok (.iload_n 1, 1) := by decide +kernel
theorem dX12_nextToken_298 : decode cX12_nextToken 298 = .ok (.bipush 47, 2) := by decide +kernel
theorem dX12_nextToken_300 : decode cX12_nextToken 300 = .ok (.if_icmp .eq 39, 3) := by decide +kernel
theorem dX12_nextToken_303 : decode cX12_nextToken 303 = .ok (.iload_n 1, 1) := by decide +kernel
theorem dX12_nextToken_304 : decode cX12_nextToken 304 = .ok (.bipush 40, 2) := by decide +kernel
theorem dX12_nextToken_306 : decode cX12_nextToken 306 = .ok (.if_icmp .eq 33, 3) := by decide +kernel
theorem dX12_nextToken_309 : decode cX12_nextToken 309 = .ok (.iload_n 1, 1) := by decide +kernel
theorem dX12_nextToken_310 : decode cX12_nextToken 310 = .ok (.bipush 41, 2) := by decide +kernel
theorem dX12_nextToken_312 : decode cX12_nextToken 312 = .ok (.if_icmp .eq 27, 3) := by decide +kernel
theorem dX12_nextToken_315 : decode cX12_nextToken 315 = .ok (.iload_n 1, 1) := by decide +kernel
theorem dX12_nextToken_316 : decode cX12_nextToken 316 = .ok (.bipush 59, 2) := by decide +kernel
theorem dX12_nextToken_318 : decode cX12_nextToken 318 = .ok (.if_icmp .eq 21, 3) := by decide +kernel
theorem dX12_nextToken_321 : decode cX12_nextToken 321 = .ok (.iload_n 1, 1) := by decide +kernel
theorem dX12_nextToken_322 : decode cX12_nextToken 322 = .ok (.bipush 44, 2) := by decide +kernel
theorem dX12_nextToken_324 : decode cX12_nextToken 324 = .ok (.if_icmp .eq 15, 3) := by decide +kernel
theorem dX12_nextToken_327 : decode cX12_nextToken 327 = .ok (.iload_n 1, 1) := by decide +kernel
theorem dX12_nextToken_328 : decode cX12_nextToken 328 = .ok (.bipush 63, 2) := by decide +kernel
theorem dX12_nextToken_330 : decode cX12_nextToken 330 = .ok (.if_icmp .eq 9, 3) := by decide +kernel
theorem dX12_nextToken_333 : decode cX12_nextToken 333 = .ok (.iload_n 1, 1) := by decide +kernel
theorem dX12_nextToken_334 : decode cX12_nextToken 334 = .ok (.bipush 58, 2) := by decide +kernel
theorem dX12_nextToken_336 : decode cX12_nextToken 336 = .ok (.if_icmp .ne 7, 3) := by decide +kernel
theorem dX12_nextToken_339 : decode cX12_nextToken 339 = .ok (.iconst 1, 1) := by decide +kernel
theorem dX12_nextToken_340 : decode cX12_nextToken 340 = .ok (.goto 4, 3) := by decide +kernel
theorem dX12_nextToken_343 : decode cX12_nextToken 343 = .ok (.iconst 0, 1) := by decide +kernel
theorem dX12_nextToken_344 : decode cX12_nextToken 344 = .ok (.istore_n 2, 1) := by decide +kernel
theorem dX12_nextToken_345 : decode cX12_nextToken 345 = .ok (.aload_n 0, 1) := by decide +kernel
theorem dX12_nextToken_346 : decode cX12_nextToken 346 = .ok (.iload_n 2, 1) := by decide +kernel
theorem dX12_nextToken_347 : decode cX12_nextToken 347 = .ok (.ifCond .eq 7, 3) := by decide +kernel
theorem dX12_nextToken_350 : decode cX12_nextToken 350 = .ok (.iload_n 1, 1) := by decide +kernel
theorem dX12_nextToken_351 : decode cX12_nextToken 351 = .ok (.goto 4, 3) := by decide +kernel
theorem dX12_nextToken_354 : decode cX12_nextToken 354 = .ok (.iconst 3, 1) := by decide +kernel
theorem dX12_nextToken_355 : decode cX12_nextToken 355 = .ok (.putfield 96, 3) := by decide +kernel
theorem dX12_nextToken_358 : decode cX12_nextToken 358 = .ok (.iload_n 1, 1) := by decide +kernel
theorem dX12_nextToken_359 : decode cX12_nextToken 359 = .ok (.bipush 60, 2) := by decide +kernel
theorem dX12_nextToken_361 : decode cX12_nextToken 361 = .ok (.if_icmp .eq 9, 3) := by decide +kernel
theorem dX12_nextToken_364 : decode cX12_nextToken 364 = .ok (.iload_n 1, 1) := by decide +kernel
theorem dX12_nextToken_365 : decode cX12_nextToken 365 = .ok (.bipush 62, 2) := by decide +kernel
theorem dX12_nextToken_367 : decode cX12_nextToken 367 = .ok (.if_icmp .ne 41, 3) := by decide +kernel
theorem dX12_nextToken_370 : decode cX12_nextToken 370 = .ok (.aload_n 0, 1) := by decide +kernel
theorem dX12_nextToken_371 : decode cX12_nextToken 371 = .ok (.aload_n 0, 1) := by decide +kernel
theorem dX12_nextToken_372 : decode cX12_nextToken 372 = .ok (.getfield 86, 3) := by decide +kernel
theorem dX12_nextToken_375 : decode cX12_nextToken 375 = .ok (.invokevirtual 89, 3) := by decide +kernel
theorem dX12_nextToken_378 : decode cX12_nextToken 378 = .ok (.bipush 61, 2) := by decide +kernel
theorem dX12_nextToken_380 : decode cX12_nextToken 380 = .ok (.if_icmp .ne 28, 3) := by decide +kernel
theorem dX12_nextToken_383 : decode cX12_nextToken 383 = .ok (.aload_n 0, 1) := by decide +kernel
theorem dX12_nextToken_384 : decode cX12_nextToken 384 = .ok (.dup, 1) := by decide +kernel
theorem dX12_nextToken_385 : decode cX12_nextToken 385 = .ok (.getfield 86, 3) := by decide +kernel
theorem dX12_nextToken_388 : decode cX12_nextToken 388 = .ok (.iconst 1, 1) := by decide +kernel
theorem dX12_nextToken_389 : decode cX12_nextToken 389 = .ok (.iadd, 1) := by decide +kernel
theorem dX12_nextToken_390 : decode cX12_nextToken 390 = .ok (.putfield 86, 3) := by decide +kernel
theorem dX12_nextToken_393 : decode cX12_nextToken 393 = .ok (.aload_n 0, 1) := by decide +kernel
theorem dX12_nextToken_394 : decode cX12_nextToken 394 = .ok (.iload_n 1, 1) := by decide +kernel
theorem dX12_nextToken_395 : decode cX12_nextToken 395 = .ok (.bipush 60, 2) := by decide +kernel
theorem dX12_nextToken_397 : decode cX12_nextToken 397 = .ok (.if_icmp .ne 7, 3) := by decide +kernel
theorem dX12_nextToken_400 : decode cX12_nextToken 400 = .ok (.iconst 4, 1) := by decide +kernel
theorem dX12_nextToken_401 : decode cX12_nextToken 401 = .ok (.goto 4, 3) := by decide +kernel
theorem dX12_nextToken_404 : decode cX12_nextToken 404 = .ok (.iconst 5, 1) := by decide +kernel
theorem dX12_nextToken_405 : decode cX12_nextToken 405 = .ok (.putfield 96, 3) := by decide +kernel
theorem dX12_nextToken_408 : decode cX12_nextToken 408 = .ok (.return_, 1) := by decide +kernel
theorem dX12_readText_0 : decode cX12_readText 0 = .ok (.aload_n 0, 1) := by decide +kernel
theorem dX12_readText_1 : decode cX12_readText 1 = .ok (.sipush 680, 3) := by decide +kernel
theorem dX12_readText_4 : decode cX12_readText 4 = .ok (.aload_n 0, 1) := by decide +kernel
theorem dX12_readText_5 : decode cX12_readText 5 = .ok (.getfield 7, 3) := by decide +kernel
theorem dX12_readText_8 : decode cX12_readText 8 = .ok (.bipush 6, 2) := by decide +kernel
theorem dX12_readText_10 : decode cX12_readText 10 = .ok (.iaload, 1) := by decide +kernel
theorem dX12_readText_11 : decode cX12_readText 11 = .ok (.imul, 1) := by decide +kernel
theorem dX12_readText_12 : decode cX12_readText 12 = .ok (.putfield 121, 3) := by decide +kernel
theorem dX12_readText_15 : decode cX12_readText 15 = .ok (.aload_n 0, 1) := by decide +kernel
theorem dX12_readText_16 : decode cX12_readText 16 = .ok (.getfield 16, 3) := by decide +kernel
theorem dX12_readText_19 : decode cX12_readText 19 = .ok (.aload_n 0, 1) := by decide +kernel
theorem dX12_readText_20 : decode cX12_readText 20 = .ok (.getfield 121, 3) := by decide +kernel
theorem dX12_readText_23 : decode cX12_readText 23 = .ok (.iconst 0, 1) := by decide +kernel
theorem dX12_readText_24 : decode cX12_readText 24 = .ok (.iastore, 1) := by decide +kernel
theorem dX12_readText_25 : decode cX12_readText 25 = .ok (.aload_n 0, 1) := by decide +kernel
theorem dX12_readText_26 : decode cX12_readText 26 = .ok (.iconst 0, 1) := by decide +kernel
theorem dX12_readText_27 : decode cX12_readText 27 = .ok (.putfield 124, 3) := by decide +kernel
theorem dX12_readText_30 : decode cX12_readText 30 = .ok (.aload_n 0, 1) := by decide +kernel
theorem dX12_readText_31 : decode cX12_readText 31 = .ok (.iconst 0, 1) := by decide +kernel
theorem dX12_readText_32 : decode cX12_readText 32 = .ok (.putfield 137, 3) := by decide +kernel
theorem dX12_readText_35 : decode cX12_readText 35 = .ok (.aload_n 0, 1) := by decide +kernel
theorem dX12_readText_36 : decode cX12_readText 36 = .ok (.iconst 0, 1) := by decide +kernel
theorem dX12_readText_37 : decode cX12_readText 37 = .ok (.putfield 215, 3) := by decide +kernel
theorem dX12_readText_40 : decode cX12_readText 40 = .ok (.aload_n 0, 1) := by decide +kernel
theorem dX12_readText_41 : decode cX12_readText 41 = .ok (.iconst 0, 1) := by decide +kernel
theorem dX12_readText_42 : decode cX12_readText 42 = .ok (.putfield 86, 3) := by decide +kernel
theorem dX12_readText_45 : decode cX12_readText 45 = .ok (.aload_n 0, 1) := by decide +kernel
theorem dX12_readText_46 : decode cX12_readText 46 = .ok (.invokevirtual 158, 3) := by decide +kernel
theorem dX12_readText_49 : decode cX12_readText 49 = .ok (.aload_n 0, 1) := by decide +kernel
theorem dX12_readText_50 : decode cX12_readText 50 = .ok (.getfield 96, 3) := by decide +kernel
theorem dX12_readText_53 : decode cX12_readText 53 = .ok (.ifCond .eq 17, 3) := by decide +kernel
theorem dX12_readText_56 : decode cX12_readText 56 = .ok (.aload_n 0, 1) := by decide +kernel
theorem dX12_readText_57 : decode cX12_readText 57 = .ok (.invokevirtual 225, 3) := by decide +kernel
theorem dX12_readText_60 : decode cX12_readText 60 = .ok (.istore_n 1, 1) := by decide +kernel
theorem dX12_readText_61 : decode cX12_readText 61 = .ok (.iload_n 1, 1) := by decide +kernel
theorem dX12_readText_62 : decode cX12_readText 62 = .ok (.ifCond .eq 5, 3) := by decide +kernel
theorem dX12_readText_65 : decode cX12_readText 65 = .ok (.iload_n 1, 1) := by decide +kernel
theorem dX12_readText_66 : decode cX12_readText 66 = .ok (.ireturn, 1) := by decide +kernel
theorem dX12_readText_67 : decode cX12_readText 67 = .ok (.goto (-18), 3) := by decide +kernel
theorem dX12_readText_70 : decode cX12_readText 70 = .ok (.iconst 0, 1) := by decide +kernel
theorem dX12_readText_71 : decode cX12_readText 71 = .ok (.ireturn, 1) := by decide +kernel
theorem dX12_text_0 : decode cX12_text 0 = .ok (.aload_n 0, 1) := by decide +kernel
theorem dX12_text_1 : decode cX12_text 1 = .ok (.getfield 7, 3) := by decide +kernel
theorem dX12_text_4 : decode cX12_text 4 = .ok (.bipush 6, 2) := by decide +kernel
theorem dX12_text_6 : decode cX12_text 6 = .ok (.iaload, 1) := by decide +kernel
theorem dX12_text_7 : decode cX12_text 7 = .ok (.iconst 4, 1) := by decide +kernel
theorem dX12_text_8 : decode cX12_text 8 = .ok (.if_icmp .ne 5, 3) := by decide +kernel
theorem dX12_text_11 : decode cX12_text 11 = .ok (.iconst (-1), 1) := by decide +kernel
theorem dX12_text_12 : decode cX12_text 12 = .ok (.ireturn, 1) := by decide +kernel
theorem dX12_text_13 : decode cX12_text 13 = .ok (.aload_n 0, 1) := by decide +kernel
theorem dX12_text_14 : decode cX12_text 14 = .ok (.aload_n 0, 1) := by decide +kernel
theorem dX12_text_15 : decode cX12_text 15 = .ok (.invokevirtual 228, 3) := by decide +kernel
theorem dX12_text_18 : decode cX12_text 18 = .ok (.putfield 22, 3) := by decide +kernel
theorem dX12_text_21 : decode cX12_text 21 = .ok (.aload_n 0, 1) := by decide +kernel
theorem dX12_text_22 : decode cX12_text 22 = .ok (.aload_n 0, 1) := by decide +kernel
theorem dX12_text_23 : decode cX12_text 23 = .ok (.getfield 22, 3) := by decide +kernel
theorem dX12_text_26 : decode cX12_text 26 = .ok (.ifCond .ne 7, 3) := by decide +kernel
theorem dX12_text_29 : decode cX12_text 29 = .ok (.iconst (-1), 1) := by decide +kernel
theorem dX12_text_30 : decode cX12_text 30 = .ok (.goto 7, 3) := by decide +kernel
theorem dX12_text_33 : decode cX12_text 33 = .ok (.aload_n 0, 1) := by decide +kernel
theorem dX12_text_34 : decode cX12_text 34 = .ok (.getfield 93, 3) := by decide +kernel
theorem dX12_text_37 : decode cX12_text 37 = .ok (.putfield 26, 3) := by decide +kernel
theorem dX12_text_40 : decode cX12_text 40 = .ok (.aload_n 0, 1) := by decide +kernel
theorem dX12_text_41 : decode cX12_text 41 = .ok (.iconst 0, 1) := by decide +kernel
theorem dX12_text_42 : decode cX12_text 42 = .ok (.putfield 79, 3) := by decide +kernel
theorem dX12_text_45 : decode cX12_text 45 = .ok (.aload_n 0, 1) := by decide +kernel
theorem dX12_text_46 : decode cX12_text 46 = .ok (.getfield 22, 3) := by decide +kernel
theorem dX12_text_49 : decode cX12_text 49 = .ok (.ifCond .eq 5, 3) := by decide +kernel
theorem dX12_text_52 : decode cX12_text 52 = .ok (.iconst (-1), 1) := by decide +kernel
theorem dX12_text_53 : decode cX12_text 53 = .ok (.ireturn, 1) := by decide +kernel
theorem dX12_text_54 : decode cX12_text 54 = .ok (.aload_n 0, 1) := by decide +kernel
theorem dX12_text_55 : decode cX12_text 55 = .ok (.getfield 7, 3) := by decide +kernel
theorem dX12_text_58 : decode cX12_text 58 = .ok (.bipush 6, 2) := by decide +kernel
theorem dX12_text_60 : decode cX12_text 60 = .ok (.dup2, 1) := by decide +kernel
theorem dX12_text_61 : decode cX12_text 61 = .ok (.iaload, 1) := by decide +kernel
theorem dX12_text_62 : decode cX12_text 62 = .ok (.iconst 1, 1) := by decide +kernel
theorem dX12_text_63 : decode cX12_text 63 = .ok (.iadd, 1) := by decide +kernel
theorem dX12_text_64 : decode cX12_text 64 = .ok (.iastore, 1) := by decide +kernel
theorem dX12_text_65 : decode cX12_text 65 = .ok (.aload_n 0, 1) := by decide +kernel
theorem dX12_text_66 : decode cX12_text 66 = .ok (.getfield 7, 3) := by decide +kernel
theorem dX12_text_69 : decode cX12_text 69 = .ok (.bipush 6, 2) := by decide +kernel
theorem dX12_text_71 : decode cX12_text 71 = .ok (.iaload, 1) := by decide +kernel
theorem dX12_text_72 : decode cX12_text 72 = .ok (.iconst 1, 1) := by decide +kernel
theorem dX12_text_73 : decode cX12_text 73 = .ok (.isub, 1) := by decide +kernel
theorem dX12_text_74 : decode cX12_text 74 = .ok (.ireturn, 1) := by decide +kernel
theorem dX12_bridge_0 : decode cX12_bridge 0 = .ok (.iload_n 1, 1) := by decide +kernel
theorem dX12_bridge_1 : decode cX12_bridge 1 = .ok (.invokestatic 75, 3) := by decide +kernel
theorem dX12_bridge_4 : decode cX12_bridge 4 = .ok (.ifCond .eq 25, 3) := by decide +kernel
theorem dX12_bridge_7 : decode cX12_bridge 7 = .ok (.iload_n 2, 1) := by decide +kernel
theorem dX12_bridge_8 : decode cX12_bridge 8 = .ok (.invokestatic 75, 3) := by decide +kernel
theorem dX12_bridge_11 : decode cX12_bridge 11 = .ok (.ifCond .eq 18, 3) := by decide +kernel
theorem dX12_bridge_14 : decode cX12_bridge 14 = .ok (.iload_n 2, 1) := by decide +kernel
theorem dX12_bridge_15 : decode cX12_bridge 15 = .ok (.iload_n 1, 1) := by decide +kernel
theorem dX12_bridge_16 : decode cX12_bridge 16 = .ok (.if_icmp .le 13, 3) := by decide +kernel
theorem dX12_bridge_19 : decode cX12_bridge 19 = .ok (.aload_n 0, 1) := by decide +kernel
theorem dX12_bridge_20 : decode cX12_bridge 20 = .ok (.getfield 7, 3) := by decide +kernel
theorem dX12_bridge_23 : decode cX12_bridge 23 = .ok (.iconst 1, 1) := by decide +kernel
theorem dX12_bridge_24 : decode cX12_bridge 24 = .ok (.iaload, 1) := by decide +kernel
theorem dX12_bridge_25 : decode cX12_bridge 25 = .ok (.iconst 4, 1) := by decide +kernel
theorem dX12_bridge_26 : decode cX12_bridge 26 = .ok (.if_icmp .ne 5, 3) := by decide +kernel
theorem dX12_bridge_29 : decode cX12_bridge 29 = .ok (.iconst (-1), 1) := by decide +kernel
theorem dX12_bridge_30 : decode cX12_bridge 30 = .ok (.ireturn, 1) := by decide +kernel
theorem dX12_bridge_31 : decode cX12_bridge 31 = .ok (.aload_n 0, 1) := by decide +kernel
theorem dX12_bridge_32 : decode cX12_bridge 32 = .ok (.getfield 7, 3) := by decide +kernel
theorem dX12_bridge_35 : decode cX12_bridge 35 = .ok (.bipush 16, 2) := by decide +kernel
theorem dX12_bridge_37 : decode cX12_bridge 37 = .ok (.iconst 2, 1) := by decide +kernel
theorem dX12_bridge_38 : decode cX12_bridge 38 = .ok (.aload_n 0, 1) := by decide +kernel
theorem dX12_bridge_39 : decode cX12_bridge 39 = .ok (.getfield 7, 3) := by decide +kernel
theorem dX12_bridge_42 : decode cX12_bridge 42 = .ok (.iconst 1, 1) := by decide +kernel
theorem dX12_bridge_43 : decode cX12_bridge 43 = .ok (.iaload, 1) := by decide +kernel
theorem dX12_bridge_44 : decode cX12_bridge 44 = .ok (.imul, 1) := by decide +kernel
theorem dX12_bridge_45 : decode cX12_bridge 45 = .ok (.iadd, 1) := by decide +kernel
theorem dX12_bridge_46 : decode cX12_bridge 46 = .ok (.iload_n 1, 1) := by decide +kernel
theorem dX12_bridge_47 : decode cX12_bridge 47 = .ok (.iastore, 1) := by decide +kernel
theorem dX12_bridge_48 : decode cX12_bridge 48 = .ok (.aload_n 0, 1) := by decide +kernel
theorem dX12_bridge_49 : decode cX12_bridge 49 = .ok (.getfield 7, 3) := by decide +kernel
theorem dX12_bridge_52 : decode cX12_bridge 52 = .ok (.bipush 16, 2) := by decide +kernel
theorem dX12_bridge_54 : decode cX12_bridge 54 = .ok (.iconst 2, 1) := by decide +kernel
theorem dX12_bridge_55 : decode cX12_bridge 55 = .ok (.aload_n 0, 1) := by decide +kernel
theorem dX12_bridge_56 : decode cX12_bridge 56 = .ok (.getfield 7, 3) := by decide +kernel
theorem dX12_bridge_59 : decode cX12_bridge 59 = .ok (.iconst 1, 1) := by decide +kernel
theorem dX12_bridge_60 : decode cX12_bridge 60 = .ok (.iaload, 1) := by decide +kernel
theorem dX12_bridge_61 : decode cX12_bridge 61 = .ok (.imul, 1) := by decide +kernel
theorem dX12_bridge_62 : decode cX12_bridge 62 = .ok (.iadd, 1) := by decide +kernel
theorem dX12_bridge_63 : decode cX12_bridge 63 = .ok (.iconst 1, 1) := by decide +kernel
theorem dX12_bridge_64 : decode cX12_bridge 64 = .ok (.iadd, 1) := by decide +kernel
theorem dX12_bridge_65 : decode cX12_bridge 65 = .ok (.iload_n 2, 1) := by decide +kernel
theorem dX12_bridge_66 : decode cX12_bridge 66 = .ok (.iastore, 1) := by decide +kernel
theorem dX12_bridge_67 : decode cX12_bridge 67 = .ok (.aload_n 0, 1) := by decide +kernel
theorem dX12_bridge_68 : decode cX12_bridge 68 = .ok (.getfield 7, 3) := by decide +kernel
theorem dX12_bridge_71 : decode cX12_bridge 71 = .ok (.iconst 1, 1) := by decide +kernel
theorem dX12_bridge_72 : decode cX12_bridge 72 = .ok (.dup2, 1) := by decide +kernel
theorem dX12_bridge_73 : decode cX12_bridge 73 = .ok (.iaload, 1) := by decide +kernel
theorem dX12_bridge_74 : decode cX12_bridge 74 = .ok (.iconst 1, 1) := by decide +kernel
theorem dX12_bridge_75 : decode cX12_bridge 75 = .ok (.iadd, 1) := by decide +kernel
theorem dX12_bridge_76 : decode cX12_bridge 76 = .ok (.iastore, 1) := by decide +kernel
theorem dX12_bridge_77 : decode cX12_bridge 77 = .ok (.aload_n 0, 1) := by decide +kernel
theorem dX12_bridge_78 : decode cX12_bridge 78 = .ok (.getfield 7, 3) := by decide +kernel
theorem dX12_bridge_81 : decode cX12_bridge 81 = .ok (.iconst 1, 1) := by decide +kernel
theorem dX12_bridge_82 : decode cX12_bridge 82 = .ok (.iaload, 1) := by decide +kernel
theorem dX12_bridge_83 : decode cX12_bridge 83 = .ok (.ireturn, 1) := by decide +kernel
theorem dX12_inn_0 : decode cX12_inn 0 = .ok (.iload_n 1, 1) := by decide +kernel
theorem dX12_inn_1 : decode cX12_inn 1 = .ok (.invokestatic 75, 3) := by decide +kernel
theorem dX12_inn_4 : decode cX12_inn 4 = .ok (.ifCond .eq 14, 3) := by decide +kernel
theorem dX12_inn_7 : decode cX12_inn 7 = .ok (.aload_n 0, 1) := by decide +kernel
theorem dX12_inn_8 : decode cX12_inn 8 = .ok (.getfield 7, 3) := by decide +kernel
theorem dX12_inn_11 : decode cX12_inn 11 = .ok (.iconst 2, 1) := by decide +kernel
theorem dX12_inn_12 : decode cX12_inn 12 = .ok (.iaload, 1) := by decide +kernel
theorem dX12_inn_13 : decode cX12_inn 13 = .ok (.bipush 10, 2) := by decide +kernel
theorem dX12_inn_15 : decode cX12_inn 15 = .ok (.if_icmp .ne 5, 3) := by decide +kernel
theorem dX12_inn_18 : decode cX12_inn 18 = .ok (.iconst (-1), 1) := by decide +kernel
theorem dX12_inn_19 : decode cX12_inn 19 = .ok (.ireturn, 1) := by decide +kernel
theorem dX12_inn_20 : decode cX12_inn 20 = .ok (.aload_n 0, 1) := by decide +kernel
theorem dX12_inn_21 : decode cX12_inn 21 = .ok (.getfield 7, 3) := by decide +kernel
theorem dX12_inn_24 : decode cX12_inn 24 = .ok (.bipush 24, 2) := by decide +kernel
theorem dX12_inn_26 : decode cX12_inn 26 = .ok (.aload_n 0, 1) := by decide +kernel
theorem dX12_inn_27 : decode cX12_inn 27 = .ok (.getfield 7, 3) := by decide +kernel
theorem dX12_inn_30 : decode cX12_inn 30 = .ok (.iconst 2, 1) := by decide +kernel
theorem dX12_inn_31 : decode cX12_inn 31 = .ok (.iaload, 1) := by decide +kernel
theorem dX12_inn_32 : decode cX12_inn 32 = .ok (.iadd, 1) := by decide +kernel
theorem dX12_inn_33 : decode cX12_inn 33 = .ok (.iload_n 1, 1) := by decide +kernel
theorem dX12_inn_34 : decode cX12_inn 34 = .ok (.iastore, 1) := by decide +kernel
theorem dX12_inn_35 : decode cX12_inn 35 = .ok (.aload_n 0, 1) := by decide +kernel
theorem dX12_inn_36 : decode cX12_inn 36 = .ok (.getfield 7, 3) := by decide +kernel
theorem dX12_inn_39 : decode cX12_inn 39 = .ok (.iconst 2, 1) := by decide +kernel
theorem dX12_inn_40 : decode cX12_inn 40 = .ok (.dup2, 1) := by decide +kernel
theorem dX12_inn_41 : decode cX12_inn 41 = .ok (.iaload, 1) := by decide +kernel
theorem dX12_inn_42 : decode cX12_inn 42 = .ok (.iconst 1, 1) := by decide +kernel
theorem dX12_inn_43 : decode cX12_inn 43 = .ok (.iadd, 1) := by decide +kernel
theorem dX12_inn_44 : decode cX12_inn 44 = .ok (.iastore, 1) := by decide +kernel
theorem dX12_inn_45 : decode cX12_inn 45 = .ok (.aload_n 0, 1) := by decide +kernel
theorem dX12_inn_46 : decode cX12_inn 46 = .ok (.getfield 7, 3) := by decide +kernel
theorem dX12_inn_49 : decode cX12_inn 49 = .ok (.iconst 2, 1) := by decide +kernel
theorem dX12_inn_50 : decode cX12_inn 50 = .ok (.iaload, 1) := by decide +kernel
theorem dX12_inn_51 : decode cX12_inn 51 = .ok (.ireturn, 1) := by decide +kernel
theorem dX12_move_0 : decode cX12_move 0 = .ok (.iload_n 1, 1) := by decide +kernel
theorem dX12_move_1 : decode cX12_move 1 = .ok (.iconst 0, 1) := by decide +kernel
theorem dX12_move_2 : decode cX12_move 2 = .ok (.aload_n 0, 1) := by decide +kernel
theorem dX12_move_3 : decode cX12_move 3 = .ok (.getfield 7, 3) := by decide +kernel
theorem dX12_move_6 : decode cX12_move 6 = .ok (.iconst 2, 1) := by decide +kernel
theorem dX12_move_7 : decode cX12_move 7 = .ok (.iaload, 1) := by decide +kernel
theorem dX12_move_8 : decode cX12_move 8 = .ok (.iconst 1, 1) := by decide +kernel
theorem dX12_move_9 : decode cX12_move 9 = .ok (.isub, 1) := by decide +kernel
theorem dX12_move_10 : decode cX12_move 10 = .ok (.invokestatic 71, 3) := by decide +kernel
theorem dX12_move_13 : decode cX12_move 13 = .ok (.ifCond .eq 23, 3) := by decide +kernel
theorem dX12_move_16 : decode cX12_move 16 = .ok (.iload_n 2, 1) := by decide +kernel
theorem dX12_move_17 : decode cX12_move 17 = .ok (.invokestatic 75, 3) := by decide +kernel
theorem dX12_move_20 : decode cX12_move 20 = .ok (.ifCond .eq 16, 3) := by decide +kernel
theorem dX12_move_23 : decode cX12_move 23 = .ok (.aload_n 0, 1) := by decide +kernel
theorem dX12_move_24 : decode cX12_move 24 = .ok (.getfield 7, 3) := by decide +kernel
theorem dX12_move_27 : decode cX12_move 27 = .ok (.bipush 24, 2) := by decide +kernel
theorem dX12_move_29 : decode cX12_move 29 = .ok (.iload_n 1, 1) := by decide +kernel
theorem dX12_move_30 : decode cX12_move 30 = .ok (.iadd, 1) := by decide +kernel
theorem dX12_move_31 : decode cX12_move 31 = .ok (.iaload, 1) := by decide +kernel
theorem dX12_move_32 : decode cX12_move 32 = .ok (.iload_n 2, 1) := by decide +kernel
theorem dX12_move_33 : decode cX12_move 33 = .ok (.if_icmp .ne 5, 3) := by decide +kernel
theorem dX12_move_36 : decode cX12_move 36 = .ok (.iconst 0, 1) := by decide +kernel
theorem dX12_move_37 : decode cX12_move 37 = .ok (.ireturn, 1) := by decide +kernel
theorem dX12_move_38 : decode cX12_move 38 = .ok (.aload_n 0, 1) := by decide +kernel
theorem dX12_move_39 : decode cX12_move 39 = .ok (.invokevirtual 287, 3) := by decide +kernel
theorem dX12_move_42 : decode cX12_move 42 = .ok (.aload_n 0, 1) := by decide +kernel
theorem dX12_move_43 : decode cX12_move 43 = .ok (.getfield 7, 3) := by decide +kernel
theorem dX12_move_46 : decode cX12_move 46 = .ok (.bipush 24, 2) := by decide +kernel
theorem dX12_move_48 : decode cX12_move 48 = .ok (.iload_n 1, 1) := by decide +kernel
theorem dX12_move_49 : decode cX12_move 49 = .ok (.iadd, 1) := by decide +kernel
theorem dX12_move_50 : decode cX12_move 50 = .ok (.iload_n 2, 1) := by decide +kernel
theorem dX12_move_51 : decode cX12_move 51 = .ok (.iastore, 1) := by decide +kernel
theorem dX12_move_52 : decode cX12_move 52 = .ok (.iconst 1, 1) := by decide +kernel
theorem dX12_move_53 : decode cX12_move 53 = .ok (.ireturn, 1) := by decide +kernel
theorem dX12_horse_0 : decode cX12_horse 0 = .ok (.iload_n 1, 1) := by decide +kernel
theorem dX12_horse_1 : decode cX12_horse 1 = .ok (.iconst 1, 1) := by decide +kernel
theorem dX12_horse_2 : decode cX12_horse 2 = .ok (.bipush 99, 2) := by decide +kernel
theorem dX12_horse_4 : decode cX12_horse 4 = .ok (.invokestatic 71, 3) := by decide +kernel
theorem dX12_horse_7 : decode cX12_horse 7 = .ok (.ifCond .eq 24, 3) := by decide +kernel
theorem dX12_horse_10 : decode cX12_horse 10 = .ok (.iload_n 2, 1) := by decide +kernel
theorem dX12_horse_11 : decode cX12_horse 11 = .ok (.iconst 1, 1) := by decide +kernel
theorem dX12_horse_12 : decode cX12_horse 12 = .ok (.bipush 9, 2) := by decide +kernel
theorem dX12_horse_14 : decode cX12_horse 14 = .ok (.invokestatic 71, 3) := by decide +kernel
theorem dX12_horse_17 : decode cX12_horse 17 = .ok (.ifCond .eq 14, 3) := by decide +kernel
theorem dX12_horse_20 : decode cX12_horse 20 = .ok (.aload_n 0, 1) := by decide +kernel
theorem dX12_horse_21 : decode cX12_horse 21 = .ok (.getfield 7, 3) := by decide +kernel
theorem dX12_horse_24 : decode cX12_horse 24 = .ok (.iconst 0, 1) := by decide +kernel
theorem dX12_horse_25 : decode cX12_horse 25 = .ok (.iaload, 1) := by decide +kernel
theorem dX12_horse_26 : decode cX12_horse 26 = .ok (.bipush 6, 2) := by decide +kernel
theorem dX12_horse_28 : decode cX12_horse 28 = .ok (.if_icmp .ne 5, 3) := by decide +kernel
theorem dX12_horse_31 : decode cX12_horse 31 = .ok (.iconst (-1), 1) := by decide +kernel
theorem dX12_horse_32 : decode cX12_horse 32 = .ok (.ireturn, 1) := by decide +kernel
theorem dX12_horse_33 : decode cX12_horse 33 = .ok (.aload_n 0, 1) := by decide +kernel
theorem dX12_horse_34 : decode cX12_horse 34 = .ok (.getfield 7, 3) := by decide +kernel
theorem dX12_horse_37 : decode cX12_horse 37 = .ok (.bipush 34, 2) := by decide +kernel
theorem dX12_horse_39 : decode cX12_horse 39 = .ok (.iconst 2, 1) := by decide +kernel
theorem dX12_horse_40 : decode cX12_horse 40 = .ok (.aload_n 0, 1) := by decide +kernel
theorem dX12_horse_41 : decode cX12_horse 41 = .ok (.getfield 7, 3) := by decide +kernel
theorem dX12_horse_44 : decode cX12_horse 44 = .ok (.iconst 0, 1) := by decide +kernel
theorem dX12_horse_45 : decode cX12_horse 45 = .ok (.iaload, 1) := by decide +kernel
theorem dX12_horse_46 : decode cX12_horse 46 = .ok (.imul, 1) := by decide +kernel
theorem dX12_horse_47 : decode cX12_horse 47 = .ok (.iadd, 1) := by decide +kernel
theorem dX12_horse_48 : decode cX12_horse 48 = .ok (.iload_n 1, 1) := by decide +kernel
theorem dX12_horse_49 : decode cX12_horse 49 = .ok (.iastore, 1) := by decide +kernel
theorem dX12_horse_50 : decode cX12_horse 50 = .ok (.aload_n 0, 1) := by decide +kernel
theorem dX12_horse_51 : decode cX12_horse 51 = .ok (.getfield 7, 3) := by decide +kernel
theorem dX12_horse_54 : decode cX12_horse 54 = .ok (.bipush 34, 2) := by decide +kernel
theorem dX12_horse_56 : decode cX12_horse 56 = .ok (.iconst 2, 1) := by decide +kernel
theorem dX12_horse_57 : decode cX12_horse 57 = .ok (.aload_n 0, 1) := by decide +kernel
theorem dX12_horse_58 : decode cX12_horse 58 = .ok (.getfield 7, 3) := by decide +kernel
theorem dX12_horse_61 : decode cX12_horse 61 = .ok (.iconst 0, 1) := by decide +kernel
theorem dX12_horse_62 : decode cX12_horse 62 = .ok (.iaload, 1) := by decide +kernel
theorem dX12_horse_63 : decode cX12_horse 63 = .ok (.imul, 1) := by decide +kernel
theorem dX12_horse_64 : decode cX12_horse 64 = .ok (.iadd, 1) := by decide +kernel
theorem dX12_horse_65 : decode cX12_horse 65 = .ok (.iconst 1, 1) := by decide +kernel
theorem dX12_horse_66 : decode cX12_horse 66 = .ok (.iadd, 1) := by decide +kernel
theorem dX12_horse_67 : decode cX12_horse 67 = .ok (.iload_n 2, 1) := by decide +kernel
theorem dX12_horse_68 : decode cX12_horse 68 = .ok (.iastore, 1) := by decide +kernel
theorem dX12_horse_69 : decode cX12_horse 69 = .ok (.aload_n 0, 1) := by decide +kernel
theorem dX12_horse_70 : decode cX12_horse 70 = .ok (.getfield 7, 3) := by decide +kernel
theorem dX12_horse_73 : decode cX12_horse 73 = .ok (.iconst 0, 1) := by decide +kernel
theorem dX12_horse_74 : decode cX12_horse 74 = .ok (.dup2, 1) := by decide +kernel
theorem dX12_horse_75 : decode cX12_horse 75 = .ok (.iaload, 1) := by decide +kernel
theorem dX12_horse_76 : decode cX12_horse 76 = .ok (.iconst 1, 1) := by decide +kernel
theorem dX12_horse_77 : decode cX12_horse 77 = .ok (.iadd, 1) := by decide +kernel
theorem dX12_horse_78 : decode cX12_horse 78 = .ok (.iastore, 1) := by decide +kernel
theorem dX12_horse_79 : decode cX12_horse 79 = .ok (.aload_n 0, 1) := by decide +kernel
theorem dX12_horse_80 : decode cX12_horse 80 = .ok (.getfield 7, 3) := by decide +kernel
theorem dX12_horse_83 : decode cX12_horse 83 = .ok (.iconst 0, 1) := by decide +kernel
theorem dX12_horse_84 : decode cX12_horse 84 = .ok (.iaload, 1) := by decide +kernel
theorem dX12_horse_85 : decode cX12_horse 85 = .ok (.iconst 1, 1) := by decide +kernel
theorem dX12_horse_86 : decode cX12_horse 86 = .ok (.isub, 1) := by decide +kernel
theorem dX12_horse_87 : decode cX12_horse 87 = .ok (.ireturn, 1) := by decide +kernel
theorem dX12_weather_0 : decode cX12_weather 0 = .ok (.iload_n 1, 1) := by decide +kernel
theorem dX12_weather_1 : decode cX12_weather 1 = .ok (.iconst 0, 1) := by decide +kernel
theorem dX12_weather_2 : decode cX12_weather 2 = .ok (.bipush 10, 2) := by decide +kernel
theorem dX12_weather_4 : decode cX12_weather 4 = .ok (.invokestatic 71, 3) := by decide +kernel
theorem dX12_weather_7 : decode cX12_weather 7 = .ok (.ifCond .eq 14, 3) := by decide +kernel
theorem dX12_weather_10 : decode cX12_weather 10 = .ok (.iload_n 2, 1) := by decide +kernel
theorem dX12_weather_11 : decode cX12_weather 11 = .ok (.iconst 0, 1) := by decide +kernel
theorem dX12_weather_12 : decode cX12_weather 12 = .ok (.sipush 9999, 3) := by decide +kernel
theorem dX12_weather_15 : decode cX12_weather 15 = .ok (.invokestatic 71, 3) := by decide +kernel
theorem dX12_weather_18 : decode cX12_weather 18 = .ok (.ifCond .ne 5, 3) := by decide +kernel
theorem dX12_weather_21 : decode cX12_weather 21 = .ok (.iconst 0, 1) := by decide +kernel
theorem dX12_weather_22 : decode cX12_weather 22 = .ok (.ireturn, 1) := by decide +kernel
theorem dX12_weather_23 : decode cX12_weather 23 = .ok (.aload_n 0, 1) := by decide +kernel
theorem dX12_weather_24 : decode cX12_weather 24 = .ok (.getfield 7, 3) := by decide +kernel
theorem dX12_weather_27 : decode cX12_weather 27 = .ok (.iconst 4, 1) := by decide +kernel
theorem dX12_weather_28 : decode cX12_weather 28 = .ok (.iload_n 1, 1) := by decide +kernel
theorem dX12_weather_29 : decode cX12_weather 29 = .ok (.iastore, 1) := by decide +kernel
theorem dX12_weather_30 : decode cX12_weather 30 = .ok (.aload_n 0, 1) := by decide +kernel
theorem dX12_weather_31 : decode cX12_weather 31 = .ok (.getfield 7, 3) := by decide +kernel
theorem dX12_weather_34 : decode cX12_weather 34 = .ok (.iconst 5, 1) := by decide +kernel
theorem dX12_weather_35 : decode cX12_weather 35 = .ok (.iload_n 2, 1) := by decide +kernel
theorem dX12_weather_36 : decode cX12_weather 36 = .ok (.bipush 7, 2) := by decide +kernel
theorem dX12_weather_38 : decode cX12_weather 38 = .ok (.imul, 1) := by decide +kernel
theorem dX12_weather_39 : decode cX12_weather 39 = .ok (.bipush 13, 2) := by decide +kernel
theorem dX12_weather_41 : decode cX12_weather 41 = .ok (.iadd, 1) := by decide +kernel
theorem dX12_weather_42 : decode cX12_weather 42 = .ok (.iastore, 1) := by decide +kernel
theorem dX12_weather_43 : decode cX12_weather 43 = .ok (.iconst 1, 1) := by decide +kernel
theorem dX12_weather_44 : decode cX12_weather 44 = .ok (.ireturn, 1) := by decide +kernel
theorem dX12_end_0 : decode cX12_end 0 = .ok (.iload_n 1, 1) := by decide +kernel
theorem dX12_end_1 : decode cX12_end 1 = .ok (.iconst 0, 1) := by decide +kernel
theorem dX12_end_2 : decode cX12_end 2 = .ok (.aload_n 0, 1) := by decide +kernel
theorem dX12_end_3 : decode cX12_end 3 = .ok (.getfield 79, 3) := by decide +kernel
theorem dX12_end_6 : decode cX12_end 6 = .ok (.invokestatic 71, 3) := by decide +kernel
theorem dX12_end_9 : decode cX12_end 9 = .ok (.ifCond .ne 5, 3) := by decide +kernel
theorem dX12_end_12 : decode cX12_end 12 = .ok (.iconst (-1), 1) := by decide +kernel
theorem dX12_end_13 : decode cX12_end 13 = .ok (.ireturn, 1) := by decide +kernel
theorem dX12_end_14 : decode cX12_end 14 = .ok (.aload_n 0, 1) := by decide +kernel
theorem dX12_end_15 : decode cX12_end 15 = .ok (.iload_n 1, 1) := by decide +kernel
theorem dX12_end_16 : decode cX12_end 16 = .ok (.putfield 79, 3) := by decide +kernel
theorem dX12_end_19 : decode cX12_end 19 = .ok (.iload_n 1, 1) := by decide +kernel
theorem dX12_end_20 : decode cX12_end 20 = .ok (.ireturn, 1) := by decide +kernel
theorem dX12_fault_0 : decode cX12_fault 0 = .ok (.iload_n 1, 1) := by decide +kernel
theorem dX12_fault_1 : decode cX12_fault 1 = .ok (.ifCond .ne 10, 3) := by decide +kernel
theorem dX12_fault_4 : decode cX12_fault 4 = .ok (.aload_n 0, 1) := by decide +kernel
theorem dX12_fault_5 : decode cX12_fault 5 = .ok (.getfield 22, 3) := by decide +kernel
theorem dX12_fault_8 : decode cX12_fault 8 = .ok (.goto 16, 3) := by decide +kernel
theorem dX12_fault_11 : decode cX12_fault 11 = .ok (.iload_n 1, 1) := by decide +kernel
theorem dX12_fault_12 : decode cX12_fault 12 = .ok (.iconst 1, 1) := by decide +kernel
theorem dX12_fault_13 : decode cX12_fault 13 = .ok (.if_icmp .ne 10, 3) := by decide +kernel
theorem dX12_fault_16 : decode cX12_fault 16 = .ok (.aload_n 0, 1) := by decide +kernel
theorem dX12_fault_17 : decode cX12_fault 17 = .ok (.getfield 26, 3) := by decide +kernel
theorem dX12_fault_20 : decode cX12_fault 20 = .ok (.goto 4, 3) := by decide +kernel
theorem dX12_fault_23 : decode cX12_fault 23 = .ok (.iconst (-1), 1) := by decide +kernel
theorem dX12_fault_24 : decode cX12_fault 24 = .ok (.ireturn, 1) := by decide +kernel
theorem dX12_by_0 : decode cX12_by 0 = .ok (.iload_n 1, 1) := by decide +kernel
theorem dX12_by_1 : decode cX12_by 1 = .ok (.iconst (-1), 1) := by decide +kernel
theorem dX12_by_2 : decode cX12_by 2 = .ok (.aload_n 0, 1) := by decide +kernel
theorem dX12_by_3 : decode cX12_by 3 = .ok (.getfield 7, 3) := by decide +kernel
theorem dX12_by_6 : decode cX12_by 6 = .ok (.bipush 6, 2) := by decide +kernel
theorem dX12_by_8 : decode cX12_by 8 = .ok (.iaload, 1) := by decide +kernel
theorem dX12_by_9 : decode cX12_by 9 = .ok (.iconst 1, 1) := by decide +kernel
theorem dX12_by_10 : decode cX12_by 10 = .ok (.isub, 1) := by decide +kernel
theorem dX12_by_11 : decode cX12_by 11 = .ok (.invokestatic 71, 3) := by decide +kernel
theorem dX12_by_14 : decode cX12_by 14 = .ok (.ifCond .ne 5, 3) := by decide +kernel
theorem dX12_by_17 : decode cX12_by 17 = .ok (.iconst 0, 1) := by decide +kernel
theorem dX12_by_18 : decode cX12_by 18 = .ok (.ireturn, 1) := by decide +kernel
theorem dX12_by_19 : decode cX12_by 19 = .ok (.aload_n 0, 1) := by decide +kernel
theorem dX12_by_20 : decode cX12_by 20 = .ok (.getfield 7, 3) := by decide +kernel
theorem dX12_by_23 : decode cX12_by 23 = .ok (.bipush 7, 2) := by decide +kernel
theorem dX12_by_25 : decode cX12_by 25 = .ok (.iload_n 1, 1) := by decide +kernel
theorem dX12_by_26 : decode cX12_by 26 = .ok (.iastore, 1) := by decide +kernel
theorem dX12_by_27 : decode cX12_by 27 = .ok (.iconst 1, 1) := by decide +kernel
theorem dX12_by_28 : decode cX12_by 28 = .ok (.ireturn, 1) := by decide +kernel
theorem dX12_start_0 : decode cX12_start 0 = .ok (.iload_n 1, 1) := by decide +kernel
theorem dX12_start_1 : decode cX12_start 1 = .ok (.invokestatic 75, 3) := by decide +kernel
theorem dX12_start_4 : decode cX12_start 4 = .ok (.ifCond .ne 5, 3) := by decide +kernel
theorem dX12_start_7 : decode cX12_start 7 = .ok (.iconst 0, 1) := by decide +kernel
theorem dX12_start_8 : decode cX12_start 8 = .ok (.ireturn, 1) := by decide +kernel
theorem dX12_start_9 : decode cX12_start 9 = .ok (.aload_n 0, 1) := by decide +kernel
theorem dX12_start_10 : decode cX12_start 10 = .ok (.getfield 7, 3) := by decide +kernel
theorem dX12_start_13 : decode cX12_start 13 = .ok (.bipush 12, 2) := by decide +kernel
theorem dX12_start_15 : decode cX12_start 15 = .ok (.iload_n 1, 1) := by decide +kernel
theorem dX12_start_16 : decode cX12_start 16 = .ok (.iastore, 1) := by decide +kernel
theorem dX12_start_17 : decode cX12_start 17 = .ok (.aload_n 0, 1) := by decide +kernel
theorem dX12_start_18 : decode cX12_start 18 = .ok (.getfield 7, 3) := by decide +kernel
theorem dX12_start_21 : decode cX12_start 21 = .ok (.bipush 13, 2) := by decide +kernel
theorem dX12_start_23 : decode cX12_start 23 = .ok (.iconst 0, 1) := by decide +kernel
theorem dX12_start_24 : decode cX12_start 24 = .ok (.iastore, 1) := by decide +kernel
theorem dX12_start_25 : decode cX12_start 25 = .ok (.aload_n 0, 1) := by decide +kernel
theorem dX12_start_26 : decode cX12_start 26 = .ok (.getfield 7, 3) := by decide +kernel
theorem dX12_start_29 : decode cX12_start 29 = .ok (.bipush 14, 2) := by decide +kernel
theorem dX12_start_31 : decode cX12_start 31 = .ok (.iconst 0, 1) := by decide +kernel
theorem dX12_start_32 : decode cX12_start 32 = .ok (.iastore, 1) := by decide +kernel
theorem dX12_start_33 : decode cX12_start 33 = .ok (.aload_n 0, 1) := by decide +kernel
theorem dX12_start_34 : decode cX12_start 34 = .ok (.getfield 7, 3) := by decide +kernel
theorem dX12_start_37 : decode cX12_start 37 = .ok (.bipush 8, 2) := by decide +kernel
theorem dX12_start_39 : decode cX12_start 39 = .ok (.iconst 0, 1) := by decide +kernel
theorem dX12_start_40 : decode cX12_start 40 = .ok (.iastore, 1) := by decide +kernel
theorem dX12_start_41 : decode cX12_start 41 = .ok (.iconst 1, 1) := by decide +kernel
theorem dX12_start_42 : decode cX12_start 42 = .ok (.ireturn, 1) := by decide +kernel
theorem dX12_would_0 : decode cX12_would 0 = .ok (.aload_n 0, 1) := by decide +kernel
theorem dX12_would_1 : decode cX12_would 1 = .ok (.iload_n 1, 1) := by decide +kernel
theorem dX12_would_2 : decode cX12_would 2 = .ok (.invokevirtual 284, 3) := by decide +kernel
theorem dX12_would_5 : decode cX12_would 5 = .ok (.ifCond .eq 19, 3) := by decide +kernel
theorem dX12_would_8 : decode cX12_would 8 = .ok (.iload_n 2, 1) := by decide +kernel
theorem dX12_would_9 : decode cX12_would 9 = .ok (.invokestatic 75, 3) := by decide +kernel
theorem dX12_would_12 : decode cX12_would 12 = .ok (.ifCond .eq 12, 3) := by decide +kernel
theorem dX12_would_15 : decode cX12_would 15 = .ok (.iload_n 3, 1) := by decide +kernel
theorem dX12_would_16 : decode cX12_would 16 = .ok (.iconst 0, 1) := by decide +kernel
theorem dX12_would_17 : decode cX12_would 17 = .ok (.iconst 2, 1) := by decide +kernel
theorem dX12_would_18 : decode cX12_would 18 = .ok (.invokestatic 71, 3) := by decide +kernel
theorem dX12_would_21 : decode cX12_would 21 = .ok (.ifCond .ne 5, 3) := by decide +kernel
theorem dX12_would_24 : decode cX12_would 24 = .ok (.iconst (-1), 1) := by decide +kernel
theorem dX12_would_25 : decode cX12_would 25 = .ok (.ireturn, 1) := by decide +kernel
theorem dX12_would_26 : decode cX12_would 26 = .ok (.aload_n 0, 1) := by decide +kernel
theorem dX12_would_27 : decode cX12_would 27 = .ok (.aload_n 0, 1) := by decide +kernel
theorem dX12_would_28 : decode cX12_would 28 = .ok (.getfield 7, 3) := by decide +kernel
theorem dX12_would_31 : decode cX12_would 31 = .ok (.bipush 7, 2) := by decide +kernel
theorem dX12_would_33 : decode cX12_would 33 = .ok (.iaload, 1) := by decide +kernel
theorem dX12_would_34 : decode cX12_would 34 = .ok (.iload_n 1, 1) := by decide +kernel
theorem dX12_would_35 : decode cX12_would 35 = .ok (.iload_n 2, 1) := by decide +kernel
theorem dX12_would_36 : decode cX12_would 36 = .ok (.iconst 0, 1) := by decide +kernel
theorem dX12_would_37 : decode cX12_would 37 = .ok (.invokevirtual 280, 3) := by decide +kernel
theorem dX12_would_40 : decode cX12_would 40 = .ok (.iload_n 3, 1) := by decide +kernel
theorem dX12_would_41 : decode cX12_would 41 = .ok (.ifCond .ne 10, 3) := by decide +kernel
theorem dX12_would_44 : decode cX12_would 44 = .ok (.aload_n 0, 1) := by decide +kernel
theorem dX12_would_45 : decode cX12_would 45 = .ok (.getfield 268, 3) := by decide +kernel
theorem dX12_would_48 : decode cX12_would 48 = .ok (.goto 19, 3) := by decide +kernel
theorem dX12_would_51 : decode cX12_would 51 = .ok (.iload_n 3, 1) := by decide +kernel
theorem dX12_would_52 : decode cX12_would 52 = .ok (.iconst 1, 1) := by decide +kernel
theorem dX12_would_53 : decode cX12_would 53 = .ok (.if_icmp .ne 10, 3) := by decide +kernel
theorem dX12_would_56 : decode cX12_would 56 = .ok (.aload_n 0, 1) := by decide +kernel
theorem dX12_would_57 : decode cX12_would 57 = .ok (.getfield 277, 3) := by decide +kernel
theorem dX12_would_60 : decode cX12_would 60 = .ok (.goto 7, 3) := by decide +kernel
theorem dX12_would_63 : decode cX12_would 63 = .ok (.aload_n 0, 1) := by decide +kernel
theorem dX12_would_64 : decode cX12_would 64 = .ok (.getfield 265, 3) := by decide +kernel
theorem dX12_would_67 : decode cX12_would 67 = .ok (.ireturn, 1) := by decide +kernel
theorem dX12_drive_0 : decode cX12_drive 0 = .ok (.aload_n 0, 1) := by decide +kernel
theorem dX12_drive_1 : decode cX12_drive 1 = .ok (.iload_n 1, 1) := by decide +kernel
theorem dX12_drive_2 : decode cX12_drive 2 = .ok (.invokevirtual 284, 3) := by decide +kernel
theorem dX12_drive_5 : decode cX12_drive 5 = .ok (.ifCond .eq 16, 3) := by decide +kernel
theorem dX12_drive_8 : decode cX12_drive 8 = .ok (.aload_n 0, 1) := by decide +kernel
theorem dX12_drive_9 : decode cX12_drive 9 = .ok (.getfield 7, 3) := by decide +kernel
theorem dX12_drive_12 : decode cX12_drive 12 = .ok (.bipush 12, 2) := by decide +kernel
theorem dX12_drive_14 : decode cX12_drive 14 = .ok (.iaload, 1) := by decide +kernel
theorem dX12_drive_15 : decode cX12_drive 15 = .ok (.sipush 299, 3) := by decide +kernel
theorem dX12_drive_18 : decode cX12_drive 18 = .ok (.if_icmp .ne 5, 3) := by decide +kernel
theorem dX12_drive_21 : decode cX12_drive 21 = .ok (.iconst (-1), 1) := by decide +kernel
theorem dX12_drive_22 : decode cX12_drive 22 = .ok (.ireturn, 1) := by decide +kernel
theorem dX12_drive_23 : decode cX12_drive 23 = .ok (.aload_n 0, 1) := by decide +kernel
theorem dX12_drive_24 : decode cX12_drive 24 = .ok (.invokevirtual 287, 3) := by decide +kernel
theorem dX12_drive_27 : decode cX12_drive 27 = .ok (.aload_n 0, 1) := by decide +kernel
theorem dX12_drive_28 : decode cX12_drive 28 = .ok (.aload_n 0, 1) := by decide +kernel
theorem dX12_drive_29 : decode cX12_drive 29 = .ok (.getfield 7, 3) := by decide +kernel
theorem dX12_drive_32 : decode cX12_drive 32 = .ok (.bipush 7, 2) := by decide +kernel
theorem dX12_drive_34 : decode cX12_drive 34 = .ok (.iaload, 1) := by decide +kernel
theorem dX12_drive_35 : decode cX12_drive 35 = .ok (.iload_n 1, 1) := by decide +kernel
theorem dX12_drive_36 : decode cX12_drive 36 = .ok (.aload_n 0, 1) := by decide +kernel
theorem dX12_drive_37 : decode cX12_drive 37 = .ok (.getfield 7, 3) := by decide +kernel
theorem dX12_drive_40 : decode cX12_drive 40 = .ok (.bipush 12, 2) := by decide +kernel
theorem dX12_drive_42 : decode cX12_drive 42 = .ok (.iaload, 1) := by decide +kernel
theorem dX12_drive_43 : decode cX12_drive 43 = .ok (.iconst 1, 1) := by decide +kernel
theorem dX12_drive_44 : decode cX12_drive 44 = .ok (.invokevirtual 280, 3) := by decide +kernel
theorem dX12_drive_47 : decode cX12_drive 47 = .ok (.aload_n 0, 1) := by decide +kernel
theorem dX12_drive_48 : decode cX12_drive 48 = .ok (.getfield 7, 3) := by decide +kernel
theorem dX12_drive_51 : decode cX12_drive 51 = .ok (.bipush 12, 2) := by decide +kernel
theorem dX12_drive_53 : decode cX12_drive 53 = .ok (.aload_n 0, 1) := by decide +kernel
theorem dX12_drive_54 : decode cX12_drive 54 = .ok (.getfield 268, 3) := by decide +kernel
theorem dX12_drive_57 : decode cX12_drive 57 = .ok (.iastore, 1) := by decide +kernel
theorem dX12_drive_58 : decode cX12_drive 58 = .ok (.aload_n 0, 1) := by decide +kernel
theorem dX12_drive_59 : decode cX12_drive 59 = .ok (.getfield 7, 3) := by decide +kernel
theorem dX12_drive_62 : decode cX12_drive 62 = .ok (.bipush 13, 2) := by decide +kernel
theorem dX12_drive_64 : decode cX12_drive 64 = .ok (.dup2, 1) := by decide +kernel
theorem dX12_drive_65 : decode cX12_drive 65 = .ok (.iaload, 1) := by decide +kernel
theorem dX12_drive_66 : decode cX12_drive 66 = .ok (.aload_n 0, 1) := by decide +kernel
theorem dX12_drive_67 : decode cX12_drive 67 = .ok (.getfield 277, 3) := by decide +kernel
theorem dX12_drive_70 : decode cX12_drive 70 = .ok (.iadd, 1) := by decide +kernel
theorem dX12_drive_71 : decode cX12_drive 71 = .ok (.iastore, 1) := by decide +kernel
theorem dX12_drive_72 : decode cX12_drive 72 = .ok (.aload_n 0, 1) := by decide +kernel
theorem dX12_drive_73 : decode cX12_drive 73 = .ok (.getfield 7, 3) := by decide +kernel
theorem dX12_drive_76 : decode cX12_drive 76 = .ok (.bipush 14, 2) := by decide +kernel
theorem dX12_drive_78 : decode cX12_drive 78 = .ok (.dup2, 1) := by decide +kernel
theorem dX12_drive_79 : decode cX12_drive 79 = .ok (.iaload, 1) := by decide +kernel
theorem dX12_drive_80 : decode cX12_drive 80 = .ok (.iconst 1, 1) := by decide +kernel
theorem dX12_drive_81 : decode cX12_drive 81 = .ok (.iadd, 1) := by decide +kernel
theorem dX12_drive_82 : decode cX12_drive 82 = .ok (.iastore, 1) := by decide +kernel
theorem dX12_drive_83 : decode cX12_drive 83 = .ok (.aload_n 0, 1) := by decide +kernel
theorem dX12_drive_84 : decode cX12_drive 84 = .ok (.getfield 268, 3) := by decide +kernel
theorem dX12_drive_87 : decode cX12_drive 87 = .ok (.ireturn, 1) := by decide +kernel
theorem dX12_played_0 : decode cX12_played 0 = .ok (.iload_n 1, 1) := by decide +kernel
theorem dX12_played_1 : decode cX12_played 1 = .ok (.iconst 0, 1) := by decide +kernel
theorem dX12_played_2 : decode cX12_played 2 = .ok (.aload_n 0, 1) := by decide +kernel
theorem dX12_played_3 : decode cX12_played 3 = .ok (.getfield 7, 3) := by decide +kernel
theorem dX12_played_6 : decode cX12_played 6 = .ok (.bipush 6, 2) := by decide +kernel
theorem dX12_played_8 : decode cX12_played 8 = .ok (.iaload, 1) := by decide +kernel
theorem dX12_played_9 : decode cX12_played 9 = .ok (.iconst 1, 1) := by decide +kernel
theorem dX12_played_10 : decode cX12_played 10 = .ok (.isub, 1) := by decide +kernel
theorem dX12_played_11 : decode cX12_played 11 = .ok (.invokestatic 71, 3) := by decide +kernel
theorem dX12_played_14 : decode cX12_played 14 = .ok (.ifCond .ne 6, 3) := by decide +kernel
theorem dX12_played_17 : decode cX12_played 17 = .ok (.bipush (-2), 2) := by decide +kernel
theorem dX12_played_19 : decode cX12_played 19 = .ok (.ireturn, 1) := by decide +kernel
theorem dX12_played_20 : decode cX12_played 20 = .ok (.iconst 0, 1) := by decide +kernel
theorem dX12_played_21 : decode cX12_played 21 = .ok (.istore_n 2, 1) := by decide +kernel
theorem dX12_played_22 : decode cX12_played 22 = .ok (.iload_n 2, 1) := by decide +kernel
theorem dX12_played_23 : decode cX12_played 23 = .ok (.aload_n 0, 1) := by decide +kernel
theorem dX12_played_24 : decode cX12_played 24 = .ok (.getfield 16, 3) := by decide +kernel
theorem dX12_played_27 : decode cX12_played 27 = .ok (.sipush 680, 3) := by decide +kernel
theorem dX12_played_30 : decode cX12_played 30 = .ok (.iload_n 1, 1) := by decide +kernel
theorem dX12_played_31 : decode cX12_played 31 = .ok (.imul, 1) := by decide +kernel
theorem dX12_played_32 : decode cX12_played 32 = .ok (.iaload, 1) := by decide +kernel
theorem dX12_played_33 : decode cX12_played 33 = .ok (.if_icmp .ge 29, 3) := by decide +kernel
theorem dX12_played_36 : decode cX12_played 36 = .ok (.aload_n 0, 1) := by decide +kernel
theorem dX12_played_37 : decode cX12_played 37 = .ok (.sipush 680, 3) := by decide +kernel
theorem dX12_played_40 : decode cX12_played 40 = .ok (.iload_n 1, 1) := by decide +kernel
theorem dX12_played_41 : decode cX12_played 41 = .ok (.imul, 1) := by decide +kernel
theorem dX12_played_42 : decode cX12_played 42 = .ok (.iconst 1, 1) := by decide +kernel
theorem dX12_played_43 : decode cX12_played 43 = .ok (.iadd, 1) := by decide +kernel
theorem dX12_played_44 : decode cX12_played 44 = .ok (.iconst 3, 1) := by decide +kernel
theorem dX12_played_45 : decode cX12_played 45 = .ok (.iload_n 2, 1) := by decide +kernel
theorem dX12_played_46 : decode cX12_played 46 = .ok (.imul, 1) := by decide +kernel
theorem dX12_played_47 : decode cX12_played 47 = .ok (.iadd, 1) := by decide +kernel
theorem dX12_played_48 : decode cX12_played 48 = .ok (.invokevirtual 296, 3) := by decide +kernel
theorem dX12_played_51 : decode cX12_played 51 = .ok (.ifCond .ne 5, 3) := by decide +kernel
theorem dX12_played_54 : decode cX12_played 54 = .ok (.iload_n 2, 1) := by decide +kernel
theorem dX12_played_55 : decode cX12_played 55 = .ok (.ireturn, 1) := by decide +kernel
theorem dX12_played_56 : decode cX12_played 56 = .ok (.iinc 2 1, 3) := by decide +kernel
theorem dX12_played_59 : decode cX12_played 59 = .ok (.goto (-37), 3) := by decide +kernel
theorem dX12_played_62 : decode cX12_played 62 = .ok (.iconst (-1), 1) := by decide +kernel
theorem dX12_played_63 : decode cX12_played 63 = .ok (.ireturn, 1) := by decide +kernel
theorem dX12_undo_0 : decode cX12_undo 0 = .ok (.aload_n 0, 1) := by decide +kernel
theorem dX12_undo_1 : decode cX12_undo 1 = .ok (.getfield 7, 3) := by decide +kernel
theorem dX12_undo_4 : decode cX12_undo 4 = .ok (.bipush 8, 2) := by decide +kernel
theorem dX12_undo_6 : decode cX12_undo 6 = .ok (.iaload, 1) := by decide +kernel
theorem dX12_undo_7 : decode cX12_undo 7 = .ok (.ifCond .ne 5, 3) := by decide +kernel
theorem dX12_undo_10 : decode cX12_undo 10 = .ok (.iconst (-1), 1) := by decide +kernel
theorem dX12_undo_11 : decode cX12_undo 11 = .ok (.ireturn, 1) := by decide +kernel
theorem dX12_undo_12 : decode cX12_undo 12 = .ok (.aload_n 0, 1) := by decide +kernel
theorem dX12_undo_13 : decode cX12_undo 13 = .ok (.getfield 7, 3) := by decide +kernel
theorem dX12_undo_16 : decode cX12_undo 16 = .ok (.bipush 8, 2) := by decide +kernel
theorem dX12_undo_18 : decode cX12_undo 18 = .ok (.dup2, 1) := by decide +kernel
theorem dX12_undo_19 : decode cX12_undo 19 = .ok (.iaload, 1) := by decide +kernel
theorem dX12_undo_20 : decode cX12_undo 20 = .ok (.iconst 1, 1) := by decide +kernel
theorem dX12_undo_21 : decode cX12_undo 21 = .ok (.isub, 1) := by decide +kernel
theorem dX12_undo_22 : decode cX12_undo 22 = .ok (.iastore, 1) := by decide +kernel
theorem dX12_undo_23 : decode cX12_undo 23 = .ok (.sipush 382, 3) := by decide +kernel
theorem dX12_undo_26 : decode cX12_undo 26 = .ok (.bipush 16, 2) := by decide +kernel
theorem dX12_undo_28 : decode cX12_undo 28 = .ok (.aload_n 0, 1) := by decide +kernel
theorem dX12_undo_29 : decode cX12_undo 29 = .ok (.getfield 7, 3) := by decide +kernel
theorem dX12_undo_32 : decode cX12_undo 32 = .ok (.bipush 8, 2) := by decide +kernel
theorem dX12_undo_34 : decode cX12_undo 34 = .ok (.iaload, 1) := by decide +kernel
theorem dX12_undo_35 : decode cX12_undo 35 = .ok (.imul, 1) := by decide +kernel
theorem dX12_undo_36 : decode cX12_undo 36 = .ok (.iadd, 1) := by decide +kernel
theorem dX12_undo_37 : decode cX12_undo 37 = .ok (.istore_n 1, 1) := by decide +kernel
theorem dX12_undo_38 : decode cX12_undo 38 = .ok (.iconst 0, 1) := by decide +kernel
theorem dX12_undo_39 : decode cX12_undo 39 = .ok (.istore_n 2, 1) := by decide +kernel
theorem dX12_undo_40 : decode cX12_undo 40 = .ok (.iload_n 2, 1) := by decide +kernel
theorem dX12_undo_41 : decode cX12_undo 41 = .ok (.iconst 3, 1) := by decide +kernel
theorem dX12_undo_42 : decode cX12_undo 42 = .ok (.if_icmp .ge 26, 3) := by decide +kernel
theorem dX12_undo_45 : decode cX12_undo 45 = .ok (.aload_n 0, 1) := by decide +kernel
theorem dX12_undo_46 : decode cX12_undo 46 = .ok (.getfield 7, 3) := by decide +kernel
theorem dX12_undo_49 : decode cX12_undo 49 = .ok (.bipush 12, 2) := by decide +kernel
theorem dX12_undo_51 : decode cX12_undo 51 = .ok (.iload_n 2, 1) := by decide +kernel
theorem dX12_undo_52 : decode cX12_undo 52 = .ok (.iadd, 1) := by decide +kernel
theorem dX12_undo_53 : decode cX12_undo 53 = .ok (.aload_n 0, 1) := by decide +kernel
theorem dX12_undo_54 : decode cX12_undo 54 = .ok (.getfield 7, 3) := by decide +kernel
theorem dX12_undo_57 : decode cX12_undo 57 = .ok (.iload_n 1, 1) := by decide +kernel
theorem dX12_undo_58 : decode cX12_undo 58 = .ok (.iload_n 2, 1) := by decide +kernel
theorem dX12_undo_59 : decode cX12_undo 59 = .ok (.iadd, 1) := by decide +kernel
theorem dX12_undo_60 : decode cX12_undo 60 = .ok (.iaload, 1) := by decide +kernel
theorem dX12_undo_61 : decode cX12_undo 61 = .ok (.iastore, 1) := by decide +kernel
theorem dX12_undo_62 : decode cX12_undo 62 = .ok (.iinc 2 1, 3) := by decide +kernel
theorem dX12_undo_65 : decode cX12_undo 65 = .ok (.goto (-25), 3) := by decide +kernel
theorem dX12_undo_68 : decode cX12_undo 68 = .ok (.aload_n 0, 1) := by decide +kernel
theorem dX12_undo_69 : decode cX12_undo 69 = .ok (.getfield 7, 3) := by decide +kernel
theorem dX12_undo_72 : decode cX12_undo 72 = .ok (.iconst 3, 1) := by decide +kernel
theorem dX12_undo_73 : decode cX12_undo 73 = .ok (.aload_n 0, 1) := by decide +kernel
theorem dX12_undo_74 : decode cX12_undo 74 = .ok (.getfield 7, 3) := by decide +kernel
theorem dX12_undo_77 : decode cX12_undo 77 = .ok (.iload_n 1, 1) := by decide +kernel
theorem dX12_undo_78 : decode cX12_undo 78 = .ok (.iconst 3, 1) := by decide +kernel
theorem dX12_undo_79 : decode cX12_undo 79 = .ok (.iadd, 1) := by decide +kernel
theorem dX12_undo_80 : decode cX12_undo 80 = .ok (.iaload, 1) := by decide +kernel
theorem dX12_undo_81 : decode cX12_undo 81 = .ok (.iastore, 1) := by decide +kernel
theorem dX12_undo_82 : decode cX12_undo 82 = .ok (.aload_n 0, 1) := by decide +kernel
theorem dX12_undo_83 : decode cX12_undo 83 = .ok (.getfield 7, 3) := by decide +kernel
theorem dX12_undo_86 : decode cX12_undo 86 = .ok (.iconst 5, 1) := by decide +kernel
theorem dX12_undo_87 : decode cX12_undo 87 = .ok (.aload_n 0, 1) := by decide +kernel
theorem dX12_undo_88 : decode cX12_undo 88 = .ok (.getfield 7, 3) := by decide +kernel
theorem dX12_undo_91 : decode cX12_undo 91 = .ok (.iload_n 1, 1) := by decide +kernel
theorem dX12_undo_92 : decode cX12_undo 92 = .ok (.iconst 4, 1) := by decide +kernel
theorem dX12_undo_93 : decode cX12_undo 93 = .ok (.iadd, 1) := by decide +kernel
theorem dX12_undo_94 : decode cX12_undo 94 = .ok (.iaload, 1) := by decide +kernel
theorem dX12_undo_95 : decode cX12_undo 95 = .ok (.iastore, 1) := by decide +kernel
theorem dX12_undo_96 : decode cX12_undo 96 = .ok (.iconst 0, 1) := by decide +kernel
theorem dX12_undo_97 : decode cX12_undo 97 = .ok (.istore_n 2, 1) := by decide +kernel
theorem dX12_undo_98 : decode cX12_undo 98 = .ok (.iload_n 2, 1) := by decide +kernel
theorem dX12_undo_99 : decode cX12_undo 99 = .ok (.aload_n 0, 1) := by decide +kernel
theorem dX12_undo_100 : decode cX12_undo 100 = .ok (.getfield 7, 3) := by decide +kernel
theorem dX12_undo_103 : decode cX12_undo 103 = .ok (.iload_n 1, 1) := by decide +kernel
theorem dX12_undo_104 : decode cX12_undo 104 = .ok (.iconst 5, 1) := by decide +kernel
theorem dX12_undo_105 : decode cX12_undo 105 = .ok (.iadd, 1) := by decide +kernel
theorem dX12_undo_106 : decode cX12_undo 106 = .ok (.iaload, 1) := by decide +kernel
theorem dX12_undo_107 : decode cX12_undo 107 = .ok (.if_icmp .ge 29, 3) := by decide +kernel
theorem dX12_undo_110 : decode cX12_undo 110 = .ok (.aload_n 0, 1) := by decide +kernel
theorem dX12_undo_111 : decode cX12_undo 111 = .ok (.getfield 7, 3) := by decide +kernel
theorem dX12_undo_114 : decode cX12_undo 114 = .ok (.bipush 24, 2) := by decide +kernel
theorem dX12_undo_116 : decode cX12_undo 116 = .ok (.iload_n 2, 1) := by decide +kernel
theorem dX12_undo_117 : decode cX12_undo 117 = .ok (.iadd, 1) := by decide +kernel
theorem dX12_undo_118 : decode cX12_undo 118 = .ok (.aload_n 0, 1) := by decide +kernel
theorem dX12_undo_119 : decode cX12_undo 119 = .ok (.getfield 7, 3) := by decide +kernel
theorem dX12_undo_122 : decode cX12_undo 122 = .ok (.iload_n 1, 1) := by decide +kernel
theorem dX12_undo_123 : decode cX12_undo 123 = .ok (.bipush 6, 2) := by decide +kernel
theorem dX12_undo_125 : decode cX12_undo 125 = .ok (.iadd, 1) := by decide +kernel
theorem dX12_undo_126 : decode cX12_undo 126 = .ok (.iload_n 2, 1) := by decide +kernel
theorem dX12_undo_127 : decode cX12_undo 127 = .ok (.iadd, 1) := by decide +kernel
theorem dX12_undo_128 : decode cX12_undo 128 = .ok (.iaload, 1) := by decide +kernel
theorem dX12_undo_129 : decode cX12_undo 129 = .ok (.iastore, 1) := by decide +kernel
theorem dX12_undo_130 : decode cX12_undo 130 = .ok (.iinc 2 1, 3) := by decide +kernel
theorem dX12_undo_133 : decode cX12_undo 133 = .ok (.goto (-35), 3) := by decide +kernel
theorem dX12_undo_136 : decode cX12_undo 136 = .ok (.aload_n 0, 1) := by decide +kernel
theorem dX12_undo_137 : decode cX12_undo 137 = .ok (.getfield 7, 3) := by decide +kernel
theorem dX12_undo_140 : decode cX12_undo 140 = .ok (.bipush 8, 2) := by decide +kernel
theorem dX12_undo_142 : decode cX12_undo 142 = .ok (.iaload, 1) := by decide +kernel
theorem dX12_undo_143 : decode cX12_undo 143 = .ok (.ireturn, 1) := by decide +kernel
theorem dX12_harness_0 : decode cX12_harness 0 = .ok (.iload_n 1, 1) := by decide +kernel
theorem dX12_harness_1 : decode cX12_harness 1 = .ok (.invokestatic 75, 3) := by decide +kernel
theorem dX12_harness_4 : decode cX12_harness 4 = .ok (.ifCond .eq 16, 3) := by decide +kernel
theorem dX12_harness_7 : decode cX12_harness 7 = .ok (.iload_n 2, 1) := by decide +kernel
theorem dX12_harness_8 : decode cX12_harness 8 = .ok (.invokestatic 75, 3) := by decide +kernel
theorem dX12_harness_11 : decode cX12_harness 11 = .ok (.ifCond .eq 9, 3) := by decide +kernel
theorem dX12_harness_14 : decode cX12_harness 14 = .ok (.iload_n 3, 1) := by decide +kernel
theorem dX12_harness_15 : decode cX12_harness 15 = .ok (.bipush (-2), 2) := by decide +kernel
theorem dX12_harness_17 : decode cX12_harness 17 = .ok (.if_icmp .ge 6, 3) := by decide +kernel
theorem dX12_harness_20 : decode cX12_harness 20 = .ok (.bipush (-3), 2) := by decide +kernel
theorem dX12_harness_22 : decode cX12_harness 22 = .ok (.ireturn, 1) := by decide +kernel
theorem dX12_harness_23 : decode cX12_harness 23 = .ok (.iload_n 1, 1) := by decide +kernel
theorem dX12_harness_24 : decode cX12_harness 24 = .ok (.iload_n 2, 1) := by decide +kernel
theorem dX12_harness_25 : decode cX12_harness 25 = .ok (.if_icmp .ne 14, 3) := by decide +kernel
theorem dX12_harness_28 : decode cX12_harness 28 = .ok (.iload_n 3, 1) := by decide +kernel
theorem dX12_harness_29 : decode cX12_harness 29 = .ok (.ifCond .ge 7, 3) := by decide +kernel
theorem dX12_harness_32 : decode cX12_harness 32 = .ok (.iconst 0, 1) := by decide +kernel
theorem dX12_harness_33 : decode cX12_harness 33 = .ok (.goto 5, 3) := by decide +kernel
theorem dX12_harness_36 : decode cX12_harness 36 = .ok (.bipush (-3), 2) := by decide +kernel
theorem dX12_harness_38 : decode cX12_harness 38 = .ok (.ireturn, 1) := by decide +kernel
theorem dX12_harness_39 : decode cX12_harness 39 = .ok (.iconst 1, 1) := by decide +kernel
theorem dX12_harness_40 : decode cX12_harness 40 = .ok (.istore 4, 2) := by decide +kernel
theorem dX12_harness_42 : decode cX12_harness 42 = .ok (.iload 4, 2) := by decide +kernel
theorem dX12_harness_44 : decode cX12_harness 44 = .ok (.aload_n 0, 1) := by decide +kernel
theorem dX12_harness_45 : decode cX12_harness 45 = .ok (.getfield 7, 3) := by decide +kernel
theorem dX12_harness_48 : decode cX12_harness 48 = .ok (.iconst 0, 1) := by decide +kernel
theorem dX12_harness_49 : decode cX12_harness 49 = .ok (.iaload, 1) := by decide +kernel
theorem dX12_harness_50 : decode cX12_harness 50 = .ok (.if_icmp .gt 69, 3) := by decide +kernel
theorem dX12_harness_53 : decode cX12_harness 53 = .ok (.aload_n 0, 1) := by decide +kernel
theorem dX12_harness_54 : decode cX12_harness 54 = .ok (.iload_n 1, 1) := by decide +kernel
theorem dX12_harness_55 : decode cX12_harness 55 = .ok (.iload_n 2, 1) := by decide +kernel
theorem dX12_harness_56 : decode cX12_harness 56 = .ok (.iload 4, 2) := by decide +kernel
theorem dX12_harness_58 : decode cX12_harness 58 = .ok (.invokevirtual 306, 3) := by decide +kernel
theorem dX12_harness_61 : decode cX12_harness 61 = .ok (.istore 5, 2) := by decide +kernel
theorem dX12_harness_63 : decode cX12_harness 63 = .ok (.iload 5, 2) := by decide +kernel
theorem dX12_harness_65 : decode cX12_harness 65 = .ok (.ldc_w 302, 3) := by decide +kernel
theorem dX12_harness_68 : decode cX12_harness 68 = .ok (.if_icmp .ne 6, 3) := by decide +kernel
theorem dX12_harness_71 : decode cX12_harness 71 = .ok (.goto 42, 3) := by decide +kernel
theorem dX12_harness_74 : decode cX12_harness 74 = .ok (.iload_n 3, 1) := by decide +kernel
theorem dX12_harness_75 : decode cX12_harness 75 = .ok (.iconst (-1), 1) := by decide +kernel
theorem dX12_harness_76 : decode cX12_harness 76 = .ok (.if_icmp .ne 8, 3) := by decide +kernel
theorem dX12_harness_79 : decode cX12_harness 79 = .ok (.iload 4, 2) := by decide +kernel
theorem dX12_harness_81 : decode cX12_harness 81 = .ok (.goto 31, 3) := by decide +kernel
theorem dX12_harness_84 : decode cX12_harness 84 = .ok (.iload_n 3, 1) := by decide +kernel
theorem dX12_harness_85 : decode cX12_harness 85 = .ok (.bipush (-2), 2) := by decide +kernel
theorem dX12_harness_87 : decode cX12_harness 87 = .ok (.if_icmp .ne 8, 3) := by decide +kernel
theorem dX12_harness_90 : decode cX12_harness 90 = .ok (.iload 5, 2) := by decide +kernel
theorem dX12_harness_92 : decode cX12_harness 92 = .ok (.goto 20, 3) := by decide +kernel
theorem dX12_harness_95 : decode cX12_harness 95 = .ok (.iload_n 3, 1) := by decide +kernel
theorem dX12_harness_96 : decode cX12_harness 96 = .ok (.iload 4, 2) := by decide +kernel
theorem dX12_harness_98 : decode cX12_harness 98 = .ok (.if_icmp .ge 12, 3) := by decide +kernel
theorem dX12_harness_101 : decode cX12_harness 101 = .ok (.aload_n 0, 1) := by decide +kernel
theorem dX12_harness_102 : decode cX12_harness 102 = .ok (.getfield 52, 3) := by decide +kernel
theorem dX12_harness_105 : decode cX12_harness 105 = .ok (.iload_n 3, 1) := by decide +kernel
theorem dX12_harness_106 : decode cX12_harness 106 = .ok (.iaload, 1) := by decide +kernel
theorem dX12_harness_107 : decode cX12_harness 107 = .ok (.goto 5, 3) := by decide +kernel
theorem dX12_harness_110 : decode cX12_harness 110 = .ok (.bipush (-3), 2) := by decide +kernel
theorem dX12_harness_112 : decode cX12_harness 112 = .ok (.ireturn, 1) := by decide +kernel
theorem dX12_harness_113 : decode cX12_harness 113 = .ok (.iinc 4 1, 3) := by decide +kernel
theorem dX12_harness_116 : decode cX12_harness 116 = .ok (.goto (-74), 3) := by decide +kernel
theorem dX12_harness_119 : decode cX12_harness 119 = .ok (.bipush (-3), 2) := by decide +kernel
theorem dX12_harness_121 : decode cX12_harness 121 = .ok (.ireturn, 1) := by decide +kernel
theorem dX12_seen_0 : decode cX12_seen 0 = .ok (.iload_n 1, 1) := by decide +kernel
theorem dX12_seen_1 : decode cX12_seen 1 = .ok (.iconst (-1), 1) := by decide +kernel
theorem dX12_seen_2 : decode cX12_seen 2 = .ok (.if_icmp .ne 13, 3) := by decide +kernel
theorem dX12_seen_5 : decode cX12_seen 5 = .ok (.aload_n 0, 1) := by decide +kernel
theorem dX12_seen_6 : decode cX12_seen 6 = .ok (.getfield 7, 3) := by decide +kernel
theorem dX12_seen_9 : decode cX12_seen 9 = .ok (.bipush 9, 2) := by decide +kernel
theorem dX12_seen_11 : decode cX12_seen 11 = .ok (.iconst 0, 1) := by decide +kernel
theorem dX12_seen_12 : decode cX12_seen 12 = .ok (.iastore, 1) := by decide +kernel
theorem dX12_seen_13 : decode cX12_seen 13 = .ok (.iconst 0, 1) := by decide +kernel
theorem dX12_seen_14 : decode cX12_seen 14 = .ok (.ireturn, 1) := by decide +kernel
theorem dX12_seen_15 : decode cX12_seen 15 = .ok (.iload_n 1, 1) := by decide +kernel
theorem dX12_seen_16 : decode cX12_seen 16 = .ok (.invokestatic 75, 3) := by decide +kernel
theorem dX12_seen_19 : decode cX12_seen 19 = .ok (.ifCond .eq 15, 3) := by decide +kernel
theorem dX12_seen_22 : decode cX12_seen 22 = .ok (.aload_n 0, 1) := by decide +kernel
theorem dX12_seen_23 : decode cX12_seen 23 = .ok (.getfield 7, 3) := by decide +kernel
theorem dX12_seen_26 : decode cX12_seen 26 = .ok (.bipush 9, 2) := by decide +kernel
theorem dX12_seen_28 : decode cX12_seen 28 = .ok (.iaload, 1) := by decide +kernel
theorem dX12_seen_29 : decode cX12_seen 29 = .ok (.bipush 6, 2) := by decide +kernel
theorem dX12_seen_31 : decode cX12_seen 31 = .ok (.if_icmp .ne 6, 3) := by decide +kernel
theorem dX12_seen_34 : decode cX12_seen 34 = .ok (.bipush (-2), 2) := by decide +kernel
theorem dX12_seen_36 : decode cX12_seen 36 = .ok (.ireturn, 1) := by decide +kernel
theorem dX12_seen_37 : decode cX12_seen 37 = .ok (.aload_n 0, 1) := by decide +kernel
theorem dX12_seen_38 : decode cX12_seen 38 = .ok (.getfield 7, 3) := by decide +kernel
theorem dX12_seen_41 : decode cX12_seen 41 = .ok (.bipush 46, 2) := by decide +kernel
theorem dX12_seen_43 : decode cX12_seen 43 = .ok (.aload_n 0, 1) := by decide +kernel
theorem dX12_seen_44 : decode cX12_seen 44 = .ok (.getfield 7, 3) := by decide +kernel
theorem dX12_seen_47 : decode cX12_seen 47 = .ok (.bipush 9, 2) := by decide +kernel
theorem dX12_seen_49 : decode cX12_seen 49 = .ok (.iaload, 1) := by decide +kernel
theorem dX12_seen_50 : decode cX12_seen 50 = .ok (.iadd, 1) := by decide +kernel
theorem dX12_seen_51 : decode cX12_seen 51 = .ok (.iload_n 1, 1) := by decide +kernel
theorem dX12_seen_52 : decode cX12_seen 52 = .ok (.iastore, 1) := by decide +kernel
theorem dX12_seen_53 : decode cX12_seen 53 = .ok (.aload_n 0, 1) := by decide +kernel
theorem dX12_seen_54 : decode cX12_seen 54 = .ok (.getfield 7, 3) := by decide +kernel
theorem dX12_seen_57 : decode cX12_seen 57 = .ok (.bipush 9, 2) := by decide +kernel
theorem dX12_seen_59 : decode cX12_seen 59 = .ok (.dup2, 1) := by decide +kernel
theorem dX12_seen_60 : decode cX12_seen 60 = .ok (.iaload, 1) := by decide +kernel
theorem dX12_seen_61 : decode cX12_seen 61 = .ok (.iconst 1, 1) := by decide +kernel
theorem dX12_seen_62 : decode cX12_seen 62 = .ok (.iadd, 1) := by decide +kernel
theorem dX12_seen_63 : decode cX12_seen 63 = .ok (.iastore, 1) := by decide +kernel
theorem dX12_seen_64 : decode cX12_seen 64 = .ok (.aload_n 0, 1) := by decide +kernel
theorem dX12_seen_65 : decode cX12_seen 65 = .ok (.getfield 7, 3) := by decide +kernel
theorem dX12_seen_68 : decode cX12_seen 68 = .ok (.bipush 9, 2) := by decide +kernel
theorem dX12_seen_70 : decode cX12_seen 70 = .ok (.iaload, 1) := by decide +kernel
theorem dX12_seen_71 : decode cX12_seen 71 = .ok (.ireturn, 1) := by decide +kernel
theorem dX12_tried_0 : decode cX12_tried 0 = .ok (.iload_n 1, 1) := by decide +kernel
theorem dX12_tried_1 : decode cX12_tried 1 = .ok (.iconst (-1), 1) := by decide +kernel
theorem dX12_tried_2 : decode cX12_tried 2 = .ok (.if_icmp .ne 13, 3) := by decide +kernel
theorem dX12_tried_5 : decode cX12_tried 5 = .ok (.aload_n 0, 1) := by decide +kernel
theorem dX12_tried_6 : decode cX12_tried 6 = .ok (.getfield 7, 3) := by decide +kernel
theorem dX12_tried_9 : decode cX12_tried 9 = .ok (.bipush 10, 2) := by decide +kernel
theorem dX12_tried_11 : decode cX12_tried 11 = .ok (.iconst 0, 1) := by decide +kernel
theorem dX12_tried_12 : decode cX12_tried 12 = .ok (.iastore, 1) := by decide +kernel
theorem dX12_tried_13 : decode cX12_tried 13 = .ok (.iconst 0, 1) := by decide +kernel
theorem dX12_tried_14 : decode cX12_tried 14 = .ok (.ireturn, 1) := by decide +kernel
theorem dX12_tried_15 : decode cX12_tried 15 = .ok (.aload_n 0, 1) := by decide +kernel
theorem dX12_tried_16 : decode cX12_tried 16 = .ok (.iload_n 1, 1) := by decide +kernel
theorem dX12_tried_17 : decode cX12_tried 17 = .ok (.invokevirtual 284, 3) := by decide +kernel
theorem dX12_tried_20 : decode cX12_tried 20 = .ok (.ifCond .eq 29, 3) := by decide +kernel
theorem dX12_tried_23 : decode cX12_tried 23 = .ok (.iload_n 2, 1) := by decide +kernel
theorem dX12_tried_24 : decode cX12_tried 24 = .ok (.invokestatic 75, 3) := by decide +kernel
theorem dX12_tried_27 : decode cX12_tried 27 = .ok (.ifCond .eq 22, 3) := by decide +kernel
theorem dX12_tried_30 : decode cX12_tried 30 = .ok (.iload_n 3, 1) := by decide +kernel
theorem dX12_tried_31 : decode cX12_tried 31 = .ok (.invokestatic 75, 3) := by decide +kernel
theorem dX12_tried_34 : decode cX12_tried 34 = .ok (.ifCond .eq 15, 3) := by decide +kernel
theorem dX12_tried_37 : decode cX12_tried 37 = .ok (.aload_n 0, 1) := by decide +kernel
theorem dX12_tried_38 : decode cX12_tried 38 = .ok (.getfield 7, 3) := by decide +kernel
theorem dX12_tried_41 : decode cX12_tried 41 = .ok (.bipush 10, 2) := by decide +kernel
theorem dX12_tried_43 : decode cX12_tried 43 = .ok (.iaload, 1) := by decide +kernel
theorem dX12_tried_44 : decode cX12_tried 44 = .ok (.bipush 10, 2) := by decide +kernel
theorem dX12_tried_46 : decode cX12_tried 46 = .ok (.if_icmp .ne 6, 3) := by decide +kernel
theorem dX12_tried_49 : decode cX12_tried 49 = .ok (.bipush (-2), 2) := by decide +kernel
theorem dX12_tried_51 : decode cX12_tried 51 = .ok (.ireturn, 1) := by decide +kernel
theorem dX12_tried_52 : decode cX12_tried 52 = .ok (.bipush 52, 2) := by decide +kernel
theorem dX12_tried_54 : decode cX12_tried 54 = .ok (.iconst 3, 1) := by decide +kernel
theorem dX12_tried_55 : decode cX12_tried 55 = .ok (.aload_n 0, 1) := by decide +kernel
theorem dX12_tried_56 : decode cX12_tried 56 = .ok (.getfield 7, 3) := by decide +kernel
theorem dX12_tried_59 : decode cX12_tried 59 = .ok (.bipush 10, 2) := by decide +kernel
theorem dX12_tried_61 : decode cX12_tried 61 = .ok (.iaload, 1) := by decide +kernel
theorem dX12_tried_62 : decode cX12_tried 62 = .ok (.imul, 1) := by decide +kernel
theorem dX12_tried_63 : decode cX12_tried 63 = .ok (.iadd, 1) := by decide +kernel
theorem dX12_tried_64 : decode cX12_tried 64 = .ok (.istore 4, 2) := by decide +kernel
theorem dX12_tried_66 : decode cX12_tried 66 = .ok (.aload_n 0, 1) := by decide +kernel
theorem dX12_tried_67 : decode cX12_tried 67 = .ok (.getfield 7, 3) := by decide +kernel
theorem dX12_tried_70 : decode cX12_tried 70 = .ok (.iload 4, 2) := by decide +kernel
theorem dX12_tried_72 : decode cX12_tried 72 = .ok (.iload_n 1, 1) := by decide +kernel
theorem dX12_tried_73 : decode cX12_tried 73 = .ok (.iastore, 1) := by decide +kernel
theorem dX12_tried_74 : decode cX12_tried 74 = .ok (.aload_n 0, 1) := by decide +kernel
theorem dX12_tried_75 : decode cX12_tried 75 = .ok (.getfield 7, 3) := by decide +kernel
theorem dX12_tried_78 : decode cX12_tried 78 = .ok (.iload 4, 2) := by decide +kernel
theorem dX12_tried_80 : decode cX12_tried 80 = .ok (.iconst 1, 1) := by decide +kernel
theorem dX12_tried_81 : decode cX12_tried 81 = .ok (.iadd, 1) := by decide +kernel
theorem dX12_tried_82 : decode cX12_tried 82 = .ok (.iload_n 2, 1) := by decide +kernel
theorem dX12_tried_83 : decode cX12_tried 83 = .ok (.iastore, 1) := by decide +kernel
theorem dX12_tried_84 : decode cX12_tried 84 = .ok (.aload_n 0, 1) := by decide +kernel
theorem dX12_tried_85 : decode cX12_tried 85 = .ok (.getfield 7, 3) := by decide +kernel
theorem dX12_tried_88 : decode cX12_tried 88 = .ok (.iload 4, 2) := by decide +kernel
theorem dX12_tried_90 : decode cX12_tried 90 = .ok (.iconst 2, 1) := by decide +kernel
theorem dX12_tried_91 : decode cX12_tried 91 = .ok (.iadd, 1) := by decide +kernel
theorem dX12_tried_92 : decode cX12_tried 92 = .ok (.iload_n 3, 1) := by decide +kernel
theorem dX12_tried_93 : decode cX12_tried 93 = .ok (.iastore, 1) := by decide +kernel
theorem dX12_tried_94 : decode cX12_tried 94 = .ok (.aload_n 0, 1) := by decide +kernel
theorem dX12_tried_95 : decode cX12_tried 95 = .ok (.getfield 7, 3) := by decide +kernel
theorem dX12_tried_98 : decode cX12_tried 98 = .ok (.bipush 10, 2) := by decide +kernel
theorem dX12_tried_100 : decode cX12_tried 100 = .ok (.dup2, 1) := by decide +kernel
theorem dX12_tried_101 : decode cX12_tried 101 = .ok (.iaload, 1) := by decide +kernel
theorem dX12_tried_102 : decode cX12_tried 102 = .ok (.iconst 1, 1) := by decide +kernel
theorem dX12_tried_103 : decode cX12_tried 103 = .ok (.iadd, 1) := by decide +kernel
theorem dX12_tried_104 : decode cX12_tried 104 = .ok (.iastore, 1) := by decide +kernel
theorem dX12_tried_105 : decode cX12_tried 105 = .ok (.aload_n 0, 1) := by decide +kernel
theorem dX12_tried_106 : decode cX12_tried 106 = .ok (.getfield 7, 3) := by decide +kernel
theorem dX12_tried_109 : decode cX12_tried 109 = .ok (.bipush 10, 2) := by decide +kernel
theorem dX12_tried_111 : decode cX12_tried 111 = .ok (.iaload, 1) := by decide +kernel
theorem dX12_tried_112 : decode cX12_tried 112 = .ok (.ireturn, 1) := by decide +kernel
theorem dX12_taught_0 : decode cX12_taught 0 = .ok (.iconst 0, 1) := by decide +kernel
theorem dX12_taught_1 : decode cX12_taught 1 = .ok (.istore_n 1, 1) := by decide +kernel
theorem dX12_taught_2 : decode cX12_taught 2 = .ok (.iconst 0, 1) := by decide +kernel
theorem dX12_taught_3 : decode cX12_taught 3 = .ok (.istore_n 2, 1) := by decide +kernel
theorem dX12_taught_4 : decode cX12_taught 4 = .ok (.iload_n 2, 1) := by decide +kernel
theorem dX12_taught_5 : decode cX12_taught 5 = .ok (.aload_n 0, 1) := by decide +kernel
theorem dX12_taught_6 : decode cX12_taught 6 = .ok (.getfield 7, 3) := by decide +kernel
theorem dX12_taught_9 : decode cX12_taught 9 = .ok (.bipush 6, 2) := by decide +kernel
theorem dX12_taught_11 : decode cX12_taught 11 = .ok (.iaload, 1) := by decide +kernel
theorem dX12_taught_12 : decode cX12_taught 12 = .ok (.if_icmp .ge 27, 3) := by decide +kernel
theorem dX12_taught_15 : decode cX12_taught 15 = .ok (.iload_n 1, 1) := by decide +kernel
theorem dX12_taught_16 : decode cX12_taught 16 = .ok (.aload_n 0, 1) := by decide +kernel
theorem dX12_taught_17 : decode cX12_taught 17 = .ok (.iload_n 2, 1) := by decide +kernel
theorem dX12_taught_18 : decode cX12_taught 18 = .ok (.invokevirtual 332, 3) := by decide +kernel
theorem dX12_taught_21 : decode cX12_taught 21 = .ok (.ifCond .eq 9, 3) := by decide +kernel
theorem dX12_taught_24 : decode cX12_taught 24 = .ok (.iconst 1, 1) := by decide +kernel
theorem dX12_taught_25 : decode cX12_taught 25 = .ok (.iload_n 2, 1) := by decide +kernel
theorem dX12_taught_26 : decode cX12_taught 26 = .ok (.ishl, 1) := by decide +kernel
theorem dX12_taught_27 : decode cX12_taught 27 = .ok (.goto 4, 3) := by decide +kernel
theorem dX12_taught_30 : decode cX12_taught 30 = .ok (.iconst 0, 1) := by decide +kernel
theorem dX12_taught_31 : decode cX12_taught 31 = .ok (.ior, 1) := by decide +kernel
theorem dX12_taught_32 : decode cX12_taught 32 = .ok (.istore_n 1, 1) := by decide +kernel
theorem dX12_taught_33 : decode cX12_taught 33 = .ok (.iinc 2 1, 3) := by decide +kernel
theorem dX12_taught_36 : decode cX12_taught 36 = .ok (.goto (-32), 3) := by decide +kernel
theorem dX12_taught_39 : decode cX12_taught 39 = .ok (.iload_n 1, 1) := by decide +kernel
theorem dX12_taught_40 : decode cX12_taught 40 = .ok (.ireturn, 1) := by decide +kernel
theorem dX12_coach_0 : decode cX12_coach 0 = .ok (.iload_n 1, 1) := by decide +kernel
theorem dX12_coach_1 : decode cX12_coach 1 = .ok (.iconst 0, 1) := by decide +kernel
theorem dX12_coach_2 : decode cX12_coach 2 = .ok (.iconst 2, 1) := by decide +kernel
theorem dX12_coach_3 : decode cX12_coach 3 = .ok (.invokestatic 71, 3) := by decide +kernel
theorem dX12_coach_6 : decode cX12_coach 6 = .ok (.ifCond .eq 15, 3) := by decide +kernel
theorem dX12_coach_9 : decode cX12_coach 9 = .ok (.aload_n 0, 1) := by decide +kernel
theorem dX12_coach_10 : decode cX12_coach 10 = .ok (.getfield 7, 3) := by decide +kernel
theorem dX12_coach_13 : decode cX12_coach 13 = .ok (.bipush 12, 2) := by decide +kernel
theorem dX12_coach_15 : decode cX12_coach 15 = .ok (.iload_n 1, 1) := by decide +kernel
theorem dX12_coach_16 : decode cX12_coach 16 = .ok (.iadd, 1) := by decide +kernel
theorem dX12_coach_17 : decode cX12_coach 17 = .ok (.iaload, 1) := by decide +kernel
theorem dX12_coach_18 : decode cX12_coach 18 = .ok (.goto 23, 3) := by decide +kernel
theorem dX12_coach_21 : decode cX12_coach 21 = .ok (.iload_n 1, 1) := by decide +kernel
theorem dX12_coach_22 : decode cX12_coach 22 = .ok (.iconst 3, 1) := by decide +kernel
theorem dX12_coach_23 : decode cX12_coach 23 = .ok (.if_icmp .ne 17, 3) := by decide +kernel
theorem dX12_coach_26 : decode cX12_coach 26 = .ok (.aload_n 0, 1) := by decide +kernel
theorem dX12_coach_27 : decode cX12_coach 27 = .ok (.aload_n 0, 1) := by decide +kernel
theorem dX12_coach_28 : decode cX12_coach 28 = .ok (.getfield 7, 3) := by decide +kernel
theorem dX12_coach_31 : decode cX12_coach 31 = .ok (.bipush 12, 2) := by decide +kernel
theorem dX12_coach_33 : decode cX12_coach 33 = .ok (.iaload, 1) := by decide +kernel
theorem dX12_coach_34 : decode cX12_coach 34 = .ok (.invokevirtual 299, 3) := by decide +kernel
theorem dX12_coach_37 : decode cX12_coach 37 = .ok (.goto 4, 3) := by decide +kernel
theorem dX12_coach_40 : decode cX12_coach 40 = .ok (.iconst (-1), 1) := by decide +kernel
theorem dX12_coach_41 : decode cX12_coach 41 = .ok (.ireturn, 1) := by decide +kernel
theorem dX12_about_0 : decode cX12_about 0 = .ok (.iload_n 1, 1) := by decide +kernel
theorem dX12_about_1 : decode cX12_about 1 = .ok (.bipush 20, 2) := by decide +kernel
theorem dX12_about_3 : decode cX12_about 3 = .ok (.bipush 19, 2) := by decide +kernel
theorem dX12_about_5 : decode cX12_about 5 = .ok (.aload_n 0, 1) := by decide +kernel
theorem dX12_about_6 : decode cX12_about 6 = .ok (.getfield 7, 3) := by decide +kernel
theorem dX12_about_9 : decode cX12_about 9 = .ok (.iconst 2, 1) := by decide +kernel
theorem dX12_about_10 : decode cX12_about 10 = .ok (.iaload, 1) := by decide +kernel
theorem dX12_about_11 : decode cX12_about 11 = .ok (.iadd, 1) := by decide +kernel
theorem dX12_about_12 : decode cX12_about 12 = .ok (.invokestatic 71, 3) := by decide +kernel
theorem dX12_about_15 : decode cX12_about 15 = .ok (.ifCond .eq 16, 3) := by decide +kernel
theorem dX12_about_18 : decode cX12_about 18 = .ok (.aload_n 0, 1) := by decide +kernel
theorem dX12_about_19 : decode cX12_about 19 = .ok (.getfield 7, 3) := by decide +kernel
theorem dX12_about_22 : decode cX12_about 22 = .ok (.bipush 24, 2) := by decide +kernel
theorem dX12_about_24 : decode cX12_about 24 = .ok (.iload_n 1, 1) := by decide +kernel
theorem dX12_about_25 : decode cX12_about 25 = .ok (.iadd, 1) := by decide +kernel
theorem dX12_about_26 : decode cX12_about 26 = .ok (.bipush 20, 2) := by decide +kernel
theorem dX12_about_28 : decode cX12_about 28 = .ok (.isub, 1) := by decide +kernel
theorem dX12_about_29 : decode cX12_about 29 = .ok (.iaload, 1) := by decide +kernel
theorem dX12_about_30 : decode cX12_about 30 = .ok (.ireturn, 1) := by decide +kernel
theorem dX12_about_31 : decode cX12_about 31 = .ok (.iload_n 1, 1) := by decide +kernel
theorem dX12_about_32 : decode cX12_about 32 = .ok (.bipush 100, 2) := by decide +kernel
theorem dX12_about_34 : decode cX12_about 34 = .ok (.sipush 399, 3) := by decide +kernel
theorem dX12_about_37 : decode cX12_about 37 = .ok (.invokestatic 71, 3) := by decide +kernel
theorem dX12_about_40 : decode cX12_about 40 = .ok (.ifCond .eq 16, 3) := by decide +kernel
theorem dX12_about_43 : decode cX12_about 43 = .ok (.aload_n 0, 1) := by decide +kernel
theorem dX12_about_44 : decode cX12_about 44 = .ok (.getfield 7, 3) := by decide +kernel
theorem dX12_about_47 : decode cX12_about 47 = .ok (.bipush 82, 2) := by decide +kernel
theorem dX12_about_49 : decode cX12_about 49 = .ok (.iload_n 1, 1) := by decide +kernel
theorem dX12_about_50 : decode cX12_about 50 = .ok (.iadd, 1) := by decide +kernel
theorem dX12_about_51 : decode cX12_about 51 = .ok (.bipush 100, 2) := by decide +kernel
theorem dX12_about_53 : decode cX12_about 53 = .ok (.isub, 1) := by decide +kernel
theorem dX12_about_54 : decode cX12_about 54 = .ok (.iaload, 1) := by decide +kernel
theorem dX12_about_55 : decode cX12_about 55 = .ok (.ireturn, 1) := by decide +kernel
theorem dX12_about_56 : decode cX12_about 56 = .ok (.iload_n 1, 1) := by decide +kernel
theorem dX12_about_57 : decode cX12_about 57 = .ok (.iconst 0, 1) := by decide +kernel
theorem dX12_about_58 : decode cX12_about 58 = .ok (.bipush 10, 2) := by decide +kernel
theorem dX12_about_60 : decode cX12_about 60 = .ok (.invokestatic 71, 3) := by decide +kernel
theorem dX12_about_63 : decode cX12_about 63 = .ok (.ifCond .eq 12, 3) := by decide +kernel
theorem dX12_about_66 : decode cX12_about 66 = .ok (.aload_n 0, 1) := by decide +kernel
theorem dX12_about_67 : decode cX12_about 67 = .ok (.getfield 7, 3) := by decide +kernel
theorem dX12_about_70 : decode cX12_about 70 = .ok (.iload_n 1, 1) := by decide +kernel
theorem dX12_about_71 : decode cX12_about 71 = .ok (.iaload, 1) := by decide +kernel
theorem dX12_about_72 : decode cX12_about 72 = .ok (.goto 18, 3) := by decide +kernel
theorem dX12_about_75 : decode cX12_about 75 = .ok (.iload_n 1, 1) := by decide +kernel
theorem dX12_about_76 : decode cX12_about 76 = .ok (.bipush 11, 2) := by decide +kernel
theorem dX12_about_78 : decode cX12_about 78 = .ok (.if_icmp .ne 10, 3) := by decide +kernel
theorem dX12_about_81 : decode cX12_about 81 = .ok (.aload_n 0, 1) := by decide +kernel
theorem dX12_about_82 : decode cX12_about 82 = .ok (.getfield 79, 3) := by decide +kernel
theorem dX12_about_85 : decode cX12_about 85 = .ok (.goto 5, 3) := by decide +kernel
theorem dX12_about_88 : decode cX12_about 88 = .ok (.bipush (-2), 2) := by decide +kernel
theorem dX12_about_90 : decode cX12_about 90 = .ok (.ireturn, 1) := by decide +kernel
theorem dX12_four_0 : decode cX12_four 0 = .ok (.bipush 24, 2) := by decide +kernel
theorem dX12_four_2 : decode cX12_four 2 = .ok (.istore_n 2, 1) := by decide +kernel
theorem dX12_four_3 : decode cX12_four 3 = .ok (.iload_n 2, 1) := by decide +kernel
theorem dX12_four_4 : decode cX12_four 4 = .ok (.ifCond .lt 35, 3) := by decide +kernel
theorem dX12_four_7 : decode cX12_four 7 = .ok (.aload_n 0, 1) := by decide +kernel
theorem dX12_four_8 : decode cX12_four 8 = .ok (.getfield 19, 3) := by decide +kernel
theorem dX12_four_11 : decode cX12_four 11 = .ok (.aload_n 0, 1) := by decide +kernel
theorem dX12_four_12 : decode cX12_four 12 = .ok (.getfield 79, 3) := by decide +kernel
theorem dX12_four_15 : decode cX12_four 15 = .ok (.iload_n 1, 1) := by decide +kernel
theorem dX12_four_16 : decode cX12_four 16 = .ok (.iload_n 2, 1) := by decide +kernel
theorem dX12_four_17 : decode cX12_four 17 = .ok (.ishr, 1) := by decide +kernel
theorem dX12_four_18 : decode cX12_four 18 = .ok (.sipush 255, 3) := by decide +kernel
theorem dX12_four_21 : decode cX12_four 21 = .ok (.iand, 1) := by decide +kernel
theorem dX12_four_22 : decode cX12_four 22 = .ok (.iastore, 1) := by decide +kernel
theorem dX12_four_23 : decode cX12_four 23 = .ok (.aload_n 0, 1) := by decide +kernel
theorem dX12_four_24 : decode cX12_four 24 = .ok (.dup, 1) := by decide +kernel
theorem dX12_four_25 : decode cX12_four 25 = .ok (.getfield 79, 3) := by decide +kernel
theorem dX12_four_28 : decode cX12_four 28 = .ok (.iconst 1, 1) := by decide +kernel
theorem dX12_four_29 : decode cX12_four 29 = .ok (.iadd, 1) := by decide +kernel
theorem dX12_four_30 : decode cX12_four 30 = .ok (.putfield 79, 3) := by decide +kernel
theorem dX12_four_33 : decode cX12_four 33 = .ok (.iinc 2 (-8), 3) := by decide +kernel
theorem dX12_four_36 : decode cX12_four 36 = .ok (.goto (-33), 3) := by decide +kernel
theorem dX12_four_39 : decode cX12_four 39 = .ok (.return_, 1) := by decide +kernel
theorem dX12_feed_0 : decode cX12_feed 0 = .ok (.aload_n 0, 1) := by decide +kernel
theorem dX12_feed_1 : decode cX12_feed 1 = .ok (.getfield 79, 3) := by decide +kernel
theorem dX12_feed_4 : decode cX12_feed 4 = .ok (.bipush 20, 2) := by decide +kernel
theorem dX12_feed_6 : decode cX12_feed 6 = .ok (.iadd, 1) := by decide +kernel
theorem dX12_feed_7 : decode cX12_feed 7 = .ok (.sipush 300, 3) := by decide +kernel
theorem dX12_feed_10 : decode cX12_feed 10 = .ok (.if_icmp .le 5, 3) := by decide +kernel
theorem dX12_feed_13 : decode cX12_feed 13 = .ok (.iconst (-1), 1) := by decide +kernel
theorem dX12_feed_14 : decode cX12_feed 14 = .ok (.ireturn, 1) := by decide +kernel
theorem dX12_feed_15 : decode cX12_feed 15 = .ok (.aload_n 0, 1) := by decide +kernel
theorem dX12_feed_16 : decode cX12_feed 16 = .ok (.iload_n 1, 1) := by decide +kernel
theorem dX12_feed_17 : decode cX12_feed 17 = .ok (.invokevirtual 82, 3) := by decide +kernel
theorem dX12_feed_20 : decode cX12_feed 20 = .ok (.aload_n 0, 1) := by decide +kernel
theorem dX12_feed_21 : decode cX12_feed 21 = .ok (.iload_n 2, 1) := by decide +kernel
theorem dX12_feed_22 : decode cX12_feed 22 = .ok (.invokevirtual 82, 3) := by decide +kernel
theorem dX12_feed_25 : decode cX12_feed 25 = .ok (.aload_n 0, 1) := by decide +kernel
theorem dX12_feed_26 : decode cX12_feed 26 = .ok (.iload_n 3, 1) := by decide +kernel
theorem dX12_feed_27 : decode cX12_feed 27 = .ok (.invokevirtual 82, 3) := by decide +kernel
theorem dX12_feed_30 : decode cX12_feed 30 = .ok (.aload_n 0, 1) := by decide +kernel
theorem dX12_feed_31 : decode cX12_feed 31 = .ok (.iload 4, 2) := by decide +kernel
theorem dX12_feed_33 : decode cX12_feed 33 = .ok (.invokevirtual 82, 3) := by decide +kernel
theorem dX12_feed_36 : decode cX12_feed 36 = .ok (.aload_n 0, 1) := by decide +kernel
theorem dX12_feed_37 : decode cX12_feed 37 = .ok (.iload 5, 2) := by decide +kernel
theorem dX12_feed_39 : decode cX12_feed 39 = .ok (.invokevirtual 82, 3) := by decide +kernel
theorem dX12_feed_42 : decode cX12_feed 42 = .ok (.aload_n 0, 1) := by decide +kernel
theorem dX12_feed_43 : decode cX12_feed 43 = .ok (.getfield 79, 3) := by decide +kernel
theorem dX12_feed_46 : decode cX12_feed 46 = .ok (.ireturn, 1) := by decide +kernel
theorem bw_36 : Cond.selects "CountingHorsesModel" ⟨"CountingHorsesModel", "four", "(I)V"⟩ ⟨"CountingHorsesModel", "four", "(I)V"⟩ ∈ BW := bw_at 36 (by decide +kernel) (by decide +kernel)
theorem bw_37 : Cond.selects "CountingHorsesModel" ⟨"CountingHorsesModel", "readText", "()I"⟩ ⟨"CountingHorsesModel", "readText", "()I"⟩ ∈ BW := bw_at 37 (by decide +kernel) (by decide +kernel)
theorem bw_38 : Cond.selects "CountingHorsesModel" ⟨"CountingHorsesModel", "nextToken", "()V"⟩ ⟨"CountingHorsesModel", "nextToken", "()V"⟩ ∈ BW := bw_at 38 (by decide +kernel) (by decide +kernel)
theorem bw_39 : Cond.selects "CountingHorsesModel" ⟨"CountingHorsesModel", "byteAt", "(I)I"⟩ ⟨"CountingHorsesModel", "byteAt", "(I)I"⟩ ∈ BW := bw_at 39 (by decide +kernel) (by decide +kernel)
theorem bw_60 : Cond.selects "CountingHorsesModel" ⟨"CountingHorsesModel", "isHorse", "(I)Z"⟩ ⟨"CountingHorsesModel", "isHorse", "(I)Z"⟩ ∈ BW := bw_at 60 (by decide +kernel) (by decide +kernel)
theorem bw_70 : Cond.selects "CountingHorsesModel" ⟨"CountingHorsesModel", "innAt", "(I)I"⟩ ⟨"CountingHorsesModel", "innAt", "(I)I"⟩ ∈ BW := bw_at 70 (by decide +kernel) (by decide +kernel)
theorem bw_92 : Cond.initialized "CountingHorsesModel" ∈ BW := bw_at 92 (by decide +kernel) (by decide +kernel)
theorem bw_1019 : Cond.fieldLink "CountingHorsesModel" 7 "CountingHorsesModel" "a" "[I" ∈ BW := bw_at 1019 (by decide +kernel) (by decide +kernel)
theorem bw_1021 : Cond.fieldLink "CountingHorsesModel" 16 "CountingHorsesModel" "texts" "[I" ∈ BW := bw_at 1021 (by decide +kernel) (by decide +kernel)
theorem bw_1022 : Cond.fieldLink "CountingHorsesModel" 19 "CountingHorsesModel" "tape" "[I" ∈ BW := bw_at 1022 (by decide +kernel) (by decide +kernel)
theorem bw_1023 : Cond.fieldLink "CountingHorsesModel" 79 "CountingHorsesModel" "taped" "I" ∈ BW := bw_at 1023 (by decide +kernel) (by decide +kernel)
theorem bw_1024 : Cond.fieldLink "CountingHorsesModel" 22 "CountingHorsesModel" "fault" "I" ∈ BW := bw_at 1024 (by decide +kernel) (by decide +kernel)
theorem bw_1025 : Cond.fieldLink "CountingHorsesModel" 26 "CountingHorsesModel" "faultPlace" "I" ∈ BW := bw_at 1025 (by decide +kernel) (by decide +kernel)
theorem bw_1026 : Cond.fieldLink "CountingHorsesModel" 86 "CountingHorsesModel" "at" "I" ∈ BW := bw_at 1026 (by decide +kernel) (by decide +kernel)
theorem bw_1027 : Cond.fieldLink "CountingHorsesModel" 93 "CountingHorsesModel" "place" "I" ∈ BW := bw_at 1027 (by decide +kernel) (by decide +kernel)
theorem bw_1028 : Cond.fieldLink "CountingHorsesModel" 96 "CountingHorsesModel" "token" "I" ∈ BW := bw_at 1028 (by decide +kernel) (by decide +kernel)
theorem bw_1031 : Cond.fieldLink "CountingHorsesModel" 121 "CountingHorsesModel" "text0" "I" ∈ BW := bw_at 1031 (by decide +kernel) (by decide +kernel)
theorem bw_1032 : Cond.fieldLink "CountingHorsesModel" 124 "CountingHorsesModel" "written" "I" ∈ BW := bw_at 1032 (by decide +kernel) (by decide +kernel)
theorem bw_1035 : Cond.fieldLink "CountingHorsesModel" 137 "CountingHorsesModel" "opens" "I" ∈ BW := bw_at 1035 (by decide +kernel) (by decide +kernel)
theorem bw_1038 : Cond.fieldLink "CountingHorsesModel" 215 "CountingHorsesModel" "once" "I" ∈ BW := bw_at 1038 (by decide +kernel) (by decide +kernel)
theorem bw_1132 : Cond.methodLink "CountingHorsesModel" 75 ⟨"CountingHorsesModel", "isPlace", "(I)Z"⟩ ∈ BW := bw_at 1132 (by decide +kernel) (by decide +kernel)
theorem bw_1133 : Cond.static ⟨"CountingHorsesModel", "isPlace", "(I)Z"⟩ ∈ BW := bw_at 1133 (by decide +kernel) (by decide +kernel)
theorem bw_1134 : Cond.code ⟨"CountingHorsesModel", "isPlace", "(I)Z"⟩ prog_14_method_8_code 1 (some .boolean) ∈ BW := bw_at 1134 (by decide +kernel) (by decide +kernel)
theorem bw_1135 : Cond.methodLink "CountingHorsesModel" 71 ⟨"CountingHorsesModel", "isIn", "(III)Z"⟩ ∈ BW := bw_at 1135 (by decide +kernel) (by decide +kernel)
theorem bw_1136 : Cond.static ⟨"CountingHorsesModel", "isIn", "(III)Z"⟩ ∈ BW := bw_at 1136 (by decide +kernel) (by decide +kernel)
theorem bw_1137 : Cond.code ⟨"CountingHorsesModel", "isIn", "(III)Z"⟩ prog_14_method_3_code 3 (some .boolean) ∈ BW := bw_at 1137 (by decide +kernel) (by decide +kernel)
theorem bw_1158 : Cond.methodLink "CountingHorsesModel" 82 ⟨"CountingHorsesModel", "four", "(I)V"⟩ ∈ BW := bw_at 1158 (by decide +kernel) (by decide +kernel)
theorem bw_1160 : Cond.instanceMethod ⟨"CountingHorsesModel", "four", "(I)V"⟩ ∈ BW := bw_at 1160 (by decide +kernel) (by decide +kernel)
theorem bw_1161 : Cond.code ⟨"CountingHorsesModel", "four", "(I)V"⟩ prog_14_method_14_code 3 none ∈ BW := bw_at 1161 (by decide +kernel) (by decide +kernel)
theorem bw_1170 : Cond.methodLink "CountingHorsesModel" 228 ⟨"CountingHorsesModel", "readText", "()I"⟩ ∈ BW := bw_at 1170 (by decide +kernel) (by decide +kernel)
theorem bw_1172 : Cond.instanceMethod ⟨"CountingHorsesModel", "readText", "()I"⟩ ∈ BW := bw_at 1172 (by decide +kernel) (by decide +kernel)
theorem bw_1173 : Cond.code ⟨"CountingHorsesModel", "readText", "()I"⟩ prog_14_method_46_code 2 (some .int) ∈ BW := bw_at 1173 (by decide +kernel) (by decide +kernel)
theorem bw_1174 : Cond.methodLink "CountingHorsesModel" 158 ⟨"CountingHorsesModel", "nextToken", "()V"⟩ ∈ BW := bw_at 1174 (by decide +kernel) (by decide +kernel)
theorem bw_1176 : Cond.instanceMethod ⟨"CountingHorsesModel", "nextToken", "()V"⟩ ∈ BW := bw_at 1176 (by decide +kernel) (by decide +kernel)
theorem bw_1177 : Cond.code ⟨"CountingHorsesModel", "nextToken", "()V"⟩ prog_14_method_20_code 3 none ∈ BW := bw_at 1177 (by decide +kernel) (by decide +kernel)
theorem bw_1178 : Cond.methodLink "CountingHorsesModel" 89 ⟨"CountingHorsesModel", "byteAt", "(I)I"⟩ ∈ BW := bw_at 1178 (by decide +kernel) (by decide +kernel)
theorem bw_1180 : Cond.instanceMethod ⟨"CountingHorsesModel", "byteAt", "(I)I"⟩ ∈ BW := bw_at 1180 (by decide +kernel) (by decide +kernel)
theorem bw_1181 : Cond.code ⟨"CountingHorsesModel", "byteAt", "(I)I"⟩ prog_14_method_17_code 2 (some .int) ∈ BW := bw_at 1181 (by decide +kernel) (by decide +kernel)
theorem bw_1298 : Cond.methodLink "CountingHorsesModel" 284 ⟨"CountingHorsesModel", "isHorse", "(I)Z"⟩ ∈ BW := bw_at 1298 (by decide +kernel) (by decide +kernel)
theorem bw_1300 : Cond.instanceMethod ⟨"CountingHorsesModel", "isHorse", "(I)Z"⟩ ∈ BW := bw_at 1300 (by decide +kernel) (by decide +kernel)
theorem bw_1301 : Cond.code ⟨"CountingHorsesModel", "isHorse", "(I)Z"⟩ prog_14_method_7_code 2 (some .boolean) ∈ BW := bw_at 1301 (by decide +kernel) (by decide +kernel)
theorem bw_1382 : Cond.methodLink "CountingHorsesModel" 299 ⟨"CountingHorsesModel", "innAt", "(I)I"⟩ ∈ BW := bw_at 1382 (by decide +kernel) (by decide +kernel)
theorem bw_1384 : Cond.instanceMethod ⟨"CountingHorsesModel", "innAt", "(I)I"⟩ ∈ BW := bw_at 1384 (by decide +kernel) (by decide +kernel)
theorem bw_1385 : Cond.code ⟨"CountingHorsesModel", "innAt", "(I)I"⟩ prog_14_method_70_code 3 (some .int) ∈ BW := bw_at 1385 (by decide +kernel) (by decide +kernel)
set_option maxHeartbeats 4000000 in
set_option maxRecDepth 100000 in
theorem c_X12_isPlace (l : Launch) (D : va_G) (cI cM cT : ClassId) (a : Int32) : Ci l D (ty3 cI cM cT) yX12_isPlace cX12_isPlace 1 (some .boolean) 1 0 0 [.int a] ([]) (fun r u => r = (if 0 ≤ a ∧ a ≤ 299 then 1 else 0) ∧ u = []) := by
  refine Ci.of (by decide +kernel) (Nat.le_of_ble_eq_true rfl) ?_
  intro p e s m below meth c A ls Z hin hP hD hl
  have hx := Z.1
  have hb := Z.2.1
  have hS : va_S A s.heap s.heap [] := va_S.rf
  have hl : lv_has ls 1 [(0, .int a)] := hl
  skip
  refine lv_iload_n hx hb dX12_isPlace_0 rfl (lv_at hl 0 rfl) ?_
  refine lv_iconst (v := 0) hx hb dX12_isPlace_1 (by decide) ?_
  refine lv_sipush (v := 299) hx hb dX12_isPlace_2 (by decide) ?_
  have hPc := hP.sub2 (wc := []) [] rfl
  have hDc := hD.sub (ws' := []) [] (by decide) rfl
  refine raw_Si (nA := 3) (As := [.int a, .int 0, .int 299]) (rest := []) Z hl.1 (c_X12_isIn l D cI cM cT a 0 299) (bw_S bw_1135 bw_1136 bw_92 bw_1137) ⟨by decide +kernel, by decide +kernel, by decide +kernel⟩ rfl ⟨Nat.le_of_ble_eq_true rfl, Nat.le_of_ble_eq_true rfl⟩ hPc hDc hS rfl (Nat.le_of_ble_eq_true rfl) dX12_isPlace_5 ⟨Nat.le_of_ble_eq_true rfl, Nat.le_of_ble_eq_true rfl⟩ (fun r2 u1 H1 locs1 h3 hku1 hP1 hD1 hS1 => ?_)
  obtain ⟨hrh3, rfl⟩ := h3
  obtain ⟨hP, hD⟩ := z_join (wr := []) Z hS hP hD [] [] rfl (by decide) rfl (by decide) (by decide) hku1 hP1 hD1
  have hS := hS1
  clear hS1
  generalize H1 = H at hP hS ⊢
  generalize locs1 = locs at hS ⊢
  have hP : va_P D vwCl ([]) H := hP
  have hD : va_D A ([]) := hD
  by_cases c4 : 0 ≤ a ∧ a ≤ 299
  · obtain rfl : r2 = 1 := by rw [hrh3, if_pos c4]
    exact z_ret Z rfl hP hD hS (⟨(if_pos (by simp only [zlt, zle, zeq, zl_0, zl_1, zl_2, zl_3, zl_4, zl_5, zl_6, zl_7, zl_8, zl_9, zl_10, zl_11, zl_12, zl_13, zl_19, zl_20, zl_30, zl_64, zl_99, zl_100, zl_299, zl_300, zl_399, zl_999, zl_9999, zl_m1, zl_m2, zl_m3, zl_32, zl_280] at c4 ⊢; omega)).symm, rfl⟩) dX12_isPlace_8 (Nat.le_of_ble_eq_true rfl) (Nat.le_of_ble_eq_true rfl)
  · obtain rfl : r2 = 0 := by rw [hrh3, if_neg c4]
    exact z_ret Z rfl hP hD hS (⟨(if_neg (by simp only [zlt, zle, zeq, zl_0, zl_1, zl_2, zl_3, zl_4, zl_5, zl_6, zl_7, zl_8, zl_9, zl_10, zl_11, zl_12, zl_13, zl_19, zl_20, zl_30, zl_64, zl_99, zl_100, zl_299, zl_300, zl_399, zl_999, zl_9999, zl_m1, zl_m2, zl_m3, zl_32, zl_280] at c4 ⊢; omega)).symm, rfl⟩) dX12_isPlace_8 (Nat.le_of_ble_eq_true rfl) (Nat.le_of_ble_eq_true rfl)
set_option maxHeartbeats 4000000 in
set_option maxRecDepth 100000 in
theorem c_X12_isHorse (l : Launch) (D : va_G) (cI cM cT : ClassId) (q : Nat) (aA : Nat) (aI : Nat) (aT : Nat) (aP : Nat) (pI : Nat) (nM : Nat) (vA : Nat) (tR : Nat) (rW : Nat) (sP : Nat) (oA : Nat) (bS : Nat) (aS : Nat) (aO : Nat) (cS : Nat) (wY : Nat) (p0 : Int32) : Ci l D (ty3 cI cM cT) yX12_isHorse cX12_isHorse 2 (some .boolean) 1 0 0 [.ref q, .int p0] ([(q, .inr (12, [.ref aA, .ref aI, .ref aT, .ref aP, .int 0, .int (-1), .int (-1), .int 0, .int 0, .int 0, .int 0, .long 0, .int 0, .int 0, .int 0, .int 0, .ref pI, .int 0, .int 0, .int 0, .int 0, .int 0, .ref nM, .ref vA, .ref tR, .int 0, .int 0, .int 0, .ref rW, .ref sP, .ref oA, .ref bS, .ref aS, .ref aO, .ref cS, .ref wY])), (aA, .inl (cI, 862, .inl af0))]) (fun r u => r = 0 ∧ u = [(q, .inr (12, [.ref aA, .ref aI, .ref aT, .ref aP, .int 0, .int (-1), .int (-1), .int 0, .int 0, .int 0, .int 0, .long 0, .int 0, .int 0, .int 0, .int 0, .ref pI, .int 0, .int 0, .int 0, .int 0, .int 0, .ref nM, .ref vA, .ref tR, .int 0, .int 0, .int 0, .ref rW, .ref sP, .ref oA, .ref bS, .ref aS, .ref aO, .ref cS, .ref wY])), (aA, .inl (cI, 862, .inl af0))]) := by
  refine Ci.of (by decide +kernel) (Nat.le_of_ble_eq_true rfl) ?_
  intro p e s m below meth c A ls Z hin hP hD hl
  have hx := Z.1
  have hb := Z.2.1
  have hS : va_S A s.heap s.heap [] := va_S.rf
  have hl : lv_has ls 2 [(0, .ref q), (1, .int p0)] := hl
  skip
  refine lv_iload_n hx hb dX12_isHorse_0 rfl (lv_at hl 1 rfl) ?_
  refine lv_iconst (v := 0) hx hb dX12_isHorse_1 (by decide) ?_
  refine lv_aload_n hx hb dX12_isHorse_2 rfl (lv_at hl 0 rfl) ?_
  refine z_get Z i_X12 hP 0 rfl rfl 0 (by decide) bw_1019 rfl dX12_isHorse_3 ?_
  refine lv_iconst (v := 0) hx hb dX12_isHorse_6 (by decide) ?_
  refine z_iald Z hP 1 0 rfl rfl (vin (by decide)) dX12_isHorse_7 ?_
  refine z_topi (y := 0) rfl ?_
  refine lv_iconst (v := 1) hx hb dX12_isHorse_8 (by decide) ?_
  refine lv_isub hx hb dX12_isHorse_9 ?_
  refine z_topi (y := (-1)) (by decide) ?_
  have hPc := hP.sub2 (wc := []) [] rfl
  have hDc := hD.sub (ws' := []) [] (by decide) rfl
  refine raw_Si (nA := 3) (As := [.int p0, .int 0, .int (-1)]) (rest := []) Z hl.1 (c_X12_isIn l D cI cM cT p0 0 (-1)) (bw_S bw_1135 bw_1136 bw_92 bw_1137) ⟨by decide +kernel, by decide +kernel, by decide +kernel⟩ rfl ⟨Nat.le_of_ble_eq_true rfl, Nat.le_of_ble_eq_true rfl⟩ hPc hDc hS rfl (Nat.le_of_ble_eq_true rfl) dX12_isHorse_10 ⟨Nat.le_of_ble_eq_true rfl, Nat.le_of_ble_eq_true rfl⟩ (fun r2 u1 H1 locs1 h3 hku1 hP1 hD1 hS1 => ?_)
  obtain ⟨hrh3, rfl⟩ := h3
  obtain ⟨hP, hD⟩ := z_join (wr := [(q, .inr (12, [.ref aA, .ref aI, .ref aT, .ref aP, .int 0, .int (-1), .int (-1), .int 0, .int 0, .int 0, .int 0, .long 0, .int 0, .int 0, .int 0, .int 0, .ref pI, .int 0, .int 0, .int 0, .int 0, .int 0, .ref nM, .ref vA, .ref tR, .int 0, .int 0, .int 0, .ref rW, .ref sP, .ref oA, .ref bS, .ref aS, .ref aO, .ref cS, .ref wY])), (aA, .inl (cI, 862, .inl af0))]) Z hS hP hD [] [0, 1] rfl (by decide) rfl (by decide) (by decide) hku1 hP1 hD1
  have hS := hS1
  clear hS1
  generalize H1 = H at hP hS ⊢
  generalize locs1 = locs at hS ⊢
  have hP : va_P D vwCl ([(q, .inr (12, [.ref aA, .ref aI, .ref aT, .ref aP, .int 0, .int (-1), .int (-1), .int 0, .int 0, .int 0, .int 0, .long 0, .int 0, .int 0, .int 0, .int 0, .ref pI, .int 0, .int 0, .int 0, .int 0, .int 0, .ref nM, .ref vA, .ref tR, .int 0, .int 0, .int 0, .ref rW, .ref sP, .ref oA, .ref bS, .ref aS, .ref aO, .ref cS, .ref wY])), (aA, .inl (cI, 862, .inl af0))]) H := hP
  have hD : va_D A ([(q, .inr (12, [.ref aA, .ref aI, .ref aT, .ref aP, .int 0, .int (-1), .int (-1), .int 0, .int 0, .int 0, .int 0, .long 0, .int 0, .int 0, .int 0, .int 0, .ref pI, .int 0, .int 0, .int 0, .int 0, .int 0, .ref nM, .ref vA, .ref tR, .int 0, .int 0, .int 0, .ref rW, .ref sP, .ref oA, .ref bS, .ref aS, .ref aO, .ref cS, .ref wY])), (aA, .inl (cI, 862, .inl af0))]) := hD
  obtain rfl : r2 = 0 := by rw [hrh3, if_neg (by simp only [zlt, zle, zeq, zl_0, zl_1, zl_2, zl_3, zl_4, zl_5, zl_6, zl_7, zl_8, zl_9, zl_10, zl_11, zl_12, zl_13, zl_19, zl_20, zl_30, zl_64, zl_99, zl_100, zl_299, zl_300, zl_399, zl_999, zl_9999, zl_m1, zl_m2, zl_m3, zl_32, zl_280]; omega)]
  exact z_ret Z rfl hP hD hS (⟨rfl, rfl⟩) dX12_isHorse_13 (Nat.le_of_ble_eq_true rfl) (Nat.le_of_ble_eq_true rfl)
set_option maxHeartbeats 4000000 in
set_option maxRecDepth 100000 in
theorem c_X12_innAt (l : Launch) (D : va_G) (cI cM cT : ClassId) (q : Nat) (aA : Nat) (aI : Nat) (aT : Nat) (aP : Nat) (pI : Nat) (nM : Nat) (vA : Nat) (tR : Nat) (rW : Nat) (sP : Nat) (oA : Nat) (bS : Nat) (aS : Nat) (aO : Nat) (cS : Nat) (wY : Nat) (p0 : Int32) : Ci l D (ty3 cI cM cT) yX12_innAt cX12_innAt 3 (some .int) 0 0 0 [.ref q, .int p0] ([(q, .inr (12, [.ref aA, .ref aI, .ref aT, .ref aP, .int 0, .int (-1), .int (-1), .int 0, .int 0, .int 0, .int 0, .long 0, .int 0, .int 0, .int 0, .int 0, .ref pI, .int 0, .int 0, .int 0, .int 0, .int 0, .ref nM, .ref vA, .ref tR, .int 0, .int 0, .int 0, .ref rW, .ref sP, .ref oA, .ref bS, .ref aS, .ref aO, .ref cS, .ref wY])), (aA, .inl (cI, 862, .inl af0))]) (fun r u => r = (-1) ∧ u = [(q, .inr (12, [.ref aA, .ref aI, .ref aT, .ref aP, .int 0, .int (-1), .int (-1), .int 0, .int 0, .int 0, .int 0, .long 0, .int 0, .int 0, .int 0, .int 0, .ref pI, .int 0, .int 0, .int 0, .int 0, .int 0, .ref nM, .ref vA, .ref tR, .int 0, .int 0, .int 0, .ref rW, .ref sP, .ref oA, .ref bS, .ref aS, .ref aO, .ref cS, .ref wY])), (aA, .inl (cI, 862, .inl af0))]) := by
  refine Ci.of (by decide +kernel) (Nat.le_of_ble_eq_true rfl) ?_
  intro p e s m below meth c A ls Z hin hP hD hl
  have hx := Z.1
  have hb := Z.2.1
  have hS : va_S A s.heap s.heap [] := va_S.rf
  have hl : lv_has ls 3 [(0, .ref q), (1, .int p0)] := hl
  skip
  refine lv_iconst (v := 0) hx hb dX12_innAt_0 (by decide) ?_
  refine lv_istore_n (lv' := [(2, .int 0), (0, .ref q), (1, .int p0)]) hx hb dX12_innAt_1 rfl hl (by decide) rfl (fun ls hl => ?_)
  refine lv_iload_n hx hb dX12_innAt_2 rfl (lv_at hl 0 rfl) ?_
  refine lv_aload_n hx hb dX12_innAt_3 rfl (lv_at hl 1 rfl) ?_
  refine z_get Z i_X12 hP 0 rfl rfl 0 (by decide) bw_1019 rfl dX12_innAt_4 ?_
  refine lv_iconst (v := 2) hx hb dX12_innAt_7 (by decide) ?_
  refine z_iald Z hP 1 0 rfl rfl (vin (by decide)) dX12_innAt_8 ?_
  refine z_topi (y := 0) rfl ?_
  refine lv_icmp_ge (tgt := 33) hx hb dX12_innAt_9 (by decide) (fun c1 => ?_) (fun h => absurd (by decide) h)
  refine lv_iconst (v := (-1)) hx hb dX12_innAt_33 (by decide) ?_
  exact z_ret Z rfl hP hD hS (⟨rfl, rfl⟩) dX12_innAt_34 (Nat.le_of_ble_eq_true rfl) (Nat.le_of_ble_eq_true rfl)
set_option maxHeartbeats 4000000 in
set_option maxRecDepth 100000 in
theorem c_X12_byteAt (l : Launch) (D : va_G) (cI cM cT : ClassId) (q : Nat) (aA : Nat) (aI : Nat) (aT : Nat) (aP : Nat) (pI : Nat) (nM : Nat) (vA : Nat) (tR : Nat) (rW : Nat) (sP : Nat) (oA : Nat) (bS : Nat) (aS : Nat) (aO : Nat) (cS : Nat) (wY : Nat) : Ci l D (ty3 cI cM cT) yX12_byteAt cX12_byteAt 2 (some .int) 0 0 0 [.ref q, .int 0] ([(q, .inr (12, [.ref aA, .ref aI, .ref aT, .ref aP, .int 0, .int (-1), .int (-1), .int 0, .int 0, .int 0, .int 0, .long 0, .int 0, .int 0, .int 0, .int 0, .ref pI, .int 0, .int 0, .int 0, .int 0, .int 0, .ref nM, .ref vA, .ref tR, .int 0, .int 0, .int 0, .ref rW, .ref sP, .ref oA, .ref bS, .ref aS, .ref aO, .ref cS, .ref wY]))]) (fun r u => r = (-1) ∧ u = [(q, .inr (12, [.ref aA, .ref aI, .ref aT, .ref aP, .int 0, .int (-1), .int (-1), .int 0, .int 0, .int 0, .int 0, .long 0, .int 0, .int 0, .int 0, .int 0, .ref pI, .int 0, .int 0, .int 0, .int 0, .int 0, .ref nM, .ref vA, .ref tR, .int 0, .int 0, .int 0, .ref rW, .ref sP, .ref oA, .ref bS, .ref aS, .ref aO, .ref cS, .ref wY]))]) := by
  refine Ci.of (by decide +kernel) (Nat.le_of_ble_eq_true rfl) ?_
  intro p e s m below meth c A ls Z hin hP hD hl
  have hx := Z.1
  have hb := Z.2.1
  have hS : va_S A s.heap s.heap [] := va_S.rf
  have hl : lv_has ls 2 [(0, .ref q), (1, .int 0)] := hl
  skip
  refine lv_iload_n hx hb dX12_byteAt_0 rfl (lv_at hl 1 rfl) ?_
  refine lv_aload_n hx hb dX12_byteAt_1 rfl (lv_at hl 0 rfl) ?_
  refine z_get Z i_X12 hP 0 rfl rfl 4 (by decide) bw_1023 rfl dX12_byteAt_2 ?_
  refine lv_icmp_ge (tgt := 17) hx hb dX12_byteAt_5 (by decide) (fun c1 => ?_) (fun h => absurd (by decide) h)
  refine lv_iconst (v := (-1)) hx hb dX12_byteAt_17 (by decide) ?_
  exact z_ret Z rfl hP hD hS (⟨rfl, rfl⟩) dX12_byteAt_18 (Nat.le_of_ble_eq_true rfl) (Nat.le_of_ble_eq_true rfl)
set_option maxHeartbeats 4000000 in
set_option maxRecDepth 100000 in
theorem c_X12_nextToken (l : Launch) (D : va_G) (cI cM cT : ClassId) (q : Nat) (aA : Nat) (aI : Nat) (aT : Nat) (aP : Nat) (pI : Nat) (nM : Nat) (vA : Nat) (tR : Nat) (rW : Nat) (sP : Nat) (oA : Nat) (bS : Nat) (aS : Nat) (aO : Nat) (cS : Nat) (wY : Nat) : Cv l D (ty3 cI cM cT) yX12_nextToken cX12_nextToken 3 1 0 0 [.ref q] ([(q, .inr (12, [.ref aA, .ref aI, .ref aT, .ref aP, .int 0, .int (-1), .int (-1), .int 0, .int 0, .int 0, .int 0, .long 0, .int 0, .int 0, .int 0, .int 0, .ref pI, .int 0, .int 0, .int 0, .int 0, .int 0, .ref nM, .ref vA, .ref tR, .int 0, .int 0, .int 0, .ref rW, .ref sP, .ref oA, .ref bS, .ref aS, .ref aO, .ref cS, .ref wY]))]) (fun u => u = [(q, .inr (12, [.ref aA, .ref aI, .ref aT, .ref aP, .int 0, .int (-1), .int (-1), .int 0, .int 0, .int 0, .int 0, .long 0, .int 0, .int 0, .int 0, .int 0, .ref pI, .int 0, .int 0, .int 0, .int 0, .int 0, .ref nM, .ref vA, .ref tR, .int 0, .int 0, .int 0, .ref rW, .ref sP, .ref oA, .ref bS, .ref aS, .ref aO, .ref cS, .ref wY]))]) := by
  refine Cv.of (by decide +kernel) (Nat.le_of_ble_eq_true rfl) ?_
  intro p e s m below meth c A ls Z hin hP hD hl
  have hx := Z.1
  have hb := Z.2.1
  have hS : va_S A s.heap s.heap [] := va_S.rf
  have hl : lv_has ls 3 [(0, .ref q)] := hl
  skip
  refine lv_aload_n hx hb dX12_nextToken_0 rfl (lv_at hl 0 rfl) ?_
  refine lv_aload_n hx hb dX12_nextToken_1 rfl (lv_at hl 0 rfl) ?_
  refine z_get Z i_X12 hP 0 rfl rfl 7 (by decide) bw_1026 rfl dX12_nextToken_2 ?_
  have hPc := hP.sub2 (wc := [(q, .inr (12, [.ref aA, .ref aI, .ref aT, .ref aP, .int 0, .int (-1), .int (-1), .int 0, .int 0, .int 0, .int 0, .long 0, .int 0, .int 0, .int 0, .int 0, .ref pI, .int 0, .int 0, .int 0, .int 0, .int 0, .ref nM, .ref vA, .ref tR, .int 0, .int 0, .int 0, .ref rW, .ref sP, .ref oA, .ref bS, .ref aS, .ref aO, .ref cS, .ref wY]))]) [0] rfl
  have hDc := hD.sub (ws' := [(q, .inr (12, [.ref aA, .ref aI, .ref aT, .ref aP, .int 0, .int (-1), .int (-1), .int 0, .int 0, .int 0, .int 0, .long 0, .int 0, .int 0, .int 0, .int 0, .ref pI, .int 0, .int 0, .int 0, .int 0, .int 0, .ref nM, .ref vA, .ref tR, .int 0, .int 0, .int 0, .ref rW, .ref sP, .ref oA, .ref bS, .ref aS, .ref aO, .ref cS, .ref wY]))]) [0] (by decide) rfl
  refine raw_Vi (ci := 12) (q0 := 0) (nA := 1) (As := [.int 0]) (rest := []) Z hl.1 (c_X12_byteAt l D cI cM cT q aA aI aT aP pI nM vA tR rW sP oA bS aS aO cS wY) (bw_V bw_1178 bw_1180 bw_39 bw_92 bw_1181) ⟨by decide +kernel, by decide +kernel, by decide +kernel⟩ rfl ⟨Nat.le_of_ble_eq_true rfl, Nat.le_of_ble_eq_true rfl⟩ rfl rfl rfl hPc hDc hS rfl (Nat.le_of_ble_eq_true rfl) dX12_nextToken_5 ⟨Nat.le_of_ble_eq_true rfl, Nat.le_of_ble_eq_true rfl⟩ (fun r2 u1 H1 locs1 h3 hku1 hP1 hD1 hS1 => ?_)
  obtain ⟨rfl, rfl⟩ := h3
  obtain ⟨hP, hD⟩ := z_join (wr := []) Z hS hP hD [0] [] rfl (by decide) rfl (by decide) (by decide) hku1 hP1 hD1
  have hS := hS1
  clear hS1
  generalize H1 = H at hP hS ⊢
  generalize locs1 = locs at hS ⊢
  have hP : va_P D vwCl ([(q, .inr (12, [.ref aA, .ref aI, .ref aT, .ref aP, .int 0, .int (-1), .int (-1), .int 0, .int 0, .int 0, .int 0, .long 0, .int 0, .int 0, .int 0, .int 0, .ref pI, .int 0, .int 0, .int 0, .int 0, .int 0, .ref nM, .ref vA, .ref tR, .int 0, .int 0, .int 0, .ref rW, .ref sP, .ref oA, .ref bS, .ref aS, .ref aO, .ref cS, .ref wY]))]) H := hP
  have hD : va_D A ([(q, .inr (12, [.ref aA, .ref aI, .ref aT, .ref aP, .int 0, .int (-1), .int (-1), .int 0, .int 0, .int 0, .int 0, .long 0, .int 0, .int 0, .int 0, .int 0, .ref pI, .int 0, .int 0, .int 0, .int 0, .int 0, .ref nM, .ref vA, .ref tR, .int 0, .int 0, .int 0, .ref rW, .ref sP, .ref oA, .ref bS, .ref aS, .ref aO, .ref cS, .ref wY]))]) := hD
  refine lv_bipush (v := 32) hx hb dX12_nextToken_8 (by decide) ?_
  refine lv_icmp_eq (tgt := 26) hx hb dX12_nextToken_10 (by decide) (fun h => absurd h (by decide)) (fun c4 => ?_)
  refine lv_aload_n hx hb dX12_nextToken_13 rfl (lv_at hl 0 rfl) ?_
  refine lv_aload_n hx hb dX12_nextToken_14 rfl (lv_at hl 0 rfl) ?_
  refine z_get Z i_X12 hP 0 rfl rfl 7 (by decide) bw_1026 rfl dX12_nextToken_15 ?_
  have hPc := hP.sub2 (wc := [(q, .inr (12, [.ref aA, .ref aI, .ref aT, .ref aP, .int 0, .int (-1), .int (-1), .int 0, .int 0, .int 0, .int 0, .long 0, .int 0, .int 0, .int 0, .int 0, .ref pI, .int 0, .int 0, .int 0, .int 0, .int 0, .ref nM, .ref vA, .ref tR, .int 0, .int 0, .int 0, .ref rW, .ref sP, .ref oA, .ref bS, .ref aS, .ref aO, .ref cS, .ref wY]))]) [0] rfl
  have hDc := hD.sub (ws' := [(q, .inr (12, [.ref aA, .ref aI, .ref aT, .ref aP, .int 0, .int (-1), .int (-1), .int 0, .int 0, .int 0, .int 0, .long 0, .int 0, .int 0, .int 0, .int 0, .ref pI, .int 0, .int 0, .int 0, .int 0, .int 0, .ref nM, .ref vA, .ref tR, .int 0, .int 0, .int 0, .ref rW, .ref sP, .ref oA, .ref bS, .ref aS, .ref aO, .ref cS, .ref wY]))]) [0] (by decide) rfl
  refine raw_Vi (ci := 12) (q0 := 0) (nA := 1) (As := [.int 0]) (rest := []) Z hl.1 (c_X12_byteAt l D cI cM cT q aA aI aT aP pI nM vA tR rW sP oA bS aS aO cS wY) (bw_V bw_1178 bw_1180 bw_39 bw_92 bw_1181) ⟨by decide +kernel, by decide +kernel, by decide +kernel⟩ rfl ⟨Nat.le_of_ble_eq_true rfl, Nat.le_of_ble_eq_true rfl⟩ rfl rfl rfl hPc hDc hS rfl (Nat.le_of_ble_eq_true rfl) dX12_nextToken_18 ⟨Nat.le_of_ble_eq_true rfl, Nat.le_of_ble_eq_true rfl⟩ (fun r6 u5 H1 locs1 h7 hku5 hP1 hD1 hS1 => ?_)
  obtain ⟨rfl, rfl⟩ := h7
  obtain ⟨hP, hD⟩ := z_join (wr := []) Z hS hP hD [0] [] rfl (by decide) rfl (by decide) (by decide) hku5 hP1 hD1
  have hS := hS1
  clear hS1
  generalize H1 = H at hP hS ⊢
  generalize locs1 = locs at hS ⊢
  have hP : va_P D vwCl ([(q, .inr (12, [.ref aA, .ref aI, .ref aT, .ref aP, .int 0, .int (-1), .int (-1), .int 0, .int 0, .int 0, .int 0, .long 0, .int 0, .int 0, .int 0, .int 0, .ref pI, .int 0, .int 0, .int 0, .int 0, .int 0, .ref nM, .ref vA, .ref tR, .int 0, .int 0, .int 0, .ref rW, .ref sP, .ref oA, .ref bS, .ref aS, .ref aO, .ref cS, .ref wY]))]) H := hP
  have hD : va_D A ([(q, .inr (12, [.ref aA, .ref aI, .ref aT, .ref aP, .int 0, .int (-1), .int (-1), .int 0, .int 0, .int 0, .int 0, .long 0, .int 0, .int 0, .int 0, .int 0, .ref pI, .int 0, .int 0, .int 0, .int 0, .int 0, .ref nM, .ref vA, .ref tR, .int 0, .int 0, .int 0, .ref rW, .ref sP, .ref oA, .ref bS, .ref aS, .ref aO, .ref cS, .ref wY]))]) := hD
  refine lv_bipush (v := 10) hx hb dX12_nextToken_21 (by decide) ?_
  refine lv_icmp_ne (tgt := 39) hx hb dX12_nextToken_23 (by decide) (fun c8 => ?_) (fun h => absurd h (by decide))
  refine lv_aload_n hx hb dX12_nextToken_39 rfl (lv_at hl 0 rfl) ?_
  refine lv_aload_n hx hb dX12_nextToken_40 rfl (lv_at hl 0 rfl) ?_
  refine z_get Z i_X12 hP 0 rfl rfl 7 (by decide) bw_1026 rfl dX12_nextToken_41 ?_
  refine z_put Z i_X12 tyX12 tyX12_ok nmX12 hP hD hS 0 rfl rfl 8 (by decide) bw_1027 rfl rfl rfl (Nat.le_of_ble_eq_true rfl) dX12_nextToken_44 (fun H locs hP hD hS => ?_)
  have hP : va_P D vwCl ([(q, .inr (12, [.ref aA, .ref aI, .ref aT, .ref aP, .int 0, .int (-1), .int (-1), .int 0, .int 0, .int 0, .int 0, .long 0, .int 0, .int 0, .int 0, .int 0, .ref pI, .int 0, .int 0, .int 0, .int 0, .int 0, .ref nM, .ref vA, .ref tR, .int 0, .int 0, .int 0, .ref rW, .ref sP, .ref oA, .ref bS, .ref aS, .ref aO, .ref cS, .ref wY]))]) H := hP
  have hD : va_D A ([(q, .inr (12, [.ref aA, .ref aI, .ref aT, .ref aP, .int 0, .int (-1), .int (-1), .int 0, .int 0, .int 0, .int 0, .long 0, .int 0, .int 0, .int 0, .int 0, .ref pI, .int 0, .int 0, .int 0, .int 0, .int 0, .ref nM, .ref vA, .ref tR, .int 0, .int 0, .int 0, .ref rW, .ref sP, .ref oA, .ref bS, .ref aS, .ref aO, .ref cS, .ref wY]))]) := hD
  refine lv_aload_n hx hb dX12_nextToken_47 rfl (lv_at hl 0 rfl) ?_
  refine lv_aload_n hx hb dX12_nextToken_48 rfl (lv_at hl 0 rfl) ?_
  refine z_get Z i_X12 hP 0 rfl rfl 7 (by decide) bw_1026 rfl dX12_nextToken_49 ?_
  have hPc := hP.sub2 (wc := [(q, .inr (12, [.ref aA, .ref aI, .ref aT, .ref aP, .int 0, .int (-1), .int (-1), .int 0, .int 0, .int 0, .int 0, .long 0, .int 0, .int 0, .int 0, .int 0, .ref pI, .int 0, .int 0, .int 0, .int 0, .int 0, .ref nM, .ref vA, .ref tR, .int 0, .int 0, .int 0, .ref rW, .ref sP, .ref oA, .ref bS, .ref aS, .ref aO, .ref cS, .ref wY]))]) [0] rfl
  have hDc := hD.sub (ws' := [(q, .inr (12, [.ref aA, .ref aI, .ref aT, .ref aP, .int 0, .int (-1), .int (-1), .int 0, .int 0, .int 0, .int 0, .long 0, .int 0, .int 0, .int 0, .int 0, .ref pI, .int 0, .int 0, .int 0, .int 0, .int 0, .ref nM, .ref vA, .ref tR, .int 0, .int 0, .int 0, .ref rW, .ref sP, .ref oA, .ref bS, .ref aS, .ref aO, .ref cS, .ref wY]))]) [0] (by decide) rfl
  refine raw_Vi (ci := 12) (q0 := 0) (nA := 1) (As := [.int 0]) (rest := []) Z hl.1 (c_X12_byteAt l D cI cM cT q aA aI aT aP pI nM vA tR rW sP oA bS aS aO cS wY) (bw_V bw_1178 bw_1180 bw_39 bw_92 bw_1181) ⟨by decide +kernel, by decide +kernel, by decide +kernel⟩ rfl ⟨Nat.le_of_ble_eq_true rfl, Nat.le_of_ble_eq_true rfl⟩ rfl rfl rfl hPc hDc hS rfl (Nat.le_of_ble_eq_true rfl) dX12_nextToken_52 ⟨Nat.le_of_ble_eq_true rfl, Nat.le_of_ble_eq_true rfl⟩ (fun r10 u9 H1 locs1 h11 hku9 hP1 hD1 hS1 => ?_)
  obtain ⟨rfl, rfl⟩ := h11
  obtain ⟨hP, hD⟩ := z_join (wr := []) Z hS hP hD [0] [] rfl (by decide) rfl (by decide) (by decide) hku9 hP1 hD1
  have hS := hS1
  clear hS1
  generalize H1 = H at hP hS ⊢
  generalize locs1 = locs at hS ⊢
  have hP : va_P D vwCl ([(q, .inr (12, [.ref aA, .ref aI, .ref aT, .ref aP, .int 0, .int (-1), .int (-1), .int 0, .int 0, .int 0, .int 0, .long 0, .int 0, .int 0, .int 0, .int 0, .ref pI, .int 0, .int 0, .int 0, .int 0, .int 0, .ref nM, .ref vA, .ref tR, .int 0, .int 0, .int 0, .ref rW, .ref sP, .ref oA, .ref bS, .ref aS, .ref aO, .ref cS, .ref wY]))]) H := hP
  have hD : va_D A ([(q, .inr (12, [.ref aA, .ref aI, .ref aT, .ref aP, .int 0, .int (-1), .int (-1), .int 0, .int 0, .int 0, .int 0, .long 0, .int 0, .int 0, .int 0, .int 0, .ref pI, .int 0, .int 0, .int 0, .int 0, .int 0, .ref nM, .ref vA, .ref tR, .int 0, .int 0, .int 0, .ref rW, .ref sP, .ref oA, .ref bS, .ref aS, .ref aO, .ref cS, .ref wY]))]) := hD
  refine lv_istore_n (lv' := [(1, .int (-1)), (0, .ref q)]) hx hb dX12_nextToken_55 rfl hl (by decide) rfl (fun ls hl => ?_)
  refine lv_iload_n hx hb dX12_nextToken_56 rfl (lv_at hl 0 rfl) ?_
  refine lv_if_ge (tgt := 68) hx hb dX12_nextToken_57 (by decide) (fun h => absurd h (by decide)) (fun c12 => ?_)
  refine lv_aload_n hx hb dX12_nextToken_60 rfl (lv_at hl 1 rfl) ?_
  refine lv_iconst (v := 0) hx hb dX12_nextToken_61 (by decide) ?_
  refine z_put Z i_X12 tyX12 tyX12_ok nmX12 hP hD hS 0 rfl rfl 9 (by decide) bw_1028 rfl rfl rfl (Nat.le_of_ble_eq_true rfl) dX12_nextToken_62 (fun H locs hP hD hS => ?_)
  have hP : va_P D vwCl ([(q, .inr (12, [.ref aA, .ref aI, .ref aT, .ref aP, .int 0, .int (-1), .int (-1), .int 0, .int 0, .int 0, .int 0, .long 0, .int 0, .int 0, .int 0, .int 0, .ref pI, .int 0, .int 0, .int 0, .int 0, .int 0, .ref nM, .ref vA, .ref tR, .int 0, .int 0, .int 0, .ref rW, .ref sP, .ref oA, .ref bS, .ref aS, .ref aO, .ref cS, .ref wY]))]) H := hP
  have hD : va_D A ([(q, .inr (12, [.ref aA, .ref aI, .ref aT, .ref aP, .int 0, .int (-1), .int (-1), .int 0, .int 0, .int 0, .int 0, .long 0, .int 0, .int 0, .int 0, .int 0, .ref pI, .int 0, .int 0, .int 0, .int 0, .int 0, .ref nM, .ref vA, .ref tR, .int 0, .int 0, .int 0, .ref rW, .ref sP, .ref oA, .ref bS, .ref aS, .ref aO, .ref cS, .ref wY]))]) := hD
  refine lv_goto (tgt := 408) hx hb dX12_nextToken_65 (by decide) ?_
  exact z_vret Z hP hD hS (rfl) dX12_nextToken_408 (Nat.le_of_ble_eq_true rfl) (Nat.le_of_ble_eq_true rfl)
set_option maxHeartbeats 4000000 in
set_option maxRecDepth 100000 in
theorem c_X12_readText (l : Launch) (D : va_G) (cI cM cT : ClassId) (q : Nat) (aA : Nat) (aI : Nat) (aT : Nat) (aP : Nat) (pI : Nat) (nM : Nat) (vA : Nat) (tR : Nat) (rW : Nat) (sP : Nat) (oA : Nat) (bS : Nat) (aS : Nat) (aO : Nat) (cS : Nat) (wY : Nat) : Ci l D (ty3 cI cM cT) yX12_readText cX12_readText 2 (some .int) 2 0 0 [.ref q] ([(q, .inr (12, [.ref aA, .ref aI, .ref aT, .ref aP, .int 0, .int (-1), .int (-1), .int 0, .int 0, .int 0, .int 0, .long 0, .int 0, .int 0, .int 0, .int 0, .ref pI, .int 0, .int 0, .int 0, .int 0, .int 0, .ref nM, .ref vA, .ref tR, .int 0, .int 0, .int 0, .ref rW, .ref sP, .ref oA, .ref bS, .ref aS, .ref aO, .ref cS, .ref wY])), (aA, .inl (cI, 862, .inl af0)), (aT, .inl (cI, 2720, .inl (fun _ => 0)))]) (fun r u => r = 0 ∧ u = [(q, .inr (12, [.ref aA, .ref aI, .ref aT, .ref aP, .int 0, .int (-1), .int (-1), .int 0, .int 0, .int 0, .int 0, .long 0, .int 0, .int 0, .int 0, .int 0, .ref pI, .int 0, .int 0, .int 0, .int 0, .int 0, .ref nM, .ref vA, .ref tR, .int 0, .int 0, .int 0, .ref rW, .ref sP, .ref oA, .ref bS, .ref aS, .ref aO, .ref cS, .ref wY])), (aA, .inl (cI, 862, .inl af0))]) := by
  refine Ci.of (by decide +kernel) (Nat.le_of_ble_eq_true rfl) ?_
  intro p e s m below meth c A ls Z hin hP hD hl
  have hx := Z.1
  have hb := Z.2.1
  have hS : va_S A s.heap s.heap [] := va_S.rf
  have hl : lv_has ls 2 [(0, .ref q)] := hl
  skip
  refine lv_aload_n hx hb dX12_readText_0 rfl (lv_at hl 0 rfl) ?_
  refine lv_sipush (v := 680) hx hb dX12_readText_1 (by decide) ?_
  refine lv_aload_n hx hb dX12_readText_4 rfl (lv_at hl 0 rfl) ?_
  refine z_get Z i_X12 hP 0 rfl rfl 0 (by decide) bw_1019 rfl dX12_readText_5 ?_
  refine lv_bipush (v := 6) hx hb dX12_readText_8 (by decide) ?_
  refine z_iald Z hP 1 0 rfl rfl (vin (by decide)) dX12_readText_10 ?_
  refine z_topi (y := 0) rfl ?_
  refine lv_imul hx hb dX12_readText_11 ?_
  refine z_topi (y := 0) (by decide) ?_
  refine z_put Z i_X12 tyX12 tyX12_ok nmX12 hP hD hS 0 rfl rfl 12 (by decide) bw_1031 rfl rfl rfl (Nat.le_of_ble_eq_true rfl) dX12_readText_12 (fun H locs hP hD hS => ?_)
  have hP : va_P D vwCl ([(q, .inr (12, [.ref aA, .ref aI, .ref aT, .ref aP, .int 0, .int (-1), .int (-1), .int 0, .int 0, .int 0, .int 0, .long 0, .int 0, .int 0, .int 0, .int 0, .ref pI, .int 0, .int 0, .int 0, .int 0, .int 0, .ref nM, .ref vA, .ref tR, .int 0, .int 0, .int 0, .ref rW, .ref sP, .ref oA, .ref bS, .ref aS, .ref aO, .ref cS, .ref wY])), (aA, .inl (cI, 862, .inl af0)), (aT, .inl (cI, 2720, .inl (fun _ => 0)))]) H := hP
  have hD : va_D A ([(q, .inr (12, [.ref aA, .ref aI, .ref aT, .ref aP, .int 0, .int (-1), .int (-1), .int 0, .int 0, .int 0, .int 0, .long 0, .int 0, .int 0, .int 0, .int 0, .ref pI, .int 0, .int 0, .int 0, .int 0, .int 0, .ref nM, .ref vA, .ref tR, .int 0, .int 0, .int 0, .ref rW, .ref sP, .ref oA, .ref bS, .ref aS, .ref aO, .ref cS, .ref wY])), (aA, .inl (cI, 862, .inl af0)), (aT, .inl (cI, 2720, .inl (fun _ => 0)))]) := hD
  refine lv_aload_n hx hb dX12_readText_15 rfl (lv_at hl 0 rfl) ?_
  refine z_get Z i_X12 hP 0 rfl rfl 2 (by decide) bw_1021 rfl dX12_readText_16 ?_
  refine lv_aload_n hx hb dX12_readText_19 rfl (lv_at hl 0 rfl) ?_
  refine z_get Z i_X12 hP 0 rfl rfl 12 (by decide) bw_1031 rfl dX12_readText_20 ?_
  refine lv_iconst (v := 0) hx hb dX12_readText_23 (by decide) ?_
  refine z_iast Z hP hD hS 2 0 rfl rfl (vin (by decide)) dX12_readText_24 (fun H locs hP hD hS => ?_)
  have hP : va_P D vwCl ([(q, .inr (12, [.ref aA, .ref aI, .ref aT, .ref aP, .int 0, .int (-1), .int (-1), .int 0, .int 0, .int 0, .int 0, .long 0, .int 0, .int 0, .int 0, .int 0, .ref pI, .int 0, .int 0, .int 0, .int 0, .int 0, .ref nM, .ref vA, .ref tR, .int 0, .int 0, .int 0, .ref rW, .ref sP, .ref oA, .ref bS, .ref aS, .ref aO, .ref cS, .ref wY])), (aA, .inl (cI, 862, .inl af0)), (aT, .inl (cI, 2720, .inl (upd (fun _ => 0) (0 : Int32).toNatClampNeg 0)))]) H := hP
  have hD : va_D A ([(q, .inr (12, [.ref aA, .ref aI, .ref aT, .ref aP, .int 0, .int (-1), .int (-1), .int 0, .int 0, .int 0, .int 0, .long 0, .int 0, .int 0, .int 0, .int 0, .ref pI, .int 0, .int 0, .int 0, .int 0, .int 0, .ref nM, .ref vA, .ref tR, .int 0, .int 0, .int 0, .ref rW, .ref sP, .ref oA, .ref bS, .ref aS, .ref aO, .ref cS, .ref wY])), (aA, .inl (cI, 862, .inl af0)), (aT, .inl (cI, 2720, .inl (upd (fun _ => 0) (0 : Int32).toNatClampNeg 0)))]) := hD
  refine lv_aload_n hx hb dX12_readText_25 rfl (lv_at hl 0 rfl) ?_
  refine lv_iconst (v := 0) hx hb dX12_readText_26 (by decide) ?_
  refine z_put Z i_X12 tyX12 tyX12_ok nmX12 hP hD hS 0 rfl rfl 14 (by decide) bw_1032 rfl rfl rfl (Nat.le_of_ble_eq_true rfl) dX12_readText_27 (fun H locs hP hD hS => ?_)
  have hP : va_P D vwCl ([(q, .inr (12, [.ref aA, .ref aI, .ref aT, .ref aP, .int 0, .int (-1), .int (-1), .int 0, .int 0, .int 0, .int 0, .long 0, .int 0, .int 0, .int 0, .int 0, .ref pI, .int 0, .int 0, .int 0, .int 0, .int 0, .ref nM, .ref vA, .ref tR, .int 0, .int 0, .int 0, .ref rW, .ref sP, .ref oA, .ref bS, .ref aS, .ref aO, .ref cS, .ref wY])), (aA, .inl (cI, 862, .inl af0)), (aT, .inl (cI, 2720, .inl (upd (fun _ => 0) (0 : Int32).toNatClampNeg 0)))]) H := hP
  have hD : va_D A ([(q, .inr (12, [.ref aA, .ref aI, .ref aT, .ref aP, .int 0, .int (-1), .int (-1), .int 0, .int 0, .int 0, .int 0, .long 0, .int 0, .int 0, .int 0, .int 0, .ref pI, .int 0, .int 0, .int 0, .int 0, .int 0, .ref nM, .ref vA, .ref tR, .int 0, .int 0, .int 0, .ref rW, .ref sP, .ref oA, .ref bS, .ref aS, .ref aO, .ref cS, .ref wY])), (aA, .inl (cI, 862, .inl af0)), (aT, .inl (cI, 2720, .inl (upd (fun _ => 0) (0 : Int32).toNatClampNeg 0)))]) := hD
  refine lv_aload_n hx hb dX12_readText_30 rfl (lv_at hl 0 rfl) ?_
  refine lv_iconst (v := 0) hx hb dX12_readText_31 (by decide) ?_
  refine z_put Z i_X12 tyX12 tyX12_ok nmX12 hP hD hS 0 rfl rfl 18 (by decide) bw_1035 rfl rfl rfl (Nat.le_of_ble_eq_true rfl) dX12_readText_32 (fun H locs hP hD hS => ?_)
  have hP : va_P D vwCl ([(q, .inr (12, [.ref aA, .ref aI, .ref aT, .ref aP, .int 0, .int (-1), .int (-1), .int 0, .int 0, .int 0, .int 0, .long 0, .int 0, .int 0, .int 0, .int 0, .ref pI, .int 0, .int 0, .int 0, .int 0, .int 0, .ref nM, .ref vA, .ref tR, .int 0, .int 0, .int 0, .ref rW, .ref sP, .ref oA, .ref bS, .ref aS, .ref aO, .ref cS, .ref wY])), (aA, .inl (cI, 862, .inl af0)), (aT, .inl (cI, 2720, .inl (upd (fun _ => 0) (0 : Int32).toNatClampNeg 0)))]) H := hP
  have hD : va_D A ([(q, .inr (12, [.ref aA, .ref aI, .ref aT, .ref aP, .int 0, .int (-1), .int (-1), .int 0, .int 0, .int 0, .int 0, .long 0, .int 0, .int 0, .int 0, .int 0, .ref pI, .int 0, .int 0, .int 0, .int 0, .int 0, .ref nM, .ref vA, .ref tR, .int 0, .int 0, .int 0, .ref rW, .ref sP, .ref oA, .ref bS, .ref aS, .ref aO, .ref cS, .ref wY])), (aA, .inl (cI, 862, .inl af0)), (aT, .inl (cI, 2720, .inl (upd (fun _ => 0) (0 : Int32).toNatClampNeg 0)))]) := hD
  refine lv_aload_n hx hb dX12_readText_35 rfl (lv_at hl 0 rfl) ?_
  refine lv_iconst (v := 0) hx hb dX12_readText_36 (by decide) ?_
  refine z_put Z i_X12 tyX12 tyX12_ok nmX12 hP hD hS 0 rfl rfl 21 (by decide) bw_1038 rfl rfl rfl (Nat.le_of_ble_eq_true rfl) dX12_readText_37 (fun H locs hP hD hS => ?_)
  have hP : va_P D vwCl ([(q, .inr (12, [.ref aA, .ref aI, .ref aT, .ref aP, .int 0, .int (-1), .int (-1), .int 0, .int 0, .int 0, .int 0, .long 0, .int 0, .int 0, .int 0, .int 0, .ref pI, .int 0, .int 0, .int 0, .int 0, .int 0, .ref nM, .ref vA, .ref tR, .int 0, .int 0, .int 0, .ref rW, .ref sP, .ref oA, .ref bS, .ref aS, .ref aO, .ref cS, .ref wY])), (aA, .inl (cI, 862, .inl af0)), (aT, .inl (cI, 2720, .inl (upd (fun _ => 0) (0 : Int32).toNatClampNeg 0)))]) H := hP
  have hD : va_D A ([(q, .inr (12, [.ref aA, .ref aI, .ref aT, .ref aP, .int 0, .int (-1), .int (-1), .int 0, .int 0, .int 0, .int 0, .long 0, .int 0, .int 0, .int 0, .int 0, .ref pI, .int 0, .int 0, .int 0, .int 0, .int 0, .ref nM, .ref vA, .ref tR, .int 0, .int 0, .int 0, .ref rW, .ref sP, .ref oA, .ref bS, .ref aS, .ref aO, .ref cS, .ref wY])), (aA, .inl (cI, 862, .inl af0)), (aT, .inl (cI, 2720, .inl (upd (fun _ => 0) (0 : Int32).toNatClampNeg 0)))]) := hD
  refine lv_aload_n hx hb dX12_readText_40 rfl (lv_at hl 0 rfl) ?_
  refine lv_iconst (v := 0) hx hb dX12_readText_41 (by decide) ?_
  refine z_put Z i_X12 tyX12 tyX12_ok nmX12 hP hD hS 0 rfl rfl 7 (by decide) bw_1026 rfl rfl rfl (Nat.le_of_ble_eq_true rfl) dX12_readText_42 (fun H locs hP hD hS => ?_)
  have hP : va_P D vwCl ([(q, .inr (12, [.ref aA, .ref aI, .ref aT, .ref aP, .int 0, .int (-1), .int (-1), .int 0, .int 0, .int 0, .int 0, .long 0, .int 0, .int 0, .int 0, .int 0, .ref pI, .int 0, .int 0, .int 0, .int 0, .int 0, .ref nM, .ref vA, .ref tR, .int 0, .int 0, .int 0, .ref rW, .ref sP, .ref oA, .ref bS, .ref aS, .ref aO, .ref cS, .ref wY])), (aA, .inl (cI, 862, .inl af0)), (aT, .inl (cI, 2720, .inl (upd (fun _ => 0) (0 : Int32).toNatClampNeg 0)))]) H := hP
  have hD : va_D A ([(q, .inr (12, [.ref aA, .ref aI, .ref aT, .ref aP, .int 0, .int (-1), .int (-1), .int 0, .int 0, .int 0, .int 0, .long 0, .int 0, .int 0, .int 0, .int 0, .ref pI, .int 0, .int 0, .int 0, .int 0, .int 0, .ref nM, .ref vA, .ref tR, .int 0, .int 0, .int 0, .ref rW, .ref sP, .ref oA, .ref bS, .ref aS, .ref aO, .ref cS, .ref wY])), (aA, .inl (cI, 862, .inl af0)), (aT, .inl (cI, 2720, .inl (upd (fun _ => 0) (0 : Int32).toNatClampNeg 0)))]) := hD
  refine lv_aload_n hx hb dX12_readText_45 rfl (lv_at hl 0 rfl) ?_
  have hPc := hP.sub2 (wc := [(q, .inr (12, [.ref aA, .ref aI, .ref aT, .ref aP, .int 0, .int (-1), .int (-1), .int 0, .int 0, .int 0, .int 0, .long 0, .int 0, .int 0, .int 0, .int 0, .ref pI, .int 0, .int 0, .int 0, .int 0, .int 0, .ref nM, .ref vA, .ref tR, .int 0, .int 0, .int 0, .ref rW, .ref sP, .ref oA, .ref bS, .ref aS, .ref aO, .ref cS, .ref wY]))]) [0] rfl
  have hDc := hD.sub (ws' := [(q, .inr (12, [.ref aA, .ref aI, .ref aT, .ref aP, .int 0, .int (-1), .int (-1), .int 0, .int 0, .int 0, .int 0, .long 0, .int 0, .int 0, .int 0, .int 0, .ref pI, .int 0, .int 0, .int 0, .int 0, .int 0, .ref nM, .ref vA, .ref tR, .int 0, .int 0, .int 0, .ref rW, .ref sP, .ref oA, .ref bS, .ref aS, .ref aO, .ref cS, .ref wY]))]) [0] (by decide) rfl
  refine raw_Vv (ci := 12) (q0 := 0) (nA := 0) (As := []) (rest := []) Z hl.1 (c_X12_nextToken l D cI cM cT q aA aI aT aP pI nM vA tR rW sP oA bS aS aO cS wY) (bw_V bw_1174 bw_1176 bw_38 bw_92 bw_1177) ⟨by decide +kernel, by decide +kernel, by decide +kernel⟩ rfl ⟨Nat.le_of_ble_eq_true rfl, Nat.le_of_ble_eq_true rfl⟩ rfl rfl rfl hPc hDc hS rfl (Nat.le_of_ble_eq_true rfl) dX12_readText_46 ⟨Nat.le_of_ble_eq_true rfl, Nat.le_of_ble_eq_true rfl⟩ (fun u1 H1 locs1 h3 hku1 hP1 hD1 hS1 => ?_)
  obtain rfl := h3
  obtain ⟨hP, hD⟩ := z_join (wr := [(aA, .inl (cI, 862, .inl af0)), (aT, .inl (cI, 2720, .inl (upd (fun _ => 0) (0 : Int32).toNatClampNeg 0)))]) Z hS hP hD [0] [1, 2] rfl (by decide) rfl (by decide) (by decide) hku1 hP1 hD1
  have hS := hS1
  clear hS1
  generalize H1 = H at hP hS ⊢
  generalize locs1 = locs at hS ⊢
  have hP : va_P D vwCl ([(aA, .inl (cI, 862, .inl af0)), (aT, .inl (cI, 2720, .inl (upd (fun _ => 0) (0 : Int32).toNatClampNeg 0))), (q, .inr (12, [.ref aA, .ref aI, .ref aT, .ref aP, .int 0, .int (-1), .int (-1), .int 0, .int 0, .int 0, .int 0, .long 0, .int 0, .int 0, .int 0, .int 0, .ref pI, .int 0, .int 0, .int 0, .int 0, .int 0, .ref nM, .ref vA, .ref tR, .int 0, .int 0, .int 0, .ref rW, .ref sP, .ref oA, .ref bS, .ref aS, .ref aO, .ref cS, .ref wY]))]) H := hP
  have hD : va_D A ([(aA, .inl (cI, 862, .inl af0)), (aT, .inl (cI, 2720, .inl (upd (fun _ => 0) (0 : Int32).toNatClampNeg 0))), (q, .inr (12, [.ref aA, .ref aI, .ref aT, .ref aP, .int 0, .int (-1), .int (-1), .int 0, .int 0, .int 0, .int 0, .long 0, .int 0, .int 0, .int 0, .int 0, .ref pI, .int 0, .int 0, .int 0, .int 0, .int 0, .ref nM, .ref vA, .ref tR, .int 0, .int 0, .int 0, .ref rW, .ref sP, .ref oA, .ref bS, .ref aS, .ref aO, .ref cS, .ref wY]))]) := hD
  refine lv_aload_n hx hb dX12_readText_49 rfl (lv_at hl 0 rfl) ?_
  refine z_get Z i_X12 hP 2 rfl rfl 9 (by decide) bw_1028 rfl dX12_readText_50 ?_
  refine lv_if_eq (tgt := 70) hx hb dX12_readText_53 (by decide) (fun c4 => ?_) (fun h => absurd (by decide) h)
  refine lv_iconst (v := 0) hx hb dX12_readText_70 (by decide) ?_
  have hP := hP.sub2 (wc := [(q, .inr (12, [.ref aA, .ref aI, .ref aT, .ref aP, .int 0, .int (-1), .int (-1), .int 0, .int 0, .int 0, .int 0, .long 0, .int 0, .int 0, .int 0, .int 0, .ref pI, .int 0, .int 0, .int 0, .int 0, .int 0, .ref nM, .ref vA, .ref tR, .int 0, .int 0, .int 0, .ref rW, .ref sP, .ref oA, .ref bS, .ref aS, .ref aO, .ref cS, .ref wY])), (aA, .inl (cI, 862, .inl af0))]) [2, 0] rfl
  have hD := hD.sub (ws' := [(q, .inr (12, [.ref aA, .ref aI, .ref aT, .ref aP, .int 0, .int (-1), .int (-1), .int 0, .int 0, .int 0, .int 0, .long 0, .int 0, .int 0, .int 0, .int 0, .ref pI, .int 0, .int 0, .int 0, .int 0, .int 0, .ref nM, .ref vA, .ref tR, .int 0, .int 0, .int 0, .ref rW, .ref sP, .ref oA, .ref bS, .ref aS, .ref aO, .ref cS, .ref wY])), (aA, .inl (cI, 862, .inl af0))]) [2, 0] (by decide) rfl
  exact z_ret Z rfl hP hD hS (⟨rfl, rfl⟩) dX12_readText_71 (Nat.le_of_ble_eq_true rfl) (Nat.le_of_ble_eq_true rfl)
set_option maxHeartbeats 4000000 in
set_option maxRecDepth 100000 in
theorem c_X12_text (l : Launch) (D : va_G) (cI cM cT : ClassId) (q : Nat) (aA : Nat) (aI : Nat) (aT : Nat) (aP : Nat) (pI : Nat) (nM : Nat) (vA : Nat) (tR : Nat) (rW : Nat) (sP : Nat) (oA : Nat) (bS : Nat) (aS : Nat) (aO : Nat) (cS : Nat) (wY : Nat) : Ci l D (ty3 cI cM cT) yX12_text cX12_text 1 (some .int) 4 0 0 [.ref q] ([(q, .inr (12, [.ref aA, .ref aI, .ref aT, .ref aP, .int 0, .int (-1), .int (-1), .int 0, .int 0, .int 0, .int 0, .long 0, .int 0, .int 0, .int 0, .int 0, .ref pI, .int 0, .int 0, .int 0, .int 0, .int 0, .ref nM, .ref vA, .ref tR, .int 0, .int 0, .int 0, .ref rW, .ref sP, .ref oA, .ref bS, .ref aS, .ref aO, .ref cS, .ref wY])), (aA, .inl (cI, 862, .inl af0)), (aT, .inl (cI, 2720, .inl (fun _ => 0)))]) (fun r u => r = 0) := by
  refine Ci.of (by decide +kernel) (Nat.le_of_ble_eq_true rfl) ?_
  intro p e s m below meth c A ls Z hin hP hD hl
  have hx := Z.1
  have hb := Z.2.1
  have hS : va_S A s.heap s.heap [] := va_S.rf
  have hl : lv_has ls 1 [(0, .ref q)] := hl
  skip
  refine lv_aload_n hx hb dX12_text_0 rfl (lv_at hl 0 rfl) ?_
  refine z_get Z i_X12 hP 0 rfl rfl 0 (by decide) bw_1019 rfl dX12_text_1 ?_
  refine lv_bipush (v := 6) hx hb dX12_text_4 (by decide) ?_
  refine z_iald Z hP 1 0 rfl rfl (vin (by decide)) dX12_text_6 ?_
  refine z_topi (y := 0) rfl ?_
  refine lv_iconst (v := 4) hx hb dX12_text_7 (by decide) ?_
  refine lv_icmp_ne (tgt := 13) hx hb dX12_text_8 (by decide) (fun c1 => ?_) (fun h => absurd h (by decide))
  refine lv_aload_n hx hb dX12_text_13 rfl (lv_at hl 0 rfl) ?_
  refine lv_aload_n hx hb dX12_text_14 rfl (lv_at hl 0 rfl) ?_
  have hPc := hP.sub2 (wc := [(q, .inr (12, [.ref aA, .ref aI, .ref aT, .ref aP, .int 0, .int (-1), .int (-1), .int 0, .int 0, .int 0, .int 0, .long 0, .int 0, .int 0, .int 0, .int 0, .ref pI, .int 0, .int 0, .int 0, .int 0, .int 0, .ref nM, .ref vA, .ref tR, .int 0, .int 0, .int 0, .ref rW, .ref sP, .ref oA, .ref bS, .ref aS, .ref aO, .ref cS, .ref wY])), (aA, .inl (cI, 862, .inl af0)), (aT, .inl (cI, 2720, .inl (fun _ => 0)))]) [0, 1, 2] rfl
  have hDc := hD.sub (ws' := [(q, .inr (12, [.ref aA, .ref aI, .ref aT, .ref aP, .int 0, .int (-1), .int (-1), .int 0, .int 0, .int 0, .int 0, .long 0, .int 0, .int 0, .int 0, .int 0, .ref pI, .int 0, .int 0, .int 0, .int 0, .int 0, .ref nM, .ref vA, .ref tR, .int 0, .int 0, .int 0, .ref rW, .ref sP, .ref oA, .ref bS, .ref aS, .ref aO, .ref cS, .ref wY])), (aA, .inl (cI, 862, .inl af0)), (aT, .inl (cI, 2720, .inl (fun _ => 0)))]) [0, 1, 2] (by decide) rfl
  refine raw_Vi (ci := 12) (q0 := 0) (nA := 0) (As := []) (rest := [.ref q]) Z hl.1 (c_X12_readText l D cI cM cT q aA aI aT aP pI nM vA tR rW sP oA bS aS aO cS wY) (bw_V bw_1170 bw_1172 bw_37 bw_92 bw_1173) ⟨by decide +kernel, by decide +kernel, by decide +kernel⟩ rfl ⟨Nat.le_of_ble_eq_true rfl, Nat.le_of_ble_eq_true rfl⟩ rfl rfl rfl hPc hDc hS rfl (Nat.le_of_ble_eq_true rfl) dX12_text_15 ⟨Nat.le_of_ble_eq_true rfl, Nat.le_of_ble_eq_true rfl⟩ (fun r3 u2 H1 locs1 h4 hku2 hP1 hD1 hS1 => ?_)
  obtain ⟨rfl, rfl⟩ := h4
  obtain ⟨hP, hD⟩ := z_join (wr := []) Z hS hP hD [0, 1, 2] [] rfl (by decide) rfl (by decide) (by decide) hku2 hP1 hD1
  have hS := hS1
  clear hS1
  generalize H1 = H at hP hS ⊢
  generalize locs1 = locs at hS ⊢
  have hP : va_P D vwCl ([(q, .inr (12, [.ref aA, .ref aI, .ref aT, .ref aP, .int 0, .int (-1), .int (-1), .int 0, .int 0, .int 0, .int 0, .long 0, .int 0, .int 0, .int 0, .int 0, .ref pI, .int 0, .int 0, .int 0, .int 0, .int 0, .ref nM, .ref vA, .ref tR, .int 0, .int 0, .int 0, .ref rW, .ref sP, .ref oA, .ref bS, .ref aS, .ref aO, .ref cS, .ref wY])), (aA, .inl (cI, 862, .inl af0))]) H := hP
  have hD : va_D A ([(q, .inr (12, [.ref aA, .ref aI, .ref aT, .ref aP, .int 0, .int (-1), .int (-1), .int 0, .int 0, .int 0, .int 0, .long 0, .int 0, .int 0, .int 0, .int 0, .ref pI, .int 0, .int 0, .int 0, .int 0, .int 0, .ref nM, .ref vA, .ref tR, .int 0, .int 0, .int 0, .ref rW, .ref sP, .ref oA, .ref bS, .ref aS, .ref aO, .ref cS, .ref wY])), (aA, .inl (cI, 862, .inl af0))]) := hD
  refine z_put Z i_X12 tyX12 tyX12_ok nmX12 hP hD hS 0 rfl rfl 5 (by decide) bw_1024 rfl rfl rfl (Nat.le_of_ble_eq_true rfl) dX12_text_18 (fun H locs hP hD hS => ?_)
  have hP : va_P D vwCl ([(q, .inr (12, [.ref aA, .ref aI, .ref aT, .ref aP, .int 0, .int 0, .int (-1), .int 0, .int 0, .int 0, .int 0, .long 0, .int 0, .int 0, .int 0, .int 0, .ref pI, .int 0, .int 0, .int 0, .int 0, .int 0, .ref nM, .ref vA, .ref tR, .int 0, .int 0, .int 0, .ref rW, .ref sP, .ref oA, .ref bS, .ref aS, .ref aO, .ref cS, .ref wY])), (aA, .inl (cI, 862, .inl af0))]) H := hP
  have hD : va_D A ([(q, .inr (12, [.ref aA, .ref aI, .ref aT, .ref aP, .int 0, .int 0, .int (-1), .int 0, .int 0, .int 0, .int 0, .long 0, .int 0, .int 0, .int 0, .int 0, .ref pI, .int 0, .int 0, .int 0, .int 0, .int 0, .ref nM, .ref vA, .ref tR, .int 0, .int 0, .int 0, .ref rW, .ref sP, .ref oA, .ref bS, .ref aS, .ref aO, .ref cS, .ref wY])), (aA, .inl (cI, 862, .inl af0))]) := hD
  refine lv_aload_n hx hb dX12_text_21 rfl (lv_at hl 0 rfl) ?_
  refine lv_aload_n hx hb dX12_text_22 rfl (lv_at hl 0 rfl) ?_
  refine z_get Z i_X12 hP 0 rfl rfl 5 (by decide) bw_1024 rfl dX12_text_23 ?_
  refine lv_if_ne (tgt := 33) hx hb dX12_text_26 (by decide) (fun h => absurd (by decide) h) (fun c5 => ?_)
  refine lv_iconst (v := (-1)) hx hb dX12_text_29 (by decide) ?_
  refine lv_goto (tgt := 37) hx hb dX12_text_30 (by decide) ?_
  refine z_put Z i_X12 tyX12 tyX12_ok nmX12 hP hD hS 0 rfl rfl 6 (by decide) bw_1025 rfl rfl rfl (Nat.le_of_ble_eq_true rfl) dX12_text_37 (fun H locs hP hD hS => ?_)
  have hP : va_P D vwCl ([(q, .inr (12, [.ref aA, .ref aI, .ref aT, .ref aP, .int 0, .int 0, .int (-1), .int 0, .int 0, .int 0, .int 0, .long 0, .int 0, .int 0, .int 0, .int 0, .ref pI, .int 0, .int 0, .int 0, .int 0, .int 0, .ref nM, .ref vA, .ref tR, .int 0, .int 0, .int 0, .ref rW, .ref sP, .ref oA, .ref bS, .ref aS, .ref aO, .ref cS, .ref wY])), (aA, .inl (cI, 862, .inl af0))]) H := hP
  have hD : va_D A ([(q, .inr (12, [.ref aA, .ref aI, .ref aT, .ref aP, .int 0, .int 0, .int (-1), .int 0, .int 0, .int 0, .int 0, .long 0, .int 0, .int 0, .int 0, .int 0, .ref pI, .int 0, .int 0, .int 0, .int 0, .int 0, .ref nM, .ref vA, .ref tR, .int 0, .int 0, .int 0, .ref rW, .ref sP, .ref oA, .ref bS, .ref aS, .ref aO, .ref cS, .ref wY])), (aA, .inl (cI, 862, .inl af0))]) := hD
  refine lv_aload_n hx hb dX12_text_40 rfl (lv_at hl 0 rfl) ?_
  refine lv_iconst (v := 0) hx hb dX12_text_41 (by decide) ?_
  refine z_put Z i_X12 tyX12 tyX12_ok nmX12 hP hD hS 0 rfl rfl 4 (by decide) bw_1023 rfl rfl rfl (Nat.le_of_ble_eq_true rfl) dX12_text_42 (fun H locs hP hD hS => ?_)
  have hP : va_P D vwCl ([(q, .inr (12, [.ref aA, .ref aI, .ref aT, .ref aP, .int 0, .int 0, .int (-1), .int 0, .int 0, .int 0, .int 0, .long 0, .int 0, .int 0, .int 0, .int 0, .ref pI, .int 0, .int 0, .int 0, .int 0, .int 0, .ref nM, .ref vA, .ref tR, .int 0, .int 0, .int 0, .ref rW, .ref sP, .ref oA, .ref bS, .ref aS, .ref aO, .ref cS, .ref wY])), (aA, .inl (cI, 862, .inl af0))]) H := hP
  have hD : va_D A ([(q, .inr (12, [.ref aA, .ref aI, .ref aT, .ref aP, .int 0, .int 0, .int (-1), .int 0, .int 0, .int 0, .int 0, .long 0, .int 0, .int 0, .int 0, .int 0, .ref pI, .int 0, .int 0, .int 0, .int 0, .int 0, .ref nM, .ref vA, .ref tR, .int 0, .int 0, .int 0, .ref rW, .ref sP, .ref oA, .ref bS, .ref aS, .ref aO, .ref cS, .ref wY])), (aA, .inl (cI, 862, .inl af0))]) := hD
  refine lv_aload_n hx hb dX12_text_45 rfl (lv_at hl 0 rfl) ?_
  refine z_get Z i_X12 hP 0 rfl rfl 5 (by decide) bw_1024 rfl dX12_text_46 ?_
  refine lv_if_eq (tgt := 54) hx hb dX12_text_49 (by decide) (fun c6 => ?_) (fun h => absurd (by decide) h)
  refine lv_aload_n hx hb dX12_text_54 rfl (lv_at hl 0 rfl) ?_
  refine z_get Z i_X12 hP 0 rfl rfl 0 (by decide) bw_1019 rfl dX12_text_55 ?_
  refine lv_bipush (v := 6) hx hb dX12_text_58 (by decide) ?_
  refine lv_dup2_11 hx hb dX12_text_60 rfl rfl ?_
  refine z_iald Z hP 1 0 rfl rfl (vin (by decide)) dX12_text_61 ?_
  refine z_topi (y := 0) rfl ?_
  refine lv_iconst (v := 1) hx hb dX12_text_62 (by decide) ?_
  refine lv_iadd hx hb dX12_text_63 ?_
  refine z_topi (y := 1) (by decide) ?_
  refine z_iast Z hP hD hS 1 0 rfl rfl (vin (by decide)) dX12_text_64 (fun H locs hP hD hS => ?_)
  have hP : va_P D vwCl ([(q, .inr (12, [.ref aA, .ref aI, .ref aT, .ref aP, .int 0, .int 0, .int (-1), .int 0, .int 0, .int 0, .int 0, .long 0, .int 0, .int 0, .int 0, .int 0, .ref pI, .int 0, .int 0, .int 0, .int 0, .int 0, .ref nM, .ref vA, .ref tR, .int 0, .int 0, .int 0, .ref rW, .ref sP, .ref oA, .ref bS, .ref aS, .ref aO, .ref cS, .ref wY])), (aA, .inl (cI, 862, .inl (upd af0 (6 : Int32).toNatClampNeg 1)))]) H := hP
  have hD : va_D A ([(q, .inr (12, [.ref aA, .ref aI, .ref aT, .ref aP, .int 0, .int 0, .int (-1), .int 0, .int 0, .int 0, .int 0, .long 0, .int 0, .int 0, .int 0, .int 0, .ref pI, .int 0, .int 0, .int 0, .int 0, .int 0, .ref nM, .ref vA, .ref tR, .int 0, .int 0, .int 0, .ref rW, .ref sP, .ref oA, .ref bS, .ref aS, .ref aO, .ref cS, .ref wY])), (aA, .inl (cI, 862, .inl (upd af0 (6 : Int32).toNatClampNeg 1)))]) := hD
  refine lv_aload_n hx hb dX12_text_65 rfl (lv_at hl 0 rfl) ?_
  refine z_get Z i_X12 hP 0 rfl rfl 0 (by decide) bw_1019 rfl dX12_text_66 ?_
  refine lv_bipush (v := 6) hx hb dX12_text_69 (by decide) ?_
  refine z_iald Z hP 1 0 rfl rfl (vin (by decide)) dX12_text_71 ?_
  refine z_topi (y := 1) pk_us ?_
  refine lv_iconst (v := 1) hx hb dX12_text_72 (by decide) ?_
  refine lv_isub hx hb dX12_text_73 ?_
  refine z_topi (y := 0) (by decide) ?_
  exact z_ret Z rfl hP hD hS ((by first | rfl | assumption)) dX12_text_74 (Nat.le_of_ble_eq_true rfl) (Nat.le_of_ble_eq_true rfl)
set_option maxHeartbeats 4000000 in
set_option maxRecDepth 100000 in
theorem c_X12_bridge (l : Launch) (D : va_G) (cI cM cT : ClassId) (q : Nat) (aA : Nat) (aI : Nat) (aT : Nat) (aP : Nat) (pI : Nat) (nM : Nat) (vA : Nat) (tR : Nat) (rW : Nat) (sP : Nat) (oA : Nat) (bS : Nat) (aS : Nat) (aO : Nat) (cS : Nat) (wY : Nat) (p0 : Int32) (p1 : Int32) : Ci l D (ty3 cI cM cT) yX12_bridge cX12_bridge 3 (some .int) 3 0 0 [.ref q, .int p0, .int p1] ([(q, .inr (12, [.ref aA, .ref aI, .ref aT, .ref aP, .int 0, .int (-1), .int (-1), .int 0, .int 0, .int 0, .int 0, .long 0, .int 0, .int 0, .int 0, .int 0, .ref pI, .int 0, .int 0, .int 0, .int 0, .int 0, .ref nM, .ref vA, .ref tR, .int 0, .int 0, .int 0, .ref rW, .ref sP, .ref oA, .ref bS, .ref aS, .ref aO, .ref cS, .ref wY])), (aA, .inl (cI, 862, .inl af0))]) (fun r u => r = (if (0 ≤ p0 ∧ p0 < 300) ∧ (0 ≤ p1 ∧ p1 < 300) ∧ p0 < p1 then 1 else (-1))) := by
  refine Ci.of (by decide +kernel) (Nat.le_of_ble_eq_true rfl) ?_
  intro p e s m below meth c A ls Z hin hP hD hl
  have hx := Z.1
  have hb := Z.2.1
  have hS : va_S A s.heap s.heap [] := va_S.rf
  have hl : lv_has ls 3 [(0, .ref q), (1, .int p0), (2, .int p1)] := hl
  skip
  refine lv_iload_n hx hb dX12_bridge_0 rfl (lv_at hl 1 rfl) ?_
  have hPc := hP.sub2 (wc := []) [] rfl
  have hDc := hD.sub (ws' := []) [] (by decide) rfl
  refine raw_Si (nA := 1) (As := [.int p0]) (rest := []) Z hl.1 (c_X12_isPlace l D cI cM cT p0) (bw_S bw_1132 bw_1133 bw_92 bw_1134) ⟨by decide +kernel, by decide +kernel, by decide +kernel⟩ rfl ⟨Nat.le_of_ble_eq_true rfl, Nat.le_of_ble_eq_true rfl⟩ hPc hDc hS rfl (Nat.le_of_ble_eq_true rfl) dX12_bridge_1 ⟨Nat.le_of_ble_eq_true rfl, Nat.le_of_ble_eq_true rfl⟩ (fun r2 u1 H1 locs1 h3 hku1 hP1 hD1 hS1 => ?_)
  obtain ⟨hrh3, rfl⟩ := h3
  obtain ⟨hP, hD⟩ := z_join (wr := [(q, .inr (12, [.ref aA, .ref aI, .ref aT, .ref aP, .int 0, .int (-1), .int (-1), .int 0, .int 0, .int 0, .int 0, .long 0, .int 0, .int 0, .int 0, .int 0, .ref pI, .int 0, .int 0, .int 0, .int 0, .int 0, .ref nM, .ref vA, .ref tR, .int 0, .int 0, .int 0, .ref rW, .ref sP, .ref oA, .ref bS, .ref aS, .ref aO, .ref cS, .ref wY])), (aA, .inl (cI, 862, .inl af0))]) Z hS hP hD [] [0, 1] rfl (by decide) rfl (by decide) (by decide) hku1 hP1 hD1
  have hS := hS1
  clear hS1
  generalize H1 = H at hP hS ⊢
  generalize locs1 = locs at hS ⊢
  have hP : va_P D vwCl ([(q, .inr (12, [.ref aA, .ref aI, .ref aT, .ref aP, .int 0, .int (-1), .int (-1), .int 0, .int 0, .int 0, .int 0, .long 0, .int 0, .int 0, .int 0, .int 0, .ref pI, .int 0, .int 0, .int 0, .int 0, .int 0, .ref nM, .ref vA, .ref tR, .int 0, .int 0, .int 0, .ref rW, .ref sP, .ref oA, .ref bS, .ref aS, .ref aO, .ref cS, .ref wY])), (aA, .inl (cI, 862, .inl af0))]) H := hP
  have hD : va_D A ([(q, .inr (12, [.ref aA, .ref aI, .ref aT, .ref aP, .int 0, .int (-1), .int (-1), .int 0, .int 0, .int 0, .int 0, .long 0, .int 0, .int 0, .int 0, .int 0, .ref pI, .int 0, .int 0, .int 0, .int 0, .int 0, .ref nM, .ref vA, .ref tR, .int 0, .int 0, .int 0, .ref rW, .ref sP, .ref oA, .ref bS, .ref aS, .ref aO, .ref cS, .ref wY])), (aA, .inl (cI, 862, .inl af0))]) := hD
  by_cases c4 : 0 ≤ p0 ∧ p0 ≤ 299
  · obtain rfl : r2 = 1 := by rw [hrh3, if_pos c4]
    refine lv_if_eq (tgt := 29) hx hb dX12_bridge_4 (by decide) (fun h => absurd h (by decide)) (fun c5 => ?_)
    refine lv_iload_n hx hb dX12_bridge_7 rfl (lv_at hl 2 rfl) ?_
    have hPc := hP.sub2 (wc := []) [] rfl
    have hDc := hD.sub (ws' := []) [] (by decide) rfl
    refine raw_Si (nA := 1) (As := [.int p1]) (rest := []) Z hl.1 (c_X12_isPlace l D cI cM cT p1) (bw_S bw_1132 bw_1133 bw_92 bw_1134) ⟨by decide +kernel, by decide +kernel, by decide +kernel⟩ rfl ⟨Nat.le_of_ble_eq_true rfl, Nat.le_of_ble_eq_true rfl⟩ hPc hDc hS rfl (Nat.le_of_ble_eq_true rfl) dX12_bridge_8 ⟨Nat.le_of_ble_eq_true rfl, Nat.le_of_ble_eq_true rfl⟩ (fun r7 u6 H1 locs1 h8 hku6 hP1 hD1 hS1 => ?_)
    obtain ⟨hrh8, rfl⟩ := h8
    obtain ⟨hP, hD⟩ := z_join (wr := [(q, .inr (12, [.ref aA, .ref aI, .ref aT, .ref aP, .int 0, .int (-1), .int (-1), .int 0, .int 0, .int 0, .int 0, .long 0, .int 0, .int 0, .int 0, .int 0, .ref pI, .int 0, .int 0, .int 0, .int 0, .int 0, .ref nM, .ref vA, .ref tR, .int 0, .int 0, .int 0, .ref rW, .ref sP, .ref oA, .ref bS, .ref aS, .ref aO, .ref cS, .ref wY])), (aA, .inl (cI, 862, .inl af0))]) Z hS hP hD [] [0, 1] rfl (by decide) rfl (by decide) (by decide) hku6 hP1 hD1
    have hS := hS1
    clear hS1
    generalize H1 = H at hP hS ⊢
    generalize locs1 = locs at hS ⊢
    have hP : va_P D vwCl ([(q, .inr (12, [.ref aA, .ref aI, .ref aT, .ref aP, .int 0, .int (-1), .int (-1), .int 0, .int 0, .int 0, .int 0, .long 0, .int 0, .int 0, .int 0, .int 0, .ref pI, .int 0, .int 0, .int 0, .int 0, .int 0, .ref nM, .ref vA, .ref tR, .int 0, .int 0, .int 0, .ref rW, .ref sP, .ref oA, .ref bS, .ref aS, .ref aO, .ref cS, .ref wY])), (aA, .inl (cI, 862, .inl af0))]) H := hP
    have hD : va_D A ([(q, .inr (12, [.ref aA, .ref aI, .ref aT, .ref aP, .int 0, .int (-1), .int (-1), .int 0, .int 0, .int 0, .int 0, .long 0, .int 0, .int 0, .int 0, .int 0, .ref pI, .int 0, .int 0, .int 0, .int 0, .int 0, .ref nM, .ref vA, .ref tR, .int 0, .int 0, .int 0, .ref rW, .ref sP, .ref oA, .ref bS, .ref aS, .ref aO, .ref cS, .ref wY])), (aA, .inl (cI, 862, .inl af0))]) := hD
    by_cases c9 : 0 ≤ p1 ∧ p1 ≤ 299
    · obtain rfl : r7 = 1 := by rw [hrh8, if_pos c9]
      refine lv_if_eq (tgt := 29) hx hb dX12_bridge_11 (by decide) (fun h => absurd h (by decide)) (fun c10 => ?_)
      refine lv_iload_n hx hb dX12_bridge_14 rfl (lv_at hl 2 rfl) ?_
      refine lv_iload_n hx hb dX12_bridge_15 rfl (lv_at hl 1 rfl) ?_
      refine lv_icmp_le (tgt := 29) hx hb dX12_bridge_16 (by decide) (fun c11 => ?_) (fun c11 => ?_)
      · refine lv_iconst (v := (-1)) hx hb dX12_bridge_29 (by decide) ?_
        exact z_ret Z rfl hP hD hS ((by first | rfl | assumption | (rw [if_pos (by (try simp only [zlt, zle, zeq, zl_0, zl_1, zl_2, zl_3, zl_4, zl_5, zl_6, zl_7, zl_8, zl_9, zl_10, zl_11, zl_12, zl_13, zl_19, zl_20, zl_30, zl_64, zl_99, zl_100, zl_299, zl_300, zl_399, zl_999, zl_9999, zl_m1, zl_m2, zl_m3, zl_32, zl_280] at c4 c5 c9 c10 c11 ⊢); omega)]; first | done | ((try simp only [zlt, zle, zeq, zl_0, zl_1, zl_2, zl_3, zl_4, zl_5, zl_6, zl_7, zl_8, zl_9, zl_10, zl_11, zl_12, zl_13, zl_19, zl_20, zl_30, zl_64, zl_99, zl_100, zl_299, zl_300, zl_399, zl_999, zl_9999, zl_m1, zl_m2, zl_m3, zl_32, zl_280] at c4 c5 c9 c10 c11 ⊢); omega)) | (rw [if_neg (by (try simp only [zlt, zle, zeq, zl_0, zl_1, zl_2, zl_3, zl_4, zl_5, zl_6, zl_7, zl_8, zl_9, zl_10, zl_11, zl_12, zl_13, zl_19, zl_20, zl_30, zl_64, zl_99, zl_100, zl_299, zl_300, zl_399, zl_999, zl_9999, zl_m1, zl_m2, zl_m3, zl_32, zl_280] at c4 c5 c9 c10 c11 ⊢); omega)]; first | done | ((try simp only [zlt, zle, zeq, zl_0, zl_1, zl_2, zl_3, zl_4, zl_5, zl_6, zl_7, zl_8, zl_9, zl_10, zl_11, zl_12, zl_13, zl_19, zl_20, zl_30, zl_64, zl_99, zl_100, zl_299, zl_300, zl_399, zl_999, zl_9999, zl_m1, zl_m2, zl_m3, zl_32, zl_280] at c4 c5 c9 c10 c11 ⊢); omega)))) dX12_bridge_30 (Nat.le_of_ble_eq_true rfl) (Nat.le_of_ble_eq_true rfl)
      · refine lv_aload_n hx hb dX12_bridge_19 rfl (lv_at hl 0 rfl) ?_
        refine z_get Z i_X12 hP 0 rfl rfl 0 (by decide) bw_1019 rfl dX12_bridge_20 ?_
        refine lv_iconst (v := 1) hx hb dX12_bridge_23 (by decide) ?_
        refine z_iald Z hP 1 0 rfl rfl (vin (by decide)) dX12_bridge_24 ?_
        refine z_topi (y := 0) rfl ?_
        refine lv_iconst (v := 4) hx hb dX12_bridge_25 (by decide) ?_
        refine lv_icmp_ne (tgt := 31) hx hb dX12_bridge_26 (by decide) (fun c12 => ?_) (fun h => absurd h (by decide))
        refine lv_aload_n hx hb dX12_bridge_31 rfl (lv_at hl 0 rfl) ?_
        refine z_get Z i_X12 hP 0 rfl rfl 0 (by decide) bw_1019 rfl dX12_bridge_32 ?_
        refine lv_bipush (v := 16) hx hb dX12_bridge_35 (by decide) ?_
        refine lv_iconst (v := 2) hx hb dX12_bridge_37 (by decide) ?_
        refine lv_aload_n hx hb dX12_bridge_38 rfl (lv_at hl 0 rfl) ?_
        refine z_get Z i_X12 hP 0 rfl rfl 0 (by decide) bw_1019 rfl dX12_bridge_39 ?_
        refine lv_iconst (v := 1) hx hb dX12_bridge_42 (by decide) ?_
        refine z_iald Z hP 1 0 rfl rfl (vin (by decide)) dX12_bridge_43 ?_
        refine z_topi (y := 0) rfl ?_
        refine lv_imul hx hb dX12_bridge_44 ?_
        refine z_topi (y := 0) (by decide) ?_
        refine lv_iadd hx hb dX12_bridge_45 ?_
        refine z_topi (y := 16) (by decide) ?_
        refine lv_iload_n hx hb dX12_bridge_46 rfl (lv_at hl 1 rfl) ?_
        refine z_iast Z hP hD hS 1 0 rfl rfl (vin (by decide)) dX12_bridge_47 (fun H locs hP hD hS => ?_)
        have hP : va_P D vwCl ([(q, .inr (12, [.ref aA, .ref aI, .ref aT, .ref aP, .int 0, .int (-1), .int (-1), .int 0, .int 0, .int 0, .int 0, .long 0, .int 0, .int 0, .int 0, .int 0, .ref pI, .int 0, .int 0, .int 0, .int 0, .int 0, .ref nM, .ref vA, .ref tR, .int 0, .int 0, .int 0, .ref rW, .ref sP, .ref oA, .ref bS, .ref aS, .ref aO, .ref cS, .ref wY])), (aA, .inl (cI, 862, .inl (upd af0 (16 : Int32).toNatClampNeg p0)))]) H := hP
        have hD : va_D A ([(q, .inr (12, [.ref aA, .ref aI, .ref aT, .ref aP, .int 0, .int (-1), .int (-1), .int 0, .int 0, .int 0, .int 0, .long 0, .int 0, .int 0, .int 0, .int 0, .ref pI, .int 0, .int 0, .int 0, .int 0, .int 0, .ref nM, .ref vA, .ref tR, .int 0, .int 0, .int 0, .ref rW, .ref sP, .ref oA, .ref bS, .ref aS, .ref aO, .ref cS, .ref wY])), (aA, .inl (cI, 862, .inl (upd af0 (16 : Int32).toNatClampNeg p0)))]) := hD
        refine lv_aload_n hx hb dX12_bridge_48 rfl (lv_at hl 0 rfl) ?_
        refine z_get Z i_X12 hP 0 rfl rfl 0 (by decide) bw_1019 rfl dX12_bridge_49 ?_
        refine lv_bipush (v := 16) hx hb dX12_bridge_52 (by decide) ?_
        refine lv_iconst (v := 2) hx hb dX12_bridge_54 (by decide) ?_
        refine lv_aload_n hx hb dX12_bridge_55 rfl (lv_at hl 0 rfl) ?_
        refine z_get Z i_X12 hP 0 rfl rfl 0 (by decide) bw_1019 rfl dX12_bridge_56 ?_
        refine lv_iconst (v := 1) hx hb dX12_bridge_59 (by decide) ?_
        refine z_iald Z hP 1 0 rfl rfl (vin (by decide)) dX12_bridge_60 ?_
        refine z_topi (y := 0) ((pk_un (by decide)).trans rfl) ?_
        refine lv_imul hx hb dX12_bridge_61 ?_
        refine z_topi (y := 0) (by decide) ?_
        refine lv_iadd hx hb dX12_bridge_62 ?_
        refine z_topi (y := 16) (by decide) ?_
        refine lv_iconst (v := 1) hx hb dX12_bridge_63 (by decide) ?_
        refine lv_iadd hx hb dX12_bridge_64 ?_
        refine z_topi (y := 17) (by decide) ?_
        refine lv_iload_n hx hb dX12_bridge_65 rfl (lv_at hl 2 rfl) ?_
        refine z_iast Z hP hD hS 1 0 rfl rfl (vin (by decide)) dX12_bridge_66 (fun H locs hP hD hS => ?_)
        have hP : va_P D vwCl ([(q, .inr (12, [.ref aA, .ref aI, .ref aT, .ref aP, .int 0, .int (-1), .int (-1), .int 0, .int 0, .int 0, .int 0, .long 0, .int 0, .int 0, .int 0, .int 0, .ref pI, .int 0, .int 0, .int 0, .int 0, .int 0, .ref nM, .ref vA, .ref tR, .int 0, .int 0, .int 0, .ref rW, .ref sP, .ref oA, .ref bS, .ref aS, .ref aO, .ref cS, .ref wY])), (aA, .inl (cI, 862, .inl (upd (upd af0 (16 : Int32).toNatClampNeg p0) (17 : Int32).toNatClampNeg p1)))]) H := hP
        have hD : va_D A ([(q, .inr (12, [.ref aA, .ref aI, .ref aT, .ref aP, .int 0, .int (-1), .int (-1), .int 0, .int 0, .int 0, .int 0, .long 0, .int 0, .int 0, .int 0, .int 0, .ref pI, .int 0, .int 0, .int 0, .int 0, .int 0, .ref nM, .ref vA, .ref tR, .int 0, .int 0, .int 0, .ref rW, .ref sP, .ref oA, .ref bS, .ref aS, .ref aO, .ref cS, .ref wY])), (aA, .inl (cI, 862, .inl (upd (upd af0 (16 : Int32).toNatClampNeg p0) (17 : Int32).toNatClampNeg p1)))]) := hD
        refine lv_aload_n hx hb dX12_bridge_67 rfl (lv_at hl 0 rfl) ?_
        refine z_get Z i_X12 hP 0 rfl rfl 0 (by decide) bw_1019 rfl dX12_bridge_68 ?_
        refine lv_iconst (v := 1) hx hb dX12_bridge_71 (by decide) ?_
        refine lv_dup2_11 hx hb dX12_bridge_72 rfl rfl ?_
        refine z_iald Z hP 1 0 rfl rfl (vin (by decide)) dX12_bridge_73 ?_
        refine z_topi (y := 0) ((pk_un (by decide)).trans ((pk_un (by decide)).trans rfl)) ?_
        refine lv_iconst (v := 1) hx hb dX12_bridge_74 (by decide) ?_
        refine lv_iadd hx hb dX12_bridge_75 ?_
        refine z_topi (y := 1) (by decide) ?_
        refine z_iast Z hP hD hS 1 0 rfl rfl (vin (by decide)) dX12_bridge_76 (fun H locs hP hD hS => ?_)
        have hP : va_P D vwCl ([(q, .inr (12, [.ref aA, .ref aI, .ref aT, .ref aP, .int 0, .int (-1), .int (-1), .int 0, .int 0, .int 0, .int 0, .long 0, .int 0, .int 0, .int 0, .int 0, .ref pI, .int 0, .int 0, .int 0, .int 0, .int 0, .ref nM, .ref vA, .ref tR, .int 0, .int 0, .int 0, .ref rW, .ref sP, .ref oA, .ref bS, .ref aS, .ref aO, .ref cS, .ref wY])), (aA, .inl (cI, 862, .inl (upd (upd (upd af0 (16 : Int32).toNatClampNeg p0) (17 : Int32).toNatClampNeg p1) (1 : Int32).toNatClampNeg 1)))]) H := hP
        have hD : va_D A ([(q, .inr (12, [.ref aA, .ref aI, .ref aT, .ref aP, .int 0, .int (-1), .int (-1), .int 0, .int 0, .int 0, .int 0, .long 0, .int 0, .int 0, .int 0, .int 0, .ref pI, .int 0, .int 0, .int 0, .int 0, .int 0, .ref nM, .ref vA, .ref tR, .int 0, .int 0, .int 0, .ref rW, .ref sP, .ref oA, .ref bS, .ref aS, .ref aO, .ref cS, .ref wY])), (aA, .inl (cI, 862, .inl (upd (upd (upd af0 (16 : Int32).toNatClampNeg p0) (17 : Int32).toNatClampNeg p1) (1 : Int32).toNatClampNeg 1)))]) := hD
        refine lv_aload_n hx hb dX12_bridge_77 rfl (lv_at hl 0 rfl) ?_
        refine z_get Z i_X12 hP 0 rfl rfl 0 (by decide) bw_1019 rfl dX12_bridge_78 ?_
        refine lv_iconst (v := 1) hx hb dX12_bridge_81 (by decide) ?_
        refine z_iald Z hP 1 0 rfl rfl (vin (by decide)) dX12_bridge_82 ?_
        refine z_topi (y := 1) pk_us ?_
        exact z_ret Z rfl hP hD hS ((by first | rfl | assumption | (rw [if_pos (by (try simp only [zlt, zle, zeq, zl_0, zl_1, zl_2, zl_3, zl_4, zl_5, zl_6, zl_7, zl_8, zl_9, zl_10, zl_11, zl_12, zl_13, zl_19, zl_20, zl_30, zl_64, zl_99, zl_100, zl_299, zl_300, zl_399, zl_999, zl_9999, zl_m1, zl_m2, zl_m3, zl_32, zl_280] at c4 c5 c9 c10 c11 c12 ⊢); omega)]; first | done | ((try simp only [zlt, zle, zeq, zl_0, zl_1, zl_2, zl_3, zl_4, zl_5, zl_6, zl_7, zl_8, zl_9, zl_10, zl_11, zl_12, zl_13, zl_19, zl_20, zl_30, zl_64, zl_99, zl_100, zl_299, zl_300, zl_399, zl_999, zl_9999, zl_m1, zl_m2, zl_m3, zl_32, zl_280] at c4 c5 c9 c10 c11 c12 ⊢); omega)) | (rw [if_neg (by (try simp only [zlt, zle, zeq, zl_0, zl_1, zl_2, zl_3, zl_4, zl_5, zl_6, zl_7, zl_8, zl_9, zl_10, zl_11, zl_12, zl_13, zl_19, zl_20, zl_30, zl_64, zl_99, zl_100, zl_299, zl_300, zl_399, zl_999, zl_9999, zl_m1, zl_m2, zl_m3, zl_32, zl_280] at c4 c5 c9 c10 c11 c12 ⊢); omega)]; first | done | ((try simp only [zlt, zle, zeq, zl_0, zl_1, zl_2, zl_3, zl_4, zl_5, zl_6, zl_7, zl_8, zl_9, zl_10, zl_11, zl_12, zl_13, zl_19, zl_20, zl_30, zl_64, zl_99, zl_100, zl_299, zl_300, zl_399, zl_999, zl_9999, zl_m1, zl_m2, zl_m3, zl_32, zl_280] at c4 c5 c9 c10 c11 c12 ⊢); omega)))) dX12_bridge_83 (Nat.le_of_ble_eq_true rfl) (Nat.le_of_ble_eq_true rfl)
    · obtain rfl : r7 = 0 := by rw [hrh8, if_neg c9]
      refine lv_if_eq (tgt := 29) hx hb dX12_bridge_11 (by decide) (fun c13 => ?_) (fun h => absurd (by decide) h)
      refine lv_iconst (v := (-1)) hx hb dX12_bridge_29 (by decide) ?_
      exact z_ret Z rfl hP hD hS ((by first | rfl | assumption | (rw [if_pos (by (try simp only [zlt, zle, zeq, zl_0, zl_1, zl_2, zl_3, zl_4, zl_5, zl_6, zl_7, zl_8, zl_9, zl_10, zl_11, zl_12, zl_13, zl_19, zl_20, zl_30, zl_64, zl_99, zl_100, zl_299, zl_300, zl_399, zl_999, zl_9999, zl_m1, zl_m2, zl_m3, zl_32, zl_280] at c4 c5 c9 c13 ⊢); omega)]; first | done | ((try simp only [zlt, zle, zeq, zl_0, zl_1, zl_2, zl_3, zl_4, zl_5, zl_6, zl_7, zl_8, zl_9, zl_10, zl_11, zl_12, zl_13, zl_19, zl_20, zl_30, zl_64, zl_99, zl_100, zl_299, zl_300, zl_399, zl_999, zl_9999, zl_m1, zl_m2, zl_m3, zl_32, zl_280] at c4 c5 c9 c13 ⊢); omega)) | (rw [if_neg (by (try simp only [zlt, zle, zeq, zl_0, zl_1, zl_2, zl_3, zl_4, zl_5, zl_6, zl_7, zl_8, zl_9, zl_10, zl_11, zl_12, zl_13, zl_19, zl_20, zl_30, zl_64, zl_99, zl_100, zl_299, zl_300, zl_399, zl_999, zl_9999, zl_m1, zl_m2, zl_m3, zl_32, zl_280] at c4 c5 c9 c13 ⊢); omega)]; first | done | ((try simp only [zlt, zle, zeq, zl_0, zl_1, zl_2, zl_3, zl_4, zl_5, zl_6, zl_7, zl_8, zl_9, zl_10, zl_11, zl_12, zl_13, zl_19, zl_20, zl_30, zl_64, zl_99, zl_100, zl_299, zl_300, zl_399, zl_999, zl_9999, zl_m1, zl_m2, zl_m3, zl_32, zl_280] at c4 c5 c9 c13 ⊢); omega)))) dX12_bridge_30 (Nat.le_of_ble_eq_true rfl) (Nat.le_of_ble_eq_true rfl)
  · obtain rfl : r2 = 0 := by rw [hrh3, if_neg c4]
    refine lv_if_eq (tgt := 29) hx hb dX12_bridge_4 (by decide) (fun c14 => ?_) (fun h => absurd (by decide) h)
    refine lv_iconst (v := (-1)) hx hb dX12_bridge_29 (by decide) ?_
    exact z_ret Z rfl hP hD hS ((by first | rfl | assumption | (rw [if_pos (by (try simp only [zlt, zle, zeq, zl_0, zl_1, zl_2, zl_3, zl_4, zl_5, zl_6, zl_7, zl_8, zl_9, zl_10, zl_11, zl_12, zl_13, zl_19, zl_20, zl_30, zl_64, zl_99, zl_100, zl_299, zl_300, zl_399, zl_999, zl_9999, zl_m1, zl_m2, zl_m3, zl_32, zl_280] at c4 c14 ⊢); omega)]; first | done | ((try simp only [zlt, zle, zeq, zl_0, zl_1, zl_2, zl_3, zl_4, zl_5, zl_6, zl_7, zl_8, zl_9, zl_10, zl_11, zl_12, zl_13, zl_19, zl_20, zl_30, zl_64, zl_99, zl_100, zl_299, zl_300, zl_399, zl_999, zl_9999, zl_m1, zl_m2, zl_m3, zl_32, zl_280] at c4 c14 ⊢); omega)) | (rw [if_neg (by (try simp only [zlt, zle, zeq, zl_0, zl_1, zl_2, zl_3, zl_4, zl_5, zl_6, zl_7, zl_8, zl_9, zl_10, zl_11, zl_12, zl_13, zl_19, zl_20, zl_30, zl_64, zl_99, zl_100, zl_299, zl_300, zl_399, zl_999, zl_9999, zl_m1, zl_m2, zl_m3, zl_32, zl_280] at c4 c14 ⊢); omega)]; first | done | ((try simp only [zlt, zle, zeq, zl_0, zl_1, zl_2, zl_3, zl_4, zl_5, zl_6, zl_7, zl_8, zl_9, zl_10, zl_11, zl_12, zl_13, zl_19, zl_20, zl_30, zl_64, zl_99, zl_100, zl_299, zl_300, zl_399, zl_999, zl_9999, zl_m1, zl_m2, zl_m3, zl_32, zl_280] at c4 c14 ⊢); omega)))) dX12_bridge_30 (Nat.le_of_ble_eq_true rfl) (Nat.le_of_ble_eq_true rfl)
set_option maxHeartbeats 4000000 in
set_option maxRecDepth 100000 in
theorem c_X12_inn (l : Launch) (D : va_G) (cI cM cT : ClassId) (q : Nat) (aA : Nat) (aI : Nat) (aT : Nat) (aP : Nat) (pI : Nat) (nM : Nat) (vA : Nat) (tR : Nat) (rW : Nat) (sP : Nat) (oA : Nat) (bS : Nat) (aS : Nat) (aO : Nat) (cS : Nat) (wY : Nat) (p0 : Int32) : Ci l D (ty3 cI cM cT) yX12_inn cX12_inn 2 (some .int) 3 0 0 [.ref q, .int p0] ([(q, .inr (12, [.ref aA, .ref aI, .ref aT, .ref aP, .int 0, .int (-1), .int (-1), .int 0, .int 0, .int 0, .int 0, .long 0, .int 0, .int 0, .int 0, .int 0, .ref pI, .int 0, .int 0, .int 0, .int 0, .int 0, .ref nM, .ref vA, .ref tR, .int 0, .int 0, .int 0, .ref rW, .ref sP, .ref oA, .ref bS, .ref aS, .ref aO, .ref cS, .ref wY])), (aA, .inl (cI, 862, .inl af0))]) (fun r u => r = (if 0 ≤ p0 ∧ p0 < 300 then 1 else (-1))) := by
  refine Ci.of (by decide +kernel) (Nat.le_of_ble_eq_true rfl) ?_
  intro p e s m below meth c A ls Z hin hP hD hl
  have hx := Z.1
  have hb := Z.2.1
  have hS : va_S A s.heap s.heap [] := va_S.rf
  have hl : lv_has ls 2 [(0, .ref q), (1, .int p0)] := hl
  skip
  refine lv_iload_n hx hb dX12_inn_0 rfl (lv_at hl 1 rfl) ?_
  have hPc := hP.sub2 (wc := []) [] rfl
  have hDc := hD.sub (ws' := []) [] (by decide) rfl
  refine raw_Si (nA := 1) (As := [.int p0]) (rest := []) Z hl.1 (c_X12_isPlace l D cI cM cT p0) (bw_S bw_1132 bw_1133 bw_92 bw_1134) ⟨by decide +kernel, by decide +kernel, by decide +kernel⟩ rfl ⟨Nat.le_of_ble_eq_true rfl, Nat.le_of_ble_eq_true rfl⟩ hPc hDc hS rfl (Nat.le_of_ble_eq_true rfl) dX12_inn_1 ⟨Nat.le_of_ble_eq_true rfl, Nat.le_of_ble_eq_true rfl⟩ (fun r2 u1 H1 locs1 h3 hku1 hP1 hD1 hS1 => ?_)
  obtain ⟨hrh3, rfl⟩ := h3
  obtain ⟨hP, hD⟩ := z_join (wr := [(q, .inr (12, [.ref aA, .ref aI, .ref aT, .ref aP, .int 0, .int (-1), .int (-1), .int 0, .int 0, .int 0, .int 0, .long 0, .int 0, .int 0, .int 0, .int 0, .ref pI, .int 0, .int 0, .int 0, .int 0, .int 0, .ref nM, .ref vA, .ref tR, .int 0, .int 0, .int 0, .ref rW, .ref sP, .ref oA, .ref bS, .ref aS, .ref aO, .ref cS, .ref wY])), (aA, .inl (cI, 862, .inl af0))]) Z hS hP hD [] [0, 1] rfl (by decide) rfl (by decide) (by decide) hku1 hP1 hD1
  have hS := hS1
  clear hS1
  generalize H1 = H at hP hS ⊢
  generalize locs1 = locs at hS ⊢
  have hP : va_P D vwCl ([(q, .inr (12, [.ref aA, .ref aI, .ref aT, .ref aP, .int 0, .int (-1), .int (-1), .int 0, .int 0, .int 0, .int 0, .long 0, .int 0, .int 0, .int 0, .int 0, .ref pI, .int 0, .int 0, .int 0, .int 0, .int 0, .ref nM, .ref vA, .ref tR, .int 0, .int 0, .int 0, .ref rW, .ref sP, .ref oA, .ref bS, .ref aS, .ref aO, .ref cS, .ref wY])), (aA, .inl (cI, 862, .inl af0))]) H := hP
  have hD : va_D A ([(q, .inr (12, [.ref aA, .ref aI, .ref aT, .ref aP, .int 0, .int (-1), .int (-1), .int 0, .int 0, .int 0, .int 0, .long 0, .int 0, .int 0, .int 0, .int 0, .ref pI, .int 0, .int 0, .int 0, .int 0, .int 0, .ref nM, .ref vA, .ref tR, .int 0, .int 0, .int 0, .ref rW, .ref sP, .ref oA, .ref bS, .ref aS, .ref aO, .ref cS, .ref wY])), (aA, .inl (cI, 862, .inl af0))]) := hD
  by_cases c4 : 0 ≤ p0 ∧ p0 ≤ 299
  · obtain rfl : r2 = 1 := by rw [hrh3, if_pos c4]
    refine lv_if_eq (tgt := 18) hx hb dX12_inn_4 (by decide) (fun h => absurd h (by decide)) (fun c5 => ?_)
    refine lv_aload_n hx hb dX12_inn_7 rfl (lv_at hl 0 rfl) ?_
    refine z_get Z i_X12 hP 0 rfl rfl 0 (by decide) bw_1019 rfl dX12_inn_8 ?_
    refine lv_iconst (v := 2) hx hb dX12_inn_11 (by decide) ?_
    refine z_iald Z hP 1 0 rfl rfl (vin (by decide)) dX12_inn_12 ?_
    refine z_topi (y := 0) rfl ?_
    refine lv_bipush (v := 10) hx hb dX12_inn_13 (by decide) ?_
    refine lv_icmp_ne (tgt := 20) hx hb dX12_inn_15 (by decide) (fun c6 => ?_) (fun h => absurd h (by decide))
    refine lv_aload_n hx hb dX12_inn_20 rfl (lv_at hl 0 rfl) ?_
    refine z_get Z i_X12 hP 0 rfl rfl 0 (by decide) bw_1019 rfl dX12_inn_21 ?_
    refine lv_bipush (v := 24) hx hb dX12_inn_24 (by decide) ?_
    refine lv_aload_n hx hb dX12_inn_26 rfl (lv_at hl 0 rfl) ?_
    refine z_get Z i_X12 hP 0 rfl rfl 0 (by decide) bw_1019 rfl dX12_inn_27 ?_
    refine lv_iconst (v := 2) hx hb dX12_inn_30 (by decide) ?_
    refine z_iald Z hP 1 0 rfl rfl (vin (by decide)) dX12_inn_31 ?_
    refine z_topi (y := 0) rfl ?_
    refine lv_iadd hx hb dX12_inn_32 ?_
    refine z_topi (y := 24) (by decide) ?_
    refine lv_iload_n hx hb dX12_inn_33 rfl (lv_at hl 1 rfl) ?_
    refine z_iast Z hP hD hS 1 0 rfl rfl (vin (by decide)) dX12_inn_34 (fun H locs hP hD hS => ?_)
    have hP : va_P D vwCl ([(q, .inr (12, [.ref aA, .ref aI, .ref aT, .ref aP, .int 0, .int (-1), .int (-1), .int 0, .int 0, .int 0, .int 0, .long 0, .int 0, .int 0, .int 0, .int 0, .ref pI, .int 0, .int 0, .int 0, .int 0, .int 0, .ref nM, .ref vA, .ref tR, .int 0, .int 0, .int 0, .ref rW, .ref sP, .ref oA, .ref bS, .ref aS, .ref aO, .ref cS, .ref wY])), (aA, .inl (cI, 862, .inl (upd af0 (24 : Int32).toNatClampNeg p0)))]) H := hP
    have hD : va_D A ([(q, .inr (12, [.ref aA, .ref aI, .ref aT, .ref aP, .int 0, .int (-1), .int (-1), .int 0, .int 0, .int 0, .int 0, .long 0, .int 0, .int 0, .int 0, .int 0, .ref pI, .int 0, .int 0, .int 0, .int 0, .int 0, .ref nM, .ref vA, .ref tR, .int 0, .int 0, .int 0, .ref rW, .ref sP, .ref oA, .ref bS, .ref aS, .ref aO, .ref cS, .ref wY])), (aA, .inl (cI, 862, .inl (upd af0 (24 : Int32).toNatClampNeg p0)))]) := hD
    refine lv_aload_n hx hb dX12_inn_35 rfl (lv_at hl 0 rfl) ?_
    refine z_get Z i_X12 hP 0 rfl rfl 0 (by decide) bw_1019 rfl dX12_inn_36 ?_
    refine lv_iconst (v := 2) hx hb dX12_inn_39 (by decide) ?_
    refine lv_dup2_11 hx hb dX12_inn_40 rfl rfl ?_
    refine z_iald Z hP 1 0 rfl rfl (vin (by decide)) dX12_inn_41 ?_
    refine z_topi (y := 0) ((pk_un (by decide)).trans rfl) ?_
    refine lv_iconst (v := 1) hx hb dX12_inn_42 (by decide) ?_
    refine lv_iadd hx hb dX12_inn_43 ?_
    refine z_topi (y := 1) (by decide) ?_
    refine z_iast Z hP hD hS 1 0 rfl rfl (vin (by decide)) dX12_inn_44 (fun H locs hP hD hS => ?_)
    have hP : va_P D vwCl ([(q, .inr (12, [.ref aA, .ref aI, .ref aT, .ref aP, .int 0, .int (-1), .int (-1), .int 0, .int 0, .int 0, .int 0, .long 0, .int 0, .int 0, .int 0, .int 0, .ref pI, .int 0, .int 0, .int 0, .int 0, .int 0, .ref nM, .ref vA, .ref tR, .int 0, .int 0, .int 0, .ref rW, .ref sP, .ref oA, .ref bS, .ref aS, .ref aO, .ref cS, .ref wY])), (aA, .inl (cI, 862, .inl (upd (upd af0 (24 : Int32).toNatClampNeg p0) (2 : Int32).toNatClampNeg 1)))]) H := hP
    have hD : va_D A ([(q, .inr (12, [.ref aA, .ref aI, .ref aT, .ref aP, .int 0, .int (-1), .int (-1), .int 0, .int 0, .int 0, .int 0, .long 0, .int 0, .int 0, .int 0, .int 0, .ref pI, .int 0, .int 0, .int 0, .int 0, .int 0, .ref nM, .ref vA, .ref tR, .int 0, .int 0, .int 0, .ref rW, .ref sP, .ref oA, .ref bS, .ref aS, .ref aO, .ref cS, .ref wY])), (aA, .inl (cI, 862, .inl (upd (upd af0 (24 : Int32).toNatClampNeg p0) (2 : Int32).toNatClampNeg 1)))]) := hD
    refine lv_aload_n hx hb dX12_inn_45 rfl (lv_at hl 0 rfl) ?_
    refine z_get Z i_X12 hP 0 rfl rfl 0 (by decide) bw_1019 rfl dX12_inn_46 ?_
    refine lv_iconst (v := 2) hx hb dX12_inn_49 (by decide) ?_
    refine z_iald Z hP 1 0 rfl rfl (vin (by decide)) dX12_inn_50 ?_
    refine z_topi (y := 1) pk_us ?_
    exact z_ret Z rfl hP hD hS ((by first | rfl | assumption | (rw [if_pos (by (try simp only [zlt, zle, zeq, zl_0, zl_1, zl_2, zl_3, zl_4, zl_5, zl_6, zl_7, zl_8, zl_9, zl_10, zl_11, zl_12, zl_13, zl_19, zl_20, zl_30, zl_64, zl_99, zl_100, zl_299, zl_300, zl_399, zl_999, zl_9999, zl_m1, zl_m2, zl_m3, zl_32, zl_280] at c4 c5 c6 ⊢); omega)]; first | done | ((try simp only [zlt, zle, zeq, zl_0, zl_1, zl_2, zl_3, zl_4, zl_5, zl_6, zl_7, zl_8, zl_9, zl_10, zl_11, zl_12, zl_13, zl_19, zl_20, zl_30, zl_64, zl_99, zl_100, zl_299, zl_300, zl_399, zl_999, zl_9999, zl_m1, zl_m2, zl_m3, zl_32, zl_280] at c4 c5 c6 ⊢); omega)) | (rw [if_neg (by (try simp only [zlt, zle, zeq, zl_0, zl_1, zl_2, zl_3, zl_4, zl_5, zl_6, zl_7, zl_8, zl_9, zl_10, zl_11, zl_12, zl_13, zl_19, zl_20, zl_30, zl_64, zl_99, zl_100, zl_299, zl_300, zl_399, zl_999, zl_9999, zl_m1, zl_m2, zl_m3, zl_32, zl_280] at c4 c5 c6 ⊢); omega)]; first | done | ((try simp only [zlt, zle, zeq, zl_0, zl_1, zl_2, zl_3, zl_4, zl_5, zl_6, zl_7, zl_8, zl_9, zl_10, zl_11, zl_12, zl_13, zl_19, zl_20, zl_30, zl_64, zl_99, zl_100, zl_299, zl_300, zl_399, zl_999, zl_9999, zl_m1, zl_m2, zl_m3, zl_32, zl_280] at c4 c5 c6 ⊢); omega)))) dX12_inn_51 (Nat.le_of_ble_eq_true rfl) (Nat.le_of_ble_eq_true rfl)
  · obtain rfl : r2 = 0 := by rw [hrh3, if_neg c4]
    refine lv_if_eq (tgt := 18) hx hb dX12_inn_4 (by decide) (fun c7 => ?_) (fun h => absurd (by decide) h)
    refine lv_iconst (v := (-1)) hx hb dX12_inn_18 (by decide) ?_
    exact z_ret Z rfl hP hD hS ((by first | rfl | assumption | (rw [if_pos (by (try simp only [zlt, zle, zeq, zl_0, zl_1, zl_2, zl_3, zl_4, zl_5, zl_6, zl_7, zl_8, zl_9, zl_10, zl_11, zl_12, zl_13, zl_19, zl_20, zl_30, zl_64, zl_99, zl_100, zl_299, zl_300, zl_399, zl_999, zl_9999, zl_m1, zl_m2, zl_m3, zl_32, zl_280] at c4 c7 ⊢); omega)]; first | done | ((try simp only [zlt, zle, zeq, zl_0, zl_1, zl_2, zl_3, zl_4, zl_5, zl_6, zl_7, zl_8, zl_9, zl_10, zl_11, zl_12, zl_13, zl_19, zl_20, zl_30, zl_64, zl_99, zl_100, zl_299, zl_300, zl_399, zl_999, zl_9999, zl_m1, zl_m2, zl_m3, zl_32, zl_280] at c4 c7 ⊢); omega)) | (rw [if_neg (by (try simp only [zlt, zle, zeq, zl_0, zl_1, zl_2, zl_3, zl_4, zl_5, zl_6, zl_7, zl_8, zl_9, zl_10, zl_11, zl_12, zl_13, zl_19, zl_20, zl_30, zl_64, zl_99, zl_100, zl_299, zl_300, zl_399, zl_999, zl_9999, zl_m1, zl_m2, zl_m3, zl_32, zl_280] at c4 c7 ⊢); omega)]; first | done | ((try simp only [zlt, zle, zeq, zl_0, zl_1, zl_2, zl_3, zl_4, zl_5, zl_6, zl_7, zl_8, zl_9, zl_10, zl_11, zl_12, zl_13, zl_19, zl_20, zl_30, zl_64, zl_99, zl_100, zl_299, zl_300, zl_399, zl_999, zl_9999, zl_m1, zl_m2, zl_m3, zl_32, zl_280] at c4 c7 ⊢); omega)))) dX12_inn_19 (Nat.le_of_ble_eq_true rfl) (Nat.le_of_ble_eq_true rfl)
set_option maxHeartbeats 4000000 in
set_option maxRecDepth 100000 in
theorem c_X12_move (l : Launch) (D : va_G) (cI cM cT : ClassId) (q : Nat) (aA : Nat) (aI : Nat) (aT : Nat) (aP : Nat) (pI : Nat) (nM : Nat) (vA : Nat) (tR : Nat) (rW : Nat) (sP : Nat) (oA : Nat) (bS : Nat) (aS : Nat) (aO : Nat) (cS : Nat) (wY : Nat) (p0 : Int32) (p1 : Int32) : Ci l D (ty3 cI cM cT) yX12_move cX12_move 3 (some .boolean) 3 0 0 [.ref q, .int p0, .int p1] ([(q, .inr (12, [.ref aA, .ref aI, .ref aT, .ref aP, .int 0, .int (-1), .int (-1), .int 0, .int 0, .int 0, .int 0, .long 0, .int 0, .int 0, .int 0, .int 0, .ref pI, .int 0, .int 0, .int 0, .int 0, .int 0, .ref nM, .ref vA, .ref tR, .int 0, .int 0, .int 0, .ref rW, .ref sP, .ref oA, .ref bS, .ref aS, .ref aO, .ref cS, .ref wY])), (aA, .inl (cI, 862, .inl af0))]) (fun r u => r = 0) := by
  refine Ci.of (by decide +kernel) (Nat.le_of_ble_eq_true rfl) ?_
  intro p e s m below meth c A ls Z hin hP hD hl
  have hx := Z.1
  have hb := Z.2.1
  have hS : va_S A s.heap s.heap [] := va_S.rf
  have hl : lv_has ls 3 [(0, .ref q), (1, .int p0), (2, .int p1)] := hl
  skip
  refine lv_iload_n hx hb dX12_move_0 rfl (lv_at hl 1 rfl) ?_
  refine lv_iconst (v := 0) hx hb dX12_move_1 (by decide) ?_
  refine lv_aload_n hx hb dX12_move_2 rfl (lv_at hl 0 rfl) ?_
  refine z_get Z i_X12 hP 0 rfl rfl 0 (by decide) bw_1019 rfl dX12_move_3 ?_
  refine lv_iconst (v := 2) hx hb dX12_move_6 (by decide) ?_
  refine z_iald Z hP 1 0 rfl rfl (vin (by decide)) dX12_move_7 ?_
  refine z_topi (y := 0) rfl ?_
  refine lv_iconst (v := 1) hx hb dX12_move_8 (by decide) ?_
  refine lv_isub hx hb dX12_move_9 ?_
  refine z_topi (y := (-1)) (by decide) ?_
  have hPc := hP.sub2 (wc := []) [] rfl
  have hDc := hD.sub (ws' := []) [] (by decide) rfl
  refine raw_Si (nA := 3) (As := [.int p0, .int 0, .int (-1)]) (rest := []) Z hl.1 (c_X12_isIn l D cI cM cT p0 0 (-1)) (bw_S bw_1135 bw_1136 bw_92 bw_1137) ⟨by decide +kernel, by decide +kernel, by decide +kernel⟩ rfl ⟨Nat.le_of_ble_eq_true rfl, Nat.le_of_ble_eq_true rfl⟩ hPc hDc hS rfl (Nat.le_of_ble_eq_true rfl) dX12_move_10 ⟨Nat.le_of_ble_eq_true rfl, Nat.le_of_ble_eq_true rfl⟩ (fun r2 u1 H1 locs1 h3 hku1 hP1 hD1 hS1 => ?_)
  obtain ⟨hrh3, rfl⟩ := h3
  obtain ⟨hP, hD⟩ := z_join (wr := [(q, .inr (12, [.ref aA, .ref aI, .ref aT, .ref aP, .int 0, .int (-1), .int (-1), .int 0, .int 0, .int 0, .int 0, .long 0, .int 0, .int 0, .int 0, .int 0, .ref pI, .int 0, .int 0, .int 0, .int 0, .int 0, .ref nM, .ref vA, .ref tR, .int 0, .int 0, .int 0, .ref rW, .ref sP, .ref oA, .ref bS, .ref aS, .ref aO, .ref cS, .ref wY])), (aA, .inl (cI, 862, .inl af0))]) Z hS hP hD [] [0, 1] rfl (by decide) rfl (by decide) (by decide) hku1 hP1 hD1
  have hS := hS1
  clear hS1
  generalize H1 = H at hP hS ⊢
  generalize locs1 = locs at hS ⊢
  have hP : va_P D vwCl ([(q, .inr (12, [.ref aA, .ref aI, .ref aT, .ref aP, .int 0, .int (-1), .int (-1), .int 0, .int 0, .int 0, .int 0, .long 0, .int 0, .int 0, .int 0, .int 0, .ref pI, .int 0, .int 0, .int 0, .int 0, .int 0, .ref nM, .ref vA, .ref tR, .int 0, .int 0, .int 0, .ref rW, .ref sP, .ref oA, .ref bS, .ref aS, .ref aO, .ref cS, .ref wY])), (aA, .inl (cI, 862, .inl af0))]) H := hP
  have hD : va_D A ([(q, .inr (12, [.ref aA, .ref aI, .ref aT, .ref aP, .int 0, .int (-1), .int (-1), .int 0, .int 0, .int 0, .int 0, .long 0, .int 0, .int 0, .int 0, .int 0, .ref pI, .int 0, .int 0, .int 0, .int 0, .int 0, .ref nM, .ref vA, .ref tR, .int 0, .int 0, .int 0, .ref rW, .ref sP, .ref oA, .ref bS, .ref aS, .ref aO, .ref cS, .ref wY])), (aA, .inl (cI, 862, .inl af0))]) := hD
  obtain rfl : r2 = 0 := by rw [hrh3, if_neg (by simp only [zlt, zle, zeq, zl_0, zl_1, zl_2, zl_3, zl_4, zl_5, zl_6, zl_7, zl_8, zl_9, zl_10, zl_11, zl_12, zl_13, zl_19, zl_20, zl_30, zl_64, zl_99, zl_100, zl_299, zl_300, zl_399, zl_999, zl_9999, zl_m1, zl_m2, zl_m3, zl_32, zl_280]; omega)]
  refine lv_if_eq (tgt := 36) hx hb dX12_move_13 (by decide) (fun c5 => ?_) (fun h => absurd (by decide) h)
  refine lv_iconst (v := 0) hx hb dX12_move_36 (by decide) ?_
  exact z_ret Z rfl hP hD hS ((by first | rfl | assumption)) dX12_move_37 (Nat.le_of_ble_eq_true rfl) (Nat.le_of_ble_eq_true rfl)
set_option maxHeartbeats 4000000 in
set_option maxRecDepth 100000 in
theorem c_X12_horse (l : Launch) (D : va_G) (cI cM cT : ClassId) (q : Nat) (aA : Nat) (aI : Nat) (aT : Nat) (aP : Nat) (pI : Nat) (nM : Nat) (vA : Nat) (tR : Nat) (rW : Nat) (sP : Nat) (oA : Nat) (bS : Nat) (aS : Nat) (aO : Nat) (cS : Nat) (wY : Nat) (p0 : Int32) (p1 : Int32) : Ci l D (ty3 cI cM cT) yX12_horse cX12_horse 3 (some .int) 3 0 0 [.ref q, .int p0, .int p1] ([(q, .inr (12, [.ref aA, .ref aI, .ref aT, .ref aP, .int 0, .int (-1), .int (-1), .int 0, .int 0, .int 0, .int 0, .long 0, .int 0, .int 0, .int 0, .int 0, .ref pI, .int 0, .int 0, .int 0, .int 0, .int 0, .ref nM, .ref vA, .ref tR, .int 0, .int 0, .int 0, .ref rW, .ref sP, .ref oA, .ref bS, .ref aS, .ref aO, .ref cS, .ref wY])), (aA, .inl (cI, 862, .inl af0))]) (fun r u => r = (if (1 ≤ p0 ∧ p0 ≤ 99) ∧ (1 ≤ p1 ∧ p1 ≤ 9) then 0 else (-1))) := by
  refine Ci.of (by decide +kernel) (Nat.le_of_ble_eq_true rfl) ?_
  intro p e s m below meth c A ls Z hin hP hD hl
  have hx := Z.1
  have hb := Z.2.1
  have hS : va_S A s.heap s.heap [] := va_S.rf
  have hl : lv_has ls 3 [(0, .ref q), (1, .int p0), (2, .int p1)] := hl
  skip
  refine lv_iload_n hx hb dX12_horse_0 rfl (lv_at hl 1 rfl) ?_
  refine lv_iconst (v := 1) hx hb dX12_horse_1 (by decide) ?_
  refine lv_bipush (v := 99) hx hb dX12_horse_2 (by decide) ?_
  have hPc := hP.sub2 (wc := []) [] rfl
  have hDc := hD.sub (ws' := []) [] (by decide) rfl
  refine raw_Si (nA := 3) (As := [.int p0, .int 1, .int 99]) (rest := []) Z hl.1 (c_X12_isIn l D cI cM cT p0 1 99) (bw_S bw_1135 bw_1136 bw_92 bw_1137) ⟨by decide +kernel, by decide +kernel, by decide +kernel⟩ rfl ⟨Nat.le_of_ble_eq_true rfl, Nat.le_of_ble_eq_true rfl⟩ hPc hDc hS rfl (Nat.le_of_ble_eq_true rfl) dX12_horse_4 ⟨Nat.le_of_ble_eq_true rfl, Nat.le_of_ble_eq_true rfl⟩ (fun r2 u1 H1 locs1 h3 hku1 hP1 hD1 hS1 => ?_)
  obtain ⟨hrh3, rfl⟩ := h3
  obtain ⟨hP, hD⟩ := z_join (wr := [(q, .inr (12, [.ref aA, .ref aI, .ref aT, .ref aP, .int 0, .int (-1), .int (-1), .int 0, .int 0, .int 0, .int 0, .long 0, .int 0, .int 0, .int 0, .int 0, .ref pI, .int 0, .int 0, .int 0, .int 0, .int 0, .ref nM, .ref vA, .ref tR, .int 0, .int 0, .int 0, .ref rW, .ref sP, .ref oA, .ref bS, .ref aS, .ref aO, .ref cS, .ref wY])), (aA, .inl (cI, 862, .inl af0))]) Z hS hP hD [] [0, 1] rfl (by decide) rfl (by decide) (by decide) hku1 hP1 hD1
  have hS := hS1
  clear hS1
  generalize H1 = H at hP hS ⊢
  generalize locs1 = locs at hS ⊢
  have hP : va_P D vwCl ([(q, .inr (12, [.ref aA, .ref aI, .ref aT, .ref aP, .int 0, .int (-1), .int (-1), .int 0, .int 0, .int 0, .int 0, .long 0, .int 0, .int 0, .int 0, .int 0, .ref pI, .int 0, .int 0, .int 0, .int 0, .int 0, .ref nM, .ref vA, .ref tR, .int 0, .int 0, .int 0, .ref rW, .ref sP, .ref oA, .ref bS, .ref aS, .ref aO, .ref cS, .ref wY])), (aA, .inl (cI, 862, .inl af0))]) H := hP
  have hD : va_D A ([(q, .inr (12, [.ref aA, .ref aI, .ref aT, .ref aP, .int 0, .int (-1), .int (-1), .int 0, .int 0, .int 0, .int 0, .long 0, .int 0, .int 0, .int 0, .int 0, .ref pI, .int 0, .int 0, .int 0, .int 0, .int 0, .ref nM, .ref vA, .ref tR, .int 0, .int 0, .int 0, .ref rW, .ref sP, .ref oA, .ref bS, .ref aS, .ref aO, .ref cS, .ref wY])), (aA, .inl (cI, 862, .inl af0))]) := hD
  by_cases c4 : 1 ≤ p0 ∧ p0 ≤ 99
  · obtain rfl : r2 = 1 := by rw [hrh3, if_pos c4]
    refine lv_if_eq (tgt := 31) hx hb dX12_horse_7 (by decide) (fun h => absurd h (by decide)) (fun c5 => ?_)
    refine lv_iload_n hx hb dX12_horse_10 rfl (lv_at hl 2 rfl) ?_
    refine lv_iconst (v := 1) hx hb dX12_horse_11 (by decide) ?_
    refine lv_bipush (v := 9) hx hb dX12_horse_12 (by decide) ?_
    have hPc := hP.sub2 (wc := []) [] rfl
    have hDc := hD.sub (ws' := []) [] (by decide) rfl
    refine raw_Si (nA := 3) (As := [.int p1, .int 1, .int 9]) (rest := []) Z hl.1 (c_X12_isIn l D cI cM cT p1 1 9) (bw_S bw_1135 bw_1136 bw_92 bw_1137) ⟨by decide +kernel, by decide +kernel, by decide +kernel⟩ rfl ⟨Nat.le_of_ble_eq_true rfl, Nat.le_of_ble_eq_true rfl⟩ hPc hDc hS rfl (Nat.le_of_ble_eq_true rfl) dX12_horse_14 ⟨Nat.le_of_ble_eq_true rfl, Nat.le_of_ble_eq_true rfl⟩ (fun r7 u6 H1 locs1 h8 hku6 hP1 hD1 hS1 => ?_)
    obtain ⟨hrh8, rfl⟩ := h8
    obtain ⟨hP, hD⟩ := z_join (wr := [(q, .inr (12, [.ref aA, .ref aI, .ref aT, .ref aP, .int 0, .int (-1), .int (-1), .int 0, .int 0, .int 0, .int 0, .long 0, .int 0, .int 0, .int 0, .int 0, .ref pI, .int 0, .int 0, .int 0, .int 0, .int 0, .ref nM, .ref vA, .ref tR, .int 0, .int 0, .int 0, .ref rW, .ref sP, .ref oA, .ref bS, .ref aS, .ref aO, .ref cS, .ref wY])), (aA, .inl (cI, 862, .inl af0))]) Z hS hP hD [] [0, 1] rfl (by decide) rfl (by decide) (by decide) hku6 hP1 hD1
    have hS := hS1
    clear hS1
    generalize H1 = H at hP hS ⊢
    generalize locs1 = locs at hS ⊢
    have hP : va_P D vwCl ([(q, .inr (12, [.ref aA, .ref aI, .ref aT, .ref aP, .int 0, .int (-1), .int (-1), .int 0, .int 0, .int 0, .int 0, .long 0, .int 0, .int 0, .int 0, .int 0, .ref pI, .int 0, .int 0, .int 0, .int 0, .int 0, .ref nM, .ref vA, .ref tR, .int 0, .int 0, .int 0, .ref rW, .ref sP, .ref oA, .ref bS, .ref aS, .ref aO, .ref cS, .ref wY])), (aA, .inl (cI, 862, .inl af0))]) H := hP
    have hD : va_D A ([(q, .inr (12, [.ref aA, .ref aI, .ref aT, .ref aP, .int 0, .int (-1), .int (-1), .int 0, .int 0, .int 0, .int 0, .long 0, .int 0, .int 0, .int 0, .int 0, .ref pI, .int 0, .int 0, .int 0, .int 0, .int 0, .ref nM, .ref vA, .ref tR, .int 0, .int 0, .int 0, .ref rW, .ref sP, .ref oA, .ref bS, .ref aS, .ref aO, .ref cS, .ref wY])), (aA, .inl (cI, 862, .inl af0))]) := hD
    by_cases c9 : 1 ≤ p1 ∧ p1 ≤ 9
    · obtain rfl : r7 = 1 := by rw [hrh8, if_pos c9]
      refine lv_if_eq (tgt := 31) hx hb dX12_horse_17 (by decide) (fun h => absurd h (by decide)) (fun c10 => ?_)
      refine lv_aload_n hx hb dX12_horse_20 rfl (lv_at hl 0 rfl) ?_
      refine z_get Z i_X12 hP 0 rfl rfl 0 (by decide) bw_1019 rfl dX12_horse_21 ?_
      refine lv_iconst (v := 0) hx hb dX12_horse_24 (by decide) ?_
      refine z_iald Z hP 1 0 rfl rfl (vin (by decide)) dX12_horse_25 ?_
      refine z_topi (y := 0) rfl ?_
      refine lv_bipush (v := 6) hx hb dX12_horse_26 (by decide) ?_
      refine lv_icmp_ne (tgt := 33) hx hb dX12_horse_28 (by decide) (fun c11 => ?_) (fun h => absurd h (by decide))
      refine lv_aload_n hx hb dX12_horse_33 rfl (lv_at hl 0 rfl) ?_
      refine z_get Z i_X12 hP 0 rfl rfl 0 (by decide) bw_1019 rfl dX12_horse_34 ?_
      refine lv_bipush (v := 34) hx hb dX12_horse_37 (by decide) ?_
      refine lv_iconst (v := 2) hx hb dX12_horse_39 (by decide) ?_
      refine lv_aload_n hx hb dX12_horse_40 rfl (lv_at hl 0 rfl) ?_
      refine z_get Z i_X12 hP 0 rfl rfl 0 (by decide) bw_1019 rfl dX12_horse_41 ?_
      refine lv_iconst (v := 0) hx hb dX12_horse_44 (by decide) ?_
      refine z_iald Z hP 1 0 rfl rfl (vin (by decide)) dX12_horse_45 ?_
      refine z_topi (y := 0) rfl ?_
      refine lv_imul hx hb dX12_horse_46 ?_
      refine z_topi (y := 0) (by decide) ?_
      refine lv_iadd hx hb dX12_horse_47 ?_
      refine z_topi (y := 34) (by decide) ?_
      refine lv_iload_n hx hb dX12_horse_48 rfl (lv_at hl 1 rfl) ?_
      refine z_iast Z hP hD hS 1 0 rfl rfl (vin (by decide)) dX12_horse_49 (fun H locs hP hD hS => ?_)
      have hP : va_P D vwCl ([(q, .inr (12, [.ref aA, .ref aI, .ref aT, .ref aP, .int 0, .int (-1), .int (-1), .int 0, .int 0, .int 0, .int 0, .long 0, .int 0, .int 0, .int 0, .int 0, .ref pI, .int 0, .int 0, .int 0, .int 0, .int 0, .ref nM, .ref vA, .ref tR, .int 0, .int 0, .int 0, .ref rW, .ref sP, .ref oA, .ref bS, .ref aS, .ref aO, .ref cS, .ref wY])), (aA, .inl (cI, 862, .inl (upd af0 (34 : Int32).toNatClampNeg p0)))]) H := hP
      have hD : va_D A ([(q, .inr (12, [.ref aA, .ref aI, .ref aT, .ref aP, .int 0, .int (-1), .int (-1), .int 0, .int 0, .int 0, .int 0, .long 0, .int 0, .int 0, .int 0, .int 0, .ref pI, .int 0, .int 0, .int 0, .int 0, .int 0, .ref nM, .ref vA, .ref tR, .int 0, .int 0, .int 0, .ref rW, .ref sP, .ref oA, .ref bS, .ref aS, .ref aO, .ref cS, .ref wY])), (aA, .inl (cI, 862, .inl (upd af0 (34 : Int32).toNatClampNeg p0)))]) := hD
      refine lv_aload_n hx hb dX12_horse_50 rfl (lv_at hl 0 rfl) ?_
      refine z_get Z i_X12 hP 0 rfl rfl 0 (by decide) bw_1019 rfl dX12_horse_51 ?_
      refine lv_bipush (v := 34) hx hb dX12_horse_54 (by decide) ?_
      refine lv_iconst (v := 2) hx hb dX12_horse_56 (by decide) ?_
      refine lv_aload_n hx hb dX12_horse_57 rfl (lv_at hl 0 rfl) ?_
      refine z_get Z i_X12 hP 0 rfl rfl 0 (by decide) bw_1019 rfl dX12_horse_58 ?_
      refine lv_iconst (v := 0) hx hb dX12_horse_61 (by decide) ?_
      refine z_iald Z hP 1 0 rfl rfl (vin (by decide)) dX12_horse_62 ?_
      refine z_topi (y := 0) ((pk_un (by decide)).trans rfl) ?_
      refine lv_imul hx hb dX12_horse_63 ?_
      refine z_topi (y := 0) (by decide) ?_
      refine lv_iadd hx hb dX12_horse_64 ?_
      refine z_topi (y := 34) (by decide) ?_
      refine lv_iconst (v := 1) hx hb dX12_horse_65 (by decide) ?_
      refine lv_iadd hx hb dX12_horse_66 ?_
      refine z_topi (y := 35) (by decide) ?_
      refine lv_iload_n hx hb dX12_horse_67 rfl (lv_at hl 2 rfl) ?_
      refine z_iast Z hP hD hS 1 0 rfl rfl (vin (by decide)) dX12_horse_68 (fun H locs hP hD hS => ?_)
      have hP : va_P D vwCl ([(q, .inr (12, [.ref aA, .ref aI, .ref aT, .ref aP, .int 0, .int (-1), .int (-1), .int 0, .int 0, .int 0, .int 0, .long 0, .int 0, .int 0, .int 0, .int 0, .ref pI, .int 0, .int 0, .int 0, .int 0, .int 0, .ref nM, .ref vA, .ref tR, .int 0, .int 0, .int 0, .ref rW, .ref sP, .ref oA, .ref bS, .ref aS, .ref aO, .ref cS, .ref wY])), (aA, .inl (cI, 862, .inl (upd (upd af0 (34 : Int32).toNatClampNeg p0) (35 : Int32).toNatClampNeg p1)))]) H := hP
      have hD : va_D A ([(q, .inr (12, [.ref aA, .ref aI, .ref aT, .ref aP, .int 0, .int (-1), .int (-1), .int 0, .int 0, .int 0, .int 0, .long 0, .int 0, .int 0, .int 0, .int 0, .ref pI, .int 0, .int 0, .int 0, .int 0, .int 0, .ref nM, .ref vA, .ref tR, .int 0, .int 0, .int 0, .ref rW, .ref sP, .ref oA, .ref bS, .ref aS, .ref aO, .ref cS, .ref wY])), (aA, .inl (cI, 862, .inl (upd (upd af0 (34 : Int32).toNatClampNeg p0) (35 : Int32).toNatClampNeg p1)))]) := hD
      refine lv_aload_n hx hb dX12_horse_69 rfl (lv_at hl 0 rfl) ?_
      refine z_get Z i_X12 hP 0 rfl rfl 0 (by decide) bw_1019 rfl dX12_horse_70 ?_
      refine lv_iconst (v := 0) hx hb dX12_horse_73 (by decide) ?_
      refine lv_dup2_11 hx hb dX12_horse_74 rfl rfl ?_
      refine z_iald Z hP 1 0 rfl rfl (vin (by decide)) dX12_horse_75 ?_
      refine z_topi (y := 0) ((pk_un (by decide)).trans ((pk_un (by decide)).trans rfl)) ?_
      refine lv_iconst (v := 1) hx hb dX12_horse_76 (by decide) ?_
      refine lv_iadd hx hb dX12_horse_77 ?_
      refine z_topi (y := 1) (by decide) ?_
      refine z_iast Z hP hD hS 1 0 rfl rfl (vin (by decide)) dX12_horse_78 (fun H locs hP hD hS => ?_)
      have hP : va_P D vwCl ([(q, .inr (12, [.ref aA, .ref aI, .ref aT, .ref aP, .int 0, .int (-1), .int (-1), .int 0, .int 0, .int 0, .int 0, .long 0, .int 0, .int 0, .int 0, .int 0, .ref pI, .int 0, .int 0, .int 0, .int 0, .int 0, .ref nM, .ref vA, .ref tR, .int 0, .int 0, .int 0, .ref rW, .ref sP, .ref oA, .ref bS, .ref aS, .ref aO, .ref cS, .ref wY])), (aA, .inl (cI, 862, .inl (upd (upd (upd af0 (34 : Int32).toNatClampNeg p0) (35 : Int32).toNatClampNeg p1) (0 : Int32).toNatClampNeg 1)))]) H := hP
      have hD : va_D A ([(q, .inr (12, [.ref aA, .ref aI, .ref aT, .ref aP, .int 0, .int (-1), .int (-1), .int 0, .int 0, .int 0, .int 0, .long 0, .int 0, .int 0, .int 0, .int 0, .ref pI, .int 0, .int 0, .int 0, .int 0, .int 0, .ref nM, .ref vA, .ref tR, .int 0, .int 0, .int 0, .ref rW, .ref sP, .ref oA, .ref bS, .ref aS, .ref aO, .ref cS, .ref wY])), (aA, .inl (cI, 862, .inl (upd (upd (upd af0 (34 : Int32).toNatClampNeg p0) (35 : Int32).toNatClampNeg p1) (0 : Int32).toNatClampNeg 1)))]) := hD
      refine lv_aload_n hx hb dX12_horse_79 rfl (lv_at hl 0 rfl) ?_
      refine z_get Z i_X12 hP 0 rfl rfl 0 (by decide) bw_1019 rfl dX12_horse_80 ?_
      refine lv_iconst (v := 0) hx hb dX12_horse_83 (by decide) ?_
      refine z_iald Z hP 1 0 rfl rfl (vin (by decide)) dX12_horse_84 ?_
      refine z_topi (y := 1) pk_us ?_
      refine lv_iconst (v := 1) hx hb dX12_horse_85 (by decide) ?_
      refine lv_isub hx hb dX12_horse_86 ?_
      refine z_topi (y := 0) (by decide) ?_
      exact z_ret Z rfl hP hD hS ((by first | rfl | assumption | (rw [if_pos (by (try simp only [zlt, zle, zeq, zl_0, zl_1, zl_2, zl_3, zl_4, zl_5, zl_6, zl_7, zl_8, zl_9, zl_10, zl_11, zl_12, zl_13, zl_19, zl_20, zl_30, zl_64, zl_99, zl_100, zl_299, zl_300, zl_399, zl_999, zl_9999, zl_m1, zl_m2, zl_m3, zl_32, zl_280] at c4 c5 c9 c10 c11 ⊢); omega)]; first | done | ((try simp only [zlt, zle, zeq, zl_0, zl_1, zl_2, zl_3, zl_4, zl_5, zl_6, zl_7, zl_8, zl_9, zl_10, zl_11, zl_12, zl_13, zl_19, zl_20, zl_30, zl_64, zl_99, zl_100, zl_299, zl_300, zl_399, zl_999, zl_9999, zl_m1, zl_m2, zl_m3, zl_32, zl_280] at c4 c5 c9 c10 c11 ⊢); omega)) | (rw [if_neg (by (try simp only [zlt, zle, zeq, zl_0, zl_1, zl_2, zl_3, zl_4, zl_5, zl_6, zl_7, zl_8, zl_9, zl_10, zl_11, zl_12, zl_13, zl_19, zl_20, zl_30, zl_64, zl_99, zl_100, zl_299, zl_300, zl_399, zl_999, zl_9999, zl_m1, zl_m2, zl_m3, zl_32, zl_280] at c4 c5 c9 c10 c11 ⊢); omega)]; first | done | ((try simp only [zlt, zle, zeq, zl_0, zl_1, zl_2, zl_3, zl_4, zl_5, zl_6, zl_7, zl_8, zl_9, zl_10, zl_11, zl_12, zl_13, zl_19, zl_20, zl_30, zl_64, zl_99, zl_100, zl_299, zl_300, zl_399, zl_999, zl_9999, zl_m1, zl_m2, zl_m3, zl_32, zl_280] at c4 c5 c9 c10 c11 ⊢); omega)))) dX12_horse_87 (Nat.le_of_ble_eq_true rfl) (Nat.le_of_ble_eq_true rfl)
    · obtain rfl : r7 = 0 := by rw [hrh8, if_neg c9]
      refine lv_if_eq (tgt := 31) hx hb dX12_horse_17 (by decide) (fun c12 => ?_) (fun h => absurd (by decide) h)
      refine lv_iconst (v := (-1)) hx hb dX12_horse_31 (by decide) ?_
      exact z_ret Z rfl hP hD hS ((by first | rfl | assumption | (rw [if_pos (by (try simp only [zlt, zle, zeq, zl_0, zl_1, zl_2, zl_3, zl_4, zl_5, zl_6, zl_7, zl_8, zl_9, zl_10, zl_11, zl_12, zl_13, zl_19, zl_20, zl_30, zl_64, zl_99, zl_100, zl_299, zl_300, zl_399, zl_999, zl_9999, zl_m1, zl_m2, zl_m3, zl_32, zl_280] at c4 c5 c9 c12 ⊢); omega)]; first | done | ((try simp only [zlt, zle, zeq, zl_0, zl_1, zl_2, zl_3, zl_4, zl_5, zl_6, zl_7, zl_8, zl_9, zl_10, zl_11, zl_12, zl_13, zl_19, zl_20, zl_30, zl_64, zl_99, zl_100, zl_299, zl_300, zl_399, zl_999, zl_9999, zl_m1, zl_m2, zl_m3, zl_32, zl_280] at c4 c5 c9 c12 ⊢); omega)) | (rw [if_neg (by (try simp only [zlt, zle, zeq, zl_0, zl_1, zl_2, zl_3, zl_4, zl_5, zl_6, zl_7, zl_8, zl_9, zl_10, zl_11, zl_12, zl_13, zl_19, zl_20, zl_30, zl_64, zl_99, zl_100, zl_299, zl_300, zl_399, zl_999, zl_9999, zl_m1, zl_m2, zl_m3, zl_32, zl_280] at c4 c5 c9 c12 ⊢); omega)]; first | done | ((try simp only [zlt, zle, zeq, zl_0, zl_1, zl_2, zl_3, zl_4, zl_5, zl_6, zl_7, zl_8, zl_9, zl_10, zl_11, zl_12, zl_13, zl_19, zl_20, zl_30, zl_64, zl_99, zl_100, zl_299, zl_300, zl_399, zl_999, zl_9999, zl_m1, zl_m2, zl_m3, zl_32, zl_280] at c4 c5 c9 c12 ⊢); omega)))) dX12_horse_32 (Nat.le_of_ble_eq_true rfl) (Nat.le_of_ble_eq_true rfl)
  · obtain rfl : r2 = 0 := by rw [hrh3, if_neg c4]
    refine lv_if_eq (tgt := 31) hx hb dX12_horse_7 (by decide) (fun c13 => ?_) (fun h => absurd (by decide) h)
    refine lv_iconst (v := (-1)) hx hb dX12_horse_31 (by decide) ?_
    exact z_ret Z rfl hP hD hS ((by first | rfl | assumption | (rw [if_pos (by (try simp only [zlt, zle, zeq, zl_0, zl_1, zl_2, zl_3, zl_4, zl_5, zl_6, zl_7, zl_8, zl_9, zl_10, zl_11, zl_12, zl_13, zl_19, zl_20, zl_30, zl_64, zl_99, zl_100, zl_299, zl_300, zl_399, zl_999, zl_9999, zl_m1, zl_m2, zl_m3, zl_32, zl_280] at c4 c13 ⊢); omega)]; first | done | ((try simp only [zlt, zle, zeq, zl_0, zl_1, zl_2, zl_3, zl_4, zl_5, zl_6, zl_7, zl_8, zl_9, zl_10, zl_11, zl_12, zl_13, zl_19, zl_20, zl_30, zl_64, zl_99, zl_100, zl_299, zl_300, zl_399, zl_999, zl_9999, zl_m1, zl_m2, zl_m3, zl_32, zl_280] at c4 c13 ⊢); omega)) | (rw [if_neg (by (try simp only [zlt, zle, zeq, zl_0, zl_1, zl_2, zl_3, zl_4, zl_5, zl_6, zl_7, zl_8, zl_9, zl_10, zl_11, zl_12, zl_13, zl_19, zl_20, zl_30, zl_64, zl_99, zl_100, zl_299, zl_300, zl_399, zl_999, zl_9999, zl_m1, zl_m2, zl_m3, zl_32, zl_280] at c4 c13 ⊢); omega)]; first | done | ((try simp only [zlt, zle, zeq, zl_0, zl_1, zl_2, zl_3, zl_4, zl_5, zl_6, zl_7, zl_8, zl_9, zl_10, zl_11, zl_12, zl_13, zl_19, zl_20, zl_30, zl_64, zl_99, zl_100, zl_299, zl_300, zl_399, zl_999, zl_9999, zl_m1, zl_m2, zl_m3, zl_32, zl_280] at c4 c13 ⊢); omega)))) dX12_horse_32 (Nat.le_of_ble_eq_true rfl) (Nat.le_of_ble_eq_true rfl)
set_option maxHeartbeats 4000000 in
set_option maxRecDepth 100000 in
theorem c_X12_weather (l : Launch) (D : va_G) (cI cM cT : ClassId) (q : Nat) (aA : Nat) (aI : Nat) (aT : Nat) (aP : Nat) (pI : Nat) (nM : Nat) (vA : Nat) (tR : Nat) (rW : Nat) (sP : Nat) (oA : Nat) (bS : Nat) (aS : Nat) (aO : Nat) (cS : Nat) (wY : Nat) (p0 : Int32) (p1 : Int32) : Ci l D (ty3 cI cM cT) yX12_weather cX12_weather 3 (some .boolean) 3 0 0 [.ref q, .int p0, .int p1] ([(q, .inr (12, [.ref aA, .ref aI, .ref aT, .ref aP, .int 0, .int (-1), .int (-1), .int 0, .int 0, .int 0, .int 0, .long 0, .int 0, .int 0, .int 0, .int 0, .ref pI, .int 0, .int 0, .int 0, .int 0, .int 0, .ref nM, .ref vA, .ref tR, .int 0, .int 0, .int 0, .ref rW, .ref sP, .ref oA, .ref bS, .ref aS, .ref aO, .ref cS, .ref wY])), (aA, .inl (cI, 862, .inl af0))]) (fun r u => r = (if (0 ≤ p0 ∧ p0 ≤ 10) ∧ (0 ≤ p1 ∧ p1 ≤ 9999) then 1 else 0)) := by
  refine Ci.of (by decide +kernel) (Nat.le_of_ble_eq_true rfl) ?_
  intro p e s m below meth c A ls Z hin hP hD hl
  have hx := Z.1
  have hb := Z.2.1
  have hS : va_S A s.heap s.heap [] := va_S.rf
  have hl : lv_has ls 3 [(0, .ref q), (1, .int p0), (2, .int p1)] := hl
  skip
  refine lv_iload_n hx hb dX12_weather_0 rfl (lv_at hl 1 rfl) ?_
  refine lv_iconst (v := 0) hx hb dX12_weather_1 (by decide) ?_
  refine lv_bipush (v := 10) hx hb dX12_weather_2 (by decide) ?_
  have hPc := hP.sub2 (wc := []) [] rfl
  have hDc := hD.sub (ws' := []) [] (by decide) rfl
  refine raw_Si (nA := 3) (As := [.int p0, .int 0, .int 10]) (rest := []) Z hl.1 (c_X12_isIn l D cI cM cT p0 0 10) (bw_S bw_1135 bw_1136 bw_92 bw_1137) ⟨by decide +kernel, by decide +kernel, by decide +kernel⟩ rfl ⟨Nat.le_of_ble_eq_true rfl, Nat.le_of_ble_eq_true rfl⟩ hPc hDc hS rfl (Nat.le_of_ble_eq_true rfl) dX12_weather_4 ⟨Nat.le_of_ble_eq_true rfl, Nat.le_of_ble_eq_true rfl⟩ (fun r2 u1 H1 locs1 h3 hku1 hP1 hD1 hS1 => ?_)
  obtain ⟨hrh3, rfl⟩ := h3
  obtain ⟨hP, hD⟩ := z_join (wr := [(q, .inr (12, [.ref aA, .ref aI, .ref aT, .ref aP, .int 0, .int (-1), .int (-1), .int 0, .int 0, .int 0, .int 0, .long 0, .int 0, .int 0, .int 0, .int 0, .ref pI, .int 0, .int 0, .int 0, .int 0, .int 0, .ref nM, .ref vA, .ref tR, .int 0, .int 0, .int 0, .ref rW, .ref sP, .ref oA, .ref bS, .ref aS, .ref aO, .ref cS, .ref wY])), (aA, .inl (cI, 862, .inl af0))]) Z hS hP hD [] [0, 1] rfl (by decide) rfl (by decide) (by decide) hku1 hP1 hD1
  have hS := hS1
  clear hS1
  generalize H1 = H at hP hS ⊢
  generalize locs1 = locs at hS ⊢
  have hP : va_P D vwCl ([(q, .inr (12, [.ref aA, .ref aI, .ref aT, .ref aP, .int 0, .int (-1), .int (-1), .int 0, .int 0, .int 0, .int 0, .long 0, .int 0, .int 0, .int 0, .int 0, .ref pI, .int 0, .int 0, .int 0, .int 0, .int 0, .ref nM, .ref vA, .ref tR, .int 0, .int 0, .int 0, .ref rW, .ref sP, .ref oA, .ref bS, .ref aS, .ref aO, .ref cS, .ref wY])), (aA, .inl (cI, 862, .inl af0))]) H := hP
  have hD : va_D A ([(q, .inr (12, [.ref aA, .ref aI, .ref aT, .ref aP, .int 0, .int (-1), .int (-1), .int 0, .int 0, .int 0, .int 0, .long 0, .int 0, .int 0, .int 0, .int 0, .ref pI, .int 0, .int 0, .int 0, .int 0, .int 0, .ref nM, .ref vA, .ref tR, .int 0, .int 0, .int 0, .ref rW, .ref sP, .ref oA, .ref bS, .ref aS, .ref aO, .ref cS, .ref wY])), (aA, .inl (cI, 862, .inl af0))]) := hD
  by_cases c4 : 0 ≤ p0 ∧ p0 ≤ 10
  · obtain rfl : r2 = 1 := by rw [hrh3, if_pos c4]
    refine lv_if_eq (tgt := 21) hx hb dX12_weather_7 (by decide) (fun h => absurd h (by decide)) (fun c5 => ?_)
    refine lv_iload_n hx hb dX12_weather_10 rfl (lv_at hl 2 rfl) ?_
    refine lv_iconst (v := 0) hx hb dX12_weather_11 (by decide) ?_
    refine lv_sipush (v := 9999) hx hb dX12_weather_12 (by decide) ?_
    have hPc := hP.sub2 (wc := []) [] rfl
    have hDc := hD.sub (ws' := []) [] (by decide) rfl
    refine raw_Si (nA := 3) (As := [.int p1, .int 0, .int 9999]) (rest := []) Z hl.1 (c_X12_isIn l D cI cM cT p1 0 9999) (bw_S bw_1135 bw_1136 bw_92 bw_1137) ⟨by decide +kernel, by decide +kernel, by decide +kernel⟩ rfl ⟨Nat.le_of_ble_eq_true rfl, Nat.le_of_ble_eq_true rfl⟩ hPc hDc hS rfl (Nat.le_of_ble_eq_true rfl) dX12_weather_15 ⟨Nat.le_of_ble_eq_true rfl, Nat.le_of_ble_eq_true rfl⟩ (fun r7 u6 H1 locs1 h8 hku6 hP1 hD1 hS1 => ?_)
    obtain ⟨hrh8, rfl⟩ := h8
    obtain ⟨hP, hD⟩ := z_join (wr := [(q, .inr (12, [.ref aA, .ref aI, .ref aT, .ref aP, .int 0, .int (-1), .int (-1), .int 0, .int 0, .int 0, .int 0, .long 0, .int 0, .int 0, .int 0, .int 0, .ref pI, .int 0, .int 0, .int 0, .int 0, .int 0, .ref nM, .ref vA, .ref tR, .int 0, .int 0, .int 0, .ref rW, .ref sP, .ref oA, .ref bS, .ref aS, .ref aO, .ref cS, .ref wY])), (aA, .inl (cI, 862, .inl af0))]) Z hS hP hD [] [0, 1] rfl (by decide) rfl (by decide) (by decide) hku6 hP1 hD1
    have hS := hS1
    clear hS1
    generalize H1 = H at hP hS ⊢
    generalize locs1 = locs at hS ⊢
    have hP : va_P D vwCl ([(q, .inr (12, [.ref aA, .ref aI, .ref aT, .ref aP, .int 0, .int (-1), .int (-1), .int 0, .int 0, .int 0, .int 0, .long 0, .int 0, .int 0, .int 0, .int 0, .ref pI, .int 0, .int 0, .int 0, .int 0, .int 0, .ref nM, .ref vA, .ref tR, .int 0, .int 0, .int 0, .ref rW, .ref sP, .ref oA, .ref bS, .ref aS, .ref aO, .ref cS, .ref wY])), (aA, .inl (cI, 862, .inl af0))]) H := hP
    have hD : va_D A ([(q, .inr (12, [.ref aA, .ref aI, .ref aT, .ref aP, .int 0, .int (-1), .int (-1), .int 0, .int 0, .int 0, .int 0, .long 0, .int 0, .int 0, .int 0, .int 0, .ref pI, .int 0, .int 0, .int 0, .int 0, .int 0, .ref nM, .ref vA, .ref tR, .int 0, .int 0, .int 0, .ref rW, .ref sP, .ref oA, .ref bS, .ref aS, .ref aO, .ref cS, .ref wY])), (aA, .inl (cI, 862, .inl af0))]) := hD
    by_cases c9 : 0 ≤ p1 ∧ p1 ≤ 9999
    · obtain rfl : r7 = 1 := by rw [hrh8, if_pos c9]
      refine lv_if_ne (tgt := 23) hx hb dX12_weather_18 (by decide) (fun c10 => ?_) (fun h => absurd h (by decide))
      refine lv_aload_n hx hb dX12_weather_23 rfl (lv_at hl 0 rfl) ?_
      refine z_get Z i_X12 hP 0 rfl rfl 0 (by decide) bw_1019 rfl dX12_weather_24 ?_
      refine lv_iconst (v := 4) hx hb dX12_weather_27 (by decide) ?_
      refine lv_iload_n hx hb dX12_weather_28 rfl (lv_at hl 1 rfl) ?_
      refine z_iast Z hP hD hS 1 0 rfl rfl (vin (by decide)) dX12_weather_29 (fun H locs hP hD hS => ?_)
      have hP : va_P D vwCl ([(q, .inr (12, [.ref aA, .ref aI, .ref aT, .ref aP, .int 0, .int (-1), .int (-1), .int 0, .int 0, .int 0, .int 0, .long 0, .int 0, .int 0, .int 0, .int 0, .ref pI, .int 0, .int 0, .int 0, .int 0, .int 0, .ref nM, .ref vA, .ref tR, .int 0, .int 0, .int 0, .ref rW, .ref sP, .ref oA, .ref bS, .ref aS, .ref aO, .ref cS, .ref wY])), (aA, .inl (cI, 862, .inl (upd af0 (4 : Int32).toNatClampNeg p0)))]) H := hP
      have hD : va_D A ([(q, .inr (12, [.ref aA, .ref aI, .ref aT, .ref aP, .int 0, .int (-1), .int (-1), .int 0, .int 0, .int 0, .int 0, .long 0, .int 0, .int 0, .int 0, .int 0, .ref pI, .int 0, .int 0, .int 0, .int 0, .int 0, .ref nM, .ref vA, .ref tR, .int 0, .int 0, .int 0, .ref rW, .ref sP, .ref oA, .ref bS, .ref aS, .ref aO, .ref cS, .ref wY])), (aA, .inl (cI, 862, .inl (upd af0 (4 : Int32).toNatClampNeg p0)))]) := hD
      refine lv_aload_n hx hb dX12_weather_30 rfl (lv_at hl 0 rfl) ?_
      refine z_get Z i_X12 hP 0 rfl rfl 0 (by decide) bw_1019 rfl dX12_weather_31 ?_
      refine lv_iconst (v := 5) hx hb dX12_weather_34 (by decide) ?_
      refine lv_iload_n hx hb dX12_weather_35 rfl (lv_at hl 2 rfl) ?_
      refine lv_bipush (v := 7) hx hb dX12_weather_36 (by decide) ?_
      refine lv_imul hx hb dX12_weather_38 ?_
      refine lv_bipush (v := 13) hx hb dX12_weather_39 (by decide) ?_
      refine lv_iadd hx hb dX12_weather_41 ?_
      refine z_iast Z hP hD hS 1 0 rfl rfl (vin (by decide)) dX12_weather_42 (fun H locs hP hD hS => ?_)
      have hP : va_P D vwCl ([(q, .inr (12, [.ref aA, .ref aI, .ref aT, .ref aP, .int 0, .int (-1), .int (-1), .int 0, .int 0, .int 0, .int 0, .long 0, .int 0, .int 0, .int 0, .int 0, .ref pI, .int 0, .int 0, .int 0, .int 0, .int 0, .ref nM, .ref vA, .ref tR, .int 0, .int 0, .int 0, .ref rW, .ref sP, .ref oA, .ref bS, .ref aS, .ref aO, .ref cS, .ref wY])), (aA, .inl (cI, 862, .inl (upd (upd af0 (4 : Int32).toNatClampNeg p0) (5 : Int32).toNatClampNeg ((p1 * 7) + 13))))]) H := hP
      have hD : va_D A ([(q, .inr (12, [.ref aA, .ref aI, .ref aT, .ref aP, .int 0, .int (-1), .int (-1), .int 0, .int 0, .int 0, .int 0, .long 0, .int 0, .int 0, .int 0, .int 0, .ref pI, .int 0, .int 0, .int 0, .int 0, .int 0, .ref nM, .ref vA, .ref tR, .int 0, .int 0, .int 0, .ref rW, .ref sP, .ref oA, .ref bS, .ref aS, .ref aO, .ref cS, .ref wY])), (aA, .inl (cI, 862, .inl (upd (upd af0 (4 : Int32).toNatClampNeg p0) (5 : Int32).toNatClampNeg ((p1 * 7) + 13))))]) := hD
      refine lv_iconst (v := 1) hx hb dX12_weather_43 (by decide) ?_
      exact z_ret Z rfl hP hD hS ((by first | rfl | assumption | (rw [if_pos (by (try simp only [zlt, zle, zeq, zl_0, zl_1, zl_2, zl_3, zl_4, zl_5, zl_6, zl_7, zl_8, zl_9, zl_10, zl_11, zl_12, zl_13, zl_19, zl_20, zl_30, zl_64, zl_99, zl_100, zl_299, zl_300, zl_399, zl_999, zl_9999, zl_m1, zl_m2, zl_m3, zl_32, zl_280] at c4 c5 c9 c10 ⊢); omega)]; first | done | ((try simp only [zlt, zle, zeq, zl_0, zl_1, zl_2, zl_3, zl_4, zl_5, zl_6, zl_7, zl_8, zl_9, zl_10, zl_11, zl_12, zl_13, zl_19, zl_20, zl_30, zl_64, zl_99, zl_100, zl_299, zl_300, zl_399, zl_999, zl_9999, zl_m1, zl_m2, zl_m3, zl_32, zl_280] at c4 c5 c9 c10 ⊢); omega)) | (rw [if_neg (by (try simp only [zlt, zle, zeq, zl_0, zl_1, zl_2, zl_3, zl_4, zl_5, zl_6, zl_7, zl_8, zl_9, zl_10, zl_11, zl_12, zl_13, zl_19, zl_20, zl_30, zl_64, zl_99, zl_100, zl_299, zl_300, zl_399, zl_999, zl_9999, zl_m1, zl_m2, zl_m3, zl_32, zl_280] at c4 c5 c9 c10 ⊢); omega)]; first | done | ((try simp only [zlt, zle, zeq, zl_0, zl_1, zl_2, zl_3, zl_4, zl_5, zl_6, zl_7, zl_8, zl_9, zl_10, zl_11, zl_12, zl_13, zl_19, zl_20, zl_30, zl_64, zl_99, zl_100, zl_299, zl_300, zl_399, zl_999, zl_9999, zl_m1, zl_m2, zl_m3, zl_32, zl_280] at c4 c5 c9 c10 ⊢); omega)))) dX12_weather_44 (Nat.le_of_ble_eq_true rfl) (Nat.le_of_ble_eq_true rfl)
    · obtain rfl : r7 = 0 := by rw [hrh8, if_neg c9]
      refine lv_if_ne (tgt := 23) hx hb dX12_weather_18 (by decide) (fun h => absurd (by decide) h) (fun c11 => ?_)
      refine lv_iconst (v := 0) hx hb dX12_weather_21 (by decide) ?_
      exact z_ret Z rfl hP hD hS ((by first | rfl | assumption | (rw [if_pos (by (try simp only [zlt, zle, zeq, zl_0, zl_1, zl_2, zl_3, zl_4, zl_5, zl_6, zl_7, zl_8, zl_9, zl_10, zl_11, zl_12, zl_13, zl_19, zl_20, zl_30, zl_64, zl_99, zl_100, zl_299, zl_300, zl_399, zl_999, zl_9999, zl_m1, zl_m2, zl_m3, zl_32, zl_280] at c4 c5 c9 c11 ⊢); omega)]; first | done | ((try simp only [zlt, zle, zeq, zl_0, zl_1, zl_2, zl_3, zl_4, zl_5, zl_6, zl_7, zl_8, zl_9, zl_10, zl_11, zl_12, zl_13, zl_19, zl_20, zl_30, zl_64, zl_99, zl_100, zl_299, zl_300, zl_399, zl_999, zl_9999, zl_m1, zl_m2, zl_m3, zl_32, zl_280] at c4 c5 c9 c11 ⊢); omega)) | (rw [if_neg (by (try simp only [zlt, zle, zeq, zl_0, zl_1, zl_2, zl_3, zl_4, zl_5, zl_6, zl_7, zl_8, zl_9, zl_10, zl_11, zl_12, zl_13, zl_19, zl_20, zl_30, zl_64, zl_99, zl_100, zl_299, zl_300, zl_399, zl_999, zl_9999, zl_m1, zl_m2, zl_m3, zl_32, zl_280] at c4 c5 c9 c11 ⊢); omega)]; first | done | ((try simp only [zlt, zle, zeq, zl_0, zl_1, zl_2, zl_3, zl_4, zl_5, zl_6, zl_7, zl_8, zl_9, zl_10, zl_11, zl_12, zl_13, zl_19, zl_20, zl_30, zl_64, zl_99, zl_100, zl_299, zl_300, zl_399, zl_999, zl_9999, zl_m1, zl_m2, zl_m3, zl_32, zl_280] at c4 c5 c9 c11 ⊢); omega)))) dX12_weather_22 (Nat.le_of_ble_eq_true rfl) (Nat.le_of_ble_eq_true rfl)
  · obtain rfl : r2 = 0 := by rw [hrh3, if_neg c4]
    refine lv_if_eq (tgt := 21) hx hb dX12_weather_7 (by decide) (fun c12 => ?_) (fun h => absurd (by decide) h)
    refine lv_iconst (v := 0) hx hb dX12_weather_21 (by decide) ?_
    exact z_ret Z rfl hP hD hS ((by first | rfl | assumption | (rw [if_pos (by (try simp only [zlt, zle, zeq, zl_0, zl_1, zl_2, zl_3, zl_4, zl_5, zl_6, zl_7, zl_8, zl_9, zl_10, zl_11, zl_12, zl_13, zl_19, zl_20, zl_30, zl_64, zl_99, zl_100, zl_299, zl_300, zl_399, zl_999, zl_9999, zl_m1, zl_m2, zl_m3, zl_32, zl_280] at c4 c12 ⊢); omega)]; first | done | ((try simp only [zlt, zle, zeq, zl_0, zl_1, zl_2, zl_3, zl_4, zl_5, zl_6, zl_7, zl_8, zl_9, zl_10, zl_11, zl_12, zl_13, zl_19, zl_20, zl_30, zl_64, zl_99, zl_100, zl_299, zl_300, zl_399, zl_999, zl_9999, zl_m1, zl_m2, zl_m3, zl_32, zl_280] at c4 c12 ⊢); omega)) | (rw [if_neg (by (try simp only [zlt, zle, zeq, zl_0, zl_1, zl_2, zl_3, zl_4, zl_5, zl_6, zl_7, zl_8, zl_9, zl_10, zl_11, zl_12, zl_13, zl_19, zl_20, zl_30, zl_64, zl_99, zl_100, zl_299, zl_300, zl_399, zl_999, zl_9999, zl_m1, zl_m2, zl_m3, zl_32, zl_280] at c4 c12 ⊢); omega)]; first | done | ((try simp only [zlt, zle, zeq, zl_0, zl_1, zl_2, zl_3, zl_4, zl_5, zl_6, zl_7, zl_8, zl_9, zl_10, zl_11, zl_12, zl_13, zl_19, zl_20, zl_30, zl_64, zl_99, zl_100, zl_299, zl_300, zl_399, zl_999, zl_9999, zl_m1, zl_m2, zl_m3, zl_32, zl_280] at c4 c12 ⊢); omega)))) dX12_weather_22 (Nat.le_of_ble_eq_true rfl) (Nat.le_of_ble_eq_true rfl)
set_option maxHeartbeats 4000000 in
set_option maxRecDepth 100000 in
theorem c_X12_end (l : Launch) (D : va_G) (cI cM cT : ClassId) (q : Nat) (aA : Nat) (aI : Nat) (aT : Nat) (aP : Nat) (pI : Nat) (nM : Nat) (vA : Nat) (tR : Nat) (rW : Nat) (sP : Nat) (oA : Nat) (bS : Nat) (aS : Nat) (aO : Nat) (cS : Nat) (wY : Nat) (p0 : Int32) : Ci l D (ty3 cI cM cT) yX12_end cX12_end 2 (some .int) 3 0 0 [.ref q, .int p0] ([(q, .inr (12, [.ref aA, .ref aI, .ref aT, .ref aP, .int 0, .int (-1), .int (-1), .int 0, .int 0, .int 0, .int 0, .long 0, .int 0, .int 0, .int 0, .int 0, .ref pI, .int 0, .int 0, .int 0, .int 0, .int 0, .ref nM, .ref vA, .ref tR, .int 0, .int 0, .int 0, .ref rW, .ref sP, .ref oA, .ref bS, .ref aS, .ref aO, .ref cS, .ref wY]))]) (fun r u => r = (if p0 = 0 then 0 else (-1))) := by
  refine Ci.of (by decide +kernel) (Nat.le_of_ble_eq_true rfl) ?_
  intro p e s m below meth c A ls Z hin hP hD hl
  have hx := Z.1
  have hb := Z.2.1
  have hS : va_S A s.heap s.heap [] := va_S.rf
  have hl : lv_has ls 2 [(0, .ref q), (1, .int p0)] := hl
  skip
  refine lv_iload_n hx hb dX12_end_0 rfl (lv_at hl 1 rfl) ?_
  refine lv_iconst (v := 0) hx hb dX12_end_1 (by decide) ?_
  refine lv_aload_n hx hb dX12_end_2 rfl (lv_at hl 0 rfl) ?_
  refine z_get Z i_X12 hP 0 rfl rfl 4 (by decide) bw_1023 rfl dX12_end_3 ?_
  have hPc := hP.sub2 (wc := []) [] rfl
  have hDc := hD.sub (ws' := []) [] (by decide) rfl
  refine raw_Si (nA := 3) (As := [.int p0, .int 0, .int 0]) (rest := []) Z hl.1 (c_X12_isIn l D cI cM cT p0 0 0) (bw_S bw_1135 bw_1136 bw_92 bw_1137) ⟨by decide +kernel, by decide +kernel, by decide +kernel⟩ rfl ⟨Nat.le_of_ble_eq_true rfl, Nat.le_of_ble_eq_true rfl⟩ hPc hDc hS rfl (Nat.le_of_ble_eq_true rfl) dX12_end_6 ⟨Nat.le_of_ble_eq_true rfl, Nat.le_of_ble_eq_true rfl⟩ (fun r2 u1 H1 locs1 h3 hku1 hP1 hD1 hS1 => ?_)
  obtain ⟨hrh3, rfl⟩ := h3
  obtain ⟨hP, hD⟩ := z_join (wr := [(q, .inr (12, [.ref aA, .ref aI, .ref aT, .ref aP, .int 0, .int (-1), .int (-1), .int 0, .int 0, .int 0, .int 0, .long 0, .int 0, .int 0, .int 0, .int 0, .ref pI, .int 0, .int 0, .int 0, .int 0, .int 0, .ref nM, .ref vA, .ref tR, .int 0, .int 0, .int 0, .ref rW, .ref sP, .ref oA, .ref bS, .ref aS, .ref aO, .ref cS, .ref wY]))]) Z hS hP hD [] [0] rfl (by decide) rfl (by decide) (by decide) hku1 hP1 hD1
  have hS := hS1
  clear hS1
  generalize H1 = H at hP hS ⊢
  generalize locs1 = locs at hS ⊢
  have hP : va_P D vwCl ([(q, .inr (12, [.ref aA, .ref aI, .ref aT, .ref aP, .int 0, .int (-1), .int (-1), .int 0, .int 0, .int 0, .int 0, .long 0, .int 0, .int 0, .int 0, .int 0, .ref pI, .int 0, .int 0, .int 0, .int 0, .int 0, .ref nM, .ref vA, .ref tR, .int 0, .int 0, .int 0, .ref rW, .ref sP, .ref oA, .ref bS, .ref aS, .ref aO, .ref cS, .ref wY]))]) H := hP
  have hD : va_D A ([(q, .inr (12, [.ref aA, .ref aI, .ref aT, .ref aP, .int 0, .int (-1), .int (-1), .int 0, .int 0, .int 0, .int 0, .long 0, .int 0, .int 0, .int 0, .int 0, .ref pI, .int 0, .int 0, .int 0, .int 0, .int 0, .ref nM, .ref vA, .ref tR, .int 0, .int 0, .int 0, .ref rW, .ref sP, .ref oA, .ref bS, .ref aS, .ref aO, .ref cS, .ref wY]))]) := hD
  by_cases c4 : 0 ≤ p0 ∧ p0 ≤ 0
  · obtain rfl : r2 = 1 := by rw [hrh3, if_pos c4]
    refine lv_if_ne (tgt := 14) hx hb dX12_end_9 (by decide) (fun c5 => ?_) (fun h => absurd h (by decide))
    refine lv_aload_n hx hb dX12_end_14 rfl (lv_at hl 0 rfl) ?_
    refine lv_iload_n hx hb dX12_end_15 rfl (lv_at hl 1 rfl) ?_
    refine z_put Z i_X12 tyX12 tyX12_ok nmX12 hP hD hS 0 rfl rfl 4 (by decide) bw_1023 rfl rfl rfl (Nat.le_of_ble_eq_true rfl) dX12_end_16 (fun H locs hP hD hS => ?_)
    have hP : va_P D vwCl ([(q, .inr (12, [.ref aA, .ref aI, .ref aT, .ref aP, .int p0, .int (-1), .int (-1), .int 0, .int 0, .int 0, .int 0, .long 0, .int 0, .int 0, .int 0, .int 0, .ref pI, .int 0, .int 0, .int 0, .int 0, .int 0, .ref nM, .ref vA, .ref tR, .int 0, .int 0, .int 0, .ref rW, .ref sP, .ref oA, .ref bS, .ref aS, .ref aO, .ref cS, .ref wY]))]) H := hP
    have hD : va_D A ([(q, .inr (12, [.ref aA, .ref aI, .ref aT, .ref aP, .int p0, .int (-1), .int (-1), .int 0, .int 0, .int 0, .int 0, .long 0, .int 0, .int 0, .int 0, .int 0, .ref pI, .int 0, .int 0, .int 0, .int 0, .int 0, .ref nM, .ref vA, .ref tR, .int 0, .int 0, .int 0, .ref rW, .ref sP, .ref oA, .ref bS, .ref aS, .ref aO, .ref cS, .ref wY]))]) := hD
    refine lv_iload_n hx hb dX12_end_19 rfl (lv_at hl 1 rfl) ?_
    exact z_ret Z rfl hP hD hS ((by first | rfl | assumption | (rw [if_pos (by (try simp only [zlt, zle, zeq, zl_0, zl_1, zl_2, zl_3, zl_4, zl_5, zl_6, zl_7, zl_8, zl_9, zl_10, zl_11, zl_12, zl_13, zl_19, zl_20, zl_30, zl_64, zl_99, zl_100, zl_299, zl_300, zl_399, zl_999, zl_9999, zl_m1, zl_m2, zl_m3, zl_32, zl_280] at c4 c5 ⊢); omega)]; first | done | ((try simp only [zlt, zle, zeq, zl_0, zl_1, zl_2, zl_3, zl_4, zl_5, zl_6, zl_7, zl_8, zl_9, zl_10, zl_11, zl_12, zl_13, zl_19, zl_20, zl_30, zl_64, zl_99, zl_100, zl_299, zl_300, zl_399, zl_999, zl_9999, zl_m1, zl_m2, zl_m3, zl_32, zl_280] at c4 c5 ⊢); omega)) | (rw [if_neg (by (try simp only [zlt, zle, zeq, zl_0, zl_1, zl_2, zl_3, zl_4, zl_5, zl_6, zl_7, zl_8, zl_9, zl_10, zl_11, zl_12, zl_13, zl_19, zl_20, zl_30, zl_64, zl_99, zl_100, zl_299, zl_300, zl_399, zl_999, zl_9999, zl_m1, zl_m2, zl_m3, zl_32, zl_280] at c4 c5 ⊢); omega)]; first | done | ((try simp only [zlt, zle, zeq, zl_0, zl_1, zl_2, zl_3, zl_4, zl_5, zl_6, zl_7, zl_8, zl_9, zl_10, zl_11, zl_12, zl_13, zl_19, zl_20, zl_30, zl_64, zl_99, zl_100, zl_299, zl_300, zl_399, zl_999, zl_9999, zl_m1, zl_m2, zl_m3, zl_32, zl_280] at c4 c5 ⊢); omega)))) dX12_end_20 (Nat.le_of_ble_eq_true rfl) (Nat.le_of_ble_eq_true rfl)
  · obtain rfl : r2 = 0 := by rw [hrh3, if_neg c4]
    refine lv_if_ne (tgt := 14) hx hb dX12_end_9 (by decide) (fun h => absurd (by decide) h) (fun c6 => ?_)
    refine lv_iconst (v := (-1)) hx hb dX12_end_12 (by decide) ?_
    exact z_ret Z rfl hP hD hS ((by first | rfl | assumption | (rw [if_pos (by (try simp only [zlt, zle, zeq, zl_0, zl_1, zl_2, zl_3, zl_4, zl_5, zl_6, zl_7, zl_8, zl_9, zl_10, zl_11, zl_12, zl_13, zl_19, zl_20, zl_30, zl_64, zl_99, zl_100, zl_299, zl_300, zl_399, zl_999, zl_9999, zl_m1, zl_m2, zl_m3, zl_32, zl_280] at c4 c6 ⊢); omega)]; first | done | ((try simp only [zlt, zle, zeq, zl_0, zl_1, zl_2, zl_3, zl_4, zl_5, zl_6, zl_7, zl_8, zl_9, zl_10, zl_11, zl_12, zl_13, zl_19, zl_20, zl_30, zl_64, zl_99, zl_100, zl_299, zl_300, zl_399, zl_999, zl_9999, zl_m1, zl_m2, zl_m3, zl_32, zl_280] at c4 c6 ⊢); omega)) | (rw [if_neg (by (try simp only [zlt, zle, zeq, zl_0, zl_1, zl_2, zl_3, zl_4, zl_5, zl_6, zl_7, zl_8, zl_9, zl_10, zl_11, zl_12, zl_13, zl_19, zl_20, zl_30, zl_64, zl_99, zl_100, zl_299, zl_300, zl_399, zl_999, zl_9999, zl_m1, zl_m2, zl_m3, zl_32, zl_280] at c4 c6 ⊢); omega)]; first | done | ((try simp only [zlt, zle, zeq, zl_0, zl_1, zl_2, zl_3, zl_4, zl_5, zl_6, zl_7, zl_8, zl_9, zl_10, zl_11, zl_12, zl_13, zl_19, zl_20, zl_30, zl_64, zl_99, zl_100, zl_299, zl_300, zl_399, zl_999, zl_9999, zl_m1, zl_m2, zl_m3, zl_32, zl_280] at c4 c6 ⊢); omega)))) dX12_end_13 (Nat.le_of_ble_eq_true rfl) (Nat.le_of_ble_eq_true rfl)
set_option maxHeartbeats 4000000 in
set_option maxRecDepth 100000 in
theorem c_X12_fault (l : Launch) (D : va_G) (cI cM cT : ClassId) (q : Nat) (aA : Nat) (aI : Nat) (aT : Nat) (aP : Nat) (pI : Nat) (nM : Nat) (vA : Nat) (tR : Nat) (rW : Nat) (sP : Nat) (oA : Nat) (bS : Nat) (aS : Nat) (aO : Nat) (cS : Nat) (wY : Nat) (p0 : Int32) : Ci l D (ty3 cI cM cT) yX12_fault cX12_fault 2 (some .int) 3 0 0 [.ref q, .int p0] ([(q, .inr (12, [.ref aA, .ref aI, .ref aT, .ref aP, .int 0, .int (-1), .int (-1), .int 0, .int 0, .int 0, .int 0, .long 0, .int 0, .int 0, .int 0, .int 0, .ref pI, .int 0, .int 0, .int 0, .int 0, .int 0, .ref nM, .ref vA, .ref tR, .int 0, .int 0, .int 0, .ref rW, .ref sP, .ref oA, .ref bS, .ref aS, .ref aO, .ref cS, .ref wY]))]) (fun r u => r = (-1)) := by
  refine Ci.of (by decide +kernel) (Nat.le_of_ble_eq_true rfl) ?_
  intro p e s m below meth c A ls Z hin hP hD hl
  have hx := Z.1
  have hb := Z.2.1
  have hS : va_S A s.heap s.heap [] := va_S.rf
  have hl : lv_has ls 2 [(0, .ref q), (1, .int p0)] := hl
  skip
  refine lv_iload_n hx hb dX12_fault_0 rfl (lv_at hl 1 rfl) ?_
  refine lv_if_ne (tgt := 11) hx hb dX12_fault_1 (by decide) (fun c1 => ?_) (fun c1 => ?_)
  · refine lv_iload_n hx hb dX12_fault_11 rfl (lv_at hl 1 rfl) ?_
    refine lv_iconst (v := 1) hx hb dX12_fault_12 (by decide) ?_
    refine lv_icmp_ne (tgt := 23) hx hb dX12_fault_13 (by decide) (fun c2 => ?_) (fun c2 => ?_)
    · refine lv_iconst (v := (-1)) hx hb dX12_fault_23 (by decide) ?_
      exact z_ret Z rfl hP hD hS ((by first | rfl | assumption)) dX12_fault_24 (Nat.le_of_ble_eq_true rfl) (Nat.le_of_ble_eq_true rfl)
    · refine lv_aload_n hx hb dX12_fault_16 rfl (lv_at hl 0 rfl) ?_
      refine z_get Z i_X12 hP 0 rfl rfl 6 (by decide) bw_1025 rfl dX12_fault_17 ?_
      refine lv_goto (tgt := 24) hx hb dX12_fault_20 (by decide) ?_
      exact z_ret Z rfl hP hD hS ((by first | rfl | assumption)) dX12_fault_24 (Nat.le_of_ble_eq_true rfl) (Nat.le_of_ble_eq_true rfl)
  · refine lv_aload_n hx hb dX12_fault_4 rfl (lv_at hl 0 rfl) ?_
    refine z_get Z i_X12 hP 0 rfl rfl 5 (by decide) bw_1024 rfl dX12_fault_5 ?_
    refine lv_goto (tgt := 24) hx hb dX12_fault_8 (by decide) ?_
    exact z_ret Z rfl hP hD hS ((by first | rfl | assumption)) dX12_fault_24 (Nat.le_of_ble_eq_true rfl) (Nat.le_of_ble_eq_true rfl)
set_option maxHeartbeats 4000000 in
set_option maxRecDepth 100000 in
theorem c_X12_by (l : Launch) (D : va_G) (cI cM cT : ClassId) (q : Nat) (aA : Nat) (aI : Nat) (aT : Nat) (aP : Nat) (pI : Nat) (nM : Nat) (vA : Nat) (tR : Nat) (rW : Nat) (sP : Nat) (oA : Nat) (bS : Nat) (aS : Nat) (aO : Nat) (cS : Nat) (wY : Nat) (p0 : Int32) : Ci l D (ty3 cI cM cT) yX12_by cX12_by 2 (some .boolean) 3 0 0 [.ref q, .int p0] ([(q, .inr (12, [.ref aA, .ref aI, .ref aT, .ref aP, .int 0, .int (-1), .int (-1), .int 0, .int 0, .int 0, .int 0, .long 0, .int 0, .int 0, .int 0, .int 0, .ref pI, .int 0, .int 0, .int 0, .int 0, .int 0, .ref nM, .ref vA, .ref tR, .int 0, .int 0, .int 0, .ref rW, .ref sP, .ref oA, .ref bS, .ref aS, .ref aO, .ref cS, .ref wY])), (aA, .inl (cI, 862, .inl af0))]) (fun r u => r = (if p0 = (-1) then 1 else 0)) := by
  refine Ci.of (by decide +kernel) (Nat.le_of_ble_eq_true rfl) ?_
  intro p e s m below meth c A ls Z hin hP hD hl
  have hx := Z.1
  have hb := Z.2.1
  have hS : va_S A s.heap s.heap [] := va_S.rf
  have hl : lv_has ls 2 [(0, .ref q), (1, .int p0)] := hl
  skip
  refine lv_iload_n hx hb dX12_by_0 rfl (lv_at hl 1 rfl) ?_
  refine lv_iconst (v := (-1)) hx hb dX12_by_1 (by decide) ?_
  refine lv_aload_n hx hb dX12_by_2 rfl (lv_at hl 0 rfl) ?_
  refine z_get Z i_X12 hP 0 rfl rfl 0 (by decide) bw_1019 rfl dX12_by_3 ?_
  refine lv_bipush (v := 6) hx hb dX12_by_6 (by decide) ?_
  refine z_iald Z hP 1 0 rfl rfl (vin (by decide)) dX12_by_8 ?_
  refine z_topi (y := 0) rfl ?_
  refine lv_iconst (v := 1) hx hb dX12_by_9 (by decide) ?_
  refine lv_isub hx hb dX12_by_10 ?_
  refine z_topi (y := (-1)) (by decide) ?_
  have hPc := hP.sub2 (wc := []) [] rfl
  have hDc := hD.sub (ws' := []) [] (by decide) rfl
  refine raw_Si (nA := 3) (As := [.int p0, .int (-1), .int (-1)]) (rest := []) Z hl.1 (c_X12_isIn l D cI cM cT p0 (-1) (-1)) (bw_S bw_1135 bw_1136 bw_92 bw_1137) ⟨by decide +kernel, by decide +kernel, by decide +kernel⟩ rfl ⟨Nat.le_of_ble_eq_true rfl, Nat.le_of_ble_eq_true rfl⟩ hPc hDc hS rfl (Nat.le_of_ble_eq_true rfl) dX12_by_11 ⟨Nat.le_of_ble_eq_true rfl, Nat.le_of_ble_eq_true rfl⟩ (fun r2 u1 H1 locs1 h3 hku1 hP1 hD1 hS1 => ?_)
  obtain ⟨hrh3, rfl⟩ := h3
  obtain ⟨hP, hD⟩ := z_join (wr := [(q, .inr (12, [.ref aA, .ref aI, .ref aT, .ref aP, .int 0, .int (-1), .int (-1), .int 0, .int 0, .int 0, .int 0, .long 0, .int 0, .int 0, .int 0, .int 0, .ref pI, .int 0, .int 0, .int 0, .int 0, .int 0, .ref nM, .ref vA, .ref tR, .int 0, .int 0, .int 0, .ref rW, .ref sP, .ref oA, .ref bS, .ref aS, .ref aO, .ref cS, .ref wY])), (aA, .inl (cI, 862, .inl af0))]) Z hS hP hD [] [0, 1] rfl (by decide) rfl (by decide) (by decide) hku1 hP1 hD1
  have hS := hS1
  clear hS1
  generalize H1 = H at hP hS ⊢
  generalize locs1 = locs at hS ⊢
  have hP : va_P D vwCl ([(q, .inr (12, [.ref aA, .ref aI, .ref aT, .ref aP, .int 0, .int (-1), .int (-1), .int 0, .int 0, .int 0, .int 0, .long 0, .int 0, .int 0, .int 0, .int 0, .ref pI, .int 0, .int 0, .int 0, .int 0, .int 0, .ref nM, .ref vA, .ref tR, .int 0, .int 0, .int 0, .ref rW, .ref sP, .ref oA, .ref bS, .ref aS, .ref aO, .ref cS, .ref wY])), (aA, .inl (cI, 862, .inl af0))]) H := hP
  have hD : va_D A ([(q, .inr (12, [.ref aA, .ref aI, .ref aT, .ref aP, .int 0, .int (-1), .int (-1), .int 0, .int 0, .int 0, .int 0, .long 0, .int 0, .int 0, .int 0, .int 0, .ref pI, .int 0, .int 0, .int 0, .int 0, .int 0, .ref nM, .ref vA, .ref tR, .int 0, .int 0, .int 0, .ref rW, .ref sP, .ref oA, .ref bS, .ref aS, .ref aO, .ref cS, .ref wY])), (aA, .inl (cI, 862, .inl af0))]) := hD
  by_cases c4 : (-1) ≤ p0 ∧ p0 ≤ (-1)
  · obtain rfl : r2 = 1 := by rw [hrh3, if_pos c4]
    refine lv_if_ne (tgt := 19) hx hb dX12_by_14 (by decide) (fun c5 => ?_) (fun h => absurd h (by decide))
    refine lv_aload_n hx hb dX12_by_19 rfl (lv_at hl 0 rfl) ?_
    refine z_get Z i_X12 hP 0 rfl rfl 0 (by decide) bw_1019 rfl dX12_by_20 ?_
    refine lv_bipush (v := 7) hx hb dX12_by_23 (by decide) ?_
    refine lv_iload_n hx hb dX12_by_25 rfl (lv_at hl 1 rfl) ?_
    refine z_iast Z hP hD hS 1 0 rfl rfl (vin (by decide)) dX12_by_26 (fun H locs hP hD hS => ?_)
    have hP : va_P D vwCl ([(q, .inr (12, [.ref aA, .ref aI, .ref aT, .ref aP, .int 0, .int (-1), .int (-1), .int 0, .int 0, .int 0, .int 0, .long 0, .int 0, .int 0, .int 0, .int 0, .ref pI, .int 0, .int 0, .int 0, .int 0, .int 0, .ref nM, .ref vA, .ref tR, .int 0, .int 0, .int 0, .ref rW, .ref sP, .ref oA, .ref bS, .ref aS, .ref aO, .ref cS, .ref wY])), (aA, .inl (cI, 862, .inl (upd af0 (7 : Int32).toNatClampNeg p0)))]) H := hP
    have hD : va_D A ([(q, .inr (12, [.ref aA, .ref aI, .ref aT, .ref aP, .int 0, .int (-1), .int (-1), .int 0, .int 0, .int 0, .int 0, .long 0, .int 0, .int 0, .int 0, .int 0, .ref pI, .int 0, .int 0, .int 0, .int 0, .int 0, .ref nM, .ref vA, .ref tR, .int 0, .int 0, .int 0, .ref rW, .ref sP, .ref oA, .ref bS, .ref aS, .ref aO, .ref cS, .ref wY])), (aA, .inl (cI, 862, .inl (upd af0 (7 : Int32).toNatClampNeg p0)))]) := hD
    refine lv_iconst (v := 1) hx hb dX12_by_27 (by decide) ?_
    exact z_ret Z rfl hP hD hS ((by first | rfl | assumption | (rw [if_pos (by (try simp only [zlt, zle, zeq, zl_0, zl_1, zl_2, zl_3, zl_4, zl_5, zl_6, zl_7, zl_8, zl_9, zl_10, zl_11, zl_12, zl_13, zl_19, zl_20, zl_30, zl_64, zl_99, zl_100, zl_299, zl_300, zl_399, zl_999, zl_9999, zl_m1, zl_m2, zl_m3, zl_32, zl_280] at c4 c5 ⊢); omega)]; first | done | ((try simp only [zlt, zle, zeq, zl_0, zl_1, zl_2, zl_3, zl_4, zl_5, zl_6, zl_7, zl_8, zl_9, zl_10, zl_11, zl_12, zl_13, zl_19, zl_20, zl_30, zl_64, zl_99, zl_100, zl_299, zl_300, zl_399, zl_999, zl_9999, zl_m1, zl_m2, zl_m3, zl_32, zl_280] at c4 c5 ⊢); omega)) | (rw [if_neg (by (try simp only [zlt, zle, zeq, zl_0, zl_1, zl_2, zl_3, zl_4, zl_5, zl_6, zl_7, zl_8, zl_9, zl_10, zl_11, zl_12, zl_13, zl_19, zl_20, zl_30, zl_64, zl_99, zl_100, zl_299, zl_300, zl_399, zl_999, zl_9999, zl_m1, zl_m2, zl_m3, zl_32, zl_280] at c4 c5 ⊢); omega)]; first | done | ((try simp only [zlt, zle, zeq, zl_0, zl_1, zl_2, zl_3, zl_4, zl_5, zl_6, zl_7, zl_8, zl_9, zl_10, zl_11, zl_12, zl_13, zl_19, zl_20, zl_30, zl_64, zl_99, zl_100, zl_299, zl_300, zl_399, zl_999, zl_9999, zl_m1, zl_m2, zl_m3, zl_32, zl_280] at c4 c5 ⊢); omega)))) dX12_by_28 (Nat.le_of_ble_eq_true rfl) (Nat.le_of_ble_eq_true rfl)
  · obtain rfl : r2 = 0 := by rw [hrh3, if_neg c4]
    refine lv_if_ne (tgt := 19) hx hb dX12_by_14 (by decide) (fun h => absurd (by decide) h) (fun c6 => ?_)
    refine lv_iconst (v := 0) hx hb dX12_by_17 (by decide) ?_
    exact z_ret Z rfl hP hD hS ((by first | rfl | assumption | (rw [if_pos (by (try simp only [zlt, zle, zeq, zl_0, zl_1, zl_2, zl_3, zl_4, zl_5, zl_6, zl_7, zl_8, zl_9, zl_10, zl_11, zl_12, zl_13, zl_19, zl_20, zl_30, zl_64, zl_99, zl_100, zl_299, zl_300, zl_399, zl_999, zl_9999, zl_m1, zl_m2, zl_m3, zl_32, zl_280] at c4 c6 ⊢); omega)]; first | done | ((try simp only [zlt, zle, zeq, zl_0, zl_1, zl_2, zl_3, zl_4, zl_5, zl_6, zl_7, zl_8, zl_9, zl_10, zl_11, zl_12, zl_13, zl_19, zl_20, zl_30, zl_64, zl_99, zl_100, zl_299, zl_300, zl_399, zl_999, zl_9999, zl_m1, zl_m2, zl_m3, zl_32, zl_280] at c4 c6 ⊢); omega)) | (rw [if_neg (by (try simp only [zlt, zle, zeq, zl_0, zl_1, zl_2, zl_3, zl_4, zl_5, zl_6, zl_7, zl_8, zl_9, zl_10, zl_11, zl_12, zl_13, zl_19, zl_20, zl_30, zl_64, zl_99, zl_100, zl_299, zl_300, zl_399, zl_999, zl_9999, zl_m1, zl_m2, zl_m3, zl_32, zl_280] at c4 c6 ⊢); omega)]; first | done | ((try simp only [zlt, zle, zeq, zl_0, zl_1, zl_2, zl_3, zl_4, zl_5, zl_6, zl_7, zl_8, zl_9, zl_10, zl_11, zl_12, zl_13, zl_19, zl_20, zl_30, zl_64, zl_99, zl_100, zl_299, zl_300, zl_399, zl_999, zl_9999, zl_m1, zl_m2, zl_m3, zl_32, zl_280] at c4 c6 ⊢); omega)))) dX12_by_18 (Nat.le_of_ble_eq_true rfl) (Nat.le_of_ble_eq_true rfl)
set_option maxHeartbeats 4000000 in
set_option maxRecDepth 100000 in
theorem c_X12_start (l : Launch) (D : va_G) (cI cM cT : ClassId) (q : Nat) (aA : Nat) (aI : Nat) (aT : Nat) (aP : Nat) (pI : Nat) (nM : Nat) (vA : Nat) (tR : Nat) (rW : Nat) (sP : Nat) (oA : Nat) (bS : Nat) (aS : Nat) (aO : Nat) (cS : Nat) (wY : Nat) (p0 : Int32) : Ci l D (ty3 cI cM cT) yX12_start cX12_start 2 (some .boolean) 3 0 0 [.ref q, .int p0] ([(q, .inr (12, [.ref aA, .ref aI, .ref aT, .ref aP, .int 0, .int (-1), .int (-1), .int 0, .int 0, .int 0, .int 0, .long 0, .int 0, .int 0, .int 0, .int 0, .ref pI, .int 0, .int 0, .int 0, .int 0, .int 0, .ref nM, .ref vA, .ref tR, .int 0, .int 0, .int 0, .ref rW, .ref sP, .ref oA, .ref bS, .ref aS, .ref aO, .ref cS, .ref wY])), (aA, .inl (cI, 862, .inl af0))]) (fun r u => r = (if 0 ≤ p0 ∧ p0 < 300 then 1 else 0)) := by
  refine Ci.of (by decide +kernel) (Nat.le_of_ble_eq_true rfl) ?_
  intro p e s m below meth c A ls Z hin hP hD hl
  have hx := Z.1
  have hb := Z.2.1
  have hS : va_S A s.heap s.heap [] := va_S.rf
  have hl : lv_has ls 2 [(0, .ref q), (1, .int p0)] := hl
  skip
  refine lv_iload_n hx hb dX12_start_0 rfl (lv_at hl 1 rfl) ?_
  have hPc := hP.sub2 (wc := []) [] rfl
  have hDc := hD.sub (ws' := []) [] (by decide) rfl
  refine raw_Si (nA := 1) (As := [.int p0]) (rest := []) Z hl.1 (c_X12_isPlace l D cI cM cT p0) (bw_S bw_1132 bw_1133 bw_92 bw_1134) ⟨by decide +kernel, by decide +kernel, by decide +kernel⟩ rfl ⟨Nat.le_of_ble_eq_true rfl, Nat.le_of_ble_eq_true rfl⟩ hPc hDc hS rfl (Nat.le_of_ble_eq_true rfl) dX12_start_1 ⟨Nat.le_of_ble_eq_true rfl, Nat.le_of_ble_eq_true rfl⟩ (fun r2 u1 H1 locs1 h3 hku1 hP1 hD1 hS1 => ?_)
  obtain ⟨hrh3, rfl⟩ := h3
  obtain ⟨hP, hD⟩ := z_join (wr := [(q, .inr (12, [.ref aA, .ref aI, .ref aT, .ref aP, .int 0, .int (-1), .int (-1), .int 0, .int 0, .int 0, .int 0, .long 0, .int 0, .int 0, .int 0, .int 0, .ref pI, .int 0, .int 0, .int 0, .int 0, .int 0, .ref nM, .ref vA, .ref tR, .int 0, .int 0, .int 0, .ref rW, .ref sP, .ref oA, .ref bS, .ref aS, .ref aO, .ref cS, .ref wY])), (aA, .inl (cI, 862, .inl af0))]) Z hS hP hD [] [0, 1] rfl (by decide) rfl (by decide) (by decide) hku1 hP1 hD1
  have hS := hS1
  clear hS1
  generalize H1 = H at hP hS ⊢
  generalize locs1 = locs at hS ⊢
  have hP : va_P D vwCl ([(q, .inr (12, [.ref aA, .ref aI, .ref aT, .ref aP, .int 0, .int (-1), .int (-1), .int 0, .int 0, .int 0, .int 0, .long 0, .int 0, .int 0, .int 0, .int 0, .ref pI, .int 0, .int 0, .int 0, .int 0, .int 0, .ref nM, .ref vA, .ref tR, .int 0, .int 0, .int 0, .ref rW, .ref sP, .ref oA, .ref bS, .ref aS, .ref aO, .ref cS, .ref wY])), (aA, .inl (cI, 862, .inl af0))]) H := hP
  have hD : va_D A ([(q, .inr (12, [.ref aA, .ref aI, .ref aT, .ref aP, .int 0, .int (-1), .int (-1), .int 0, .int 0, .int 0, .int 0, .long 0, .int 0, .int 0, .int 0, .int 0, .ref pI, .int 0, .int 0, .int 0, .int 0, .int 0, .ref nM, .ref vA, .ref tR, .int 0, .int 0, .int 0, .ref rW, .ref sP, .ref oA, .ref bS, .ref aS, .ref aO, .ref cS, .ref wY])), (aA, .inl (cI, 862, .inl af0))]) := hD
  by_cases c4 : 0 ≤ p0 ∧ p0 ≤ 299
  · obtain rfl : r2 = 1 := by rw [hrh3, if_pos c4]
    refine lv_if_ne (tgt := 9) hx hb dX12_start_4 (by decide) (fun c5 => ?_) (fun h => absurd h (by decide))
    refine lv_aload_n hx hb dX12_start_9 rfl (lv_at hl 0 rfl) ?_
    refine z_get Z i_X12 hP 0 rfl rfl 0 (by decide) bw_1019 rfl dX12_start_10 ?_
    refine lv_bipush (v := 12) hx hb dX12_start_13 (by decide) ?_
    refine lv_iload_n hx hb dX12_start_15 rfl (lv_at hl 1 rfl) ?_
    refine z_iast Z hP hD hS 1 0 rfl rfl (vin (by decide)) dX12_start_16 (fun H locs hP hD hS => ?_)
    have hP : va_P D vwCl ([(q, .inr (12, [.ref aA, .ref aI, .ref aT, .ref aP, .int 0, .int (-1), .int (-1), .int 0, .int 0, .int 0, .int 0, .long 0, .int 0, .int 0, .int 0, .int 0, .ref pI, .int 0, .int 0, .int 0, .int 0, .int 0, .ref nM, .ref vA, .ref tR, .int 0, .int 0, .int 0, .ref rW, .ref sP, .ref oA, .ref bS, .ref aS, .ref aO, .ref cS, .ref wY])), (aA, .inl (cI, 862, .inl (upd af0 (12 : Int32).toNatClampNeg p0)))]) H := hP
    have hD : va_D A ([(q, .inr (12, [.ref aA, .ref aI, .ref aT, .ref aP, .int 0, .int (-1), .int (-1), .int 0, .int 0, .int 0, .int 0, .long 0, .int 0, .int 0, .int 0, .int 0, .ref pI, .int 0, .int 0, .int 0, .int 0, .int 0, .ref nM, .ref vA, .ref tR, .int 0, .int 0, .int 0, .ref rW, .ref sP, .ref oA, .ref bS, .ref aS, .ref aO, .ref cS, .ref wY])), (aA, .inl (cI, 862, .inl (upd af0 (12 : Int32).toNatClampNeg p0)))]) := hD
    refine lv_aload_n hx hb dX12_start_17 rfl (lv_at hl 0 rfl) ?_
    refine z_get Z i_X12 hP 0 rfl rfl 0 (by decide) bw_1019 rfl dX12_start_18 ?_
    refine lv_bipush (v := 13) hx hb dX12_start_21 (by decide) ?_
    refine lv_iconst (v := 0) hx hb dX12_start_23 (by decide) ?_
    refine z_iast Z hP hD hS 1 0 rfl rfl (vin (by decide)) dX12_start_24 (fun H locs hP hD hS => ?_)
    have hP : va_P D vwCl ([(q, .inr (12, [.ref aA, .ref aI, .ref aT, .ref aP, .int 0, .int (-1), .int (-1), .int 0, .int 0, .int 0, .int 0, .long 0, .int 0, .int 0, .int 0, .int 0, .ref pI, .int 0, .int 0, .int 0, .int 0, .int 0, .ref nM, .ref vA, .ref tR, .int 0, .int 0, .int 0, .ref rW, .ref sP, .ref oA, .ref bS, .ref aS, .ref aO, .ref cS, .ref wY])), (aA, .inl (cI, 862, .inl (upd (upd af0 (12 : Int32).toNatClampNeg p0) (13 : Int32).toNatClampNeg 0)))]) H := hP
    have hD : va_D A ([(q, .inr (12, [.ref aA, .ref aI, .ref aT, .ref aP, .int 0, .int (-1), .int (-1), .int 0, .int 0, .int 0, .int 0, .long 0, .int 0, .int 0, .int 0, .int 0, .ref pI, .int 0, .int 0, .int 0, .int 0, .int 0, .ref nM, .ref vA, .ref tR, .int 0, .int 0, .int 0, .ref rW, .ref sP, .ref oA, .ref bS, .ref aS, .ref aO, .ref cS, .ref wY])), (aA, .inl (cI, 862, .inl (upd (upd af0 (12 : Int32).toNatClampNeg p0) (13 : Int32).toNatClampNeg 0)))]) := hD
    refine lv_aload_n hx hb dX12_start_25 rfl (lv_at hl 0 rfl) ?_
    refine z_get Z i_X12 hP 0 rfl rfl 0 (by decide) bw_1019 rfl dX12_start_26 ?_
    refine lv_bipush (v := 14) hx hb dX12_start_29 (by decide) ?_
    refine lv_iconst (v := 0) hx hb dX12_start_31 (by decide) ?_
    refine z_iast Z hP hD hS 1 0 rfl rfl (vin (by decide)) dX12_start_32 (fun H locs hP hD hS => ?_)
    have hP : va_P D vwCl ([(q, .inr (12, [.ref aA, .ref aI, .ref aT, .ref aP, .int 0, .int (-1), .int (-1), .int 0, .int 0, .int 0, .int 0, .long 0, .int 0, .int 0, .int 0, .int 0, .ref pI, .int 0, .int 0, .int 0, .int 0, .int 0, .ref nM, .ref vA, .ref tR, .int 0, .int 0, .int 0, .ref rW, .ref sP, .ref oA, .ref bS, .ref aS, .ref aO, .ref cS, .ref wY])), (aA, .inl (cI, 862, .inl (upd (upd (upd af0 (12 : Int32).toNatClampNeg p0) (13 : Int32).toNatClampNeg 0) (14 : Int32).toNatClampNeg 0)))]) H := hP
    have hD : va_D A ([(q, .inr (12, [.ref aA, .ref aI, .ref aT, .ref aP, .int 0, .int (-1), .int (-1), .int 0, .int 0, .int 0, .int 0, .long 0, .int 0, .int 0, .int 0, .int 0, .ref pI, .int 0, .int 0, .int 0, .int 0, .int 0, .ref nM, .ref vA, .ref tR, .int 0, .int 0, .int 0, .ref rW, .ref sP, .ref oA, .ref bS, .ref aS, .ref aO, .ref cS, .ref wY])), (aA, .inl (cI, 862, .inl (upd (upd (upd af0 (12 : Int32).toNatClampNeg p0) (13 : Int32).toNatClampNeg 0) (14 : Int32).toNatClampNeg 0)))]) := hD
    refine lv_aload_n hx hb dX12_start_33 rfl (lv_at hl 0 rfl) ?_
    refine z_get Z i_X12 hP 0 rfl rfl 0 (by decide) bw_1019 rfl dX12_start_34 ?_
    refine lv_bipush (v := 8) hx hb dX12_start_37 (by decide) ?_
    refine lv_iconst (v := 0) hx hb dX12_start_39 (by decide) ?_
    refine z_iast Z hP hD hS 1 0 rfl rfl (vin (by decide)) dX12_start_40 (fun H locs hP hD hS => ?_)
    have hP : va_P D vwCl ([(q, .inr (12, [.ref aA, .ref aI, .ref aT, .ref aP, .int 0, .int (-1), .int (-1), .int 0, .int 0, .int 0, .int 0, .long 0, .int 0, .int 0, .int 0, .int 0, .ref pI, .int 0, .int 0, .int 0, .int 0, .int 0, .ref nM, .ref vA, .ref tR, .int 0, .int 0, .int 0, .ref rW, .ref sP, .ref oA, .ref bS, .ref aS, .ref aO, .ref cS, .ref wY])), (aA, .inl (cI, 862, .inl (upd (upd (upd (upd af0 (12 : Int32).toNatClampNeg p0) (13 : Int32).toNatClampNeg 0) (14 : Int32).toNatClampNeg 0) (8 : Int32).toNatClampNeg 0)))]) H := hP
    have hD : va_D A ([(q, .inr (12, [.ref aA, .ref aI, .ref aT, .ref aP, .int 0, .int (-1), .int (-1), .int 0, .int 0, .int 0, .int 0, .long 0, .int 0, .int 0, .int 0, .int 0, .ref pI, .int 0, .int 0, .int 0, .int 0, .int 0, .ref nM, .ref vA, .ref tR, .int 0, .int 0, .int 0, .ref rW, .ref sP, .ref oA, .ref bS, .ref aS, .ref aO, .ref cS, .ref wY])), (aA, .inl (cI, 862, .inl (upd (upd (upd (upd af0 (12 : Int32).toNatClampNeg p0) (13 : Int32).toNatClampNeg 0) (14 : Int32).toNatClampNeg 0) (8 : Int32).toNatClampNeg 0)))]) := hD
    refine lv_iconst (v := 1) hx hb dX12_start_41 (by decide) ?_
    exact z_ret Z rfl hP hD hS ((by first | rfl | assumption | (rw [if_pos (by (try simp only [zlt, zle, zeq, zl_0, zl_1, zl_2, zl_3, zl_4, zl_5, zl_6, zl_7, zl_8, zl_9, zl_10, zl_11, zl_12, zl_13, zl_19, zl_20, zl_30, zl_64, zl_99, zl_100, zl_299, zl_300, zl_399, zl_999, zl_9999, zl_m1, zl_m2, zl_m3, zl_32, zl_280] at c4 c5 ⊢); omega)]; first | done | ((try simp only [zlt, zle, zeq, zl_0, zl_1, zl_2, zl_3, zl_4, zl_5, zl_6, zl_7, zl_8, zl_9, zl_10, zl_11, zl_12, zl_13, zl_19, zl_20, zl_30, zl_64, zl_99, zl_100, zl_299, zl_300, zl_399, zl_999, zl_9999, zl_m1, zl_m2, zl_m3, zl_32, zl_280] at c4 c5 ⊢); omega)) | (rw [if_neg (by (try simp only [zlt, zle, zeq, zl_0, zl_1, zl_2, zl_3, zl_4, zl_5, zl_6, zl_7, zl_8, zl_9, zl_10, zl_11, zl_12, zl_13, zl_19, zl_20, zl_30, zl_64, zl_99, zl_100, zl_299, zl_300, zl_399, zl_999, zl_9999, zl_m1, zl_m2, zl_m3, zl_32, zl_280] at c4 c5 ⊢); omega)]; first | done | ((try simp only [zlt, zle, zeq, zl_0, zl_1, zl_2, zl_3, zl_4, zl_5, zl_6, zl_7, zl_8, zl_9, zl_10, zl_11, zl_12, zl_13, zl_19, zl_20, zl_30, zl_64, zl_99, zl_100, zl_299, zl_300, zl_399, zl_999, zl_9999, zl_m1, zl_m2, zl_m3, zl_32, zl_280] at c4 c5 ⊢); omega)))) dX12_start_42 (Nat.le_of_ble_eq_true rfl) (Nat.le_of_ble_eq_true rfl)
  · obtain rfl : r2 = 0 := by rw [hrh3, if_neg c4]
    refine lv_if_ne (tgt := 9) hx hb dX12_start_4 (by decide) (fun h => absurd (by decide) h) (fun c6 => ?_)
    refine lv_iconst (v := 0) hx hb dX12_start_7 (by decide) ?_
    exact z_ret Z rfl hP hD hS ((by first | rfl | assumption | (rw [if_pos (by (try simp only [zlt, zle, zeq, zl_0, zl_1, zl_2, zl_3, zl_4, zl_5, zl_6, zl_7, zl_8, zl_9, zl_10, zl_11, zl_12, zl_13, zl_19, zl_20, zl_30, zl_64, zl_99, zl_100, zl_299, zl_300, zl_399, zl_999, zl_9999, zl_m1, zl_m2, zl_m3, zl_32, zl_280] at c4 c6 ⊢); omega)]; first | done | ((try simp only [zlt, zle, zeq, zl_0, zl_1, zl_2, zl_3, zl_4, zl_5, zl_6, zl_7, zl_8, zl_9, zl_10, zl_11, zl_12, zl_13, zl_19, zl_20, zl_30, zl_64, zl_99, zl_100, zl_299, zl_300, zl_399, zl_999, zl_9999, zl_m1, zl_m2, zl_m3, zl_32, zl_280] at c4 c6 ⊢); omega)) | (rw [if_neg (by (try simp only [zlt, zle, zeq, zl_0, zl_1, zl_2, zl_3, zl_4, zl_5, zl_6, zl_7, zl_8, zl_9, zl_10, zl_11, zl_12, zl_13, zl_19, zl_20, zl_30, zl_64, zl_99, zl_100, zl_299, zl_300, zl_399, zl_999, zl_9999, zl_m1, zl_m2, zl_m3, zl_32, zl_280] at c4 c6 ⊢); omega)]; first | done | ((try simp only [zlt, zle, zeq, zl_0, zl_1, zl_2, zl_3, zl_4, zl_5, zl_6, zl_7, zl_8, zl_9, zl_10, zl_11, zl_12, zl_13, zl_19, zl_20, zl_30, zl_64, zl_99, zl_100, zl_299, zl_300, zl_399, zl_999, zl_9999, zl_m1, zl_m2, zl_m3, zl_32, zl_280] at c4 c6 ⊢); omega)))) dX12_start_8 (Nat.le_of_ble_eq_true rfl) (Nat.le_of_ble_eq_true rfl)
set_option maxHeartbeats 4000000 in
set_option maxRecDepth 100000 in
theorem c_X12_would (l : Launch) (D : va_G) (cI cM cT : ClassId) (q : Nat) (aA : Nat) (aI : Nat) (aT : Nat) (aP : Nat) (pI : Nat) (nM : Nat) (vA : Nat) (tR : Nat) (rW : Nat) (sP : Nat) (oA : Nat) (bS : Nat) (aS : Nat) (aO : Nat) (cS : Nat) (wY : Nat) (p0 : Int32) (p1 : Int32) (p2 : Int32) : Ci l D (ty3 cI cM cT) yX12_would cX12_would 4 (some .int) 3 0 0 [.ref q, .int p0, .int p1, .int p2] ([(q, .inr (12, [.ref aA, .ref aI, .ref aT, .ref aP, .int 0, .int (-1), .int (-1), .int 0, .int 0, .int 0, .int 0, .long 0, .int 0, .int 0, .int 0, .int 0, .ref pI, .int 0, .int 0, .int 0, .int 0, .int 0, .ref nM, .ref vA, .ref tR, .int 0, .int 0, .int 0, .ref rW, .ref sP, .ref oA, .ref bS, .ref aS, .ref aO, .ref cS, .ref wY])), (aA, .inl (cI, 862, .inl af0))]) (fun r u => r = (-1)) := by
  refine Ci.of (by decide +kernel) (Nat.le_of_ble_eq_true rfl) ?_
  intro p e s m below meth c A ls Z hin hP hD hl
  have hx := Z.1
  have hb := Z.2.1
  have hS : va_S A s.heap s.heap [] := va_S.rf
  have hl : lv_has ls 4 [(0, .ref q), (1, .int p0), (2, .int p1), (3, .int p2)] := hl
  skip
  refine lv_aload_n hx hb dX12_would_0 rfl (lv_at hl 0 rfl) ?_
  refine lv_iload_n hx hb dX12_would_1 rfl (lv_at hl 1 rfl) ?_
  have hPc := hP.sub2 (wc := [(q, .inr (12, [.ref aA, .ref aI, .ref aT, .ref aP, .int 0, .int (-1), .int (-1), .int 0, .int 0, .int 0, .int 0, .long 0, .int 0, .int 0, .int 0, .int 0, .ref pI, .int 0, .int 0, .int 0, .int 0, .int 0, .ref nM, .ref vA, .ref tR, .int 0, .int 0, .int 0, .ref rW, .ref sP, .ref oA, .ref bS, .ref aS, .ref aO, .ref cS, .ref wY])), (aA, .inl (cI, 862, .inl af0))]) [0, 1] rfl
  have hDc := hD.sub (ws' := [(q, .inr (12, [.ref aA, .ref aI, .ref aT, .ref aP, .int 0, .int (-1), .int (-1), .int 0, .int 0, .int 0, .int 0, .long 0, .int 0, .int 0, .int 0, .int 0, .ref pI, .int 0, .int 0, .int 0, .int 0, .int 0, .ref nM, .ref vA, .ref tR, .int 0, .int 0, .int 0, .ref rW, .ref sP, .ref oA, .ref bS, .ref aS, .ref aO, .ref cS, .ref wY])), (aA, .inl (cI, 862, .inl af0))]) [0, 1] (by decide) rfl
  refine raw_Vi (ci := 12) (q0 := 0) (nA := 1) (As := [.int p0]) (rest := []) Z hl.1 (c_X12_isHorse l D cI cM cT q aA aI aT aP pI nM vA tR rW sP oA bS aS aO cS wY p0) (bw_V bw_1298 bw_1300 bw_60 bw_92 bw_1301) ⟨by decide +kernel, by decide +kernel, by decide +kernel⟩ rfl ⟨Nat.le_of_ble_eq_true rfl, Nat.le_of_ble_eq_true rfl⟩ rfl rfl rfl hPc hDc hS rfl (Nat.le_of_ble_eq_true rfl) dX12_would_2 ⟨Nat.le_of_ble_eq_true rfl, Nat.le_of_ble_eq_true rfl⟩ (fun r2 u1 H1 locs1 h3 hku1 hP1 hD1 hS1 => ?_)
  obtain ⟨rfl, rfl⟩ := h3
  obtain ⟨hP, hD⟩ := z_join (wr := []) Z hS hP hD [0, 1] [] rfl (by decide) rfl (by decide) (by decide) hku1 hP1 hD1
  have hS := hS1
  clear hS1
  generalize H1 = H at hP hS ⊢
  generalize locs1 = locs at hS ⊢
  have hP : va_P D vwCl ([(q, .inr (12, [.ref aA, .ref aI, .ref aT, .ref aP, .int 0, .int (-1), .int (-1), .int 0, .int 0, .int 0, .int 0, .long 0, .int 0, .int 0, .int 0, .int 0, .ref pI, .int 0, .int 0, .int 0, .int 0, .int 0, .ref nM, .ref vA, .ref tR, .int 0, .int 0, .int 0, .ref rW, .ref sP, .ref oA, .ref bS, .ref aS, .ref aO, .ref cS, .ref wY])), (aA, .inl (cI, 862, .inl af0))]) H := hP
  have hD : va_D A ([(q, .inr (12, [.ref aA, .ref aI, .ref aT, .ref aP, .int 0, .int (-1), .int (-1), .int 0, .int 0, .int 0, .int 0, .long 0, .int 0, .int 0, .int 0, .int 0, .ref pI, .int 0, .int 0, .int 0, .int 0, .int 0, .ref nM, .ref vA, .ref tR, .int 0, .int 0, .int 0, .ref rW, .ref sP, .ref oA, .ref bS, .ref aS, .ref aO, .ref cS, .ref wY])), (aA, .inl (cI, 862, .inl af0))]) := hD
  refine lv_if_eq (tgt := 24) hx hb dX12_would_5 (by decide) (fun c4 => ?_) (fun h => absurd (by decide) h)
  refine lv_iconst (v := (-1)) hx hb dX12_would_24 (by decide) ?_
  exact z_ret Z rfl hP hD hS ((by first | rfl | assumption)) dX12_would_25 (Nat.le_of_ble_eq_true rfl) (Nat.le_of_ble_eq_true rfl)
set_option maxHeartbeats 4000000 in
set_option maxRecDepth 100000 in
theorem c_X12_drive (l : Launch) (D : va_G) (cI cM cT : ClassId) (q : Nat) (aA : Nat) (aI : Nat) (aT : Nat) (aP : Nat) (pI : Nat) (nM : Nat) (vA : Nat) (tR : Nat) (rW : Nat) (sP : Nat) (oA : Nat) (bS : Nat) (aS : Nat) (aO : Nat) (cS : Nat) (wY : Nat) (p0 : Int32) : Ci l D (ty3 cI cM cT) yX12_drive cX12_drive 2 (some .int) 3 0 0 [.ref q, .int p0] ([(q, .inr (12, [.ref aA, .ref aI, .ref aT, .ref aP, .int 0, .int (-1), .int (-1), .int 0, .int 0, .int 0, .int 0, .long 0, .int 0, .int 0, .int 0, .int 0, .ref pI, .int 0, .int 0, .int 0, .int 0, .int 0, .ref nM, .ref vA, .ref tR, .int 0, .int 0, .int 0, .ref rW, .ref sP, .ref oA, .ref bS, .ref aS, .ref aO, .ref cS, .ref wY])), (aA, .inl (cI, 862, .inl af0))]) (fun r u => r = (-1)) := by
  refine Ci.of (by decide +kernel) (Nat.le_of_ble_eq_true rfl) ?_
  intro p e s m below meth c A ls Z hin hP hD hl
  have hx := Z.1
  have hb := Z.2.1
  have hS : va_S A s.heap s.heap [] := va_S.rf
  have hl : lv_has ls 2 [(0, .ref q), (1, .int p0)] := hl
  skip
  refine lv_aload_n hx hb dX12_drive_0 rfl (lv_at hl 0 rfl) ?_
  refine lv_iload_n hx hb dX12_drive_1 rfl (lv_at hl 1 rfl) ?_
  have hPc := hP.sub2 (wc := [(q, .inr (12, [.ref aA, .ref aI, .ref aT, .ref aP, .int 0, .int (-1), .int (-1), .int 0, .int 0, .int 0, .int 0, .long 0, .int 0, .int 0, .int 0, .int 0, .ref pI, .int 0, .int 0, .int 0, .int 0, .int 0, .ref nM, .ref vA, .ref tR, .int 0, .int 0, .int 0, .ref rW, .ref sP, .ref oA, .ref bS, .ref aS, .ref aO, .ref cS, .ref wY])), (aA, .inl (cI, 862, .inl af0))]) [0, 1] rfl
  have hDc := hD.sub (ws' := [(q, .inr (12, [.ref aA, .ref aI, .ref aT, .ref aP, .int 0, .int (-1), .int (-1), .int 0, .int 0, .int 0, .int 0, .long 0, .int 0, .int 0, .int 0, .int 0, .ref pI, .int 0, .int 0, .int 0, .int 0, .int 0, .ref nM, .ref vA, .ref tR, .int 0, .int 0, .int 0, .ref rW, .ref sP, .ref oA, .ref bS, .ref aS, .ref aO, .ref cS, .ref wY])), (aA, .inl (cI, 862, .inl af0))]) [0, 1] (by decide) rfl
  refine raw_Vi (ci := 12) (q0 := 0) (nA := 1) (As := [.int p0]) (rest := []) Z hl.1 (c_X12_isHorse l D cI cM cT q aA aI aT aP pI nM vA tR rW sP oA bS aS aO cS wY p0) (bw_V bw_1298 bw_1300 bw_60 bw_92 bw_1301) ⟨by decide +kernel, by decide +kernel, by decide +kernel⟩ rfl ⟨Nat.le_of_ble_eq_true rfl, Nat.le_of_ble_eq_true rfl⟩ rfl rfl rfl hPc hDc hS rfl (Nat.le_of_ble_eq_true rfl) dX12_drive_2 ⟨Nat.le_of_ble_eq_true rfl, Nat.le_of_ble_eq_true rfl⟩ (fun r2 u1 H1 locs1 h3 hku1 hP1 hD1 hS1 => ?_)
  obtain ⟨rfl, rfl⟩ := h3
  obtain ⟨hP, hD⟩ := z_join (wr := []) Z hS hP hD [0, 1] [] rfl (by decide) rfl (by decide) (by decide) hku1 hP1 hD1
  have hS := hS1
  clear hS1
  generalize H1 = H at hP hS ⊢
  generalize locs1 = locs at hS ⊢
  have hP : va_P D vwCl ([(q, .inr (12, [.ref aA, .ref aI, .ref aT, .ref aP, .int 0, .int (-1), .int (-1), .int 0, .int 0, .int 0, .int 0, .long 0, .int 0, .int 0, .int 0, .int 0, .ref pI, .int 0, .int 0, .int 0, .int 0, .int 0, .ref nM, .ref vA, .ref tR, .int 0, .int 0, .int 0, .ref rW, .ref sP, .ref oA, .ref bS, .ref aS, .ref aO, .ref cS, .ref wY])), (aA, .inl (cI, 862, .inl af0))]) H := hP
  have hD : va_D A ([(q, .inr (12, [.ref aA, .ref aI, .ref aT, .ref aP, .int 0, .int (-1), .int (-1), .int 0, .int 0, .int 0, .int 0, .long 0, .int 0, .int 0, .int 0, .int 0, .ref pI, .int 0, .int 0, .int 0, .int 0, .int 0, .ref nM, .ref vA, .ref tR, .int 0, .int 0, .int 0, .ref rW, .ref sP, .ref oA, .ref bS, .ref aS, .ref aO, .ref cS, .ref wY])), (aA, .inl (cI, 862, .inl af0))]) := hD
  refine lv_if_eq (tgt := 21) hx hb dX12_drive_5 (by decide) (fun c4 => ?_) (fun h => absurd (by decide) h)
  refine lv_iconst (v := (-1)) hx hb dX12_drive_21 (by decide) ?_
  exact z_ret Z rfl hP hD hS ((by first | rfl | assumption)) dX12_drive_22 (Nat.le_of_ble_eq_true rfl) (Nat.le_of_ble_eq_true rfl)
set_option maxHeartbeats 4000000 in
set_option maxRecDepth 100000 in
theorem c_X12_played (l : Launch) (D : va_G) (cI cM cT : ClassId) (q : Nat) (aA : Nat) (aI : Nat) (aT : Nat) (aP : Nat) (pI : Nat) (nM : Nat) (vA : Nat) (tR : Nat) (rW : Nat) (sP : Nat) (oA : Nat) (bS : Nat) (aS : Nat) (aO : Nat) (cS : Nat) (wY : Nat) (p0 : Int32) : Ci l D (ty3 cI cM cT) yX12_played cX12_played 3 (some .int) 3 0 0 [.ref q, .int p0] ([(q, .inr (12, [.ref aA, .ref aI, .ref aT, .ref aP, .int 0, .int (-1), .int (-1), .int 0, .int 0, .int 0, .int 0, .long 0, .int 0, .int 0, .int 0, .int 0, .ref pI, .int 0, .int 0, .int 0, .int 0, .int 0, .ref nM, .ref vA, .ref tR, .int 0, .int 0, .int 0, .ref rW, .ref sP, .ref oA, .ref bS, .ref aS, .ref aO, .ref cS, .ref wY])), (aA, .inl (cI, 862, .inl af0))]) (fun r u => r = (-2)) := by
  refine Ci.of (by decide +kernel) (Nat.le_of_ble_eq_true rfl) ?_
  intro p e s m below meth c A ls Z hin hP hD hl
  have hx := Z.1
  have hb := Z.2.1
  have hS : va_S A s.heap s.heap [] := va_S.rf
  have hl : lv_has ls 3 [(0, .ref q), (1, .int p0)] := hl
  skip
  refine lv_iload_n hx hb dX12_played_0 rfl (lv_at hl 1 rfl) ?_
  refine lv_iconst (v := 0) hx hb dX12_played_1 (by decide) ?_
  refine lv_aload_n hx hb dX12_played_2 rfl (lv_at hl 0 rfl) ?_
  refine z_get Z i_X12 hP 0 rfl rfl 0 (by decide) bw_1019 rfl dX12_played_3 ?_
  refine lv_bipush (v := 6) hx hb dX12_played_6 (by decide) ?_
  refine z_iald Z hP 1 0 rfl rfl (vin (by decide)) dX12_played_8 ?_
  refine z_topi (y := 0) rfl ?_
  refine lv_iconst (v := 1) hx hb dX12_played_9 (by decide) ?_
  refine lv_isub hx hb dX12_played_10 ?_
  refine z_topi (y := (-1)) (by decide) ?_
  have hPc := hP.sub2 (wc := []) [] rfl
  have hDc := hD.sub (ws' := []) [] (by decide) rfl
  refine raw_Si (nA := 3) (As := [.int p0, .int 0, .int (-1)]) (rest := []) Z hl.1 (c_X12_isIn l D cI cM cT p0 0 (-1)) (bw_S bw_1135 bw_1136 bw_92 bw_1137) ⟨by decide +kernel, by decide +kernel, by decide +kernel⟩ rfl ⟨Nat.le_of_ble_eq_true rfl, Nat.le_of_ble_eq_true rfl⟩ hPc hDc hS rfl (Nat.le_of_ble_eq_true rfl) dX12_played_11 ⟨Nat.le_of_ble_eq_true rfl, Nat.le_of_ble_eq_true rfl⟩ (fun r2 u1 H1 locs1 h3 hku1 hP1 hD1 hS1 => ?_)
  obtain ⟨hrh3, rfl⟩ := h3
  obtain ⟨hP, hD⟩ := z_join (wr := [(q, .inr (12, [.ref aA, .ref aI, .ref aT, .ref aP, .int 0, .int (-1), .int (-1), .int 0, .int 0, .int 0, .int 0, .long 0, .int 0, .int 0, .int 0, .int 0, .ref pI, .int 0, .int 0, .int 0, .int 0, .int 0, .ref nM, .ref vA, .ref tR, .int 0, .int 0, .int 0, .ref rW, .ref sP, .ref oA, .ref bS, .ref aS, .ref aO, .ref cS, .ref wY])), (aA, .inl (cI, 862, .inl af0))]) Z hS hP hD [] [0, 1] rfl (by decide) rfl (by decide) (by decide) hku1 hP1 hD1
  have hS := hS1
  clear hS1
  generalize H1 = H at hP hS ⊢
  generalize locs1 = locs at hS ⊢
  have hP : va_P D vwCl ([(q, .inr (12, [.ref aA, .ref aI, .ref aT, .ref aP, .int 0, .int (-1), .int (-1), .int 0, .int 0, .int 0, .int 0, .long 0, .int 0, .int 0, .int 0, .int 0, .ref pI, .int 0, .int 0, .int 0, .int 0, .int 0, .ref nM, .ref vA, .ref tR, .int 0, .int 0, .int 0, .ref rW, .ref sP, .ref oA, .ref bS, .ref aS, .ref aO, .ref cS, .ref wY])), (aA, .inl (cI, 862, .inl af0))]) H := hP
  have hD : va_D A ([(q, .inr (12, [.ref aA, .ref aI, .ref aT, .ref aP, .int 0, .int (-1), .int (-1), .int 0, .int 0, .int 0, .int 0, .long 0, .int 0, .int 0, .int 0, .int 0, .ref pI, .int 0, .int 0, .int 0, .int 0, .int 0, .ref nM, .ref vA, .ref tR, .int 0, .int 0, .int 0, .ref rW, .ref sP, .ref oA, .ref bS, .ref aS, .ref aO, .ref cS, .ref wY])), (aA, .inl (cI, 862, .inl af0))]) := hD
  obtain rfl : r2 = 0 := by rw [hrh3, if_neg (by simp only [zlt, zle, zeq, zl_0, zl_1, zl_2, zl_3, zl_4, zl_5, zl_6, zl_7, zl_8, zl_9, zl_10, zl_11, zl_12, zl_13, zl_19, zl_20, zl_30, zl_64, zl_99, zl_100, zl_299, zl_300, zl_399, zl_999, zl_9999, zl_m1, zl_m2, zl_m3, zl_32, zl_280]; omega)]
  refine lv_if_ne (tgt := 20) hx hb dX12_played_14 (by decide) (fun h => absurd (by decide) h) (fun c5 => ?_)
  refine lv_bipush (v := (-2)) hx hb dX12_played_17 (by decide) ?_
  exact z_ret Z rfl hP hD hS ((by first | rfl | assumption)) dX12_played_19 (Nat.le_of_ble_eq_true rfl) (Nat.le_of_ble_eq_true rfl)
set_option maxHeartbeats 4000000 in
set_option maxRecDepth 100000 in
theorem c_X12_undo (l : Launch) (D : va_G) (cI cM cT : ClassId) (q : Nat) (aA : Nat) (aI : Nat) (aT : Nat) (aP : Nat) (pI : Nat) (nM : Nat) (vA : Nat) (tR : Nat) (rW : Nat) (sP : Nat) (oA : Nat) (bS : Nat) (aS : Nat) (aO : Nat) (cS : Nat) (wY : Nat) : Ci l D (ty3 cI cM cT) yX12_undo cX12_undo 3 (some .int) 3 0 0 [.ref q] ([(q, .inr (12, [.ref aA, .ref aI, .ref aT, .ref aP, .int 0, .int (-1), .int (-1), .int 0, .int 0, .int 0, .int 0, .long 0, .int 0, .int 0, .int 0, .int 0, .ref pI, .int 0, .int 0, .int 0, .int 0, .int 0, .ref nM, .ref vA, .ref tR, .int 0, .int 0, .int 0, .ref rW, .ref sP, .ref oA, .ref bS, .ref aS, .ref aO, .ref cS, .ref wY])), (aA, .inl (cI, 862, .inl af0))]) (fun r u => r = (-1)) := by
  refine Ci.of (by decide +kernel) (Nat.le_of_ble_eq_true rfl) ?_
  intro p e s m below meth c A ls Z hin hP hD hl
  have hx := Z.1
  have hb := Z.2.1
  have hS : va_S A s.heap s.heap [] := va_S.rf
  have hl : lv_has ls 3 [(0, .ref q)] := hl
  skip
  refine lv_aload_n hx hb dX12_undo_0 rfl (lv_at hl 0 rfl) ?_
  refine z_get Z i_X12 hP 0 rfl rfl 0 (by decide) bw_1019 rfl dX12_undo_1 ?_
  refine lv_bipush (v := 8) hx hb dX12_undo_4 (by decide) ?_
  refine z_iald Z hP 1 0 rfl rfl (vin (by decide)) dX12_undo_6 ?_
  refine z_topi (y := 0) rfl ?_
  refine lv_if_ne (tgt := 12) hx hb dX12_undo_7 (by decide) (fun h => absurd (by decide) h) (fun c1 => ?_)
  refine lv_iconst (v := (-1)) hx hb dX12_undo_10 (by decide) ?_
  exact z_ret Z rfl hP hD hS ((by first | rfl | assumption)) dX12_undo_11 (Nat.le_of_ble_eq_true rfl) (Nat.le_of_ble_eq_true rfl)
set_option maxHeartbeats 4000000 in
set_option maxRecDepth 100000 in
theorem c_X12_harness (l : Launch) (D : va_G) (cI cM cT : ClassId) (q : Nat) (aA : Nat) (aI : Nat) (aT : Nat) (aP : Nat) (pI : Nat) (nM : Nat) (vA : Nat) (tR : Nat) (rW : Nat) (sP : Nat) (oA : Nat) (bS : Nat) (aS : Nat) (aO : Nat) (cS : Nat) (wY : Nat) (p0 : Int32) (p1 : Int32) (p2 : Int32) : Ci l D (ty3 cI cM cT) yX12_harness cX12_harness 6 (some .int) 3 0 0 [.ref q, .int p0, .int p1, .int p2] ([(q, .inr (12, [.ref aA, .ref aI, .ref aT, .ref aP, .int 0, .int (-1), .int (-1), .int 0, .int 0, .int 0, .int 0, .long 0, .int 0, .int 0, .int 0, .int 0, .ref pI, .int 0, .int 0, .int 0, .int 0, .int 0, .ref nM, .ref vA, .ref tR, .int 0, .int 0, .int 0, .ref rW, .ref sP, .ref oA, .ref bS, .ref aS, .ref aO, .ref cS, .ref wY])), (aA, .inl (cI, 862, .inl af0))]) (fun r u => r = (if (0 ≤ p0 ∧ p0 < 300) ∧ (0 ≤ p1 ∧ p1 < 300) ∧ p0 = p1 ∧ (p2 = (-1) ∨ p2 = (-2)) then 0 else (-3))) := by
  refine Ci.of (by decide +kernel) (Nat.le_of_ble_eq_true rfl) ?_
  intro p e s m below meth c A ls Z hin hP hD hl
  have hx := Z.1
  have hb := Z.2.1
  have hS : va_S A s.heap s.heap [] := va_S.rf
  have hl : lv_has ls 6 [(0, .ref q), (1, .int p0), (2, .int p1), (3, .int p2)] := hl
  skip
  refine lv_iload_n hx hb dX12_harness_0 rfl (lv_at hl 1 rfl) ?_
  have hPc := hP.sub2 (wc := []) [] rfl
  have hDc := hD.sub (ws' := []) [] (by decide) rfl
  refine raw_Si (nA := 1) (As := [.int p0]) (rest := []) Z hl.1 (c_X12_isPlace l D cI cM cT p0) (bw_S bw_1132 bw_1133 bw_92 bw_1134) ⟨by decide +kernel, by decide +kernel, by decide +kernel⟩ rfl ⟨Nat.le_of_ble_eq_true rfl, Nat.le_of_ble_eq_true rfl⟩ hPc hDc hS rfl (Nat.le_of_ble_eq_true rfl) dX12_harness_1 ⟨Nat.le_of_ble_eq_true rfl, Nat.le_of_ble_eq_true rfl⟩ (fun r2 u1 H1 locs1 h3 hku1 hP1 hD1 hS1 => ?_)
  obtain ⟨hrh3, rfl⟩ := h3
  obtain ⟨hP, hD⟩ := z_join (wr := [(q, .inr (12, [.ref aA, .ref aI, .ref aT, .ref aP, .int 0, .int (-1), .int (-1), .int 0, .int 0, .int 0, .int 0, .long 0, .int 0, .int 0, .int 0, .int 0, .ref pI, .int 0, .int 0, .int 0, .int 0, .int 0, .ref nM, .ref vA, .ref tR, .int 0, .int 0, .int 0, .ref rW, .ref sP, .ref oA, .ref bS, .ref aS, .ref aO, .ref cS, .ref wY])), (aA, .inl (cI, 862, .inl af0))]) Z hS hP hD [] [0, 1] rfl (by decide) rfl (by decide) (by decide) hku1 hP1 hD1
  have hS := hS1
  clear hS1
  generalize H1 = H at hP hS ⊢
  generalize locs1 = locs at hS ⊢
  have hP : va_P D vwCl ([(q, .inr (12, [.ref aA, .ref aI, .ref aT, .ref aP, .int 0, .int (-1), .int (-1), .int 0, .int 0, .int 0, .int 0, .long 0, .int 0, .int 0, .int 0, .int 0, .ref pI, .int 0, .int 0, .int 0, .int 0, .int 0, .ref nM, .ref vA, .ref tR, .int 0, .int 0, .int 0, .ref rW, .ref sP, .ref oA, .ref bS, .ref aS, .ref aO, .ref cS, .ref wY])), (aA, .inl (cI, 862, .inl af0))]) H := hP
  have hD : va_D A ([(q, .inr (12, [.ref aA, .ref aI, .ref aT, .ref aP, .int 0, .int (-1), .int (-1), .int 0, .int 0, .int 0, .int 0, .long 0, .int 0, .int 0, .int 0, .int 0, .ref pI, .int 0, .int 0, .int 0, .int 0, .int 0, .ref nM, .ref vA, .ref tR, .int 0, .int 0, .int 0, .ref rW, .ref sP, .ref oA, .ref bS, .ref aS, .ref aO, .ref cS, .ref wY])), (aA, .inl (cI, 862, .inl af0))]) := hD
  by_cases c4 : 0 ≤ p0 ∧ p0 ≤ 299
  · obtain rfl : r2 = 1 := by rw [hrh3, if_pos c4]
    refine lv_if_eq (tgt := 20) hx hb dX12_harness_4 (by decide) (fun h => absurd h (by decide)) (fun c5 => ?_)
    refine lv_iload_n hx hb dX12_harness_7 rfl (lv_at hl 2 rfl) ?_
    have hPc := hP.sub2 (wc := []) [] rfl
    have hDc := hD.sub (ws' := []) [] (by decide) rfl
    refine raw_Si (nA := 1) (As := [.int p1]) (rest := []) Z hl.1 (c_X12_isPlace l D cI cM cT p1) (bw_S bw_1132 bw_1133 bw_92 bw_1134) ⟨by decide +kernel, by decide +kernel, by decide +kernel⟩ rfl ⟨Nat.le_of_ble_eq_true rfl, Nat.le_of_ble_eq_true rfl⟩ hPc hDc hS rfl (Nat.le_of_ble_eq_true rfl) dX12_harness_8 ⟨Nat.le_of_ble_eq_true rfl, Nat.le_of_ble_eq_true rfl⟩ (fun r7 u6 H1 locs1 h8 hku6 hP1 hD1 hS1 => ?_)
    obtain ⟨hrh8, rfl⟩ := h8
    obtain ⟨hP, hD⟩ := z_join (wr := [(q, .inr (12, [.ref aA, .ref aI, .ref aT, .ref aP, .int 0, .int (-1), .int (-1), .int 0, .int 0, .int 0, .int 0, .long 0, .int 0, .int 0, .int 0, .int 0, .ref pI, .int 0, .int 0, .int 0, .int 0, .int 0, .ref nM, .ref vA, .ref tR, .int 0, .int 0, .int 0, .ref rW, .ref sP, .ref oA, .ref bS, .ref aS, .ref aO, .ref cS, .ref wY])), (aA, .inl (cI, 862, .inl af0))]) Z hS hP hD [] [0, 1] rfl (by decide) rfl (by decide) (by decide) hku6 hP1 hD1
    have hS := hS1
    clear hS1
    generalize H1 = H at hP hS ⊢
    generalize locs1 = locs at hS ⊢
    have hP : va_P D vwCl ([(q, .inr (12, [.ref aA, .ref aI, .ref aT, .ref aP, .int 0, .int (-1), .int (-1), .int 0, .int 0, .int 0, .int 0, .long 0, .int 0, .int 0, .int 0, .int 0, .ref pI, .int 0, .int 0, .int 0, .int 0, .int 0, .ref nM, .ref vA, .ref tR, .int 0, .int 0, .int 0, .ref rW, .ref sP, .ref oA, .ref bS, .ref aS, .ref aO, .ref cS, .ref wY])), (aA, .inl (cI, 862, .inl af0))]) H := hP
    have hD : va_D A ([(q, .inr (12, [.ref aA, .ref aI, .ref aT, .ref aP, .int 0, .int (-1), .int (-1), .int 0, .int 0, .int 0, .int 0, .long 0, .int 0, .int 0, .int 0, .int 0, .ref pI, .int 0, .int 0, .int 0, .int 0, .int 0, .ref nM, .ref vA, .ref tR, .int 0, .int 0, .int 0, .ref rW, .ref sP, .ref oA, .ref bS, .ref aS, .ref aO, .ref cS, .ref wY])), (aA, .inl (cI, 862, .inl af0))]) := hD
    by_cases c9 : 0 ≤ p1 ∧ p1 ≤ 299
    · obtain rfl : r7 = 1 := by rw [hrh8, if_pos c9]
      refine lv_if_eq (tgt := 20) hx hb dX12_harness_11 (by decide) (fun h => absurd h (by decide)) (fun c10 => ?_)
      refine lv_iload_n hx hb dX12_harness_14 rfl (lv_at hl 3 rfl) ?_
      refine lv_bipush (v := (-2)) hx hb dX12_harness_15 (by decide) ?_
      refine lv_icmp_ge (tgt := 23) hx hb dX12_harness_17 (by decide) (fun c11 => ?_) (fun c11 => ?_)
      · refine lv_iload_n hx hb dX12_harness_23 rfl (lv_at hl 1 rfl) ?_
        refine lv_iload_n hx hb dX12_harness_24 rfl (lv_at hl 2 rfl) ?_
        refine lv_icmp_ne (tgt := 39) hx hb dX12_harness_25 (by decide) (fun c12 => ?_) (fun c12 => ?_)
        · refine lv_iconst (v := 1) hx hb dX12_harness_39 (by decide) ?_
          refine lv_istore (lv' := [(4, .int 1), (0, .ref q), (1, .int p0), (2, .int p1), (3, .int p2)]) hx hb dX12_harness_40 hl (by decide) rfl (fun ls hl => ?_)
          refine lv_iload hx hb dX12_harness_42 (lv_at hl 0 rfl) ?_
          refine lv_aload_n hx hb dX12_harness_44 rfl (lv_at hl 1 rfl) ?_
          refine z_get Z i_X12 hP 0 rfl rfl 0 (by decide) bw_1019 rfl dX12_harness_45 ?_
          refine lv_iconst (v := 0) hx hb dX12_harness_48 (by decide) ?_
          refine z_iald Z hP 1 0 rfl rfl (vin (by decide)) dX12_harness_49 ?_
          refine z_topi (y := 0) rfl ?_
          refine lv_icmp_gt (tgt := 119) hx hb dX12_harness_50 (by decide) (fun c13 => ?_) (fun h => absurd (by decide) h)
          refine lv_bipush (v := (-3)) hx hb dX12_harness_119 (by decide) ?_
          exact z_ret Z rfl hP hD hS ((by first | rfl | assumption | (rw [if_pos (by (try simp only [zlt, zle, zeq, zl_0, zl_1, zl_2, zl_3, zl_4, zl_5, zl_6, zl_7, zl_8, zl_9, zl_10, zl_11, zl_12, zl_13, zl_19, zl_20, zl_30, zl_64, zl_99, zl_100, zl_299, zl_300, zl_399, zl_999, zl_9999, zl_m1, zl_m2, zl_m3, zl_32, zl_280] at c4 c5 c9 c10 c11 c12 c13 ⊢); omega)]; first | done | ((try simp only [zlt, zle, zeq, zl_0, zl_1, zl_2, zl_3, zl_4, zl_5, zl_6, zl_7, zl_8, zl_9, zl_10, zl_11, zl_12, zl_13, zl_19, zl_20, zl_30, zl_64, zl_99, zl_100, zl_299, zl_300, zl_399, zl_999, zl_9999, zl_m1, zl_m2, zl_m3, zl_32, zl_280] at c4 c5 c9 c10 c11 c12 c13 ⊢); omega)) | (rw [if_neg (by (try simp only [zlt, zle, zeq, zl_0, zl_1, zl_2, zl_3, zl_4, zl_5, zl_6, zl_7, zl_8, zl_9, zl_10, zl_11, zl_12, zl_13, zl_19, zl_20, zl_30, zl_64, zl_99, zl_100, zl_299, zl_300, zl_399, zl_999, zl_9999, zl_m1, zl_m2, zl_m3, zl_32, zl_280] at c4 c5 c9 c10 c11 c12 c13 ⊢); omega)]; first | done | ((try simp only [zlt, zle, zeq, zl_0, zl_1, zl_2, zl_3, zl_4, zl_5, zl_6, zl_7, zl_8, zl_9, zl_10, zl_11, zl_12, zl_13, zl_19, zl_20, zl_30, zl_64, zl_99, zl_100, zl_299, zl_300, zl_399, zl_999, zl_9999, zl_m1, zl_m2, zl_m3, zl_32, zl_280] at c4 c5 c9 c10 c11 c12 c13 ⊢); omega)))) dX12_harness_121 (Nat.le_of_ble_eq_true rfl) (Nat.le_of_ble_eq_true rfl)
        · refine lv_iload_n hx hb dX12_harness_28 rfl (lv_at hl 3 rfl) ?_
          refine lv_if_ge (tgt := 36) hx hb dX12_harness_29 (by decide) (fun c14 => ?_) (fun c14 => ?_)
          · refine lv_bipush (v := (-3)) hx hb dX12_harness_36 (by decide) ?_
            exact z_ret Z rfl hP hD hS ((by first | rfl | assumption | (rw [if_pos (by (try simp only [zlt, zle, zeq, zl_0, zl_1, zl_2, zl_3, zl_4, zl_5, zl_6, zl_7, zl_8, zl_9, zl_10, zl_11, zl_12, zl_13, zl_19, zl_20, zl_30, zl_64, zl_99, zl_100, zl_299, zl_300, zl_399, zl_999, zl_9999, zl_m1, zl_m2, zl_m3, zl_32, zl_280] at c4 c5 c9 c10 c11 c12 c14 ⊢); omega)]; first | done | ((try simp only [zlt, zle, zeq, zl_0, zl_1, zl_2, zl_3, zl_4, zl_5, zl_6, zl_7, zl_8, zl_9, zl_10, zl_11, zl_12, zl_13, zl_19, zl_20, zl_30, zl_64, zl_99, zl_100, zl_299, zl_300, zl_399, zl_999, zl_9999, zl_m1, zl_m2, zl_m3, zl_32, zl_280] at c4 c5 c9 c10 c11 c12 c14 ⊢); omega)) | (rw [if_neg (by (try simp only [zlt, zle, zeq, zl_0, zl_1, zl_2, zl_3, zl_4, zl_5, zl_6, zl_7, zl_8, zl_9, zl_10, zl_11, zl_12, zl_13, zl_19, zl_20, zl_30, zl_64, zl_99, zl_100, zl_299, zl_300, zl_399, zl_999, zl_9999, zl_m1, zl_m2, zl_m3, zl_32, zl_280] at c4 c5 c9 c10 c11 c12 c14 ⊢); omega)]; first | done | ((try simp only [zlt, zle, zeq, zl_0, zl_1, zl_2, zl_3, zl_4, zl_5, zl_6, zl_7, zl_8, zl_9, zl_10, zl_11, zl_12, zl_13, zl_19, zl_20, zl_30, zl_64, zl_99, zl_100, zl_299, zl_300, zl_399, zl_999, zl_9999, zl_m1, zl_m2, zl_m3, zl_32, zl_280] at c4 c5 c9 c10 c11 c12 c14 ⊢); omega)))) dX12_harness_38 (Nat.le_of_ble_eq_true rfl) (Nat.le_of_ble_eq_true rfl)
          · refine lv_iconst (v := 0) hx hb dX12_harness_32 (by decide) ?_
            refine lv_goto (tgt := 38) hx hb dX12_harness_33 (by decide) ?_
            exact z_ret Z rfl hP hD hS ((by first | rfl | assumption | (rw [if_pos (by (try simp only [zlt, zle, zeq, zl_0, zl_1, zl_2, zl_3, zl_4, zl_5, zl_6, zl_7, zl_8, zl_9, zl_10, zl_11, zl_12, zl_13, zl_19, zl_20, zl_30, zl_64, zl_99, zl_100, zl_299, zl_300, zl_399, zl_999, zl_9999, zl_m1, zl_m2, zl_m3, zl_32, zl_280] at c4 c5 c9 c10 c11 c12 c14 ⊢); omega)]; first | done | ((try simp only [zlt, zle, zeq, zl_0, zl_1, zl_2, zl_3, zl_4, zl_5, zl_6, zl_7, zl_8, zl_9, zl_10, zl_11, zl_12, zl_13, zl_19, zl_20, zl_30, zl_64, zl_99, zl_100, zl_299, zl_300, zl_399, zl_999, zl_9999, zl_m1, zl_m2, zl_m3, zl_32, zl_280] at c4 c5 c9 c10 c11 c12 c14 ⊢); omega)) | (rw [if_neg (by (try simp only [zlt, zle, zeq, zl_0, zl_1, zl_2, zl_3, zl_4, zl_5, zl_6, zl_7, zl_8, zl_9, zl_10, zl_11, zl_12, zl_13, zl_19, zl_20, zl_30, zl_64, zl_99, zl_100, zl_299, zl_300, zl_399, zl_999, zl_9999, zl_m1, zl_m2, zl_m3, zl_32, zl_280] at c4 c5 c9 c10 c11 c12 c14 ⊢); omega)]; first | done | ((try simp only [zlt, zle, zeq, zl_0, zl_1, zl_2, zl_3, zl_4, zl_5, zl_6, zl_7, zl_8, zl_9, zl_10, zl_11, zl_12, zl_13, zl_19, zl_20, zl_30, zl_64, zl_99, zl_100, zl_299, zl_300, zl_399, zl_999, zl_9999, zl_m1, zl_m2, zl_m3, zl_32, zl_280] at c4 c5 c9 c10 c11 c12 c14 ⊢); omega)))) dX12_harness_38 (Nat.le_of_ble_eq_true rfl) (Nat.le_of_ble_eq_true rfl)
      · refine lv_bipush (v := (-3)) hx hb dX12_harness_20 (by decide) ?_
        exact z_ret Z rfl hP hD hS ((by first | rfl | assumption | (rw [if_pos (by (try simp only [zlt, zle, zeq, zl_0, zl_1, zl_2, zl_3, zl_4, zl_5, zl_6, zl_7, zl_8, zl_9, zl_10, zl_11, zl_12, zl_13, zl_19, zl_20, zl_30, zl_64, zl_99, zl_100, zl_299, zl_300, zl_399, zl_999, zl_9999, zl_m1, zl_m2, zl_m3, zl_32, zl_280] at c4 c5 c9 c10 c11 ⊢); omega)]; first | done | ((try simp only [zlt, zle, zeq, zl_0, zl_1, zl_2, zl_3, zl_4, zl_5, zl_6, zl_7, zl_8, zl_9, zl_10, zl_11, zl_12, zl_13, zl_19, zl_20, zl_30, zl_64, zl_99, zl_100, zl_299, zl_300, zl_399, zl_999, zl_9999, zl_m1, zl_m2, zl_m3, zl_32, zl_280] at c4 c5 c9 c10 c11 ⊢); omega)) | (rw [if_neg (by (try simp only [zlt, zle, zeq, zl_0, zl_1, zl_2, zl_3, zl_4, zl_5, zl_6, zl_7, zl_8, zl_9, zl_10, zl_11, zl_12, zl_13, zl_19, zl_20, zl_30, zl_64, zl_99, zl_100, zl_299, zl_300, zl_399, zl_999, zl_9999, zl_m1, zl_m2, zl_m3, zl_32, zl_280] at c4 c5 c9 c10 c11 ⊢); omega)]; first | done | ((try simp only [zlt, zle, zeq, zl_0, zl_1, zl_2, zl_3, zl_4, zl_5, zl_6, zl_7, zl_8, zl_9, zl_10, zl_11, zl_12, zl_13, zl_19, zl_20, zl_30, zl_64, zl_99, zl_100, zl_299, zl_300, zl_399, zl_999, zl_9999, zl_m1, zl_m2, zl_m3, zl_32, zl_280] at c4 c5 c9 c10 c11 ⊢); omega)))) dX12_harness_22 (Nat.le_of_ble_eq_true rfl) (Nat.le_of_ble_eq_true rfl)
    · obtain rfl : r7 = 0 := by rw [hrh8, if_neg c9]
      refine lv_if_eq (tgt := 20) hx hb dX12_harness_11 (by decide) (fun c15 => ?_) (fun h => absurd (by decide) h)
      refine lv_bipush (v := (-3)) hx hb dX12_harness_20 (by decide) ?_
      exact z_ret Z rfl hP hD hS ((by first | rfl | assumption | (rw [if_pos (by (try simp only [zlt, zle, zeq, zl_0, zl_1, zl_2, zl_3, zl_4, zl_5, zl_6, zl_7, zl_8, zl_9, zl_10, zl_11, zl_12, zl_13, zl_19, zl_20, zl_30, zl_64, zl_99, zl_100, zl_299, zl_300, zl_399, zl_999, zl_9999, zl_m1, zl_m2, zl_m3, zl_32, zl_280] at c4 c5 c9 c15 ⊢); omega)]; first | done | ((try simp only [zlt, zle, zeq, zl_0, zl_1, zl_2, zl_3, zl_4, zl_5, zl_6, zl_7, zl_8, zl_9, zl_10, zl_11, zl_12, zl_13, zl_19, zl_20, zl_30, zl_64, zl_99, zl_100, zl_299, zl_300, zl_399, zl_999, zl_9999, zl_m1, zl_m2, zl_m3, zl_32, zl_280] at c4 c5 c9 c15 ⊢); omega)) | (rw [if_neg (by (try simp only [zlt, zle, zeq, zl_0, zl_1, zl_2, zl_3, zl_4, zl_5, zl_6, zl_7, zl_8, zl_9, zl_10, zl_11, zl_12, zl_13, zl_19, zl_20, zl_30, zl_64, zl_99, zl_100, zl_299, zl_300, zl_399, zl_999, zl_9999, zl_m1, zl_m2, zl_m3, zl_32, zl_280] at c4 c5 c9 c15 ⊢); omega)]; first | done | ((try simp only [zlt, zle, zeq, zl_0, zl_1, zl_2, zl_3, zl_4, zl_5, zl_6, zl_7, zl_8, zl_9, zl_10, zl_11, zl_12, zl_13, zl_19, zl_20, zl_30, zl_64, zl_99, zl_100, zl_299, zl_300, zl_399, zl_999, zl_9999, zl_m1, zl_m2, zl_m3, zl_32, zl_280] at c4 c5 c9 c15 ⊢); omega)))) dX12_harness_22 (Nat.le_of_ble_eq_true rfl) (Nat.le_of_ble_eq_true rfl)
  · obtain rfl : r2 = 0 := by rw [hrh3, if_neg c4]
    refine lv_if_eq (tgt := 20) hx hb dX12_harness_4 (by decide) (fun c16 => ?_) (fun h => absurd (by decide) h)
    refine lv_bipush (v := (-3)) hx hb dX12_harness_20 (by decide) ?_
    exact z_ret Z rfl hP hD hS ((by first | rfl | assumption | (rw [if_pos (by (try simp only [zlt, zle, zeq, zl_0, zl_1, zl_2, zl_3, zl_4, zl_5, zl_6, zl_7, zl_8, zl_9, zl_10, zl_11, zl_12, zl_13, zl_19, zl_20, zl_30, zl_64, zl_99, zl_100, zl_299, zl_300, zl_399, zl_999, zl_9999, zl_m1, zl_m2, zl_m3, zl_32, zl_280] at c4 c16 ⊢); omega)]; first | done | ((try simp only [zlt, zle, zeq, zl_0, zl_1, zl_2, zl_3, zl_4, zl_5, zl_6, zl_7, zl_8, zl_9, zl_10, zl_11, zl_12, zl_13, zl_19, zl_20, zl_30, zl_64, zl_99, zl_100, zl_299, zl_300, zl_399, zl_999, zl_9999, zl_m1, zl_m2, zl_m3, zl_32, zl_280] at c4 c16 ⊢); omega)) | (rw [if_neg (by (try simp only [zlt, zle, zeq, zl_0, zl_1, zl_2, zl_3, zl_4, zl_5, zl_6, zl_7, zl_8, zl_9, zl_10, zl_11, zl_12, zl_13, zl_19, zl_20, zl_30, zl_64, zl_99, zl_100, zl_299, zl_300, zl_399, zl_999, zl_9999, zl_m1, zl_m2, zl_m3, zl_32, zl_280] at c4 c16 ⊢); omega)]; first | done | ((try simp only [zlt, zle, zeq, zl_0, zl_1, zl_2, zl_3, zl_4, zl_5, zl_6, zl_7, zl_8, zl_9, zl_10, zl_11, zl_12, zl_13, zl_19, zl_20, zl_30, zl_64, zl_99, zl_100, zl_299, zl_300, zl_399, zl_999, zl_9999, zl_m1, zl_m2, zl_m3, zl_32, zl_280] at c4 c16 ⊢); omega)))) dX12_harness_22 (Nat.le_of_ble_eq_true rfl) (Nat.le_of_ble_eq_true rfl)
set_option maxHeartbeats 4000000 in
set_option maxRecDepth 100000 in
theorem c_X12_seen (l : Launch) (D : va_G) (cI cM cT : ClassId) (q : Nat) (aA : Nat) (aI : Nat) (aT : Nat) (aP : Nat) (pI : Nat) (nM : Nat) (vA : Nat) (tR : Nat) (rW : Nat) (sP : Nat) (oA : Nat) (bS : Nat) (aS : Nat) (aO : Nat) (cS : Nat) (wY : Nat) (p0 : Int32) : Ci l D (ty3 cI cM cT) yX12_seen cX12_seen 2 (some .int) 3 0 0 [.ref q, .int p0] ([(q, .inr (12, [.ref aA, .ref aI, .ref aT, .ref aP, .int 0, .int (-1), .int (-1), .int 0, .int 0, .int 0, .int 0, .long 0, .int 0, .int 0, .int 0, .int 0, .ref pI, .int 0, .int 0, .int 0, .int 0, .int 0, .ref nM, .ref vA, .ref tR, .int 0, .int 0, .int 0, .ref rW, .ref sP, .ref oA, .ref bS, .ref aS, .ref aO, .ref cS, .ref wY])), (aA, .inl (cI, 862, .inl af0))]) (fun r u => r = (if p0 = (-1) then 0 else if 0 ≤ p0 ∧ p0 < 300 then 1 else (-2))) := by
  refine Ci.of (by decide +kernel) (Nat.le_of_ble_eq_true rfl) ?_
  intro p e s m below meth c A ls Z hin hP hD hl
  have hx := Z.1
  have hb := Z.2.1
  have hS : va_S A s.heap s.heap [] := va_S.rf
  have hl : lv_has ls 2 [(0, .ref q), (1, .int p0)] := hl
  skip
  refine lv_iload_n hx hb dX12_seen_0 rfl (lv_at hl 1 rfl) ?_
  refine lv_iconst (v := (-1)) hx hb dX12_seen_1 (by decide) ?_
  refine lv_icmp_ne (tgt := 15) hx hb dX12_seen_2 (by decide) (fun c1 => ?_) (fun c1 => ?_)
  · refine lv_iload_n hx hb dX12_seen_15 rfl (lv_at hl 1 rfl) ?_
    have hPc := hP.sub2 (wc := []) [] rfl
    have hDc := hD.sub (ws' := []) [] (by decide) rfl
    refine raw_Si (nA := 1) (As := [.int p0]) (rest := []) Z hl.1 (c_X12_isPlace l D cI cM cT p0) (bw_S bw_1132 bw_1133 bw_92 bw_1134) ⟨by decide +kernel, by decide +kernel, by decide +kernel⟩ rfl ⟨Nat.le_of_ble_eq_true rfl, Nat.le_of_ble_eq_true rfl⟩ hPc hDc hS rfl (Nat.le_of_ble_eq_true rfl) dX12_seen_16 ⟨Nat.le_of_ble_eq_true rfl, Nat.le_of_ble_eq_true rfl⟩ (fun r3 u2 H1 locs1 h4 hku2 hP1 hD1 hS1 => ?_)
    obtain ⟨hrh4, rfl⟩ := h4
    obtain ⟨hP, hD⟩ := z_join (wr := [(q, .inr (12, [.ref aA, .ref aI, .ref aT, .ref aP, .int 0, .int (-1), .int (-1), .int 0, .int 0, .int 0, .int 0, .long 0, .int 0, .int 0, .int 0, .int 0, .ref pI, .int 0, .int 0, .int 0, .int 0, .int 0, .ref nM, .ref vA, .ref tR, .int 0, .int 0, .int 0, .ref rW, .ref sP, .ref oA, .ref bS, .ref aS, .ref aO, .ref cS, .ref wY])), (aA, .inl (cI, 862, .inl af0))]) Z hS hP hD [] [0, 1] rfl (by decide) rfl (by decide) (by decide) hku2 hP1 hD1
    have hS := hS1
    clear hS1
    generalize H1 = H at hP hS ⊢
    generalize locs1 = locs at hS ⊢
    have hP : va_P D vwCl ([(q, .inr (12, [.ref aA, .ref aI, .ref aT, .ref aP, .int 0, .int (-1), .int (-1), .int 0, .int 0, .int 0, .int 0, .long 0, .int 0, .int 0, .int 0, .int 0, .ref pI, .int 0, .int 0, .int 0, .int 0, .int 0, .ref nM, .ref vA, .ref tR, .int 0, .int 0, .int 0, .ref rW, .ref sP, .ref oA, .ref bS, .ref aS, .ref aO, .ref cS, .ref wY])), (aA, .inl (cI, 862, .inl af0))]) H := hP
    have hD : va_D A ([(q, .inr (12, [.ref aA, .ref aI, .ref aT, .ref aP, .int 0, .int (-1), .int (-1), .int 0, .int 0, .int 0, .int 0, .long 0, .int 0, .int 0, .int 0, .int 0, .ref pI, .int 0, .int 0, .int 0, .int 0, .int 0, .ref nM, .ref vA, .ref tR, .int 0, .int 0, .int 0, .ref rW, .ref sP, .ref oA, .ref bS, .ref aS, .ref aO, .ref cS, .ref wY])), (aA, .inl (cI, 862, .inl af0))]) := hD
    by_cases c5 : 0 ≤ p0 ∧ p0 ≤ 299
    · obtain rfl : r3 = 1 := by rw [hrh4, if_pos c5]
      refine lv_if_eq (tgt := 34) hx hb dX12_seen_19 (by decide) (fun h => absurd h (by decide)) (fun c6 => ?_)
      refine lv_aload_n hx hb dX12_seen_22 rfl (lv_at hl 0 rfl) ?_
      refine z_get Z i_X12 hP 0 rfl rfl 0 (by decide) bw_1019 rfl dX12_seen_23 ?_
      refine lv_bipush (v := 9) hx hb dX12_seen_26 (by decide) ?_
      refine z_iald Z hP 1 0 rfl rfl (vin (by decide)) dX12_seen_28 ?_
      refine z_topi (y := 0) rfl ?_
      refine lv_bipush (v := 6) hx hb dX12_seen_29 (by decide) ?_
      refine lv_icmp_ne (tgt := 37) hx hb dX12_seen_31 (by decide) (fun c7 => ?_) (fun h => absurd h (by decide))
      refine lv_aload_n hx hb dX12_seen_37 rfl (lv_at hl 0 rfl) ?_
      refine z_get Z i_X12 hP 0 rfl rfl 0 (by decide) bw_1019 rfl dX12_seen_38 ?_
      refine lv_bipush (v := 46) hx hb dX12_seen_41 (by decide) ?_
      refine lv_aload_n hx hb dX12_seen_43 rfl (lv_at hl 0 rfl) ?_
      refine z_get Z i_X12 hP 0 rfl rfl 0 (by decide) bw_1019 rfl dX12_seen_44 ?_
      refine lv_bipush (v := 9) hx hb dX12_seen_47 (by decide) ?_
      refine z_iald Z hP 1 0 rfl rfl (vin (by decide)) dX12_seen_49 ?_
      refine z_topi (y := 0) rfl ?_
      refine lv_iadd hx hb dX12_seen_50 ?_
      refine z_topi (y := 46) (by decide) ?_
      refine lv_iload_n hx hb dX12_seen_51 rfl (lv_at hl 1 rfl) ?_
      refine z_iast Z hP hD hS 1 0 rfl rfl (vin (by decide)) dX12_seen_52 (fun H locs hP hD hS => ?_)
      have hP : va_P D vwCl ([(q, .inr (12, [.ref aA, .ref aI, .ref aT, .ref aP, .int 0, .int (-1), .int (-1), .int 0, .int 0, .int 0, .int 0, .long 0, .int 0, .int 0, .int 0, .int 0, .ref pI, .int 0, .int 0, .int 0, .int 0, .int 0, .ref nM, .ref vA, .ref tR, .int 0, .int 0, .int 0, .ref rW, .ref sP, .ref oA, .ref bS, .ref aS, .ref aO, .ref cS, .ref wY])), (aA, .inl (cI, 862, .inl (upd af0 (46 : Int32).toNatClampNeg p0)))]) H := hP
      have hD : va_D A ([(q, .inr (12, [.ref aA, .ref aI, .ref aT, .ref aP, .int 0, .int (-1), .int (-1), .int 0, .int 0, .int 0, .int 0, .long 0, .int 0, .int 0, .int 0, .int 0, .ref pI, .int 0, .int 0, .int 0, .int 0, .int 0, .ref nM, .ref vA, .ref tR, .int 0, .int 0, .int 0, .ref rW, .ref sP, .ref oA, .ref bS, .ref aS, .ref aO, .ref cS, .ref wY])), (aA, .inl (cI, 862, .inl (upd af0 (46 : Int32).toNatClampNeg p0)))]) := hD
      refine lv_aload_n hx hb dX12_seen_53 rfl (lv_at hl 0 rfl) ?_
      refine z_get Z i_X12 hP 0 rfl rfl 0 (by decide) bw_1019 rfl dX12_seen_54 ?_
      refine lv_bipush (v := 9) hx hb dX12_seen_57 (by decide) ?_
      refine lv_dup2_11 hx hb dX12_seen_59 rfl rfl ?_
      refine z_iald Z hP 1 0 rfl rfl (vin (by decide)) dX12_seen_60 ?_
      refine z_topi (y := 0) ((pk_un (by decide)).trans rfl) ?_
      refine lv_iconst (v := 1) hx hb dX12_seen_61 (by decide) ?_
      refine lv_iadd hx hb dX12_seen_62 ?_
      refine z_topi (y := 1) (by decide) ?_
      refine z_iast Z hP hD hS 1 0 rfl rfl (vin (by decide)) dX12_seen_63 (fun H locs hP hD hS => ?_)
      have hP : va_P D vwCl ([(q, .inr (12, [.ref aA, .ref aI, .ref aT, .ref aP, .int 0, .int (-1), .int (-1), .int 0, .int 0, .int 0, .int 0, .long 0, .int 0, .int 0, .int 0, .int 0, .ref pI, .int 0, .int 0, .int 0, .int 0, .int 0, .ref nM, .ref vA, .ref tR, .int 0, .int 0, .int 0, .ref rW, .ref sP, .ref oA, .ref bS, .ref aS, .ref aO, .ref cS, .ref wY])), (aA, .inl (cI, 862, .inl (upd (upd af0 (46 : Int32).toNatClampNeg p0) (9 : Int32).toNatClampNeg 1)))]) H := hP
      have hD : va_D A ([(q, .inr (12, [.ref aA, .ref aI, .ref aT, .ref aP, .int 0, .int (-1), .int (-1), .int 0, .int 0, .int 0, .int 0, .long 0, .int 0, .int 0, .int 0, .int 0, .ref pI, .int 0, .int 0, .int 0, .int 0, .int 0, .ref nM, .ref vA, .ref tR, .int 0, .int 0, .int 0, .ref rW, .ref sP, .ref oA, .ref bS, .ref aS, .ref aO, .ref cS, .ref wY])), (aA, .inl (cI, 862, .inl (upd (upd af0 (46 : Int32).toNatClampNeg p0) (9 : Int32).toNatClampNeg 1)))]) := hD
      refine lv_aload_n hx hb dX12_seen_64 rfl (lv_at hl 0 rfl) ?_
      refine z_get Z i_X12 hP 0 rfl rfl 0 (by decide) bw_1019 rfl dX12_seen_65 ?_
      refine lv_bipush (v := 9) hx hb dX12_seen_68 (by decide) ?_
      refine z_iald Z hP 1 0 rfl rfl (vin (by decide)) dX12_seen_70 ?_
      refine z_topi (y := 1) pk_us ?_
      exact z_ret Z rfl hP hD hS ((by first | rfl | assumption | (rw [if_pos (by (try simp only [zlt, zle, zeq, zl_0, zl_1, zl_2, zl_3, zl_4, zl_5, zl_6, zl_7, zl_8, zl_9, zl_10, zl_11, zl_12, zl_13, zl_19, zl_20, zl_30, zl_64, zl_99, zl_100, zl_299, zl_300, zl_399, zl_999, zl_9999, zl_m1, zl_m2, zl_m3, zl_32, zl_280] at c1 c5 c6 c7 ⊢); omega)]; first | done | ((try simp only [zlt, zle, zeq, zl_0, zl_1, zl_2, zl_3, zl_4, zl_5, zl_6, zl_7, zl_8, zl_9, zl_10, zl_11, zl_12, zl_13, zl_19, zl_20, zl_30, zl_64, zl_99, zl_100, zl_299, zl_300, zl_399, zl_999, zl_9999, zl_m1, zl_m2, zl_m3, zl_32, zl_280] at c1 c5 c6 c7 ⊢); omega)) | (rw [if_neg (by (try simp only [zlt, zle, zeq, zl_0, zl_1, zl_2, zl_3, zl_4, zl_5, zl_6, zl_7, zl_8, zl_9, zl_10, zl_11, zl_12, zl_13, zl_19, zl_20, zl_30, zl_64, zl_99, zl_100, zl_299, zl_300, zl_399, zl_999, zl_9999, zl_m1, zl_m2, zl_m3, zl_32, zl_280] at c1 c5 c6 c7 ⊢); omega), if_pos (by (try simp only [zlt, zle, zeq, zl_0, zl_1, zl_2, zl_3, zl_4, zl_5, zl_6, zl_7, zl_8, zl_9, zl_10, zl_11, zl_12, zl_13, zl_19, zl_20, zl_30, zl_64, zl_99, zl_100, zl_299, zl_300, zl_399, zl_999, zl_9999, zl_m1, zl_m2, zl_m3, zl_32, zl_280] at c1 c5 c6 c7 ⊢); omega)]; first | done | ((try simp only [zlt, zle, zeq, zl_0, zl_1, zl_2, zl_3, zl_4, zl_5, zl_6, zl_7, zl_8, zl_9, zl_10, zl_11, zl_12, zl_13, zl_19, zl_20, zl_30, zl_64, zl_99, zl_100, zl_299, zl_300, zl_399, zl_999, zl_9999, zl_m1, zl_m2, zl_m3, zl_32, zl_280] at c1 c5 c6 c7 ⊢); omega)) | (rw [if_neg (by (try simp only [zlt, zle, zeq, zl_0, zl_1, zl_2, zl_3, zl_4, zl_5, zl_6, zl_7, zl_8, zl_9, zl_10, zl_11, zl_12, zl_13, zl_19, zl_20, zl_30, zl_64, zl_99, zl_100, zl_299, zl_300, zl_399, zl_999, zl_9999, zl_m1, zl_m2, zl_m3, zl_32, zl_280] at c1 c5 c6 c7 ⊢); omega), if_neg (by (try simp only [zlt, zle, zeq, zl_0, zl_1, zl_2, zl_3, zl_4, zl_5, zl_6, zl_7, zl_8, zl_9, zl_10, zl_11, zl_12, zl_13, zl_19, zl_20, zl_30, zl_64, zl_99, zl_100, zl_299, zl_300, zl_399, zl_999, zl_9999, zl_m1, zl_m2, zl_m3, zl_32, zl_280] at c1 c5 c6 c7 ⊢); omega)]; first | done | ((try simp only [zlt, zle, zeq, zl_0, zl_1, zl_2, zl_3, zl_4, zl_5, zl_6, zl_7, zl_8, zl_9, zl_10, zl_11, zl_12, zl_13, zl_19, zl_20, zl_30, zl_64, zl_99, zl_100, zl_299, zl_300, zl_399, zl_999, zl_9999, zl_m1, zl_m2, zl_m3, zl_32, zl_280] at c1 c5 c6 c7 ⊢); omega)))) dX12_seen_71 (Nat.le_of_ble_eq_true rfl) (Nat.le_of_ble_eq_true rfl)
    · obtain rfl : r3 = 0 := by rw [hrh4, if_neg c5]
      refine lv_if_eq (tgt := 34) hx hb dX12_seen_19 (by decide) (fun c8 => ?_) (fun h => absurd (by decide) h)
      refine lv_bipush (v := (-2)) hx hb dX12_seen_34 (by decide) ?_
      exact z_ret Z rfl hP hD hS ((by first | rfl | assumption | (rw [if_pos (by (try simp only [zlt, zle, zeq, zl_0, zl_1, zl_2, zl_3, zl_4, zl_5, zl_6, zl_7, zl_8, zl_9, zl_10, zl_11, zl_12, zl_13, zl_19, zl_20, zl_30, zl_64, zl_99, zl_100, zl_299, zl_300, zl_399, zl_999, zl_9999, zl_m1, zl_m2, zl_m3, zl_32, zl_280] at c1 c5 c8 ⊢); omega)]; first | done | ((try simp only [zlt, zle, zeq, zl_0, zl_1, zl_2, zl_3, zl_4, zl_5, zl_6, zl_7, zl_8, zl_9, zl_10, zl_11, zl_12, zl_13, zl_19, zl_20, zl_30, zl_64, zl_99, zl_100, zl_299, zl_300, zl_399, zl_999, zl_9999, zl_m1, zl_m2, zl_m3, zl_32, zl_280] at c1 c5 c8 ⊢); omega)) | (rw [if_neg (by (try simp only [zlt, zle, zeq, zl_0, zl_1, zl_2, zl_3, zl_4, zl_5, zl_6, zl_7, zl_8, zl_9, zl_10, zl_11, zl_12, zl_13, zl_19, zl_20, zl_30, zl_64, zl_99, zl_100, zl_299, zl_300, zl_399, zl_999, zl_9999, zl_m1, zl_m2, zl_m3, zl_32, zl_280] at c1 c5 c8 ⊢); omega), if_pos (by (try simp only [zlt, zle, zeq, zl_0, zl_1, zl_2, zl_3, zl_4, zl_5, zl_6, zl_7, zl_8, zl_9, zl_10, zl_11, zl_12, zl_13, zl_19, zl_20, zl_30, zl_64, zl_99, zl_100, zl_299, zl_300, zl_399, zl_999, zl_9999, zl_m1, zl_m2, zl_m3, zl_32, zl_280] at c1 c5 c8 ⊢); omega)]; first | done | ((try simp only [zlt, zle, zeq, zl_0, zl_1, zl_2, zl_3, zl_4, zl_5, zl_6, zl_7, zl_8, zl_9, zl_10, zl_11, zl_12, zl_13, zl_19, zl_20, zl_30, zl_64, zl_99, zl_100, zl_299, zl_300, zl_399, zl_999, zl_9999, zl_m1, zl_m2, zl_m3, zl_32, zl_280] at c1 c5 c8 ⊢); omega)) | (rw [if_neg (by (try simp only [zlt, zle, zeq, zl_0, zl_1, zl_2, zl_3, zl_4, zl_5, zl_6, zl_7, zl_8, zl_9, zl_10, zl_11, zl_12, zl_13, zl_19, zl_20, zl_30, zl_64, zl_99, zl_100, zl_299, zl_300, zl_399, zl_999, zl_9999, zl_m1, zl_m2, zl_m3, zl_32, zl_280] at c1 c5 c8 ⊢); omega), if_neg (by (try simp only [zlt, zle, zeq, zl_0, zl_1, zl_2, zl_3, zl_4, zl_5, zl_6, zl_7, zl_8, zl_9, zl_10, zl_11, zl_12, zl_13, zl_19, zl_20, zl_30, zl_64, zl_99, zl_100, zl_299, zl_300, zl_399, zl_999, zl_9999, zl_m1, zl_m2, zl_m3, zl_32, zl_280] at c1 c5 c8 ⊢); omega)]; first | done | ((try simp only [zlt, zle, zeq, zl_0, zl_1, zl_2, zl_3, zl_4, zl_5, zl_6, zl_7, zl_8, zl_9, zl_10, zl_11, zl_12, zl_13, zl_19, zl_20, zl_30, zl_64, zl_99, zl_100, zl_299, zl_300, zl_399, zl_999, zl_9999, zl_m1, zl_m2, zl_m3, zl_32, zl_280] at c1 c5 c8 ⊢); omega)))) dX12_seen_36 (Nat.le_of_ble_eq_true rfl) (Nat.le_of_ble_eq_true rfl)
  · refine lv_aload_n hx hb dX12_seen_5 rfl (lv_at hl 0 rfl) ?_
    refine z_get Z i_X12 hP 0 rfl rfl 0 (by decide) bw_1019 rfl dX12_seen_6 ?_
    refine lv_bipush (v := 9) hx hb dX12_seen_9 (by decide) ?_
    refine lv_iconst (v := 0) hx hb dX12_seen_11 (by decide) ?_
    refine z_iast Z hP hD hS 1 0 rfl rfl (vin (by decide)) dX12_seen_12 (fun H locs hP hD hS => ?_)
    have hP : va_P D vwCl ([(q, .inr (12, [.ref aA, .ref aI, .ref aT, .ref aP, .int 0, .int (-1), .int (-1), .int 0, .int 0, .int 0, .int 0, .long 0, .int 0, .int 0, .int 0, .int 0, .ref pI, .int 0, .int 0, .int 0, .int 0, .int 0, .ref nM, .ref vA, .ref tR, .int 0, .int 0, .int 0, .ref rW, .ref sP, .ref oA, .ref bS, .ref aS, .ref aO, .ref cS, .ref wY])), (aA, .inl (cI, 862, .inl (upd af0 (9 : Int32).toNatClampNeg 0)))]) H := hP
    have hD : va_D A ([(q, .inr (12, [.ref aA, .ref aI, .ref aT, .ref aP, .int 0, .int (-1), .int (-1), .int 0, .int 0, .int 0, .int 0, .long 0, .int 0, .int 0, .int 0, .int 0, .ref pI, .int 0, .int 0, .int 0, .int 0, .int 0, .ref nM, .ref vA, .ref tR, .int 0, .int 0, .int 0, .ref rW, .ref sP, .ref oA, .ref bS, .ref aS, .ref aO, .ref cS, .ref wY])), (aA, .inl (cI, 862, .inl (upd af0 (9 : Int32).toNatClampNeg 0)))]) := hD
    refine lv_iconst (v := 0) hx hb dX12_seen_13 (by decide) ?_
    exact z_ret Z rfl hP hD hS ((by first | rfl | assumption | (rw [if_pos (by (try simp only [zlt, zle, zeq, zl_0, zl_1, zl_2, zl_3, zl_4, zl_5, zl_6, zl_7, zl_8, zl_9, zl_10, zl_11, zl_12, zl_13, zl_19, zl_20, zl_30, zl_64, zl_99, zl_100, zl_299, zl_300, zl_399, zl_999, zl_9999, zl_m1, zl_m2, zl_m3, zl_32, zl_280] at c1 ⊢); omega)]; first | done | ((try simp only [zlt, zle, zeq, zl_0, zl_1, zl_2, zl_3, zl_4, zl_5, zl_6, zl_7, zl_8, zl_9, zl_10, zl_11, zl_12, zl_13, zl_19, zl_20, zl_30, zl_64, zl_99, zl_100, zl_299, zl_300, zl_399, zl_999, zl_9999, zl_m1, zl_m2, zl_m3, zl_32, zl_280] at c1 ⊢); omega)) | (rw [if_neg (by (try simp only [zlt, zle, zeq, zl_0, zl_1, zl_2, zl_3, zl_4, zl_5, zl_6, zl_7, zl_8, zl_9, zl_10, zl_11, zl_12, zl_13, zl_19, zl_20, zl_30, zl_64, zl_99, zl_100, zl_299, zl_300, zl_399, zl_999, zl_9999, zl_m1, zl_m2, zl_m3, zl_32, zl_280] at c1 ⊢); omega), if_pos (by (try simp only [zlt, zle, zeq, zl_0, zl_1, zl_2, zl_3, zl_4, zl_5, zl_6, zl_7, zl_8, zl_9, zl_10, zl_11, zl_12, zl_13, zl_19, zl_20, zl_30, zl_64, zl_99, zl_100, zl_299, zl_300, zl_399, zl_999, zl_9999, zl_m1, zl_m2, zl_m3, zl_32, zl_280] at c1 ⊢); omega)]; first | done | ((try simp only [zlt, zle, zeq, zl_0, zl_1, zl_2, zl_3, zl_4, zl_5, zl_6, zl_7, zl_8, zl_9, zl_10, zl_11, zl_12, zl_13, zl_19, zl_20, zl_30, zl_64, zl_99, zl_100, zl_299, zl_300, zl_399, zl_999, zl_9999, zl_m1, zl_m2, zl_m3, zl_32, zl_280] at c1 ⊢); omega)) | (rw [if_neg (by (try simp only [zlt, zle, zeq, zl_0, zl_1, zl_2, zl_3, zl_4, zl_5, zl_6, zl_7, zl_8, zl_9, zl_10, zl_11, zl_12, zl_13, zl_19, zl_20, zl_30, zl_64, zl_99, zl_100, zl_299, zl_300, zl_399, zl_999, zl_9999, zl_m1, zl_m2, zl_m3, zl_32, zl_280] at c1 ⊢); omega), if_neg (by (try simp only [zlt, zle, zeq, zl_0, zl_1, zl_2, zl_3, zl_4, zl_5, zl_6, zl_7, zl_8, zl_9, zl_10, zl_11, zl_12, zl_13, zl_19, zl_20, zl_30, zl_64, zl_99, zl_100, zl_299, zl_300, zl_399, zl_999, zl_9999, zl_m1, zl_m2, zl_m3, zl_32, zl_280] at c1 ⊢); omega)]; first | done | ((try simp only [zlt, zle, zeq, zl_0, zl_1, zl_2, zl_3, zl_4, zl_5, zl_6, zl_7, zl_8, zl_9, zl_10, zl_11, zl_12, zl_13, zl_19, zl_20, zl_30, zl_64, zl_99, zl_100, zl_299, zl_300, zl_399, zl_999, zl_9999, zl_m1, zl_m2, zl_m3, zl_32, zl_280] at c1 ⊢); omega)))) dX12_seen_14 (Nat.le_of_ble_eq_true rfl) (Nat.le_of_ble_eq_true rfl)
set_option maxHeartbeats 4000000 in
set_option maxRecDepth 100000 in
theorem c_X12_tried (l : Launch) (D : va_G) (cI cM cT : ClassId) (q : Nat) (aA : Nat) (aI : Nat) (aT : Nat) (aP : Nat) (pI : Nat) (nM : Nat) (vA : Nat) (tR : Nat) (rW : Nat) (sP : Nat) (oA : Nat) (bS : Nat) (aS : Nat) (aO : Nat) (cS : Nat) (wY : Nat) (p0 : Int32) (p1 : Int32) (p2 : Int32) : Ci l D (ty3 cI cM cT) yX12_tried cX12_tried 5 (some .int) 3 0 0 [.ref q, .int p0, .int p1, .int p2] ([(q, .inr (12, [.ref aA, .ref aI, .ref aT, .ref aP, .int 0, .int (-1), .int (-1), .int 0, .int 0, .int 0, .int 0, .long 0, .int 0, .int 0, .int 0, .int 0, .ref pI, .int 0, .int 0, .int 0, .int 0, .int 0, .ref nM, .ref vA, .ref tR, .int 0, .int 0, .int 0, .ref rW, .ref sP, .ref oA, .ref bS, .ref aS, .ref aO, .ref cS, .ref wY])), (aA, .inl (cI, 862, .inl af0))]) (fun r u => r = (if p0 = (-1) then 0 else (-2))) := by
  refine Ci.of (by decide +kernel) (Nat.le_of_ble_eq_true rfl) ?_
  intro p e s m below meth c A ls Z hin hP hD hl
  have hx := Z.1
  have hb := Z.2.1
  have hS : va_S A s.heap s.heap [] := va_S.rf
  have hl : lv_has ls 5 [(0, .ref q), (1, .int p0), (2, .int p1), (3, .int p2)] := hl
  skip
  refine lv_iload_n hx hb dX12_tried_0 rfl (lv_at hl 1 rfl) ?_
  refine lv_iconst (v := (-1)) hx hb dX12_tried_1 (by decide) ?_
  refine lv_icmp_ne (tgt := 15) hx hb dX12_tried_2 (by decide) (fun c1 => ?_) (fun c1 => ?_)
  · refine lv_aload_n hx hb dX12_tried_15 rfl (lv_at hl 0 rfl) ?_
    refine lv_iload_n hx hb dX12_tried_16 rfl (lv_at hl 1 rfl) ?_
    have hPc := hP.sub2 (wc := [(q, .inr (12, [.ref aA, .ref aI, .ref aT, .ref aP, .int 0, .int (-1), .int (-1), .int 0, .int 0, .int 0, .int 0, .long 0, .int 0, .int 0, .int 0, .int 0, .ref pI, .int 0, .int 0, .int 0, .int 0, .int 0, .ref nM, .ref vA, .ref tR, .int 0, .int 0, .int 0, .ref rW, .ref sP, .ref oA, .ref bS, .ref aS, .ref aO, .ref cS, .ref wY])), (aA, .inl (cI, 862, .inl af0))]) [0, 1] rfl
    have hDc := hD.sub (ws' := [(q, .inr (12, [.ref aA, .ref aI, .ref aT, .ref aP, .int 0, .int (-1), .int (-1), .int 0, .int 0, .int 0, .int 0, .long 0, .int 0, .int 0, .int 0, .int 0, .ref pI, .int 0, .int 0, .int 0, .int 0, .int 0, .ref nM, .ref vA, .ref tR, .int 0, .int 0, .int 0, .ref rW, .ref sP, .ref oA, .ref bS, .ref aS, .ref aO, .ref cS, .ref wY])), (aA, .inl (cI, 862, .inl af0))]) [0, 1] (by decide) rfl
    refine raw_Vi (ci := 12) (q0 := 0) (nA := 1) (As := [.int p0]) (rest := []) Z hl.1 (c_X12_isHorse l D cI cM cT q aA aI aT aP pI nM vA tR rW sP oA bS aS aO cS wY p0) (bw_V bw_1298 bw_1300 bw_60 bw_92 bw_1301) ⟨by decide +kernel, by decide +kernel, by decide +kernel⟩ rfl ⟨Nat.le_of_ble_eq_true rfl, Nat.le_of_ble_eq_true rfl⟩ rfl rfl rfl hPc hDc hS rfl (Nat.le_of_ble_eq_true rfl) dX12_tried_17 ⟨Nat.le_of_ble_eq_true rfl, Nat.le_of_ble_eq_true rfl⟩ (fun r3 u2 H1 locs1 h4 hku2 hP1 hD1 hS1 => ?_)
    obtain ⟨rfl, rfl⟩ := h4
    obtain ⟨hP, hD⟩ := z_join (wr := []) Z hS hP hD [0, 1] [] rfl (by decide) rfl (by decide) (by decide) hku2 hP1 hD1
    have hS := hS1
    clear hS1
    generalize H1 = H at hP hS ⊢
    generalize locs1 = locs at hS ⊢
    have hP : va_P D vwCl ([(q, .inr (12, [.ref aA, .ref aI, .ref aT, .ref aP, .int 0, .int (-1), .int (-1), .int 0, .int 0, .int 0, .int 0, .long 0, .int 0, .int 0, .int 0, .int 0, .ref pI, .int 0, .int 0, .int 0, .int 0, .int 0, .ref nM, .ref vA, .ref tR, .int 0, .int 0, .int 0, .ref rW, .ref sP, .ref oA, .ref bS, .ref aS, .ref aO, .ref cS, .ref wY])), (aA, .inl (cI, 862, .inl af0))]) H := hP
    have hD : va_D A ([(q, .inr (12, [.ref aA, .ref aI, .ref aT, .ref aP, .int 0, .int (-1), .int (-1), .int 0, .int 0, .int 0, .int 0, .long 0, .int 0, .int 0, .int 0, .int 0, .ref pI, .int 0, .int 0, .int 0, .int 0, .int 0, .ref nM, .ref vA, .ref tR, .int 0, .int 0, .int 0, .ref rW, .ref sP, .ref oA, .ref bS, .ref aS, .ref aO, .ref cS, .ref wY])), (aA, .inl (cI, 862, .inl af0))]) := hD
    refine lv_if_eq (tgt := 49) hx hb dX12_tried_20 (by decide) (fun c5 => ?_) (fun h => absurd (by decide) h)
    refine lv_bipush (v := (-2)) hx hb dX12_tried_49 (by decide) ?_
    exact z_ret Z rfl hP hD hS ((by first | rfl | assumption | (rw [if_pos (by (try simp only [zlt, zle, zeq, zl_0, zl_1, zl_2, zl_3, zl_4, zl_5, zl_6, zl_7, zl_8, zl_9, zl_10, zl_11, zl_12, zl_13, zl_19, zl_20, zl_30, zl_64, zl_99, zl_100, zl_299, zl_300, zl_399, zl_999, zl_9999, zl_m1, zl_m2, zl_m3, zl_32, zl_280] at c1 c5 ⊢); omega)]; first | done | ((try simp only [zlt, zle, zeq, zl_0, zl_1, zl_2, zl_3, zl_4, zl_5, zl_6, zl_7, zl_8, zl_9, zl_10, zl_11, zl_12, zl_13, zl_19, zl_20, zl_30, zl_64, zl_99, zl_100, zl_299, zl_300, zl_399, zl_999, zl_9999, zl_m1, zl_m2, zl_m3, zl_32, zl_280] at c1 c5 ⊢); omega)) | (rw [if_neg (by (try simp only [zlt, zle, zeq, zl_0, zl_1, zl_2, zl_3, zl_4, zl_5, zl_6, zl_7, zl_8, zl_9, zl_10, zl_11, zl_12, zl_13, zl_19, zl_20, zl_30, zl_64, zl_99, zl_100, zl_299, zl_300, zl_399, zl_999, zl_9999, zl_m1, zl_m2, zl_m3, zl_32, zl_280] at c1 c5 ⊢); omega)]; first | done | ((try simp only [zlt, zle, zeq, zl_0, zl_1, zl_2, zl_3, zl_4, zl_5, zl_6, zl_7, zl_8, zl_9, zl_10, zl_11, zl_12, zl_13, zl_19, zl_20, zl_30, zl_64, zl_99, zl_100, zl_299, zl_300, zl_399, zl_999, zl_9999, zl_m1, zl_m2, zl_m3, zl_32, zl_280] at c1 c5 ⊢); omega)))) dX12_tried_51 (Nat.le_of_ble_eq_true rfl) (Nat.le_of_ble_eq_true rfl)
  · refine lv_aload_n hx hb dX12_tried_5 rfl (lv_at hl 0 rfl) ?_
    refine z_get Z i_X12 hP 0 rfl rfl 0 (by decide) bw_1019 rfl dX12_tried_6 ?_
    refine lv_bipush (v := 10) hx hb dX12_tried_9 (by decide) ?_
    refine lv_iconst (v := 0) hx hb dX12_tried_11 (by decide) ?_
    refine z_iast Z hP hD hS 1 0 rfl rfl (vin (by decide)) dX12_tried_12 (fun H locs hP hD hS => ?_)
    have hP : va_P D vwCl ([(q, .inr (12, [.ref aA, .ref aI, .ref aT, .ref aP, .int 0, .int (-1), .int (-1), .int 0, .int 0, .int 0, .int 0, .long 0, .int 0, .int 0, .int 0, .int 0, .ref pI, .int 0, .int 0, .int 0, .int 0, .int 0, .ref nM, .ref vA, .ref tR, .int 0, .int 0, .int 0, .ref rW, .ref sP, .ref oA, .ref bS, .ref aS, .ref aO, .ref cS, .ref wY])), (aA, .inl (cI, 862, .inl (upd af0 (10 : Int32).toNatClampNeg 0)))]) H := hP
    have hD : va_D A ([(q, .inr (12, [.ref aA, .ref aI, .ref aT, .ref aP, .int 0, .int (-1), .int (-1), .int 0, .int 0, .int 0, .int 0, .long 0, .int 0, .int 0, .int 0, .int 0, .ref pI, .int 0, .int 0, .int 0, .int 0, .int 0, .ref nM, .ref vA, .ref tR, .int 0, .int 0, .int 0, .ref rW, .ref sP, .ref oA, .ref bS, .ref aS, .ref aO, .ref cS, .ref wY])), (aA, .inl (cI, 862, .inl (upd af0 (10 : Int32).toNatClampNeg 0)))]) := hD
    refine lv_iconst (v := 0) hx hb dX12_tried_13 (by decide) ?_
    exact z_ret Z rfl hP hD hS ((by first | rfl | assumption | (rw [if_pos (by (try simp only [zlt, zle, zeq, zl_0, zl_1, zl_2, zl_3, zl_4, zl_5, zl_6, zl_7, zl_8, zl_9, zl_10, zl_11, zl_12, zl_13, zl_19, zl_20, zl_30, zl_64, zl_99, zl_100, zl_299, zl_300, zl_399, zl_999, zl_9999, zl_m1, zl_m2, zl_m3, zl_32, zl_280] at c1 ⊢); omega)]; first | done | ((try simp only [zlt, zle, zeq, zl_0, zl_1, zl_2, zl_3, zl_4, zl_5, zl_6, zl_7, zl_8, zl_9, zl_10, zl_11, zl_12, zl_13, zl_19, zl_20, zl_30, zl_64, zl_99, zl_100, zl_299, zl_300, zl_399, zl_999, zl_9999, zl_m1, zl_m2, zl_m3, zl_32, zl_280] at c1 ⊢); omega)) | (rw [if_neg (by (try simp only [zlt, zle, zeq, zl_0, zl_1, zl_2, zl_3, zl_4, zl_5, zl_6, zl_7, zl_8, zl_9, zl_10, zl_11, zl_12, zl_13, zl_19, zl_20, zl_30, zl_64, zl_99, zl_100, zl_299, zl_300, zl_399, zl_999, zl_9999, zl_m1, zl_m2, zl_m3, zl_32, zl_280] at c1 ⊢); omega)]; first | done | ((try simp only [zlt, zle, zeq, zl_0, zl_1, zl_2, zl_3, zl_4, zl_5, zl_6, zl_7, zl_8, zl_9, zl_10, zl_11, zl_12, zl_13, zl_19, zl_20, zl_30, zl_64, zl_99, zl_100, zl_299, zl_300, zl_399, zl_999, zl_9999, zl_m1, zl_m2, zl_m3, zl_32, zl_280] at c1 ⊢); omega)))) dX12_tried_14 (Nat.le_of_ble_eq_true rfl) (Nat.le_of_ble_eq_true rfl)
set_option maxHeartbeats 4000000 in
set_option maxRecDepth 100000 in
theorem c_X12_taught (l : Launch) (D : va_G) (cI cM cT : ClassId) (q : Nat) (aA : Nat) (aI : Nat) (aT : Nat) (aP : Nat) (pI : Nat) (nM : Nat) (vA : Nat) (tR : Nat) (rW : Nat) (sP : Nat) (oA : Nat) (bS : Nat) (aS : Nat) (aO : Nat) (cS : Nat) (wY : Nat) : Ci l D (ty3 cI cM cT) yX12_taught cX12_taught 3 (some .int) 3 0 0 [.ref q] ([(q, .inr (12, [.ref aA, .ref aI, .ref aT, .ref aP, .int 0, .int (-1), .int (-1), .int 0, .int 0, .int 0, .int 0, .long 0, .int 0, .int 0, .int 0, .int 0, .ref pI, .int 0, .int 0, .int 0, .int 0, .int 0, .ref nM, .ref vA, .ref tR, .int 0, .int 0, .int 0, .ref rW, .ref sP, .ref oA, .ref bS, .ref aS, .ref aO, .ref cS, .ref wY])), (aA, .inl (cI, 862, .inl af0))]) (fun r u => r = 0) := by
  refine Ci.of (by decide +kernel) (Nat.le_of_ble_eq_true rfl) ?_
  intro p e s m below meth c A ls Z hin hP hD hl
  have hx := Z.1
  have hb := Z.2.1
  have hS : va_S A s.heap s.heap [] := va_S.rf
  have hl : lv_has ls 3 [(0, .ref q)] := hl
  skip
  refine lv_iconst (v := 0) hx hb dX12_taught_0 (by decide) ?_
  refine lv_istore_n (lv' := [(1, .int 0), (0, .ref q)]) hx hb dX12_taught_1 rfl hl (by decide) rfl (fun ls hl => ?_)
  refine lv_iconst (v := 0) hx hb dX12_taught_2 (by decide) ?_
  refine lv_istore_n (lv' := [(2, .int 0), (1, .int 0), (0, .ref q)]) hx hb dX12_taught_3 rfl hl (by decide) rfl (fun ls hl => ?_)
  refine lv_iload_n hx hb dX12_taught_4 rfl (lv_at hl 0 rfl) ?_
  refine lv_aload_n hx hb dX12_taught_5 rfl (lv_at hl 2 rfl) ?_
  refine z_get Z i_X12 hP 0 rfl rfl 0 (by decide) bw_1019 rfl dX12_taught_6 ?_
  refine lv_bipush (v := 6) hx hb dX12_taught_9 (by decide) ?_
  refine z_iald Z hP 1 0 rfl rfl (vin (by decide)) dX12_taught_11 ?_
  refine z_topi (y := 0) rfl ?_
  refine lv_icmp_ge (tgt := 39) hx hb dX12_taught_12 (by decide) (fun c1 => ?_) (fun h => absurd (by decide) h)
  refine lv_iload_n hx hb dX12_taught_39 rfl (lv_at hl 1 rfl) ?_
  exact z_ret Z rfl hP hD hS ((by first | rfl | assumption)) dX12_taught_40 (Nat.le_of_ble_eq_true rfl) (Nat.le_of_ble_eq_true rfl)
set_option maxHeartbeats 4000000 in
set_option maxRecDepth 100000 in
theorem c_X12_coach (l : Launch) (D : va_G) (cI cM cT : ClassId) (q : Nat) (aA : Nat) (aI : Nat) (aT : Nat) (aP : Nat) (pI : Nat) (nM : Nat) (vA : Nat) (tR : Nat) (rW : Nat) (sP : Nat) (oA : Nat) (bS : Nat) (aS : Nat) (aO : Nat) (cS : Nat) (wY : Nat) (p0 : Int32) : Ci l D (ty3 cI cM cT) yX12_coach cX12_coach 2 (some .int) 3 0 0 [.ref q, .int p0] ([(q, .inr (12, [.ref aA, .ref aI, .ref aT, .ref aP, .int 0, .int (-1), .int (-1), .int 0, .int 0, .int 0, .int 0, .long 0, .int 0, .int 0, .int 0, .int 0, .ref pI, .int 0, .int 0, .int 0, .int 0, .int 0, .ref nM, .ref vA, .ref tR, .int 0, .int 0, .int 0, .ref rW, .ref sP, .ref oA, .ref bS, .ref aS, .ref aO, .ref cS, .ref wY])), (aA, .inl (cI, 862, .inl af0))]) (fun r u => r = (if p0 = 0 ∨ p0 = 1 ∨ p0 = 2 then 0 else (-1))) := by
  refine Ci.of (by decide +kernel) (Nat.le_of_ble_eq_true rfl) ?_
  intro p e s m below meth c A ls Z hin hP hD hl
  have hx := Z.1
  have hb := Z.2.1
  have hS : va_S A s.heap s.heap [] := va_S.rf
  have hl : lv_has ls 2 [(0, .ref q), (1, .int p0)] := hl
  skip
  refine lv_iload_n hx hb dX12_coach_0 rfl (lv_at hl 1 rfl) ?_
  refine lv_iconst (v := 0) hx hb dX12_coach_1 (by decide) ?_
  refine lv_iconst (v := 2) hx hb dX12_coach_2 (by decide) ?_
  have hPc := hP.sub2 (wc := []) [] rfl
  have hDc := hD.sub (ws' := []) [] (by decide) rfl
  refine raw_Si (nA := 3) (As := [.int p0, .int 0, .int 2]) (rest := []) Z hl.1 (c_X12_isIn l D cI cM cT p0 0 2) (bw_S bw_1135 bw_1136 bw_92 bw_1137) ⟨by decide +kernel, by decide +kernel, by decide +kernel⟩ rfl ⟨Nat.le_of_ble_eq_true rfl, Nat.le_of_ble_eq_true rfl⟩ hPc hDc hS rfl (Nat.le_of_ble_eq_true rfl) dX12_coach_3 ⟨Nat.le_of_ble_eq_true rfl, Nat.le_of_ble_eq_true rfl⟩ (fun r2 u1 H1 locs1 h3 hku1 hP1 hD1 hS1 => ?_)
  obtain ⟨hrh3, rfl⟩ := h3
  obtain ⟨hP, hD⟩ := z_join (wr := [(q, .inr (12, [.ref aA, .ref aI, .ref aT, .ref aP, .int 0, .int (-1), .int (-1), .int 0, .int 0, .int 0, .int 0, .long 0, .int 0, .int 0, .int 0, .int 0, .ref pI, .int 0, .int 0, .int 0, .int 0, .int 0, .ref nM, .ref vA, .ref tR, .int 0, .int 0, .int 0, .ref rW, .ref sP, .ref oA, .ref bS, .ref aS, .ref aO, .ref cS, .ref wY])), (aA, .inl (cI, 862, .inl af0))]) Z hS hP hD [] [0, 1] rfl (by decide) rfl (by decide) (by decide) hku1 hP1 hD1
  have hS := hS1
  clear hS1
  generalize H1 = H at hP hS ⊢
  generalize locs1 = locs at hS ⊢
  have hP : va_P D vwCl ([(q, .inr (12, [.ref aA, .ref aI, .ref aT, .ref aP, .int 0, .int (-1), .int (-1), .int 0, .int 0, .int 0, .int 0, .long 0, .int 0, .int 0, .int 0, .int 0, .ref pI, .int 0, .int 0, .int 0, .int 0, .int 0, .ref nM, .ref vA, .ref tR, .int 0, .int 0, .int 0, .ref rW, .ref sP, .ref oA, .ref bS, .ref aS, .ref aO, .ref cS, .ref wY])), (aA, .inl (cI, 862, .inl af0))]) H := hP
  have hD : va_D A ([(q, .inr (12, [.ref aA, .ref aI, .ref aT, .ref aP, .int 0, .int (-1), .int (-1), .int 0, .int 0, .int 0, .int 0, .long 0, .int 0, .int 0, .int 0, .int 0, .ref pI, .int 0, .int 0, .int 0, .int 0, .int 0, .ref nM, .ref vA, .ref tR, .int 0, .int 0, .int 0, .ref rW, .ref sP, .ref oA, .ref bS, .ref aS, .ref aO, .ref cS, .ref wY])), (aA, .inl (cI, 862, .inl af0))]) := hD
  by_cases c4 : 0 ≤ p0 ∧ p0 ≤ 2
  · obtain rfl : r2 = 1 := by rw [hrh3, if_pos c4]
    refine lv_if_eq (tgt := 21) hx hb dX12_coach_6 (by decide) (fun h => absurd h (by decide)) (fun c5 => ?_)
    have hsc : p0 = 0 ∨ p0 = 1 ∨ p0 = 2 := by (try simp only [zlt, zle, zeq, zl_0, zl_1, zl_2, zl_3, zl_4, zl_5, zl_6, zl_7, zl_8, zl_9, zl_10, zl_11, zl_12, zl_13, zl_19, zl_20, zl_30, zl_64, zl_99, zl_100, zl_299, zl_300, zl_399, zl_999, zl_9999, zl_m1, zl_m2, zl_m3, zl_32, zl_280] at c4 c5 ⊢); omega
    rcases hsc with rfl | rfl | rfl
    · skip
      refine lv_aload_n hx hb dX12_coach_9 rfl (lv_at hl 0 rfl) ?_
      refine z_get Z i_X12 hP 0 rfl rfl 0 (by decide) bw_1019 rfl dX12_coach_10 ?_
      refine lv_bipush (v := 12) hx hb dX12_coach_13 (by decide) ?_
      refine lv_iload_n hx hb dX12_coach_15 rfl (lv_at hl 1 rfl) ?_
      refine lv_iadd hx hb dX12_coach_16 ?_
      refine z_topi (y := 12) (by decide) ?_
      refine z_iald Z hP 1 0 rfl rfl (vin (by decide)) dX12_coach_17 ?_
      refine z_topi (y := 0) rfl ?_
      refine lv_goto (tgt := 41) hx hb dX12_coach_18 (by decide) ?_
      exact z_ret Z rfl hP hD hS ((by first | rfl | assumption | (rw [if_pos (by (try simp only [zlt, zle, zeq, zl_0, zl_1, zl_2, zl_3, zl_4, zl_5, zl_6, zl_7, zl_8, zl_9, zl_10, zl_11, zl_12, zl_13, zl_19, zl_20, zl_30, zl_64, zl_99, zl_100, zl_299, zl_300, zl_399, zl_999, zl_9999, zl_m1, zl_m2, zl_m3, zl_32, zl_280] at c4 c5 ⊢); omega)]; first | done | ((try simp only [zlt, zle, zeq, zl_0, zl_1, zl_2, zl_3, zl_4, zl_5, zl_6, zl_7, zl_8, zl_9, zl_10, zl_11, zl_12, zl_13, zl_19, zl_20, zl_30, zl_64, zl_99, zl_100, zl_299, zl_300, zl_399, zl_999, zl_9999, zl_m1, zl_m2, zl_m3, zl_32, zl_280] at c4 c5 ⊢); omega)) | (rw [if_neg (by (try simp only [zlt, zle, zeq, zl_0, zl_1, zl_2, zl_3, zl_4, zl_5, zl_6, zl_7, zl_8, zl_9, zl_10, zl_11, zl_12, zl_13, zl_19, zl_20, zl_30, zl_64, zl_99, zl_100, zl_299, zl_300, zl_399, zl_999, zl_9999, zl_m1, zl_m2, zl_m3, zl_32, zl_280] at c4 c5 ⊢); omega)]; first | done | ((try simp only [zlt, zle, zeq, zl_0, zl_1, zl_2, zl_3, zl_4, zl_5, zl_6, zl_7, zl_8, zl_9, zl_10, zl_11, zl_12, zl_13, zl_19, zl_20, zl_30, zl_64, zl_99, zl_100, zl_299, zl_300, zl_399, zl_999, zl_9999, zl_m1, zl_m2, zl_m3, zl_32, zl_280] at c4 c5 ⊢); omega)))) dX12_coach_41 (Nat.le_of_ble_eq_true rfl) (Nat.le_of_ble_eq_true rfl)
    · skip
      refine lv_aload_n hx hb dX12_coach_9 rfl (lv_at hl 0 rfl) ?_
      refine z_get Z i_X12 hP 0 rfl rfl 0 (by decide) bw_1019 rfl dX12_coach_10 ?_
      refine lv_bipush (v := 12) hx hb dX12_coach_13 (by decide) ?_
      refine lv_iload_n hx hb dX12_coach_15 rfl (lv_at hl 1 rfl) ?_
      refine lv_iadd hx hb dX12_coach_16 ?_
      refine z_topi (y := 13) (by decide) ?_
      refine z_iald Z hP 1 0 rfl rfl (vin (by decide)) dX12_coach_17 ?_
      refine z_topi (y := 0) rfl ?_
      refine lv_goto (tgt := 41) hx hb dX12_coach_18 (by decide) ?_
      exact z_ret Z rfl hP hD hS ((by first | rfl | assumption | (rw [if_pos (by (try simp only [zlt, zle, zeq, zl_0, zl_1, zl_2, zl_3, zl_4, zl_5, zl_6, zl_7, zl_8, zl_9, zl_10, zl_11, zl_12, zl_13, zl_19, zl_20, zl_30, zl_64, zl_99, zl_100, zl_299, zl_300, zl_399, zl_999, zl_9999, zl_m1, zl_m2, zl_m3, zl_32, zl_280] at c4 c5 ⊢); omega)]; first | done | ((try simp only [zlt, zle, zeq, zl_0, zl_1, zl_2, zl_3, zl_4, zl_5, zl_6, zl_7, zl_8, zl_9, zl_10, zl_11, zl_12, zl_13, zl_19, zl_20, zl_30, zl_64, zl_99, zl_100, zl_299, zl_300, zl_399, zl_999, zl_9999, zl_m1, zl_m2, zl_m3, zl_32, zl_280] at c4 c5 ⊢); omega)) | (rw [if_neg (by (try simp only [zlt, zle, zeq, zl_0, zl_1, zl_2, zl_3, zl_4, zl_5, zl_6, zl_7, zl_8, zl_9, zl_10, zl_11, zl_12, zl_13, zl_19, zl_20, zl_30, zl_64, zl_99, zl_100, zl_299, zl_300, zl_399, zl_999, zl_9999, zl_m1, zl_m2, zl_m3, zl_32, zl_280] at c4 c5 ⊢); omega)]; first | done | ((try simp only [zlt, zle, zeq, zl_0, zl_1, zl_2, zl_3, zl_4, zl_5, zl_6, zl_7, zl_8, zl_9, zl_10, zl_11, zl_12, zl_13, zl_19, zl_20, zl_30, zl_64, zl_99, zl_100, zl_299, zl_300, zl_399, zl_999, zl_9999, zl_m1, zl_m2, zl_m3, zl_32, zl_280] at c4 c5 ⊢); omega)))) dX12_coach_41 (Nat.le_of_ble_eq_true rfl) (Nat.le_of_ble_eq_true rfl)
    · skip
      refine lv_aload_n hx hb dX12_coach_9 rfl (lv_at hl 0 rfl) ?_
      refine z_get Z i_X12 hP 0 rfl rfl 0 (by decide) bw_1019 rfl dX12_coach_10 ?_
      refine lv_bipush (v := 12) hx hb dX12_coach_13 (by decide) ?_
      refine lv_iload_n hx hb dX12_coach_15 rfl (lv_at hl 1 rfl) ?_
      refine lv_iadd hx hb dX12_coach_16 ?_
      refine z_topi (y := 14) (by decide) ?_
      refine z_iald Z hP 1 0 rfl rfl (vin (by decide)) dX12_coach_17 ?_
      refine z_topi (y := 0) rfl ?_
      refine lv_goto (tgt := 41) hx hb dX12_coach_18 (by decide) ?_
      exact z_ret Z rfl hP hD hS ((by first | rfl | assumption | (rw [if_pos (by (try simp only [zlt, zle, zeq, zl_0, zl_1, zl_2, zl_3, zl_4, zl_5, zl_6, zl_7, zl_8, zl_9, zl_10, zl_11, zl_12, zl_13, zl_19, zl_20, zl_30, zl_64, zl_99, zl_100, zl_299, zl_300, zl_399, zl_999, zl_9999, zl_m1, zl_m2, zl_m3, zl_32, zl_280] at c4 c5 ⊢); omega)]; first | done | ((try simp only [zlt, zle, zeq, zl_0, zl_1, zl_2, zl_3, zl_4, zl_5, zl_6, zl_7, zl_8, zl_9, zl_10, zl_11, zl_12, zl_13, zl_19, zl_20, zl_30, zl_64, zl_99, zl_100, zl_299, zl_300, zl_399, zl_999, zl_9999, zl_m1, zl_m2, zl_m3, zl_32, zl_280] at c4 c5 ⊢); omega)) | (rw [if_neg (by (try simp only [zlt, zle, zeq, zl_0, zl_1, zl_2, zl_3, zl_4, zl_5, zl_6, zl_7, zl_8, zl_9, zl_10, zl_11, zl_12, zl_13, zl_19, zl_20, zl_30, zl_64, zl_99, zl_100, zl_299, zl_300, zl_399, zl_999, zl_9999, zl_m1, zl_m2, zl_m3, zl_32, zl_280] at c4 c5 ⊢); omega)]; first | done | ((try simp only [zlt, zle, zeq, zl_0, zl_1, zl_2, zl_3, zl_4, zl_5, zl_6, zl_7, zl_8, zl_9, zl_10, zl_11, zl_12, zl_13, zl_19, zl_20, zl_30, zl_64, zl_99, zl_100, zl_299, zl_300, zl_399, zl_999, zl_9999, zl_m1, zl_m2, zl_m3, zl_32, zl_280] at c4 c5 ⊢); omega)))) dX12_coach_41 (Nat.le_of_ble_eq_true rfl) (Nat.le_of_ble_eq_true rfl)
  · obtain rfl : r2 = 0 := by rw [hrh3, if_neg c4]
    refine lv_if_eq (tgt := 21) hx hb dX12_coach_6 (by decide) (fun c6 => ?_) (fun h => absurd (by decide) h)
    refine lv_iload_n hx hb dX12_coach_21 rfl (lv_at hl 1 rfl) ?_
    refine lv_iconst (v := 3) hx hb dX12_coach_22 (by decide) ?_
    refine lv_icmp_ne (tgt := 40) hx hb dX12_coach_23 (by decide) (fun c7 => ?_) (fun c7 => ?_)
    · refine lv_iconst (v := (-1)) hx hb dX12_coach_40 (by decide) ?_
      exact z_ret Z rfl hP hD hS ((by first | rfl | assumption | (rw [if_pos (by (try simp only [zlt, zle, zeq, zl_0, zl_1, zl_2, zl_3, zl_4, zl_5, zl_6, zl_7, zl_8, zl_9, zl_10, zl_11, zl_12, zl_13, zl_19, zl_20, zl_30, zl_64, zl_99, zl_100, zl_299, zl_300, zl_399, zl_999, zl_9999, zl_m1, zl_m2, zl_m3, zl_32, zl_280] at c4 c6 c7 ⊢); omega)]; first | done | ((try simp only [zlt, zle, zeq, zl_0, zl_1, zl_2, zl_3, zl_4, zl_5, zl_6, zl_7, zl_8, zl_9, zl_10, zl_11, zl_12, zl_13, zl_19, zl_20, zl_30, zl_64, zl_99, zl_100, zl_299, zl_300, zl_399, zl_999, zl_9999, zl_m1, zl_m2, zl_m3, zl_32, zl_280] at c4 c6 c7 ⊢); omega)) | (rw [if_neg (by (try simp only [zlt, zle, zeq, zl_0, zl_1, zl_2, zl_3, zl_4, zl_5, zl_6, zl_7, zl_8, zl_9, zl_10, zl_11, zl_12, zl_13, zl_19, zl_20, zl_30, zl_64, zl_99, zl_100, zl_299, zl_300, zl_399, zl_999, zl_9999, zl_m1, zl_m2, zl_m3, zl_32, zl_280] at c4 c6 c7 ⊢); omega)]; first | done | ((try simp only [zlt, zle, zeq, zl_0, zl_1, zl_2, zl_3, zl_4, zl_5, zl_6, zl_7, zl_8, zl_9, zl_10, zl_11, zl_12, zl_13, zl_19, zl_20, zl_30, zl_64, zl_99, zl_100, zl_299, zl_300, zl_399, zl_999, zl_9999, zl_m1, zl_m2, zl_m3, zl_32, zl_280] at c4 c6 c7 ⊢); omega)))) dX12_coach_41 (Nat.le_of_ble_eq_true rfl) (Nat.le_of_ble_eq_true rfl)
    · refine lv_aload_n hx hb dX12_coach_26 rfl (lv_at hl 0 rfl) ?_
      refine lv_aload_n hx hb dX12_coach_27 rfl (lv_at hl 0 rfl) ?_
      refine z_get Z i_X12 hP 0 rfl rfl 0 (by decide) bw_1019 rfl dX12_coach_28 ?_
      refine lv_bipush (v := 12) hx hb dX12_coach_31 (by decide) ?_
      refine z_iald Z hP 1 0 rfl rfl (vin (by decide)) dX12_coach_33 ?_
      refine z_topi (y := 0) rfl ?_
      have hPc := hP.sub2 (wc := [(q, .inr (12, [.ref aA, .ref aI, .ref aT, .ref aP, .int 0, .int (-1), .int (-1), .int 0, .int 0, .int 0, .int 0, .long 0, .int 0, .int 0, .int 0, .int 0, .ref pI, .int 0, .int 0, .int 0, .int 0, .int 0, .ref nM, .ref vA, .ref tR, .int 0, .int 0, .int 0, .ref rW, .ref sP, .ref oA, .ref bS, .ref aS, .ref aO, .ref cS, .ref wY])), (aA, .inl (cI, 862, .inl af0))]) [0, 1] rfl
      have hDc := hD.sub (ws' := [(q, .inr (12, [.ref aA, .ref aI, .ref aT, .ref aP, .int 0, .int (-1), .int (-1), .int 0, .int 0, .int 0, .int 0, .long 0, .int 0, .int 0, .int 0, .int 0, .ref pI, .int 0, .int 0, .int 0, .int 0, .int 0, .ref nM, .ref vA, .ref tR, .int 0, .int 0, .int 0, .ref rW, .ref sP, .ref oA, .ref bS, .ref aS, .ref aO, .ref cS, .ref wY])), (aA, .inl (cI, 862, .inl af0))]) [0, 1] (by decide) rfl
      refine raw_Vi (ci := 12) (q0 := 0) (nA := 1) (As := [.int 0]) (rest := []) Z hl.1 (c_X12_innAt l D cI cM cT q aA aI aT aP pI nM vA tR rW sP oA bS aS aO cS wY 0) (bw_V bw_1382 bw_1384 bw_70 bw_92 bw_1385) ⟨by decide +kernel, by decide +kernel, by decide +kernel⟩ rfl ⟨Nat.le_of_ble_eq_true rfl, Nat.le_of_ble_eq_true rfl⟩ rfl rfl rfl hPc hDc hS rfl (Nat.le_of_ble_eq_true rfl) dX12_coach_34 ⟨Nat.le_of_ble_eq_true rfl, Nat.le_of_ble_eq_true rfl⟩ (fun r9 u8 H1 locs1 h10 hku8 hP1 hD1 hS1 => ?_)
      obtain ⟨rfl, rfl⟩ := h10
      obtain ⟨hP, hD⟩ := z_join (wr := []) Z hS hP hD [0, 1] [] rfl (by decide) rfl (by decide) (by decide) hku8 hP1 hD1
      have hS := hS1
      clear hS1
      generalize H1 = H at hP hS ⊢
      generalize locs1 = locs at hS ⊢
      have hP : va_P D vwCl ([(q, .inr (12, [.ref aA, .ref aI, .ref aT, .ref aP, .int 0, .int (-1), .int (-1), .int 0, .int 0, .int 0, .int 0, .long 0, .int 0, .int 0, .int 0, .int 0, .ref pI, .int 0, .int 0, .int 0, .int 0, .int 0, .ref nM, .ref vA, .ref tR, .int 0, .int 0, .int 0, .ref rW, .ref sP, .ref oA, .ref bS, .ref aS, .ref aO, .ref cS, .ref wY])), (aA, .inl (cI, 862, .inl af0))]) H := hP
      have hD : va_D A ([(q, .inr (12, [.ref aA, .ref aI, .ref aT, .ref aP, .int 0, .int (-1), .int (-1), .int 0, .int 0, .int 0, .int 0, .long 0, .int 0, .int 0, .int 0, .int 0, .ref pI, .int 0, .int 0, .int 0, .int 0, .int 0, .ref nM, .ref vA, .ref tR, .int 0, .int 0, .int 0, .ref rW, .ref sP, .ref oA, .ref bS, .ref aS, .ref aO, .ref cS, .ref wY])), (aA, .inl (cI, 862, .inl af0))]) := hD
      refine lv_goto (tgt := 41) hx hb dX12_coach_37 (by decide) ?_
      exact z_ret Z rfl hP hD hS ((by first | rfl | assumption | (rw [if_pos (by (try simp only [zlt, zle, zeq, zl_0, zl_1, zl_2, zl_3, zl_4, zl_5, zl_6, zl_7, zl_8, zl_9, zl_10, zl_11, zl_12, zl_13, zl_19, zl_20, zl_30, zl_64, zl_99, zl_100, zl_299, zl_300, zl_399, zl_999, zl_9999, zl_m1, zl_m2, zl_m3, zl_32, zl_280] at c4 c6 c7 ⊢); omega)]; first | done | ((try simp only [zlt, zle, zeq, zl_0, zl_1, zl_2, zl_3, zl_4, zl_5, zl_6, zl_7, zl_8, zl_9, zl_10, zl_11, zl_12, zl_13, zl_19, zl_20, zl_30, zl_64, zl_99, zl_100, zl_299, zl_300, zl_399, zl_999, zl_9999, zl_m1, zl_m2, zl_m3, zl_32, zl_280] at c4 c6 c7 ⊢); omega)) | (rw [if_neg (by (try simp only [zlt, zle, zeq, zl_0, zl_1, zl_2, zl_3, zl_4, zl_5, zl_6, zl_7, zl_8, zl_9, zl_10, zl_11, zl_12, zl_13, zl_19, zl_20, zl_30, zl_64, zl_99, zl_100, zl_299, zl_300, zl_399, zl_999, zl_9999, zl_m1, zl_m2, zl_m3, zl_32, zl_280] at c4 c6 c7 ⊢); omega)]; first | done | ((try simp only [zlt, zle, zeq, zl_0, zl_1, zl_2, zl_3, zl_4, zl_5, zl_6, zl_7, zl_8, zl_9, zl_10, zl_11, zl_12, zl_13, zl_19, zl_20, zl_30, zl_64, zl_99, zl_100, zl_299, zl_300, zl_399, zl_999, zl_9999, zl_m1, zl_m2, zl_m3, zl_32, zl_280] at c4 c6 c7 ⊢); omega)))) dX12_coach_41 (Nat.le_of_ble_eq_true rfl) (Nat.le_of_ble_eq_true rfl)
set_option maxHeartbeats 4000000 in
set_option maxRecDepth 100000 in
theorem c_X12_about (l : Launch) (D : va_G) (cI cM cT : ClassId) (q : Nat) (aA : Nat) (aI : Nat) (aT : Nat) (aP : Nat) (pI : Nat) (nM : Nat) (vA : Nat) (tR : Nat) (rW : Nat) (sP : Nat) (oA : Nat) (bS : Nat) (aS : Nat) (aO : Nat) (cS : Nat) (wY : Nat) (p0 : Int32) : Ci l D (ty3 cI cM cT) yX12_about cX12_about 2 (some .int) 3 0 0 [.ref q, .int p0] ([(q, .inr (12, [.ref aA, .ref aI, .ref aT, .ref aP, .int 0, .int (-1), .int (-1), .int 0, .int 0, .int 0, .int 0, .long 0, .int 0, .int 0, .int 0, .int 0, .ref pI, .int 0, .int 0, .int 0, .int 0, .int 0, .ref nM, .ref vA, .ref tR, .int 0, .int 0, .int 0, .ref rW, .ref sP, .ref oA, .ref bS, .ref aS, .ref aO, .ref cS, .ref wY])), (aA, .inl (cI, 862, .inl af0))]) (fun r u => r = (if 100 ≤ p0 ∧ p0 ≤ 399 then 0 else if p0 = 5 then 13 else if p0 = 7 then (-1) else if 0 ≤ p0 ∧ p0 ≤ 11 then 0 else (-2))) := by
  refine Ci.of (by decide +kernel) (Nat.le_of_ble_eq_true rfl) ?_
  intro p e s m below meth c A ls Z hin hP hD hl
  have hx := Z.1
  have hb := Z.2.1
  have hS : va_S A s.heap s.heap [] := va_S.rf
  have hl : lv_has ls 2 [(0, .ref q), (1, .int p0)] := hl
  skip
  refine lv_iload_n hx hb dX12_about_0 rfl (lv_at hl 1 rfl) ?_
  refine lv_bipush (v := 20) hx hb dX12_about_1 (by decide) ?_
  refine lv_bipush (v := 19) hx hb dX12_about_3 (by decide) ?_
  refine lv_aload_n hx hb dX12_about_5 rfl (lv_at hl 0 rfl) ?_
  refine z_get Z i_X12 hP 0 rfl rfl 0 (by decide) bw_1019 rfl dX12_about_6 ?_
  refine lv_iconst (v := 2) hx hb dX12_about_9 (by decide) ?_
  refine z_iald Z hP 1 0 rfl rfl (vin (by decide)) dX12_about_10 ?_
  refine z_topi (y := 0) rfl ?_
  refine lv_iadd hx hb dX12_about_11 ?_
  refine z_topi (y := 19) (by decide) ?_
  have hPc := hP.sub2 (wc := []) [] rfl
  have hDc := hD.sub (ws' := []) [] (by decide) rfl
  refine raw_Si (nA := 3) (As := [.int p0, .int 20, .int 19]) (rest := []) Z hl.1 (c_X12_isIn l D cI cM cT p0 20 19) (bw_S bw_1135 bw_1136 bw_92 bw_1137) ⟨by decide +kernel, by decide +kernel, by decide +kernel⟩ rfl ⟨Nat.le_of_ble_eq_true rfl, Nat.le_of_ble_eq_true rfl⟩ hPc hDc hS rfl (Nat.le_of_ble_eq_true rfl) dX12_about_12 ⟨Nat.le_of_ble_eq_true rfl, Nat.le_of_ble_eq_true rfl⟩ (fun r2 u1 H1 locs1 h3 hku1 hP1 hD1 hS1 => ?_)
  obtain ⟨hrh3, rfl⟩ := h3
  obtain ⟨hP, hD⟩ := z_join (wr := [(q, .inr (12, [.ref aA, .ref aI, .ref aT, .ref aP, .int 0, .int (-1), .int (-1), .int 0, .int 0, .int 0, .int 0, .long 0, .int 0, .int 0, .int 0, .int 0, .ref pI, .int 0, .int 0, .int 0, .int 0, .int 0, .ref nM, .ref vA, .ref tR, .int 0, .int 0, .int 0, .ref rW, .ref sP, .ref oA, .ref bS, .ref aS, .ref aO, .ref cS, .ref wY])), (aA, .inl (cI, 862, .inl af0))]) Z hS hP hD [] [0, 1] rfl (by decide) rfl (by decide) (by decide) hku1 hP1 hD1
  have hS := hS1
  clear hS1
  generalize H1 = H at hP hS ⊢
  generalize locs1 = locs at hS ⊢
  have hP : va_P D vwCl ([(q, .inr (12, [.ref aA, .ref aI, .ref aT, .ref aP, .int 0, .int (-1), .int (-1), .int 0, .int 0, .int 0, .int 0, .long 0, .int 0, .int 0, .int 0, .int 0, .ref pI, .int 0, .int 0, .int 0, .int 0, .int 0, .ref nM, .ref vA, .ref tR, .int 0, .int 0, .int 0, .ref rW, .ref sP, .ref oA, .ref bS, .ref aS, .ref aO, .ref cS, .ref wY])), (aA, .inl (cI, 862, .inl af0))]) H := hP
  have hD : va_D A ([(q, .inr (12, [.ref aA, .ref aI, .ref aT, .ref aP, .int 0, .int (-1), .int (-1), .int 0, .int 0, .int 0, .int 0, .long 0, .int 0, .int 0, .int 0, .int 0, .ref pI, .int 0, .int 0, .int 0, .int 0, .int 0, .ref nM, .ref vA, .ref tR, .int 0, .int 0, .int 0, .ref rW, .ref sP, .ref oA, .ref bS, .ref aS, .ref aO, .ref cS, .ref wY])), (aA, .inl (cI, 862, .inl af0))]) := hD
  obtain rfl : r2 = 0 := by rw [hrh3, if_neg (by simp only [zlt, zle, zeq, zl_0, zl_1, zl_2, zl_3, zl_4, zl_5, zl_6, zl_7, zl_8, zl_9, zl_10, zl_11, zl_12, zl_13, zl_19, zl_20, zl_30, zl_64, zl_99, zl_100, zl_299, zl_300, zl_399, zl_999, zl_9999, zl_m1, zl_m2, zl_m3, zl_32, zl_280]; omega)]
  refine lv_if_eq (tgt := 31) hx hb dX12_about_15 (by decide) (fun c5 => ?_) (fun h => absurd (by decide) h)
  refine lv_iload_n hx hb dX12_about_31 rfl (lv_at hl 1 rfl) ?_
  refine lv_bipush (v := 100) hx hb dX12_about_32 (by decide) ?_
  refine lv_sipush (v := 399) hx hb dX12_about_34 (by decide) ?_
  have hPc := hP.sub2 (wc := []) [] rfl
  have hDc := hD.sub (ws' := []) [] (by decide) rfl
  refine raw_Si (nA := 3) (As := [.int p0, .int 100, .int 399]) (rest := []) Z hl.1 (c_X12_isIn l D cI cM cT p0 100 399) (bw_S bw_1135 bw_1136 bw_92 bw_1137) ⟨by decide +kernel, by decide +kernel, by decide +kernel⟩ rfl ⟨Nat.le_of_ble_eq_true rfl, Nat.le_of_ble_eq_true rfl⟩ hPc hDc hS rfl (Nat.le_of_ble_eq_true rfl) dX12_about_37 ⟨Nat.le_of_ble_eq_true rfl, Nat.le_of_ble_eq_true rfl⟩ (fun r7 u6 H1 locs1 h8 hku6 hP1 hD1 hS1 => ?_)
  obtain ⟨hrh8, rfl⟩ := h8
  obtain ⟨hP, hD⟩ := z_join (wr := [(q, .inr (12, [.ref aA, .ref aI, .ref aT, .ref aP, .int 0, .int (-1), .int (-1), .int 0, .int 0, .int 0, .int 0, .long 0, .int 0, .int 0, .int 0, .int 0, .ref pI, .int 0, .int 0, .int 0, .int 0, .int 0, .ref nM, .ref vA, .ref tR, .int 0, .int 0, .int 0, .ref rW, .ref sP, .ref oA, .ref bS, .ref aS, .ref aO, .ref cS, .ref wY])), (aA, .inl (cI, 862, .inl af0))]) Z hS hP hD [] [0, 1] rfl (by decide) rfl (by decide) (by decide) hku6 hP1 hD1
  have hS := hS1
  clear hS1
  generalize H1 = H at hP hS ⊢
  generalize locs1 = locs at hS ⊢
  have hP : va_P D vwCl ([(q, .inr (12, [.ref aA, .ref aI, .ref aT, .ref aP, .int 0, .int (-1), .int (-1), .int 0, .int 0, .int 0, .int 0, .long 0, .int 0, .int 0, .int 0, .int 0, .ref pI, .int 0, .int 0, .int 0, .int 0, .int 0, .ref nM, .ref vA, .ref tR, .int 0, .int 0, .int 0, .ref rW, .ref sP, .ref oA, .ref bS, .ref aS, .ref aO, .ref cS, .ref wY])), (aA, .inl (cI, 862, .inl af0))]) H := hP
  have hD : va_D A ([(q, .inr (12, [.ref aA, .ref aI, .ref aT, .ref aP, .int 0, .int (-1), .int (-1), .int 0, .int 0, .int 0, .int 0, .long 0, .int 0, .int 0, .int 0, .int 0, .ref pI, .int 0, .int 0, .int 0, .int 0, .int 0, .ref nM, .ref vA, .ref tR, .int 0, .int 0, .int 0, .ref rW, .ref sP, .ref oA, .ref bS, .ref aS, .ref aO, .ref cS, .ref wY])), (aA, .inl (cI, 862, .inl af0))]) := hD
  by_cases c9 : 100 ≤ p0 ∧ p0 ≤ 399
  · obtain rfl : r7 = 1 := by rw [hrh8, if_pos c9]
    refine lv_if_eq (tgt := 56) hx hb dX12_about_40 (by decide) (fun h => absurd h (by decide)) (fun c10 => ?_)
    refine lv_aload_n hx hb dX12_about_43 rfl (lv_at hl 0 rfl) ?_
    refine z_get Z i_X12 hP 0 rfl rfl 0 (by decide) bw_1019 rfl dX12_about_44 ?_
    refine lv_bipush (v := 82) hx hb dX12_about_47 (by decide) ?_
    refine lv_iload_n hx hb dX12_about_49 rfl (lv_at hl 1 rfl) ?_
    refine lv_iadd hx hb dX12_about_50 ?_
    refine lv_bipush (v := 100) hx hb dX12_about_51 (by decide) ?_
    refine lv_isub hx hb dX12_about_53 ?_
    refine z_iald Z hP 1 0 rfl rfl (vp_in_iff.mpr (by have e9 := zt82b (x := p0) (by (try simp only [zlt, zle, zeq, zl_0, zl_1, zl_2, zl_3, zl_4, zl_5, zl_6, zl_7, zl_8, zl_9, zl_10, zl_11, zl_12, zl_13, zl_19, zl_20, zl_30, zl_64, zl_99, zl_100, zl_299, zl_300, zl_399, zl_999, zl_9999, zl_m1, zl_m2, zl_m3, zl_32, zl_280] at c5 c9 c10 ⊢); omega) (by (try simp only [zlt, zle, zeq, zl_0, zl_1, zl_2, zl_3, zl_4, zl_5, zl_6, zl_7, zl_8, zl_9, zl_10, zl_11, zl_12, zl_13, zl_19, zl_20, zl_30, zl_64, zl_99, zl_100, zl_299, zl_300, zl_399, zl_999, zl_9999, zl_m1, zl_m2, zl_m3, zl_32, zl_280] at c5 c9 c10 ⊢); omega); (try simp only [zlt, zle, zeq, zl_0, zl_1, zl_2, zl_3, zl_4, zl_5, zl_6, zl_7, zl_8, zl_9, zl_10, zl_11, zl_12, zl_13, zl_19, zl_20, zl_30, zl_64, zl_99, zl_100, zl_299, zl_300, zl_399, zl_999, zl_9999, zl_m1, zl_m2, zl_m3, zl_32, zl_280] at c5 c9 c10 ⊢); omega)) dX12_about_54 ?_
    refine z_topi (y := 0) (af0_ge (by have e9 := zt82b (x := p0) (by (try simp only [zlt, zle, zeq, zl_0, zl_1, zl_2, zl_3, zl_4, zl_5, zl_6, zl_7, zl_8, zl_9, zl_10, zl_11, zl_12, zl_13, zl_19, zl_20, zl_30, zl_64, zl_99, zl_100, zl_299, zl_300, zl_399, zl_999, zl_9999, zl_m1, zl_m2, zl_m3, zl_32, zl_280] at c5 c9 c10 ⊢); omega) (by (try simp only [zlt, zle, zeq, zl_0, zl_1, zl_2, zl_3, zl_4, zl_5, zl_6, zl_7, zl_8, zl_9, zl_10, zl_11, zl_12, zl_13, zl_19, zl_20, zl_30, zl_64, zl_99, zl_100, zl_299, zl_300, zl_399, zl_999, zl_9999, zl_m1, zl_m2, zl_m3, zl_32, zl_280] at c5 c9 c10 ⊢); omega); (try simp only [zlt, zle, zeq, zl_0, zl_1, zl_2, zl_3, zl_4, zl_5, zl_6, zl_7, zl_8, zl_9, zl_10, zl_11, zl_12, zl_13, zl_19, zl_20, zl_30, zl_64, zl_99, zl_100, zl_299, zl_300, zl_399, zl_999, zl_9999, zl_m1, zl_m2, zl_m3, zl_32, zl_280] at c5 c9 c10 ⊢); omega)) ?_
    exact z_ret Z rfl hP hD hS ((by first | rfl | assumption | (rw [if_pos (by (try simp only [zlt, zle, zeq, zl_0, zl_1, zl_2, zl_3, zl_4, zl_5, zl_6, zl_7, zl_8, zl_9, zl_10, zl_11, zl_12, zl_13, zl_19, zl_20, zl_30, zl_64, zl_99, zl_100, zl_299, zl_300, zl_399, zl_999, zl_9999, zl_m1, zl_m2, zl_m3, zl_32, zl_280] at c5 c9 c10 ⊢); omega)]; first | done | ((try simp only [zlt, zle, zeq, zl_0, zl_1, zl_2, zl_3, zl_4, zl_5, zl_6, zl_7, zl_8, zl_9, zl_10, zl_11, zl_12, zl_13, zl_19, zl_20, zl_30, zl_64, zl_99, zl_100, zl_299, zl_300, zl_399, zl_999, zl_9999, zl_m1, zl_m2, zl_m3, zl_32, zl_280] at c5 c9 c10 ⊢); omega)) | (rw [if_neg (by (try simp only [zlt, zle, zeq, zl_0, zl_1, zl_2, zl_3, zl_4, zl_5, zl_6, zl_7, zl_8, zl_9, zl_10, zl_11, zl_12, zl_13, zl_19, zl_20, zl_30, zl_64, zl_99, zl_100, zl_299, zl_300, zl_399, zl_999, zl_9999, zl_m1, zl_m2, zl_m3, zl_32, zl_280] at c5 c9 c10 ⊢); omega), if_pos (by (try simp only [zlt, zle, zeq, zl_0, zl_1, zl_2, zl_3, zl_4, zl_5, zl_6, zl_7, zl_8, zl_9, zl_10, zl_11, zl_12, zl_13, zl_19, zl_20, zl_30, zl_64, zl_99, zl_100, zl_299, zl_300, zl_399, zl_999, zl_9999, zl_m1, zl_m2, zl_m3, zl_32, zl_280] at c5 c9 c10 ⊢); omega)]; first | done | ((try simp only [zlt, zle, zeq, zl_0, zl_1, zl_2, zl_3, zl_4, zl_5, zl_6, zl_7, zl_8, zl_9, zl_10, zl_11, zl_12, zl_13, zl_19, zl_20, zl_30, zl_64, zl_99, zl_100, zl_299, zl_300, zl_399, zl_999, zl_9999, zl_m1, zl_m2, zl_m3, zl_32, zl_280] at c5 c9 c10 ⊢); omega)) | (rw [if_neg (by (try simp only [zlt, zle, zeq, zl_0, zl_1, zl_2, zl_3, zl_4, zl_5, zl_6, zl_7, zl_8, zl_9, zl_10, zl_11, zl_12, zl_13, zl_19, zl_20, zl_30, zl_64, zl_99, zl_100, zl_299, zl_300, zl_399, zl_999, zl_9999, zl_m1, zl_m2, zl_m3, zl_32, zl_280] at c5 c9 c10 ⊢); omega), if_neg (by (try simp only [zlt, zle, zeq, zl_0, zl_1, zl_2, zl_3, zl_4, zl_5, zl_6, zl_7, zl_8, zl_9, zl_10, zl_11, zl_12, zl_13, zl_19, zl_20, zl_30, zl_64, zl_99, zl_100, zl_299, zl_300, zl_399, zl_999, zl_9999, zl_m1, zl_m2, zl_m3, zl_32, zl_280] at c5 c9 c10 ⊢); omega), if_pos (by (try simp only [zlt, zle, zeq, zl_0, zl_1, zl_2, zl_3, zl_4, zl_5, zl_6, zl_7, zl_8, zl_9, zl_10, zl_11, zl_12, zl_13, zl_19, zl_20, zl_30, zl_64, zl_99, zl_100, zl_299, zl_300, zl_399, zl_999, zl_9999, zl_m1, zl_m2, zl_m3, zl_32, zl_280] at c5 c9 c10 ⊢); omega)]; first | done | ((try simp only [zlt, zle, zeq, zl_0, zl_1, zl_2, zl_3, zl_4, zl_5, zl_6, zl_7, zl_8, zl_9, zl_10, zl_11, zl_12, zl_13, zl_19, zl_20, zl_30, zl_64, zl_99, zl_100, zl_299, zl_300, zl_399, zl_999, zl_9999, zl_m1, zl_m2, zl_m3, zl_32, zl_280] at c5 c9 c10 ⊢); omega)) | (rw [if_neg (by (try simp only [zlt, zle, zeq, zl_0, zl_1, zl_2, zl_3, zl_4, zl_5, zl_6, zl_7, zl_8, zl_9, zl_10, zl_11, zl_12, zl_13, zl_19, zl_20, zl_30, zl_64, zl_99, zl_100, zl_299, zl_300, zl_399, zl_999, zl_9999, zl_m1, zl_m2, zl_m3, zl_32, zl_280] at c5 c9 c10 ⊢); omega), if_neg (by (try simp only [zlt, zle, zeq, zl_0, zl_1, zl_2, zl_3, zl_4, zl_5, zl_6, zl_7, zl_8, zl_9, zl_10, zl_11, zl_12, zl_13, zl_19, zl_20, zl_30, zl_64, zl_99, zl_100, zl_299, zl_300, zl_399, zl_999, zl_9999, zl_m1, zl_m2, zl_m3, zl_32, zl_280] at c5 c9 c10 ⊢); omega), if_neg (by (try simp only [zlt, zle, zeq, zl_0, zl_1, zl_2, zl_3, zl_4, zl_5, zl_6, zl_7, zl_8, zl_9, zl_10, zl_11, zl_12, zl_13, zl_19, zl_20, zl_30, zl_64, zl_99, zl_100, zl_299, zl_300, zl_399, zl_999, zl_9999, zl_m1, zl_m2, zl_m3, zl_32, zl_280] at c5 c9 c10 ⊢); omega), if_pos (by (try simp only [zlt, zle, zeq, zl_0, zl_1, zl_2, zl_3, zl_4, zl_5, zl_6, zl_7, zl_8, zl_9, zl_10, zl_11, zl_12, zl_13, zl_19, zl_20, zl_30, zl_64, zl_99, zl_100, zl_299, zl_300, zl_399, zl_999, zl_9999, zl_m1, zl_m2, zl_m3, zl_32, zl_280] at c5 c9 c10 ⊢); omega)]; first | done | ((try simp only [zlt, zle, zeq, zl_0, zl_1, zl_2, zl_3, zl_4, zl_5, zl_6, zl_7, zl_8, zl_9, zl_10, zl_11, zl_12, zl_13, zl_19, zl_20, zl_30, zl_64, zl_99, zl_100, zl_299, zl_300, zl_399, zl_999, zl_9999, zl_m1, zl_m2, zl_m3, zl_32, zl_280] at c5 c9 c10 ⊢); omega)) | (rw [if_neg (by (try simp only [zlt, zle, zeq, zl_0, zl_1, zl_2, zl_3, zl_4, zl_5, zl_6, zl_7, zl_8, zl_9, zl_10, zl_11, zl_12, zl_13, zl_19, zl_20, zl_30, zl_64, zl_99, zl_100, zl_299, zl_300, zl_399, zl_999, zl_9999, zl_m1, zl_m2, zl_m3, zl_32, zl_280] at c5 c9 c10 ⊢); omega), if_neg (by (try simp only [zlt, zle, zeq, zl_0, zl_1, zl_2, zl_3, zl_4, zl_5, zl_6, zl_7, zl_8, zl_9, zl_10, zl_11, zl_12, zl_13, zl_19, zl_20, zl_30, zl_64, zl_99, zl_100, zl_299, zl_300, zl_399, zl_999, zl_9999, zl_m1, zl_m2, zl_m3, zl_32, zl_280] at c5 c9 c10 ⊢); omega), if_neg (by (try simp only [zlt, zle, zeq, zl_0, zl_1, zl_2, zl_3, zl_4, zl_5, zl_6, zl_7, zl_8, zl_9, zl_10, zl_11, zl_12, zl_13, zl_19, zl_20, zl_30, zl_64, zl_99, zl_100, zl_299, zl_300, zl_399, zl_999, zl_9999, zl_m1, zl_m2, zl_m3, zl_32, zl_280] at c5 c9 c10 ⊢); omega), if_neg (by (try simp only [zlt, zle, zeq, zl_0, zl_1, zl_2, zl_3, zl_4, zl_5, zl_6, zl_7, zl_8, zl_9, zl_10, zl_11, zl_12, zl_13, zl_19, zl_20, zl_30, zl_64, zl_99, zl_100, zl_299, zl_300, zl_399, zl_999, zl_9999, zl_m1, zl_m2, zl_m3, zl_32, zl_280] at c5 c9 c10 ⊢); omega)]; first | done | ((try simp only [zlt, zle, zeq, zl_0, zl_1, zl_2, zl_3, zl_4, zl_5, zl_6, zl_7, zl_8, zl_9, zl_10, zl_11, zl_12, zl_13, zl_19, zl_20, zl_30, zl_64, zl_99, zl_100, zl_299, zl_300, zl_399, zl_999, zl_9999, zl_m1, zl_m2, zl_m3, zl_32, zl_280] at c5 c9 c10 ⊢); omega)))) dX12_about_55 (Nat.le_of_ble_eq_true rfl) (Nat.le_of_ble_eq_true rfl)
  · obtain rfl : r7 = 0 := by rw [hrh8, if_neg c9]
    refine lv_if_eq (tgt := 56) hx hb dX12_about_40 (by decide) (fun c11 => ?_) (fun h => absurd (by decide) h)
    refine lv_iload_n hx hb dX12_about_56 rfl (lv_at hl 1 rfl) ?_
    refine lv_iconst (v := 0) hx hb dX12_about_57 (by decide) ?_
    refine lv_bipush (v := 10) hx hb dX12_about_58 (by decide) ?_
    have hPc := hP.sub2 (wc := []) [] rfl
    have hDc := hD.sub (ws' := []) [] (by decide) rfl
    refine raw_Si (nA := 3) (As := [.int p0, .int 0, .int 10]) (rest := []) Z hl.1 (c_X12_isIn l D cI cM cT p0 0 10) (bw_S bw_1135 bw_1136 bw_92 bw_1137) ⟨by decide +kernel, by decide +kernel, by decide +kernel⟩ rfl ⟨Nat.le_of_ble_eq_true rfl, Nat.le_of_ble_eq_true rfl⟩ hPc hDc hS rfl (Nat.le_of_ble_eq_true rfl) dX12_about_60 ⟨Nat.le_of_ble_eq_true rfl, Nat.le_of_ble_eq_true rfl⟩ (fun r13 u12 H1 locs1 h14 hku12 hP1 hD1 hS1 => ?_)
    obtain ⟨hrh14, rfl⟩ := h14
    obtain ⟨hP, hD⟩ := z_join (wr := [(q, .inr (12, [.ref aA, .ref aI, .ref aT, .ref aP, .int 0, .int (-1), .int (-1), .int 0, .int 0, .int 0, .int 0, .long 0, .int 0, .int 0, .int 0, .int 0, .ref pI, .int 0, .int 0, .int 0, .int 0, .int 0, .ref nM, .ref vA, .ref tR, .int 0, .int 0, .int 0, .ref rW, .ref sP, .ref oA, .ref bS, .ref aS, .ref aO, .ref cS, .ref wY])), (aA, .inl (cI, 862, .inl af0))]) Z hS hP hD [] [0, 1] rfl (by decide) rfl (by decide) (by decide) hku12 hP1 hD1
    have hS := hS1
    clear hS1
    generalize H1 = H at hP hS ⊢
    generalize locs1 = locs at hS ⊢
    have hP : va_P D vwCl ([(q, .inr (12, [.ref aA, .ref aI, .ref aT, .ref aP, .int 0, .int (-1), .int (-1), .int 0, .int 0, .int 0, .int 0, .long 0, .int 0, .int 0, .int 0, .int 0, .ref pI, .int 0, .int 0, .int 0, .int 0, .int 0, .ref nM, .ref vA, .ref tR, .int 0, .int 0, .int 0, .ref rW, .ref sP, .ref oA, .ref bS, .ref aS, .ref aO, .ref cS, .ref wY])), (aA, .inl (cI, 862, .inl af0))]) H := hP
    have hD : va_D A ([(q, .inr (12, [.ref aA, .ref aI, .ref aT, .ref aP, .int 0, .int (-1), .int (-1), .int 0, .int 0, .int 0, .int 0, .long 0, .int 0, .int 0, .int 0, .int 0, .ref pI, .int 0, .int 0, .int 0, .int 0, .int 0, .ref nM, .ref vA, .ref tR, .int 0, .int 0, .int 0, .ref rW, .ref sP, .ref oA, .ref bS, .ref aS, .ref aO, .ref cS, .ref wY])), (aA, .inl (cI, 862, .inl af0))]) := hD
    by_cases c15 : 0 ≤ p0 ∧ p0 ≤ 10
    · obtain rfl : r13 = 1 := by rw [hrh14, if_pos c15]
      refine lv_if_eq (tgt := 75) hx hb dX12_about_63 (by decide) (fun h => absurd h (by decide)) (fun c16 => ?_)
      have hsc : p0 = 0 ∨ p0 = 1 ∨ p0 = 2 ∨ p0 = 3 ∨ p0 = 4 ∨ p0 = 5 ∨ p0 = 6 ∨ p0 = 7 ∨ p0 = 8 ∨ p0 = 9 ∨ p0 = 10 := by (try simp only [zlt, zle, zeq, zl_0, zl_1, zl_2, zl_3, zl_4, zl_5, zl_6, zl_7, zl_8, zl_9, zl_10, zl_11, zl_12, zl_13, zl_19, zl_20, zl_30, zl_64, zl_99, zl_100, zl_299, zl_300, zl_399, zl_999, zl_9999, zl_m1, zl_m2, zl_m3, zl_32, zl_280] at c5 c9 c11 c15 c16 ⊢); omega
      rcases hsc with rfl | rfl | rfl | rfl | rfl | rfl | rfl | rfl | rfl | rfl | rfl
      · skip
        refine lv_aload_n hx hb dX12_about_66 rfl (lv_at hl 0 rfl) ?_
        refine z_get Z i_X12 hP 0 rfl rfl 0 (by decide) bw_1019 rfl dX12_about_67 ?_
        refine lv_iload_n hx hb dX12_about_70 rfl (lv_at hl 1 rfl) ?_
        refine z_iald Z hP 1 0 rfl rfl (vin (by decide)) dX12_about_71 ?_
        refine z_topi (y := 0) rfl ?_
        refine lv_goto (tgt := 90) hx hb dX12_about_72 (by decide) ?_
        exact z_ret Z rfl hP hD hS ((by first | rfl | assumption | (rw [if_pos (by (try simp only [zlt, zle, zeq, zl_0, zl_1, zl_2, zl_3, zl_4, zl_5, zl_6, zl_7, zl_8, zl_9, zl_10, zl_11, zl_12, zl_13, zl_19, zl_20, zl_30, zl_64, zl_99, zl_100, zl_299, zl_300, zl_399, zl_999, zl_9999, zl_m1, zl_m2, zl_m3, zl_32, zl_280] at c5 c9 c11 c15 c16 ⊢); omega)]; first | done | ((try simp only [zlt, zle, zeq, zl_0, zl_1, zl_2, zl_3, zl_4, zl_5, zl_6, zl_7, zl_8, zl_9, zl_10, zl_11, zl_12, zl_13, zl_19, zl_20, zl_30, zl_64, zl_99, zl_100, zl_299, zl_300, zl_399, zl_999, zl_9999, zl_m1, zl_m2, zl_m3, zl_32, zl_280] at c5 c9 c11 c15 c16 ⊢); omega)) | (rw [if_neg (by (try simp only [zlt, zle, zeq, zl_0, zl_1, zl_2, zl_3, zl_4, zl_5, zl_6, zl_7, zl_8, zl_9, zl_10, zl_11, zl_12, zl_13, zl_19, zl_20, zl_30, zl_64, zl_99, zl_100, zl_299, zl_300, zl_399, zl_999, zl_9999, zl_m1, zl_m2, zl_m3, zl_32, zl_280] at c5 c9 c11 c15 c16 ⊢); omega), if_pos (by (try simp only [zlt, zle, zeq, zl_0, zl_1, zl_2, zl_3, zl_4, zl_5, zl_6, zl_7, zl_8, zl_9, zl_10, zl_11, zl_12, zl_13, zl_19, zl_20, zl_30, zl_64, zl_99, zl_100, zl_299, zl_300, zl_399, zl_999, zl_9999, zl_m1, zl_m2, zl_m3, zl_32, zl_280] at c5 c9 c11 c15 c16 ⊢); omega)]; first | done | ((try simp only [zlt, zle, zeq, zl_0, zl_1, zl_2, zl_3, zl_4, zl_5, zl_6, zl_7, zl_8, zl_9, zl_10, zl_11, zl_12, zl_13, zl_19, zl_20, zl_30, zl_64, zl_99, zl_100, zl_299, zl_300, zl_399, zl_999, zl_9999, zl_m1, zl_m2, zl_m3, zl_32, zl_280] at c5 c9 c11 c15 c16 ⊢); omega)) | (rw [if_neg (by (try simp only [zlt, zle, zeq, zl_0, zl_1, zl_2, zl_3, zl_4, zl_5, zl_6, zl_7, zl_8, zl_9, zl_10, zl_11, zl_12, zl_13, zl_19, zl_20, zl_30, zl_64, zl_99, zl_100, zl_299, zl_300, zl_399, zl_999, zl_9999, zl_m1, zl_m2, zl_m3, zl_32, zl_280] at c5 c9 c11 c15 c16 ⊢); omega), if_neg (by (try simp only [zlt, zle, zeq, zl_0, zl_1, zl_2, zl_3, zl_4, zl_5, zl_6, zl_7, zl_8, zl_9, zl_10, zl_11, zl_12, zl_13, zl_19, zl_20, zl_30, zl_64, zl_99, zl_100, zl_299, zl_300, zl_399, zl_999, zl_9999, zl_m1, zl_m2, zl_m3, zl_32, zl_280] at c5 c9 c11 c15 c16 ⊢); omega), if_pos (by (try simp only [zlt, zle, zeq, zl_0, zl_1, zl_2, zl_3, zl_4, zl_5, zl_6, zl_7, zl_8, zl_9, zl_10, zl_11, zl_12, zl_13, zl_19, zl_20, zl_30, zl_64, zl_99, zl_100, zl_299, zl_300, zl_399, zl_999, zl_9999, zl_m1, zl_m2, zl_m3, zl_32, zl_280] at c5 c9 c11 c15 c16 ⊢); omega)]; first | done | ((try simp only [zlt, zle, zeq, zl_0, zl_1, zl_2, zl_3, zl_4, zl_5, zl_6, zl_7, zl_8, zl_9, zl_10, zl_11, zl_12, zl_13, zl_19, zl_20, zl_30, zl_64, zl_99, zl_100, zl_299, zl_300, zl_399, zl_999, zl_9999, zl_m1, zl_m2, zl_m3, zl_32, zl_280] at c5 c9 c11 c15 c16 ⊢); omega)) | (rw [if_neg (by (try simp only [zlt, zle, zeq, zl_0, zl_1, zl_2, zl_3, zl_4, zl_5, zl_6, zl_7, zl_8, zl_9, zl_10, zl_11, zl_12, zl_13, zl_19, zl_20, zl_30, zl_64, zl_99, zl_100, zl_299, zl_300, zl_399, zl_999, zl_9999, zl_m1, zl_m2, zl_m3, zl_32, zl_280] at c5 c9 c11 c15 c16 ⊢); omega), if_neg (by (try simp only [zlt, zle, zeq, zl_0, zl_1, zl_2, zl_3, zl_4, zl_5, zl_6, zl_7, zl_8, zl_9, zl_10, zl_11, zl_12, zl_13, zl_19, zl_20, zl_30, zl_64, zl_99, zl_100, zl_299, zl_300, zl_399, zl_999, zl_9999, zl_m1, zl_m2, zl_m3, zl_32, zl_280] at c5 c9 c11 c15 c16 ⊢); omega), if_neg (by (try simp only [zlt, zle, zeq, zl_0, zl_1, zl_2, zl_3, zl_4, zl_5, zl_6, zl_7, zl_8, zl_9, zl_10, zl_11, zl_12, zl_13, zl_19, zl_20, zl_30, zl_64, zl_99, zl_100, zl_299, zl_300, zl_399, zl_999, zl_9999, zl_m1, zl_m2, zl_m3, zl_32, zl_280] at c5 c9 c11 c15 c16 ⊢); omega), if_pos (by (try simp only [zlt, zle, zeq, zl_0, zl_1, zl_2, zl_3, zl_4, zl_5, zl_6, zl_7, zl_8, zl_9, zl_10, zl_11, zl_12, zl_13, zl_19, zl_20, zl_30, zl_64, zl_99, zl_100, zl_299, zl_300, zl_399, zl_999, zl_9999, zl_m1, zl_m2, zl_m3, zl_32, zl_280] at c5 c9 c11 c15 c16 ⊢); omega)]; first | done | ((try simp only [zlt, zle, zeq, zl_0, zl_1, zl_2, zl_3, zl_4, zl_5, zl_6, zl_7, zl_8, zl_9, zl_10, zl_11, zl_12, zl_13, zl_19, zl_20, zl_30, zl_64, zl_99, zl_100, zl_299, zl_300, zl_399, zl_999, zl_9999, zl_m1, zl_m2, zl_m3, zl_32, zl_280] at c5 c9 c11 c15 c16 ⊢); omega)) | (rw [if_neg (by (try simp only [zlt, zle, zeq, zl_0, zl_1, zl_2, zl_3, zl_4, zl_5, zl_6, zl_7, zl_8, zl_9, zl_10, zl_11, zl_12, zl_13, zl_19, zl_20, zl_30, zl_64, zl_99, zl_100, zl_299, zl_300, zl_399, zl_999, zl_9999, zl_m1, zl_m2, zl_m3, zl_32, zl_280] at c5 c9 c11 c15 c16 ⊢); omega), if_neg (by (try simp only [zlt, zle, zeq, zl_0, zl_1, zl_2, zl_3, zl_4, zl_5, zl_6, zl_7, zl_8, zl_9, zl_10, zl_11, zl_12, zl_13, zl_19, zl_20, zl_30, zl_64, zl_99, zl_100, zl_299, zl_300, zl_399, zl_999, zl_9999, zl_m1, zl_m2, zl_m3, zl_32, zl_280] at c5 c9 c11 c15 c16 ⊢); omega), if_neg (by (try simp only [zlt, zle, zeq, zl_0, zl_1, zl_2, zl_3, zl_4, zl_5, zl_6, zl_7, zl_8, zl_9, zl_10, zl_11, zl_12, zl_13, zl_19, zl_20, zl_30, zl_64, zl_99, zl_100, zl_299, zl_300, zl_399, zl_999, zl_9999, zl_m1, zl_m2, zl_m3, zl_32, zl_280] at c5 c9 c11 c15 c16 ⊢); omega), if_neg (by (try simp only [zlt, zle, zeq, zl_0, zl_1, zl_2, zl_3, zl_4, zl_5, zl_6, zl_7, zl_8, zl_9, zl_10, zl_11, zl_12, zl_13, zl_19, zl_20, zl_30, zl_64, zl_99, zl_100, zl_299, zl_300, zl_399, zl_999, zl_9999, zl_m1, zl_m2, zl_m3, zl_32, zl_280] at c5 c9 c11 c15 c16 ⊢); omega)]; first | done | ((try simp only [zlt, zle, zeq, zl_0, zl_1, zl_2, zl_3, zl_4, zl_5, zl_6, zl_7, zl_8, zl_9, zl_10, zl_11, zl_12, zl_13, zl_19, zl_20, zl_30, zl_64, zl_99, zl_100, zl_299, zl_300, zl_399, zl_999, zl_9999, zl_m1, zl_m2, zl_m3, zl_32, zl_280] at c5 c9 c11 c15 c16 ⊢); omega)))) dX12_about_90 (Nat.le_of_ble_eq_true rfl) (Nat.le_of_ble_eq_true rfl)
      · skip
        refine lv_aload_n hx hb dX12_about_66 rfl (lv_at hl 0 rfl) ?_
        refine z_get Z i_X12 hP 0 rfl rfl 0 (by decide) bw_1019 rfl dX12_about_67 ?_
        refine lv_iload_n hx hb dX12_about_70 rfl (lv_at hl 1 rfl) ?_
        refine z_iald Z hP 1 0 rfl rfl (vin (by decide)) dX12_about_71 ?_
        refine z_topi (y := 0) rfl ?_
        refine lv_goto (tgt := 90) hx hb dX12_about_72 (by decide) ?_
        exact z_ret Z rfl hP hD hS ((by first | rfl | assumption | (rw [if_pos (by (try simp only [zlt, zle, zeq, zl_0, zl_1, zl_2, zl_3, zl_4, zl_5, zl_6, zl_7, zl_8, zl_9, zl_10, zl_11, zl_12, zl_13, zl_19, zl_20, zl_30, zl_64, zl_99, zl_100, zl_299, zl_300, zl_399, zl_999, zl_9999, zl_m1, zl_m2, zl_m3, zl_32, zl_280] at c5 c9 c11 c15 c16 ⊢); omega)]; first | done | ((try simp only [zlt, zle, zeq, zl_0, zl_1, zl_2, zl_3, zl_4, zl_5, zl_6, zl_7, zl_8, zl_9, zl_10, zl_11, zl_12, zl_13, zl_19, zl_20, zl_30, zl_64, zl_99, zl_100, zl_299, zl_300, zl_399, zl_999, zl_9999, zl_m1, zl_m2, zl_m3, zl_32, zl_280] at c5 c9 c11 c15 c16 ⊢); omega)) | (rw [if_neg (by (try simp only [zlt, zle, zeq, zl_0, zl_1, zl_2, zl_3, zl_4, zl_5, zl_6, zl_7, zl_8, zl_9, zl_10, zl_11, zl_12, zl_13, zl_19, zl_20, zl_30, zl_64, zl_99, zl_100, zl_299, zl_300, zl_399, zl_999, zl_9999, zl_m1, zl_m2, zl_m3, zl_32, zl_280] at c5 c9 c11 c15 c16 ⊢); omega), if_pos (by (try simp only [zlt, zle, zeq, zl_0, zl_1, zl_2, zl_3, zl_4, zl_5, zl_6, zl_7, zl_8, zl_9, zl_10, zl_11, zl_12, zl_13, zl_19, zl_20, zl_30, zl_64, zl_99, zl_100, zl_299, zl_300, zl_399, zl_999, zl_9999, zl_m1, zl_m2, zl_m3, zl_32, zl_280] at c5 c9 c11 c15 c16 ⊢); omega)]; first | done | ((try simp only [zlt, zle, zeq, zl_0, zl_1, zl_2, zl_3, zl_4, zl_5, zl_6, zl_7, zl_8, zl_9, zl_10, zl_11, zl_12, zl_13, zl_19, zl_20, zl_30, zl_64, zl_99, zl_100, zl_299, zl_300, zl_399, zl_999, zl_9999, zl_m1, zl_m2, zl_m3, zl_32, zl_280] at c5 c9 c11 c15 c16 ⊢); omega)) | (rw [if_neg (by (try simp only [zlt, zle, zeq, zl_0, zl_1, zl_2, zl_3, zl_4, zl_5, zl_6, zl_7, zl_8, zl_9, zl_10, zl_11, zl_12, zl_13, zl_19, zl_20, zl_30, zl_64, zl_99, zl_100, zl_299, zl_300, zl_399, zl_999, zl_9999, zl_m1, zl_m2, zl_m3, zl_32, zl_280] at c5 c9 c11 c15 c16 ⊢); omega), if_neg (by (try simp only [zlt, zle, zeq, zl_0, zl_1, zl_2, zl_3, zl_4, zl_5, zl_6, zl_7, zl_8, zl_9, zl_10, zl_11, zl_12, zl_13, zl_19, zl_20, zl_30, zl_64, zl_99, zl_100, zl_299, zl_300, zl_399, zl_999, zl_9999, zl_m1, zl_m2, zl_m3, zl_32, zl_280] at c5 c9 c11 c15 c16 ⊢); omega), if_pos (by (try simp only [zlt, zle, zeq, zl_0, zl_1, zl_2, zl_3, zl_4, zl_5, zl_6, zl_7, zl_8, zl_9, zl_10, zl_11, zl_12, zl_13, zl_19, zl_20, zl_30, zl_64, zl_99, zl_100, zl_299, zl_300, zl_399, zl_999, zl_9999, zl_m1, zl_m2, zl_m3, zl_32, zl_280] at c5 c9 c11 c15 c16 ⊢); omega)]; first | done | ((try simp only [zlt, zle, zeq, zl_0, zl_1, zl_2, zl_3, zl_4, zl_5, zl_6, zl_7, zl_8, zl_9, zl_10, zl_11, zl_12, zl_13, zl_19, zl_20, zl_30, zl_64, zl_99, zl_100, zl_299, zl_300, zl_399, zl_999, zl_9999, zl_m1, zl_m2, zl_m3, zl_32, zl_280] at c5 c9 c11 c15 c16 ⊢); omega)) | (rw [if_neg (by (try simp only [zlt, zle, zeq, zl_0, zl_1, zl_2, zl_3, zl_4, zl_5, zl_6, zl_7, zl_8, zl_9, zl_10, zl_11, zl_12, zl_13, zl_19, zl_20, zl_30, zl_64, zl_99, zl_100, zl_299, zl_300, zl_399, zl_999, zl_9999, zl_m1, zl_m2, zl_m3, zl_32, zl_280] at c5 c9 c11 c15 c16 ⊢); omega), if_neg (by (try simp only [zlt, zle, zeq, zl_0, zl_1, zl_2, zl_3, zl_4, zl_5, zl_6, zl_7, zl_8, zl_9, zl_10, zl_11, zl_12, zl_13, zl_19, zl_20, zl_30, zl_64, zl_99, zl_100, zl_299, zl_300, zl_399, zl_999, zl_9999, zl_m1, zl_m2, zl_m3, zl_32, zl_280] at c5 c9 c11 c15 c16 ⊢); omega), if_neg (by (try simp only [zlt, zle, zeq, zl_0, zl_1, zl_2, zl_3, zl_4, zl_5, zl_6, zl_7, zl_8, zl_9, zl_10, zl_11, zl_12, zl_13, zl_19, zl_20, zl_30, zl_64, zl_99, zl_100, zl_299, zl_300, zl_399, zl_999, zl_9999, zl_m1, zl_m2, zl_m3, zl_32, zl_280] at c5 c9 c11 c15 c16 ⊢); omega), if_pos (by (try simp only [zlt, zle, zeq, zl_0, zl_1, zl_2, zl_3, zl_4, zl_5, zl_6, zl_7, zl_8, zl_9, zl_10, zl_11, zl_12, zl_13, zl_19, zl_20, zl_30, zl_64, zl_99, zl_100, zl_299, zl_300, zl_399, zl_999, zl_9999, zl_m1, zl_m2, zl_m3, zl_32, zl_280] at c5 c9 c11 c15 c16 ⊢); omega)]; first | done | ((try simp only [zlt, zle, zeq, zl_0, zl_1, zl_2, zl_3, zl_4, zl_5, zl_6, zl_7, zl_8, zl_9, zl_10, zl_11, zl_12, zl_13, zl_19, zl_20, zl_30, zl_64, zl_99, zl_100, zl_299, zl_300, zl_399, zl_999, zl_9999, zl_m1, zl_m2, zl_m3, zl_32, zl_280] at c5 c9 c11 c15 c16 ⊢); omega)) | (rw [if_neg (by (try simp only [zlt, zle, zeq, zl_0, zl_1, zl_2, zl_3, zl_4, zl_5, zl_6, zl_7, zl_8, zl_9, zl_10, zl_11, zl_12, zl_13, zl_19, zl_20, zl_30, zl_64, zl_99, zl_100, zl_299, zl_300, zl_399, zl_999, zl_9999, zl_m1, zl_m2, zl_m3, zl_32, zl_280] at c5 c9 c11 c15 c16 ⊢); omega), if_neg (by (try simp only [zlt, zle, zeq, zl_0, zl_1, zl_2, zl_3, zl_4, zl_5, zl_6, zl_7, zl_8, zl_9, zl_10, zl_11, zl_12, zl_13, zl_19, zl_20, zl_30, zl_64, zl_99, zl_100, zl_299, zl_300, zl_399, zl_999, zl_9999, zl_m1, zl_m2, zl_m3, zl_32, zl_280] at c5 c9 c11 c15 c16 ⊢); omega), if_neg (by (try simp only [zlt, zle, zeq, zl_0, zl_1, zl_2, zl_3, zl_4, zl_5, zl_6, zl_7, zl_8, zl_9, zl_10, zl_11, zl_12, zl_13, zl_19, zl_20, zl_30, zl_64, zl_99, zl_100, zl_299, zl_300, zl_399, zl_999, zl_9999, zl_m1, zl_m2, zl_m3, zl_32, zl_280] at c5 c9 c11 c15 c16 ⊢); omega), if_neg (by (try simp only [zlt, zle, zeq, zl_0, zl_1, zl_2, zl_3, zl_4, zl_5, zl_6, zl_7, zl_8, zl_9, zl_10, zl_11, zl_12, zl_13, zl_19, zl_20, zl_30, zl_64, zl_99, zl_100, zl_299, zl_300, zl_399, zl_999, zl_9999, zl_m1, zl_m2, zl_m3, zl_32, zl_280] at c5 c9 c11 c15 c16 ⊢); omega)]; first | done | ((try simp only [zlt, zle, zeq, zl_0, zl_1, zl_2, zl_3, zl_4, zl_5, zl_6, zl_7, zl_8, zl_9, zl_10, zl_11, zl_12, zl_13, zl_19, zl_20, zl_30, zl_64, zl_99, zl_100, zl_299, zl_300, zl_399, zl_999, zl_9999, zl_m1, zl_m2, zl_m3, zl_32, zl_280] at c5 c9 c11 c15 c16 ⊢); omega)))) dX12_about_90 (Nat.le_of_ble_eq_true rfl) (Nat.le_of_ble_eq_true rfl)
      · skip
        refine lv_aload_n hx hb dX12_about_66 rfl (lv_at hl 0 rfl) ?_
        refine z_get Z i_X12 hP 0 rfl rfl 0 (by decide) bw_1019 rfl dX12_about_67 ?_
        refine lv_iload_n hx hb dX12_about_70 rfl (lv_at hl 1 rfl) ?_
        refine z_iald Z hP 1 0 rfl rfl (vin (by decide)) dX12_about_71 ?_
        refine z_topi (y := 0) rfl ?_
        refine lv_goto (tgt := 90) hx hb dX12_about_72 (by decide) ?_
        exact z_ret Z rfl hP hD hS ((by first | rfl | assumption | (rw [if_pos (by (try simp only [zlt, zle, zeq, zl_0, zl_1, zl_2, zl_3, zl_4, zl_5, zl_6, zl_7, zl_8, zl_9, zl_10, zl_11, zl_12, zl_13, zl_19, zl_20, zl_30, zl_64, zl_99, zl_100, zl_299, zl_300, zl_399, zl_999, zl_9999, zl_m1, zl_m2, zl_m3, zl_32, zl_280] at c5 c9 c11 c15 c16 ⊢); omega)]; first | done | ((try simp only [zlt, zle, zeq, zl_0, zl_1, zl_2, zl_3, zl_4, zl_5, zl_6, zl_7, zl_8, zl_9, zl_10, zl_11, zl_12, zl_13, zl_19, zl_20, zl_30, zl_64, zl_99, zl_100, zl_299, zl_300, zl_399, zl_999, zl_9999, zl_m1, zl_m2, zl_m3, zl_32, zl_280] at c5 c9 c11 c15 c16 ⊢); omega)) | (rw [if_neg (by (try simp only [zlt, zle, zeq, zl_0, zl_1, zl_2, zl_3, zl_4, zl_5, zl_6, zl_7, zl_8, zl_9, zl_10, zl_11, zl_12, zl_13, zl_19, zl_20, zl_30, zl_64, zl_99, zl_100, zl_299, zl_300, zl_399, zl_999, zl_9999, zl_m1, zl_m2, zl_m3, zl_32, zl_280] at c5 c9 c11 c15 c16 ⊢); omega), if_pos (by (try simp only [zlt, zle, zeq, zl_0, zl_1, zl_2, zl_3, zl_4, zl_5, zl_6, zl_7, zl_8, zl_9, zl_10, zl_11, zl_12, zl_13, zl_19, zl_20, zl_30, zl_64, zl_99, zl_100, zl_299, zl_300, zl_399, zl_999, zl_9999, zl_m1, zl_m2, zl_m3, zl_32, zl_280] at c5 c9 c11 c15 c16 ⊢); omega)]; first | done | ((try simp only [zlt, zle, zeq, zl_0, zl_1, zl_2, zl_3, zl_4, zl_5, zl_6, zl_7, zl_8, zl_9, zl_10, zl_11, zl_12, zl_13, zl_19, zl_20, zl_30, zl_64, zl_99, zl_100, zl_299, zl_300, zl_399, zl_999, zl_9999, zl_m1, zl_m2, zl_m3, zl_32, zl_280] at c5 c9 c11 c15 c16 ⊢); omega)) | (rw [if_neg (by (try simp only [zlt, zle, zeq, zl_0, zl_1, zl_2, zl_3, zl_4, zl_5, zl_6, zl_7, zl_8, zl_9, zl_10, zl_11, zl_12, zl_13, zl_19, zl_20, zl_30, zl_64, zl_99, zl_100, zl_299, zl_300, zl_399, zl_999, zl_9999, zl_m1, zl_m2, zl_m3, zl_32, zl_280] at c5 c9 c11 c15 c16 ⊢); omega), if_neg (by (try simp only [zlt, zle, zeq, zl_0, zl_1, zl_2, zl_3, zl_4, zl_5, zl_6, zl_7, zl_8, zl_9, zl_10, zl_11, zl_12, zl_13, zl_19, zl_20, zl_30, zl_64, zl_99, zl_100, zl_299, zl_300, zl_399, zl_999, zl_9999, zl_m1, zl_m2, zl_m3, zl_32, zl_280] at c5 c9 c11 c15 c16 ⊢); omega), if_pos (by (try simp only [zlt, zle, zeq, zl_0, zl_1, zl_2, zl_3, zl_4, zl_5, zl_6, zl_7, zl_8, zl_9, zl_10, zl_11, zl_12, zl_13, zl_19, zl_20, zl_30, zl_64, zl_99, zl_100, zl_299, zl_300, zl_399, zl_999, zl_9999, zl_m1, zl_m2, zl_m3, zl_32, zl_280] at c5 c9 c11 c15 c16 ⊢); omega)]; first | done | ((try simp only [zlt, zle, zeq, zl_0, zl_1, zl_2, zl_3, zl_4, zl_5, zl_6, zl_7, zl_8, zl_9, zl_10, zl_11, zl_12, zl_13, zl_19, zl_20, zl_30, zl_64, zl_99, zl_100, zl_299, zl_300, zl_399, zl_999, zl_9999, zl_m1, zl_m2, zl_m3, zl_32, zl_280] at c5 c9 c11 c15 c16 ⊢); omega)) | (rw [if_neg (by (try simp only [zlt, zle, zeq, zl_0, zl_1, zl_2, zl_3, zl_4, zl_5, zl_6, zl_7, zl_8, zl_9, zl_10, zl_11, zl_12, zl_13, zl_19, zl_20, zl_30, zl_64, zl_99, zl_100, zl_299, zl_300, zl_399, zl_999, zl_9999, zl_m1, zl_m2, zl_m3, zl_32, zl_280] at c5 c9 c11 c15 c16 ⊢); omega), if_neg (by (try simp only [zlt, zle, zeq, zl_0, zl_1, zl_2, zl_3, zl_4, zl_5, zl_6, zl_7, zl_8, zl_9, zl_10, zl_11, zl_12, zl_13, zl_19, zl_20, zl_30, zl_64, zl_99, zl_100, zl_299, zl_300, zl_399, zl_999, zl_9999, zl_m1, zl_m2, zl_m3, zl_32, zl_280] at c5 c9 c11 c15 c16 ⊢); omega), if_neg (by (try simp only [zlt, zle, zeq, zl_0, zl_1, zl_2, zl_3, zl_4, zl_5, zl_6, zl_7, zl_8, zl_9, zl_10, zl_11, zl_12, zl_13, zl_19, zl_20, zl_30, zl_64, zl_99, zl_100, zl_299, zl_300, zl_399, zl_999, zl_9999, zl_m1, zl_m2, zl_m3, zl_32, zl_280] at c5 c9 c11 c15 c16 ⊢); omega), if_pos (by (try simp only [zlt, zle, zeq, zl_0, zl_1, zl_2, zl_3, zl_4, zl_5, zl_6, zl_7, zl_8, zl_9, zl_10, zl_11, zl_12, zl_13, zl_19, zl_20, zl_30, zl_64, zl_99, zl_100, zl_299, zl_300, zl_399, zl_999, zl_9999, zl_m1, zl_m2, zl_m3, zl_32, zl_280] at c5 c9 c11 c15 c16 ⊢); omega)]; first | done | ((try simp only [zlt, zle, zeq, zl_0, zl_1, zl_2, zl_3, zl_4, zl_5, zl_6, zl_7, zl_8, zl_9, zl_10, zl_11, zl_12, zl_13, zl_19, zl_20, zl_30, zl_64, zl_99, zl_100, zl_299, zl_300, zl_399, zl_999, zl_9999, zl_m1, zl_m2, zl_m3, zl_32, zl_280] at c5 c9 c11 c15 c16 ⊢); omega)) | (rw [if_neg (by (try simp only [zlt, zle, zeq, zl_0, zl_1, zl_2, zl_3, zl_4, zl_5, zl_6, zl_7, zl_8, zl_9, zl_10, zl_11, zl_12, zl_13, zl_19, zl_20, zl_30, zl_64, zl_99, zl_100, zl_299, zl_300, zl_399, zl_999, zl_9999, zl_m1, zl_m2, zl_m3, zl_32, zl_280] at c5 c9 c11 c15 c16 ⊢); omega), if_neg (by (try simp only [zlt, zle, zeq, zl_0, zl_1, zl_2, zl_3, zl_4, zl_5, zl_6, zl_7, zl_8, zl_9, zl_10, zl_11, zl_12, zl_13, zl_19, zl_20, zl_30, zl_64, zl_99, zl_100, zl_299, zl_300, zl_399, zl_999, zl_9999, zl_m1, zl_m2, zl_m3, zl_32, zl_280] at c5 c9 c11 c15 c16 ⊢); omega), if_neg (by (try simp only [zlt, zle, zeq, zl_0, zl_1, zl_2, zl_3, zl_4, zl_5, zl_6, zl_7, zl_8, zl_9, zl_10, zl_11, zl_12, zl_13, zl_19, zl_20, zl_30, zl_64, zl_99, zl_100, zl_299, zl_300, zl_399, zl_999, zl_9999, zl_m1, zl_m2, zl_m3, zl_32, zl_280] at c5 c9 c11 c15 c16 ⊢); omega), if_neg (by (try simp only [zlt, zle, zeq, zl_0, zl_1, zl_2, zl_3, zl_4, zl_5, zl_6, zl_7, zl_8, zl_9, zl_10, zl_11, zl_12, zl_13, zl_19, zl_20, zl_30, zl_64, zl_99, zl_100, zl_299, zl_300, zl_399, zl_999, zl_9999, zl_m1, zl_m2, zl_m3, zl_32, zl_280] at c5 c9 c11 c15 c16 ⊢); omega)]; first | done | ((try simp only [zlt, zle, zeq, zl_0, zl_1, zl_2, zl_3, zl_4, zl_5, zl_6, zl_7, zl_8, zl_9, zl_10, zl_11, zl_12, zl_13, zl_19, zl_20, zl_30, zl_64, zl_99, zl_100, zl_299, zl_300, zl_399, zl_999, zl_9999, zl_m1, zl_m2, zl_m3, zl_32, zl_280] at c5 c9 c11 c15 c16 ⊢); omega)))) dX12_about_90 (Nat.le_of_ble_eq_true rfl) (Nat.le_of_ble_eq_true rfl)
      · skip
        refine lv_aload_n hx hb dX12_about_66 rfl (lv_at hl 0 rfl) ?_
        refine z_get Z i_X12 hP 0 rfl rfl 0 (by decide) bw_1019 rfl dX12_about_67 ?_
        refine lv_iload_n hx hb dX12_about_70 rfl (lv_at hl 1 rfl) ?_
        refine z_iald Z hP 1 0 rfl rfl (vin (by decide)) dX12_about_71 ?_
        refine z_topi (y := 0) rfl ?_
        refine lv_goto (tgt := 90) hx hb dX12_about_72 (by decide) ?_
        exact z_ret Z rfl hP hD hS ((by first | rfl | assumption | (rw [if_pos (by (try simp only [zlt, zle, zeq, zl_0, zl_1, zl_2, zl_3, zl_4, zl_5, zl_6, zl_7, zl_8, zl_9, zl_10, zl_11, zl_12, zl_13, zl_19, zl_20, zl_30, zl_64, zl_99, zl_100, zl_299, zl_300, zl_399, zl_999, zl_9999, zl_m1, zl_m2, zl_m3, zl_32, zl_280] at c5 c9 c11 c15 c16 ⊢); omega)]; first | done | ((try simp only [zlt, zle, zeq, zl_0, zl_1, zl_2, zl_3, zl_4, zl_5, zl_6, zl_7, zl_8, zl_9, zl_10, zl_11, zl_12, zl_13, zl_19, zl_20, zl_30, zl_64, zl_99, zl_100, zl_299, zl_300, zl_399, zl_999, zl_9999, zl_m1, zl_m2, zl_m3, zl_32, zl_280] at c5 c9 c11 c15 c16 ⊢); omega)) | (rw [if_neg (by (try simp only [zlt, zle, zeq, zl_0, zl_1, zl_2, zl_3, zl_4, zl_5, zl_6, zl_7, zl_8, zl_9, zl_10, zl_11, zl_12, zl_13, zl_19, zl_20, zl_30, zl_64, zl_99, zl_100, zl_299, zl_300, zl_399, zl_999, zl_9999, zl_m1, zl_m2, zl_m3, zl_32, zl_280] at c5 c9 c11 c15 c16 ⊢); omega), if_pos (by (try simp only [zlt, zle, zeq, zl_0, zl_1, zl_2, zl_3, zl_4, zl_5, zl_6, zl_7, zl_8, zl_9, zl_10, zl_11, zl_12, zl_13, zl_19, zl_20, zl_30, zl_64, zl_99, zl_100, zl_299, zl_300, zl_399, zl_999, zl_9999, zl_m1, zl_m2, zl_m3, zl_32, zl_280] at c5 c9 c11 c15 c16 ⊢); omega)]; first | done | ((try simp only [zlt, zle, zeq, zl_0, zl_1, zl_2, zl_3, zl_4, zl_5, zl_6, zl_7, zl_8, zl_9, zl_10, zl_11, zl_12, zl_13, zl_19, zl_20, zl_30, zl_64, zl_99, zl_100, zl_299, zl_300, zl_399, zl_999, zl_9999, zl_m1, zl_m2, zl_m3, zl_32, zl_280] at c5 c9 c11 c15 c16 ⊢); omega)) | (rw [if_neg (by (try simp only [zlt, zle, zeq, zl_0, zl_1, zl_2, zl_3, zl_4, zl_5, zl_6, zl_7, zl_8, zl_9, zl_10, zl_11, zl_12, zl_13, zl_19, zl_20, zl_30, zl_64, zl_99, zl_100, zl_299, zl_300, zl_399, zl_999, zl_9999, zl_m1, zl_m2, zl_m3, zl_32, zl_280] at c5 c9 c11 c15 c16 ⊢); omega), if_neg (by (try simp only [zlt, zle, zeq, zl_0, zl_1, zl_2, zl_3, zl_4, zl_5, zl_6, zl_7, zl_8, zl_9, zl_10, zl_11, zl_12, zl_13, zl_19, zl_20, zl_30, zl_64, zl_99, zl_100, zl_299, zl_300, zl_399, zl_999, zl_9999, zl_m1, zl_m2, zl_m3, zl_32, zl_280] at c5 c9 c11 c15 c16 ⊢); omega), if_pos (by (try simp only [zlt, zle, zeq, zl_0, zl_1, zl_2, zl_3, zl_4, zl_5, zl_6, zl_7, zl_8, zl_9, zl_10, zl_11, zl_12, zl_13, zl_19, zl_20, zl_30, zl_64, zl_99, zl_100, zl_299, zl_300, zl_399, zl_999, zl_9999, zl_m1, zl_m2, zl_m3, zl_32, zl_280] at c5 c9 c11 c15 c16 ⊢); omega)]; first | done | ((try simp only [zlt, zle, zeq, zl_0, zl_1, zl_2, zl_3, zl_4, zl_5, zl_6, zl_7, zl_8, zl_9, zl_10, zl_11, zl_12, zl_13, zl_19, zl_20, zl_30, zl_64, zl_99, zl_100, zl_299, zl_300, zl_399, zl_999, zl_9999, zl_m1, zl_m2, zl_m3, zl_32, zl_280] at c5 c9 c11 c15 c16 ⊢); omega)) | (rw [if_neg (by (try simp only [zlt, zle, zeq, zl_0, zl_1, zl_2, zl_3, zl_4, zl_5, zl_6, zl_7, zl_8, zl_9, zl_10, zl_11, zl_12, zl_13, zl_19, zl_20, zl_30, zl_64, zl_99, zl_100, zl_299, zl_300, zl_399, zl_999, zl_9999, zl_m1, zl_m2, zl_m3, zl_32, zl_280] at c5 c9 c11 c15 c16 ⊢); omega), if_neg (by (try simp only [zlt, zle, zeq, zl_0, zl_1, zl_2, zl_3, zl_4, zl_5, zl_6, zl_7, zl_8, zl_9, zl_10, zl_11, zl_12, zl_13, zl_19, zl_20, zl_30, zl_64, zl_99, zl_100, zl_299, zl_300, zl_399, zl_999, zl_9999, zl_m1, zl_m2, zl_m3, zl_32, zl_280] at c5 c9 c11 c15 c16 ⊢); omega), if_neg (by (try simp only [zlt, zle, zeq, zl_0, zl_1, zl_2, zl_3, zl_4, zl_5, zl_6, zl_7, zl_8, zl_9, zl_10, zl_11, zl_12, zl_13, zl_19, zl_20, zl_30, zl_64, zl_99, zl_100, zl_299, zl_300, zl_399, zl_999, zl_9999, zl_m1, zl_m2, zl_m3, zl_32, zl_280] at c5 c9 c11 c15 c16 ⊢); omega), if_pos (by (try simp only [zlt, zle, zeq, zl_0, zl_1, zl_2, zl_3, zl_4, zl_5, zl_6, zl_7, zl_8, zl_9, zl_10, zl_11, zl_12, zl_13, zl_19, zl_20, zl_30, zl_64, zl_99, zl_100, zl_299, zl_300, zl_399, zl_999, zl_9999, zl_m1, zl_m2, zl_m3, zl_32, zl_280] at c5 c9 c11 c15 c16 ⊢); omega)]; first | done | ((try simp only [zlt, zle, zeq, zl_0, zl_1, zl_2, zl_3, zl_4, zl_5, zl_6, zl_7, zl_8, zl_9, zl_10, zl_11, zl_12, zl_13, zl_19, zl_20, zl_30, zl_64, zl_99, zl_100, zl_299, zl_300, zl_399, zl_999, zl_9999, zl_m1, zl_m2, zl_m3, zl_32, zl_280] at c5 c9 c11 c15 c16 ⊢); omega)) | (rw [if_neg (by (try simp only [zlt, zle, zeq, zl_0, zl_1, zl_2, zl_3, zl_4, zl_5, zl_6, zl_7, zl_8, zl_9, zl_10, zl_11, zl_12, zl_13, zl_19, zl_20, zl_30, zl_64, zl_99, zl_100, zl_299, zl_300, zl_399, zl_999, zl_9999, zl_m1, zl_m2, zl_m3, zl_32, zl_280] at c5 c9 c11 c15 c16 ⊢); omega), if_neg (by (try simp only [zlt, zle, zeq, zl_0, zl_1, zl_2, zl_3, zl_4, zl_5, zl_6, zl_7, zl_8, zl_9, zl_10, zl_11, zl_12, zl_13, zl_19, zl_20, zl_30, zl_64, zl_99, zl_100, zl_299, zl_300, zl_399, zl_999, zl_9999, zl_m1, zl_m2, zl_m3, zl_32, zl_280] at c5 c9 c11 c15 c16 ⊢); omega), if_neg (by (try simp only [zlt, zle, zeq, zl_0, zl_1, zl_2, zl_3, zl_4, zl_5, zl_6, zl_7, zl_8, zl_9, zl_10, zl_11, zl_12, zl_13, zl_19, zl_20, zl_30, zl_64, zl_99, zl_100, zl_299, zl_300, zl_399, zl_999, zl_9999, zl_m1, zl_m2, zl_m3, zl_32, zl_280] at c5 c9 c11 c15 c16 ⊢); omega), if_neg (by (try simp only [zlt, zle, zeq, zl_0, zl_1, zl_2, zl_3, zl_4, zl_5, zl_6, zl_7, zl_8, zl_9, zl_10, zl_11, zl_12, zl_13, zl_19, zl_20, zl_30, zl_64, zl_99, zl_100, zl_299, zl_300, zl_399, zl_999, zl_9999, zl_m1, zl_m2, zl_m3, zl_32, zl_280] at c5 c9 c11 c15 c16 ⊢); omega)]; first | done | ((try simp only [zlt, zle, zeq, zl_0, zl_1, zl_2, zl_3, zl_4, zl_5, zl_6, zl_7, zl_8, zl_9, zl_10, zl_11, zl_12, zl_13, zl_19, zl_20, zl_30, zl_64, zl_99, zl_100, zl_299, zl_300, zl_399, zl_999, zl_9999, zl_m1, zl_m2, zl_m3, zl_32, zl_280] at c5 c9 c11 c15 c16 ⊢); omega)))) dX12_about_90 (Nat.le_of_ble_eq_true rfl) (Nat.le_of_ble_eq_true rfl)
      · skip
        refine lv_aload_n hx hb dX12_about_66 rfl (lv_at hl 0 rfl) ?_
        refine z_get Z i_X12 hP 0 rfl rfl 0 (by decide) bw_1019 rfl dX12_about_67 ?_
        refine lv_iload_n hx hb dX12_about_70 rfl (lv_at hl 1 rfl) ?_
        refine z_iald Z hP 1 0 rfl rfl (vin (by decide)) dX12_about_71 ?_
        refine z_topi (y := 0) rfl ?_
        refine lv_goto (tgt := 90) hx hb dX12_about_72 (by decide) ?_
        exact z_ret Z rfl hP hD hS ((by first | rfl | assumption | (rw [if_pos (by (try simp only [zlt, zle, zeq, zl_0, zl_1, zl_2, zl_3, zl_4, zl_5, zl_6, zl_7, zl_8, zl_9, zl_10, zl_11, zl_12, zl_13, zl_19, zl_20, zl_30, zl_64, zl_99, zl_100, zl_299, zl_300, zl_399, zl_999, zl_9999, zl_m1, zl_m2, zl_m3, zl_32, zl_280] at c5 c9 c11 c15 c16 ⊢); omega)]; first | done | ((try simp only [zlt, zle, zeq, zl_0, zl_1, zl_2, zl_3, zl_4, zl_5, zl_6, zl_7, zl_8, zl_9, zl_10, zl_11, zl_12, zl_13, zl_19, zl_20, zl_30, zl_64, zl_99, zl_100, zl_299, zl_300, zl_399, zl_999, zl_9999, zl_m1, zl_m2, zl_m3, zl_32, zl_280] at c5 c9 c11 c15 c16 ⊢); omega)) | (rw [if_neg (by (try simp only [zlt, zle, zeq, zl_0, zl_1, zl_2, zl_3, zl_4, zl_5, zl_6, zl_7, zl_8, zl_9, zl_10, zl_11, zl_12, zl_13, zl_19, zl_20, zl_30, zl_64, zl_99, zl_100, zl_299, zl_300, zl_399, zl_999, zl_9999, zl_m1, zl_m2, zl_m3, zl_32, zl_280] at c5 c9 c11 c15 c16 ⊢); omega), if_pos (by (try simp only [zlt, zle, zeq, zl_0, zl_1, zl_2, zl_3, zl_4, zl_5, zl_6, zl_7, zl_8, zl_9, zl_10, zl_11, zl_12, zl_13, zl_19, zl_20, zl_30, zl_64, zl_99, zl_100, zl_299, zl_300, zl_399, zl_999, zl_9999, zl_m1, zl_m2, zl_m3, zl_32, zl_280] at c5 c9 c11 c15 c16 ⊢); omega)]; first | done | ((try simp only [zlt, zle, zeq, zl_0, zl_1, zl_2, zl_3, zl_4, zl_5, zl_6, zl_7, zl_8, zl_9, zl_10, zl_11, zl_12, zl_13, zl_19, zl_20, zl_30, zl_64, zl_99, zl_100, zl_299, zl_300, zl_399, zl_999, zl_9999, zl_m1, zl_m2, zl_m3, zl_32, zl_280] at c5 c9 c11 c15 c16 ⊢); omega)) | (rw [if_neg (by (try simp only [zlt, zle, zeq, zl_0, zl_1, zl_2, zl_3, zl_4, zl_5, zl_6, zl_7, zl_8, zl_9, zl_10, zl_11, zl_12, zl_13, zl_19, zl_20, zl_30, zl_64, zl_99, zl_100, zl_299, zl_300, zl_399, zl_999, zl_9999, zl_m1, zl_m2, zl_m3, zl_32, zl_280] at c5 c9 c11 c15 c16 ⊢); omega), if_neg (by (try simp only [zlt, zle, zeq, zl_0, zl_1, zl_2, zl_3, zl_4, zl_5, zl_6, zl_7, zl_8, zl_9, zl_10, zl_11, zl_12, zl_13, zl_19, zl_20, zl_30, zl_64, zl_99, zl_100, zl_299, zl_300, zl_399, zl_999, zl_9999, zl_m1, zl_m2, zl_m3, zl_32, zl_280] at c5 c9 c11 c15 c16 ⊢); omega), if_pos (by (try simp only [zlt, zle, zeq, zl_0, zl_1, zl_2, zl_3, zl_4, zl_5, zl_6, zl_7, zl_8, zl_9, zl_10, zl_11, zl_12, zl_13, zl_19, zl_20, zl_30, zl_64, zl_99, zl_100, zl_299, zl_300, zl_399, zl_999, zl_9999, zl_m1, zl_m2, zl_m3, zl_32, zl_280] at c5 c9 c11 c15 c16 ⊢); omega)]; first | done | ((try simp only [zlt, zle, zeq, zl_0, zl_1, zl_2, zl_3, zl_4, zl_5, zl_6, zl_7, zl_8, zl_9, zl_10, zl_11, zl_12, zl_13, zl_19, zl_20, zl_30, zl_64, zl_99, zl_100, zl_299, zl_300, zl_399, zl_999, zl_9999, zl_m1, zl_m2, zl_m3, zl_32, zl_280] at c5 c9 c11 c15 c16 ⊢); omega)) | (rw [if_neg (by (try simp only [zlt, zle, zeq, zl_0, zl_1, zl_2, zl_3, zl_4, zl_5, zl_6, zl_7, zl_8, zl_9, zl_10, zl_11, zl_12, zl_13, zl_19, zl_20, zl_30, zl_64, zl_99, zl_100, zl_299, zl_300, zl_399, zl_999, zl_9999, zl_m1, zl_m2, zl_m3, zl_32, zl_280] at c5 c9 c11 c15 c16 ⊢); omega), if_neg (by (try simp only [zlt, zle, zeq, zl_0, zl_1, zl_2, zl_3, zl_4, zl_5, zl_6, zl_7, zl_8, zl_9, zl_10, zl_11, zl_12, zl_13, zl_19, zl_20, zl_30, zl_64, zl_99, zl_100, zl_299, zl_300, zl_399, zl_999, zl_9999, zl_m1, zl_m2, zl_m3, zl_32, zl_280] at c5 c9 c11 c15 c16 ⊢); omega), if_neg (by (try simp only [zlt, zle, zeq, zl_0, zl_1, zl_2, zl_3, zl_4, zl_5, zl_6, zl_7, zl_8, zl_9, zl_10, zl_11, zl_12, zl_13, zl_19, zl_20, zl_30, zl_64, zl_99, zl_100, zl_299, zl_300, zl_399, zl_999, zl_9999, zl_m1, zl_m2, zl_m3, zl_32, zl_280] at c5 c9 c11 c15 c16 ⊢); omega), if_pos (by (try simp only [zlt, zle, zeq, zl_0, zl_1, zl_2, zl_3, zl_4, zl_5, zl_6, zl_7, zl_8, zl_9, zl_10, zl_11, zl_12, zl_13, zl_19, zl_20, zl_30, zl_64, zl_99, zl_100, zl_299, zl_300, zl_399, zl_999, zl_9999, zl_m1, zl_m2, zl_m3, zl_32, zl_280] at c5 c9 c11 c15 c16 ⊢); omega)]; first | done | ((try simp only [zlt, zle, zeq, zl_0, zl_1, zl_2, zl_3, zl_4, zl_5, zl_6, zl_7, zl_8, zl_9, zl_10, zl_11, zl_12, zl_13, zl_19, zl_20, zl_30, zl_64, zl_99, zl_100, zl_299, zl_300, zl_399, zl_999, zl_9999, zl_m1, zl_m2, zl_m3, zl_32, zl_280] at c5 c9 c11 c15 c16 ⊢); omega)) | (rw [if_neg (by (try simp only [zlt, zle, zeq, zl_0, zl_1, zl_2, zl_3, zl_4, zl_5, zl_6, zl_7, zl_8, zl_9, zl_10, zl_11, zl_12, zl_13, zl_19, zl_20, zl_30, zl_64, zl_99, zl_100, zl_299, zl_300, zl_399, zl_999, zl_9999, zl_m1, zl_m2, zl_m3, zl_32, zl_280] at c5 c9 c11 c15 c16 ⊢); omega), if_neg (by (try simp only [zlt, zle, zeq, zl_0, zl_1, zl_2, zl_3, zl_4, zl_5, zl_6, zl_7, zl_8, zl_9, zl_10, zl_11, zl_12, zl_13, zl_19, zl_20, zl_30, zl_64, zl_99, zl_100, zl_299, zl_300, zl_399, zl_999, zl_9999, zl_m1, zl_m2, zl_m3, zl_32, zl_280] at c5 c9 c11 c15 c16 ⊢); omega), if_neg (by (try simp only [zlt, zle, zeq, zl_0, zl_1, zl_2, zl_3, zl_4, zl_5, zl_6, zl_7, zl_8, zl_9, zl_10, zl_11, zl_12, zl_13, zl_19, zl_20, zl_30, zl_64, zl_99, zl_100, zl_299, zl_300, zl_399, zl_999, zl_9999, zl_m1, zl_m2, zl_m3, zl_32, zl_280] at c5 c9 c11 c15 c16 ⊢); omega), if_neg (by (try simp only [zlt, zle, zeq, zl_0, zl_1, zl_2, zl_3, zl_4, zl_5, zl_6, zl_7, zl_8, zl_9, zl_10, zl_11, zl_12, zl_13, zl_19, zl_20, zl_30, zl_64, zl_99, zl_100, zl_299, zl_300, zl_399, zl_999, zl_9999, zl_m1, zl_m2, zl_m3, zl_32, zl_280] at c5 c9 c11 c15 c16 ⊢); omega)]; first | done | ((try simp only [zlt, zle, zeq, zl_0, zl_1, zl_2, zl_3, zl_4, zl_5, zl_6, zl_7, zl_8, zl_9, zl_10, zl_11, zl_12, zl_13, zl_19, zl_20, zl_30, zl_64, zl_99, zl_100, zl_299, zl_300, zl_399, zl_999, zl_9999, zl_m1, zl_m2, zl_m3, zl_32, zl_280] at c5 c9 c11 c15 c16 ⊢); omega)))) dX12_about_90 (Nat.le_of_ble_eq_true rfl) (Nat.le_of_ble_eq_true rfl)
      · skip
        refine lv_aload_n hx hb dX12_about_66 rfl (lv_at hl 0 rfl) ?_
        refine z_get Z i_X12 hP 0 rfl rfl 0 (by decide) bw_1019 rfl dX12_about_67 ?_
        refine lv_iload_n hx hb dX12_about_70 rfl (lv_at hl 1 rfl) ?_
        refine z_iald Z hP 1 0 rfl rfl (vin (by decide)) dX12_about_71 ?_
        refine z_topi (y := 13) rfl ?_
        refine lv_goto (tgt := 90) hx hb dX12_about_72 (by decide) ?_
        exact z_ret Z rfl hP hD hS ((by first | rfl | assumption | (rw [if_pos (by (try simp only [zlt, zle, zeq, zl_0, zl_1, zl_2, zl_3, zl_4, zl_5, zl_6, zl_7, zl_8, zl_9, zl_10, zl_11, zl_12, zl_13, zl_19, zl_20, zl_30, zl_64, zl_99, zl_100, zl_299, zl_300, zl_399, zl_999, zl_9999, zl_m1, zl_m2, zl_m3, zl_32, zl_280] at c5 c9 c11 c15 c16 ⊢); omega)]; first | done | ((try simp only [zlt, zle, zeq, zl_0, zl_1, zl_2, zl_3, zl_4, zl_5, zl_6, zl_7, zl_8, zl_9, zl_10, zl_11, zl_12, zl_13, zl_19, zl_20, zl_30, zl_64, zl_99, zl_100, zl_299, zl_300, zl_399, zl_999, zl_9999, zl_m1, zl_m2, zl_m3, zl_32, zl_280] at c5 c9 c11 c15 c16 ⊢); omega)) | (rw [if_neg (by (try simp only [zlt, zle, zeq, zl_0, zl_1, zl_2, zl_3, zl_4, zl_5, zl_6, zl_7, zl_8, zl_9, zl_10, zl_11, zl_12, zl_13, zl_19, zl_20, zl_30, zl_64, zl_99, zl_100, zl_299, zl_300, zl_399, zl_999, zl_9999, zl_m1, zl_m2, zl_m3, zl_32, zl_280] at c5 c9 c11 c15 c16 ⊢); omega), if_pos (by (try simp only [zlt, zle, zeq, zl_0, zl_1, zl_2, zl_3, zl_4, zl_5, zl_6, zl_7, zl_8, zl_9, zl_10, zl_11, zl_12, zl_13, zl_19, zl_20, zl_30, zl_64, zl_99, zl_100, zl_299, zl_300, zl_399, zl_999, zl_9999, zl_m1, zl_m2, zl_m3, zl_32, zl_280] at c5 c9 c11 c15 c16 ⊢); omega)]; first | done | ((try simp only [zlt, zle, zeq, zl_0, zl_1, zl_2, zl_3, zl_4, zl_5, zl_6, zl_7, zl_8, zl_9, zl_10, zl_11, zl_12, zl_13, zl_19, zl_20, zl_30, zl_64, zl_99, zl_100, zl_299, zl_300, zl_399, zl_999, zl_9999, zl_m1, zl_m2, zl_m3, zl_32, zl_280] at c5 c9 c11 c15 c16 ⊢); omega)) | (rw [if_neg (by (try simp only [zlt, zle, zeq, zl_0, zl_1, zl_2, zl_3, zl_4, zl_5, zl_6, zl_7, zl_8, zl_9, zl_10, zl_11, zl_12, zl_13, zl_19, zl_20, zl_30, zl_64, zl_99, zl_100, zl_299, zl_300, zl_399, zl_999, zl_9999, zl_m1, zl_m2, zl_m3, zl_32, zl_280] at c5 c9 c11 c15 c16 ⊢); omega), if_neg (by (try simp only [zlt, zle, zeq, zl_0, zl_1, zl_2, zl_3, zl_4, zl_5, zl_6, zl_7, zl_8, zl_9, zl_10, zl_11, zl_12, zl_13, zl_19, zl_20, zl_30, zl_64, zl_99, zl_100, zl_299, zl_300, zl_399, zl_999, zl_9999, zl_m1, zl_m2, zl_m3, zl_32, zl_280] at c5 c9 c11 c15 c16 ⊢); omega), if_pos (by (try simp only [zlt, zle, zeq, zl_0, zl_1, zl_2, zl_3, zl_4, zl_5, zl_6, zl_7, zl_8, zl_9, zl_10, zl_11, zl_12, zl_13, zl_19, zl_20, zl_30, zl_64, zl_99, zl_100, zl_299, zl_300, zl_399, zl_999, zl_9999, zl_m1, zl_m2, zl_m3, zl_32, zl_280] at c5 c9 c11 c15 c16 ⊢); omega)]; first | done | ((try simp only [zlt, zle, zeq, zl_0, zl_1, zl_2, zl_3, zl_4, zl_5, zl_6, zl_7, zl_8, zl_9, zl_10, zl_11, zl_12, zl_13, zl_19, zl_20, zl_30, zl_64, zl_99, zl_100, zl_299, zl_300, zl_399, zl_999, zl_9999, zl_m1, zl_m2, zl_m3, zl_32, zl_280] at c5 c9 c11 c15 c16 ⊢); omega)) | (rw [if_neg (by (try simp only [zlt, zle, zeq, zl_0, zl_1, zl_2, zl_3, zl_4, zl_5, zl_6, zl_7, zl_8, zl_9, zl_10, zl_11, zl_12, zl_13, zl_19, zl_20, zl_30, zl_64, zl_99, zl_100, zl_299, zl_300, zl_399, zl_999, zl_9999, zl_m1, zl_m2, zl_m3, zl_32, zl_280] at c5 c9 c11 c15 c16 ⊢); omega), if_neg (by (try simp only [zlt, zle, zeq, zl_0, zl_1, zl_2, zl_3, zl_4, zl_5, zl_6, zl_7, zl_8, zl_9, zl_10, zl_11, zl_12, zl_13, zl_19, zl_20, zl_30, zl_64, zl_99, zl_100, zl_299, zl_300, zl_399, zl_999, zl_9999, zl_m1, zl_m2, zl_m3, zl_32, zl_280] at c5 c9 c11 c15 c16 ⊢); omega), if_neg (by (try simp only [zlt, zle, zeq, zl_0, zl_1, zl_2, zl_3, zl_4, zl_5, zl_6, zl_7, zl_8, zl_9, zl_10, zl_11, zl_12, zl_13, zl_19, zl_20, zl_30, zl_64, zl_99, zl_100, zl_299, zl_300, zl_399, zl_999, zl_9999, zl_m1, zl_m2, zl_m3, zl_32, zl_280] at c5 c9 c11 c15 c16 ⊢); omega), if_pos (by (try simp only [zlt, zle, zeq, zl_0, zl_1, zl_2, zl_3, zl_4, zl_5, zl_6, zl_7, zl_8, zl_9, zl_10, zl_11, zl_12, zl_13, zl_19, zl_20, zl_30, zl_64, zl_99, zl_100, zl_299, zl_300, zl_399, zl_999, zl_9999, zl_m1, zl_m2, zl_m3, zl_32, zl_280] at c5 c9 c11 c15 c16 ⊢); omega)]; first | done | ((try simp only [zlt, zle, zeq, zl_0, zl_1, zl_2, zl_3, zl_4, zl_5, zl_6, zl_7, zl_8, zl_9, zl_10, zl_11, zl_12, zl_13, zl_19, zl_20, zl_30, zl_64, zl_99, zl_100, zl_299, zl_300, zl_399, zl_999, zl_9999, zl_m1, zl_m2, zl_m3, zl_32, zl_280] at c5 c9 c11 c15 c16 ⊢); omega)) | (rw [if_neg (by (try simp only [zlt, zle, zeq, zl_0, zl_1, zl_2, zl_3, zl_4, zl_5, zl_6, zl_7, zl_8, zl_9, zl_10, zl_11, zl_12, zl_13, zl_19, zl_20, zl_30, zl_64, zl_99, zl_100, zl_299, zl_300, zl_399, zl_999, zl_9999, zl_m1, zl_m2, zl_m3, zl_32, zl_280] at c5 c9 c11 c15 c16 ⊢); omega), if_neg (by (try simp only [zlt, zle, zeq, zl_0, zl_1, zl_2, zl_3, zl_4, zl_5, zl_6, zl_7, zl_8, zl_9, zl_10, zl_11, zl_12, zl_13, zl_19, zl_20, zl_30, zl_64, zl_99, zl_100, zl_299, zl_300, zl_399, zl_999, zl_9999, zl_m1, zl_m2, zl_m3, zl_32, zl_280] at c5 c9 c11 c15 c16 ⊢); omega), if_neg (by (try simp only [zlt, zle, zeq, zl_0, zl_1, zl_2, zl_3, zl_4, zl_5, zl_6, zl_7, zl_8, zl_9, zl_10, zl_11, zl_12, zl_13, zl_19, zl_20, zl_30, zl_64, zl_99, zl_100, zl_299, zl_300, zl_399, zl_999, zl_9999, zl_m1, zl_m2, zl_m3, zl_32, zl_280] at c5 c9 c11 c15 c16 ⊢); omega), if_neg (by (try simp only [zlt, zle, zeq, zl_0, zl_1, zl_2, zl_3, zl_4, zl_5, zl_6, zl_7, zl_8, zl_9, zl_10, zl_11, zl_12, zl_13, zl_19, zl_20, zl_30, zl_64, zl_99, zl_100, zl_299, zl_300, zl_399, zl_999, zl_9999, zl_m1, zl_m2, zl_m3, zl_32, zl_280] at c5 c9 c11 c15 c16 ⊢); omega)]; first | done | ((try simp only [zlt, zle, zeq, zl_0, zl_1, zl_2, zl_3, zl_4, zl_5, zl_6, zl_7, zl_8, zl_9, zl_10, zl_11, zl_12, zl_13, zl_19, zl_20, zl_30, zl_64, zl_99, zl_100, zl_299, zl_300, zl_399, zl_999, zl_9999, zl_m1, zl_m2, zl_m3, zl_32, zl_280] at c5 c9 c11 c15 c16 ⊢); omega)))) dX12_about_90 (Nat.le_of_ble_eq_true rfl) (Nat.le_of_ble_eq_true rfl)
      · skip
        refine lv_aload_n hx hb dX12_about_66 rfl (lv_at hl 0 rfl) ?_
        refine z_get Z i_X12 hP 0 rfl rfl 0 (by decide) bw_1019 rfl dX12_about_67 ?_
        refine lv_iload_n hx hb dX12_about_70 rfl (lv_at hl 1 rfl) ?_
        refine z_iald Z hP 1 0 rfl rfl (vin (by decide)) dX12_about_71 ?_
        refine z_topi (y := 0) rfl ?_
        refine lv_goto (tgt := 90) hx hb dX12_about_72 (by decide) ?_
        exact z_ret Z rfl hP hD hS ((by first | rfl | assumption | (rw [if_pos (by (try simp only [zlt, zle, zeq, zl_0, zl_1, zl_2, zl_3, zl_4, zl_5, zl_6, zl_7, zl_8, zl_9, zl_10, zl_11, zl_12, zl_13, zl_19, zl_20, zl_30, zl_64, zl_99, zl_100, zl_299, zl_300, zl_399, zl_999, zl_9999, zl_m1, zl_m2, zl_m3, zl_32, zl_280] at c5 c9 c11 c15 c16 ⊢); omega)]; first | done | ((try simp only [zlt, zle, zeq, zl_0, zl_1, zl_2, zl_3, zl_4, zl_5, zl_6, zl_7, zl_8, zl_9, zl_10, zl_11, zl_12, zl_13, zl_19, zl_20, zl_30, zl_64, zl_99, zl_100, zl_299, zl_300, zl_399, zl_999, zl_9999, zl_m1, zl_m2, zl_m3, zl_32, zl_280] at c5 c9 c11 c15 c16 ⊢); omega)) | (rw [if_neg (by (try simp only [zlt, zle, zeq, zl_0, zl_1, zl_2, zl_3, zl_4, zl_5, zl_6, zl_7, zl_8, zl_9, zl_10, zl_11, zl_12, zl_13, zl_19, zl_20, zl_30, zl_64, zl_99, zl_100, zl_299, zl_300, zl_399, zl_999, zl_9999, zl_m1, zl_m2, zl_m3, zl_32, zl_280] at c5 c9 c11 c15 c16 ⊢); omega), if_pos (by (try simp only [zlt, zle, zeq, zl_0, zl_1, zl_2, zl_3, zl_4, zl_5, zl_6, zl_7, zl_8, zl_9, zl_10, zl_11, zl_12, zl_13, zl_19, zl_20, zl_30, zl_64, zl_99, zl_100, zl_299, zl_300, zl_399, zl_999, zl_9999, zl_m1, zl_m2, zl_m3, zl_32, zl_280] at c5 c9 c11 c15 c16 ⊢); omega)]; first | done | ((try simp only [zlt, zle, zeq, zl_0, zl_1, zl_2, zl_3, zl_4, zl_5, zl_6, zl_7, zl_8, zl_9, zl_10, zl_11, zl_12, zl_13, zl_19, zl_20, zl_30, zl_64, zl_99, zl_100, zl_299, zl_300, zl_399, zl_999, zl_9999, zl_m1, zl_m2, zl_m3, zl_32, zl_280] at c5 c9 c11 c15 c16 ⊢); omega)) | (rw [if_neg (by (try simp only [zlt, zle, zeq, zl_0, zl_1, zl_2, zl_3, zl_4, zl_5, zl_6, zl_7, zl_8, zl_9, zl_10, zl_11, zl_12, zl_13, zl_19, zl_20, zl_30, zl_64, zl_99, zl_100, zl_299, zl_300, zl_399, zl_999, zl_9999, zl_m1, zl_m2, zl_m3, zl_32, zl_280] at c5 c9 c11 c15 c16 ⊢); omega), if_neg (by (try simp only [zlt, zle, zeq, zl_0, zl_1, zl_2, zl_3, zl_4, zl_5, zl_6, zl_7, zl_8, zl_9, zl_10, zl_11, zl_12, zl_13, zl_19, zl_20, zl_30, zl_64, zl_99, zl_100, zl_299, zl_300, zl_399, zl_999, zl_9999, zl_m1, zl_m2, zl_m3, zl_32, zl_280] at c5 c9 c11 c15 c16 ⊢); omega), if_pos (by (try simp only [zlt, zle, zeq, zl_0, zl_1, zl_2, zl_3, zl_4, zl_5, zl_6, zl_7, zl_8, zl_9, zl_10, zl_11, zl_12, zl_13, zl_19, zl_20, zl_30, zl_64, zl_99, zl_100, zl_299, zl_300, zl_399, zl_999, zl_9999, zl_m1, zl_m2, zl_m3, zl_32, zl_280] at c5 c9 c11 c15 c16 ⊢); omega)]; first | done | ((try simp only [zlt, zle, zeq, zl_0, zl_1, zl_2, zl_3, zl_4, zl_5, zl_6, zl_7, zl_8, zl_9, zl_10, zl_11, zl_12, zl_13, zl_19, zl_20, zl_30, zl_64, zl_99, zl_100, zl_299, zl_300, zl_399, zl_999, zl_9999, zl_m1, zl_m2, zl_m3, zl_32, zl_280] at c5 c9 c11 c15 c16 ⊢); omega)) | (rw [if_neg (by (try simp only [zlt, zle, zeq, zl_0, zl_1, zl_2, zl_3, zl_4, zl_5, zl_6, zl_7, zl_8, zl_9, zl_10, zl_11, zl_12, zl_13, zl_19, zl_20, zl_30, zl_64, zl_99, zl_100, zl_299, zl_300, zl_399, zl_999, zl_9999, zl_m1, zl_m2, zl_m3, zl_32, zl_280] at c5 c9 c11 c15 c16 ⊢); omega), if_neg (by (try simp only [zlt, zle, zeq, zl_0, zl_1, zl_2, zl_3, zl_4, zl_5, zl_6, zl_7, zl_8, zl_9, zl_10, zl_11, zl_12, zl_13, zl_19, zl_20, zl_30, zl_64, zl_99, zl_100, zl_299, zl_300, zl_399, zl_999, zl_9999, zl_m1, zl_m2, zl_m3, zl_32, zl_280] at c5 c9 c11 c15 c16 ⊢); omega), if_neg (by (try simp only [zlt, zle, zeq, zl_0, zl_1, zl_2, zl_3, zl_4, zl_5, zl_6, zl_7, zl_8, zl_9, zl_10, zl_11, zl_12, zl_13, zl_19, zl_20, zl_30, zl_64, zl_99, zl_100, zl_299, zl_300, zl_399, zl_999, zl_9999, zl_m1, zl_m2, zl_m3, zl_32, zl_280] at c5 c9 c11 c15 c16 ⊢); omega), if_pos (by (try simp only [zlt, zle, zeq, zl_0, zl_1, zl_2, zl_3, zl_4, zl_5, zl_6, zl_7, zl_8, zl_9, zl_10, zl_11, zl_12, zl_13, zl_19, zl_20, zl_30, zl_64, zl_99, zl_100, zl_299, zl_300, zl_399, zl_999, zl_9999, zl_m1, zl_m2, zl_m3, zl_32, zl_280] at c5 c9 c11 c15 c16 ⊢); omega)]; first | done | ((try simp only [zlt, zle, zeq, zl_0, zl_1, zl_2, zl_3, zl_4, zl_5, zl_6, zl_7, zl_8, zl_9, zl_10, zl_11, zl_12, zl_13, zl_19, zl_20, zl_30, zl_64, zl_99, zl_100, zl_299, zl_300, zl_399, zl_999, zl_9999, zl_m1, zl_m2, zl_m3, zl_32, zl_280] at c5 c9 c11 c15 c16 ⊢); omega)) | (rw [if_neg (by (try simp only [zlt, zle, zeq, zl_0, zl_1, zl_2, zl_3, zl_4, zl_5, zl_6, zl_7, zl_8, zl_9, zl_10, zl_11, zl_12, zl_13, zl_19, zl_20, zl_30, zl_64, zl_99, zl_100, zl_299, zl_300, zl_399, zl_999, zl_9999, zl_m1, zl_m2, zl_m3, zl_32, zl_280] at c5 c9 c11 c15 c16 ⊢); omega), if_neg (by (try simp only [zlt, zle, zeq, zl_0, zl_1, zl_2, zl_3, zl_4, zl_5, zl_6, zl_7, zl_8, zl_9, zl_10, zl_11, zl_12, zl_13, zl_19, zl_20, zl_30, zl_64, zl_99, zl_100, zl_299, zl_300, zl_399, zl_999, zl_9999, zl_m1, zl_m2, zl_m3, zl_32, zl_280] at c5 c9 c11 c15 c16 ⊢); omega), if_neg (by (try simp only [zlt, zle, zeq, zl_0, zl_1, zl_2, zl_3, zl_4, zl_5, zl_6, zl_7, zl_8, zl_9, zl_10, zl_11, zl_12, zl_13, zl_19, zl_20, zl_30, zl_64, zl_99, zl_100, zl_299, zl_300, zl_399, zl_999, zl_9999, zl_m1, zl_m2, zl_m3, zl_32, zl_280] at c5 c9 c11 c15 c16 ⊢); omega), if_neg (by (try simp only [zlt, zle, zeq, zl_0, zl_1, zl_2, zl_3, zl_4, zl_5, zl_6, zl_7, zl_8, zl_9, zl_10, zl_11, zl_12, zl_13, zl_19, zl_20, zl_30, zl_64, zl_99, zl_100, zl_299, zl_300, zl_399, zl_999, zl_9999, zl_m1, zl_m2, zl_m3, zl_32, zl_280] at c5 c9 c11 c15 c16 ⊢); omega)]; first | done | ((try simp only [zlt, zle, zeq, zl_0, zl_1, zl_2, zl_3, zl_4, zl_5, zl_6, zl_7, zl_8, zl_9, zl_10, zl_11, zl_12, zl_13, zl_19, zl_20, zl_30, zl_64, zl_99, zl_100, zl_299, zl_300, zl_399, zl_999, zl_9999, zl_m1, zl_m2, zl_m3, zl_32, zl_280] at c5 c9 c11 c15 c16 ⊢); omega)))) dX12_about_90 (Nat.le_of_ble_eq_true rfl) (Nat.le_of_ble_eq_true rfl)
      · skip
        refine lv_aload_n hx hb dX12_about_66 rfl (lv_at hl 0 rfl) ?_
        refine z_get Z i_X12 hP 0 rfl rfl 0 (by decide) bw_1019 rfl dX12_about_67 ?_
        refine lv_iload_n hx hb dX12_about_70 rfl (lv_at hl 1 rfl) ?_
        refine z_iald Z hP 1 0 rfl rfl (vin (by decide)) dX12_about_71 ?_
        refine z_topi (y := (-1)) rfl ?_
        refine lv_goto (tgt := 90) hx hb dX12_about_72 (by decide) ?_
        exact z_ret Z rfl hP hD hS ((by first | rfl | assumption | (rw [if_pos (by (try simp only [zlt, zle, zeq, zl_0, zl_1, zl_2, zl_3, zl_4, zl_5, zl_6, zl_7, zl_8, zl_9, zl_10, zl_11, zl_12, zl_13, zl_19, zl_20, zl_30, zl_64, zl_99, zl_100, zl_299, zl_300, zl_399, zl_999, zl_9999, zl_m1, zl_m2, zl_m3, zl_32, zl_280] at c5 c9 c11 c15 c16 ⊢); omega)]; first | done | ((try simp only [zlt, zle, zeq, zl_0, zl_1, zl_2, zl_3, zl_4, zl_5, zl_6, zl_7, zl_8, zl_9, zl_10, zl_11, zl_12, zl_13, zl_19, zl_20, zl_30, zl_64, zl_99, zl_100, zl_299, zl_300, zl_399, zl_999, zl_9999, zl_m1, zl_m2, zl_m3, zl_32, zl_280] at c5 c9 c11 c15 c16 ⊢); omega)) | (rw [if_neg (by (try simp only [zlt, zle, zeq, zl_0, zl_1, zl_2, zl_3, zl_4, zl_5, zl_6, zl_7, zl_8, zl_9, zl_10, zl_11, zl_12, zl_13, zl_19, zl_20, zl_30, zl_64, zl_99, zl_100, zl_299, zl_300, zl_399, zl_999, zl_9999, zl_m1, zl_m2, zl_m3, zl_32, zl_280] at c5 c9 c11 c15 c16 ⊢); omega), if_pos (by (try simp only [zlt, zle, zeq, zl_0, zl_1, zl_2, zl_3, zl_4, zl_5, zl_6, zl_7, zl_8, zl_9, zl_10, zl_11, zl_12, zl_13, zl_19, zl_20, zl_30, zl_64, zl_99, zl_100, zl_299, zl_300, zl_399, zl_999, zl_9999, zl_m1, zl_m2, zl_m3, zl_32, zl_280] at c5 c9 c11 c15 c16 ⊢); omega)]; first | done | ((try simp only [zlt, zle, zeq, zl_0, zl_1, zl_2, zl_3, zl_4, zl_5, zl_6, zl_7, zl_8, zl_9, zl_10, zl_11, zl_12, zl_13, zl_19, zl_20, zl_30, zl_64, zl_99, zl_100, zl_299, zl_300, zl_399, zl_999, zl_9999, zl_m1, zl_m2, zl_m3, zl_32, zl_280] at c5 c9 c11 c15 c16 ⊢); omega)) | (rw [if_neg (by (try simp only [zlt, zle, zeq, zl_0, zl_1, zl_2, zl_3, zl_4, zl_5, zl_6, zl_7, zl_8, zl_9, zl_10, zl_11, zl_12, zl_13, zl_19, zl_20, zl_30, zl_64, zl_99, zl_100, zl_299, zl_300, zl_399, zl_999, zl_9999, zl_m1, zl_m2, zl_m3, zl_32, zl_280] at c5 c9 c11 c15 c16 ⊢); omega), if_neg (by (try simp only [zlt, zle, zeq, zl_0, zl_1, zl_2, zl_3, zl_4, zl_5, zl_6, zl_7, zl_8, zl_9, zl_10, zl_11, zl_12, zl_13, zl_19, zl_20, zl_30, zl_64, zl_99, zl_100, zl_299, zl_300, zl_399, zl_999, zl_9999, zl_m1, zl_m2, zl_m3, zl_32, zl_280] at c5 c9 c11 c15 c16 ⊢); omega), if_pos (by (try simp only [zlt, zle, zeq, zl_0, zl_1, zl_2, zl_3, zl_4, zl_5, zl_6, zl_7, zl_8, zl_9, zl_10, zl_11, zl_12, zl_13, zl_19, zl_20, zl_30, zl_64, zl_99, zl_100, zl_299, zl_300, zl_399, zl_999, zl_9999, zl_m1, zl_m2, zl_m3, zl_32, zl_280] at c5 c9 c11 c15 c16 ⊢); omega)]; first | done | ((try simp only [zlt, zle, zeq, zl_0, zl_1, zl_2, zl_3, zl_4, zl_5, zl_6, zl_7, zl_8, zl_9, zl_10, zl_11, zl_12, zl_13, zl_19, zl_20, zl_30, zl_64, zl_99, zl_100, zl_299, zl_300, zl_399, zl_999, zl_9999, zl_m1, zl_m2, zl_m3, zl_32, zl_280] at c5 c9 c11 c15 c16 ⊢); omega)) | (rw [if_neg (by (try simp only [zlt, zle, zeq, zl_0, zl_1, zl_2, zl_3, zl_4, zl_5, zl_6, zl_7, zl_8, zl_9, zl_10, zl_11, zl_12, zl_13, zl_19, zl_20, zl_30, zl_64, zl_99, zl_100, zl_299, zl_300, zl_399, zl_999, zl_9999, zl_m1, zl_m2, zl_m3, zl_32, zl_280] at c5 c9 c11 c15 c16 ⊢); omega), if_neg (by (try simp only [zlt, zle, zeq, zl_0, zl_1, zl_2, zl_3, zl_4, zl_5, zl_6, zl_7, zl_8, zl_9, zl_10, zl_11, zl_12, zl_13, zl_19, zl_20, zl_30, zl_64, zl_99, zl_100, zl_299, zl_300, zl_399, zl_999, zl_9999, zl_m1, zl_m2, zl_m3, zl_32, zl_280] at c5 c9 c11 c15 c16 ⊢); omega), if_neg (by (try simp only [zlt, zle, zeq, zl_0, zl_1, zl_2, zl_3, zl_4, zl_5, zl_6, zl_7, zl_8, zl_9, zl_10, zl_11, zl_12, zl_13, zl_19, zl_20, zl_30, zl_64, zl_99, zl_100, zl_299, zl_300, zl_399, zl_999, zl_9999, zl_m1, zl_m2, zl_m3, zl_32, zl_280] at c5 c9 c11 c15 c16 ⊢); omega), if_pos (by (try simp only [zlt, zle, zeq, zl_0, zl_1, zl_2, zl_3, zl_4, zl_5, zl_6, zl_7, zl_8, zl_9, zl_10, zl_11, zl_12, zl_13, zl_19, zl_20, zl_30, zl_64, zl_99, zl_100, zl_299, zl_300, zl_399, zl_999, zl_9999, zl_m1, zl_m2, zl_m3, zl_32, zl_280] at c5 c9 c11 c15 c16 ⊢); omega)]; first | done | ((try simp only [zlt, zle, zeq, zl_0, zl_1, zl_2, zl_3, zl_4, zl_5, zl_6, zl_7, zl_8, zl_9, zl_10, zl_11, zl_12, zl_13, zl_19, zl_20, zl_30, zl_64, zl_99, zl_100, zl_299, zl_300, zl_399, zl_999, zl_9999, zl_m1, zl_m2, zl_m3, zl_32, zl_280] at c5 c9 c11 c15 c16 ⊢); omega)) | (rw [if_neg (by (try simp only [zlt, zle, zeq, zl_0, zl_1, zl_2, zl_3, zl_4, zl_5, zl_6, zl_7, zl_8, zl_9, zl_10, zl_11, zl_12, zl_13, zl_19, zl_20, zl_30, zl_64, zl_99, zl_100, zl_299, zl_300, zl_399, zl_999, zl_9999, zl_m1, zl_m2, zl_m3, zl_32, zl_280] at c5 c9 c11 c15 c16 ⊢); omega), if_neg (by (try simp only [zlt, zle, zeq, zl_0, zl_1, zl_2, zl_3, zl_4, zl_5, zl_6, zl_7, zl_8, zl_9, zl_10, zl_11, zl_12, zl_13, zl_19, zl_20, zl_30, zl_64, zl_99, zl_100, zl_299, zl_300, zl_399, zl_999, zl_9999, zl_m1, zl_m2, zl_m3, zl_32, zl_280] at c5 c9 c11 c15 c16 ⊢); omega), if_neg (by (try simp only [zlt, zle, zeq, zl_0, zl_1, zl_2, zl_3, zl_4, zl_5, zl_6, zl_7, zl_8, zl_9, zl_10, zl_11, zl_12, zl_13, zl_19, zl_20, zl_30, zl_64, zl_99, zl_100, zl_299, zl_300, zl_399, zl_999, zl_9999, zl_m1, zl_m2, zl_m3, zl_32, zl_280] at c5 c9 c11 c15 c16 ⊢); omega), if_neg (by (try simp only [zlt, zle, zeq, zl_0, zl_1, zl_2, zl_3, zl_4, zl_5, zl_6, zl_7, zl_8, zl_9, zl_10, zl_11, zl_12, zl_13, zl_19, zl_20, zl_30, zl_64, zl_99, zl_100, zl_299, zl_300, zl_399, zl_999, zl_9999, zl_m1, zl_m2, zl_m3, zl_32, zl_280] at c5 c9 c11 c15 c16 ⊢); omega)]; first | done | ((try simp only [zlt, zle, zeq, zl_0, zl_1, zl_2, zl_3, zl_4, zl_5, zl_6, zl_7, zl_8, zl_9, zl_10, zl_11, zl_12, zl_13, zl_19, zl_20, zl_30, zl_64, zl_99, zl_100, zl_299, zl_300, zl_399, zl_999, zl_9999, zl_m1, zl_m2, zl_m3, zl_32, zl_280] at c5 c9 c11 c15 c16 ⊢); omega)))) dX12_about_90 (Nat.le_of_ble_eq_true rfl) (Nat.le_of_ble_eq_true rfl)
      · skip
        refine lv_aload_n hx hb dX12_about_66 rfl (lv_at hl 0 rfl) ?_
        refine z_get Z i_X12 hP 0 rfl rfl 0 (by decide) bw_1019 rfl dX12_about_67 ?_
        refine lv_iload_n hx hb dX12_about_70 rfl (lv_at hl 1 rfl) ?_
        refine z_iald Z hP 1 0 rfl rfl (vin (by decide)) dX12_about_71 ?_
        refine z_topi (y := 0) rfl ?_
        refine lv_goto (tgt := 90) hx hb dX12_about_72 (by decide) ?_
        exact z_ret Z rfl hP hD hS ((by first | rfl | assumption | (rw [if_pos (by (try simp only [zlt, zle, zeq, zl_0, zl_1, zl_2, zl_3, zl_4, zl_5, zl_6, zl_7, zl_8, zl_9, zl_10, zl_11, zl_12, zl_13, zl_19, zl_20, zl_30, zl_64, zl_99, zl_100, zl_299, zl_300, zl_399, zl_999, zl_9999, zl_m1, zl_m2, zl_m3, zl_32, zl_280] at c5 c9 c11 c15 c16 ⊢); omega)]; first | done | ((try simp only [zlt, zle, zeq, zl_0, zl_1, zl_2, zl_3, zl_4, zl_5, zl_6, zl_7, zl_8, zl_9, zl_10, zl_11, zl_12, zl_13, zl_19, zl_20, zl_30, zl_64, zl_99, zl_100, zl_299, zl_300, zl_399, zl_999, zl_9999, zl_m1, zl_m2, zl_m3, zl_32, zl_280] at c5 c9 c11 c15 c16 ⊢); omega)) | (rw [if_neg (by (try simp only [zlt, zle, zeq, zl_0, zl_1, zl_2, zl_3, zl_4, zl_5, zl_6, zl_7, zl_8, zl_9, zl_10, zl_11, zl_12, zl_13, zl_19, zl_20, zl_30, zl_64, zl_99, zl_100, zl_299, zl_300, zl_399, zl_999, zl_9999, zl_m1, zl_m2, zl_m3, zl_32, zl_280] at c5 c9 c11 c15 c16 ⊢); omega), if_pos (by (try simp only [zlt, zle, zeq, zl_0, zl_1, zl_2, zl_3, zl_4, zl_5, zl_6, zl_7, zl_8, zl_9, zl_10, zl_11, zl_12, zl_13, zl_19, zl_20, zl_30, zl_64, zl_99, zl_100, zl_299, zl_300, zl_399, zl_999, zl_9999, zl_m1, zl_m2, zl_m3, zl_32, zl_280] at c5 c9 c11 c15 c16 ⊢); omega)]; first | done | ((try simp only [zlt, zle, zeq, zl_0, zl_1, zl_2, zl_3, zl_4, zl_5, zl_6, zl_7, zl_8, zl_9, zl_10, zl_11, zl_12, zl_13, zl_19, zl_20, zl_30, zl_64, zl_99, zl_100, zl_299, zl_300, zl_399, zl_999, zl_9999, zl_m1, zl_m2, zl_m3, zl_32, zl_280] at c5 c9 c11 c15 c16 ⊢); omega)) | (rw [if_neg (by (try simp only [zlt, zle, zeq, zl_0, zl_1, zl_2, zl_3, zl_4, zl_5, zl_6, zl_7, zl_8, zl_9, zl_10, zl_11, zl_12, zl_13, zl_19, zl_20, zl_30, zl_64, zl_99, zl_100, zl_299, zl_300, zl_399, zl_999, zl_9999, zl_m1, zl_m2, zl_m3, zl_32, zl_280] at c5 c9 c11 c15 c16 ⊢); omega), if_neg (by (try simp only [zlt, zle, zeq, zl_0, zl_1, zl_2, zl_3, zl_4, zl_5, zl_6, zl_7, zl_8, zl_9, zl_10, zl_11, zl_12, zl_13, zl_19, zl_20, zl_30, zl_64, zl_99, zl_100, zl_299, zl_300, zl_399, zl_999, zl_9999, zl_m1, zl_m2, zl_m3, zl_32, zl_280] at c5 c9 c11 c15 c16 ⊢); omega), if_pos (by (try simp only [zlt, zle, zeq, zl_0, zl_1, zl_2, zl_3, zl_4, zl_5, zl_6, zl_7, zl_8, zl_9, zl_10, zl_11, zl_12, zl_13, zl_19, zl_20, zl_30, zl_64, zl_99, zl_100, zl_299, zl_300, zl_399, zl_999, zl_9999, zl_m1, zl_m2, zl_m3, zl_32, zl_280] at c5 c9 c11 c15 c16 ⊢); omega)]; first | done | ((try simp only [zlt, zle, zeq, zl_0, zl_1, zl_2, zl_3, zl_4, zl_5, zl_6, zl_7, zl_8, zl_9, zl_10, zl_11, zl_12, zl_13, zl_19, zl_20, zl_30, zl_64, zl_99, zl_100, zl_299, zl_300, zl_399, zl_999, zl_9999, zl_m1, zl_m2, zl_m3, zl_32, zl_280] at c5 c9 c11 c15 c16 ⊢); omega)) | (rw [if_neg (by (try simp only [zlt, zle, zeq, zl_0, zl_1, zl_2, zl_3, zl_4, zl_5, zl_6, zl_7, zl_8, zl_9, zl_10, zl_11, zl_12, zl_13, zl_19, zl_20, zl_30, zl_64, zl_99, zl_100, zl_299, zl_300, zl_399, zl_999, zl_9999, zl_m1, zl_m2, zl_m3, zl_32, zl_280] at c5 c9 c11 c15 c16 ⊢); omega), if_neg (by (try simp only [zlt, zle, zeq, zl_0, zl_1, zl_2, zl_3, zl_4, zl_5, zl_6, zl_7, zl_8, zl_9, zl_10, zl_11, zl_12, zl_13, zl_19, zl_20, zl_30, zl_64, zl_99, zl_100, zl_299, zl_300, zl_399, zl_999, zl_9999, zl_m1, zl_m2, zl_m3, zl_32, zl_280] at c5 c9 c11 c15 c16 ⊢); omega), if_neg (by (try simp only [zlt, zle, zeq, zl_0, zl_1, zl_2, zl_3, zl_4, zl_5, zl_6, zl_7, zl_8, zl_9, zl_10, zl_11, zl_12, zl_13, zl_19, zl_20, zl_30, zl_64, zl_99, zl_100, zl_299, zl_300, zl_399, zl_999, zl_9999, zl_m1, zl_m2, zl_m3, zl_32, zl_280] at c5 c9 c11 c15 c16 ⊢); omega), if_pos (by (try simp only [zlt, zle, zeq, zl_0, zl_1, zl_2, zl_3, zl_4, zl_5, zl_6, zl_7, zl_8, zl_9, zl_10, zl_11, zl_12, zl_13, zl_19, zl_20, zl_30, zl_64, zl_99, zl_100, zl_299, zl_300, zl_399, zl_999, zl_9999, zl_m1, zl_m2, zl_m3, zl_32, zl_280] at c5 c9 c11 c15 c16 ⊢); omega)]; first | done | ((try simp only [zlt, zle, zeq, zl_0, zl_1, zl_2, zl_3, zl_4, zl_5, zl_6, zl_7, zl_8, zl_9, zl_10, zl_11, zl_12, zl_13, zl_19, zl_20, zl_30, zl_64, zl_99, zl_100, zl_299, zl_300, zl_399, zl_999, zl_9999, zl_m1, zl_m2, zl_m3, zl_32, zl_280] at c5 c9 c11 c15 c16 ⊢); omega)) | (rw [if_neg (by (try simp only [zlt, zle, zeq, zl_0, zl_1, zl_2, zl_3, zl_4, zl_5, zl_6, zl_7, zl_8, zl_9, zl_10, zl_11, zl_12, zl_13, zl_19, zl_20, zl_30, zl_64, zl_99, zl_100, zl_299, zl_300, zl_399, zl_999, zl_9999, zl_m1, zl_m2, zl_m3, zl_32, zl_280] at c5 c9 c11 c15 c16 ⊢); omega), if_neg (by (try simp only [zlt, zle, zeq, zl_0, zl_1, zl_2, zl_3, zl_4, zl_5, zl_6, zl_7, zl_8, zl_9, zl_10, zl_11, zl_12, zl_13, zl_19, zl_20, zl_30, zl_64, zl_99, zl_100, zl_299, zl_300, zl_399, zl_999, zl_9999, zl_m1, zl_m2, zl_m3, zl_32, zl_280] at c5 c9 c11 c15 c16 ⊢); omega), if_neg (by (try simp only [zlt, zle, zeq, zl_0, zl_1, zl_2, zl_3, zl_4, zl_5, zl_6, zl_7, zl_8, zl_9, zl_10, zl_11, zl_12, zl_13, zl_19, zl_20, zl_30, zl_64, zl_99, zl_100, zl_299, zl_300, zl_399, zl_999, zl_9999, zl_m1, zl_m2, zl_m3, zl_32, zl_280] at c5 c9 c11 c15 c16 ⊢); omega), if_neg (by (try simp only [zlt, zle, zeq, zl_0, zl_1, zl_2, zl_3, zl_4, zl_5, zl_6, zl_7, zl_8, zl_9, zl_10, zl_11, zl_12, zl_13, zl_19, zl_20, zl_30, zl_64, zl_99, zl_100, zl_299, zl_300, zl_399, zl_999, zl_9999, zl_m1, zl_m2, zl_m3, zl_32, zl_280] at c5 c9 c11 c15 c16 ⊢); omega)]; first | done | ((try simp only [zlt, zle, zeq, zl_0, zl_1, zl_2, zl_3, zl_4, zl_5, zl_6, zl_7, zl_8, zl_9, zl_10, zl_11, zl_12, zl_13, zl_19, zl_20, zl_30, zl_64, zl_99, zl_100, zl_299, zl_300, zl_399, zl_999, zl_9999, zl_m1, zl_m2, zl_m3, zl_32, zl_280] at c5 c9 c11 c15 c16 ⊢); omega)))) dX12_about_90 (Nat.le_of_ble_eq_true rfl) (Nat.le_of_ble_eq_true rfl)
      · skip
        refine lv_aload_n hx hb dX12_about_66 rfl (lv_at hl 0 rfl) ?_
        refine z_get Z i_X12 hP 0 rfl rfl 0 (by decide) bw_1019 rfl dX12_about_67 ?_
        refine lv_iload_n hx hb dX12_about_70 rfl (lv_at hl 1 rfl) ?_
        refine z_iald Z hP 1 0 rfl rfl (vin (by decide)) dX12_about_71 ?_
        refine z_topi (y := 0) rfl ?_
        refine lv_goto (tgt := 90) hx hb dX12_about_72 (by decide) ?_
        exact z_ret Z rfl hP hD hS ((by first | rfl | assumption | (rw [if_pos (by (try simp only [zlt, zle, zeq, zl_0, zl_1, zl_2, zl_3, zl_4, zl_5, zl_6, zl_7, zl_8, zl_9, zl_10, zl_11, zl_12, zl_13, zl_19, zl_20, zl_30, zl_64, zl_99, zl_100, zl_299, zl_300, zl_399, zl_999, zl_9999, zl_m1, zl_m2, zl_m3, zl_32, zl_280] at c5 c9 c11 c15 c16 ⊢); omega)]; first | done | ((try simp only [zlt, zle, zeq, zl_0, zl_1, zl_2, zl_3, zl_4, zl_5, zl_6, zl_7, zl_8, zl_9, zl_10, zl_11, zl_12, zl_13, zl_19, zl_20, zl_30, zl_64, zl_99, zl_100, zl_299, zl_300, zl_399, zl_999, zl_9999, zl_m1, zl_m2, zl_m3, zl_32, zl_280] at c5 c9 c11 c15 c16 ⊢); omega)) | (rw [if_neg (by (try simp only [zlt, zle, zeq, zl_0, zl_1, zl_2, zl_3, zl_4, zl_5, zl_6, zl_7, zl_8, zl_9, zl_10, zl_11, zl_12, zl_13, zl_19, zl_20, zl_30, zl_64, zl_99, zl_100, zl_299, zl_300, zl_399, zl_999, zl_9999, zl_m1, zl_m2, zl_m3, zl_32, zl_280] at c5 c9 c11 c15 c16 ⊢); omega), if_pos (by (try simp only [zlt, zle, zeq, zl_0, zl_1, zl_2, zl_3, zl_4, zl_5, zl_6, zl_7, zl_8, zl_9, zl_10, zl_11, zl_12, zl_13, zl_19, zl_20, zl_30, zl_64, zl_99, zl_100, zl_299, zl_300, zl_399, zl_999, zl_9999, zl_m1, zl_m2, zl_m3, zl_32, zl_280] at c5 c9 c11 c15 c16 ⊢); omega)]; first | done | ((try simp only [zlt, zle, zeq, zl_0, zl_1, zl_2, zl_3, zl_4, zl_5, zl_6, zl_7, zl_8, zl_9, zl_10, zl_11, zl_12, zl_13, zl_19, zl_20, zl_30, zl_64, zl_99, zl_100, zl_299, zl_300, zl_399, zl_999, zl_9999, zl_m1, zl_m2, zl_m3, zl_32, zl_280] at c5 c9 c11 c15 c16 ⊢); omega)) | (rw [if_neg (by (try simp only [zlt, zle, zeq, zl_0, zl_1, zl_2, zl_3, zl_4, zl_5, zl_6, zl_7, zl_8, zl_9, zl_10, zl_11, zl_12, zl_13, zl_19, zl_20, zl_30, zl_64, zl_99, zl_100, zl_299, zl_300, zl_399, zl_999, zl_9999, zl_m1, zl_m2, zl_m3, zl_32, zl_280] at c5 c9 c11 c15 c16 ⊢); omega), if_neg (by (try simp only [zlt, zle, zeq, zl_0, zl_1, zl_2, zl_3, zl_4, zl_5, zl_6, zl_7, zl_8, zl_9, zl_10, zl_11, zl_12, zl_13, zl_19, zl_20, zl_30, zl_64, zl_99, zl_100, zl_299, zl_300, zl_399, zl_999, zl_9999, zl_m1, zl_m2, zl_m3, zl_32, zl_280] at c5 c9 c11 c15 c16 ⊢); omega), if_pos (by (try simp only [zlt, zle, zeq, zl_0, zl_1, zl_2, zl_3, zl_4, zl_5, zl_6, zl_7, zl_8, zl_9, zl_10, zl_11, zl_12, zl_13, zl_19, zl_20, zl_30, zl_64, zl_99, zl_100, zl_299, zl_300, zl_399, zl_999, zl_9999, zl_m1, zl_m2, zl_m3, zl_32, zl_280] at c5 c9 c11 c15 c16 ⊢); omega)]; first | done | ((try simp only [zlt, zle, zeq, zl_0, zl_1, zl_2, zl_3, zl_4, zl_5, zl_6, zl_7, zl_8, zl_9, zl_10, zl_11, zl_12, zl_13, zl_19, zl_20, zl_30, zl_64, zl_99, zl_100, zl_299, zl_300, zl_399, zl_999, zl_9999, zl_m1, zl_m2, zl_m3, zl_32, zl_280] at c5 c9 c11 c15 c16 ⊢); omega)) | (rw [if_neg (by (try simp only [zlt, zle, zeq, zl_0, zl_1, zl_2, zl_3, zl_4, zl_5, zl_6, zl_7, zl_8, zl_9, zl_10, zl_11, zl_12, zl_13, zl_19, zl_20, zl_30, zl_64, zl_99, zl_100, zl_299, zl_300, zl_399, zl_999, zl_9999, zl_m1, zl_m2, zl_m3, zl_32, zl_280] at c5 c9 c11 c15 c16 ⊢); omega), if_neg (by (try simp only [zlt, zle, zeq, zl_0, zl_1, zl_2, zl_3, zl_4, zl_5, zl_6, zl_7, zl_8, zl_9, zl_10, zl_11, zl_12, zl_13, zl_19, zl_20, zl_30, zl_64, zl_99, zl_100, zl_299, zl_300, zl_399, zl_999, zl_9999, zl_m1, zl_m2, zl_m3, zl_32, zl_280] at c5 c9 c11 c15 c16 ⊢); omega), if_neg (by (try simp only [zlt, zle, zeq, zl_0, zl_1, zl_2, zl_3, zl_4, zl_5, zl_6, zl_7, zl_8, zl_9, zl_10, zl_11, zl_12, zl_13, zl_19, zl_20, zl_30, zl_64, zl_99, zl_100, zl_299, zl_300, zl_399, zl_999, zl_9999, zl_m1, zl_m2, zl_m3, zl_32, zl_280] at c5 c9 c11 c15 c16 ⊢); omega), if_pos (by (try simp only [zlt, zle, zeq, zl_0, zl_1, zl_2, zl_3, zl_4, zl_5, zl_6, zl_7, zl_8, zl_9, zl_10, zl_11, zl_12, zl_13, zl_19, zl_20, zl_30, zl_64, zl_99, zl_100, zl_299, zl_300, zl_399, zl_999, zl_9999, zl_m1, zl_m2, zl_m3, zl_32, zl_280] at c5 c9 c11 c15 c16 ⊢); omega)]; first | done | ((try simp only [zlt, zle, zeq, zl_0, zl_1, zl_2, zl_3, zl_4, zl_5, zl_6, zl_7, zl_8, zl_9, zl_10, zl_11, zl_12, zl_13, zl_19, zl_20, zl_30, zl_64, zl_99, zl_100, zl_299, zl_300, zl_399, zl_999, zl_9999, zl_m1, zl_m2, zl_m3, zl_32, zl_280] at c5 c9 c11 c15 c16 ⊢); omega)) | (rw [if_neg (by (try simp only [zlt, zle, zeq, zl_0, zl_1, zl_2, zl_3, zl_4, zl_5, zl_6, zl_7, zl_8, zl_9, zl_10, zl_11, zl_12, zl_13, zl_19, zl_20, zl_30, zl_64, zl_99, zl_100, zl_299, zl_300, zl_399, zl_999, zl_9999, zl_m1, zl_m2, zl_m3, zl_32, zl_280] at c5 c9 c11 c15 c16 ⊢); omega), if_neg (by (try simp only [zlt, zle, zeq, zl_0, zl_1, zl_2, zl_3, zl_4, zl_5, zl_6, zl_7, zl_8, zl_9, zl_10, zl_11, zl_12, zl_13, zl_19, zl_20, zl_30, zl_64, zl_99, zl_100, zl_299, zl_300, zl_399, zl_999, zl_9999, zl_m1, zl_m2, zl_m3, zl_32, zl_280] at c5 c9 c11 c15 c16 ⊢); omega), if_neg (by (try simp only [zlt, zle, zeq, zl_0, zl_1, zl_2, zl_3, zl_4, zl_5, zl_6, zl_7, zl_8, zl_9, zl_10, zl_11, zl_12, zl_13, zl_19, zl_20, zl_30, zl_64, zl_99, zl_100, zl_299, zl_300, zl_399, zl_999, zl_9999, zl_m1, zl_m2, zl_m3, zl_32, zl_280] at c5 c9 c11 c15 c16 ⊢); omega), if_neg (by (try simp only [zlt, zle, zeq, zl_0, zl_1, zl_2, zl_3, zl_4, zl_5, zl_6, zl_7, zl_8, zl_9, zl_10, zl_11, zl_12, zl_13, zl_19, zl_20, zl_30, zl_64, zl_99, zl_100, zl_299, zl_300, zl_399, zl_999, zl_9999, zl_m1, zl_m2, zl_m3, zl_32, zl_280] at c5 c9 c11 c15 c16 ⊢); omega)]; first | done | ((try simp only [zlt, zle, zeq, zl_0, zl_1, zl_2, zl_3, zl_4, zl_5, zl_6, zl_7, zl_8, zl_9, zl_10, zl_11, zl_12, zl_13, zl_19, zl_20, zl_30, zl_64, zl_99, zl_100, zl_299, zl_300, zl_399, zl_999, zl_9999, zl_m1, zl_m2, zl_m3, zl_32, zl_280] at c5 c9 c11 c15 c16 ⊢); omega)))) dX12_about_90 (Nat.le_of_ble_eq_true rfl) (Nat.le_of_ble_eq_true rfl)
      · skip
        refine lv_aload_n hx hb dX12_about_66 rfl (lv_at hl 0 rfl) ?_
        refine z_get Z i_X12 hP 0 rfl rfl 0 (by decide) bw_1019 rfl dX12_about_67 ?_
        refine lv_iload_n hx hb dX12_about_70 rfl (lv_at hl 1 rfl) ?_
        refine z_iald Z hP 1 0 rfl rfl (vin (by decide)) dX12_about_71 ?_
        refine z_topi (y := 0) rfl ?_
        refine lv_goto (tgt := 90) hx hb dX12_about_72 (by decide) ?_
        exact z_ret Z rfl hP hD hS ((by first | rfl | assumption | (rw [if_pos (by (try simp only [zlt, zle, zeq, zl_0, zl_1, zl_2, zl_3, zl_4, zl_5, zl_6, zl_7, zl_8, zl_9, zl_10, zl_11, zl_12, zl_13, zl_19, zl_20, zl_30, zl_64, zl_99, zl_100, zl_299, zl_300, zl_399, zl_999, zl_9999, zl_m1, zl_m2, zl_m3, zl_32, zl_280] at c5 c9 c11 c15 c16 ⊢); omega)]; first | done | ((try simp only [zlt, zle, zeq, zl_0, zl_1, zl_2, zl_3, zl_4, zl_5, zl_6, zl_7, zl_8, zl_9, zl_10, zl_11, zl_12, zl_13, zl_19, zl_20, zl_30, zl_64, zl_99, zl_100, zl_299, zl_300, zl_399, zl_999, zl_9999, zl_m1, zl_m2, zl_m3, zl_32, zl_280] at c5 c9 c11 c15 c16 ⊢); omega)) | (rw [if_neg (by (try simp only [zlt, zle, zeq, zl_0, zl_1, zl_2, zl_3, zl_4, zl_5, zl_6, zl_7, zl_8, zl_9, zl_10, zl_11, zl_12, zl_13, zl_19, zl_20, zl_30, zl_64, zl_99, zl_100, zl_299, zl_300, zl_399, zl_999, zl_9999, zl_m1, zl_m2, zl_m3, zl_32, zl_280] at c5 c9 c11 c15 c16 ⊢); omega), if_pos (by (try simp only [zlt, zle, zeq, zl_0, zl_1, zl_2, zl_3, zl_4, zl_5, zl_6, zl_7, zl_8, zl_9, zl_10, zl_11, zl_12, zl_13, zl_19, zl_20, zl_30, zl_64, zl_99, zl_100, zl_299, zl_300, zl_399, zl_999, zl_9999, zl_m1, zl_m2, zl_m3, zl_32, zl_280] at c5 c9 c11 c15 c16 ⊢); omega)]; first | done | ((try simp only [zlt, zle, zeq, zl_0, zl_1, zl_2, zl_3, zl_4, zl_5, zl_6, zl_7, zl_8, zl_9, zl_10, zl_11, zl_12, zl_13, zl_19, zl_20, zl_30, zl_64, zl_99, zl_100, zl_299, zl_300, zl_399, zl_999, zl_9999, zl_m1, zl_m2, zl_m3, zl_32, zl_280] at c5 c9 c11 c15 c16 ⊢); omega)) | (rw [if_neg (by (try simp only [zlt, zle, zeq, zl_0, zl_1, zl_2, zl_3, zl_4, zl_5, zl_6, zl_7, zl_8, zl_9, zl_10, zl_11, zl_12, zl_13, zl_19, zl_20, zl_30, zl_64, zl_99, zl_100, zl_299, zl_300, zl_399, zl_999, zl_9999, zl_m1, zl_m2, zl_m3, zl_32, zl_280] at c5 c9 c11 c15 c16 ⊢); omega), if_neg (by (try simp only [zlt, zle, zeq, zl_0, zl_1, zl_2, zl_3, zl_4, zl_5, zl_6, zl_7, zl_8, zl_9, zl_10, zl_11, zl_12, zl_13, zl_19, zl_20, zl_30, zl_64, zl_99, zl_100, zl_299, zl_300, zl_399, zl_999, zl_9999, zl_m1, zl_m2, zl_m3, zl_32, zl_280] at c5 c9 c11 c15 c16 ⊢); omega), if_pos (by (try simp only [zlt, zle, zeq, zl_0, zl_1, zl_2, zl_3, zl_4, zl_5, zl_6, zl_7, zl_8, zl_9, zl_10, zl_11, zl_12, zl_13, zl_19, zl_20, zl_30, zl_64, zl_99, zl_100, zl_299, zl_300, zl_399, zl_999, zl_9999, zl_m1, zl_m2, zl_m3, zl_32, zl_280] at c5 c9 c11 c15 c16 ⊢); omega)]; first | done | ((try simp only [zlt, zle, zeq, zl_0, zl_1, zl_2, zl_3, zl_4, zl_5, zl_6, zl_7, zl_8, zl_9, zl_10, zl_11, zl_12, zl_13, zl_19, zl_20, zl_30, zl_64, zl_99, zl_100, zl_299, zl_300, zl_399, zl_999, zl_9999, zl_m1, zl_m2, zl_m3, zl_32, zl_280] at c5 c9 c11 c15 c16 ⊢); omega)) | (rw [if_neg (by (try simp only [zlt, zle, zeq, zl_0, zl_1, zl_2, zl_3, zl_4, zl_5, zl_6, zl_7, zl_8, zl_9, zl_10, zl_11, zl_12, zl_13, zl_19, zl_20, zl_30, zl_64, zl_99, zl_100, zl_299, zl_300, zl_399, zl_999, zl_9999, zl_m1, zl_m2, zl_m3, zl_32, zl_280] at c5 c9 c11 c15 c16 ⊢); omega), if_neg (by (try simp only [zlt, zle, zeq, zl_0, zl_1, zl_2, zl_3, zl_4, zl_5, zl_6, zl_7, zl_8, zl_9, zl_10, zl_11, zl_12, zl_13, zl_19, zl_20, zl_30, zl_64, zl_99, zl_100, zl_299, zl_300, zl_399, zl_999, zl_9999, zl_m1, zl_m2, zl_m3, zl_32, zl_280] at c5 c9 c11 c15 c16 ⊢); omega), if_neg (by (try simp only [zlt, zle, zeq, zl_0, zl_1, zl_2, zl_3, zl_4, zl_5, zl_6, zl_7, zl_8, zl_9, zl_10, zl_11, zl_12, zl_13, zl_19, zl_20, zl_30, zl_64, zl_99, zl_100, zl_299, zl_300, zl_399, zl_999, zl_9999, zl_m1, zl_m2, zl_m3, zl_32, zl_280] at c5 c9 c11 c15 c16 ⊢); omega), if_pos (by (try simp only [zlt, zle, zeq, zl_0, zl_1, zl_2, zl_3, zl_4, zl_5, zl_6, zl_7, zl_8, zl_9, zl_10, zl_11, zl_12, zl_13, zl_19, zl_20, zl_30, zl_64, zl_99, zl_100, zl_299, zl_300, zl_399, zl_999, zl_9999, zl_m1, zl_m2, zl_m3, zl_32, zl_280] at c5 c9 c11 c15 c16 ⊢); omega)]; first | done | ((try simp only [zlt, zle, zeq, zl_0, zl_1, zl_2, zl_3, zl_4, zl_5, zl_6, zl_7, zl_8, zl_9, zl_10, zl_11, zl_12, zl_13, zl_19, zl_20, zl_30, zl_64, zl_99, zl_100, zl_299, zl_300, zl_399, zl_999, zl_9999, zl_m1, zl_m2, zl_m3, zl_32, zl_280] at c5 c9 c11 c15 c16 ⊢); omega)) | (rw [if_neg (by (try simp only [zlt, zle, zeq, zl_0, zl_1, zl_2, zl_3, zl_4, zl_5, zl_6, zl_7, zl_8, zl_9, zl_10, zl_11, zl_12, zl_13, zl_19, zl_20, zl_30, zl_64, zl_99, zl_100, zl_299, zl_300, zl_399, zl_999, zl_9999, zl_m1, zl_m2, zl_m3, zl_32, zl_280] at c5 c9 c11 c15 c16 ⊢); omega), if_neg (by (try simp only [zlt, zle, zeq, zl_0, zl_1, zl_2, zl_3, zl_4, zl_5, zl_6, zl_7, zl_8, zl_9, zl_10, zl_11, zl_12, zl_13, zl_19, zl_20, zl_30, zl_64, zl_99, zl_100, zl_299, zl_300, zl_399, zl_999, zl_9999, zl_m1, zl_m2, zl_m3, zl_32, zl_280] at c5 c9 c11 c15 c16 ⊢); omega), if_neg (by (try simp only [zlt, zle, zeq, zl_0, zl_1, zl_2, zl_3, zl_4, zl_5, zl_6, zl_7, zl_8, zl_9, zl_10, zl_11, zl_12, zl_13, zl_19, zl_20, zl_30, zl_64, zl_99, zl_100, zl_299, zl_300, zl_399, zl_999, zl_9999, zl_m1, zl_m2, zl_m3, zl_32, zl_280] at c5 c9 c11 c15 c16 ⊢); omega), if_neg (by (try simp only [zlt, zle, zeq, zl_0, zl_1, zl_2, zl_3, zl_4, zl_5, zl_6, zl_7, zl_8, zl_9, zl_10, zl_11, zl_12, zl_13, zl_19, zl_20, zl_30, zl_64, zl_99, zl_100, zl_299, zl_300, zl_399, zl_999, zl_9999, zl_m1, zl_m2, zl_m3, zl_32, zl_280] at c5 c9 c11 c15 c16 ⊢); omega)]; first | done | ((try simp only [zlt, zle, zeq, zl_0, zl_1, zl_2, zl_3, zl_4, zl_5, zl_6, zl_7, zl_8, zl_9, zl_10, zl_11, zl_12, zl_13, zl_19, zl_20, zl_30, zl_64, zl_99, zl_100, zl_299, zl_300, zl_399, zl_999, zl_9999, zl_m1, zl_m2, zl_m3, zl_32, zl_280] at c5 c9 c11 c15 c16 ⊢); omega)))) dX12_about_90 (Nat.le_of_ble_eq_true rfl) (Nat.le_of_ble_eq_true rfl)
    · obtain rfl : r13 = 0 := by rw [hrh14, if_neg c15]
      refine lv_if_eq (tgt := 75) hx hb dX12_about_63 (by decide) (fun c17 => ?_) (fun h => absurd (by decide) h)
      refine lv_iload_n hx hb dX12_about_75 rfl (lv_at hl 1 rfl) ?_
      refine lv_bipush (v := 11) hx hb dX12_about_76 (by decide) ?_
      refine lv_icmp_ne (tgt := 88) hx hb dX12_about_78 (by decide) (fun c18 => ?_) (fun c18 => ?_)
      · refine lv_bipush (v := (-2)) hx hb dX12_about_88 (by decide) ?_
        exact z_ret Z rfl hP hD hS ((by first | rfl | assumption | (rw [if_pos (by (try simp only [zlt, zle, zeq, zl_0, zl_1, zl_2, zl_3, zl_4, zl_5, zl_6, zl_7, zl_8, zl_9, zl_10, zl_11, zl_12, zl_13, zl_19, zl_20, zl_30, zl_64, zl_99, zl_100, zl_299, zl_300, zl_399, zl_999, zl_9999, zl_m1, zl_m2, zl_m3, zl_32, zl_280] at c5 c9 c11 c15 c17 c18 ⊢); omega)]; first | done | ((try simp only [zlt, zle, zeq, zl_0, zl_1, zl_2, zl_3, zl_4, zl_5, zl_6, zl_7, zl_8, zl_9, zl_10, zl_11, zl_12, zl_13, zl_19, zl_20, zl_30, zl_64, zl_99, zl_100, zl_299, zl_300, zl_399, zl_999, zl_9999, zl_m1, zl_m2, zl_m3, zl_32, zl_280] at c5 c9 c11 c15 c17 c18 ⊢); omega)) | (rw [if_neg (by (try simp only [zlt, zle, zeq, zl_0, zl_1, zl_2, zl_3, zl_4, zl_5, zl_6, zl_7, zl_8, zl_9, zl_10, zl_11, zl_12, zl_13, zl_19, zl_20, zl_30, zl_64, zl_99, zl_100, zl_299, zl_300, zl_399, zl_999, zl_9999, zl_m1, zl_m2, zl_m3, zl_32, zl_280] at c5 c9 c11 c15 c17 c18 ⊢); omega), if_pos (by (try simp only [zlt, zle, zeq, zl_0, zl_1, zl_2, zl_3, zl_4, zl_5, zl_6, zl_7, zl_8, zl_9, zl_10, zl_11, zl_12, zl_13, zl_19, zl_20, zl_30, zl_64, zl_99, zl_100, zl_299, zl_300, zl_399, zl_999, zl_9999, zl_m1, zl_m2, zl_m3, zl_32, zl_280] at c5 c9 c11 c15 c17 c18 ⊢); omega)]; first | done | ((try simp only [zlt, zle, zeq, zl_0, zl_1, zl_2, zl_3, zl_4, zl_5, zl_6, zl_7, zl_8, zl_9, zl_10, zl_11, zl_12, zl_13, zl_19, zl_20, zl_30, zl_64, zl_99, zl_100, zl_299, zl_300, zl_399, zl_999, zl_9999, zl_m1, zl_m2, zl_m3, zl_32, zl_280] at c5 c9 c11 c15 c17 c18 ⊢); omega)) | (rw [if_neg (by (try simp only [zlt, zle, zeq, zl_0, zl_1, zl_2, zl_3, zl_4, zl_5, zl_6, zl_7, zl_8, zl_9, zl_10, zl_11, zl_12, zl_13, zl_19, zl_20, zl_30, zl_64, zl_99, zl_100, zl_299, zl_300, zl_399, zl_999, zl_9999, zl_m1, zl_m2, zl_m3, zl_32, zl_280] at c5 c9 c11 c15 c17 c18 ⊢); omega), if_neg (by (try simp only [zlt, zle, zeq, zl_0, zl_1, zl_2, zl_3, zl_4, zl_5, zl_6, zl_7, zl_8, zl_9, zl_10, zl_11, zl_12, zl_13, zl_19, zl_20, zl_30, zl_64, zl_99, zl_100, zl_299, zl_300, zl_399, zl_999, zl_9999, zl_m1, zl_m2, zl_m3, zl_32, zl_280] at c5 c9 c11 c15 c17 c18 ⊢); omega), if_pos (by (try simp only [zlt, zle, zeq, zl_0, zl_1, zl_2, zl_3, zl_4, zl_5, zl_6, zl_7, zl_8, zl_9, zl_10, zl_11, zl_12, zl_13, zl_19, zl_20, zl_30, zl_64, zl_99, zl_100, zl_299, zl_300, zl_399, zl_999, zl_9999, zl_m1, zl_m2, zl_m3, zl_32, zl_280] at c5 c9 c11 c15 c17 c18 ⊢); omega)]; first | done | ((try simp only [zlt, zle, zeq, zl_0, zl_1, zl_2, zl_3, zl_4, zl_5, zl_6, zl_7, zl_8, zl_9, zl_10, zl_11, zl_12, zl_13, zl_19, zl_20, zl_30, zl_64, zl_99, zl_100, zl_299, zl_300, zl_399, zl_999, zl_9999, zl_m1, zl_m2, zl_m3, zl_32, zl_280] at c5 c9 c11 c15 c17 c18 ⊢); omega)) | (rw [if_neg (by (try simp only [zlt, zle, zeq, zl_0, zl_1, zl_2, zl_3, zl_4, zl_5, zl_6, zl_7, zl_8, zl_9, zl_10, zl_11, zl_12, zl_13, zl_19, zl_20, zl_30, zl_64, zl_99, zl_100, zl_299, zl_300, zl_399, zl_999, zl_9999, zl_m1, zl_m2, zl_m3, zl_32, zl_280] at c5 c9 c11 c15 c17 c18 ⊢); omega), if_neg (by (try simp only [zlt, zle, zeq, zl_0, zl_1, zl_2, zl_3, zl_4, zl_5, zl_6, zl_7, zl_8, zl_9, zl_10, zl_11, zl_12, zl_13, zl_19, zl_20, zl_30, zl_64, zl_99, zl_100, zl_299, zl_300, zl_399, zl_999, zl_9999, zl_m1, zl_m2, zl_m3, zl_32, zl_280] at c5 c9 c11 c15 c17 c18 ⊢); omega), if_neg (by (try simp only [zlt, zle, zeq, zl_0, zl_1, zl_2, zl_3, zl_4, zl_5, zl_6, zl_7, zl_8, zl_9, zl_10, zl_11, zl_12, zl_13, zl_19, zl_20, zl_30, zl_64, zl_99, zl_100, zl_299, zl_300, zl_399, zl_999, zl_9999, zl_m1, zl_m2, zl_m3, zl_32, zl_280] at c5 c9 c11 c15 c17 c18 ⊢); omega), if_pos (by (try simp only [zlt, zle, zeq, zl_0, zl_1, zl_2, zl_3, zl_4, zl_5, zl_6, zl_7, zl_8, zl_9, zl_10, zl_11, zl_12, zl_13, zl_19, zl_20, zl_30, zl_64, zl_99, zl_100, zl_299, zl_300, zl_399, zl_999, zl_9999, zl_m1, zl_m2, zl_m3, zl_32, zl_280] at c5 c9 c11 c15 c17 c18 ⊢); omega)]; first | done | ((try simp only [zlt, zle, zeq, zl_0, zl_1, zl_2, zl_3, zl_4, zl_5, zl_6, zl_7, zl_8, zl_9, zl_10, zl_11, zl_12, zl_13, zl_19, zl_20, zl_30, zl_64, zl_99, zl_100, zl_299, zl_300, zl_399, zl_999, zl_9999, zl_m1, zl_m2, zl_m3, zl_32, zl_280] at c5 c9 c11 c15 c17 c18 ⊢); omega)) | (rw [if_neg (by (try simp only [zlt, zle, zeq, zl_0, zl_1, zl_2, zl_3, zl_4, zl_5, zl_6, zl_7, zl_8, zl_9, zl_10, zl_11, zl_12, zl_13, zl_19, zl_20, zl_30, zl_64, zl_99, zl_100, zl_299, zl_300, zl_399, zl_999, zl_9999, zl_m1, zl_m2, zl_m3, zl_32, zl_280] at c5 c9 c11 c15 c17 c18 ⊢); omega), if_neg (by (try simp only [zlt, zle, zeq, zl_0, zl_1, zl_2, zl_3, zl_4, zl_5, zl_6, zl_7, zl_8, zl_9, zl_10, zl_11, zl_12, zl_13, zl_19, zl_20, zl_30, zl_64, zl_99, zl_100, zl_299, zl_300, zl_399, zl_999, zl_9999, zl_m1, zl_m2, zl_m3, zl_32, zl_280] at c5 c9 c11 c15 c17 c18 ⊢); omega), if_neg (by (try simp only [zlt, zle, zeq, zl_0, zl_1, zl_2, zl_3, zl_4, zl_5, zl_6, zl_7, zl_8, zl_9, zl_10, zl_11, zl_12, zl_13, zl_19, zl_20, zl_30, zl_64, zl_99, zl_100, zl_299, zl_300, zl_399, zl_999, zl_9999, zl_m1, zl_m2, zl_m3, zl_32, zl_280] at c5 c9 c11 c15 c17 c18 ⊢); omega), if_neg (by (try simp only [zlt, zle, zeq, zl_0, zl_1, zl_2, zl_3, zl_4, zl_5, zl_6, zl_7, zl_8, zl_9, zl_10, zl_11, zl_12, zl_13, zl_19, zl_20, zl_30, zl_64, zl_99, zl_100, zl_299, zl_300, zl_399, zl_999, zl_9999, zl_m1, zl_m2, zl_m3, zl_32, zl_280] at c5 c9 c11 c15 c17 c18 ⊢); omega)]; first | done | ((try simp only [zlt, zle, zeq, zl_0, zl_1, zl_2, zl_3, zl_4, zl_5, zl_6, zl_7, zl_8, zl_9, zl_10, zl_11, zl_12, zl_13, zl_19, zl_20, zl_30, zl_64, zl_99, zl_100, zl_299, zl_300, zl_399, zl_999, zl_9999, zl_m1, zl_m2, zl_m3, zl_32, zl_280] at c5 c9 c11 c15 c17 c18 ⊢); omega)))) dX12_about_90 (Nat.le_of_ble_eq_true rfl) (Nat.le_of_ble_eq_true rfl)
      · refine lv_aload_n hx hb dX12_about_81 rfl (lv_at hl 0 rfl) ?_
        refine z_get Z i_X12 hP 0 rfl rfl 4 (by decide) bw_1023 rfl dX12_about_82 ?_
        refine lv_goto (tgt := 90) hx hb dX12_about_85 (by decide) ?_
        exact z_ret Z rfl hP hD hS ((by first | rfl | assumption | (rw [if_pos (by (try simp only [zlt, zle, zeq, zl_0, zl_1, zl_2, zl_3, zl_4, zl_5, zl_6, zl_7, zl_8, zl_9, zl_10, zl_11, zl_12, zl_13, zl_19, zl_20, zl_30, zl_64, zl_99, zl_100, zl_299, zl_300, zl_399, zl_999, zl_9999, zl_m1, zl_m2, zl_m3, zl_32, zl_280] at c5 c9 c11 c15 c17 c18 ⊢); omega)]; first | done | ((try simp only [zlt, zle, zeq, zl_0, zl_1, zl_2, zl_3, zl_4, zl_5, zl_6, zl_7, zl_8, zl_9, zl_10, zl_11, zl_12, zl_13, zl_19, zl_20, zl_30, zl_64, zl_99, zl_100, zl_299, zl_300, zl_399, zl_999, zl_9999, zl_m1, zl_m2, zl_m3, zl_32, zl_280] at c5 c9 c11 c15 c17 c18 ⊢); omega)) | (rw [if_neg (by (try simp only [zlt, zle, zeq, zl_0, zl_1, zl_2, zl_3, zl_4, zl_5, zl_6, zl_7, zl_8, zl_9, zl_10, zl_11, zl_12, zl_13, zl_19, zl_20, zl_30, zl_64, zl_99, zl_100, zl_299, zl_300, zl_399, zl_999, zl_9999, zl_m1, zl_m2, zl_m3, zl_32, zl_280] at c5 c9 c11 c15 c17 c18 ⊢); omega), if_pos (by (try simp only [zlt, zle, zeq, zl_0, zl_1, zl_2, zl_3, zl_4, zl_5, zl_6, zl_7, zl_8, zl_9, zl_10, zl_11, zl_12, zl_13, zl_19, zl_20, zl_30, zl_64, zl_99, zl_100, zl_299, zl_300, zl_399, zl_999, zl_9999, zl_m1, zl_m2, zl_m3, zl_32, zl_280] at c5 c9 c11 c15 c17 c18 ⊢); omega)]; first | done | ((try simp only [zlt, zle, zeq, zl_0, zl_1, zl_2, zl_3, zl_4, zl_5, zl_6, zl_7, zl_8, zl_9, zl_10, zl_11, zl_12, zl_13, zl_19, zl_20, zl_30, zl_64, zl_99, zl_100, zl_299, zl_300, zl_399, zl_999, zl_9999, zl_m1, zl_m2, zl_m3, zl_32, zl_280] at c5 c9 c11 c15 c17 c18 ⊢); omega)) | (rw [if_neg (by (try simp only [zlt, zle, zeq, zl_0, zl_1, zl_2, zl_3, zl_4, zl_5, zl_6, zl_7, zl_8, zl_9, zl_10, zl_11, zl_12, zl_13, zl_19, zl_20, zl_30, zl_64, zl_99, zl_100, zl_299, zl_300, zl_399, zl_999, zl_9999, zl_m1, zl_m2, zl_m3, zl_32, zl_280] at c5 c9 c11 c15 c17 c18 ⊢); omega), if_neg (by (try simp only [zlt, zle, zeq, zl_0, zl_1, zl_2, zl_3, zl_4, zl_5, zl_6, zl_7, zl_8, zl_9, zl_10, zl_11, zl_12, zl_13, zl_19, zl_20, zl_30, zl_64, zl_99, zl_100, zl_299, zl_300, zl_399, zl_999, zl_9999, zl_m1, zl_m2, zl_m3, zl_32, zl_280] at c5 c9 c11 c15 c17 c18 ⊢); omega), if_pos (by (try simp only [zlt, zle, zeq, zl_0, zl_1, zl_2, zl_3, zl_4, zl_5, zl_6, zl_7, zl_8, zl_9, zl_10, zl_11, zl_12, zl_13, zl_19, zl_20, zl_30, zl_64, zl_99, zl_100, zl_299, zl_300, zl_399, zl_999, zl_9999, zl_m1, zl_m2, zl_m3, zl_32, zl_280] at c5 c9 c11 c15 c17 c18 ⊢); omega)]; first | done | ((try simp only [zlt, zle, zeq, zl_0, zl_1, zl_2, zl_3, zl_4, zl_5, zl_6, zl_7, zl_8, zl_9, zl_10, zl_11, zl_12, zl_13, zl_19, zl_20, zl_30, zl_64, zl_99, zl_100, zl_299, zl_300, zl_399, zl_999, zl_9999, zl_m1, zl_m2, zl_m3, zl_32, zl_280] at c5 c9 c11 c15 c17 c18 ⊢); omega)) | (rw [if_neg (by (try simp only [zlt, zle, zeq, zl_0, zl_1, zl_2, zl_3, zl_4, zl_5, zl_6, zl_7, zl_8, zl_9, zl_10, zl_11, zl_12, zl_13, zl_19, zl_20, zl_30, zl_64, zl_99, zl_100, zl_299, zl_300, zl_399, zl_999, zl_9999, zl_m1, zl_m2, zl_m3, zl_32, zl_280] at c5 c9 c11 c15 c17 c18 ⊢); omega), if_neg (by (try simp only [zlt, zle, zeq, zl_0, zl_1, zl_2, zl_3, zl_4, zl_5, zl_6, zl_7, zl_8, zl_9, zl_10, zl_11, zl_12, zl_13, zl_19, zl_20, zl_30, zl_64, zl_99, zl_100, zl_299, zl_300, zl_399, zl_999, zl_9999, zl_m1, zl_m2, zl_m3, zl_32, zl_280] at c5 c9 c11 c15 c17 c18 ⊢); omega), if_neg (by (try simp only [zlt, zle, zeq, zl_0, zl_1, zl_2, zl_3, zl_4, zl_5, zl_6, zl_7, zl_8, zl_9, zl_10, zl_11, zl_12, zl_13, zl_19, zl_20, zl_30, zl_64, zl_99, zl_100, zl_299, zl_300, zl_399, zl_999, zl_9999, zl_m1, zl_m2, zl_m3, zl_32, zl_280] at c5 c9 c11 c15 c17 c18 ⊢); omega), if_pos (by (try simp only [zlt, zle, zeq, zl_0, zl_1, zl_2, zl_3, zl_4, zl_5, zl_6, zl_7, zl_8, zl_9, zl_10, zl_11, zl_12, zl_13, zl_19, zl_20, zl_30, zl_64, zl_99, zl_100, zl_299, zl_300, zl_399, zl_999, zl_9999, zl_m1, zl_m2, zl_m3, zl_32, zl_280] at c5 c9 c11 c15 c17 c18 ⊢); omega)]; first | done | ((try simp only [zlt, zle, zeq, zl_0, zl_1, zl_2, zl_3, zl_4, zl_5, zl_6, zl_7, zl_8, zl_9, zl_10, zl_11, zl_12, zl_13, zl_19, zl_20, zl_30, zl_64, zl_99, zl_100, zl_299, zl_300, zl_399, zl_999, zl_9999, zl_m1, zl_m2, zl_m3, zl_32, zl_280] at c5 c9 c11 c15 c17 c18 ⊢); omega)) | (rw [if_neg (by (try simp only [zlt, zle, zeq, zl_0, zl_1, zl_2, zl_3, zl_4, zl_5, zl_6, zl_7, zl_8, zl_9, zl_10, zl_11, zl_12, zl_13, zl_19, zl_20, zl_30, zl_64, zl_99, zl_100, zl_299, zl_300, zl_399, zl_999, zl_9999, zl_m1, zl_m2, zl_m3, zl_32, zl_280] at c5 c9 c11 c15 c17 c18 ⊢); omega), if_neg (by (try simp only [zlt, zle, zeq, zl_0, zl_1, zl_2, zl_3, zl_4, zl_5, zl_6, zl_7, zl_8, zl_9, zl_10, zl_11, zl_12, zl_13, zl_19, zl_20, zl_30, zl_64, zl_99, zl_100, zl_299, zl_300, zl_399, zl_999, zl_9999, zl_m1, zl_m2, zl_m3, zl_32, zl_280] at c5 c9 c11 c15 c17 c18 ⊢); omega), if_neg (by (try simp only [zlt, zle, zeq, zl_0, zl_1, zl_2, zl_3, zl_4, zl_5, zl_6, zl_7, zl_8, zl_9, zl_10, zl_11, zl_12, zl_13, zl_19, zl_20, zl_30, zl_64, zl_99, zl_100, zl_299, zl_300, zl_399, zl_999, zl_9999, zl_m1, zl_m2, zl_m3, zl_32, zl_280] at c5 c9 c11 c15 c17 c18 ⊢); omega), if_neg (by (try simp only [zlt, zle, zeq, zl_0, zl_1, zl_2, zl_3, zl_4, zl_5, zl_6, zl_7, zl_8, zl_9, zl_10, zl_11, zl_12, zl_13, zl_19, zl_20, zl_30, zl_64, zl_99, zl_100, zl_299, zl_300, zl_399, zl_999, zl_9999, zl_m1, zl_m2, zl_m3, zl_32, zl_280] at c5 c9 c11 c15 c17 c18 ⊢); omega)]; first | done | ((try simp only [zlt, zle, zeq, zl_0, zl_1, zl_2, zl_3, zl_4, zl_5, zl_6, zl_7, zl_8, zl_9, zl_10, zl_11, zl_12, zl_13, zl_19, zl_20, zl_30, zl_64, zl_99, zl_100, zl_299, zl_300, zl_399, zl_999, zl_9999, zl_m1, zl_m2, zl_m3, zl_32, zl_280] at c5 c9 c11 c15 c17 c18 ⊢); omega)))) dX12_about_90 (Nat.le_of_ble_eq_true rfl) (Nat.le_of_ble_eq_true rfl)
set_option maxHeartbeats 4000000 in
set_option maxRecDepth 100000 in
theorem c_X12_four_0 (l : Launch) (D : va_G) (cI cM cT : ClassId) (q : Nat) (aA : Nat) (aI : Nat) (aT : Nat) (aP : Nat) (pI : Nat) (nM : Nat) (vA : Nat) (tR : Nat) (rW : Nat) (sP : Nat) (oA : Nat) (bS : Nat) (aS : Nat) (aO : Nat) (cS : Nat) (wY : Nat) (f : Nat → Int32) (w : Int32) : Cv l D (ty3 cI cM cT) yX12_four cX12_four 3 0 0 0 [.ref q, .int w] ([(q, .inr (12, [.ref aA, .ref aI, .ref aT, .ref aP, .int 0, .int (-1), .int (-1), .int 0, .int 0, .int 0, .int 0, .long 0, .int 0, .int 0, .int 0, .int 0, .ref pI, .int 0, .int 0, .int 0, .int 0, .int 0, .ref nM, .ref vA, .ref tR, .int 0, .int 0, .int 0, .ref rW, .ref sP, .ref oA, .ref bS, .ref aS, .ref aO, .ref cS, .ref wY])), (aP, .inl (cI, 300, .inl f))]) (fun u => ∃ (g : Nat → Int32), u = [(q, .inr (12, [.ref aA, .ref aI, .ref aT, .ref aP, .int 4, .int (-1), .int (-1), .int 0, .int 0, .int 0, .int 0, .long 0, .int 0, .int 0, .int 0, .int 0, .ref pI, .int 0, .int 0, .int 0, .int 0, .int 0, .ref nM, .ref vA, .ref tR, .int 0, .int 0, .int 0, .ref rW, .ref sP, .ref oA, .ref bS, .ref aS, .ref aO, .ref cS, .ref wY])), (aP, .inl (cI, 300, .inl g))]) := by
  refine Cv.of (by decide +kernel) (Nat.le_of_ble_eq_true rfl) ?_
  intro p e s m below meth c A ls Z hin hP hD hl
  have hx := Z.1
  have hb := Z.2.1
  have hS : va_S A s.heap s.heap [] := va_S.rf
  have hl : lv_has ls 3 [(0, .ref q), (1, .int w)] := hl
  skip
  refine lv_bipush (v := 24) hx hb dX12_four_0 (by decide) ?_
  refine lv_istore_n (lv' := [(2, .int 24), (0, .ref q), (1, .int w)]) hx hb dX12_four_2 rfl hl (by decide) rfl (fun ls hl => ?_)
  refine lv_iload_n hx hb dX12_four_3 rfl (lv_at hl 0 rfl) ?_
  refine lv_if_lt (tgt := 39) hx hb dX12_four_4 (by decide) (fun h => absurd h (by decide)) (fun c1 => ?_)
  refine lv_aload_n hx hb dX12_four_7 rfl (lv_at hl 1 rfl) ?_
  refine z_get Z i_X12 hP 0 rfl rfl 3 (by decide) bw_1022 rfl dX12_four_8 ?_
  refine lv_aload_n hx hb dX12_four_11 rfl (lv_at hl 1 rfl) ?_
  refine z_get Z i_X12 hP 0 rfl rfl 4 (by decide) bw_1023 rfl dX12_four_12 ?_
  refine lv_iload_n hx hb dX12_four_15 rfl (lv_at hl 2 rfl) ?_
  refine lv_iload_n hx hb dX12_four_16 rfl (lv_at hl 0 rfl) ?_
  refine lv_ishr hx hb dX12_four_17 ?_
  refine lv_sipush (v := 255) hx hb dX12_four_18 (by decide) ?_
  refine lv_iand hx hb dX12_four_21 ?_
  refine z_iast Z hP hD hS 1 0 rfl rfl (vin (by decide)) dX12_four_22 (fun H locs hP hD hS => ?_)
  have hP : va_P D vwCl ([(q, .inr (12, [.ref aA, .ref aI, .ref aT, .ref aP, .int 0, .int (-1), .int (-1), .int 0, .int 0, .int 0, .int 0, .long 0, .int 0, .int 0, .int 0, .int 0, .ref pI, .int 0, .int 0, .int 0, .int 0, .int 0, .ref nM, .ref vA, .ref tR, .int 0, .int 0, .int 0, .ref rW, .ref sP, .ref oA, .ref bS, .ref aS, .ref aO, .ref cS, .ref wY])), (aP, .inl (cI, 300, .inl (upd f (0 : Int32).toNatClampNeg ((w >>> ((24 : Int32) &&& 31)) &&& (255 : Int32)))))]) H := hP
  have hD : va_D A ([(q, .inr (12, [.ref aA, .ref aI, .ref aT, .ref aP, .int 0, .int (-1), .int (-1), .int 0, .int 0, .int 0, .int 0, .long 0, .int 0, .int 0, .int 0, .int 0, .ref pI, .int 0, .int 0, .int 0, .int 0, .int 0, .ref nM, .ref vA, .ref tR, .int 0, .int 0, .int 0, .ref rW, .ref sP, .ref oA, .ref bS, .ref aS, .ref aO, .ref cS, .ref wY])), (aP, .inl (cI, 300, .inl (upd f (0 : Int32).toNatClampNeg ((w >>> ((24 : Int32) &&& 31)) &&& (255 : Int32)))))]) := hD
  refine lv_aload_n hx hb dX12_four_23 rfl (lv_at hl 1 rfl) ?_
  refine lv_dup hx hb dX12_four_24 rfl ?_
  refine z_get Z i_X12 hP 0 rfl rfl 4 (by decide) bw_1023 rfl dX12_four_25 ?_
  refine lv_iconst (v := 1) hx hb dX12_four_28 (by decide) ?_
  refine lv_iadd hx hb dX12_four_29 ?_
  refine z_topi (y := 1) (by decide) ?_
  refine z_put Z i_X12 tyX12 tyX12_ok nmX12 hP hD hS 0 rfl rfl 4 (by decide) bw_1023 rfl rfl rfl (Nat.le_of_ble_eq_true rfl) dX12_four_30 (fun H locs hP hD hS => ?_)
  have hP : va_P D vwCl ([(q, .inr (12, [.ref aA, .ref aI, .ref aT, .ref aP, .int 1, .int (-1), .int (-1), .int 0, .int 0, .int 0, .int 0, .long 0, .int 0, .int 0, .int 0, .int 0, .ref pI, .int 0, .int 0, .int 0, .int 0, .int 0, .ref nM, .ref vA, .ref tR, .int 0, .int 0, .int 0, .ref rW, .ref sP, .ref oA, .ref bS, .ref aS, .ref aO, .ref cS, .ref wY])), (aP, .inl (cI, 300, .inl (upd f (0 : Int32).toNatClampNeg ((w >>> ((24 : Int32) &&& 31)) &&& (255 : Int32)))))]) H := hP
  have hD : va_D A ([(q, .inr (12, [.ref aA, .ref aI, .ref aT, .ref aP, .int 1, .int (-1), .int (-1), .int 0, .int 0, .int 0, .int 0, .long 0, .int 0, .int 0, .int 0, .int 0, .ref pI, .int 0, .int 0, .int 0, .int 0, .int 0, .ref nM, .ref vA, .ref tR, .int 0, .int 0, .int 0, .ref rW, .ref sP, .ref oA, .ref bS, .ref aS, .ref aO, .ref cS, .ref wY])), (aP, .inl (cI, 300, .inl (upd f (0 : Int32).toNatClampNeg ((w >>> ((24 : Int32) &&& 31)) &&& (255 : Int32)))))]) := hD
  refine lv_iinc (v := 16) (lv' := [(2, .int 16), (0, .ref q), (1, .int w)]) hx hb dX12_four_33 hl (k := 0) rfl (by decide) (by decide) rfl (fun ls hl => ?_)
  refine lv_goto (tgt := 3) hx hb dX12_four_36 (by decide) ?_
  refine lv_iload_n hx hb dX12_four_3 rfl (lv_at hl 0 rfl) ?_
  refine lv_if_lt (tgt := 39) hx hb dX12_four_4 (by decide) (fun h => absurd h (by decide)) (fun c2 => ?_)
  refine lv_aload_n hx hb dX12_four_7 rfl (lv_at hl 1 rfl) ?_
  refine z_get Z i_X12 hP 0 rfl rfl 3 (by decide) bw_1022 rfl dX12_four_8 ?_
  refine lv_aload_n hx hb dX12_four_11 rfl (lv_at hl 1 rfl) ?_
  refine z_get Z i_X12 hP 0 rfl rfl 4 (by decide) bw_1023 rfl dX12_four_12 ?_
  refine lv_iload_n hx hb dX12_four_15 rfl (lv_at hl 2 rfl) ?_
  refine lv_iload_n hx hb dX12_four_16 rfl (lv_at hl 0 rfl) ?_
  refine lv_ishr hx hb dX12_four_17 ?_
  refine lv_sipush (v := 255) hx hb dX12_four_18 (by decide) ?_
  refine lv_iand hx hb dX12_four_21 ?_
  refine z_iast Z hP hD hS 1 0 rfl rfl (vin (by decide)) dX12_four_22 (fun H locs hP hD hS => ?_)
  have hP : va_P D vwCl ([(q, .inr (12, [.ref aA, .ref aI, .ref aT, .ref aP, .int 1, .int (-1), .int (-1), .int 0, .int 0, .int 0, .int 0, .long 0, .int 0, .int 0, .int 0, .int 0, .ref pI, .int 0, .int 0, .int 0, .int 0, .int 0, .ref nM, .ref vA, .ref tR, .int 0, .int 0, .int 0, .ref rW, .ref sP, .ref oA, .ref bS, .ref aS, .ref aO, .ref cS, .ref wY])), (aP, .inl (cI, 300, .inl (upd (upd f (0 : Int32).toNatClampNeg ((w >>> ((24 : Int32) &&& 31)) &&& (255 : Int32))) (1 : Int32).toNatClampNeg ((w >>> ((16 : Int32) &&& 31)) &&& (255 : Int32)))))]) H := hP
  have hD : va_D A ([(q, .inr (12, [.ref aA, .ref aI, .ref aT, .ref aP, .int 1, .int (-1), .int (-1), .int 0, .int 0, .int 0, .int 0, .long 0, .int 0, .int 0, .int 0, .int 0, .ref pI, .int 0, .int 0, .int 0, .int 0, .int 0, .ref nM, .ref vA, .ref tR, .int 0, .int 0, .int 0, .ref rW, .ref sP, .ref oA, .ref bS, .ref aS, .ref aO, .ref cS, .ref wY])), (aP, .inl (cI, 300, .inl (upd (upd f (0 : Int32).toNatClampNeg ((w >>> ((24 : Int32) &&& 31)) &&& (255 : Int32))) (1 : Int32).toNatClampNeg ((w >>> ((16 : Int32) &&& 31)) &&& (255 : Int32)))))]) := hD
  refine lv_aload_n hx hb dX12_four_23 rfl (lv_at hl 1 rfl) ?_
  refine lv_dup hx hb dX12_four_24 rfl ?_
  refine z_get Z i_X12 hP 0 rfl rfl 4 (by decide) bw_1023 rfl dX12_four_25 ?_
  refine lv_iconst (v := 1) hx hb dX12_four_28 (by decide) ?_
  refine lv_iadd hx hb dX12_four_29 ?_
  refine z_topi (y := 2) (by decide) ?_
  refine z_put Z i_X12 tyX12 tyX12_ok nmX12 hP hD hS 0 rfl rfl 4 (by decide) bw_1023 rfl rfl rfl (Nat.le_of_ble_eq_true rfl) dX12_four_30 (fun H locs hP hD hS => ?_)
  have hP : va_P D vwCl ([(q, .inr (12, [.ref aA, .ref aI, .ref aT, .ref aP, .int 2, .int (-1), .int (-1), .int 0, .int 0, .int 0, .int 0, .long 0, .int 0, .int 0, .int 0, .int 0, .ref pI, .int 0, .int 0, .int 0, .int 0, .int 0, .ref nM, .ref vA, .ref tR, .int 0, .int 0, .int 0, .ref rW, .ref sP, .ref oA, .ref bS, .ref aS, .ref aO, .ref cS, .ref wY])), (aP, .inl (cI, 300, .inl (upd (upd f (0 : Int32).toNatClampNeg ((w >>> ((24 : Int32) &&& 31)) &&& (255 : Int32))) (1 : Int32).toNatClampNeg ((w >>> ((16 : Int32) &&& 31)) &&& (255 : Int32)))))]) H := hP
  have hD : va_D A ([(q, .inr (12, [.ref aA, .ref aI, .ref aT, .ref aP, .int 2, .int (-1), .int (-1), .int 0, .int 0, .int 0, .int 0, .long 0, .int 0, .int 0, .int 0, .int 0, .ref pI, .int 0, .int 0, .int 0, .int 0, .int 0, .ref nM, .ref vA, .ref tR, .int 0, .int 0, .int 0, .ref rW, .ref sP, .ref oA, .ref bS, .ref aS, .ref aO, .ref cS, .ref wY])), (aP, .inl (cI, 300, .inl (upd (upd f (0 : Int32).toNatClampNeg ((w >>> ((24 : Int32) &&& 31)) &&& (255 : Int32))) (1 : Int32).toNatClampNeg ((w >>> ((16 : Int32) &&& 31)) &&& (255 : Int32)))))]) := hD
  refine lv_iinc (v := 8) (lv' := [(2, .int 8), (0, .ref q), (1, .int w)]) hx hb dX12_four_33 hl (k := 0) rfl (by decide) (by decide) rfl (fun ls hl => ?_)
  refine lv_goto (tgt := 3) hx hb dX12_four_36 (by decide) ?_
  refine lv_iload_n hx hb dX12_four_3 rfl (lv_at hl 0 rfl) ?_
  refine lv_if_lt (tgt := 39) hx hb dX12_four_4 (by decide) (fun h => absurd h (by decide)) (fun c3 => ?_)
  refine lv_aload_n hx hb dX12_four_7 rfl (lv_at hl 1 rfl) ?_
  refine z_get Z i_X12 hP 0 rfl rfl 3 (by decide) bw_1022 rfl dX12_four_8 ?_
  refine lv_aload_n hx hb dX12_four_11 rfl (lv_at hl 1 rfl) ?_
  refine z_get Z i_X12 hP 0 rfl rfl 4 (by decide) bw_1023 rfl dX12_four_12 ?_
  refine lv_iload_n hx hb dX12_four_15 rfl (lv_at hl 2 rfl) ?_
  refine lv_iload_n hx hb dX12_four_16 rfl (lv_at hl 0 rfl) ?_
  refine lv_ishr hx hb dX12_four_17 ?_
  refine lv_sipush (v := 255) hx hb dX12_four_18 (by decide) ?_
  refine lv_iand hx hb dX12_four_21 ?_
  refine z_iast Z hP hD hS 1 0 rfl rfl (vin (by decide)) dX12_four_22 (fun H locs hP hD hS => ?_)
  have hP : va_P D vwCl ([(q, .inr (12, [.ref aA, .ref aI, .ref aT, .ref aP, .int 2, .int (-1), .int (-1), .int 0, .int 0, .int 0, .int 0, .long 0, .int 0, .int 0, .int 0, .int 0, .ref pI, .int 0, .int 0, .int 0, .int 0, .int 0, .ref nM, .ref vA, .ref tR, .int 0, .int 0, .int 0, .ref rW, .ref sP, .ref oA, .ref bS, .ref aS, .ref aO, .ref cS, .ref wY])), (aP, .inl (cI, 300, .inl (upd (upd (upd f (0 : Int32).toNatClampNeg ((w >>> ((24 : Int32) &&& 31)) &&& (255 : Int32))) (1 : Int32).toNatClampNeg ((w >>> ((16 : Int32) &&& 31)) &&& (255 : Int32))) (2 : Int32).toNatClampNeg ((w >>> ((8 : Int32) &&& 31)) &&& (255 : Int32)))))]) H := hP
  have hD : va_D A ([(q, .inr (12, [.ref aA, .ref aI, .ref aT, .ref aP, .int 2, .int (-1), .int (-1), .int 0, .int 0, .int 0, .int 0, .long 0, .int 0, .int 0, .int 0, .int 0, .ref pI, .int 0, .int 0, .int 0, .int 0, .int 0, .ref nM, .ref vA, .ref tR, .int 0, .int 0, .int 0, .ref rW, .ref sP, .ref oA, .ref bS, .ref aS, .ref aO, .ref cS, .ref wY])), (aP, .inl (cI, 300, .inl (upd (upd (upd f (0 : Int32).toNatClampNeg ((w >>> ((24 : Int32) &&& 31)) &&& (255 : Int32))) (1 : Int32).toNatClampNeg ((w >>> ((16 : Int32) &&& 31)) &&& (255 : Int32))) (2 : Int32).toNatClampNeg ((w >>> ((8 : Int32) &&& 31)) &&& (255 : Int32)))))]) := hD
  refine lv_aload_n hx hb dX12_four_23 rfl (lv_at hl 1 rfl) ?_
  refine lv_dup hx hb dX12_four_24 rfl ?_
  refine z_get Z i_X12 hP 0 rfl rfl 4 (by decide) bw_1023 rfl dX12_four_25 ?_
  refine lv_iconst (v := 1) hx hb dX12_four_28 (by decide) ?_
  refine lv_iadd hx hb dX12_four_29 ?_
  refine z_topi (y := 3) (by decide) ?_
  refine z_put Z i_X12 tyX12 tyX12_ok nmX12 hP hD hS 0 rfl rfl 4 (by decide) bw_1023 rfl rfl rfl (Nat.le_of_ble_eq_true rfl) dX12_four_30 (fun H locs hP hD hS => ?_)
  have hP : va_P D vwCl ([(q, .inr (12, [.ref aA, .ref aI, .ref aT, .ref aP, .int 3, .int (-1), .int (-1), .int 0, .int 0, .int 0, .int 0, .long 0, .int 0, .int 0, .int 0, .int 0, .ref pI, .int 0, .int 0, .int 0, .int 0, .int 0, .ref nM, .ref vA, .ref tR, .int 0, .int 0, .int 0, .ref rW, .ref sP, .ref oA, .ref bS, .ref aS, .ref aO, .ref cS, .ref wY])), (aP, .inl (cI, 300, .inl (upd (upd (upd f (0 : Int32).toNatClampNeg ((w >>> ((24 : Int32) &&& 31)) &&& (255 : Int32))) (1 : Int32).toNatClampNeg ((w >>> ((16 : Int32) &&& 31)) &&& (255 : Int32))) (2 : Int32).toNatClampNeg ((w >>> ((8 : Int32) &&& 31)) &&& (255 : Int32)))))]) H := hP
  have hD : va_D A ([(q, .inr (12, [.ref aA, .ref aI, .ref aT, .ref aP, .int 3, .int (-1), .int (-1), .int 0, .int 0, .int 0, .int 0, .long 0, .int 0, .int 0, .int 0, .int 0, .ref pI, .int 0, .int 0, .int 0, .int 0, .int 0, .ref nM, .ref vA, .ref tR, .int 0, .int 0, .int 0, .ref rW, .ref sP, .ref oA, .ref bS, .ref aS, .ref aO, .ref cS, .ref wY])), (aP, .inl (cI, 300, .inl (upd (upd (upd f (0 : Int32).toNatClampNeg ((w >>> ((24 : Int32) &&& 31)) &&& (255 : Int32))) (1 : Int32).toNatClampNeg ((w >>> ((16 : Int32) &&& 31)) &&& (255 : Int32))) (2 : Int32).toNatClampNeg ((w >>> ((8 : Int32) &&& 31)) &&& (255 : Int32)))))]) := hD
  refine lv_iinc (v := 0) (lv' := [(2, .int 0), (0, .ref q), (1, .int w)]) hx hb dX12_four_33 hl (k := 0) rfl (by decide) (by decide) rfl (fun ls hl => ?_)
  refine lv_goto (tgt := 3) hx hb dX12_four_36 (by decide) ?_
  refine lv_iload_n hx hb dX12_four_3 rfl (lv_at hl 0 rfl) ?_
  refine lv_if_lt (tgt := 39) hx hb dX12_four_4 (by decide) (fun h => absurd h (by decide)) (fun c4 => ?_)
  refine lv_aload_n hx hb dX12_four_7 rfl (lv_at hl 1 rfl) ?_
  refine z_get Z i_X12 hP 0 rfl rfl 3 (by decide) bw_1022 rfl dX12_four_8 ?_
  refine lv_aload_n hx hb dX12_four_11 rfl (lv_at hl 1 rfl) ?_
  refine z_get Z i_X12 hP 0 rfl rfl 4 (by decide) bw_1023 rfl dX12_four_12 ?_
  refine lv_iload_n hx hb dX12_four_15 rfl (lv_at hl 2 rfl) ?_
  refine lv_iload_n hx hb dX12_four_16 rfl (lv_at hl 0 rfl) ?_
  refine lv_ishr hx hb dX12_four_17 ?_
  refine lv_sipush (v := 255) hx hb dX12_four_18 (by decide) ?_
  refine lv_iand hx hb dX12_four_21 ?_
  refine z_iast Z hP hD hS 1 0 rfl rfl (vin (by decide)) dX12_four_22 (fun H locs hP hD hS => ?_)
  have hP : va_P D vwCl ([(q, .inr (12, [.ref aA, .ref aI, .ref aT, .ref aP, .int 3, .int (-1), .int (-1), .int 0, .int 0, .int 0, .int 0, .long 0, .int 0, .int 0, .int 0, .int 0, .ref pI, .int 0, .int 0, .int 0, .int 0, .int 0, .ref nM, .ref vA, .ref tR, .int 0, .int 0, .int 0, .ref rW, .ref sP, .ref oA, .ref bS, .ref aS, .ref aO, .ref cS, .ref wY])), (aP, .inl (cI, 300, .inl (upd (upd (upd (upd f (0 : Int32).toNatClampNeg ((w >>> ((24 : Int32) &&& 31)) &&& (255 : Int32))) (1 : Int32).toNatClampNeg ((w >>> ((16 : Int32) &&& 31)) &&& (255 : Int32))) (2 : Int32).toNatClampNeg ((w >>> ((8 : Int32) &&& 31)) &&& (255 : Int32))) (3 : Int32).toNatClampNeg ((w >>> ((0 : Int32) &&& 31)) &&& (255 : Int32)))))]) H := hP
  have hD : va_D A ([(q, .inr (12, [.ref aA, .ref aI, .ref aT, .ref aP, .int 3, .int (-1), .int (-1), .int 0, .int 0, .int 0, .int 0, .long 0, .int 0, .int 0, .int 0, .int 0, .ref pI, .int 0, .int 0, .int 0, .int 0, .int 0, .ref nM, .ref vA, .ref tR, .int 0, .int 0, .int 0, .ref rW, .ref sP, .ref oA, .ref bS, .ref aS, .ref aO, .ref cS, .ref wY])), (aP, .inl (cI, 300, .inl (upd (upd (upd (upd f (0 : Int32).toNatClampNeg ((w >>> ((24 : Int32) &&& 31)) &&& (255 : Int32))) (1 : Int32).toNatClampNeg ((w >>> ((16 : Int32) &&& 31)) &&& (255 : Int32))) (2 : Int32).toNatClampNeg ((w >>> ((8 : Int32) &&& 31)) &&& (255 : Int32))) (3 : Int32).toNatClampNeg ((w >>> ((0 : Int32) &&& 31)) &&& (255 : Int32)))))]) := hD
  refine lv_aload_n hx hb dX12_four_23 rfl (lv_at hl 1 rfl) ?_
  refine lv_dup hx hb dX12_four_24 rfl ?_
  refine z_get Z i_X12 hP 0 rfl rfl 4 (by decide) bw_1023 rfl dX12_four_25 ?_
  refine lv_iconst (v := 1) hx hb dX12_four_28 (by decide) ?_
  refine lv_iadd hx hb dX12_four_29 ?_
  refine z_topi (y := 4) (by decide) ?_
  refine z_put Z i_X12 tyX12 tyX12_ok nmX12 hP hD hS 0 rfl rfl 4 (by decide) bw_1023 rfl rfl rfl (Nat.le_of_ble_eq_true rfl) dX12_four_30 (fun H locs hP hD hS => ?_)
  have hP : va_P D vwCl ([(q, .inr (12, [.ref aA, .ref aI, .ref aT, .ref aP, .int 4, .int (-1), .int (-1), .int 0, .int 0, .int 0, .int 0, .long 0, .int 0, .int 0, .int 0, .int 0, .ref pI, .int 0, .int 0, .int 0, .int 0, .int 0, .ref nM, .ref vA, .ref tR, .int 0, .int 0, .int 0, .ref rW, .ref sP, .ref oA, .ref bS, .ref aS, .ref aO, .ref cS, .ref wY])), (aP, .inl (cI, 300, .inl (upd (upd (upd (upd f (0 : Int32).toNatClampNeg ((w >>> ((24 : Int32) &&& 31)) &&& (255 : Int32))) (1 : Int32).toNatClampNeg ((w >>> ((16 : Int32) &&& 31)) &&& (255 : Int32))) (2 : Int32).toNatClampNeg ((w >>> ((8 : Int32) &&& 31)) &&& (255 : Int32))) (3 : Int32).toNatClampNeg ((w >>> ((0 : Int32) &&& 31)) &&& (255 : Int32)))))]) H := hP
  have hD : va_D A ([(q, .inr (12, [.ref aA, .ref aI, .ref aT, .ref aP, .int 4, .int (-1), .int (-1), .int 0, .int 0, .int 0, .int 0, .long 0, .int 0, .int 0, .int 0, .int 0, .ref pI, .int 0, .int 0, .int 0, .int 0, .int 0, .ref nM, .ref vA, .ref tR, .int 0, .int 0, .int 0, .ref rW, .ref sP, .ref oA, .ref bS, .ref aS, .ref aO, .ref cS, .ref wY])), (aP, .inl (cI, 300, .inl (upd (upd (upd (upd f (0 : Int32).toNatClampNeg ((w >>> ((24 : Int32) &&& 31)) &&& (255 : Int32))) (1 : Int32).toNatClampNeg ((w >>> ((16 : Int32) &&& 31)) &&& (255 : Int32))) (2 : Int32).toNatClampNeg ((w >>> ((8 : Int32) &&& 31)) &&& (255 : Int32))) (3 : Int32).toNatClampNeg ((w >>> ((0 : Int32) &&& 31)) &&& (255 : Int32)))))]) := hD
  refine lv_iinc (v := (-8)) (lv' := [(2, .int (-8)), (0, .ref q), (1, .int w)]) hx hb dX12_four_33 hl (k := 0) rfl (by decide) (by decide) rfl (fun ls hl => ?_)
  refine lv_goto (tgt := 3) hx hb dX12_four_36 (by decide) ?_
  refine lv_iload_n hx hb dX12_four_3 rfl (lv_at hl 0 rfl) ?_
  refine lv_if_lt (tgt := 39) hx hb dX12_four_4 (by decide) (fun c5 => ?_) (fun h => absurd (by decide) h)
  exact z_vret Z hP hD hS (⟨(upd (upd (upd (upd f (0 : Int32).toNatClampNeg ((w >>> ((24 : Int32) &&& 31)) &&& (255 : Int32))) (1 : Int32).toNatClampNeg ((w >>> ((16 : Int32) &&& 31)) &&& (255 : Int32))) (2 : Int32).toNatClampNeg ((w >>> ((8 : Int32) &&& 31)) &&& (255 : Int32))) (3 : Int32).toNatClampNeg ((w >>> ((0 : Int32) &&& 31)) &&& (255 : Int32))), rfl⟩) dX12_four_39 (Nat.le_of_ble_eq_true rfl) (Nat.le_of_ble_eq_true rfl)
set_option maxHeartbeats 4000000 in
set_option maxRecDepth 100000 in
theorem c_X12_four_4 (l : Launch) (D : va_G) (cI cM cT : ClassId) (q : Nat) (aA : Nat) (aI : Nat) (aT : Nat) (aP : Nat) (pI : Nat) (nM : Nat) (vA : Nat) (tR : Nat) (rW : Nat) (sP : Nat) (oA : Nat) (bS : Nat) (aS : Nat) (aO : Nat) (cS : Nat) (wY : Nat) (f : Nat → Int32) (w : Int32) : Cv l D (ty3 cI cM cT) yX12_four cX12_four 3 0 0 0 [.ref q, .int w] ([(q, .inr (12, [.ref aA, .ref aI, .ref aT, .ref aP, .int 4, .int (-1), .int (-1), .int 0, .int 0, .int 0, .int 0, .long 0, .int 0, .int 0, .int 0, .int 0, .ref pI, .int 0, .int 0, .int 0, .int 0, .int 0, .ref nM, .ref vA, .ref tR, .int 0, .int 0, .int 0, .ref rW, .ref sP, .ref oA, .ref bS, .ref aS, .ref aO, .ref cS, .ref wY])), (aP, .inl (cI, 300, .inl f))]) (fun u => ∃ (g : Nat → Int32), u = [(q, .inr (12, [.ref aA, .ref aI, .ref aT, .ref aP, .int 8, .int (-1), .int (-1), .int 0, .int 0, .int 0, .int 0, .long 0, .int 0, .int 0, .int 0, .int 0, .ref pI, .int 0, .int 0, .int 0, .int 0, .int 0, .ref nM, .ref vA, .ref tR, .int 0, .int 0, .int 0, .ref rW, .ref sP, .ref oA, .ref bS, .ref aS, .ref aO, .ref cS, .ref wY])), (aP, .inl (cI, 300, .inl g))]) := by
  refine Cv.of (by decide +kernel) (Nat.le_of_ble_eq_true rfl) ?_
  intro p e s m below meth c A ls Z hin hP hD hl
  have hx := Z.1
  have hb := Z.2.1
  have hS : va_S A s.heap s.heap [] := va_S.rf
  have hl : lv_has ls 3 [(0, .ref q), (1, .int w)] := hl
  skip
  refine lv_bipush (v := 24) hx hb dX12_four_0 (by decide) ?_
  refine lv_istore_n (lv' := [(2, .int 24), (0, .ref q), (1, .int w)]) hx hb dX12_four_2 rfl hl (by decide) rfl (fun ls hl => ?_)
  refine lv_iload_n hx hb dX12_four_3 rfl (lv_at hl 0 rfl) ?_
  refine lv_if_lt (tgt := 39) hx hb dX12_four_4 (by decide) (fun h => absurd h (by decide)) (fun c1 => ?_)
  refine lv_aload_n hx hb dX12_four_7 rfl (lv_at hl 1 rfl) ?_
  refine z_get Z i_X12 hP 0 rfl rfl 3 (by decide) bw_1022 rfl dX12_four_8 ?_
  refine lv_aload_n hx hb dX12_four_11 rfl (lv_at hl 1 rfl) ?_
  refine z_get Z i_X12 hP 0 rfl rfl 4 (by decide) bw_1023 rfl dX12_four_12 ?_
  refine lv_iload_n hx hb dX12_four_15 rfl (lv_at hl 2 rfl) ?_
  refine lv_iload_n hx hb dX12_four_16 rfl (lv_at hl 0 rfl) ?_
  refine lv_ishr hx hb dX12_four_17 ?_
  refine lv_sipush (v := 255) hx hb dX12_four_18 (by decide) ?_
  refine lv_iand hx hb dX12_four_21 ?_
  refine z_iast Z hP hD hS 1 0 rfl rfl (vin (by decide)) dX12_four_22 (fun H locs hP hD hS => ?_)
  have hP : va_P D vwCl ([(q, .inr (12, [.ref aA, .ref aI, .ref aT, .ref aP, .int 4, .int (-1), .int (-1), .int 0, .int 0, .int 0, .int 0, .long 0, .int 0, .int 0, .int 0, .int 0, .ref pI, .int 0, .int 0, .int 0, .int 0, .int 0, .ref nM, .ref vA, .ref tR, .int 0, .int 0, .int 0, .ref rW, .ref sP, .ref oA, .ref bS, .ref aS, .ref aO, .ref cS, .ref wY])), (aP, .inl (cI, 300, .inl (upd f (4 : Int32).toNatClampNeg ((w >>> ((24 : Int32) &&& 31)) &&& (255 : Int32)))))]) H := hP
  have hD : va_D A ([(q, .inr (12, [.ref aA, .ref aI, .ref aT, .ref aP, .int 4, .int (-1), .int (-1), .int 0, .int 0, .int 0, .int 0, .long 0, .int 0, .int 0, .int 0, .int 0, .ref pI, .int 0, .int 0, .int 0, .int 0, .int 0, .ref nM, .ref vA, .ref tR, .int 0, .int 0, .int 0, .ref rW, .ref sP, .ref oA, .ref bS, .ref aS, .ref aO, .ref cS, .ref wY])), (aP, .inl (cI, 300, .inl (upd f (4 : Int32).toNatClampNeg ((w >>> ((24 : Int32) &&& 31)) &&& (255 : Int32)))))]) := hD
  refine lv_aload_n hx hb dX12_four_23 rfl (lv_at hl 1 rfl) ?_
  refine lv_dup hx hb dX12_four_24 rfl ?_
  refine z_get Z i_X12 hP 0 rfl rfl 4 (by decide) bw_1023 rfl dX12_four_25 ?_
  refine lv_iconst (v := 1) hx hb dX12_four_28 (by decide) ?_
  refine lv_iadd hx hb dX12_four_29 ?_
  refine z_topi (y := 5) (by decide) ?_
  refine z_put Z i_X12 tyX12 tyX12_ok nmX12 hP hD hS 0 rfl rfl 4 (by decide) bw_1023 rfl rfl rfl (Nat.le_of_ble_eq_true rfl) dX12_four_30 (fun H locs hP hD hS => ?_)
  have hP : va_P D vwCl ([(q, .inr (12, [.ref aA, .ref aI, .ref aT, .ref aP, .int 5, .int (-1), .int (-1), .int 0, .int 0, .int 0, .int 0, .long 0, .int 0, .int 0, .int 0, .int 0, .ref pI, .int 0, .int 0, .int 0, .int 0, .int 0, .ref nM, .ref vA, .ref tR, .int 0, .int 0, .int 0, .ref rW, .ref sP, .ref oA, .ref bS, .ref aS, .ref aO, .ref cS, .ref wY])), (aP, .inl (cI, 300, .inl (upd f (4 : Int32).toNatClampNeg ((w >>> ((24 : Int32) &&& 31)) &&& (255 : Int32)))))]) H := hP
  have hD : va_D A ([(q, .inr (12, [.ref aA, .ref aI, .ref aT, .ref aP, .int 5, .int (-1), .int (-1), .int 0, .int 0, .int 0, .int 0, .long 0, .int 0, .int 0, .int 0, .int 0, .ref pI, .int 0, .int 0, .int 0, .int 0, .int 0, .ref nM, .ref vA, .ref tR, .int 0, .int 0, .int 0, .ref rW, .ref sP, .ref oA, .ref bS, .ref aS, .ref aO, .ref cS, .ref wY])), (aP, .inl (cI, 300, .inl (upd f (4 : Int32).toNatClampNeg ((w >>> ((24 : Int32) &&& 31)) &&& (255 : Int32)))))]) := hD
  refine lv_iinc (v := 16) (lv' := [(2, .int 16), (0, .ref q), (1, .int w)]) hx hb dX12_four_33 hl (k := 0) rfl (by decide) (by decide) rfl (fun ls hl => ?_)
  refine lv_goto (tgt := 3) hx hb dX12_four_36 (by decide) ?_
  refine lv_iload_n hx hb dX12_four_3 rfl (lv_at hl 0 rfl) ?_
  refine lv_if_lt (tgt := 39) hx hb dX12_four_4 (by decide) (fun h => absurd h (by decide)) (fun c2 => ?_)
  refine lv_aload_n hx hb dX12_four_7 rfl (lv_at hl 1 rfl) ?_
  refine z_get Z i_X12 hP 0 rfl rfl 3 (by decide) bw_1022 rfl dX12_four_8 ?_
  refine lv_aload_n hx hb dX12_four_11 rfl (lv_at hl 1 rfl) ?_
  refine z_get Z i_X12 hP 0 rfl rfl 4 (by decide) bw_1023 rfl dX12_four_12 ?_
  refine lv_iload_n hx hb dX12_four_15 rfl (lv_at hl 2 rfl) ?_
  refine lv_iload_n hx hb dX12_four_16 rfl (lv_at hl 0 rfl) ?_
  refine lv_ishr hx hb dX12_four_17 ?_
  refine lv_sipush (v := 255) hx hb dX12_four_18 (by decide) ?_
  refine lv_iand hx hb dX12_four_21 ?_
  refine z_iast Z hP hD hS 1 0 rfl rfl (vin (by decide)) dX12_four_22 (fun H locs hP hD hS => ?_)
  have hP : va_P D vwCl ([(q, .inr (12, [.ref aA, .ref aI, .ref aT, .ref aP, .int 5, .int (-1), .int (-1), .int 0, .int 0, .int 0, .int 0, .long 0, .int 0, .int 0, .int 0, .int 0, .ref pI, .int 0, .int 0, .int 0, .int 0, .int 0, .ref nM, .ref vA, .ref tR, .int 0, .int 0, .int 0, .ref rW, .ref sP, .ref oA, .ref bS, .ref aS, .ref aO, .ref cS, .ref wY])), (aP, .inl (cI, 300, .inl (upd (upd f (4 : Int32).toNatClampNeg ((w >>> ((24 : Int32) &&& 31)) &&& (255 : Int32))) (5 : Int32).toNatClampNeg ((w >>> ((16 : Int32) &&& 31)) &&& (255 : Int32)))))]) H := hP
  have hD : va_D A ([(q, .inr (12, [.ref aA, .ref aI, .ref aT, .ref aP, .int 5, .int (-1), .int (-1), .int 0, .int 0, .int 0, .int 0, .long 0, .int 0, .int 0, .int 0, .int 0, .ref pI, .int 0, .int 0, .int 0, .int 0, .int 0, .ref nM, .ref vA, .ref tR, .int 0, .int 0, .int 0, .ref rW, .ref sP, .ref oA, .ref bS, .ref aS, .ref aO, .ref cS, .ref wY])), (aP, .inl (cI, 300, .inl (upd (upd f (4 : Int32).toNatClampNeg ((w >>> ((24 : Int32) &&& 31)) &&& (255 : Int32))) (5 : Int32).toNatClampNeg ((w >>> ((16 : Int32) &&& 31)) &&& (255 : Int32)))))]) := hD
  refine lv_aload_n hx hb dX12_four_23 rfl (lv_at hl 1 rfl) ?_
  refine lv_dup hx hb dX12_four_24 rfl ?_
  refine z_get Z i_X12 hP 0 rfl rfl 4 (by decide) bw_1023 rfl dX12_four_25 ?_
  refine lv_iconst (v := 1) hx hb dX12_four_28 (by decide) ?_
  refine lv_iadd hx hb dX12_four_29 ?_
  refine z_topi (y := 6) (by decide) ?_
  refine z_put Z i_X12 tyX12 tyX12_ok nmX12 hP hD hS 0 rfl rfl 4 (by decide) bw_1023 rfl rfl rfl (Nat.le_of_ble_eq_true rfl) dX12_four_30 (fun H locs hP hD hS => ?_)
  have hP : va_P D vwCl ([(q, .inr (12, [.ref aA, .ref aI, .ref aT, .ref aP, .int 6, .int (-1), .int (-1), .int 0, .int 0, .int 0, .int 0, .long 0, .int 0, .int 0, .int 0, .int 0, .ref pI, .int 0, .int 0, .int 0, .int 0, .int 0, .ref nM, .ref vA, .ref tR, .int 0, .int 0, .int 0, .ref rW, .ref sP, .ref oA, .ref bS, .ref aS, .ref aO, .ref cS, .ref wY])), (aP, .inl (cI, 300, .inl (upd (upd f (4 : Int32).toNatClampNeg ((w >>> ((24 : Int32) &&& 31)) &&& (255 : Int32))) (5 : Int32).toNatClampNeg ((w >>> ((16 : Int32) &&& 31)) &&& (255 : Int32)))))]) H := hP
  have hD : va_D A ([(q, .inr (12, [.ref aA, .ref aI, .ref aT, .ref aP, .int 6, .int (-1), .int (-1), .int 0, .int 0, .int 0, .int 0, .long 0, .int 0, .int 0, .int 0, .int 0, .ref pI, .int 0, .int 0, .int 0, .int 0, .int 0, .ref nM, .ref vA, .ref tR, .int 0, .int 0, .int 0, .ref rW, .ref sP, .ref oA, .ref bS, .ref aS, .ref aO, .ref cS, .ref wY])), (aP, .inl (cI, 300, .inl (upd (upd f (4 : Int32).toNatClampNeg ((w >>> ((24 : Int32) &&& 31)) &&& (255 : Int32))) (5 : Int32).toNatClampNeg ((w >>> ((16 : Int32) &&& 31)) &&& (255 : Int32)))))]) := hD
  refine lv_iinc (v := 8) (lv' := [(2, .int 8), (0, .ref q), (1, .int w)]) hx hb dX12_four_33 hl (k := 0) rfl (by decide) (by decide) rfl (fun ls hl => ?_)
  refine lv_goto (tgt := 3) hx hb dX12_four_36 (by decide) ?_
  refine lv_iload_n hx hb dX12_four_3 rfl (lv_at hl 0 rfl) ?_
  refine lv_if_lt (tgt := 39) hx hb dX12_four_4 (by decide) (fun h => absurd h (by decide)) (fun c3 => ?_)
  refine lv_aload_n hx hb dX12_four_7 rfl (lv_at hl 1 rfl) ?_
  refine z_get Z i_X12 hP 0 rfl rfl 3 (by decide) bw_1022 rfl dX12_four_8 ?_
  refine lv_aload_n hx hb dX12_four_11 rfl (lv_at hl 1 rfl) ?_
  refine z_get Z i_X12 hP 0 rfl rfl 4 (by decide) bw_1023 rfl dX12_four_12 ?_
  refine lv_iload_n hx hb dX12_four_15 rfl (lv_at hl 2 rfl) ?_
  refine lv_iload_n hx hb dX12_four_16 rfl (lv_at hl 0 rfl) ?_
  refine lv_ishr hx hb dX12_four_17 ?_
  refine lv_sipush (v := 255) hx hb dX12_four_18 (by decide) ?_
  refine lv_iand hx hb dX12_four_21 ?_
  refine z_iast Z hP hD hS 1 0 rfl rfl (vin (by decide)) dX12_four_22 (fun H locs hP hD hS => ?_)
  have hP : va_P D vwCl ([(q, .inr (12, [.ref aA, .ref aI, .ref aT, .ref aP, .int 6, .int (-1), .int (-1), .int 0, .int 0, .int 0, .int 0, .long 0, .int 0, .int 0, .int 0, .int 0, .ref pI, .int 0, .int 0, .int 0, .int 0, .int 0, .ref nM, .ref vA, .ref tR, .int 0, .int 0, .int 0, .ref rW, .ref sP, .ref oA, .ref bS, .ref aS, .ref aO, .ref cS, .ref wY])), (aP, .inl (cI, 300, .inl (upd (upd (upd f (4 : Int32).toNatClampNeg ((w >>> ((24 : Int32) &&& 31)) &&& (255 : Int32))) (5 : Int32).toNatClampNeg ((w >>> ((16 : Int32) &&& 31)) &&& (255 : Int32))) (6 : Int32).toNatClampNeg ((w >>> ((8 : Int32) &&& 31)) &&& (255 : Int32)))))]) H := hP
  have hD : va_D A ([(q, .inr (12, [.ref aA, .ref aI, .ref aT, .ref aP, .int 6, .int (-1), .int (-1), .int 0, .int 0, .int 0, .int 0, .long 0, .int 0, .int 0, .int 0, .int 0, .ref pI, .int 0, .int 0, .int 0, .int 0, .int 0, .ref nM, .ref vA, .ref tR, .int 0, .int 0, .int 0, .ref rW, .ref sP, .ref oA, .ref bS, .ref aS, .ref aO, .ref cS, .ref wY])), (aP, .inl (cI, 300, .inl (upd (upd (upd f (4 : Int32).toNatClampNeg ((w >>> ((24 : Int32) &&& 31)) &&& (255 : Int32))) (5 : Int32).toNatClampNeg ((w >>> ((16 : Int32) &&& 31)) &&& (255 : Int32))) (6 : Int32).toNatClampNeg ((w >>> ((8 : Int32) &&& 31)) &&& (255 : Int32)))))]) := hD
  refine lv_aload_n hx hb dX12_four_23 rfl (lv_at hl 1 rfl) ?_
  refine lv_dup hx hb dX12_four_24 rfl ?_
  refine z_get Z i_X12 hP 0 rfl rfl 4 (by decide) bw_1023 rfl dX12_four_25 ?_
  refine lv_iconst (v := 1) hx hb dX12_four_28 (by decide) ?_
  refine lv_iadd hx hb dX12_four_29 ?_
  refine z_topi (y := 7) (by decide) ?_
  refine z_put Z i_X12 tyX12 tyX12_ok nmX12 hP hD hS 0 rfl rfl 4 (by decide) bw_1023 rfl rfl rfl (Nat.le_of_ble_eq_true rfl) dX12_four_30 (fun H locs hP hD hS => ?_)
  have hP : va_P D vwCl ([(q, .inr (12, [.ref aA, .ref aI, .ref aT, .ref aP, .int 7, .int (-1), .int (-1), .int 0, .int 0, .int 0, .int 0, .long 0, .int 0, .int 0, .int 0, .int 0, .ref pI, .int 0, .int 0, .int 0, .int 0, .int 0, .ref nM, .ref vA, .ref tR, .int 0, .int 0, .int 0, .ref rW, .ref sP, .ref oA, .ref bS, .ref aS, .ref aO, .ref cS, .ref wY])), (aP, .inl (cI, 300, .inl (upd (upd (upd f (4 : Int32).toNatClampNeg ((w >>> ((24 : Int32) &&& 31)) &&& (255 : Int32))) (5 : Int32).toNatClampNeg ((w >>> ((16 : Int32) &&& 31)) &&& (255 : Int32))) (6 : Int32).toNatClampNeg ((w >>> ((8 : Int32) &&& 31)) &&& (255 : Int32)))))]) H := hP
  have hD : va_D A ([(q, .inr (12, [.ref aA, .ref aI, .ref aT, .ref aP, .int 7, .int (-1), .int (-1), .int 0, .int 0, .int 0, .int 0, .long 0, .int 0, .int 0, .int 0, .int 0, .ref pI, .int 0, .int 0, .int 0, .int 0, .int 0, .ref nM, .ref vA, .ref tR, .int 0, .int 0, .int 0, .ref rW, .ref sP, .ref oA, .ref bS, .ref aS, .ref aO, .ref cS, .ref wY])), (aP, .inl (cI, 300, .inl (upd (upd (upd f (4 : Int32).toNatClampNeg ((w >>> ((24 : Int32) &&& 31)) &&& (255 : Int32))) (5 : Int32).toNatClampNeg ((w >>> ((16 : Int32) &&& 31)) &&& (255 : Int32))) (6 : Int32).toNatClampNeg ((w >>> ((8 : Int32) &&& 31)) &&& (255 : Int32)))))]) := hD
  refine lv_iinc (v := 0) (lv' := [(2, .int 0), (0, .ref q), (1, .int w)]) hx hb dX12_four_33 hl (k := 0) rfl (by decide) (by decide) rfl (fun ls hl => ?_)
  refine lv_goto (tgt := 3) hx hb dX12_four_36 (by decide) ?_
  refine lv_iload_n hx hb dX12_four_3 rfl (lv_at hl 0 rfl) ?_
  refine lv_if_lt (tgt := 39) hx hb dX12_four_4 (by decide) (fun h => absurd h (by decide)) (fun c4 => ?_)
  refine lv_aload_n hx hb dX12_four_7 rfl (lv_at hl 1 rfl) ?_
  refine z_get Z i_X12 hP 0 rfl rfl 3 (by decide) bw_1022 rfl dX12_four_8 ?_
  refine lv_aload_n hx hb dX12_four_11 rfl (lv_at hl 1 rfl) ?_
  refine z_get Z i_X12 hP 0 rfl rfl 4 (by decide) bw_1023 rfl dX12_four_12 ?_
  refine lv_iload_n hx hb dX12_four_15 rfl (lv_at hl 2 rfl) ?_
  refine lv_iload_n hx hb dX12_four_16 rfl (lv_at hl 0 rfl) ?_
  refine lv_ishr hx hb dX12_four_17 ?_
  refine lv_sipush (v := 255) hx hb dX12_four_18 (by decide) ?_
  refine lv_iand hx hb dX12_four_21 ?_
  refine z_iast Z hP hD hS 1 0 rfl rfl (vin (by decide)) dX12_four_22 (fun H locs hP hD hS => ?_)
  have hP : va_P D vwCl ([(q, .inr (12, [.ref aA, .ref aI, .ref aT, .ref aP, .int 7, .int (-1), .int (-1), .int 0, .int 0, .int 0, .int 0, .long 0, .int 0, .int 0, .int 0, .int 0, .ref pI, .int 0, .int 0, .int 0, .int 0, .int 0, .ref nM, .ref vA, .ref tR, .int 0, .int 0, .int 0, .ref rW, .ref sP, .ref oA, .ref bS, .ref aS, .ref aO, .ref cS, .ref wY])), (aP, .inl (cI, 300, .inl (upd (upd (upd (upd f (4 : Int32).toNatClampNeg ((w >>> ((24 : Int32) &&& 31)) &&& (255 : Int32))) (5 : Int32).toNatClampNeg ((w >>> ((16 : Int32) &&& 31)) &&& (255 : Int32))) (6 : Int32).toNatClampNeg ((w >>> ((8 : Int32) &&& 31)) &&& (255 : Int32))) (7 : Int32).toNatClampNeg ((w >>> ((0 : Int32) &&& 31)) &&& (255 : Int32)))))]) H := hP
  have hD : va_D A ([(q, .inr (12, [.ref aA, .ref aI, .ref aT, .ref aP, .int 7, .int (-1), .int (-1), .int 0, .int 0, .int 0, .int 0, .long 0, .int 0, .int 0, .int 0, .int 0, .ref pI, .int 0, .int 0, .int 0, .int 0, .int 0, .ref nM, .ref vA, .ref tR, .int 0, .int 0, .int 0, .ref rW, .ref sP, .ref oA, .ref bS, .ref aS, .ref aO, .ref cS, .ref wY])), (aP, .inl (cI, 300, .inl (upd (upd (upd (upd f (4 : Int32).toNatClampNeg ((w >>> ((24 : Int32) &&& 31)) &&& (255 : Int32))) (5 : Int32).toNatClampNeg ((w >>> ((16 : Int32) &&& 31)) &&& (255 : Int32))) (6 : Int32).toNatClampNeg ((w >>> ((8 : Int32) &&& 31)) &&& (255 : Int32))) (7 : Int32).toNatClampNeg ((w >>> ((0 : Int32) &&& 31)) &&& (255 : Int32)))))]) := hD
  refine lv_aload_n hx hb dX12_four_23 rfl (lv_at hl 1 rfl) ?_
  refine lv_dup hx hb dX12_four_24 rfl ?_
  refine z_get Z i_X12 hP 0 rfl rfl 4 (by decide) bw_1023 rfl dX12_four_25 ?_
  refine lv_iconst (v := 1) hx hb dX12_four_28 (by decide) ?_
  refine lv_iadd hx hb dX12_four_29 ?_
  refine z_topi (y := 8) (by decide) ?_
  refine z_put Z i_X12 tyX12 tyX12_ok nmX12 hP hD hS 0 rfl rfl 4 (by decide) bw_1023 rfl rfl rfl (Nat.le_of_ble_eq_true rfl) dX12_four_30 (fun H locs hP hD hS => ?_)
  have hP : va_P D vwCl ([(q, .inr (12, [.ref aA, .ref aI, .ref aT, .ref aP, .int 8, .int (-1), .int (-1), .int 0, .int 0, .int 0, .int 0, .long 0, .int 0, .int 0, .int 0, .int 0, .ref pI, .int 0, .int 0, .int 0, .int 0, .int 0, .ref nM, .ref vA, .ref tR, .int 0, .int 0, .int 0, .ref rW, .ref sP, .ref oA, .ref bS, .ref aS, .ref aO, .ref cS, .ref wY])), (aP, .inl (cI, 300, .inl (upd (upd (upd (upd f (4 : Int32).toNatClampNeg ((w >>> ((24 : Int32) &&& 31)) &&& (255 : Int32))) (5 : Int32).toNatClampNeg ((w >>> ((16 : Int32) &&& 31)) &&& (255 : Int32))) (6 : Int32).toNatClampNeg ((w >>> ((8 : Int32) &&& 31)) &&& (255 : Int32))) (7 : Int32).toNatClampNeg ((w >>> ((0 : Int32) &&& 31)) &&& (255 : Int32)))))]) H := hP
  have hD : va_D A ([(q, .inr (12, [.ref aA, .ref aI, .ref aT, .ref aP, .int 8, .int (-1), .int (-1), .int 0, .int 0, .int 0, .int 0, .long 0, .int 0, .int 0, .int 0, .int 0, .ref pI, .int 0, .int 0, .int 0, .int 0, .int 0, .ref nM, .ref vA, .ref tR, .int 0, .int 0, .int 0, .ref rW, .ref sP, .ref oA, .ref bS, .ref aS, .ref aO, .ref cS, .ref wY])), (aP, .inl (cI, 300, .inl (upd (upd (upd (upd f (4 : Int32).toNatClampNeg ((w >>> ((24 : Int32) &&& 31)) &&& (255 : Int32))) (5 : Int32).toNatClampNeg ((w >>> ((16 : Int32) &&& 31)) &&& (255 : Int32))) (6 : Int32).toNatClampNeg ((w >>> ((8 : Int32) &&& 31)) &&& (255 : Int32))) (7 : Int32).toNatClampNeg ((w >>> ((0 : Int32) &&& 31)) &&& (255 : Int32)))))]) := hD
  refine lv_iinc (v := (-8)) (lv' := [(2, .int (-8)), (0, .ref q), (1, .int w)]) hx hb dX12_four_33 hl (k := 0) rfl (by decide) (by decide) rfl (fun ls hl => ?_)
  refine lv_goto (tgt := 3) hx hb dX12_four_36 (by decide) ?_
  refine lv_iload_n hx hb dX12_four_3 rfl (lv_at hl 0 rfl) ?_
  refine lv_if_lt (tgt := 39) hx hb dX12_four_4 (by decide) (fun c5 => ?_) (fun h => absurd (by decide) h)
  exact z_vret Z hP hD hS (⟨(upd (upd (upd (upd f (4 : Int32).toNatClampNeg ((w >>> ((24 : Int32) &&& 31)) &&& (255 : Int32))) (5 : Int32).toNatClampNeg ((w >>> ((16 : Int32) &&& 31)) &&& (255 : Int32))) (6 : Int32).toNatClampNeg ((w >>> ((8 : Int32) &&& 31)) &&& (255 : Int32))) (7 : Int32).toNatClampNeg ((w >>> ((0 : Int32) &&& 31)) &&& (255 : Int32))), rfl⟩) dX12_four_39 (Nat.le_of_ble_eq_true rfl) (Nat.le_of_ble_eq_true rfl)
set_option maxHeartbeats 4000000 in
set_option maxRecDepth 100000 in
theorem c_X12_four_8 (l : Launch) (D : va_G) (cI cM cT : ClassId) (q : Nat) (aA : Nat) (aI : Nat) (aT : Nat) (aP : Nat) (pI : Nat) (nM : Nat) (vA : Nat) (tR : Nat) (rW : Nat) (sP : Nat) (oA : Nat) (bS : Nat) (aS : Nat) (aO : Nat) (cS : Nat) (wY : Nat) (f : Nat → Int32) (w : Int32) : Cv l D (ty3 cI cM cT) yX12_four cX12_four 3 0 0 0 [.ref q, .int w] ([(q, .inr (12, [.ref aA, .ref aI, .ref aT, .ref aP, .int 8, .int (-1), .int (-1), .int 0, .int 0, .int 0, .int 0, .long 0, .int 0, .int 0, .int 0, .int 0, .ref pI, .int 0, .int 0, .int 0, .int 0, .int 0, .ref nM, .ref vA, .ref tR, .int 0, .int 0, .int 0, .ref rW, .ref sP, .ref oA, .ref bS, .ref aS, .ref aO, .ref cS, .ref wY])), (aP, .inl (cI, 300, .inl f))]) (fun u => ∃ (g : Nat → Int32), u = [(q, .inr (12, [.ref aA, .ref aI, .ref aT, .ref aP, .int 12, .int (-1), .int (-1), .int 0, .int 0, .int 0, .int 0, .long 0, .int 0, .int 0, .int 0, .int 0, .ref pI, .int 0, .int 0, .int 0, .int 0, .int 0, .ref nM, .ref vA, .ref tR, .int 0, .int 0, .int 0, .ref rW, .ref sP, .ref oA, .ref bS, .ref aS, .ref aO, .ref cS, .ref wY])), (aP, .inl (cI, 300, .inl g))]) := by
  refine Cv.of (by decide +kernel) (Nat.le_of_ble_eq_true rfl) ?_
  intro p e s m below meth c A ls Z hin hP hD hl
  have hx := Z.1
  have hb := Z.2.1
  have hS : va_S A s.heap s.heap [] := va_S.rf
  have hl : lv_has ls 3 [(0, .ref q), (1, .int w)] := hl
  skip
  refine lv_bipush (v := 24) hx hb dX12_four_0 (by decide) ?_
  refine lv_istore_n (lv' := [(2, .int 24), (0, .ref q), (1, .int w)]) hx hb dX12_four_2 rfl hl (by decide) rfl (fun ls hl => ?_)
  refine lv_iload_n hx hb dX12_four_3 rfl (lv_at hl 0 rfl) ?_
  refine lv_if_lt (tgt := 39) hx hb dX12_four_4 (by decide) (fun h => absurd h (by decide)) (fun c1 => ?_)
  refine lv_aload_n hx hb dX12_four_7 rfl (lv_at hl 1 rfl) ?_
  refine z_get Z i_X12 hP 0 rfl rfl 3 (by decide) bw_1022 rfl dX12_four_8 ?_
  refine lv_aload_n hx hb dX12_four_11 rfl (lv_at hl 1 rfl) ?_
  refine z_get Z i_X12 hP 0 rfl rfl 4 (by decide) bw_1023 rfl dX12_four_12 ?_
  refine lv_iload_n hx hb dX12_four_15 rfl (lv_at hl 2 rfl) ?_
  refine lv_iload_n hx hb dX12_four_16 rfl (lv_at hl 0 rfl) ?_
  refine lv_ishr hx hb dX12_four_17 ?_
  refine lv_sipush (v := 255) hx hb dX12_four_18 (by decide) ?_
  refine lv_iand hx hb dX12_four_21 ?_
  refine z_iast Z hP hD hS 1 0 rfl rfl (vin (by decide)) dX12_four_22 (fun H locs hP hD hS => ?_)
  have hP : va_P D vwCl ([(q, .inr (12, [.ref aA, .ref aI, .ref aT, .ref aP, .int 8, .int (-1), .int (-1), .int 0, .int 0, .int 0, .int 0, .long 0, .int 0, .int 0, .int 0, .int 0, .ref pI, .int 0, .int 0, .int 0, .int 0, .int 0, .ref nM, .ref vA, .ref tR, .int 0, .int 0, .int 0, .ref rW, .ref sP, .ref oA, .ref bS, .ref aS, .ref aO, .ref cS, .ref wY])), (aP, .inl (cI, 300, .inl (upd f (8 : Int32).toNatClampNeg ((w >>> ((24 : Int32) &&& 31)) &&& (255 : Int32)))))]) H := hP
  have hD : va_D A ([(q, .inr (12, [.ref aA, .ref aI, .ref aT, .ref aP, .int 8, .int (-1), .int (-1), .int 0, .int 0, .int 0, .int 0, .long 0, .int 0, .int 0, .int 0, .int 0, .ref pI, .int 0, .int 0, .int 0, .int 0, .int 0, .ref nM, .ref vA, .ref tR, .int 0, .int 0, .int 0, .ref rW, .ref sP, .ref oA, .ref bS, .ref aS, .ref aO, .ref cS, .ref wY])), (aP, .inl (cI, 300, .inl (upd f (8 : Int32).toNatClampNeg ((w >>> ((24 : Int32) &&& 31)) &&& (255 : Int32)))))]) := hD
  refine lv_aload_n hx hb dX12_four_23 rfl (lv_at hl 1 rfl) ?_
  refine lv_dup hx hb dX12_four_24 rfl ?_
  refine z_get Z i_X12 hP 0 rfl rfl 4 (by decide) bw_1023 rfl dX12_four_25 ?_
  refine lv_iconst (v := 1) hx hb dX12_four_28 (by decide) ?_
  refine lv_iadd hx hb dX12_four_29 ?_
  refine z_topi (y := 9) (by decide) ?_
  refine z_put Z i_X12 tyX12 tyX12_ok nmX12 hP hD hS 0 rfl rfl 4 (by decide) bw_1023 rfl rfl rfl (Nat.le_of_ble_eq_true rfl) dX12_four_30 (fun H locs hP hD hS => ?_)
  have hP : va_P D vwCl ([(q, .inr (12, [.ref aA, .ref aI, .ref aT, .ref aP, .int 9, .int (-1), .int (-1), .int 0, .int 0, .int 0, .int 0, .long 0, .int 0, .int 0, .int 0, .int 0, .ref pI, .int 0, .int 0, .int 0, .int 0, .int 0, .ref nM, .ref vA, .ref tR, .int 0, .int 0, .int 0, .ref rW, .ref sP, .ref oA, .ref bS, .ref aS, .ref aO, .ref cS, .ref wY])), (aP, .inl (cI, 300, .inl (upd f (8 : Int32).toNatClampNeg ((w >>> ((24 : Int32) &&& 31)) &&& (255 : Int32)))))]) H := hP
  have hD : va_D A ([(q, .inr (12, [.ref aA, .ref aI, .ref aT, .ref aP, .int 9, .int (-1), .int (-1), .int 0, .int 0, .int 0, .int 0, .long 0, .int 0, .int 0, .int 0, .int 0, .ref pI, .int 0, .int 0, .int 0, .int 0, .int 0, .ref nM, .ref vA, .ref tR, .int 0, .int 0, .int 0, .ref rW, .ref sP, .ref oA, .ref bS, .ref aS, .ref aO, .ref cS, .ref wY])), (aP, .inl (cI, 300, .inl (upd f (8 : Int32).toNatClampNeg ((w >>> ((24 : Int32) &&& 31)) &&& (255 : Int32)))))]) := hD
  refine lv_iinc (v := 16) (lv' := [(2, .int 16), (0, .ref q), (1, .int w)]) hx hb dX12_four_33 hl (k := 0) rfl (by decide) (by decide) rfl (fun ls hl => ?_)
  refine lv_goto (tgt := 3) hx hb dX12_four_36 (by decide) ?_
  refine lv_iload_n hx hb dX12_four_3 rfl (lv_at hl 0 rfl) ?_
  refine lv_if_lt (tgt := 39) hx hb dX12_four_4 (by decide) (fun h => absurd h (by decide)) (fun c2 => ?_)
  refine lv_aload_n hx hb dX12_four_7 rfl (lv_at hl 1 rfl) ?_
  refine z_get Z i_X12 hP 0 rfl rfl 3 (by decide) bw_1022 rfl dX12_four_8 ?_
  refine lv_aload_n hx hb dX12_four_11 rfl (lv_at hl 1 rfl) ?_
  refine z_get Z i_X12 hP 0 rfl rfl 4 (by decide) bw_1023 rfl dX12_four_12 ?_
  refine lv_iload_n hx hb dX12_four_15 rfl (lv_at hl 2 rfl) ?_
  refine lv_iload_n hx hb dX12_four_16 rfl (lv_at hl 0 rfl) ?_
  refine lv_ishr hx hb dX12_four_17 ?_
  refine lv_sipush (v := 255) hx hb dX12_four_18 (by decide) ?_
  refine lv_iand hx hb dX12_four_21 ?_
  refine z_iast Z hP hD hS 1 0 rfl rfl (vin (by decide)) dX12_four_22 (fun H locs hP hD hS => ?_)
  have hP : va_P D vwCl ([(q, .inr (12, [.ref aA, .ref aI, .ref aT, .ref aP, .int 9, .int (-1), .int (-1), .int 0, .int 0, .int 0, .int 0, .long 0, .int 0, .int 0, .int 0, .int 0, .ref pI, .int 0, .int 0, .int 0, .int 0, .int 0, .ref nM, .ref vA, .ref tR, .int 0, .int 0, .int 0, .ref rW, .ref sP, .ref oA, .ref bS, .ref aS, .ref aO, .ref cS, .ref wY])), (aP, .inl (cI, 300, .inl (upd (upd f (8 : Int32).toNatClampNeg ((w >>> ((24 : Int32) &&& 31)) &&& (255 : Int32))) (9 : Int32).toNatClampNeg ((w >>> ((16 : Int32) &&& 31)) &&& (255 : Int32)))))]) H := hP
  have hD : va_D A ([(q, .inr (12, [.ref aA, .ref aI, .ref aT, .ref aP, .int 9, .int (-1), .int (-1), .int 0, .int 0, .int 0, .int 0, .long 0, .int 0, .int 0, .int 0, .int 0, .ref pI, .int 0, .int 0, .int 0, .int 0, .int 0, .ref nM, .ref vA, .ref tR, .int 0, .int 0, .int 0, .ref rW, .ref sP, .ref oA, .ref bS, .ref aS, .ref aO, .ref cS, .ref wY])), (aP, .inl (cI, 300, .inl (upd (upd f (8 : Int32).toNatClampNeg ((w >>> ((24 : Int32) &&& 31)) &&& (255 : Int32))) (9 : Int32).toNatClampNeg ((w >>> ((16 : Int32) &&& 31)) &&& (255 : Int32)))))]) := hD
  refine lv_aload_n hx hb dX12_four_23 rfl (lv_at hl 1 rfl) ?_
  refine lv_dup hx hb dX12_four_24 rfl ?_
  refine z_get Z i_X12 hP 0 rfl rfl 4 (by decide) bw_1023 rfl dX12_four_25 ?_
  refine lv_iconst (v := 1) hx hb dX12_four_28 (by decide) ?_
  refine lv_iadd hx hb dX12_four_29 ?_
  refine z_topi (y := 10) (by decide) ?_
  refine z_put Z i_X12 tyX12 tyX12_ok nmX12 hP hD hS 0 rfl rfl 4 (by decide) bw_1023 rfl rfl rfl (Nat.le_of_ble_eq_true rfl) dX12_four_30 (fun H locs hP hD hS => ?_)
  have hP : va_P D vwCl ([(q, .inr (12, [.ref aA, .ref aI, .ref aT, .ref aP, .int 10, .int (-1), .int (-1), .int 0, .int 0, .int 0, .int 0, .long 0, .int 0, .int 0, .int 0, .int 0, .ref pI, .int 0, .int 0, .int 0, .int 0, .int 0, .ref nM, .ref vA, .ref tR, .int 0, .int 0, .int 0, .ref rW, .ref sP, .ref oA, .ref bS, .ref aS, .ref aO, .ref cS, .ref wY])), (aP, .inl (cI, 300, .inl (upd (upd f (8 : Int32).toNatClampNeg ((w >>> ((24 : Int32) &&& 31)) &&& (255 : Int32))) (9 : Int32).toNatClampNeg ((w >>> ((16 : Int32) &&& 31)) &&& (255 : Int32)))))]) H := hP
  have hD : va_D A ([(q, .inr (12, [.ref aA, .ref aI, .ref aT, .ref aP, .int 10, .int (-1), .int (-1), .int 0, .int 0, .int 0, .int 0, .long 0, .int 0, .int 0, .int 0, .int 0, .ref pI, .int 0, .int 0, .int 0, .int 0, .int 0, .ref nM, .ref vA, .ref tR, .int 0, .int 0, .int 0, .ref rW, .ref sP, .ref oA, .ref bS, .ref aS, .ref aO, .ref cS, .ref wY])), (aP, .inl (cI, 300, .inl (upd (upd f (8 : Int32).toNatClampNeg ((w >>> ((24 : Int32) &&& 31)) &&& (255 : Int32))) (9 : Int32).toNatClampNeg ((w >>> ((16 : Int32) &&& 31)) &&& (255 : Int32)))))]) := hD
  refine lv_iinc (v := 8) (lv' := [(2, .int 8), (0, .ref q), (1, .int w)]) hx hb dX12_four_33 hl (k := 0) rfl (by decide) (by decide) rfl (fun ls hl => ?_)
  refine lv_goto (tgt := 3) hx hb dX12_four_36 (by decide) ?_
  refine lv_iload_n hx hb dX12_four_3 rfl (lv_at hl 0 rfl) ?_
  refine lv_if_lt (tgt := 39) hx hb dX12_four_4 (by decide) (fun h => absurd h (by decide)) (fun c3 => ?_)
  refine lv_aload_n hx hb dX12_four_7 rfl (lv_at hl 1 rfl) ?_
  refine z_get Z i_X12 hP 0 rfl rfl 3 (by decide) bw_1022 rfl dX12_four_8 ?_
  refine lv_aload_n hx hb dX12_four_11 rfl (lv_at hl 1 rfl) ?_
  refine z_get Z i_X12 hP 0 rfl rfl 4 (by decide) bw_1023 rfl dX12_four_12 ?_
  refine lv_iload_n hx hb dX12_four_15 rfl (lv_at hl 2 rfl) ?_
  refine lv_iload_n hx hb dX12_four_16 rfl (lv_at hl 0 rfl) ?_
  refine lv_ishr hx hb dX12_four_17 ?_
  refine lv_sipush (v := 255) hx hb dX12_four_18 (by decide) ?_
  refine lv_iand hx hb dX12_four_21 ?_
  refine z_iast Z hP hD hS 1 0 rfl rfl (vin (by decide)) dX12_four_22 (fun H locs hP hD hS => ?_)
  have hP : va_P D vwCl ([(q, .inr (12, [.ref aA, .ref aI, .ref aT, .ref aP, .int 10, .int (-1), .int (-1), .int 0, .int 0, .int 0, .int 0, .long 0, .int 0, .int 0, .int 0, .int 0, .ref pI, .int 0, .int 0, .int 0, .int 0, .int 0, .ref nM, .ref vA, .ref tR, .int 0, .int 0, .int 0, .ref rW, .ref sP, .ref oA, .ref bS, .ref aS, .ref aO, .ref cS, .ref wY])), (aP, .inl (cI, 300, .inl (upd (upd (upd f (8 : Int32).toNatClampNeg ((w >>> ((24 : Int32) &&& 31)) &&& (255 : Int32))) (9 : Int32).toNatClampNeg ((w >>> ((16 : Int32) &&& 31)) &&& (255 : Int32))) (10 : Int32).toNatClampNeg ((w >>> ((8 : Int32) &&& 31)) &&& (255 : Int32)))))]) H := hP
  have hD : va_D A ([(q, .inr (12, [.ref aA, .ref aI, .ref aT, .ref aP, .int 10, .int (-1), .int (-1), .int 0, .int 0, .int 0, .int 0, .long 0, .int 0, .int 0, .int 0, .int 0, .ref pI, .int 0, .int 0, .int 0, .int 0, .int 0, .ref nM, .ref vA, .ref tR, .int 0, .int 0, .int 0, .ref rW, .ref sP, .ref oA, .ref bS, .ref aS, .ref aO, .ref cS, .ref wY])), (aP, .inl (cI, 300, .inl (upd (upd (upd f (8 : Int32).toNatClampNeg ((w >>> ((24 : Int32) &&& 31)) &&& (255 : Int32))) (9 : Int32).toNatClampNeg ((w >>> ((16 : Int32) &&& 31)) &&& (255 : Int32))) (10 : Int32).toNatClampNeg ((w >>> ((8 : Int32) &&& 31)) &&& (255 : Int32)))))]) := hD
  refine lv_aload_n hx hb dX12_four_23 rfl (lv_at hl 1 rfl) ?_
  refine lv_dup hx hb dX12_four_24 rfl ?_
  refine z_get Z i_X12 hP 0 rfl rfl 4 (by decide) bw_1023 rfl dX12_four_25 ?_
  refine lv_iconst (v := 1) hx hb dX12_four_28 (by decide) ?_
  refine lv_iadd hx hb dX12_four_29 ?_
  refine z_topi (y := 11) (by decide) ?_
  refine z_put Z i_X12 tyX12 tyX12_ok nmX12 hP hD hS 0 rfl rfl 4 (by decide) bw_1023 rfl rfl rfl (Nat.le_of_ble_eq_true rfl) dX12_four_30 (fun H locs hP hD hS => ?_)
  have hP : va_P D vwCl ([(q, .inr (12, [.ref aA, .ref aI, .ref aT, .ref aP, .int 11, .int (-1), .int (-1), .int 0, .int 0, .int 0, .int 0, .long 0, .int 0, .int 0, .int 0, .int 0, .ref pI, .int 0, .int 0, .int 0, .int 0, .int 0, .ref nM, .ref vA, .ref tR, .int 0, .int 0, .int 0, .ref rW, .ref sP, .ref oA, .ref bS, .ref aS, .ref aO, .ref cS, .ref wY])), (aP, .inl (cI, 300, .inl (upd (upd (upd f (8 : Int32).toNatClampNeg ((w >>> ((24 : Int32) &&& 31)) &&& (255 : Int32))) (9 : Int32).toNatClampNeg ((w >>> ((16 : Int32) &&& 31)) &&& (255 : Int32))) (10 : Int32).toNatClampNeg ((w >>> ((8 : Int32) &&& 31)) &&& (255 : Int32)))))]) H := hP
  have hD : va_D A ([(q, .inr (12, [.ref aA, .ref aI, .ref aT, .ref aP, .int 11, .int (-1), .int (-1), .int 0, .int 0, .int 0, .int 0, .long 0, .int 0, .int 0, .int 0, .int 0, .ref pI, .int 0, .int 0, .int 0, .int 0, .int 0, .ref nM, .ref vA, .ref tR, .int 0, .int 0, .int 0, .ref rW, .ref sP, .ref oA, .ref bS, .ref aS, .ref aO, .ref cS, .ref wY])), (aP, .inl (cI, 300, .inl (upd (upd (upd f (8 : Int32).toNatClampNeg ((w >>> ((24 : Int32) &&& 31)) &&& (255 : Int32))) (9 : Int32).toNatClampNeg ((w >>> ((16 : Int32) &&& 31)) &&& (255 : Int32))) (10 : Int32).toNatClampNeg ((w >>> ((8 : Int32) &&& 31)) &&& (255 : Int32)))))]) := hD
  refine lv_iinc (v := 0) (lv' := [(2, .int 0), (0, .ref q), (1, .int w)]) hx hb dX12_four_33 hl (k := 0) rfl (by decide) (by decide) rfl (fun ls hl => ?_)
  refine lv_goto (tgt := 3) hx hb dX12_four_36 (by decide) ?_
  refine lv_iload_n hx hb dX12_four_3 rfl (lv_at hl 0 rfl) ?_
  refine lv_if_lt (tgt := 39) hx hb dX12_four_4 (by decide) (fun h => absurd h (by decide)) (fun c4 => ?_)
  refine lv_aload_n hx hb dX12_four_7 rfl (lv_at hl 1 rfl) ?_
  refine z_get Z i_X12 hP 0 rfl rfl 3 (by decide) bw_1022 rfl dX12_four_8 ?_
  refine lv_aload_n hx hb dX12_four_11 rfl (lv_at hl 1 rfl) ?_
  refine z_get Z i_X12 hP 0 rfl rfl 4 (by decide) bw_1023 rfl dX12_four_12 ?_
  refine lv_iload_n hx hb dX12_four_15 rfl (lv_at hl 2 rfl) ?_
  refine lv_iload_n hx hb dX12_four_16 rfl (lv_at hl 0 rfl) ?_
  refine lv_ishr hx hb dX12_four_17 ?_
  refine lv_sipush (v := 255) hx hb dX12_four_18 (by decide) ?_
  refine lv_iand hx hb dX12_four_21 ?_
  refine z_iast Z hP hD hS 1 0 rfl rfl (vin (by decide)) dX12_four_22 (fun H locs hP hD hS => ?_)
  have hP : va_P D vwCl ([(q, .inr (12, [.ref aA, .ref aI, .ref aT, .ref aP, .int 11, .int (-1), .int (-1), .int 0, .int 0, .int 0, .int 0, .long 0, .int 0, .int 0, .int 0, .int 0, .ref pI, .int 0, .int 0, .int 0, .int 0, .int 0, .ref nM, .ref vA, .ref tR, .int 0, .int 0, .int 0, .ref rW, .ref sP, .ref oA, .ref bS, .ref aS, .ref aO, .ref cS, .ref wY])), (aP, .inl (cI, 300, .inl (upd (upd (upd (upd f (8 : Int32).toNatClampNeg ((w >>> ((24 : Int32) &&& 31)) &&& (255 : Int32))) (9 : Int32).toNatClampNeg ((w >>> ((16 : Int32) &&& 31)) &&& (255 : Int32))) (10 : Int32).toNatClampNeg ((w >>> ((8 : Int32) &&& 31)) &&& (255 : Int32))) (11 : Int32).toNatClampNeg ((w >>> ((0 : Int32) &&& 31)) &&& (255 : Int32)))))]) H := hP
  have hD : va_D A ([(q, .inr (12, [.ref aA, .ref aI, .ref aT, .ref aP, .int 11, .int (-1), .int (-1), .int 0, .int 0, .int 0, .int 0, .long 0, .int 0, .int 0, .int 0, .int 0, .ref pI, .int 0, .int 0, .int 0, .int 0, .int 0, .ref nM, .ref vA, .ref tR, .int 0, .int 0, .int 0, .ref rW, .ref sP, .ref oA, .ref bS, .ref aS, .ref aO, .ref cS, .ref wY])), (aP, .inl (cI, 300, .inl (upd (upd (upd (upd f (8 : Int32).toNatClampNeg ((w >>> ((24 : Int32) &&& 31)) &&& (255 : Int32))) (9 : Int32).toNatClampNeg ((w >>> ((16 : Int32) &&& 31)) &&& (255 : Int32))) (10 : Int32).toNatClampNeg ((w >>> ((8 : Int32) &&& 31)) &&& (255 : Int32))) (11 : Int32).toNatClampNeg ((w >>> ((0 : Int32) &&& 31)) &&& (255 : Int32)))))]) := hD
  refine lv_aload_n hx hb dX12_four_23 rfl (lv_at hl 1 rfl) ?_
  refine lv_dup hx hb dX12_four_24 rfl ?_
  refine z_get Z i_X12 hP 0 rfl rfl 4 (by decide) bw_1023 rfl dX12_four_25 ?_
  refine lv_iconst (v := 1) hx hb dX12_four_28 (by decide) ?_
  refine lv_iadd hx hb dX12_four_29 ?_
  refine z_topi (y := 12) (by decide) ?_
  refine z_put Z i_X12 tyX12 tyX12_ok nmX12 hP hD hS 0 rfl rfl 4 (by decide) bw_1023 rfl rfl rfl (Nat.le_of_ble_eq_true rfl) dX12_four_30 (fun H locs hP hD hS => ?_)
  have hP : va_P D vwCl ([(q, .inr (12, [.ref aA, .ref aI, .ref aT, .ref aP, .int 12, .int (-1), .int (-1), .int 0, .int 0, .int 0, .int 0, .long 0, .int 0, .int 0, .int 0, .int 0, .ref pI, .int 0, .int 0, .int 0, .int 0, .int 0, .ref nM, .ref vA, .ref tR, .int 0, .int 0, .int 0, .ref rW, .ref sP, .ref oA, .ref bS, .ref aS, .ref aO, .ref cS, .ref wY])), (aP, .inl (cI, 300, .inl (upd (upd (upd (upd f (8 : Int32).toNatClampNeg ((w >>> ((24 : Int32) &&& 31)) &&& (255 : Int32))) (9 : Int32).toNatClampNeg ((w >>> ((16 : Int32) &&& 31)) &&& (255 : Int32))) (10 : Int32).toNatClampNeg ((w >>> ((8 : Int32) &&& 31)) &&& (255 : Int32))) (11 : Int32).toNatClampNeg ((w >>> ((0 : Int32) &&& 31)) &&& (255 : Int32)))))]) H := hP
  have hD : va_D A ([(q, .inr (12, [.ref aA, .ref aI, .ref aT, .ref aP, .int 12, .int (-1), .int (-1), .int 0, .int 0, .int 0, .int 0, .long 0, .int 0, .int 0, .int 0, .int 0, .ref pI, .int 0, .int 0, .int 0, .int 0, .int 0, .ref nM, .ref vA, .ref tR, .int 0, .int 0, .int 0, .ref rW, .ref sP, .ref oA, .ref bS, .ref aS, .ref aO, .ref cS, .ref wY])), (aP, .inl (cI, 300, .inl (upd (upd (upd (upd f (8 : Int32).toNatClampNeg ((w >>> ((24 : Int32) &&& 31)) &&& (255 : Int32))) (9 : Int32).toNatClampNeg ((w >>> ((16 : Int32) &&& 31)) &&& (255 : Int32))) (10 : Int32).toNatClampNeg ((w >>> ((8 : Int32) &&& 31)) &&& (255 : Int32))) (11 : Int32).toNatClampNeg ((w >>> ((0 : Int32) &&& 31)) &&& (255 : Int32)))))]) := hD
  refine lv_iinc (v := (-8)) (lv' := [(2, .int (-8)), (0, .ref q), (1, .int w)]) hx hb dX12_four_33 hl (k := 0) rfl (by decide) (by decide) rfl (fun ls hl => ?_)
  refine lv_goto (tgt := 3) hx hb dX12_four_36 (by decide) ?_
  refine lv_iload_n hx hb dX12_four_3 rfl (lv_at hl 0 rfl) ?_
  refine lv_if_lt (tgt := 39) hx hb dX12_four_4 (by decide) (fun c5 => ?_) (fun h => absurd (by decide) h)
  exact z_vret Z hP hD hS (⟨(upd (upd (upd (upd f (8 : Int32).toNatClampNeg ((w >>> ((24 : Int32) &&& 31)) &&& (255 : Int32))) (9 : Int32).toNatClampNeg ((w >>> ((16 : Int32) &&& 31)) &&& (255 : Int32))) (10 : Int32).toNatClampNeg ((w >>> ((8 : Int32) &&& 31)) &&& (255 : Int32))) (11 : Int32).toNatClampNeg ((w >>> ((0 : Int32) &&& 31)) &&& (255 : Int32))), rfl⟩) dX12_four_39 (Nat.le_of_ble_eq_true rfl) (Nat.le_of_ble_eq_true rfl)
set_option maxHeartbeats 4000000 in
set_option maxRecDepth 100000 in
theorem c_X12_four_12 (l : Launch) (D : va_G) (cI cM cT : ClassId) (q : Nat) (aA : Nat) (aI : Nat) (aT : Nat) (aP : Nat) (pI : Nat) (nM : Nat) (vA : Nat) (tR : Nat) (rW : Nat) (sP : Nat) (oA : Nat) (bS : Nat) (aS : Nat) (aO : Nat) (cS : Nat) (wY : Nat) (f : Nat → Int32) (w : Int32) : Cv l D (ty3 cI cM cT) yX12_four cX12_four 3 0 0 0 [.ref q, .int w] ([(q, .inr (12, [.ref aA, .ref aI, .ref aT, .ref aP, .int 12, .int (-1), .int (-1), .int 0, .int 0, .int 0, .int 0, .long 0, .int 0, .int 0, .int 0, .int 0, .ref pI, .int 0, .int 0, .int 0, .int 0, .int 0, .ref nM, .ref vA, .ref tR, .int 0, .int 0, .int 0, .ref rW, .ref sP, .ref oA, .ref bS, .ref aS, .ref aO, .ref cS, .ref wY])), (aP, .inl (cI, 300, .inl f))]) (fun u => ∃ (g : Nat → Int32), u = [(q, .inr (12, [.ref aA, .ref aI, .ref aT, .ref aP, .int 16, .int (-1), .int (-1), .int 0, .int 0, .int 0, .int 0, .long 0, .int 0, .int 0, .int 0, .int 0, .ref pI, .int 0, .int 0, .int 0, .int 0, .int 0, .ref nM, .ref vA, .ref tR, .int 0, .int 0, .int 0, .ref rW, .ref sP, .ref oA, .ref bS, .ref aS, .ref aO, .ref cS, .ref wY])), (aP, .inl (cI, 300, .inl g))]) := by
  refine Cv.of (by decide +kernel) (Nat.le_of_ble_eq_true rfl) ?_
  intro p e s m below meth c A ls Z hin hP hD hl
  have hx := Z.1
  have hb := Z.2.1
  have hS : va_S A s.heap s.heap [] := va_S.rf
  have hl : lv_has ls 3 [(0, .ref q), (1, .int w)] := hl
  skip
  refine lv_bipush (v := 24) hx hb dX12_four_0 (by decide) ?_
  refine lv_istore_n (lv' := [(2, .int 24), (0, .ref q), (1, .int w)]) hx hb dX12_four_2 rfl hl (by decide) rfl (fun ls hl => ?_)
  refine lv_iload_n hx hb dX12_four_3 rfl (lv_at hl 0 rfl) ?_
  refine lv_if_lt (tgt := 39) hx hb dX12_four_4 (by decide) (fun h => absurd h (by decide)) (fun c1 => ?_)
  refine lv_aload_n hx hb dX12_four_7 rfl (lv_at hl 1 rfl) ?_
  refine z_get Z i_X12 hP 0 rfl rfl 3 (by decide) bw_1022 rfl dX12_four_8 ?_
  refine lv_aload_n hx hb dX12_four_11 rfl (lv_at hl 1 rfl) ?_
  refine z_get Z i_X12 hP 0 rfl rfl 4 (by decide) bw_1023 rfl dX12_four_12 ?_
  refine lv_iload_n hx hb dX12_four_15 rfl (lv_at hl 2 rfl) ?_
  refine lv_iload_n hx hb dX12_four_16 rfl (lv_at hl 0 rfl) ?_
  refine lv_ishr hx hb dX12_four_17 ?_
  refine lv_sipush (v := 255) hx hb dX12_four_18 (by decide) ?_
  refine lv_iand hx hb dX12_four_21 ?_
  refine z_iast Z hP hD hS 1 0 rfl rfl (vin (by decide)) dX12_four_22 (fun H locs hP hD hS => ?_)
  have hP : va_P D vwCl ([(q, .inr (12, [.ref aA, .ref aI, .ref aT, .ref aP, .int 12, .int (-1), .int (-1), .int 0, .int 0, .int 0, .int 0, .long 0, .int 0, .int 0, .int 0, .int 0, .ref pI, .int 0, .int 0, .int 0, .int 0, .int 0, .ref nM, .ref vA, .ref tR, .int 0, .int 0, .int 0, .ref rW, .ref sP, .ref oA, .ref bS, .ref aS, .ref aO, .ref cS, .ref wY])), (aP, .inl (cI, 300, .inl (upd f (12 : Int32).toNatClampNeg ((w >>> ((24 : Int32) &&& 31)) &&& (255 : Int32)))))]) H := hP
  have hD : va_D A ([(q, .inr (12, [.ref aA, .ref aI, .ref aT, .ref aP, .int 12, .int (-1), .int (-1), .int 0, .int 0, .int 0, .int 0, .long 0, .int 0, .int 0, .int 0, .int 0, .ref pI, .int 0, .int 0, .int 0, .int 0, .int 0, .ref nM, .ref vA, .ref tR, .int 0, .int 0, .int 0, .ref rW, .ref sP, .ref oA, .ref bS, .ref aS, .ref aO, .ref cS, .ref wY])), (aP, .inl (cI, 300, .inl (upd f (12 : Int32).toNatClampNeg ((w >>> ((24 : Int32) &&& 31)) &&& (255 : Int32)))))]) := hD
  refine lv_aload_n hx hb dX12_four_23 rfl (lv_at hl 1 rfl) ?_
  refine lv_dup hx hb dX12_four_24 rfl ?_
  refine z_get Z i_X12 hP 0 rfl rfl 4 (by decide) bw_1023 rfl dX12_four_25 ?_
  refine lv_iconst (v := 1) hx hb dX12_four_28 (by decide) ?_
  refine lv_iadd hx hb dX12_four_29 ?_
  refine z_topi (y := 13) (by decide) ?_
  refine z_put Z i_X12 tyX12 tyX12_ok nmX12 hP hD hS 0 rfl rfl 4 (by decide) bw_1023 rfl rfl rfl (Nat.le_of_ble_eq_true rfl) dX12_four_30 (fun H locs hP hD hS => ?_)
  have hP : va_P D vwCl ([(q, .inr (12, [.ref aA, .ref aI, .ref aT, .ref aP, .int 13, .int (-1), .int (-1), .int 0, .int 0, .int 0, .int 0, .long 0, .int 0, .int 0, .int 0, .int 0, .ref pI, .int 0, .int 0, .int 0, .int 0, .int 0, .ref nM, .ref vA, .ref tR, .int 0, .int 0, .int 0, .ref rW, .ref sP, .ref oA, .ref bS, .ref aS, .ref aO, .ref cS, .ref wY])), (aP, .inl (cI, 300, .inl (upd f (12 : Int32).toNatClampNeg ((w >>> ((24 : Int32) &&& 31)) &&& (255 : Int32)))))]) H := hP
  have hD : va_D A ([(q, .inr (12, [.ref aA, .ref aI, .ref aT, .ref aP, .int 13, .int (-1), .int (-1), .int 0, .int 0, .int 0, .int 0, .long 0, .int 0, .int 0, .int 0, .int 0, .ref pI, .int 0, .int 0, .int 0, .int 0, .int 0, .ref nM, .ref vA, .ref tR, .int 0, .int 0, .int 0, .ref rW, .ref sP, .ref oA, .ref bS, .ref aS, .ref aO, .ref cS, .ref wY])), (aP, .inl (cI, 300, .inl (upd f (12 : Int32).toNatClampNeg ((w >>> ((24 : Int32) &&& 31)) &&& (255 : Int32)))))]) := hD
  refine lv_iinc (v := 16) (lv' := [(2, .int 16), (0, .ref q), (1, .int w)]) hx hb dX12_four_33 hl (k := 0) rfl (by decide) (by decide) rfl (fun ls hl => ?_)
  refine lv_goto (tgt := 3) hx hb dX12_four_36 (by decide) ?_
  refine lv_iload_n hx hb dX12_four_3 rfl (lv_at hl 0 rfl) ?_
  refine lv_if_lt (tgt := 39) hx hb dX12_four_4 (by decide) (fun h => absurd h (by decide)) (fun c2 => ?_)
  refine lv_aload_n hx hb dX12_four_7 rfl (lv_at hl 1 rfl) ?_
  refine z_get Z i_X12 hP 0 rfl rfl 3 (by decide) bw_1022 rfl dX12_four_8 ?_
  refine lv_aload_n hx hb dX12_four_11 rfl (lv_at hl 1 rfl) ?_
  refine z_get Z i_X12 hP 0 rfl rfl 4 (by decide) bw_1023 rfl dX12_four_12 ?_
  refine lv_iload_n hx hb dX12_four_15 rfl (lv_at hl 2 rfl) ?_
  refine lv_iload_n hx hb dX12_four_16 rfl (lv_at hl 0 rfl) ?_
  refine lv_ishr hx hb dX12_four_17 ?_
  refine lv_sipush (v := 255) hx hb dX12_four_18 (by decide) ?_
  refine lv_iand hx hb dX12_four_21 ?_
  refine z_iast Z hP hD hS 1 0 rfl rfl (vin (by decide)) dX12_four_22 (fun H locs hP hD hS => ?_)
  have hP : va_P D vwCl ([(q, .inr (12, [.ref aA, .ref aI, .ref aT, .ref aP, .int 13, .int (-1), .int (-1), .int 0, .int 0, .int 0, .int 0, .long 0, .int 0, .int 0, .int 0, .int 0, .ref pI, .int 0, .int 0, .int 0, .int 0, .int 0, .ref nM, .ref vA, .ref tR, .int 0, .int 0, .int 0, .ref rW, .ref sP, .ref oA, .ref bS, .ref aS, .ref aO, .ref cS, .ref wY])), (aP, .inl (cI, 300, .inl (upd (upd f (12 : Int32).toNatClampNeg ((w >>> ((24 : Int32) &&& 31)) &&& (255 : Int32))) (13 : Int32).toNatClampNeg ((w >>> ((16 : Int32) &&& 31)) &&& (255 : Int32)))))]) H := hP
  have hD : va_D A ([(q, .inr (12, [.ref aA, .ref aI, .ref aT, .ref aP, .int 13, .int (-1), .int (-1), .int 0, .int 0, .int 0, .int 0, .long 0, .int 0, .int 0, .int 0, .int 0, .ref pI, .int 0, .int 0, .int 0, .int 0, .int 0, .ref nM, .ref vA, .ref tR, .int 0, .int 0, .int 0, .ref rW, .ref sP, .ref oA, .ref bS, .ref aS, .ref aO, .ref cS, .ref wY])), (aP, .inl (cI, 300, .inl (upd (upd f (12 : Int32).toNatClampNeg ((w >>> ((24 : Int32) &&& 31)) &&& (255 : Int32))) (13 : Int32).toNatClampNeg ((w >>> ((16 : Int32) &&& 31)) &&& (255 : Int32)))))]) := hD
  refine lv_aload_n hx hb dX12_four_23 rfl (lv_at hl 1 rfl) ?_
  refine lv_dup hx hb dX12_four_24 rfl ?_
  refine z_get Z i_X12 hP 0 rfl rfl 4 (by decide) bw_1023 rfl dX12_four_25 ?_
  refine lv_iconst (v := 1) hx hb dX12_four_28 (by decide) ?_
  refine lv_iadd hx hb dX12_four_29 ?_
  refine z_topi (y := 14) (by decide) ?_
  refine z_put Z i_X12 tyX12 tyX12_ok nmX12 hP hD hS 0 rfl rfl 4 (by decide) bw_1023 rfl rfl rfl (Nat.le_of_ble_eq_true rfl) dX12_four_30 (fun H locs hP hD hS => ?_)
  have hP : va_P D vwCl ([(q, .inr (12, [.ref aA, .ref aI, .ref aT, .ref aP, .int 14, .int (-1), .int (-1), .int 0, .int 0, .int 0, .int 0, .long 0, .int 0, .int 0, .int 0, .int 0, .ref pI, .int 0, .int 0, .int 0, .int 0, .int 0, .ref nM, .ref vA, .ref tR, .int 0, .int 0, .int 0, .ref rW, .ref sP, .ref oA, .ref bS, .ref aS, .ref aO, .ref cS, .ref wY])), (aP, .inl (cI, 300, .inl (upd (upd f (12 : Int32).toNatClampNeg ((w >>> ((24 : Int32) &&& 31)) &&& (255 : Int32))) (13 : Int32).toNatClampNeg ((w >>> ((16 : Int32) &&& 31)) &&& (255 : Int32)))))]) H := hP
  have hD : va_D A ([(q, .inr (12, [.ref aA, .ref aI, .ref aT, .ref aP, .int 14, .int (-1), .int (-1), .int 0, .int 0, .int 0, .int 0, .long 0, .int 0, .int 0, .int 0, .int 0, .ref pI, .int 0, .int 0, .int 0, .int 0, .int 0, .ref nM, .ref vA, .ref tR, .int 0, .int 0, .int 0, .ref rW, .ref sP, .ref oA, .ref bS, .ref aS, .ref aO, .ref cS, .ref wY])), (aP, .inl (cI, 300, .inl (upd (upd f (12 : Int32).toNatClampNeg ((w >>> ((24 : Int32) &&& 31)) &&& (255 : Int32))) (13 : Int32).toNatClampNeg ((w >>> ((16 : Int32) &&& 31)) &&& (255 : Int32)))))]) := hD
  refine lv_iinc (v := 8) (lv' := [(2, .int 8), (0, .ref q), (1, .int w)]) hx hb dX12_four_33 hl (k := 0) rfl (by decide) (by decide) rfl (fun ls hl => ?_)
  refine lv_goto (tgt := 3) hx hb dX12_four_36 (by decide) ?_
  refine lv_iload_n hx hb dX12_four_3 rfl (lv_at hl 0 rfl) ?_
  refine lv_if_lt (tgt := 39) hx hb dX12_four_4 (by decide) (fun h => absurd h (by decide)) (fun c3 => ?_)
  refine lv_aload_n hx hb dX12_four_7 rfl (lv_at hl 1 rfl) ?_
  refine z_get Z i_X12 hP 0 rfl rfl 3 (by decide) bw_1022 rfl dX12_four_8 ?_
  refine lv_aload_n hx hb dX12_four_11 rfl (lv_at hl 1 rfl) ?_
  refine z_get Z i_X12 hP 0 rfl rfl 4 (by decide) bw_1023 rfl dX12_four_12 ?_
  refine lv_iload_n hx hb dX12_four_15 rfl (lv_at hl 2 rfl) ?_
  refine lv_iload_n hx hb dX12_four_16 rfl (lv_at hl 0 rfl) ?_
  refine lv_ishr hx hb dX12_four_17 ?_
  refine lv_sipush (v := 255) hx hb dX12_four_18 (by decide) ?_
  refine lv_iand hx hb dX12_four_21 ?_
  refine z_iast Z hP hD hS 1 0 rfl rfl (vin (by decide)) dX12_four_22 (fun H locs hP hD hS => ?_)
  have hP : va_P D vwCl ([(q, .inr (12, [.ref aA, .ref aI, .ref aT, .ref aP, .int 14, .int (-1), .int (-1), .int 0, .int 0, .int 0, .int 0, .long 0, .int 0, .int 0, .int 0, .int 0, .ref pI, .int 0, .int 0, .int 0, .int 0, .int 0, .ref nM, .ref vA, .ref tR, .int 0, .int 0, .int 0, .ref rW, .ref sP, .ref oA, .ref bS, .ref aS, .ref aO, .ref cS, .ref wY])), (aP, .inl (cI, 300, .inl (upd (upd (upd f (12 : Int32).toNatClampNeg ((w >>> ((24 : Int32) &&& 31)) &&& (255 : Int32))) (13 : Int32).toNatClampNeg ((w >>> ((16 : Int32) &&& 31)) &&& (255 : Int32))) (14 : Int32).toNatClampNeg ((w >>> ((8 : Int32) &&& 31)) &&& (255 : Int32)))))]) H := hP
  have hD : va_D A ([(q, .inr (12, [.ref aA, .ref aI, .ref aT, .ref aP, .int 14, .int (-1), .int (-1), .int 0, .int 0, .int 0, .int 0, .long 0, .int 0, .int 0, .int 0, .int 0, .ref pI, .int 0, .int 0, .int 0, .int 0, .int 0, .ref nM, .ref vA, .ref tR, .int 0, .int 0, .int 0, .ref rW, .ref sP, .ref oA, .ref bS, .ref aS, .ref aO, .ref cS, .ref wY])), (aP, .inl (cI, 300, .inl (upd (upd (upd f (12 : Int32).toNatClampNeg ((w >>> ((24 : Int32) &&& 31)) &&& (255 : Int32))) (13 : Int32).toNatClampNeg ((w >>> ((16 : Int32) &&& 31)) &&& (255 : Int32))) (14 : Int32).toNatClampNeg ((w >>> ((8 : Int32) &&& 31)) &&& (255 : Int32)))))]) := hD
  refine lv_aload_n hx hb dX12_four_23 rfl (lv_at hl 1 rfl) ?_
  refine lv_dup hx hb dX12_four_24 rfl ?_
  refine z_get Z i_X12 hP 0 rfl rfl 4 (by decide) bw_1023 rfl dX12_four_25 ?_
  refine lv_iconst (v := 1) hx hb dX12_four_28 (by decide) ?_
  refine lv_iadd hx hb dX12_four_29 ?_
  refine z_topi (y := 15) (by decide) ?_
  refine z_put Z i_X12 tyX12 tyX12_ok nmX12 hP hD hS 0 rfl rfl 4 (by decide) bw_1023 rfl rfl rfl (Nat.le_of_ble_eq_true rfl) dX12_four_30 (fun H locs hP hD hS => ?_)
  have hP : va_P D vwCl ([(q, .inr (12, [.ref aA, .ref aI, .ref aT, .ref aP, .int 15, .int (-1), .int (-1), .int 0, .int 0, .int 0, .int 0, .long 0, .int 0, .int 0, .int 0, .int 0, .ref pI, .int 0, .int 0, .int 0, .int 0, .int 0, .ref nM, .ref vA, .ref tR, .int 0, .int 0, .int 0, .ref rW, .ref sP, .ref oA, .ref bS, .ref aS, .ref aO, .ref cS, .ref wY])), (aP, .inl (cI, 300, .inl (upd (upd (upd f (12 : Int32).toNatClampNeg ((w >>> ((24 : Int32) &&& 31)) &&& (255 : Int32))) (13 : Int32).toNatClampNeg ((w >>> ((16 : Int32) &&& 31)) &&& (255 : Int32))) (14 : Int32).toNatClampNeg ((w >>> ((8 : Int32) &&& 31)) &&& (255 : Int32)))))]) H := hP
  have hD : va_D A ([(q, .inr (12, [.ref aA, .ref aI, .ref aT, .ref aP, .int 15, .int (-1), .int (-1), .int 0, .int 0, .int 0, .int 0, .long 0, .int 0, .int 0, .int 0, .int 0, .ref pI, .int 0, .int 0, .int 0, .int 0, .int 0, .ref nM, .ref vA, .ref tR, .int 0, .int 0, .int 0, .ref rW, .ref sP, .ref oA, .ref bS, .ref aS, .ref aO, .ref cS, .ref wY])), (aP, .inl (cI, 300, .inl (upd (upd (upd f (12 : Int32).toNatClampNeg ((w >>> ((24 : Int32) &&& 31)) &&& (255 : Int32))) (13 : Int32).toNatClampNeg ((w >>> ((16 : Int32) &&& 31)) &&& (255 : Int32))) (14 : Int32).toNatClampNeg ((w >>> ((8 : Int32) &&& 31)) &&& (255 : Int32)))))]) := hD
  refine lv_iinc (v := 0) (lv' := [(2, .int 0), (0, .ref q), (1, .int w)]) hx hb dX12_four_33 hl (k := 0) rfl (by decide) (by decide) rfl (fun ls hl => ?_)
  refine lv_goto (tgt := 3) hx hb dX12_four_36 (by decide) ?_
  refine lv_iload_n hx hb dX12_four_3 rfl (lv_at hl 0 rfl) ?_
  refine lv_if_lt (tgt := 39) hx hb dX12_four_4 (by decide) (fun h => absurd h (by decide)) (fun c4 => ?_)
  refine lv_aload_n hx hb dX12_four_7 rfl (lv_at hl 1 rfl) ?_
  refine z_get Z i_X12 hP 0 rfl rfl 3 (by decide) bw_1022 rfl dX12_four_8 ?_
  refine lv_aload_n hx hb dX12_four_11 rfl (lv_at hl 1 rfl) ?_
  refine z_get Z i_X12 hP 0 rfl rfl 4 (by decide) bw_1023 rfl dX12_four_12 ?_
  refine lv_iload_n hx hb dX12_four_15 rfl (lv_at hl 2 rfl) ?_
  refine lv_iload_n hx hb dX12_four_16 rfl (lv_at hl 0 rfl) ?_
  refine lv_ishr hx hb dX12_four_17 ?_
  refine lv_sipush (v := 255) hx hb dX12_four_18 (by decide) ?_
  refine lv_iand hx hb dX12_four_21 ?_
  refine z_iast Z hP hD hS 1 0 rfl rfl (vin (by decide)) dX12_four_22 (fun H locs hP hD hS => ?_)
  have hP : va_P D vwCl ([(q, .inr (12, [.ref aA, .ref aI, .ref aT, .ref aP, .int 15, .int (-1), .int (-1), .int 0, .int 0, .int 0, .int 0, .long 0, .int 0, .int 0, .int 0, .int 0, .ref pI, .int 0, .int 0, .int 0, .int 0, .int 0, .ref nM, .ref vA, .ref tR, .int 0, .int 0, .int 0, .ref rW, .ref sP, .ref oA, .ref bS, .ref aS, .ref aO, .ref cS, .ref wY])), (aP, .inl (cI, 300, .inl (upd (upd (upd (upd f (12 : Int32).toNatClampNeg ((w >>> ((24 : Int32) &&& 31)) &&& (255 : Int32))) (13 : Int32).toNatClampNeg ((w >>> ((16 : Int32) &&& 31)) &&& (255 : Int32))) (14 : Int32).toNatClampNeg ((w >>> ((8 : Int32) &&& 31)) &&& (255 : Int32))) (15 : Int32).toNatClampNeg ((w >>> ((0 : Int32) &&& 31)) &&& (255 : Int32)))))]) H := hP
  have hD : va_D A ([(q, .inr (12, [.ref aA, .ref aI, .ref aT, .ref aP, .int 15, .int (-1), .int (-1), .int 0, .int 0, .int 0, .int 0, .long 0, .int 0, .int 0, .int 0, .int 0, .ref pI, .int 0, .int 0, .int 0, .int 0, .int 0, .ref nM, .ref vA, .ref tR, .int 0, .int 0, .int 0, .ref rW, .ref sP, .ref oA, .ref bS, .ref aS, .ref aO, .ref cS, .ref wY])), (aP, .inl (cI, 300, .inl (upd (upd (upd (upd f (12 : Int32).toNatClampNeg ((w >>> ((24 : Int32) &&& 31)) &&& (255 : Int32))) (13 : Int32).toNatClampNeg ((w >>> ((16 : Int32) &&& 31)) &&& (255 : Int32))) (14 : Int32).toNatClampNeg ((w >>> ((8 : Int32) &&& 31)) &&& (255 : Int32))) (15 : Int32).toNatClampNeg ((w >>> ((0 : Int32) &&& 31)) &&& (255 : Int32)))))]) := hD
  refine lv_aload_n hx hb dX12_four_23 rfl (lv_at hl 1 rfl) ?_
  refine lv_dup hx hb dX12_four_24 rfl ?_
  refine z_get Z i_X12 hP 0 rfl rfl 4 (by decide) bw_1023 rfl dX12_four_25 ?_
  refine lv_iconst (v := 1) hx hb dX12_four_28 (by decide) ?_
  refine lv_iadd hx hb dX12_four_29 ?_
  refine z_topi (y := 16) (by decide) ?_
  refine z_put Z i_X12 tyX12 tyX12_ok nmX12 hP hD hS 0 rfl rfl 4 (by decide) bw_1023 rfl rfl rfl (Nat.le_of_ble_eq_true rfl) dX12_four_30 (fun H locs hP hD hS => ?_)
  have hP : va_P D vwCl ([(q, .inr (12, [.ref aA, .ref aI, .ref aT, .ref aP, .int 16, .int (-1), .int (-1), .int 0, .int 0, .int 0, .int 0, .long 0, .int 0, .int 0, .int 0, .int 0, .ref pI, .int 0, .int 0, .int 0, .int 0, .int 0, .ref nM, .ref vA, .ref tR, .int 0, .int 0, .int 0, .ref rW, .ref sP, .ref oA, .ref bS, .ref aS, .ref aO, .ref cS, .ref wY])), (aP, .inl (cI, 300, .inl (upd (upd (upd (upd f (12 : Int32).toNatClampNeg ((w >>> ((24 : Int32) &&& 31)) &&& (255 : Int32))) (13 : Int32).toNatClampNeg ((w >>> ((16 : Int32) &&& 31)) &&& (255 : Int32))) (14 : Int32).toNatClampNeg ((w >>> ((8 : Int32) &&& 31)) &&& (255 : Int32))) (15 : Int32).toNatClampNeg ((w >>> ((0 : Int32) &&& 31)) &&& (255 : Int32)))))]) H := hP
  have hD : va_D A ([(q, .inr (12, [.ref aA, .ref aI, .ref aT, .ref aP, .int 16, .int (-1), .int (-1), .int 0, .int 0, .int 0, .int 0, .long 0, .int 0, .int 0, .int 0, .int 0, .ref pI, .int 0, .int 0, .int 0, .int 0, .int 0, .ref nM, .ref vA, .ref tR, .int 0, .int 0, .int 0, .ref rW, .ref sP, .ref oA, .ref bS, .ref aS, .ref aO, .ref cS, .ref wY])), (aP, .inl (cI, 300, .inl (upd (upd (upd (upd f (12 : Int32).toNatClampNeg ((w >>> ((24 : Int32) &&& 31)) &&& (255 : Int32))) (13 : Int32).toNatClampNeg ((w >>> ((16 : Int32) &&& 31)) &&& (255 : Int32))) (14 : Int32).toNatClampNeg ((w >>> ((8 : Int32) &&& 31)) &&& (255 : Int32))) (15 : Int32).toNatClampNeg ((w >>> ((0 : Int32) &&& 31)) &&& (255 : Int32)))))]) := hD
  refine lv_iinc (v := (-8)) (lv' := [(2, .int (-8)), (0, .ref q), (1, .int w)]) hx hb dX12_four_33 hl (k := 0) rfl (by decide) (by decide) rfl (fun ls hl => ?_)
  refine lv_goto (tgt := 3) hx hb dX12_four_36 (by decide) ?_
  refine lv_iload_n hx hb dX12_four_3 rfl (lv_at hl 0 rfl) ?_
  refine lv_if_lt (tgt := 39) hx hb dX12_four_4 (by decide) (fun c5 => ?_) (fun h => absurd (by decide) h)
  exact z_vret Z hP hD hS (⟨(upd (upd (upd (upd f (12 : Int32).toNatClampNeg ((w >>> ((24 : Int32) &&& 31)) &&& (255 : Int32))) (13 : Int32).toNatClampNeg ((w >>> ((16 : Int32) &&& 31)) &&& (255 : Int32))) (14 : Int32).toNatClampNeg ((w >>> ((8 : Int32) &&& 31)) &&& (255 : Int32))) (15 : Int32).toNatClampNeg ((w >>> ((0 : Int32) &&& 31)) &&& (255 : Int32))), rfl⟩) dX12_four_39 (Nat.le_of_ble_eq_true rfl) (Nat.le_of_ble_eq_true rfl)
set_option maxHeartbeats 4000000 in
set_option maxRecDepth 100000 in
theorem c_X12_four_16 (l : Launch) (D : va_G) (cI cM cT : ClassId) (q : Nat) (aA : Nat) (aI : Nat) (aT : Nat) (aP : Nat) (pI : Nat) (nM : Nat) (vA : Nat) (tR : Nat) (rW : Nat) (sP : Nat) (oA : Nat) (bS : Nat) (aS : Nat) (aO : Nat) (cS : Nat) (wY : Nat) (f : Nat → Int32) (w : Int32) : Cv l D (ty3 cI cM cT) yX12_four cX12_four 3 0 0 0 [.ref q, .int w] ([(q, .inr (12, [.ref aA, .ref aI, .ref aT, .ref aP, .int 16, .int (-1), .int (-1), .int 0, .int 0, .int 0, .int 0, .long 0, .int 0, .int 0, .int 0, .int 0, .ref pI, .int 0, .int 0, .int 0, .int 0, .int 0, .ref nM, .ref vA, .ref tR, .int 0, .int 0, .int 0, .ref rW, .ref sP, .ref oA, .ref bS, .ref aS, .ref aO, .ref cS, .ref wY])), (aP, .inl (cI, 300, .inl f))]) (fun u => ∃ (g : Nat → Int32), u = [(q, .inr (12, [.ref aA, .ref aI, .ref aT, .ref aP, .int 20, .int (-1), .int (-1), .int 0, .int 0, .int 0, .int 0, .long 0, .int 0, .int 0, .int 0, .int 0, .ref pI, .int 0, .int 0, .int 0, .int 0, .int 0, .ref nM, .ref vA, .ref tR, .int 0, .int 0, .int 0, .ref rW, .ref sP, .ref oA, .ref bS, .ref aS, .ref aO, .ref cS, .ref wY])), (aP, .inl (cI, 300, .inl g))]) := by
  refine Cv.of (by decide +kernel) (Nat.le_of_ble_eq_true rfl) ?_
  intro p e s m below meth c A ls Z hin hP hD hl
  have hx := Z.1
  have hb := Z.2.1
  have hS : va_S A s.heap s.heap [] := va_S.rf
  have hl : lv_has ls 3 [(0, .ref q), (1, .int w)] := hl
  skip
  refine lv_bipush (v := 24) hx hb dX12_four_0 (by decide) ?_
  refine lv_istore_n (lv' := [(2, .int 24), (0, .ref q), (1, .int w)]) hx hb dX12_four_2 rfl hl (by decide) rfl (fun ls hl => ?_)
  refine lv_iload_n hx hb dX12_four_3 rfl (lv_at hl 0 rfl) ?_
  refine lv_if_lt (tgt := 39) hx hb dX12_four_4 (by decide) (fun h => absurd h (by decide)) (fun c1 => ?_)
  refine lv_aload_n hx hb dX12_four_7 rfl (lv_at hl 1 rfl) ?_
  refine z_get Z i_X12 hP 0 rfl rfl 3 (by decide) bw_1022 rfl dX12_four_8 ?_
  refine lv_aload_n hx hb dX12_four_11 rfl (lv_at hl 1 rfl) ?_
  refine z_get Z i_X12 hP 0 rfl rfl 4 (by decide) bw_1023 rfl dX12_four_12 ?_
  refine lv_iload_n hx hb dX12_four_15 rfl (lv_at hl 2 rfl) ?_
  refine lv_iload_n hx hb dX12_four_16 rfl (lv_at hl 0 rfl) ?_
  refine lv_ishr hx hb dX12_four_17 ?_
  refine lv_sipush (v := 255) hx hb dX12_four_18 (by decide) ?_
  refine lv_iand hx hb dX12_four_21 ?_
  refine z_iast Z hP hD hS 1 0 rfl rfl (vin (by decide)) dX12_four_22 (fun H locs hP hD hS => ?_)
  have hP : va_P D vwCl ([(q, .inr (12, [.ref aA, .ref aI, .ref aT, .ref aP, .int 16, .int (-1), .int (-1), .int 0, .int 0, .int 0, .int 0, .long 0, .int 0, .int 0, .int 0, .int 0, .ref pI, .int 0, .int 0, .int 0, .int 0, .int 0, .ref nM, .ref vA, .ref tR, .int 0, .int 0, .int 0, .ref rW, .ref sP, .ref oA, .ref bS, .ref aS, .ref aO, .ref cS, .ref wY])), (aP, .inl (cI, 300, .inl (upd f (16 : Int32).toNatClampNeg ((w >>> ((24 : Int32) &&& 31)) &&& (255 : Int32)))))]) H := hP
  have hD : va_D A ([(q, .inr (12, [.ref aA, .ref aI, .ref aT, .ref aP, .int 16, .int (-1), .int (-1), .int 0, .int 0, .int 0, .int 0, .long 0, .int 0, .int 0, .int 0, .int 0, .ref pI, .int 0, .int 0, .int 0, .int 0, .int 0, .ref nM, .ref vA, .ref tR, .int 0, .int 0, .int 0, .ref rW, .ref sP, .ref oA, .ref bS, .ref aS, .ref aO, .ref cS, .ref wY])), (aP, .inl (cI, 300, .inl (upd f (16 : Int32).toNatClampNeg ((w >>> ((24 : Int32) &&& 31)) &&& (255 : Int32)))))]) := hD
  refine lv_aload_n hx hb dX12_four_23 rfl (lv_at hl 1 rfl) ?_
  refine lv_dup hx hb dX12_four_24 rfl ?_
  refine z_get Z i_X12 hP 0 rfl rfl 4 (by decide) bw_1023 rfl dX12_four_25 ?_
  refine lv_iconst (v := 1) hx hb dX12_four_28 (by decide) ?_
  refine lv_iadd hx hb dX12_four_29 ?_
  refine z_topi (y := 17) (by decide) ?_
  refine z_put Z i_X12 tyX12 tyX12_ok nmX12 hP hD hS 0 rfl rfl 4 (by decide) bw_1023 rfl rfl rfl (Nat.le_of_ble_eq_true rfl) dX12_four_30 (fun H locs hP hD hS => ?_)
  have hP : va_P D vwCl ([(q, .inr (12, [.ref aA, .ref aI, .ref aT, .ref aP, .int 17, .int (-1), .int (-1), .int 0, .int 0, .int 0, .int 0, .long 0, .int 0, .int 0, .int 0, .int 0, .ref pI, .int 0, .int 0, .int 0, .int 0, .int 0, .ref nM, .ref vA, .ref tR, .int 0, .int 0, .int 0, .ref rW, .ref sP, .ref oA, .ref bS, .ref aS, .ref aO, .ref cS, .ref wY])), (aP, .inl (cI, 300, .inl (upd f (16 : Int32).toNatClampNeg ((w >>> ((24 : Int32) &&& 31)) &&& (255 : Int32)))))]) H := hP
  have hD : va_D A ([(q, .inr (12, [.ref aA, .ref aI, .ref aT, .ref aP, .int 17, .int (-1), .int (-1), .int 0, .int 0, .int 0, .int 0, .long 0, .int 0, .int 0, .int 0, .int 0, .ref pI, .int 0, .int 0, .int 0, .int 0, .int 0, .ref nM, .ref vA, .ref tR, .int 0, .int 0, .int 0, .ref rW, .ref sP, .ref oA, .ref bS, .ref aS, .ref aO, .ref cS, .ref wY])), (aP, .inl (cI, 300, .inl (upd f (16 : Int32).toNatClampNeg ((w >>> ((24 : Int32) &&& 31)) &&& (255 : Int32)))))]) := hD
  refine lv_iinc (v := 16) (lv' := [(2, .int 16), (0, .ref q), (1, .int w)]) hx hb dX12_four_33 hl (k := 0) rfl (by decide) (by decide) rfl (fun ls hl => ?_)
  refine lv_goto (tgt := 3) hx hb dX12_four_36 (by decide) ?_
  refine lv_iload_n hx hb dX12_four_3 rfl (lv_at hl 0 rfl) ?_
  refine lv_if_lt (tgt := 39) hx hb dX12_four_4 (by decide) (fun h => absurd h (by decide)) (fun c2 => ?_)
  refine lv_aload_n hx hb dX12_four_7 rfl (lv_at hl 1 rfl) ?_
  refine z_get Z i_X12 hP 0 rfl rfl 3 (by decide) bw_1022 rfl dX12_four_8 ?_
  refine lv_aload_n hx hb dX12_four_11 rfl (lv_at hl 1 rfl) ?_
  refine z_get Z i_X12 hP 0 rfl rfl 4 (by decide) bw_1023 rfl dX12_four_12 ?_
  refine lv_iload_n hx hb dX12_four_15 rfl (lv_at hl 2 rfl) ?_
  refine lv_iload_n hx hb dX12_four_16 rfl (lv_at hl 0 rfl) ?_
  refine lv_ishr hx hb dX12_four_17 ?_
  refine lv_sipush (v := 255) hx hb dX12_four_18 (by decide) ?_
  refine lv_iand hx hb dX12_four_21 ?_
  refine z_iast Z hP hD hS 1 0 rfl rfl (vin (by decide)) dX12_four_22 (fun H locs hP hD hS => ?_)
  have hP : va_P D vwCl ([(q, .inr (12, [.ref aA, .ref aI, .ref aT, .ref aP, .int 17, .int (-1), .int (-1), .int 0, .int 0, .int 0, .int 0, .long 0, .int 0, .int 0, .int 0, .int 0, .ref pI, .int 0, .int 0, .int 0, .int 0, .int 0, .ref nM, .ref vA, .ref tR, .int 0, .int 0, .int 0, .ref rW, .ref sP, .ref oA, .ref bS, .ref aS, .ref aO, .ref cS, .ref wY])), (aP, .inl (cI, 300, .inl (upd (upd f (16 : Int32).toNatClampNeg ((w >>> ((24 : Int32) &&& 31)) &&& (255 : Int32))) (17 : Int32).toNatClampNeg ((w >>> ((16 : Int32) &&& 31)) &&& (255 : Int32)))))]) H := hP
  have hD : va_D A ([(q, .inr (12, [.ref aA, .ref aI, .ref aT, .ref aP, .int 17, .int (-1), .int (-1), .int 0, .int 0, .int 0, .int 0, .long 0, .int 0, .int 0, .int 0, .int 0, .ref pI, .int 0, .int 0, .int 0, .int 0, .int 0, .ref nM, .ref vA, .ref tR, .int 0, .int 0, .int 0, .ref rW, .ref sP, .ref oA, .ref bS, .ref aS, .ref aO, .ref cS, .ref wY])), (aP, .inl (cI, 300, .inl (upd (upd f (16 : Int32).toNatClampNeg ((w >>> ((24 : Int32) &&& 31)) &&& (255 : Int32))) (17 : Int32).toNatClampNeg ((w >>> ((16 : Int32) &&& 31)) &&& (255 : Int32)))))]) := hD
  refine lv_aload_n hx hb dX12_four_23 rfl (lv_at hl 1 rfl) ?_
  refine lv_dup hx hb dX12_four_24 rfl ?_
  refine z_get Z i_X12 hP 0 rfl rfl 4 (by decide) bw_1023 rfl dX12_four_25 ?_
  refine lv_iconst (v := 1) hx hb dX12_four_28 (by decide) ?_
  refine lv_iadd hx hb dX12_four_29 ?_
  refine z_topi (y := 18) (by decide) ?_
  refine z_put Z i_X12 tyX12 tyX12_ok nmX12 hP hD hS 0 rfl rfl 4 (by decide) bw_1023 rfl rfl rfl (Nat.le_of_ble_eq_true rfl) dX12_four_30 (fun H locs hP hD hS => ?_)
  have hP : va_P D vwCl ([(q, .inr (12, [.ref aA, .ref aI, .ref aT, .ref aP, .int 18, .int (-1), .int (-1), .int 0, .int 0, .int 0, .int 0, .long 0, .int 0, .int 0, .int 0, .int 0, .ref pI, .int 0, .int 0, .int 0, .int 0, .int 0, .ref nM, .ref vA, .ref tR, .int 0, .int 0, .int 0, .ref rW, .ref sP, .ref oA, .ref bS, .ref aS, .ref aO, .ref cS, .ref wY])), (aP, .inl (cI, 300, .inl (upd (upd f (16 : Int32).toNatClampNeg ((w >>> ((24 : Int32) &&& 31)) &&& (255 : Int32))) (17 : Int32).toNatClampNeg ((w >>> ((16 : Int32) &&& 31)) &&& (255 : Int32)))))]) H := hP
  have hD : va_D A ([(q, .inr (12, [.ref aA, .ref aI, .ref aT, .ref aP, .int 18, .int (-1), .int (-1), .int 0, .int 0, .int 0, .int 0, .long 0, .int 0, .int 0, .int 0, .int 0, .ref pI, .int 0, .int 0, .int 0, .int 0, .int 0, .ref nM, .ref vA, .ref tR, .int 0, .int 0, .int 0, .ref rW, .ref sP, .ref oA, .ref bS, .ref aS, .ref aO, .ref cS, .ref wY])), (aP, .inl (cI, 300, .inl (upd (upd f (16 : Int32).toNatClampNeg ((w >>> ((24 : Int32) &&& 31)) &&& (255 : Int32))) (17 : Int32).toNatClampNeg ((w >>> ((16 : Int32) &&& 31)) &&& (255 : Int32)))))]) := hD
  refine lv_iinc (v := 8) (lv' := [(2, .int 8), (0, .ref q), (1, .int w)]) hx hb dX12_four_33 hl (k := 0) rfl (by decide) (by decide) rfl (fun ls hl => ?_)
  refine lv_goto (tgt := 3) hx hb dX12_four_36 (by decide) ?_
  refine lv_iload_n hx hb dX12_four_3 rfl (lv_at hl 0 rfl) ?_
  refine lv_if_lt (tgt := 39) hx hb dX12_four_4 (by decide) (fun h => absurd h (by decide)) (fun c3 => ?_)
  refine lv_aload_n hx hb dX12_four_7 rfl (lv_at hl 1 rfl) ?_
  refine z_get Z i_X12 hP 0 rfl rfl 3 (by decide) bw_1022 rfl dX12_four_8 ?_
  refine lv_aload_n hx hb dX12_four_11 rfl (lv_at hl 1 rfl) ?_
  refine z_get Z i_X12 hP 0 rfl rfl 4 (by decide) bw_1023 rfl dX12_four_12 ?_
  refine lv_iload_n hx hb dX12_four_15 rfl (lv_at hl 2 rfl) ?_
  refine lv_iload_n hx hb dX12_four_16 rfl (lv_at hl 0 rfl) ?_
  refine lv_ishr hx hb dX12_four_17 ?_
  refine lv_sipush (v := 255) hx hb dX12_four_18 (by decide) ?_
  refine lv_iand hx hb dX12_four_21 ?_
  refine z_iast Z hP hD hS 1 0 rfl rfl (vin (by decide)) dX12_four_22 (fun H locs hP hD hS => ?_)
  have hP : va_P D vwCl ([(q, .inr (12, [.ref aA, .ref aI, .ref aT, .ref aP, .int 18, .int (-1), .int (-1), .int 0, .int 0, .int 0, .int 0, .long 0, .int 0, .int 0, .int 0, .int 0, .ref pI, .int 0, .int 0, .int 0, .int 0, .int 0, .ref nM, .ref vA, .ref tR, .int 0, .int 0, .int 0, .ref rW, .ref sP, .ref oA, .ref bS, .ref aS, .ref aO, .ref cS, .ref wY])), (aP, .inl (cI, 300, .inl (upd (upd (upd f (16 : Int32).toNatClampNeg ((w >>> ((24 : Int32) &&& 31)) &&& (255 : Int32))) (17 : Int32).toNatClampNeg ((w >>> ((16 : Int32) &&& 31)) &&& (255 : Int32))) (18 : Int32).toNatClampNeg ((w >>> ((8 : Int32) &&& 31)) &&& (255 : Int32)))))]) H := hP
  have hD : va_D A ([(q, .inr (12, [.ref aA, .ref aI, .ref aT, .ref aP, .int 18, .int (-1), .int (-1), .int 0, .int 0, .int 0, .int 0, .long 0, .int 0, .int 0, .int 0, .int 0, .ref pI, .int 0, .int 0, .int 0, .int 0, .int 0, .ref nM, .ref vA, .ref tR, .int 0, .int 0, .int 0, .ref rW, .ref sP, .ref oA, .ref bS, .ref aS, .ref aO, .ref cS, .ref wY])), (aP, .inl (cI, 300, .inl (upd (upd (upd f (16 : Int32).toNatClampNeg ((w >>> ((24 : Int32) &&& 31)) &&& (255 : Int32))) (17 : Int32).toNatClampNeg ((w >>> ((16 : Int32) &&& 31)) &&& (255 : Int32))) (18 : Int32).toNatClampNeg ((w >>> ((8 : Int32) &&& 31)) &&& (255 : Int32)))))]) := hD
  refine lv_aload_n hx hb dX12_four_23 rfl (lv_at hl 1 rfl) ?_
  refine lv_dup hx hb dX12_four_24 rfl ?_
  refine z_get Z i_X12 hP 0 rfl rfl 4 (by decide) bw_1023 rfl dX12_four_25 ?_
  refine lv_iconst (v := 1) hx hb dX12_four_28 (by decide) ?_
  refine lv_iadd hx hb dX12_four_29 ?_
  refine z_topi (y := 19) (by decide) ?_
  refine z_put Z i_X12 tyX12 tyX12_ok nmX12 hP hD hS 0 rfl rfl 4 (by decide) bw_1023 rfl rfl rfl (Nat.le_of_ble_eq_true rfl) dX12_four_30 (fun H locs hP hD hS => ?_)
  have hP : va_P D vwCl ([(q, .inr (12, [.ref aA, .ref aI, .ref aT, .ref aP, .int 19, .int (-1), .int (-1), .int 0, .int 0, .int 0, .int 0, .long 0, .int 0, .int 0, .int 0, .int 0, .ref pI, .int 0, .int 0, .int 0, .int 0, .int 0, .ref nM, .ref vA, .ref tR, .int 0, .int 0, .int 0, .ref rW, .ref sP, .ref oA, .ref bS, .ref aS, .ref aO, .ref cS, .ref wY])), (aP, .inl (cI, 300, .inl (upd (upd (upd f (16 : Int32).toNatClampNeg ((w >>> ((24 : Int32) &&& 31)) &&& (255 : Int32))) (17 : Int32).toNatClampNeg ((w >>> ((16 : Int32) &&& 31)) &&& (255 : Int32))) (18 : Int32).toNatClampNeg ((w >>> ((8 : Int32) &&& 31)) &&& (255 : Int32)))))]) H := hP
  have hD : va_D A ([(q, .inr (12, [.ref aA, .ref aI, .ref aT, .ref aP, .int 19, .int (-1), .int (-1), .int 0, .int 0, .int 0, .int 0, .long 0, .int 0, .int 0, .int 0, .int 0, .ref pI, .int 0, .int 0, .int 0, .int 0, .int 0, .ref nM, .ref vA, .ref tR, .int 0, .int 0, .int 0, .ref rW, .ref sP, .ref oA, .ref bS, .ref aS, .ref aO, .ref cS, .ref wY])), (aP, .inl (cI, 300, .inl (upd (upd (upd f (16 : Int32).toNatClampNeg ((w >>> ((24 : Int32) &&& 31)) &&& (255 : Int32))) (17 : Int32).toNatClampNeg ((w >>> ((16 : Int32) &&& 31)) &&& (255 : Int32))) (18 : Int32).toNatClampNeg ((w >>> ((8 : Int32) &&& 31)) &&& (255 : Int32)))))]) := hD
  refine lv_iinc (v := 0) (lv' := [(2, .int 0), (0, .ref q), (1, .int w)]) hx hb dX12_four_33 hl (k := 0) rfl (by decide) (by decide) rfl (fun ls hl => ?_)
  refine lv_goto (tgt := 3) hx hb dX12_four_36 (by decide) ?_
  refine lv_iload_n hx hb dX12_four_3 rfl (lv_at hl 0 rfl) ?_
  refine lv_if_lt (tgt := 39) hx hb dX12_four_4 (by decide) (fun h => absurd h (by decide)) (fun c4 => ?_)
  refine lv_aload_n hx hb dX12_four_7 rfl (lv_at hl 1 rfl) ?_
  refine z_get Z i_X12 hP 0 rfl rfl 3 (by decide) bw_1022 rfl dX12_four_8 ?_
  refine lv_aload_n hx hb dX12_four_11 rfl (lv_at hl 1 rfl) ?_
  refine z_get Z i_X12 hP 0 rfl rfl 4 (by decide) bw_1023 rfl dX12_four_12 ?_
  refine lv_iload_n hx hb dX12_four_15 rfl (lv_at hl 2 rfl) ?_
  refine lv_iload_n hx hb dX12_four_16 rfl (lv_at hl 0 rfl) ?_
  refine lv_ishr hx hb dX12_four_17 ?_
  refine lv_sipush (v := 255) hx hb dX12_four_18 (by decide) ?_
  refine lv_iand hx hb dX12_four_21 ?_
  refine z_iast Z hP hD hS 1 0 rfl rfl (vin (by decide)) dX12_four_22 (fun H locs hP hD hS => ?_)
  have hP : va_P D vwCl ([(q, .inr (12, [.ref aA, .ref aI, .ref aT, .ref aP, .int 19, .int (-1), .int (-1), .int 0, .int 0, .int 0, .int 0, .long 0, .int 0, .int 0, .int 0, .int 0, .ref pI, .int 0, .int 0, .int 0, .int 0, .int 0, .ref nM, .ref vA, .ref tR, .int 0, .int 0, .int 0, .ref rW, .ref sP, .ref oA, .ref bS, .ref aS, .ref aO, .ref cS, .ref wY])), (aP, .inl (cI, 300, .inl (upd (upd (upd (upd f (16 : Int32).toNatClampNeg ((w >>> ((24 : Int32) &&& 31)) &&& (255 : Int32))) (17 : Int32).toNatClampNeg ((w >>> ((16 : Int32) &&& 31)) &&& (255 : Int32))) (18 : Int32).toNatClampNeg ((w >>> ((8 : Int32) &&& 31)) &&& (255 : Int32))) (19 : Int32).toNatClampNeg ((w >>> ((0 : Int32) &&& 31)) &&& (255 : Int32)))))]) H := hP
  have hD : va_D A ([(q, .inr (12, [.ref aA, .ref aI, .ref aT, .ref aP, .int 19, .int (-1), .int (-1), .int 0, .int 0, .int 0, .int 0, .long 0, .int 0, .int 0, .int 0, .int 0, .ref pI, .int 0, .int 0, .int 0, .int 0, .int 0, .ref nM, .ref vA, .ref tR, .int 0, .int 0, .int 0, .ref rW, .ref sP, .ref oA, .ref bS, .ref aS, .ref aO, .ref cS, .ref wY])), (aP, .inl (cI, 300, .inl (upd (upd (upd (upd f (16 : Int32).toNatClampNeg ((w >>> ((24 : Int32) &&& 31)) &&& (255 : Int32))) (17 : Int32).toNatClampNeg ((w >>> ((16 : Int32) &&& 31)) &&& (255 : Int32))) (18 : Int32).toNatClampNeg ((w >>> ((8 : Int32) &&& 31)) &&& (255 : Int32))) (19 : Int32).toNatClampNeg ((w >>> ((0 : Int32) &&& 31)) &&& (255 : Int32)))))]) := hD
  refine lv_aload_n hx hb dX12_four_23 rfl (lv_at hl 1 rfl) ?_
  refine lv_dup hx hb dX12_four_24 rfl ?_
  refine z_get Z i_X12 hP 0 rfl rfl 4 (by decide) bw_1023 rfl dX12_four_25 ?_
  refine lv_iconst (v := 1) hx hb dX12_four_28 (by decide) ?_
  refine lv_iadd hx hb dX12_four_29 ?_
  refine z_topi (y := 20) (by decide) ?_
  refine z_put Z i_X12 tyX12 tyX12_ok nmX12 hP hD hS 0 rfl rfl 4 (by decide) bw_1023 rfl rfl rfl (Nat.le_of_ble_eq_true rfl) dX12_four_30 (fun H locs hP hD hS => ?_)
  have hP : va_P D vwCl ([(q, .inr (12, [.ref aA, .ref aI, .ref aT, .ref aP, .int 20, .int (-1), .int (-1), .int 0, .int 0, .int 0, .int 0, .long 0, .int 0, .int 0, .int 0, .int 0, .ref pI, .int 0, .int 0, .int 0, .int 0, .int 0, .ref nM, .ref vA, .ref tR, .int 0, .int 0, .int 0, .ref rW, .ref sP, .ref oA, .ref bS, .ref aS, .ref aO, .ref cS, .ref wY])), (aP, .inl (cI, 300, .inl (upd (upd (upd (upd f (16 : Int32).toNatClampNeg ((w >>> ((24 : Int32) &&& 31)) &&& (255 : Int32))) (17 : Int32).toNatClampNeg ((w >>> ((16 : Int32) &&& 31)) &&& (255 : Int32))) (18 : Int32).toNatClampNeg ((w >>> ((8 : Int32) &&& 31)) &&& (255 : Int32))) (19 : Int32).toNatClampNeg ((w >>> ((0 : Int32) &&& 31)) &&& (255 : Int32)))))]) H := hP
  have hD : va_D A ([(q, .inr (12, [.ref aA, .ref aI, .ref aT, .ref aP, .int 20, .int (-1), .int (-1), .int 0, .int 0, .int 0, .int 0, .long 0, .int 0, .int 0, .int 0, .int 0, .ref pI, .int 0, .int 0, .int 0, .int 0, .int 0, .ref nM, .ref vA, .ref tR, .int 0, .int 0, .int 0, .ref rW, .ref sP, .ref oA, .ref bS, .ref aS, .ref aO, .ref cS, .ref wY])), (aP, .inl (cI, 300, .inl (upd (upd (upd (upd f (16 : Int32).toNatClampNeg ((w >>> ((24 : Int32) &&& 31)) &&& (255 : Int32))) (17 : Int32).toNatClampNeg ((w >>> ((16 : Int32) &&& 31)) &&& (255 : Int32))) (18 : Int32).toNatClampNeg ((w >>> ((8 : Int32) &&& 31)) &&& (255 : Int32))) (19 : Int32).toNatClampNeg ((w >>> ((0 : Int32) &&& 31)) &&& (255 : Int32)))))]) := hD
  refine lv_iinc (v := (-8)) (lv' := [(2, .int (-8)), (0, .ref q), (1, .int w)]) hx hb dX12_four_33 hl (k := 0) rfl (by decide) (by decide) rfl (fun ls hl => ?_)
  refine lv_goto (tgt := 3) hx hb dX12_four_36 (by decide) ?_
  refine lv_iload_n hx hb dX12_four_3 rfl (lv_at hl 0 rfl) ?_
  refine lv_if_lt (tgt := 39) hx hb dX12_four_4 (by decide) (fun c5 => ?_) (fun h => absurd (by decide) h)
  exact z_vret Z hP hD hS (⟨(upd (upd (upd (upd f (16 : Int32).toNatClampNeg ((w >>> ((24 : Int32) &&& 31)) &&& (255 : Int32))) (17 : Int32).toNatClampNeg ((w >>> ((16 : Int32) &&& 31)) &&& (255 : Int32))) (18 : Int32).toNatClampNeg ((w >>> ((8 : Int32) &&& 31)) &&& (255 : Int32))) (19 : Int32).toNatClampNeg ((w >>> ((0 : Int32) &&& 31)) &&& (255 : Int32))), rfl⟩) dX12_four_39 (Nat.le_of_ble_eq_true rfl) (Nat.le_of_ble_eq_true rfl)
set_option maxHeartbeats 4000000 in
set_option maxRecDepth 100000 in
theorem c_X12_feed (l : Launch) (D : va_G) (cI cM cT : ClassId) (q : Nat) (aA : Nat) (aI : Nat) (aT : Nat) (aP : Nat) (pI : Nat) (nM : Nat) (vA : Nat) (tR : Nat) (rW : Nat) (sP : Nat) (oA : Nat) (bS : Nat) (aS : Nat) (aO : Nat) (cS : Nat) (wY : Nat) (p0 : Int32) (p1 : Int32) (p2 : Int32) (p3 : Int32) (p4 : Int32) : Ci l D (ty3 cI cM cT) yX12_feed cX12_feed 6 (some .int) 3 0 0 [.ref q, .int p0, .int p1, .int p2, .int p3, .int p4] ([(q, .inr (12, [.ref aA, .ref aI, .ref aT, .ref aP, .int 0, .int (-1), .int (-1), .int 0, .int 0, .int 0, .int 0, .long 0, .int 0, .int 0, .int 0, .int 0, .ref pI, .int 0, .int 0, .int 0, .int 0, .int 0, .ref nM, .ref vA, .ref tR, .int 0, .int 0, .int 0, .ref rW, .ref sP, .ref oA, .ref bS, .ref aS, .ref aO, .ref cS, .ref wY])), (aP, .inl (cI, 300, .inl (fun _ => 0)))]) (fun r u => r = 20) := by
  refine Ci.of (by decide +kernel) (Nat.le_of_ble_eq_true rfl) ?_
  intro p e s m below meth c A ls Z hin hP hD hl
  have hx := Z.1
  have hb := Z.2.1
  have hS : va_S A s.heap s.heap [] := va_S.rf
  have hl : lv_has ls 6 [(0, .ref q), (1, .int p0), (2, .int p1), (3, .int p2), (4, .int p3), (5, .int p4)] := hl
  skip
  refine lv_aload_n hx hb dX12_feed_0 rfl (lv_at hl 0 rfl) ?_
  refine z_get Z i_X12 hP 0 rfl rfl 4 (by decide) bw_1023 rfl dX12_feed_1 ?_
  refine lv_bipush (v := 20) hx hb dX12_feed_4 (by decide) ?_
  refine lv_iadd hx hb dX12_feed_6 ?_
  refine z_topi (y := 20) (by decide) ?_
  refine lv_sipush (v := 300) hx hb dX12_feed_7 (by decide) ?_
  refine lv_icmp_le (tgt := 15) hx hb dX12_feed_10 (by decide) (fun c1 => ?_) (fun h => absurd (by decide) h)
  refine lv_aload_n hx hb dX12_feed_15 rfl (lv_at hl 0 rfl) ?_
  refine lv_iload_n hx hb dX12_feed_16 rfl (lv_at hl 1 rfl) ?_
  have hPc := hP.sub2 (wc := [(q, .inr (12, [.ref aA, .ref aI, .ref aT, .ref aP, .int 0, .int (-1), .int (-1), .int 0, .int 0, .int 0, .int 0, .long 0, .int 0, .int 0, .int 0, .int 0, .ref pI, .int 0, .int 0, .int 0, .int 0, .int 0, .ref nM, .ref vA, .ref tR, .int 0, .int 0, .int 0, .ref rW, .ref sP, .ref oA, .ref bS, .ref aS, .ref aO, .ref cS, .ref wY])), (aP, .inl (cI, 300, .inl (fun _ => 0)))]) [0, 1] rfl
  have hDc := hD.sub (ws' := [(q, .inr (12, [.ref aA, .ref aI, .ref aT, .ref aP, .int 0, .int (-1), .int (-1), .int 0, .int 0, .int 0, .int 0, .long 0, .int 0, .int 0, .int 0, .int 0, .ref pI, .int 0, .int 0, .int 0, .int 0, .int 0, .ref nM, .ref vA, .ref tR, .int 0, .int 0, .int 0, .ref rW, .ref sP, .ref oA, .ref bS, .ref aS, .ref aO, .ref cS, .ref wY])), (aP, .inl (cI, 300, .inl (fun _ => 0)))]) [0, 1] (by decide) rfl
  refine raw_Vv (ci := 12) (q0 := 0) (nA := 1) (As := [.int p0]) (rest := []) Z hl.1 (c_X12_four_0 l D cI cM cT q aA aI aT aP pI nM vA tR rW sP oA bS aS aO cS wY (fun _ => 0) p0) (bw_V bw_1158 bw_1160 bw_36 bw_92 bw_1161) ⟨by decide +kernel, by decide +kernel, by decide +kernel⟩ rfl ⟨Nat.le_of_ble_eq_true rfl, Nat.le_of_ble_eq_true rfl⟩ rfl rfl rfl hPc hDc hS rfl (Nat.le_of_ble_eq_true rfl) dX12_feed_17 ⟨Nat.le_of_ble_eq_true rfl, Nat.le_of_ble_eq_true rfl⟩ (fun u2 H1 locs1 h4 hku2 hP1 hD1 hS1 => ?_)
  obtain ⟨g_5, rfl⟩ := h4
  obtain ⟨hP, hD⟩ := z_join (wr := []) Z hS hP hD [0, 1] [] rfl (by decide) rfl (by decide) (by decide) hku2 hP1 hD1
  have hS := hS1
  clear hS1
  generalize H1 = H at hP hS ⊢
  generalize locs1 = locs at hS ⊢
  have hP : va_P D vwCl ([(q, .inr (12, [.ref aA, .ref aI, .ref aT, .ref aP, .int 4, .int (-1), .int (-1), .int 0, .int 0, .int 0, .int 0, .long 0, .int 0, .int 0, .int 0, .int 0, .ref pI, .int 0, .int 0, .int 0, .int 0, .int 0, .ref nM, .ref vA, .ref tR, .int 0, .int 0, .int 0, .ref rW, .ref sP, .ref oA, .ref bS, .ref aS, .ref aO, .ref cS, .ref wY])), (aP, .inl (cI, 300, .inl g_5))]) H := hP
  have hD : va_D A ([(q, .inr (12, [.ref aA, .ref aI, .ref aT, .ref aP, .int 4, .int (-1), .int (-1), .int 0, .int 0, .int 0, .int 0, .long 0, .int 0, .int 0, .int 0, .int 0, .ref pI, .int 0, .int 0, .int 0, .int 0, .int 0, .ref nM, .ref vA, .ref tR, .int 0, .int 0, .int 0, .ref rW, .ref sP, .ref oA, .ref bS, .ref aS, .ref aO, .ref cS, .ref wY])), (aP, .inl (cI, 300, .inl g_5))]) := hD
  refine lv_aload_n hx hb dX12_feed_20 rfl (lv_at hl 0 rfl) ?_
  refine lv_iload_n hx hb dX12_feed_21 rfl (lv_at hl 2 rfl) ?_
  have hPc := hP.sub2 (wc := [(q, .inr (12, [.ref aA, .ref aI, .ref aT, .ref aP, .int 4, .int (-1), .int (-1), .int 0, .int 0, .int 0, .int 0, .long 0, .int 0, .int 0, .int 0, .int 0, .ref pI, .int 0, .int 0, .int 0, .int 0, .int 0, .ref nM, .ref vA, .ref tR, .int 0, .int 0, .int 0, .ref rW, .ref sP, .ref oA, .ref bS, .ref aS, .ref aO, .ref cS, .ref wY])), (aP, .inl (cI, 300, .inl g_5))]) [0, 1] rfl
  have hDc := hD.sub (ws' := [(q, .inr (12, [.ref aA, .ref aI, .ref aT, .ref aP, .int 4, .int (-1), .int (-1), .int 0, .int 0, .int 0, .int 0, .long 0, .int 0, .int 0, .int 0, .int 0, .ref pI, .int 0, .int 0, .int 0, .int 0, .int 0, .ref nM, .ref vA, .ref tR, .int 0, .int 0, .int 0, .ref rW, .ref sP, .ref oA, .ref bS, .ref aS, .ref aO, .ref cS, .ref wY])), (aP, .inl (cI, 300, .inl g_5))]) [0, 1] (by decide) rfl
  refine raw_Vv (ci := 12) (q0 := 0) (nA := 1) (As := [.int p1]) (rest := []) Z hl.1 (c_X12_four_4 l D cI cM cT q aA aI aT aP pI nM vA tR rW sP oA bS aS aO cS wY g_5 p1) (bw_V bw_1158 bw_1160 bw_36 bw_92 bw_1161) ⟨by decide +kernel, by decide +kernel, by decide +kernel⟩ rfl ⟨Nat.le_of_ble_eq_true rfl, Nat.le_of_ble_eq_true rfl⟩ rfl rfl rfl hPc hDc hS rfl (Nat.le_of_ble_eq_true rfl) dX12_feed_22 ⟨Nat.le_of_ble_eq_true rfl, Nat.le_of_ble_eq_true rfl⟩ (fun u6 H1 locs1 h8 hku6 hP1 hD1 hS1 => ?_)
  obtain ⟨g_9, rfl⟩ := h8
  obtain ⟨hP, hD⟩ := z_join (wr := []) Z hS hP hD [0, 1] [] rfl (by decide) rfl (by decide) (by decide) hku6 hP1 hD1
  have hS := hS1
  clear hS1
  generalize H1 = H at hP hS ⊢
  generalize locs1 = locs at hS ⊢
  have hP : va_P D vwCl ([(q, .inr (12, [.ref aA, .ref aI, .ref aT, .ref aP, .int 8, .int (-1), .int (-1), .int 0, .int 0, .int 0, .int 0, .long 0, .int 0, .int 0, .int 0, .int 0, .ref pI, .int 0, .int 0, .int 0, .int 0, .int 0, .ref nM, .ref vA, .ref tR, .int 0, .int 0, .int 0, .ref rW, .ref sP, .ref oA, .ref bS, .ref aS, .ref aO, .ref cS, .ref wY])), (aP, .inl (cI, 300, .inl g_9))]) H := hP
  have hD : va_D A ([(q, .inr (12, [.ref aA, .ref aI, .ref aT, .ref aP, .int 8, .int (-1), .int (-1), .int 0, .int 0, .int 0, .int 0, .long 0, .int 0, .int 0, .int 0, .int 0, .ref pI, .int 0, .int 0, .int 0, .int 0, .int 0, .ref nM, .ref vA, .ref tR, .int 0, .int 0, .int 0, .ref rW, .ref sP, .ref oA, .ref bS, .ref aS, .ref aO, .ref cS, .ref wY])), (aP, .inl (cI, 300, .inl g_9))]) := hD
  refine lv_aload_n hx hb dX12_feed_25 rfl (lv_at hl 0 rfl) ?_
  refine lv_iload_n hx hb dX12_feed_26 rfl (lv_at hl 3 rfl) ?_
  have hPc := hP.sub2 (wc := [(q, .inr (12, [.ref aA, .ref aI, .ref aT, .ref aP, .int 8, .int (-1), .int (-1), .int 0, .int 0, .int 0, .int 0, .long 0, .int 0, .int 0, .int 0, .int 0, .ref pI, .int 0, .int 0, .int 0, .int 0, .int 0, .ref nM, .ref vA, .ref tR, .int 0, .int 0, .int 0, .ref rW, .ref sP, .ref oA, .ref bS, .ref aS, .ref aO, .ref cS, .ref wY])), (aP, .inl (cI, 300, .inl g_9))]) [0, 1] rfl
  have hDc := hD.sub (ws' := [(q, .inr (12, [.ref aA, .ref aI, .ref aT, .ref aP, .int 8, .int (-1), .int (-1), .int 0, .int 0, .int 0, .int 0, .long 0, .int 0, .int 0, .int 0, .int 0, .ref pI, .int 0, .int 0, .int 0, .int 0, .int 0, .ref nM, .ref vA, .ref tR, .int 0, .int 0, .int 0, .ref rW, .ref sP, .ref oA, .ref bS, .ref aS, .ref aO, .ref cS, .ref wY])), (aP, .inl (cI, 300, .inl g_9))]) [0, 1] (by decide) rfl
  refine raw_Vv (ci := 12) (q0 := 0) (nA := 1) (As := [.int p2]) (rest := []) Z hl.1 (c_X12_four_8 l D cI cM cT q aA aI aT aP pI nM vA tR rW sP oA bS aS aO cS wY g_9 p2) (bw_V bw_1158 bw_1160 bw_36 bw_92 bw_1161) ⟨by decide +kernel, by decide +kernel, by decide +kernel⟩ rfl ⟨Nat.le_of_ble_eq_true rfl, Nat.le_of_ble_eq_true rfl⟩ rfl rfl rfl hPc hDc hS rfl (Nat.le_of_ble_eq_true rfl) dX12_feed_27 ⟨Nat.le_of_ble_eq_true rfl, Nat.le_of_ble_eq_true rfl⟩ (fun u10 H1 locs1 h12 hku10 hP1 hD1 hS1 => ?_)
  obtain ⟨g_13, rfl⟩ := h12
  obtain ⟨hP, hD⟩ := z_join (wr := []) Z hS hP hD [0, 1] [] rfl (by decide) rfl (by decide) (by decide) hku10 hP1 hD1
  have hS := hS1
  clear hS1
  generalize H1 = H at hP hS ⊢
  generalize locs1 = locs at hS ⊢
  have hP : va_P D vwCl ([(q, .inr (12, [.ref aA, .ref aI, .ref aT, .ref aP, .int 12, .int (-1), .int (-1), .int 0, .int 0, .int 0, .int 0, .long 0, .int 0, .int 0, .int 0, .int 0, .ref pI, .int 0, .int 0, .int 0, .int 0, .int 0, .ref nM, .ref vA, .ref tR, .int 0, .int 0, .int 0, .ref rW, .ref sP, .ref oA, .ref bS, .ref aS, .ref aO, .ref cS, .ref wY])), (aP, .inl (cI, 300, .inl g_13))]) H := hP
  have hD : va_D A ([(q, .inr (12, [.ref aA, .ref aI, .ref aT, .ref aP, .int 12, .int (-1), .int (-1), .int 0, .int 0, .int 0, .int 0, .long 0, .int 0, .int 0, .int 0, .int 0, .ref pI, .int 0, .int 0, .int 0, .int 0, .int 0, .ref nM, .ref vA, .ref tR, .int 0, .int 0, .int 0, .ref rW, .ref sP, .ref oA, .ref bS, .ref aS, .ref aO, .ref cS, .ref wY])), (aP, .inl (cI, 300, .inl g_13))]) := hD
  refine lv_aload_n hx hb dX12_feed_30 rfl (lv_at hl 0 rfl) ?_
  refine lv_iload hx hb dX12_feed_31 (lv_at hl 4 rfl) ?_
  have hPc := hP.sub2 (wc := [(q, .inr (12, [.ref aA, .ref aI, .ref aT, .ref aP, .int 12, .int (-1), .int (-1), .int 0, .int 0, .int 0, .int 0, .long 0, .int 0, .int 0, .int 0, .int 0, .ref pI, .int 0, .int 0, .int 0, .int 0, .int 0, .ref nM, .ref vA, .ref tR, .int 0, .int 0, .int 0, .ref rW, .ref sP, .ref oA, .ref bS, .ref aS, .ref aO, .ref cS, .ref wY])), (aP, .inl (cI, 300, .inl g_13))]) [0, 1] rfl
  have hDc := hD.sub (ws' := [(q, .inr (12, [.ref aA, .ref aI, .ref aT, .ref aP, .int 12, .int (-1), .int (-1), .int 0, .int 0, .int 0, .int 0, .long 0, .int 0, .int 0, .int 0, .int 0, .ref pI, .int 0, .int 0, .int 0, .int 0, .int 0, .ref nM, .ref vA, .ref tR, .int 0, .int 0, .int 0, .ref rW, .ref sP, .ref oA, .ref bS, .ref aS, .ref aO, .ref cS, .ref wY])), (aP, .inl (cI, 300, .inl g_13))]) [0, 1] (by decide) rfl
  refine raw_Vv (ci := 12) (q0 := 0) (nA := 1) (As := [.int p3]) (rest := []) Z hl.1 (c_X12_four_12 l D cI cM cT q aA aI aT aP pI nM vA tR rW sP oA bS aS aO cS wY g_13 p3) (bw_V bw_1158 bw_1160 bw_36 bw_92 bw_1161) ⟨by decide +kernel, by decide +kernel, by decide +kernel⟩ rfl ⟨Nat.le_of_ble_eq_true rfl, Nat.le_of_ble_eq_true rfl⟩ rfl rfl rfl hPc hDc hS rfl (Nat.le_of_ble_eq_true rfl) dX12_feed_33 ⟨Nat.le_of_ble_eq_true rfl, Nat.le_of_ble_eq_true rfl⟩ (fun u14 H1 locs1 h16 hku14 hP1 hD1 hS1 => ?_)
  obtain ⟨g_17, rfl⟩ := h16
  obtain ⟨hP, hD⟩ := z_join (wr := []) Z hS hP hD [0, 1] [] rfl (by decide) rfl (by decide) (by decide) hku14 hP1 hD1
  have hS := hS1
  clear hS1
  generalize H1 = H at hP hS ⊢
  generalize locs1 = locs at hS ⊢
  have hP : va_P D vwCl ([(q, .inr (12, [.ref aA, .ref aI, .ref aT, .ref aP, .int 16, .int (-1), .int (-1), .int 0, .int 0, .int 0, .int 0, .long 0, .int 0, .int 0, .int 0, .int 0, .ref pI, .int 0, .int 0, .int 0, .int 0, .int 0, .ref nM, .ref vA, .ref tR, .int 0, .int 0, .int 0, .ref rW, .ref sP, .ref oA, .ref bS, .ref aS, .ref aO, .ref cS, .ref wY])), (aP, .inl (cI, 300, .inl g_17))]) H := hP
  have hD : va_D A ([(q, .inr (12, [.ref aA, .ref aI, .ref aT, .ref aP, .int 16, .int (-1), .int (-1), .int 0, .int 0, .int 0, .int 0, .long 0, .int 0, .int 0, .int 0, .int 0, .ref pI, .int 0, .int 0, .int 0, .int 0, .int 0, .ref nM, .ref vA, .ref tR, .int 0, .int 0, .int 0, .ref rW, .ref sP, .ref oA, .ref bS, .ref aS, .ref aO, .ref cS, .ref wY])), (aP, .inl (cI, 300, .inl g_17))]) := hD
  refine lv_aload_n hx hb dX12_feed_36 rfl (lv_at hl 0 rfl) ?_
  refine lv_iload hx hb dX12_feed_37 (lv_at hl 5 rfl) ?_
  have hPc := hP.sub2 (wc := [(q, .inr (12, [.ref aA, .ref aI, .ref aT, .ref aP, .int 16, .int (-1), .int (-1), .int 0, .int 0, .int 0, .int 0, .long 0, .int 0, .int 0, .int 0, .int 0, .ref pI, .int 0, .int 0, .int 0, .int 0, .int 0, .ref nM, .ref vA, .ref tR, .int 0, .int 0, .int 0, .ref rW, .ref sP, .ref oA, .ref bS, .ref aS, .ref aO, .ref cS, .ref wY])), (aP, .inl (cI, 300, .inl g_17))]) [0, 1] rfl
  have hDc := hD.sub (ws' := [(q, .inr (12, [.ref aA, .ref aI, .ref aT, .ref aP, .int 16, .int (-1), .int (-1), .int 0, .int 0, .int 0, .int 0, .long 0, .int 0, .int 0, .int 0, .int 0, .ref pI, .int 0, .int 0, .int 0, .int 0, .int 0, .ref nM, .ref vA, .ref tR, .int 0, .int 0, .int 0, .ref rW, .ref sP, .ref oA, .ref bS, .ref aS, .ref aO, .ref cS, .ref wY])), (aP, .inl (cI, 300, .inl g_17))]) [0, 1] (by decide) rfl
  refine raw_Vv (ci := 12) (q0 := 0) (nA := 1) (As := [.int p4]) (rest := []) Z hl.1 (c_X12_four_16 l D cI cM cT q aA aI aT aP pI nM vA tR rW sP oA bS aS aO cS wY g_17 p4) (bw_V bw_1158 bw_1160 bw_36 bw_92 bw_1161) ⟨by decide +kernel, by decide +kernel, by decide +kernel⟩ rfl ⟨Nat.le_of_ble_eq_true rfl, Nat.le_of_ble_eq_true rfl⟩ rfl rfl rfl hPc hDc hS rfl (Nat.le_of_ble_eq_true rfl) dX12_feed_39 ⟨Nat.le_of_ble_eq_true rfl, Nat.le_of_ble_eq_true rfl⟩ (fun u18 H1 locs1 h20 hku18 hP1 hD1 hS1 => ?_)
  obtain ⟨g_21, rfl⟩ := h20
  obtain ⟨hP, hD⟩ := z_join (wr := []) Z hS hP hD [0, 1] [] rfl (by decide) rfl (by decide) (by decide) hku18 hP1 hD1
  have hS := hS1
  clear hS1
  generalize H1 = H at hP hS ⊢
  generalize locs1 = locs at hS ⊢
  have hP : va_P D vwCl ([(q, .inr (12, [.ref aA, .ref aI, .ref aT, .ref aP, .int 20, .int (-1), .int (-1), .int 0, .int 0, .int 0, .int 0, .long 0, .int 0, .int 0, .int 0, .int 0, .ref pI, .int 0, .int 0, .int 0, .int 0, .int 0, .ref nM, .ref vA, .ref tR, .int 0, .int 0, .int 0, .ref rW, .ref sP, .ref oA, .ref bS, .ref aS, .ref aO, .ref cS, .ref wY])), (aP, .inl (cI, 300, .inl g_21))]) H := hP
  have hD : va_D A ([(q, .inr (12, [.ref aA, .ref aI, .ref aT, .ref aP, .int 20, .int (-1), .int (-1), .int 0, .int 0, .int 0, .int 0, .long 0, .int 0, .int 0, .int 0, .int 0, .ref pI, .int 0, .int 0, .int 0, .int 0, .int 0, .ref nM, .ref vA, .ref tR, .int 0, .int 0, .int 0, .ref rW, .ref sP, .ref oA, .ref bS, .ref aS, .ref aO, .ref cS, .ref wY])), (aP, .inl (cI, 300, .inl g_21))]) := hD
  refine lv_aload_n hx hb dX12_feed_42 rfl (lv_at hl 0 rfl) ?_
  refine z_get Z i_X12 hP 0 rfl rfl 4 (by decide) bw_1023 rfl dX12_feed_43 ?_
  exact z_ret Z rfl hP hD hS ((by first | rfl | assumption)) dX12_feed_46 (Nat.le_of_ble_eq_true rfl) (Nat.le_of_ble_eq_true rfl)
