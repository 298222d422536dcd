theorem dL_law_0 : decode cL_law 0 = .ok (.new 7, 3) := by decide +kernel
theorem dL_law_3 : decode cL_law 3 = .ok (.dup, 1) := by decide +kernel
theorem dL_law_4 : decode cL_law 4 = .ok (.invokespecial 9, 3) := by decide +kernel
theorem dL_law_7 : decode cL_law 7 = .ok (.astore_n 1, 1) := by decide +kernel
theorem dL_law_8 : decode cL_law 8 = .ok (.new 10, 3) := by decide +kernel
theorem dL_law_11 : decode cL_law 11 = .ok (.dup, 1) := by decide +kernel
theorem dL_law_12 : decode cL_law 12 = .ok (.invokespecial 12, 3) := by decide +kernel
theorem dL_law_15 : decode cL_law 15 = .ok (.astore_n 2, 1) := by decide +kernel
theorem dL_law_16 : decode cL_law 16 = .ok (.iconst 0, 1) := by decide +kernel
theorem dL_law_17 : decode cL_law 17 = .ok (.istore_n 3, 1) := by decide +kernel
theorem dL_law_18 : decode cL_law 18 = .ok (.iload_n 3, 1) := by decide +kernel
theorem dL_law_19 : decode cL_law 19 = .ok (.aload_n 0, 1) := by decide +kernel
theorem dL_law_20 : decode cL_law 20 = .ok (.arraylength, 1) := by decide +kernel
theorem dL_law_21 : decode cL_law 21 = .ok (.bipush 6, 2) := by decide +kernel
theorem dL_law_23 : decode cL_law 23 = .ok (.isub, 1) := by decide +kernel
theorem dL_law_24 : decode cL_law 24 = .ok (.if_icmp .gt 979, 3) := by decide +kernel
theorem dL_law_27 : decode cL_law 27 = .ok (.aload_n 0, 1) := by decide +kernel
theorem dL_law_28 : decode cL_law 28 = .ok (.iload_n 3, 1) := by decide +kernel
theorem dL_law_29 : decode cL_law 29 = .ok (.iaload, 1) := by decide +kernel
theorem dL_law_30 : decode cL_law 30 = .ok (.bipush 31, 2) := by decide +kernel
theorem dL_law_32 : decode cL_law 32 = .ok (.iand, 1) := by decide +kernel
theorem dL_law_33 : decode cL_law 33 = .ok (.tableswitch 964 0 28 #[131, 174, 207, 230, 263, 296, 329, 392, 415, 428, 451, 474, 497, 540, 563, 586, 609, 622, 645, 688, 747, 790, 813, 846, 889, 902, 915, 928, 941], 131) := by decide +kernel
theorem dL_law_164 : decode cL_law 164 = .ok (.aload_n 1, 1) := by decide +kernel
theorem dL_law_165 : decode cL_law 165 = .ok (.aload_n 0, 1) := by decide +kernel
theorem dL_law_166 : decode cL_law 166 = .ok (.iload_n 3, 1) := by decide +kernel
theorem dL_law_167 : decode cL_law 167 = .ok (.iconst 1, 1) := by decide +kernel
theorem dL_law_168 : decode cL_law 168 = .ok (.iadd, 1) := by decide +kernel
theorem dL_law_169 : decode cL_law 169 = .ok (.iaload, 1) := by decide +kernel
theorem dL_law_170 : decode cL_law 170 = .ok (.aload_n 0, 1) := by decide +kernel
theorem dL_law_171 : decode cL_law 171 = .ok (.iload_n 3, 1) := by decide +kernel
theorem dL_law_172 : decode cL_law 172 = .ok (.iconst 2, 1) := by decide +kernel
theorem dL_law_173 : decode cL_law 173 = .ok (.iadd, 1) := by decide +kernel
theorem dL_law_174 : decode cL_law 174 = .ok (.iaload, 1) := by decide +kernel
theorem dL_law_175 : decode cL_law 175 = .ok (.aload_n 0, 1) := by decide +kernel
theorem dL_law_176 : decode cL_law 176 = .ok (.iload_n 3, 1) := by decide +kernel
theorem dL_law_177 : decode cL_law 177 = .ok (.iconst 3, 1) := by decide +kernel
theorem dL_law_178 : decode cL_law 178 = .ok (.iadd, 1) := by decide +kernel
theorem dL_law_179 : decode cL_law 179 = .ok (.iaload, 1) := by decide +kernel
theorem dL_law_180 : decode cL_law 180 = .ok (.invokevirtual 13, 3) := by decide +kernel
theorem dL_law_183 : decode cL_law 183 = .ok (.aload_n 2, 1) := by decide +kernel
theorem dL_law_184 : decode cL_law 184 = .ok (.aload_n 0, 1) := by decide +kernel
theorem dL_law_185 : decode cL_law 185 = .ok (.iload_n 3, 1) := by decide +kernel
theorem dL_law_186 : decode cL_law 186 = .ok (.iconst 1, 1) := by decide +kernel
theorem dL_law_187 : decode cL_law 187 = .ok (.iadd, 1) := by decide +kernel
theorem dL_law_188 : decode cL_law 188 = .ok (.iaload, 1) := by decide +kernel
theorem dL_law_189 : decode cL_law 189 = .ok (.aload_n 0, 1) := by decide +kernel
theorem dL_law_190 : decode cL_law 190 = .ok (.iload_n 3, 1) := by decide +kernel
theorem dL_law_191 : decode cL_law 191 = .ok (.iconst 2, 1) := by decide +kernel
theorem dL_law_192 : decode cL_law 192 = .ok (.iadd, 1) := by decide +kernel
theorem dL_law_193 : decode cL_law 193 = .ok (.iaload, 1) := by decide +kernel
theorem dL_law_194 : decode cL_law 194 = .ok (.aload_n 0, 1) := by decide +kernel
theorem dL_law_195 : decode cL_law 195 = .ok (.iload_n 3, 1) := by decide +kernel
theorem dL_law_196 : decode cL_law 196 = .ok (.iconst 3, 1) := by decide +kernel
theorem dL_law_197 : decode cL_law 197 = .ok (.iadd, 1) := by decide +kernel
theorem dL_law_198 : decode cL_law 198 = .ok (.iaload, 1) := by decide +kernel
theorem dL_law_199 : decode cL_law 199 = .ok (.invokevirtual 17, 3) := by decide +kernel
theorem dL_law_202 : decode cL_law 202 = .ok (.if_icmp .eq 795, 3) := by decide +kernel
theorem dL_law_205 : decode cL_law 205 = .ok (.iconst 0, 1) := by decide +kernel
theorem dL_law_206 : decode cL_law 206 = .ok (.ireturn, 1) := by decide +kernel
theorem dL_law_207 : decode cL_law 207 = .ok (.aload_n 1, 1) := by decide +kernel
theorem dL_law_208 : decode cL_law 208 = .ok (.aload_n 0, 1) := by decide +kernel
theorem dL_law_209 : decode cL_law 209 = .ok (.iload_n 3, 1) := by decide +kernel
theorem dL_law_210 : decode cL_law 210 = .ok (.iconst 1, 1) := by decide +kernel
theorem dL_law_211 : decode cL_law 211 = .ok (.iadd, 1) := by decide +kernel
theorem dL_law_212 : decode cL_law 212 = .ok (.iaload, 1) := by decide +kernel
theorem dL_law_213 : decode cL_law 213 = .ok (.aload_n 0, 1) := by decide +kernel
theorem dL_law_214 : decode cL_law 214 = .ok (.iload_n 3, 1) := by decide +kernel
theorem dL_law_215 : decode cL_law 215 = .ok (.iconst 2, 1) := by decide +kernel
theorem dL_law_216 : decode cL_law 216 = .ok (.iadd, 1) := by decide +kernel
theorem dL_law_217 : decode cL_law 217 = .ok (.iaload, 1) := by decide +kernel
theorem dL_law_218 : decode cL_law 218 = .ok (.invokevirtual 18, 3) := by decide +kernel
theorem dL_law_221 : decode cL_law 221 = .ok (.aload_n 2, 1) := by decide +kernel
theorem dL_law_222 : decode cL_law 222 = .ok (.aload_n 0, 1) := by decide +kernel
theorem dL_law_223 : decode cL_law 223 = .ok (.iload_n 3, 1) := by decide +kernel
theorem dL_law_224 : decode cL_law 224 = .ok (.iconst 1, 1) := by decide +kernel
theorem dL_law_225 : decode cL_law 225 = .ok (.iadd, 1) := by decide +kernel
theorem dL_law_226 : decode cL_law 226 = .ok (.iaload, 1) := by decide +kernel
theorem dL_law_227 : decode cL_law 227 = .ok (.aload_n 0, 1) := by decide +kernel
theorem dL_law_228 : decode cL_law 228 = .ok (.iload_n 3, 1) := by decide +kernel
theorem dL_law_229 : decode cL_law 229 = .ok (.iconst 2, 1) := by decide +kernel
theorem dL_law_230 : decode cL_law 230 = .ok (.iadd, 1) := by decide +kernel
theorem dL_law_231 : decode cL_law 231 = .ok (.iaload, 1) := by decide +kernel
theorem dL_law_232 : decode cL_law 232 = .ok (.invokevirtual 22, 3) := by decide +kernel
theorem dL_law_235 : decode cL_law 235 = .ok (.if_icmp .eq 762, 3) := by decide +kernel
theorem dL_law_238 : decode cL_law 238 = .ok (.iconst 0, 1) := by decide +kernel
theorem dL_law_239 : decode cL_law 239 = .ok (.ireturn, 1) := by decide +kernel
theorem dL_law_240 : decode cL_law 240 = .ok (.aload_n 1, 1) := by decide +kernel
theorem dL_law_241 : decode cL_law 241 = .ok (.aload_n 0, 1) := by decide +kernel
theorem dL_law_242 : decode cL_law 242 = .ok (.iload_n 3, 1) := by decide +kernel
theorem dL_law_243 : decode cL_law 243 = .ok (.iconst 1, 1) := by decide +kernel
theorem dL_law_244 : decode cL_law 244 = .ok (.iadd, 1) := by decide +kernel
theorem dL_law_245 : decode cL_law 245 = .ok (.iaload, 1) := by decide +kernel
theorem dL_law_246 : decode cL_law 246 = .ok (.invokevirtual 23, 3) := by decide +kernel
theorem dL_law_249 : decode cL_law 249 = .ok (.aload_n 2, 1) := by decide +kernel
theorem dL_law_250 : decode cL_law 250 = .ok (.aload_n 0, 1) := by decide +kernel
theorem dL_law_251 : decode cL_law 251 = .ok (.iload_n 3, 1) := by decide +kernel
theorem dL_law_252 : decode cL_law 252 = .ok (.iconst 1, 1) := by decide +kernel
theorem dL_law_253 : decode cL_law 253 = .ok (.iadd, 1) := by decide +kernel
theorem dL_law_254 : decode cL_law 254 = .ok (.iaload, 1) := by decide +kernel
theorem dL_law_255 : decode cL_law 255 = .ok (.invokevirtual 27, 3) := by decide +kernel
theorem dL_law_258 : decode cL_law 258 = .ok (.if_icmp .eq 739, 3) := by decide +kernel
theorem dL_law_261 : decode cL_law 261 = .ok (.iconst 0, 1) := by decide +kernel
theorem dL_law_262 : decode cL_law 262 = .ok (.ireturn, 1) := by decide +kernel
theorem dL_law_263 : decode cL_law 263 = .ok (.aload_n 1, 1) := by decide +kernel
theorem dL_law_264 : decode cL_law 264 = .ok (.aload_n 0, 1) := by decide +kernel
theorem dL_law_265 : decode cL_law 265 = .ok (.iload_n 3, 1) := by decide +kernel
theorem dL_law_266 : decode cL_law 266 = .ok (.iconst 1, 1) := by decide +kernel
theorem dL_law_267 : decode cL_law 267 = .ok (.iadd, 1) := by decide +kernel
theorem dL_law_268 : decode cL_law 268 = .ok (.iaload, 1) := by decide +kernel
theorem dL_law_269 : decode cL_law 269 = .ok (.aload_n 0, 1) := by decide +kernel
theorem dL_law_270 : decode cL_law 270 = .ok (.iload_n 3, 1) := by decide +kernel
theorem dL_law_271 : decode cL_law 271 = .ok (.iconst 2, 1) := by decide +kernel
theorem dL_law_272 : decode cL_law 272 = .ok (.iadd, 1) := by decide +kernel
theorem dL_law_273 : decode cL_law 273 = .ok (.iaload, 1) := by decide +kernel
theorem dL_law_274 : decode cL_law 274 = .ok (.invokevirtual 28, 3) := by decide +kernel
theorem dL_law_277 : decode cL_law 277 = .ok (.aload_n 2, 1) := by decide +kernel
theorem dL_law_278 : decode cL_law 278 = .ok (.aload_n 0, 1) := by decide +kernel
theorem dL_law_279 : decode cL_law 279 = .ok (.iload_n 3, 1) := by decide +kernel
theorem dL_law_280 : decode cL_law 280 = .ok (.iconst 1, 1) := by decide +kernel
theorem dL_law_281 : decode cL_law 281 = .ok (.iadd, 1) := by decide +kernel
theorem dL_law_282 : decode cL_law 282 = .ok (.iaload, 1) := by decide +kernel
theorem dL_law_283 : decode cL_law 283 = .ok (.aload_n 0, 1) := by decide +kernel
theorem dL_law_284 : decode cL_law 284 = .ok (.iload_n 3, 1) := by decide +kernel
theorem dL_law_285 : decode cL_law 285 = .ok (.iconst 2, 1) := by decide +kernel
theorem dL_law_286 : decode cL_law 286 = .ok (.iadd, 1) := by decide +kernel
theorem dL_law_287 : decode cL_law 287 = .ok (.iaload, 1) := by decide +kernel
theorem dL_law_288 : decode cL_law 288 = .ok (.invokevirtual 32, 3) := by decide +kernel
theorem dL_law_291 : decode cL_law 291 = .ok (.if_icmp .eq 706, 3) := by decide +kernel
theorem dL_law_294 : decode cL_law 294 = .ok (.iconst 0, 1) := by decide +kernel
theorem dL_law_295 : decode cL_law 295 = .ok (.ireturn, 1) := by decide +kernel
theorem dL_law_296 : decode cL_law 296 = .ok (.aload_n 1, 1) := by decide +kernel
theorem dL_law_297 : decode cL_law 297 = .ok (.aload_n 0, 1) := by decide +kernel
theorem dL_law_298 : decode cL_law 298 = .ok (.iload_n 3, 1) := by decide +kernel
theorem dL_law_299 : decode cL_law 299 = .ok (.iconst 1, 1) := by decide +kernel
theorem dL_law_300 : decode cL_law 300 = .ok (.iadd, 1) := by decide +kernel
theorem dL_law_301 : decode cL_law 301 = .ok (.iaload, 1) := by decide +kernel
theorem dL_law_302 : decode cL_law 302 = .ok (.aload_n 0, 1) := by decide +kernel
theorem dL_law_303 : decode cL_law 303 = .ok (.iload_n 3, 1) := by decide +kernel
theorem dL_law_304 : decode cL_law 304 = .ok (.iconst 2, 1) := by decide +kernel
theorem dL_law_305 : decode cL_law 305 = .ok (.iadd, 1) := by decide +kernel
theorem dL_law_306 : decode cL_law 306 = .ok (.iaload, 1) := by decide +kernel
theorem dL_law_307 : decode cL_law 307 = .ok (.invokevirtual 33, 3) := by decide +kernel
theorem dL_law_310 : decode cL_law 310 = .ok (.aload_n 2, 1) := by decide +kernel
theorem dL_law_311 : decode cL_law 311 = .ok (.aload_n 0, 1) := by decide +kernel
theorem dL_law_312 : decode cL_law 312 = .ok (.iload_n 3, 1) := by decide +kernel
theorem dL_law_313 : decode cL_law 313 = .ok (.iconst 1, 1) := by decide +kernel
theorem dL_law_314 : decode cL_law 314 = .ok (.iadd, 1) := by decide +kernel
theorem dL_law_315 : decode cL_law 315 = .ok (.iaload, 1) := by decide +kernel
theorem dL_law_316 : decode cL_law 316 = .ok (.aload_n 0, 1) := by decide +kernel
theorem dL_law_317 : decode cL_law 317 = .ok (.iload_n 3, 1) := by decide +kernel
theorem dL_law_318 : decode cL_law 318 = .ok (.iconst 2, 1) := by decide +kernel
theorem dL_law_319 : decode cL_law 319 = .ok (.iadd, 1) := by decide +kernel
theorem dL_law_320 : decode cL_law 320 = .ok (.iaload, 1) := by decide +kernel
theorem dL_law_321 : decode cL_law 321 = .ok (.invokevirtual 36, 3) := by decide +kernel
theorem dL_law_324 : decode cL_law 324 = .ok (.if_icmp .eq 673, 3) := by decide +kernel
theorem dL_law_327 : decode cL_law 327 = .ok (.iconst 0, 1) := by decide +kernel
theorem dL_law_328 : decode cL_law 328 = .ok (.ireturn, 1) := by decide +kernel
theorem dL_law_329 : decode cL_law 329 = .ok (.aload_n 1, 1) := by decide +kernel
theorem dL_law_330 : decode cL_law 330 = .ok (.aload_n 0, 1) := by decide +kernel
theorem dL_law_331 : decode cL_law 331 = .ok (.iload_n 3, 1) := by decide +kernel
theorem dL_law_332 : decode cL_law 332 = .ok (.iconst 1, 1) := by decide +kernel
theorem dL_law_333 : decode cL_law 333 = .ok (.iadd, 1) := by decide +kernel
theorem dL_law_334 : decode cL_law 334 = .ok (.iaload, 1) := by decide +kernel
theorem dL_law_335 : decode cL_law 335 = .ok (.aload_n 0, 1) := by decide +kernel
theorem dL_law_336 : decode cL_law 336 = .ok (.iload_n 3, 1) := by decide +kernel
theorem dL_law_337 : decode cL_law 337 = .ok (.iconst 2, 1) := by decide +kernel
theorem dL_law_338 : decode cL_law 338 = .ok (.iadd, 1) := by decide +kernel
theorem dL_law_339 : decode cL_law 339 = .ok (.iaload, 1) := by decide +kernel
theorem dL_law_340 : decode cL_law 340 = .ok (.invokevirtual 37, 3) := by decide +kernel
theorem dL_law_343 : decode cL_law 343 = .ok (.aload_n 2, 1) := by decide +kernel
theorem dL_law_344 : decode cL_law 344 = .ok (.aload_n 0, 1) := by decide +kernel
theorem dL_law_345 : decode cL_law 345 = .ok (.iload_n 3, 1) := by decide +kernel
theorem dL_law_346 : decode cL_law 346 = .ok (.iconst 1, 1) := by decide +kernel
theorem dL_law_347 : decode cL_law 347 = .ok (.iadd, 1) := by decide +kernel
theorem dL_law_348 : decode cL_law 348 = .ok (.iaload, 1) := by decide +kernel
theorem dL_law_349 : decode cL_law 349 = .ok (.aload_n 0, 1) := by decide +kernel
theorem dL_law_350 : decode cL_law 350 = .ok (.iload_n 3, 1) := by decide +kernel
theorem dL_law_351 : decode cL_law 351 = .ok (.iconst 2, 1) := by decide +kernel
theorem dL_law_352 : decode cL_law 352 = .ok (.iadd, 1) := by decide +kernel
theorem dL_law_353 : decode cL_law 353 = .ok (.iaload, 1) := by decide +kernel
theorem dL_law_354 : decode cL_law 354 = .ok (.invokevirtual 40, 3) := by decide +kernel
theorem dL_law_357 : decode cL_law 357 = .ok (.if_icmp .eq 640, 3) := by decide +kernel
theorem dL_law_360 : decode cL_law 360 = .ok (.iconst 0, 1) := by decide +kernel
theorem dL_law_361 : decode cL_law 361 = .ok (.ireturn, 1) := by decide +kernel
theorem dL_law_362 : decode cL_law 362 = .ok (.aload_n 1, 1) := by decide +kernel
theorem dL_law_363 : decode cL_law 363 = .ok (.aload_n 0, 1) := by decide +kernel
theorem dL_law_364 : decode cL_law 364 = .ok (.iload_n 3, 1) := by decide +kernel
theorem dL_law_365 : decode cL_law 365 = .ok (.iconst 1, 1) := by decide +kernel
theorem dL_law_366 : decode cL_law 366 = .ok (.iadd, 1) := by decide +kernel
theorem dL_law_367 : decode cL_law 367 = .ok (.iaload, 1) := by decide +kernel
theorem dL_law_368 : decode cL_law 368 = .ok (.aload_n 0, 1) := by decide +kernel
theorem dL_law_369 : decode cL_law 369 = .ok (.iload_n 3, 1) := by decide +kernel
theorem dL_law_370 : decode cL_law 370 = .ok (.iconst 2, 1) := by decide +kernel
theorem dL_law_371 : decode cL_law 371 = .ok (.iadd, 1) := by decide +kernel
theorem dL_law_372 : decode cL_law 372 = .ok (.iaload, 1) := by decide +kernel
theorem dL_law_373 : decode cL_law 373 = .ok (.aload_n 0, 1) := by decide +kernel
theorem dL_law_374 : decode cL_law 374 = .ok (.iload_n 3, 1) := by decide +kernel
theorem dL_law_375 : decode cL_law 375 = .ok (.iconst 3, 1) := by decide +kernel
theorem dL_law_376 : decode cL_law 376 = .ok (.iadd, 1) := by decide +kernel
theorem dL_law_377 : decode cL_law 377 = .ok (.iaload, 1) := by decide +kernel
theorem dL_law_378 : decode cL_law 378 = .ok (.aload_n 0, 1) := by decide +kernel
theorem dL_law_379 : decode cL_law 379 = .ok (.iload_n 3, 1) := by decide +kernel
theorem dL_law_380 : decode cL_law 380 = .ok (.iconst 4, 1) := by decide +kernel
theorem dL_law_381 : decode cL_law 381 = .ok (.iadd, 1) := by decide +kernel
theorem dL_law_382 : decode cL_law 382 = .ok (.iaload, 1) := by decide +kernel
theorem dL_law_383 : decode cL_law 383 = .ok (.aload_n 0, 1) := by decide +kernel
theorem dL_law_384 : decode cL_law 384 = .ok (.iload_n 3, 1) := by decide +kernel
theorem dL_law_385 : decode cL_law 385 = .ok (.iconst 5, 1) := by decide +kernel
theorem dL_law_386 : decode cL_law 386 = .ok (.iadd, 1) := by decide +kernel
theorem dL_law_387 : decode cL_law 387 = .ok (.iaload, 1) := by decide +kernel
theorem dL_law_388 : decode cL_law 388 = .ok (.invokevirtual 41, 3) := by decide +kernel
theorem dL_law_391 : decode cL_law 391 = .ok (.aload_n 2, 1) := by decide +kernel
theorem dL_law_392 : decode cL_law 392 = .ok (.aload_n 0, 1) := by decide +kernel
theorem dL_law_393 : decode cL_law 393 = .ok (.iload_n 3, 1) := by decide +kernel
theorem dL_law_394 : decode cL_law 394 = .ok (.iconst 1, 1) := by decide +kernel
theorem dL_law_395 : decode cL_law 395 = .ok (.iadd, 1) := by decide +kernel
theorem dL_law_396 : decode cL_law 396 = .ok (.iaload, 1) := by decide +kernel
theorem dL_law_397 : decode cL_law 397 = .ok (.aload_n 0, 1) := by decide +kernel
theorem dL_law_398 : decode cL_law 398 = .ok (.iload_n 3, 1) := by decide +kernel
theorem dL_law_399 : decode cL_law 399 = .ok (.iconst 2, 1) := by decide +kernel
theorem dL_law_400 : decode cL_law 400 = .ok (.iadd, 1) := by decide +kernel
theorem dL_law_401 : decode cL_law 401 = .ok (.iaload, 1) := by decide +kernel
theorem dL_law_402 : decode cL_law 402 = .ok (.aload_n 0, 1) := by decide +kernel
theorem dL_law_403 : decode cL_law 403 = .ok (.iload_n 3, 1) := by decide +kernel
theorem dL_law_404 : decode cL_law 404 = .ok (.iconst 3, 1) := by decide +kernel
theorem dL_law_405 : decode cL_law 405 = .ok (.iadd, 1) := by decide +kernel
theorem dL_law_406 : decode cL_law 406 = .ok (.iaload, 1) := by decide +kernel
theorem dL_law_407 : decode cL_law 407 = .ok (.aload_n 0, 1) := by decide +kernel
theorem dL_law_408 : decode cL_law 408 = .ok (.iload_n 3, 1) := by decide +kernel
theorem dL_law_409 : decode cL_law 409 = .ok (.iconst 4, 1) := by decide +kernel
theorem dL_law_410 : decode cL_law 410 = .ok (.iadd, 1) := by decide +kernel
theorem dL_law_411 : decode cL_law 411 = .ok (.iaload, 1) := by decide +kernel
theorem dL_law_412 : decode cL_law 412 = .ok (.aload_n 0, 1) := by decide +kernel
theorem dL_law_413 : decode cL_law 413 = .ok (.iload_n 3, 1) := by decide +kernel
theorem dL_law_414 : decode cL_law 414 = .ok (.iconst 5, 1) := by decide +kernel
theorem dL_law_415 : decode cL_law 415 = .ok (.iadd, 1) := by decide +kernel
theorem dL_law_416 : decode cL_law 416 = .ok (.iaload, 1) := by decide +kernel
theorem dL_law_417 : decode cL_law 417 = .ok (.invokevirtual 45, 3) := by decide +kernel
theorem dL_law_420 : decode cL_law 420 = .ok (.if_icmp .eq 577, 3) := by decide +kernel
theorem dL_law_423 : decode cL_law 423 = .ok (.iconst 0, 1) := by decide +kernel
theorem dL_law_424 : decode cL_law 424 = .ok (.ireturn, 1) := by decide +kernel
theorem dL_law_425 : decode cL_law 425 = .ok (.aload_n 1, 1) := by decide +kernel
theorem dL_law_426 : decode cL_law 426 = .ok (.aload_n 0, 1) := by decide +kernel
theorem dL_law_427 : decode cL_law 427 = .ok (.iload_n 3, 1) := by decide +kernel
theorem dL_law_428 : decode cL_law 428 = .ok (.iconst 1, 1) := by decide +kernel
theorem dL_law_429 : decode cL_law 429 = .ok (.iadd, 1) := by decide +kernel
theorem dL_law_430 : decode cL_law 430 = .ok (.iaload, 1) := by decide +kernel
theorem dL_law_431 : decode cL_law 431 = .ok (.invokevirtual 46, 3) := by decide +kernel
theorem dL_law_434 : decode cL_law 434 = .ok (.aload_n 2, 1) := by decide +kernel
theorem dL_law_435 : decode cL_law 435 = .ok (.aload_n 0, 1) := by decide +kernel
theorem dL_law_436 : decode cL_law 436 = .ok (.iload_n 3, 1) := by decide +kernel
theorem dL_law_437 : decode cL_law 437 = .ok (.iconst 1, 1) := by decide +kernel
theorem dL_law_438 : decode cL_law 438 = .ok (.iadd, 1) := by decide +kernel
theorem dL_law_439 : decode cL_law 439 = .ok (.iaload, 1) := by decide +kernel
theorem dL_law_440 : decode cL_law 440 = .ok (.invokevirtual 49, 3) := by decide +kernel
theorem dL_law_443 : decode cL_law 443 = .ok (.if_icmp .eq 554, 3) := by decide +kernel
theorem dL_law_446 : decode cL_law 446 = .ok (.iconst 0, 1) := by decide +kernel
theorem dL_law_447 : decode cL_law 447 = .ok (.ireturn, 1) := by decide +kernel
theorem dL_law_448 : decode cL_law 448 = .ok (.aload_n 1, 1) := by decide +kernel
theorem dL_law_449 : decode cL_law 449 = .ok (.invokevirtual 50, 3) := by decide +kernel
theorem dL_law_452 : decode cL_law 452 = .ok (.aload_n 2, 1) := by decide +kernel
theorem dL_law_453 : decode cL_law 453 = .ok (.invokevirtual 54, 3) := by decide +kernel
theorem dL_law_456 : decode cL_law 456 = .ok (.if_icmp .eq 541, 3) := by decide +kernel
theorem dL_law_459 : decode cL_law 459 = .ok (.iconst 0, 1) := by decide +kernel
theorem dL_law_460 : decode cL_law 460 = .ok (.ireturn, 1) := by decide +kernel
theorem dL_law_461 : decode cL_law 461 = .ok (.aload_n 1, 1) := by decide +kernel
theorem dL_law_462 : decode cL_law 462 = .ok (.aload_n 0, 1) := by decide +kernel
theorem dL_law_463 : decode cL_law 463 = .ok (.iload_n 3, 1) := by decide +kernel
theorem dL_law_464 : decode cL_law 464 = .ok (.iconst 1, 1) := by decide +kernel
theorem dL_law_465 : decode cL_law 465 = .ok (.iadd, 1) := by decide +kernel
theorem dL_law_466 : decode cL_law 466 = .ok (.iaload, 1) := by decide +kernel
theorem dL_law_467 : decode cL_law 467 = .ok (.invokevirtual 55, 3) := by decide +kernel
theorem dL_law_470 : decode cL_law 470 = .ok (.aload_n 2, 1) := by decide +kernel
theorem dL_law_471 : decode cL_law 471 = .ok (.aload_n 0, 1) := by decide +kernel
theorem dL_law_472 : decode cL_law 472 = .ok (.iload_n 3, 1) := by decide +kernel
theorem dL_law_473 : decode cL_law 473 = .ok (.iconst 1, 1) := by decide +kernel
theorem dL_law_474 : decode cL_law 474 = .ok (.iadd, 1) := by decide +kernel
theorem dL_law_475 : decode cL_law 475 = .ok (.iaload, 1) := by decide +kernel
theorem dL_law_476 : decode cL_law 476 = .ok (.invokevirtual 58, 3) := by decide +kernel
theorem dL_law_479 : decode cL_law 479 = .ok (.if_icmp .eq 518, 3) := by decide +kernel
theorem dL_law_482 : decode cL_law 482 = .ok (.iconst 0, 1) := by decide +kernel
theorem dL_law_483 : decode cL_law 483 = .ok (.ireturn, 1) := by decide +kernel
theorem dL_law_484 : decode cL_law 484 = .ok (.aload_n 1, 1) := by decide +kernel
theorem dL_law_485 : decode cL_law 485 = .ok (.aload_n 0, 1) := by decide +kernel
theorem dL_law_486 : decode cL_law 486 = .ok (.iload_n 3, 1) := by decide +kernel
theorem dL_law_487 : decode cL_law 487 = .ok (.iconst 1, 1) := by decide +kernel
theorem dL_law_488 : decode cL_law 488 = .ok (.iadd, 1) := by decide +kernel
theorem dL_law_489 : decode cL_law 489 = .ok (.iaload, 1) := by decide +kernel
theorem dL_law_490 : decode cL_law 490 = .ok (.invokevirtual 59, 3) := by decide +kernel
theorem dL_law_493 : decode cL_law 493 = .ok (.aload_n 2, 1) := by decide +kernel
theorem dL_law_494 : decode cL_law 494 = .ok (.aload_n 0, 1) := by decide +kernel
theorem dL_law_495 : decode cL_law 495 = .ok (.iload_n 3, 1) := by decide +kernel
theorem dL_law_496 : decode cL_law 496 = .ok (.iconst 1, 1) := by decide +kernel
theorem dL_law_497 : decode cL_law 497 = .ok (.iadd, 1) := by decide +kernel
theorem dL_law_498 : decode cL_law 498 = .ok (.iaload, 1) := by decide +kernel
theorem dL_law_499 : decode cL_law 499 = .ok (.invokevirtual 63, 3) := by decide +kernel
theorem dL_law_502 : decode cL_law 502 = .ok (.if_icmp .eq 495, 3) := by decide +kernel
theorem dL_law_505 : decode cL_law 505 = .ok (.iconst 0, 1) := by decide +kernel
theorem dL_law_506 : decode cL_law 506 = .ok (.ireturn, 1) := by decide +kernel
theorem dL_law_507 : decode cL_law 507 = .ok (.aload_n 1, 1) := by decide +kernel
theorem dL_law_508 : decode cL_law 508 = .ok (.aload_n 0, 1) := by decide +kernel
theorem dL_law_509 : decode cL_law 509 = .ok (.iload_n 3, 1) := by decide +kernel
theorem dL_law_510 : decode cL_law 510 = .ok (.iconst 1, 1) := by decide +kernel
theorem dL_law_511 : decode cL_law 511 = .ok (.iadd, 1) := by decide +kernel
theorem dL_law_512 : decode cL_law 512 = .ok (.iaload, 1) := by decide +kernel
theorem dL_law_513 : decode cL_law 513 = .ok (.invokevirtual 64, 3) := by decide +kernel
theorem dL_law_516 : decode cL_law 516 = .ok (.aload_n 2, 1) := by decide +kernel
theorem dL_law_517 : decode cL_law 517 = .ok (.aload_n 0, 1) := by decide +kernel
theorem dL_law_518 : decode cL_law 518 = .ok (.iload_n 3, 1) := by decide +kernel
theorem dL_law_519 : decode cL_law 519 = .ok (.iconst 1, 1) := by decide +kernel
theorem dL_law_520 : decode cL_law 520 = .ok (.iadd, 1) := by decide +kernel
theorem dL_law_521 : decode cL_law 521 = .ok (.iaload, 1) := by decide +kernel
theorem dL_law_522 : decode cL_law 522 = .ok (.invokevirtual 67, 3) := by decide +kernel
theorem dL_law_525 : decode cL_law 525 = .ok (.if_icmp .eq 472, 3) := by decide +kernel
theorem dL_law_528 : decode cL_law 528 = .ok (.iconst 0, 1) := by decide +kernel
theorem dL_law_529 : decode cL_law 529 = .ok (.ireturn, 1) := by decide +kernel
theorem dL_law_530 : decode cL_law 530 = .ok (.aload_n 1, 1) := by decide +kernel
theorem dL_law_531 : decode cL_law 531 = .ok (.aload_n 0, 1) := by decide +kernel
theorem dL_law_532 : decode cL_law 532 = .ok (.iload_n 3, 1) := by decide +kernel
theorem dL_law_533 : decode cL_law 533 = .ok (.iconst 1, 1) := by decide +kernel
theorem dL_law_534 : decode cL_law 534 = .ok (.iadd, 1) := by decide +kernel
theorem dL_law_535 : decode cL_law 535 = .ok (.iaload, 1) := by decide +kernel
theorem dL_law_536 : decode cL_law 536 = .ok (.aload_n 0, 1) := by decide +kernel
theorem dL_law_537 : decode cL_law 537 = .ok (.iload_n 3, 1) := by decide +kernel
theorem dL_law_538 : decode cL_law 538 = .ok (.iconst 2, 1) := by decide +kernel
theorem dL_law_539 : decode cL_law 539 = .ok (.iadd, 1) := by decide +kernel
theorem dL_law_540 : decode cL_law 540 = .ok (.iaload, 1) := by decide +kernel
theorem dL_law_541 : decode cL_law 541 = .ok (.aload_n 0, 1) := by decide +kernel
theorem dL_law_542 : decode cL_law 542 = .ok (.iload_n 3, 1) := by decide +kernel
theorem dL_law_543 : decode cL_law 543 = .ok (.iconst 3, 1) := by decide +kernel
theorem dL_law_544 : decode cL_law 544 = .ok (.iadd, 1) := by decide +kernel
theorem dL_law_545 : decode cL_law 545 = .ok (.iaload, 1) := by decide +kernel
theorem dL_law_546 : decode cL_law 546 = .ok (.invokevirtual 68, 3) := by decide +kernel
theorem dL_law_549 : decode cL_law 549 = .ok (.aload_n 2, 1) := by decide +kernel
theorem dL_law_550 : decode cL_law 550 = .ok (.aload_n 0, 1) := by decide +kernel
theorem dL_law_551 : decode cL_law 551 = .ok (.iload_n 3, 1) := by decide +kernel
theorem dL_law_552 : decode cL_law 552 = .ok (.iconst 1, 1) := by decide +kernel
theorem dL_law_553 : decode cL_law 553 = .ok (.iadd, 1) := by decide +kernel
theorem dL_law_554 : decode cL_law 554 = .ok (.iaload, 1) := by decide +kernel
theorem dL_law_555 : decode cL_law 555 = .ok (.aload_n 0, 1) := by decide +kernel
theorem dL_law_556 : decode cL_law 556 = .ok (.iload_n 3, 1) := by decide +kernel
theorem dL_law_557 : decode cL_law 557 = .ok (.iconst 2, 1) := by decide +kernel
theorem dL_law_558 : decode cL_law 558 = .ok (.iadd, 1) := by decide +kernel
theorem dL_law_559 : decode cL_law 559 = .ok (.iaload, 1) := by decide +kernel
theorem dL_law_560 : decode cL_law 560 = .ok (.aload_n 0, 1) := by decide +kernel
theorem dL_law_561 : decode cL_law 561 = .ok (.iload_n 3, 1) := by decide +kernel
theorem dL_law_562 : decode cL_law 562 = .ok (.iconst 3, 1) := by decide +kernel
theorem dL_law_563 : decode cL_law 563 = .ok (.iadd, 1) := by decide +kernel
theorem dL_law_564 : decode cL_law 564 = .ok (.iaload, 1) := by decide +kernel
theorem dL_law_565 : decode cL_law 565 = .ok (.invokevirtual 72, 3) := by decide +kernel
theorem dL_law_568 : decode cL_law 568 = .ok (.if_icmp .eq 429, 3) := by decide +kernel
theorem dL_law_571 : decode cL_law 571 = .ok (.iconst 0, 1) := by decide +kernel
theorem dL_law_572 : decode cL_law 572 = .ok (.ireturn, 1) := by decide +kernel
theorem dL_law_573 : decode cL_law 573 = .ok (.aload_n 1, 1) := by decide +kernel
theorem dL_law_574 : decode cL_law 574 = .ok (.aload_n 0, 1) := by decide +kernel
theorem dL_law_575 : decode cL_law 575 = .ok (.iload_n 3, 1) := by decide +kernel
theorem dL_law_576 : decode cL_law 576 = .ok (.iconst 1, 1) := by decide +kernel
theorem dL_law_577 : decode cL_law 577 = .ok (.iadd, 1) := by decide +kernel
theorem dL_law_578 : decode cL_law 578 = .ok (.iaload, 1) := by decide +kernel
theorem dL_law_579 : decode cL_law 579 = .ok (.invokevirtual 73, 3) := by decide +kernel
theorem dL_law_582 : decode cL_law 582 = .ok (.aload_n 2, 1) := by decide +kernel
theorem dL_law_583 : decode cL_law 583 = .ok (.aload_n 0, 1) := by decide +kernel
theorem dL_law_584 : decode cL_law 584 = .ok (.iload_n 3, 1) := by decide +kernel
theorem dL_law_585 : decode cL_law 585 = .ok (.iconst 1, 1) := by decide +kernel
theorem dL_law_586 : decode cL_law 586 = .ok (.iadd, 1) := by decide +kernel
theorem dL_law_587 : decode cL_law 587 = .ok (.iaload, 1) := by decide +kernel
theorem dL_law_588 : decode cL_law 588 = .ok (.invokevirtual 76, 3) := by decide +kernel
theorem dL_law_591 : decode cL_law 591 = .ok (.if_icmp .eq 406, 3) := by decide +kernel
theorem dL_law_594 : decode cL_law 594 = .ok (.iconst 0, 1) := by decide +kernel
theorem dL_law_595 : decode cL_law 595 = .ok (.ireturn, 1) := by decide +kernel
theorem dL_law_596 : decode cL_law 596 = .ok (.aload_n 1, 1) := by decide +kernel
theorem dL_law_597 : decode cL_law 597 = .ok (.aload_n 0, 1) := by decide +kernel
theorem dL_law_598 : decode cL_law 598 = .ok (.iload_n 3, 1) := by decide +kernel
theorem dL_law_599 : decode cL_law 599 = .ok (.iconst 1, 1) := by decide +kernel
theorem dL_law_600 : decode cL_law 600 = .ok (.iadd, 1) := by decide +kernel
theorem dL_law_601 : decode cL_law 601 = .ok (.iaload, 1) := by decide +kernel
theorem dL_law_602 : decode cL_law 602 = .ok (.invokevirtual 77, 3) := by decide +kernel
theorem dL_law_605 : decode cL_law 605 = .ok (.aload_n 2, 1) := by decide +kernel
theorem dL_law_606 : decode cL_law 606 = .ok (.aload_n 0, 1) := by decide +kernel
theorem dL_law_607 : decode cL_law 607 = .ok (.iload_n 3, 1) := by decide +kernel
theorem dL_law_608 : decode cL_law 608 = .ok (.iconst 1, 1) := by decide +kernel
theorem dL_law_609 : decode cL_law 609 = .ok (.iadd, 1) := by decide +kernel
theorem dL_law_610 : decode cL_law 610 = .ok (.iaload, 1) := by decide +kernel
theorem dL_law_611 : decode cL_law 611 = .ok (.invokevirtual 80, 3) := by decide +kernel
theorem dL_law_614 : decode cL_law 614 = .ok (.if_icmp .eq 383, 3) := by decide +kernel
theorem dL_law_617 : decode cL_law 617 = .ok (.iconst 0, 1) := by decide +kernel
theorem dL_law_618 : decode cL_law 618 = .ok (.ireturn, 1) := by decide +kernel
theorem dL_law_619 : decode cL_law 619 = .ok (.aload_n 1, 1) := by decide +kernel
theorem dL_law_620 : decode cL_law 620 = .ok (.aload_n 0, 1) := by decide +kernel
theorem dL_law_621 : decode cL_law 621 = .ok (.iload_n 3, 1) := by decide +kernel
theorem dL_law_622 : decode cL_law 622 = .ok (.iconst 1, 1) := by decide +kernel
theorem dL_law_623 : decode cL_law 623 = .ok (.iadd, 1) := by decide +kernel
theorem dL_law_624 : decode cL_law 624 = .ok (.iaload, 1) := by decide +kernel
theorem dL_law_625 : decode cL_law 625 = .ok (.invokevirtual 81, 3) := by decide +kernel
theorem dL_law_628 : decode cL_law 628 = .ok (.aload_n 2, 1) := by decide +kernel
theorem dL_law_629 : decode cL_law 629 = .ok (.aload_n 0, 1) := by decide +kernel
theorem dL_law_630 : decode cL_law 630 = .ok (.iload_n 3, 1) := by decide +kernel
theorem dL_law_631 : decode cL_law 631 = .ok (.iconst 1, 1) := by decide +kernel
theorem dL_law_632 : decode cL_law 632 = .ok (.iadd, 1) := by decide +kernel
theorem dL_law_633 : decode cL_law 633 = .ok (.iaload, 1) := by decide +kernel
theorem dL_law_634 : decode cL_law 634 = .ok (.invokevirtual 84, 3) := by decide +kernel
theorem dL_law_637 : decode cL_law 637 = .ok (.if_icmp .eq 360, 3) := by decide +kernel
theorem dL_law_640 : decode cL_law 640 = .ok (.iconst 0, 1) := by decide +kernel
theorem dL_law_641 : decode cL_law 641 = .ok (.ireturn, 1) := by decide +kernel
theorem dL_law_642 : decode cL_law 642 = .ok (.aload_n 1, 1) := by decide +kernel
theorem dL_law_643 : decode cL_law 643 = .ok (.invokevirtual 85, 3) := by decide +kernel
theorem dL_law_646 : decode cL_law 646 = .ok (.aload_n 2, 1) := by decide +kernel
theorem dL_law_647 : decode cL_law 647 = .ok (.invokevirtual 88, 3) := by decide +kernel
theorem dL_law_650 : decode cL_law 650 = .ok (.if_icmp .eq 347, 3) := by decide +kernel
theorem dL_law_653 : decode cL_law 653 = .ok (.iconst 0, 1) := by decide +kernel
theorem dL_law_654 : decode cL_law 654 = .ok (.ireturn, 1) := by decide +kernel
theorem dL_law_655 : decode cL_law 655 = .ok (.aload_n 1, 1) := by decide +kernel
theorem dL_law_656 : decode cL_law 656 = .ok (.aload_n 0, 1) := by decide +kernel
theorem dL_law_657 : decode cL_law 657 = .ok (.iload_n 3, 1) := by decide +kernel
theorem dL_law_658 : decode cL_law 658 = .ok (.iconst 1, 1) := by decide +kernel
theorem dL_law_659 : decode cL_law 659 = .ok (.iadd, 1) := by decide +kernel
theorem dL_law_660 : decode cL_law 660 = .ok (.iaload, 1) := by decide +kernel
theorem dL_law_661 : decode cL_law 661 = .ok (.invokevirtual 89, 3) := by decide +kernel
theorem dL_law_664 : decode cL_law 664 = .ok (.aload_n 2, 1) := by decide +kernel
theorem dL_law_665 : decode cL_law 665 = .ok (.aload_n 0, 1) := by decide +kernel
theorem dL_law_666 : decode cL_law 666 = .ok (.iload_n 3, 1) := by decide +kernel
theorem dL_law_667 : decode cL_law 667 = .ok (.iconst 1, 1) := by decide +kernel
theorem dL_law_668 : decode cL_law 668 = .ok (.iadd, 1) := by decide +kernel
theorem dL_law_669 : decode cL_law 669 = .ok (.iaload, 1) := by decide +kernel
theorem dL_law_670 : decode cL_law 670 = .ok (.invokevirtual 92, 3) := by decide +kernel
theorem dL_law_673 : decode cL_law 673 = .ok (.if_icmp .eq 324, 3) := by decide +kernel
theorem dL_law_676 : decode cL_law 676 = .ok (.iconst 0, 1) := by decide +kernel
theorem dL_law_677 : decode cL_law 677 = .ok (.ireturn, 1) := by decide +kernel
theorem dL_law_678 : decode cL_law 678 = .ok (.aload_n 1, 1) := by decide +kernel
theorem dL_law_679 : decode cL_law 679 = .ok (.aload_n 0, 1) := by decide +kernel
theorem dL_law_680 : decode cL_law 680 = .ok (.iload_n 3, 1) := by decide +kernel
theorem dL_law_681 : decode cL_law 681 = .ok (.iconst 1, 1) := by decide +kernel
theorem dL_law_682 : decode cL_law 682 = .ok (.iadd, 1) := by decide +kernel
theorem dL_law_683 : decode cL_law 683 = .ok (.iaload, 1) := by decide +kernel
theorem dL_law_684 : decode cL_law 684 = .ok (.aload_n 0, 1) := by decide +kernel
theorem dL_law_685 : decode cL_law 685 = .ok (.iload_n 3, 1) := by decide +kernel
theorem dL_law_686 : decode cL_law 686 = .ok (.iconst 2, 1) := by decide +kernel
theorem dL_law_687 : decode cL_law 687 = .ok (.iadd, 1) := by decide +kernel
theorem dL_law_688 : decode cL_law 688 = .ok (.iaload, 1) := by decide +kernel
theorem dL_law_689 : decode cL_law 689 = .ok (.aload_n 0, 1) := by decide +kernel
theorem dL_law_690 : decode cL_law 690 = .ok (.iload_n 3, 1) := by decide +kernel
theorem dL_law_691 : decode cL_law 691 = .ok (.iconst 3, 1) := by decide +kernel
theorem dL_law_692 : decode cL_law 692 = .ok (.iadd, 1) := by decide +kernel
theorem dL_law_693 : decode cL_law 693 = .ok (.iaload, 1) := by decide +kernel
theorem dL_law_694 : decode cL_law 694 = .ok (.invokevirtual 93, 3) := by decide +kernel
theorem dL_law_697 : decode cL_law 697 = .ok (.aload_n 2, 1) := by decide +kernel
theorem dL_law_698 : decode cL_law 698 = .ok (.aload_n 0, 1) := by decide +kernel
theorem dL_law_699 : decode cL_law 699 = .ok (.iload_n 3, 1) := by decide +kernel
theorem dL_law_700 : decode cL_law 700 = .ok (.iconst 1, 1) := by decide +kernel
theorem dL_law_701 : decode cL_law 701 = .ok (.iadd, 1) := by decide +kernel
theorem dL_law_702 : decode cL_law 702 = .ok (.iaload, 1) := by decide +kernel
theorem dL_law_703 : decode cL_law 703 = .ok (.aload_n 0, 1) := by decide +kernel
theorem dL_law_704 : decode cL_law 704 = .ok (.iload_n 3, 1) := by decide +kernel
theorem dL_law_705 : decode cL_law 705 = .ok (.iconst 2, 1) := by decide +kernel
theorem dL_law_706 : decode cL_law 706 = .ok (.iadd, 1) := by decide +kernel
theorem dL_law_707 : decode cL_law 707 = .ok (.iaload, 1) := by decide +kernel
theorem dL_law_708 : decode cL_law 708 = .ok (.aload_n 0, 1) := by decide +kernel
theorem dL_law_709 : decode cL_law 709 = .ok (.iload_n 3, 1) := by decide +kernel
theorem dL_law_710 : decode cL_law 710 = .ok (.iconst 3, 1) := by decide +kernel
theorem dL_law_711 : decode cL_law 711 = .ok (.iadd, 1) := by decide +kernel
theorem dL_law_712 : decode cL_law 712 = .ok (.iaload, 1) := by decide +kernel
theorem dL_law_713 : decode cL_law 713 = .ok (.invokevirtual 96, 3) := by decide +kernel
theorem dL_law_716 : decode cL_law 716 = .ok (.if_icmp .eq 281, 3) := by decide +kernel
theorem dL_law_719 : decode cL_law 719 = .ok (.iconst 0, 1) := by decide +kernel
theorem dL_law_720 : decode cL_law 720 = .ok (.ireturn, 1) := by decide +kernel
theorem dL_law_721 : decode cL_law 721 = .ok (.aload_n 1, 1) := by decide +kernel
theorem dL_law_722 : decode cL_law 722 = .ok (.aload_n 0, 1) := by decide +kernel
theorem dL_law_723 : decode cL_law 723 = .ok (.iload_n 3, 1) := by decide +kernel
theorem dL_law_724 : decode cL_law 724 = .ok (.iconst 1, 1) := by decide +kernel
theorem dL_law_725 : decode cL_law 725 = .ok (.iadd, 1) := by decide +kernel
theorem dL_law_726 : decode cL_law 726 = .ok (.iaload, 1) := by decide +kernel
theorem dL_law_727 : decode cL_law 727 = .ok (.aload_n 0, 1) := by decide +kernel
theorem dL_law_728 : decode cL_law 728 = .ok (.iload_n 3, 1) := by decide +kernel
theorem dL_law_729 : decode cL_law 729 = .ok (.iconst 2, 1) := by decide +kernel
theorem dL_law_730 : decode cL_law 730 = .ok (.iadd, 1) := by decide +kernel
theorem dL_law_731 : decode cL_law 731 = .ok (.iaload, 1) := by decide +kernel
theorem dL_law_732 : decode cL_law 732 = .ok (.aload_n 0, 1) := by decide +kernel
theorem dL_law_733 : decode cL_law 733 = .ok (.iload_n 3, 1) := by decide +kernel
theorem dL_law_734 : decode cL_law 734 = .ok (.iconst 3, 1) := by decide +kernel
theorem dL_law_735 : decode cL_law 735 = .ok (.iadd, 1) := by decide +kernel
theorem dL_law_736 : decode cL_law 736 = .ok (.iaload, 1) := by decide +kernel
theorem dL_law_737 : decode cL_law 737 = .ok (.ifCond .eq 7, 3) := by decide +kernel
theorem dL_law_740 : decode cL_law 740 = .ok (.iconst 1, 1) := by decide +kernel
theorem dL_law_741 : decode cL_law 741 = .ok (.goto 4, 3) := by decide +kernel
theorem dL_law_744 : decode cL_law 744 = .ok (.iconst 0, 1) := by decide +kernel
theorem dL_law_745 : decode cL_law 745 = .ok (.invokevirtual 97, 3) := by decide +kernel
theorem dL_law_748 : decode cL_law 748 = .ok (.aload_n 2, 1) := by decide +kernel
theorem dL_law_749 : decode cL_law 749 = .ok (.aload_n 0, 1) := by decide +kernel
theorem dL_law_750 : decode cL_law 750 = .ok (.iload_n 3, 1) := by decide +kernel
theorem dL_law_751 : decode cL_law 751 = .ok (.iconst 1, 1) := by decide +kernel
theorem dL_law_752 : decode cL_law 752 = .ok (.iadd, 1) := by decide +kernel
theorem dL_law_753 : decode cL_law 753 = .ok (.iaload, 1) := by decide +kernel
theorem dL_law_754 : decode cL_law 754 = .ok (.aload_n 0, 1) := by decide +kernel
theorem dL_law_755 : decode cL_law 755 = .ok (.iload_n 3, 1) := by decide +kernel
theorem dL_law_756 : decode cL_law 756 = .ok (.iconst 2, 1) := by decide +kernel
theorem dL_law_757 : decode cL_law 757 = .ok (.iadd, 1) := by decide +kernel
theorem dL_law_758 : decode cL_law 758 = .ok (.iaload, 1) := by decide +kernel
theorem dL_law_759 : decode cL_law 759 = .ok (.aload_n 0, 1) := by decide +kernel
theorem dL_law_760 : decode cL_law 760 = .ok (.iload_n 3, 1) := by decide +kernel
theorem dL_law_761 : decode cL_law 761 = .ok (.iconst 3, 1) := by decide +kernel
theorem dL_law_762 : decode cL_law 762 = .ok (.iadd, 1) := by decide +kernel
theorem dL_law_763 : decode cL_law 763 = .ok (.iaload, 1) := by decide +kernel
theorem dL_law_764 : decode cL_law 764 = .ok (.ifCond .eq 7, 3) := by decide +kernel
theorem dL_law_767 : decode cL_law 767 = .ok (.iconst 1, 1) := by decide +kernel
theorem dL_law_768 : decode cL_law 768 = .ok (.goto 4, 3) := by decide +kernel
theorem dL_law_771 : decode cL_law 771 = .ok (.iconst 0, 1) := by decide +kernel
theorem dL_law_772 : decode cL_law 772 = .ok (.invokevirtual 101, 3) := by decide +kernel
theorem dL_law_775 : decode cL_law 775 = .ok (.if_icmp .eq 222, 3) := by decide +kernel
theorem dL_law_778 : decode cL_law 778 = .ok (.iconst 0, 1) := by decide +kernel
theorem dL_law_779 : decode cL_law 779 = .ok (.ireturn, 1) := by decide +kernel
theorem dL_law_780 : decode cL_law 780 = .ok (.aload_n 1, 1) := by decide +kernel
theorem dL_law_781 : decode cL_law 781 = .ok (.aload_n 0, 1) := by decide +kernel
theorem dL_law_782 : decode cL_law 782 = .ok (.iload_n 3, 1) := by decide +kernel
theorem dL_law_783 : decode cL_law 783 = .ok (.iconst 1, 1) := by decide +kernel
theorem dL_law_784 : decode cL_law 784 = .ok (.iadd, 1) := by decide +kernel
theorem dL_law_785 : decode cL_law 785 = .ok (.iaload, 1) := by decide +kernel
theorem dL_law_786 : decode cL_law 786 = .ok (.aload_n 0, 1) := by decide +kernel
theorem dL_law_787 : decode cL_law 787 = .ok (.iload_n 3, 1) := by decide +kernel
theorem dL_law_788 : decode cL_law 788 = .ok (.iconst 2, 1) := by decide +kernel
theorem dL_law_789 : decode cL_law 789 = .ok (.iadd, 1) := by decide +kernel
theorem dL_law_790 : decode cL_law 790 = .ok (.iaload, 1) := by decide +kernel
theorem dL_law_791 : decode cL_law 791 = .ok (.aload_n 0, 1) := by decide +kernel
theorem dL_law_792 : decode cL_law 792 = .ok (.iload_n 3, 1) := by decide +kernel
theorem dL_law_793 : decode cL_law 793 = .ok (.iconst 3, 1) := by decide +kernel
theorem dL_law_794 : decode cL_law 794 = .ok (.iadd, 1) := by decide +kernel
theorem dL_law_795 : decode cL_law 795 = .ok (.iaload, 1) := by decide +kernel
theorem dL_law_796 : decode cL_law 796 = .ok (.invokevirtual 102, 3) := by decide +kernel
theorem dL_law_799 : decode cL_law 799 = .ok (.aload_n 2, 1) := by decide +kernel
theorem dL_law_800 : decode cL_law 800 = .ok (.aload_n 0, 1) := by decide +kernel
theorem dL_law_801 : decode cL_law 801 = .ok (.iload_n 3, 1) := by decide +kernel
theorem dL_law_802 : decode cL_law 802 = .ok (.iconst 1, 1) := by decide +kernel
theorem dL_law_803 : decode cL_law 803 = .ok (.iadd, 1) := by decide +kernel
theorem dL_law_804 : decode cL_law 804 = .ok (.iaload, 1) := by decide +kernel
theorem dL_law_805 : decode cL_law 805 = .ok (.aload_n 0, 1) := by decide +kernel
theorem dL_law_806 : decode cL_law 806 = .ok (.iload_n 3, 1) := by decide +kernel
theorem dL_law_807 : decode cL_law 807 = .ok (.iconst 2, 1) := by decide +kernel
theorem dL_law_808 : decode cL_law 808 = .ok (.iadd, 1) := by decide +kernel
theorem dL_law_809 : decode cL_law 809 = .ok (.iaload, 1) := by decide +kernel
theorem dL_law_810 : decode cL_law 810 = .ok (.aload_n 0, 1) := by decide +kernel
theorem dL_law_811 : decode cL_law 811 = .ok (.iload_n 3, 1) := by decide +kernel
theorem dL_law_812 : decode cL_law 812 = .ok (.iconst 3, 1) := by decide +kernel
theorem dL_law_813 : decode cL_law 813 = .ok (.iadd, 1) := by decide +kernel
theorem dL_law_814 : decode cL_law 814 = .ok (.iaload, 1) := by decide +kernel
theorem dL_law_815 : decode cL_law 815 = .ok (.invokevirtual 105, 3) := by decide +kernel
theorem dL_law_818 : decode cL_law 818 = .ok (.if_icmp .eq 179, 3) := by decide +kernel
theorem dL_law_821 : decode cL_law 821 = .ok (.iconst 0, 1) := by decide +kernel
theorem dL_law_822 : decode cL_law 822 = .ok (.ireturn, 1) := by decide +kernel
theorem dL_law_823 : decode cL_law 823 = .ok (.aload_n 1, 1) := by decide +kernel
theorem dL_law_824 : decode cL_law 824 = .ok (.aload_n 0, 1) := by decide +kernel
theorem dL_law_825 : decode cL_law 825 = .ok (.iload_n 3, 1) := by decide +kernel
theorem dL_law_826 : decode cL_law 826 = .ok (.iconst 1, 1) := by decide +kernel
theorem dL_law_827 : decode cL_law 827 = .ok (.iadd, 1) := by decide +kernel
theorem dL_law_828 : decode cL_law 828 = .ok (.iaload, 1) := by decide +kernel
theorem dL_law_829 : decode cL_law 829 = .ok (.invokevirtual 106, 3) := by decide +kernel
theorem dL_law_832 : decode cL_law 832 = .ok (.aload_n 2, 1) := by decide +kernel
theorem dL_law_833 : decode cL_law 833 = .ok (.aload_n 0, 1) := by decide +kernel
theorem dL_law_834 : decode cL_law 834 = .ok (.iload_n 3, 1) := by decide +kernel
theorem dL_law_835 : decode cL_law 835 = .ok (.iconst 1, 1) := by decide +kernel
theorem dL_law_836 : decode cL_law 836 = .ok (.iadd, 1) := by decide +kernel
theorem dL_law_837 : decode cL_law 837 = .ok (.iaload, 1) := by decide +kernel
theorem dL_law_838 : decode cL_law 838 = .ok (.invokevirtual 109, 3) := by decide +kernel
theorem dL_law_841 : decode cL_law 841 = .ok (.if_icmp .eq 156, 3) := by decide +kernel
theorem dL_law_844 : decode cL_law 844 = .ok (.iconst 0, 1) := by decide +kernel
theorem dL_law_845 : decode cL_law 845 = .ok (.ireturn, 1) := by decide +kernel
theorem dL_law_846 : decode cL_law 846 = .ok (.aload_n 1, 1) := by decide +kernel
theorem dL_law_847 : decode cL_law 847 = .ok (.aload_n 0, 1) := by decide +kernel
theorem dL_law_848 : decode cL_law 848 = .ok (.iload_n 3, 1) := by decide +kernel
theorem dL_law_849 : decode cL_law 849 = .ok (.iconst 1, 1) := by decide +kernel
theorem dL_law_850 : decode cL_law 850 = .ok (.iadd, 1) := by decide +kernel
theorem dL_law_851 : decode cL_law 851 = .ok (.iaload, 1) := by decide +kernel
theorem dL_law_852 : decode cL_law 852 = .ok (.aload_n 0, 1) := by decide +kernel
theorem dL_law_853 : decode cL_law 853 = .ok (.iload_n 3, 1) := by decide +kernel
theorem dL_law_854 : decode cL_law 854 = .ok (.iconst 2, 1) := by decide +kernel
theorem dL_law_855 : decode cL_law 855 = .ok (.iadd, 1) := by decide +kernel
theorem dL_law_856 : decode cL_law 856 = .ok (.iaload, 1) := by decide +kernel
theorem dL_law_857 : decode cL_law 857 = .ok (.invokevirtual 110, 3) := by decide +kernel
theorem dL_law_860 : decode cL_law 860 = .ok (.aload_n 2, 1) := by decide +kernel
theorem dL_law_861 : decode cL_law 861 = .ok (.aload_n 0, 1) := by decide +kernel
theorem dL_law_862 : decode cL_law 862 = .ok (.iload_n 3, 1) := by decide +kernel
theorem dL_law_863 : decode cL_law 863 = .ok (.iconst 1, 1) := by decide +kernel
theorem dL_law_864 : decode cL_law 864 = .ok (.iadd, 1) := by decide +kernel
theorem dL_law_865 : decode cL_law 865 = .ok (.iaload, 1) := by decide +kernel
theorem dL_law_866 : decode cL_law 866 = .ok (.aload_n 0, 1) := by decide +kernel
theorem dL_law_867 : decode cL_law 867 = .ok (.iload_n 3, 1) := by decide +kernel
theorem dL_law_868 : decode cL_law 868 = .ok (.iconst 2, 1) := by decide +kernel
theorem dL_law_869 : decode cL_law 869 = .ok (.iadd, 1) := by decide +kernel
theorem dL_law_870 : decode cL_law 870 = .ok (.iaload, 1) := by decide +kernel
theorem dL_law_871 : decode cL_law 871 = .ok (.invokevirtual 113, 3) := by decide +kernel
theorem dL_law_874 : decode cL_law 874 = .ok (.if_icmp .eq 123, 3) := by decide +kernel
theorem dL_law_877 : decode cL_law 877 = .ok (.iconst 0, 1) := by decide +kernel
theorem dL_law_878 : decode cL_law 878 = .ok (.ireturn, 1) := by decide +kernel
theorem dL_law_879 : decode cL_law 879 = .ok (.aload_n 1, 1) := by decide +kernel
theorem dL_law_880 : decode cL_law 880 = .ok (.aload_n 0, 1) := by decide +kernel
theorem dL_law_881 : decode cL_law 881 = .ok (.iload_n 3, 1) := by decide +kernel
theorem dL_law_882 : decode cL_law 882 = .ok (.iconst 1, 1) := by decide +kernel
theorem dL_law_883 : decode cL_law 883 = .ok (.iadd, 1) := by decide +kernel
theorem dL_law_884 : decode cL_law 884 = .ok (.iaload, 1) := by decide +kernel
theorem dL_law_885 : decode cL_law 885 = .ok (.aload_n 0, 1) := by decide +kernel
theorem dL_law_886 : decode cL_law 886 = .ok (.iload_n 3, 1) := by decide +kernel
theorem dL_law_887 : decode cL_law 887 = .ok (.iconst 2, 1) := by decide +kernel
theorem dL_law_888 : decode cL_law 888 = .ok (.iadd, 1) := by decide +kernel
theorem dL_law_889 : decode cL_law 889 = .ok (.iaload, 1) := by decide +kernel
theorem dL_law_890 : decode cL_law 890 = .ok (.aload_n 0, 1) := by decide +kernel
theorem dL_law_891 : decode cL_law 891 = .ok (.iload_n 3, 1) := by decide +kernel
theorem dL_law_892 : decode cL_law 892 = .ok (.iconst 3, 1) := by decide +kernel
theorem dL_law_893 : decode cL_law 893 = .ok (.iadd, 1) := by decide +kernel
theorem dL_law_894 : decode cL_law 894 = .ok (.iaload, 1) := by decide +kernel
theorem dL_law_895 : decode cL_law 895 = .ok (.invokevirtual 114, 3) := by decide +kernel
theorem dL_law_898 : decode cL_law 898 = .ok (.aload_n 2, 1) := by decide +kernel
theorem dL_law_899 : decode cL_law 899 = .ok (.aload_n 0, 1) := by decide +kernel
theorem dL_law_900 : decode cL_law 900 = .ok (.iload_n 3, 1) := by decide +kernel
theorem dL_law_901 : decode cL_law 901 = .ok (.iconst 1, 1) := by decide +kernel
theorem dL_law_902 : decode cL_law 902 = .ok (.iadd, 1) := by decide +kernel
theorem dL_law_903 : decode cL_law 903 = .ok (.iaload, 1) := by decide +kernel
theorem dL_law_904 : decode cL_law 904 = .ok (.aload_n 0, 1) := by decide +kernel
theorem dL_law_905 : decode cL_law 905 = .ok (.iload_n 3, 1) := by decide +kernel
theorem dL_law_906 : decode cL_law 906 = .ok (.iconst 2, 1) := by decide +kernel
theorem dL_law_907 : decode cL_law 907 = .ok (.iadd, 1) := by decide +kernel
theorem dL_law_908 : decode cL_law 908 = .ok (.iaload, 1) := by decide +kernel
theorem dL_law_909 : decode cL_law 909 = .ok (.aload_n 0, 1) := by decide +kernel
theorem dL_law_910 : decode cL_law 910 = .ok (.iload_n 3, 1) := by decide +kernel
theorem dL_law_911 : decode cL_law 911 = .ok (.iconst 3, 1) := by decide +kernel
theorem dL_law_912 : decode cL_law 912 = .ok (.iadd, 1) := by decide +kernel
theorem dL_law_913 : decode cL_law 913 = .ok (.iaload, 1) := by decide +kernel
theorem dL_law_914 : decode cL_law 914 = .ok (.invokevirtual 117, 3) := by decide +kernel
theorem dL_law_917 : decode cL_law 917 = .ok (.if_icmp .eq 80, 3) := by decide +kernel
theorem dL_law_920 : decode cL_law 920 = .ok (.iconst 0, 1) := by decide +kernel
theorem dL_law_921 : decode cL_law 921 = .ok (.ireturn, 1) := by decide +kernel
theorem dL_law_922 : decode cL_law 922 = .ok (.aload_n 1, 1) := by decide +kernel
theorem dL_law_923 : decode cL_law 923 = .ok (.invokevirtual 118, 3) := by decide +kernel
theorem dL_law_926 : decode cL_law 926 = .ok (.aload_n 2, 1) := by decide +kernel
theorem dL_law_927 : decode cL_law 927 = .ok (.invokevirtual 121, 3) := by decide +kernel
theorem dL_law_930 : decode cL_law 930 = .ok (.if_icmp .eq 67, 3) := by decide +kernel
theorem dL_law_933 : decode cL_law 933 = .ok (.iconst 0, 1) := by decide +kernel
theorem dL_law_934 : decode cL_law 934 = .ok (.ireturn, 1) := by decide +kernel
theorem dL_law_935 : decode cL_law 935 = .ok (.aload_n 1, 1) := by decide +kernel
theorem dL_law_936 : decode cL_law 936 = .ok (.invokevirtual 122, 3) := by decide +kernel
theorem dL_law_939 : decode cL_law 939 = .ok (.aload_n 2, 1) := by decide +kernel
theorem dL_law_940 : decode cL_law 940 = .ok (.invokevirtual 125, 3) := by decide +kernel
theorem dL_law_943 : decode cL_law 943 = .ok (.if_icmp .eq 54, 3) := by decide +kernel
theorem dL_law_946 : decode cL_law 946 = .ok (.iconst 0, 1) := by decide +kernel
theorem dL_law_947 : decode cL_law 947 = .ok (.ireturn, 1) := by decide +kernel
theorem dL_law_948 : decode cL_law 948 = .ok (.aload_n 1, 1) := by decide +kernel
theorem dL_law_949 : decode cL_law 949 = .ok (.invokevirtual 126, 3) := by decide +kernel
theorem dL_law_952 : decode cL_law 952 = .ok (.aload_n 2, 1) := by decide +kernel
theorem dL_law_953 : decode cL_law 953 = .ok (.invokevirtual 129, 3) := by decide +kernel
theorem dL_law_956 : decode cL_law 956 = .ok (.if_icmp .eq 41, 3) := by decide +kernel
theorem dL_law_959 : decode cL_law 959 = .ok (.iconst 0, 1) := by decide +kernel
theorem dL_law_960 : decode cL_law 960 = .ok (.ireturn, 1) := by decide +kernel
theorem dL_law_961 : decode cL_law 961 = .ok (.aload_n 1, 1) := by decide +kernel
theorem dL_law_962 : decode cL_law 962 = .ok (.invokevirtual 130, 3) := by decide +kernel
theorem dL_law_965 : decode cL_law 965 = .ok (.aload_n 2, 1) := by decide +kernel
theorem dL_law_966 : decode cL_law 966 = .ok (.invokevirtual 133, 3) := by decide +kernel
theorem dL_law_969 : decode cL_law 969 = .ok (.if_icmp .eq 28, 3) := by decide +kernel
theorem dL_law_972 : decode cL_law 972 = .ok (.iconst 0, 1) := by decide +kernel
theorem dL_law_973 : decode cL_law 973 = .ok (.ireturn, 1) := by decide +kernel
theorem dL_law_974 : decode cL_law 974 = .ok (.aload_n 1, 1) := by decide +kernel
theorem dL_law_975 : decode cL_law 975 = .ok (.aload_n 0, 1) := by decide +kernel
theorem dL_law_976 : decode cL_law 976 = .ok (.iload_n 3, 1) := by decide +kernel
theorem dL_law_977 : decode cL_law 977 = .ok (.iconst 1, 1) := by decide +kernel
theorem dL_law_978 : decode cL_law 978 = .ok (.iadd, 1) := by decide +kernel
theorem dL_law_979 : decode cL_law 979 = .ok (.iaload, 1) := by decide +kernel
theorem dL_law_980 : decode cL_law 980 = .ok (.invokevirtual 134, 3) := by decide +kernel
theorem dL_law_983 : decode cL_law 983 = .ok (.aload_n 2, 1) := by decide +kernel
theorem dL_law_984 : decode cL_law 984 = .ok (.aload_n 0, 1) := by decide +kernel
theorem dL_law_985 : decode cL_law 985 = .ok (.iload_n 3, 1) := by decide +kernel
theorem dL_law_986 : decode cL_law 986 = .ok (.iconst 1, 1) := by decide +kernel
theorem dL_law_987 : decode cL_law 987 = .ok (.iadd, 1) := by decide +kernel
theorem dL_law_988 : decode cL_law 988 = .ok (.iaload, 1) := by decide +kernel
theorem dL_law_989 : decode cL_law 989 = .ok (.invokevirtual 137, 3) := by decide +kernel
theorem dL_law_992 : decode cL_law 992 = .ok (.if_icmp .eq 5, 3) := by decide +kernel
theorem dL_law_995 : decode cL_law 995 = .ok (.iconst 0, 1) := by decide +kernel
theorem dL_law_996 : decode cL_law 996 = .ok (.ireturn, 1) := by decide +kernel
theorem dL_law_997 : decode cL_law 997 = .ok (.iinc 3 6, 3) := by decide +kernel
theorem dL_law_1000 : decode cL_law 1000 = .ok (.goto (-982), 3) := by decide +kernel
theorem dL_law_1003 : decode cL_law 1003 = .ok (.iconst 1, 1) := by decide +kernel
theorem dL_law_1004 : decode cL_law 1004 = .ok (.ireturn, 1) := by decide +kernel
theorem bw_490 : Cond.methodLink "CountingHorsesLaw" 13 ⟨"CountingHorses", "mud", "(III)Z"⟩ ∈ BW := bw_at 490 (by decide +kernel) (by decide +kernel)
theorem bw_491 : Cond.instanceMethod ⟨"CountingHorses", "mud", "(III)Z"⟩ ∈ BW := bw_at 491 (by decide +kernel) (by decide +kernel)
theorem bw_492 : Cond.selects "CountingHorses" ⟨"CountingHorses", "mud", "(III)Z"⟩ ⟨"CountingHorses", "mud", "(III)Z"⟩ ∈ BW := bw_at 492 (by decide +kernel) (by decide +kernel)
theorem bw_493 : Cond.code ⟨"CountingHorses", "mud", "(III)Z"⟩ prog_1_method_2_code 5 (some .boolean) ∈ BW := bw_at 493 (by decide +kernel) (by decide +kernel)
theorem bw_504 : Cond.methodLink "CountingHorsesLaw" 18 ⟨"CountingHorses", "bridge", "(II)I"⟩ ∈ BW := bw_at 504 (by decide +kernel) (by decide +kernel)
theorem bw_505 : Cond.instanceMethod ⟨"CountingHorses", "bridge", "(II)I"⟩ ∈ BW := bw_at 505 (by decide +kernel) (by decide +kernel)
theorem bw_506 : Cond.selects "CountingHorses" ⟨"CountingHorses", "bridge", "(II)I"⟩ ⟨"CountingHorses", "bridge", "(II)I"⟩ ∈ BW := bw_at 506 (by decide +kernel) (by decide +kernel)
theorem bw_507 : Cond.code ⟨"CountingHorses", "bridge", "(II)I"⟩ prog_1_method_3_code 4 (some .int) ∈ BW := bw_at 507 (by decide +kernel) (by decide +kernel)
theorem bw_508 : Cond.methodLink "CountingHorsesLaw" 23 ⟨"CountingHorses", "inn", "(I)I"⟩ ∈ BW := bw_at 508 (by decide +kernel) (by decide +kernel)
theorem bw_509 : Cond.instanceMethod ⟨"CountingHorses", "inn", "(I)I"⟩ ∈ BW := bw_at 509 (by decide +kernel) (by decide +kernel)
theorem bw_510 : Cond.selects "CountingHorses" ⟨"CountingHorses", "inn", "(I)I"⟩ ⟨"CountingHorses", "inn", "(I)I"⟩ ∈ BW := bw_at 510 (by decide +kernel) (by decide +kernel)
theorem bw_511 : Cond.code ⟨"CountingHorses", "inn", "(I)I"⟩ prog_1_method_4_code 3 (some .int) ∈ BW := bw_at 511 (by decide +kernel) (by decide +kernel)
theorem bw_512 : Cond.methodLink "CountingHorsesLaw" 28 ⟨"CountingHorses", "move", "(II)Z"⟩ ∈ BW := bw_at 512 (by decide +kernel) (by decide +kernel)
theorem bw_513 : Cond.instanceMethod ⟨"CountingHorses", "move", "(II)Z"⟩ ∈ BW := bw_at 513 (by decide +kernel) (by decide +kernel)
theorem bw_514 : Cond.selects "CountingHorses" ⟨"CountingHorses", "move", "(II)Z"⟩ ⟨"CountingHorses", "move", "(II)Z"⟩ ∈ BW := bw_at 514 (by decide +kernel) (by decide +kernel)
theorem bw_515 : Cond.code ⟨"CountingHorses", "move", "(II)Z"⟩ prog_1_method_5_code 4 (some .boolean) ∈ BW := bw_at 515 (by decide +kernel) (by decide +kernel)
theorem bw_527 : Cond.methodLink "CountingHorsesLaw" 33 ⟨"CountingHorses", "horse", "(II)I"⟩ ∈ BW := bw_at 527 (by decide +kernel) (by decide +kernel)
theorem bw_528 : Cond.instanceMethod ⟨"CountingHorses", "horse", "(II)I"⟩ ∈ BW := bw_at 528 (by decide +kernel) (by decide +kernel)
theorem bw_529 : Cond.selects "CountingHorses" ⟨"CountingHorses", "horse", "(II)I"⟩ ⟨"CountingHorses", "horse", "(II)I"⟩ ∈ BW := bw_at 529 (by decide +kernel) (by decide +kernel)
theorem bw_530 : Cond.code ⟨"CountingHorses", "horse", "(II)I"⟩ prog_1_method_6_code 4 (some .int) ∈ BW := bw_at 530 (by decide +kernel) (by decide +kernel)
theorem bw_531 : Cond.methodLink "CountingHorsesLaw" 37 ⟨"CountingHorses", "weather", "(II)Z"⟩ ∈ BW := bw_at 531 (by decide +kernel) (by decide +kernel)
theorem bw_532 : Cond.instanceMethod ⟨"CountingHorses", "weather", "(II)Z"⟩ ∈ BW := bw_at 532 (by decide +kernel) (by decide +kernel)
theorem bw_533 : Cond.selects "CountingHorses" ⟨"CountingHorses", "weather", "(II)Z"⟩ ⟨"CountingHorses", "weather", "(II)Z"⟩ ∈ BW := bw_at 533 (by decide +kernel) (by decide +kernel)
theorem bw_534 : Cond.code ⟨"CountingHorses", "weather", "(II)Z"⟩ prog_1_method_7_code 3 (some .boolean) ∈ BW := bw_at 534 (by decide +kernel) (by decide +kernel)
theorem bw_535 : Cond.methodLink "CountingHorsesLaw" 41 ⟨"CountingHorses", "feed", "(IIIII)I"⟩ ∈ BW := bw_at 535 (by decide +kernel) (by decide +kernel)
theorem bw_536 : Cond.instanceMethod ⟨"CountingHorses", "feed", "(IIIII)I"⟩ ∈ BW := bw_at 536 (by decide +kernel) (by decide +kernel)
theorem bw_537 : Cond.selects "CountingHorses" ⟨"CountingHorses", "feed", "(IIIII)I"⟩ ⟨"CountingHorses", "feed", "(IIIII)I"⟩ ∈ BW := bw_at 537 (by decide +kernel) (by decide +kernel)
theorem bw_538 : Cond.code ⟨"CountingHorses", "feed", "(IIIII)I"⟩ prog_1_method_8_code 6 (some .int) ∈ BW := bw_at 538 (by decide +kernel) (by decide +kernel)
theorem bw_543 : Cond.methodLink "CountingHorsesLaw" 46 ⟨"CountingHorses", "end", "(I)I"⟩ ∈ BW := bw_at 543 (by decide +kernel) (by decide +kernel)
theorem bw_544 : Cond.instanceMethod ⟨"CountingHorses", "end", "(I)I"⟩ ∈ BW := bw_at 544 (by decide +kernel) (by decide +kernel)
theorem bw_545 : Cond.selects "CountingHorses" ⟨"CountingHorses", "end", "(I)I"⟩ ⟨"CountingHorses", "end", "(I)I"⟩ ∈ BW := bw_at 545 (by decide +kernel) (by decide +kernel)
theorem bw_546 : Cond.code ⟨"CountingHorses", "end", "(I)I"⟩ prog_1_method_9_code 2 (some .int) ∈ BW := bw_at 546 (by decide +kernel) (by decide +kernel)
theorem bw_547 : Cond.methodLink "CountingHorsesLaw" 50 ⟨"CountingHorses", "text", "()I"⟩ ∈ BW := bw_at 547 (by decide +kernel) (by decide +kernel)
theorem bw_548 : Cond.instanceMethod ⟨"CountingHorses", "text", "()I"⟩ ∈ BW := bw_at 548 (by decide +kernel) (by decide +kernel)
theorem bw_549 : Cond.selects "CountingHorses" ⟨"CountingHorses", "text", "()I"⟩ ⟨"CountingHorses", "text", "()I"⟩ ∈ BW := bw_at 549 (by decide +kernel) (by decide +kernel)
theorem bw_550 : Cond.code ⟨"CountingHorses", "text", "()I"⟩ prog_1_method_10_code 1 (some .int) ∈ BW := bw_at 550 (by decide +kernel) (by decide +kernel)
theorem bw_787 : Cond.methodLink "CountingHorsesLaw" 55 ⟨"CountingHorses", "fault", "(I)I"⟩ ∈ BW := bw_at 787 (by decide +kernel) (by decide +kernel)
theorem bw_788 : Cond.instanceMethod ⟨"CountingHorses", "fault", "(I)I"⟩ ∈ BW := bw_at 788 (by decide +kernel) (by decide +kernel)
theorem bw_789 : Cond.selects "CountingHorses" ⟨"CountingHorses", "fault", "(I)I"⟩ ⟨"CountingHorses", "fault", "(I)I"⟩ ∈ BW := bw_at 789 (by decide +kernel) (by decide +kernel)
theorem bw_790 : Cond.code ⟨"CountingHorses", "fault", "(I)I"⟩ prog_1_method_11_code 2 (some .int) ∈ BW := bw_at 790 (by decide +kernel) (by decide +kernel)
theorem bw_791 : Cond.methodLink "CountingHorsesLaw" 59 ⟨"CountingHorses", "by", "(I)Z"⟩ ∈ BW := bw_at 791 (by decide +kernel) (by decide +kernel)
theorem bw_792 : Cond.instanceMethod ⟨"CountingHorses", "by", "(I)Z"⟩ ∈ BW := bw_at 792 (by decide +kernel) (by decide +kernel)
theorem bw_793 : Cond.selects "CountingHorses" ⟨"CountingHorses", "by", "(I)Z"⟩ ⟨"CountingHorses", "by", "(I)Z"⟩ ∈ BW := bw_at 793 (by decide +kernel) (by decide +kernel)
theorem bw_794 : Cond.code ⟨"CountingHorses", "by", "(I)Z"⟩ prog_1_method_12_code 2 (some .boolean) ∈ BW := bw_at 794 (by decide +kernel) (by decide +kernel)
theorem bw_795 : Cond.methodLink "CountingHorsesLaw" 64 ⟨"CountingHorses", "start", "(I)Z"⟩ ∈ BW := bw_at 795 (by decide +kernel) (by decide +kernel)
theorem bw_796 : Cond.instanceMethod ⟨"CountingHorses", "start", "(I)Z"⟩ ∈ BW := bw_at 796 (by decide +kernel) (by decide +kernel)
theorem bw_797 : Cond.selects "CountingHorses" ⟨"CountingHorses", "start", "(I)Z"⟩ ⟨"CountingHorses", "start", "(I)Z"⟩ ∈ BW := bw_at 797 (by decide +kernel) (by decide +kernel)
theorem bw_798 : Cond.code ⟨"CountingHorses", "start", "(I)Z"⟩ prog_1_method_13_code 2 (some .boolean) ∈ BW := bw_at 798 (by decide +kernel) (by decide +kernel)
theorem bw_799 : Cond.methodLink "CountingHorsesLaw" 68 ⟨"CountingHorses", "would", "(III)I"⟩ ∈ BW := bw_at 799 (by decide +kernel) (by decide +kernel)
theorem bw_800 : Cond.instanceMethod ⟨"CountingHorses", "would", "(III)I"⟩ ∈ BW := bw_at 800 (by decide +kernel) (by decide +kernel)
theorem bw_801 : Cond.selects "CountingHorses" ⟨"CountingHorses", "would", "(III)I"⟩ ⟨"CountingHorses", "would", "(III)I"⟩ ∈ BW := bw_at 801 (by decide +kernel) (by decide +kernel)
theorem bw_802 : Cond.code ⟨"CountingHorses", "would", "(III)I"⟩ prog_1_method_14_code 5 (some .int) ∈ BW := bw_at 802 (by decide +kernel) (by decide +kernel)
theorem bw_867 : Cond.methodLink "CountingHorsesLaw" 73 ⟨"CountingHorses", "drive", "(I)I"⟩ ∈ BW := bw_at 867 (by decide +kernel) (by decide +kernel)
theorem bw_868 : Cond.instanceMethod ⟨"CountingHorses", "drive", "(I)I"⟩ ∈ BW := bw_at 868 (by decide +kernel) (by decide +kernel)
theorem bw_869 : Cond.selects "CountingHorses" ⟨"CountingHorses", "drive", "(I)I"⟩ ⟨"CountingHorses", "drive", "(I)I"⟩ ∈ BW := bw_at 869 (by decide +kernel) (by decide +kernel)
theorem bw_870 : Cond.code ⟨"CountingHorses", "drive", "(I)I"⟩ prog_1_method_15_code 2 (some .int) ∈ BW := bw_at 870 (by decide +kernel) (by decide +kernel)
theorem bw_876 : Cond.methodLink "CountingHorsesLaw" 77 ⟨"CountingHorses", "pass", "(I)I"⟩ ∈ BW := bw_at 876 (by decide +kernel) (by decide +kernel)
theorem bw_877 : Cond.instanceMethod ⟨"CountingHorses", "pass", "(I)I"⟩ ∈ BW := bw_at 877 (by decide +kernel) (by decide +kernel)
theorem bw_878 : Cond.selects "CountingHorses" ⟨"CountingHorses", "pass", "(I)I"⟩ ⟨"CountingHorses", "pass", "(I)I"⟩ ∈ BW := bw_at 878 (by decide +kernel) (by decide +kernel)
theorem bw_879 : Cond.code ⟨"CountingHorses", "pass", "(I)I"⟩ prog_1_method_16_code 2 (some .int) ∈ BW := bw_at 879 (by decide +kernel) (by decide +kernel)
theorem bw_884 : Cond.methodLink "CountingHorsesLaw" 81 ⟨"CountingHorses", "played", "(I)I"⟩ ∈ BW := bw_at 884 (by decide +kernel) (by decide +kernel)
theorem bw_885 : Cond.instanceMethod ⟨"CountingHorses", "played", "(I)I"⟩ ∈ BW := bw_at 885 (by decide +kernel) (by decide +kernel)
theorem bw_886 : Cond.selects "CountingHorses" ⟨"CountingHorses", "played", "(I)I"⟩ ⟨"CountingHorses", "played", "(I)I"⟩ ∈ BW := bw_at 886 (by decide +kernel) (by decide +kernel)
theorem bw_887 : Cond.code ⟨"CountingHorses", "played", "(I)I"⟩ prog_1_method_17_code 6 (some .int) ∈ BW := bw_at 887 (by decide +kernel) (by decide +kernel)
theorem bw_888 : Cond.methodLink "CountingHorsesLaw" 85 ⟨"CountingHorses", "undo", "()I"⟩ ∈ BW := bw_at 888 (by decide +kernel) (by decide +kernel)
theorem bw_889 : Cond.instanceMethod ⟨"CountingHorses", "undo", "()I"⟩ ∈ BW := bw_at 889 (by decide +kernel) (by decide +kernel)
theorem bw_890 : Cond.selects "CountingHorses" ⟨"CountingHorses", "undo", "()I"⟩ ⟨"CountingHorses", "undo", "()I"⟩ ∈ BW := bw_at 890 (by decide +kernel) (by decide +kernel)
theorem bw_891 : Cond.code ⟨"CountingHorses", "undo", "()I"⟩ prog_1_method_18_code 1 (some .int) ∈ BW := bw_at 891 (by decide +kernel) (by decide +kernel)
theorem bw_896 : Cond.methodLink "CountingHorsesLaw" 89 ⟨"CountingHorses", "coach", "(I)I"⟩ ∈ BW := bw_at 896 (by decide +kernel) (by decide +kernel)
theorem bw_897 : Cond.instanceMethod ⟨"CountingHorses", "coach", "(I)I"⟩ ∈ BW := bw_at 897 (by decide +kernel) (by decide +kernel)
theorem bw_898 : Cond.selects "CountingHorses" ⟨"CountingHorses", "coach", "(I)I"⟩ ⟨"CountingHorses", "coach", "(I)I"⟩ ∈ BW := bw_at 898 (by decide +kernel) (by decide +kernel)
theorem bw_899 : Cond.code ⟨"CountingHorses", "coach", "(I)I"⟩ prog_1_method_19_code 2 (some .int) ∈ BW := bw_at 899 (by decide +kernel) (by decide +kernel)
theorem bw_904 : Cond.methodLink "CountingHorsesLaw" 93 ⟨"CountingHorses", "harness", "(III)I"⟩ ∈ BW := bw_at 904 (by decide +kernel) (by decide +kernel)
theorem bw_905 : Cond.instanceMethod ⟨"CountingHorses", "harness", "(III)I"⟩ ∈ BW := bw_at 905 (by decide +kernel) (by decide +kernel)
theorem bw_906 : Cond.selects "CountingHorses" ⟨"CountingHorses", "harness", "(III)I"⟩ ⟨"CountingHorses", "harness", "(III)I"⟩ ∈ BW := bw_at 906 (by decide +kernel) (by decide +kernel)
theorem bw_907 : Cond.code ⟨"CountingHorses", "harness", "(III)I"⟩ prog_1_method_20_code 4 (some .int) ∈ BW := bw_at 907 (by decide +kernel) (by decide +kernel)
theorem bw_922 : Cond.methodLink "CountingHorsesLaw" 97 ⟨"CountingHorses", "least", "(IIZ)I"⟩ ∈ BW := bw_at 922 (by decide +kernel) (by decide +kernel)
theorem bw_923 : Cond.instanceMethod ⟨"CountingHorses", "least", "(IIZ)I"⟩ ∈ BW := bw_at 923 (by decide +kernel) (by decide +kernel)
theorem bw_924 : Cond.selects "CountingHorses" ⟨"CountingHorses", "least", "(IIZ)I"⟩ ⟨"CountingHorses", "least", "(IIZ)I"⟩ ∈ BW := bw_at 924 (by decide +kernel) (by decide +kernel)
theorem bw_925 : Cond.code ⟨"CountingHorses", "least", "(IIZ)I"⟩ prog_1_method_21_code 5 (some .int) ∈ BW := bw_at 925 (by decide +kernel) (by decide +kernel)
theorem bw_932 : Cond.methodLink "CountingHorsesLaw" 102 ⟨"CountingHorses", "thief", "(III)I"⟩ ∈ BW := bw_at 932 (by decide +kernel) (by decide +kernel)
theorem bw_933 : Cond.instanceMethod ⟨"CountingHorses", "thief", "(III)I"⟩ ∈ BW := bw_at 933 (by decide +kernel) (by decide +kernel)
theorem bw_934 : Cond.selects "CountingHorses" ⟨"CountingHorses", "thief", "(III)I"⟩ ⟨"CountingHorses", "thief", "(III)I"⟩ ∈ BW := bw_at 934 (by decide +kernel) (by decide +kernel)
theorem bw_935 : Cond.code ⟨"CountingHorses", "thief", "(III)I"⟩ prog_1_method_22_code 6 (some .int) ∈ BW := bw_at 935 (by decide +kernel) (by decide +kernel)
theorem bw_946 : Cond.methodLink "CountingHorsesLaw" 106 ⟨"CountingHorses", "seen", "(I)I"⟩ ∈ BW := bw_at 946 (by decide +kernel) (by decide +kernel)
theorem bw_947 : Cond.instanceMethod ⟨"CountingHorses", "seen", "(I)I"⟩ ∈ BW := bw_at 947 (by decide +kernel) (by decide +kernel)
theorem bw_948 : Cond.selects "CountingHorses" ⟨"CountingHorses", "seen", "(I)I"⟩ ⟨"CountingHorses", "seen", "(I)I"⟩ ∈ BW := bw_at 948 (by decide +kernel) (by decide +kernel)
theorem bw_949 : Cond.code ⟨"CountingHorses", "seen", "(I)I"⟩ prog_1_method_23_code 2 (some .int) ∈ BW := bw_at 949 (by decide +kernel) (by decide +kernel)
theorem bw_950 : Cond.methodLink "CountingHorsesLaw" 110 ⟨"CountingHorses", "who", "(II)I"⟩ ∈ BW := bw_at 950 (by decide +kernel) (by decide +kernel)
theorem bw_951 : Cond.instanceMethod ⟨"CountingHorses", "who", "(II)I"⟩ ∈ BW := bw_at 951 (by decide +kernel) (by decide +kernel)
theorem bw_952 : Cond.selects "CountingHorses" ⟨"CountingHorses", "who", "(II)I"⟩ ⟨"CountingHorses", "who", "(II)I"⟩ ∈ BW := bw_at 952 (by decide +kernel) (by decide +kernel)
theorem bw_953 : Cond.code ⟨"CountingHorses", "who", "(II)I"⟩ prog_1_method_24_code 6 (some .int) ∈ BW := bw_at 953 (by decide +kernel) (by decide +kernel)
theorem bw_958 : Cond.methodLink "CountingHorsesLaw" 114 ⟨"CountingHorses", "tried", "(III)I"⟩ ∈ BW := bw_at 958 (by decide +kernel) (by decide +kernel)
theorem bw_959 : Cond.instanceMethod ⟨"CountingHorses", "tried", "(III)I"⟩ ∈ BW := bw_at 959 (by decide +kernel) (by decide +kernel)
theorem bw_960 : Cond.selects "CountingHorses" ⟨"CountingHorses", "tried", "(III)I"⟩ ⟨"CountingHorses", "tried", "(III)I"⟩ ∈ BW := bw_at 960 (by decide +kernel) (by decide +kernel)
theorem bw_961 : Cond.code ⟨"CountingHorses", "tried", "(III)I"⟩ prog_1_method_25_code 4 (some .int) ∈ BW := bw_at 961 (by decide +kernel) (by decide +kernel)
theorem bw_962 : Cond.methodLink "CountingHorsesLaw" 118 ⟨"CountingHorses", "taught", "()I"⟩ ∈ BW := bw_at 962 (by decide +kernel) (by decide +kernel)
theorem bw_963 : Cond.instanceMethod ⟨"CountingHorses", "taught", "()I"⟩ ∈ BW := bw_at 963 (by decide +kernel) (by decide +kernel)
theorem bw_964 : Cond.selects "CountingHorses" ⟨"CountingHorses", "taught", "()I"⟩ ⟨"CountingHorses", "taught", "()I"⟩ ∈ BW := bw_at 964 (by decide +kernel) (by decide +kernel)
theorem bw_965 : Cond.code ⟨"CountingHorses", "taught", "()I"⟩ prog_1_method_26_code 3 (some .int) ∈ BW := bw_at 965 (by decide +kernel) (by decide +kernel)
theorem bw_970 : Cond.methodLink "CountingHorsesLaw" 122 ⟨"CountingHorses", "never", "()I"⟩ ∈ BW := bw_at 970 (by decide +kernel) (by decide +kernel)
theorem bw_971 : Cond.instanceMethod ⟨"CountingHorses", "never", "()I"⟩ ∈ BW := bw_at 971 (by decide +kernel) (by decide +kernel)
theorem bw_972 : Cond.selects "CountingHorses" ⟨"CountingHorses", "never", "()I"⟩ ⟨"CountingHorses", "never", "()I"⟩ ∈ BW := bw_at 972 (by decide +kernel) (by decide +kernel)
theorem bw_973 : Cond.code ⟨"CountingHorses", "never", "()I"⟩ prog_1_method_27_code 3 (some .int) ∈ BW := bw_at 973 (by decide +kernel) (by decide +kernel)
theorem bw_978 : Cond.methodLink "CountingHorsesLaw" 126 ⟨"CountingHorses", "image", "()I"⟩ ∈ BW := bw_at 978 (by decide +kernel) (by decide +kernel)
theorem bw_979 : Cond.instanceMethod ⟨"CountingHorses", "image", "()I"⟩ ∈ BW := bw_at 979 (by decide +kernel) (by decide +kernel)
theorem bw_980 : Cond.selects "CountingHorses" ⟨"CountingHorses", "image", "()I"⟩ ⟨"CountingHorses", "image", "()I"⟩ ∈ BW := bw_at 980 (by decide +kernel) (by decide +kernel)
theorem bw_981 : Cond.code ⟨"CountingHorses", "image", "()I"⟩ prog_1_method_28_code 1 (some .int) ∈ BW := bw_at 981 (by decide +kernel) (by decide +kernel)
theorem bw_1002 : Cond.methodLink "CountingHorsesLaw" 130 ⟨"CountingHorses", "back", "()I"⟩ ∈ BW := bw_at 1002 (by decide +kernel) (by decide +kernel)
theorem bw_1003 : Cond.instanceMethod ⟨"CountingHorses", "back", "()I"⟩ ∈ BW := bw_at 1003 (by decide +kernel) (by decide +kernel)
theorem bw_1004 : Cond.selects "CountingHorses" ⟨"CountingHorses", "back", "()I"⟩ ⟨"CountingHorses", "back", "()I"⟩ ∈ BW := bw_at 1004 (by decide +kernel) (by decide +kernel)
theorem bw_1005 : Cond.code ⟨"CountingHorses", "back", "()I"⟩ prog_1_method_29_code 1 (some .int) ∈ BW := bw_at 1005 (by decide +kernel) (by decide +kernel)
theorem bw_1006 : Cond.methodLink "CountingHorsesLaw" 134 ⟨"CountingHorses", "about", "(I)I"⟩ ∈ BW := bw_at 1006 (by decide +kernel) (by decide +kernel)
theorem bw_1007 : Cond.instanceMethod ⟨"CountingHorses", "about", "(I)I"⟩ ∈ BW := bw_at 1007 (by decide +kernel) (by decide +kernel)
theorem bw_1008 : Cond.selects "CountingHorses" ⟨"CountingHorses", "about", "(I)I"⟩ ⟨"CountingHorses", "about", "(I)I"⟩ ∈ BW := bw_at 1008 (by decide +kernel) (by decide +kernel)
theorem bw_1009 : Cond.code ⟨"CountingHorses", "about", "(I)I"⟩ prog_1_method_30_code 2 (some .int) ∈ BW := bw_at 1009 (by decide +kernel) (by decide +kernel)
theorem bw_1128 : Cond.methodLink "CountingHorsesLaw" 17 ⟨"CountingHorsesModel", "mud", "(III)Z"⟩ ∈ BW := bw_at 1128 (by decide +kernel) (by decide +kernel)
theorem bw_1129 : Cond.instanceMethod ⟨"CountingHorsesModel", "mud", "(III)Z"⟩ ∈ BW := bw_at 1129 (by decide +kernel) (by decide +kernel)
theorem bw_1130 : Cond.selects "CountingHorsesModel" ⟨"CountingHorsesModel", "mud", "(III)Z"⟩ ⟨"CountingHorsesModel", "mud", "(III)Z"⟩ ∈ BW := bw_at 1130 (by decide +kernel) (by decide +kernel)
theorem bw_1131 : Cond.code ⟨"CountingHorsesModel", "mud", "(III)Z"⟩ prog_14_method_9_code 5 (some .boolean) ∈ BW := bw_at 1131 (by decide +kernel) (by decide +kernel)
theorem bw_1138 : Cond.methodLink "CountingHorsesLaw" 22 ⟨"CountingHorsesModel", "bridge", "(II)I"⟩ ∈ BW := bw_at 1138 (by decide +kernel) (by decide +kernel)
theorem bw_1139 : Cond.instanceMethod ⟨"CountingHorsesModel", "bridge", "(II)I"⟩ ∈ BW := bw_at 1139 (by decide +kernel) (by decide +kernel)
theorem bw_1140 : Cond.selects "CountingHorsesModel" ⟨"CountingHorsesModel", "bridge", "(II)I"⟩ ⟨"CountingHorsesModel", "bridge", "(II)I"⟩ ∈ BW := bw_at 1140 (by decide +kernel) (by decide +kernel)
theorem bw_1141 : Cond.code ⟨"CountingHorsesModel", "bridge", "(II)I"⟩ prog_14_method_10_code 3 (some .int) ∈ BW := bw_at 1141 (by decide +kernel) (by decide +kernel)
theorem bw_1142 : Cond.methodLink "CountingHorsesLaw" 27 ⟨"CountingHorsesModel", "inn", "(I)I"⟩ ∈ BW := bw_at 1142 (by decide +kernel) (by decide +kernel)
theorem bw_1143 : Cond.instanceMethod ⟨"CountingHorsesModel", "inn", "(I)I"⟩ ∈ BW := bw_at 1143 (by decide +kernel) (by decide +kernel)
theorem bw_1144 : Cond.selects "CountingHorsesModel" ⟨"CountingHorsesModel", "inn", "(I)I"⟩ ⟨"CountingHorsesModel", "inn", "(I)I"⟩ ∈ BW := bw_at 1144 (by decide +kernel) (by decide +kernel)
theorem bw_1145 : Cond.code ⟨"CountingHorsesModel", "inn", "(I)I"⟩ prog_14_method_11_code 2 (some .int) ∈ BW := bw_at 1145 (by decide +kernel) (by decide +kernel)
theorem bw_1146 : Cond.methodLink "CountingHorsesLaw" 36 ⟨"CountingHorsesModel", "horse", "(II)I"⟩ ∈ BW := bw_at 1146 (by decide +kernel) (by decide +kernel)
theorem bw_1147 : Cond.instanceMethod ⟨"CountingHorsesModel", "horse", "(II)I"⟩ ∈ BW := bw_at 1147 (by decide +kernel) (by decide +kernel)
theorem bw_1148 : Cond.selects "CountingHorsesModel" ⟨"CountingHorsesModel", "horse", "(II)I"⟩ ⟨"CountingHorsesModel", "horse", "(II)I"⟩ ∈ BW := bw_at 1148 (by decide +kernel) (by decide +kernel)
theorem bw_1149 : Cond.code ⟨"CountingHorsesModel", "horse", "(II)I"⟩ prog_14_method_12_code 3 (some .int) ∈ BW := bw_at 1149 (by decide +kernel) (by decide +kernel)
theorem bw_1150 : Cond.methodLink "CountingHorsesLaw" 40 ⟨"CountingHorsesModel", "weather", "(II)Z"⟩ ∈ BW := bw_at 1150 (by decide +kernel) (by decide +kernel)
theorem bw_1151 : Cond.instanceMethod ⟨"CountingHorsesModel", "weather", "(II)Z"⟩ ∈ BW := bw_at 1151 (by decide +kernel) (by decide +kernel)
theorem bw_1152 : Cond.selects "CountingHorsesModel" ⟨"CountingHorsesModel", "weather", "(II)Z"⟩ ⟨"CountingHorsesModel", "weather", "(II)Z"⟩ ∈ BW := bw_at 1152 (by decide +kernel) (by decide +kernel)
theorem bw_1153 : Cond.code ⟨"CountingHorsesModel", "weather", "(II)Z"⟩ prog_14_method_13_code 3 (some .boolean) ∈ BW := bw_at 1153 (by decide +kernel) (by decide +kernel)
theorem bw_1154 : Cond.methodLink "CountingHorsesLaw" 45 ⟨"CountingHorsesModel", "feed", "(IIIII)I"⟩ ∈ BW := bw_at 1154 (by decide +kernel) (by decide +kernel)
theorem bw_1155 : Cond.instanceMethod ⟨"CountingHorsesModel", "feed", "(IIIII)I"⟩ ∈ BW := bw_at 1155 (by decide +kernel) (by decide +kernel)
theorem bw_1156 : Cond.selects "CountingHorsesModel" ⟨"CountingHorsesModel", "feed", "(IIIII)I"⟩ ⟨"CountingHorsesModel", "feed", "(IIIII)I"⟩ ∈ BW := bw_at 1156 (by decide +kernel) (by decide +kernel)
theorem bw_1157 : Cond.code ⟨"CountingHorsesModel", "feed", "(IIIII)I"⟩ prog_14_method_15_code 6 (some .int) ∈ BW := bw_at 1157 (by decide +kernel) (by decide +kernel)
theorem bw_1162 : Cond.methodLink "CountingHorsesLaw" 49 ⟨"CountingHorsesModel", "end", "(I)I"⟩ ∈ BW := bw_at 1162 (by decide +kernel) (by decide +kernel)
theorem bw_1163 : Cond.instanceMethod ⟨"CountingHorsesModel", "end", "(I)I"⟩ ∈ BW := bw_at 1163 (by decide +kernel) (by decide +kernel)
theorem bw_1164 : Cond.selects "CountingHorsesModel" ⟨"CountingHorsesModel", "end", "(I)I"⟩ ⟨"CountingHorsesModel", "end", "(I)I"⟩ ∈ BW := bw_at 1164 (by decide +kernel) (by decide +kernel)
theorem bw_1165 : Cond.code ⟨"CountingHorsesModel", "end", "(I)I"⟩ prog_14_method_16_code 2 (some .int) ∈ BW := bw_at 1165 (by decide +kernel) (by decide +kernel)
theorem bw_1166 : Cond.methodLink "CountingHorsesLaw" 54 ⟨"CountingHorsesModel", "text", "()I"⟩ ∈ BW := bw_at 1166 (by decide +kernel) (by decide +kernel)
theorem bw_1167 : Cond.instanceMethod ⟨"CountingHorsesModel", "text", "()I"⟩ ∈ BW := bw_at 1167 (by decide +kernel) (by decide +kernel)
theorem bw_1168 : Cond.selects "CountingHorsesModel" ⟨"CountingHorsesModel", "text", "()I"⟩ ⟨"CountingHorsesModel", "text", "()I"⟩ ∈ BW := bw_at 1168 (by decide +kernel) (by decide +kernel)
theorem bw_1169 : Cond.code ⟨"CountingHorsesModel", "text", "()I"⟩ prog_14_method_47_code 1 (some .int) ∈ BW := bw_at 1169 (by decide +kernel) (by decide +kernel)
theorem bw_1286 : Cond.methodLink "CountingHorsesLaw" 58 ⟨"CountingHorsesModel", "fault", "(I)I"⟩ ∈ BW := bw_at 1286 (by decide +kernel) (by decide +kernel)
theorem bw_1287 : Cond.instanceMethod ⟨"CountingHorsesModel", "fault", "(I)I"⟩ ∈ BW := bw_at 1287 (by decide +kernel) (by decide +kernel)
theorem bw_1288 : Cond.selects "CountingHorsesModel" ⟨"CountingHorsesModel", "fault", "(I)I"⟩ ⟨"CountingHorsesModel", "fault", "(I)I"⟩ ∈ BW := bw_at 1288 (by decide +kernel) (by decide +kernel)
theorem bw_1289 : Cond.code ⟨"CountingHorsesModel", "fault", "(I)I"⟩ prog_14_method_48_code 2 (some .int) ∈ BW := bw_at 1289 (by decide +kernel) (by decide +kernel)
theorem bw_1290 : Cond.methodLink "CountingHorsesLaw" 63 ⟨"CountingHorsesModel", "by", "(I)Z"⟩ ∈ BW := bw_at 1290 (by decide +kernel) (by decide +kernel)
theorem bw_1291 : Cond.instanceMethod ⟨"CountingHorsesModel", "by", "(I)Z"⟩ ∈ BW := bw_at 1291 (by decide +kernel) (by decide +kernel)
theorem bw_1292 : Cond.selects "CountingHorsesModel" ⟨"CountingHorsesModel", "by", "(I)Z"⟩ ⟨"CountingHorsesModel", "by", "(I)Z"⟩ ∈ BW := bw_at 1292 (by decide +kernel) (by decide +kernel)
theorem bw_1293 : Cond.code ⟨"CountingHorsesModel", "by", "(I)Z"⟩ prog_14_method_49_code 2 (some .boolean) ∈ BW := bw_at 1293 (by decide +kernel) (by decide +kernel)
theorem bw_1294 : Cond.methodLink "CountingHorsesLaw" 72 ⟨"CountingHorsesModel", "would", "(III)I"⟩ ∈ BW := bw_at 1294 (by decide +kernel) (by decide +kernel)
theorem bw_1295 : Cond.instanceMethod ⟨"CountingHorsesModel", "would", "(III)I"⟩ ∈ BW := bw_at 1295 (by decide +kernel) (by decide +kernel)
theorem bw_1296 : Cond.selects "CountingHorsesModel" ⟨"CountingHorsesModel", "would", "(III)I"⟩ ⟨"CountingHorsesModel", "would", "(III)I"⟩ ∈ BW := bw_at 1296 (by decide +kernel) (by decide +kernel)
theorem bw_1297 : Cond.code ⟨"CountingHorsesModel", "would", "(III)I"⟩ prog_14_method_61_code 4 (some .int) ∈ BW := bw_at 1297 (by decide +kernel) (by decide +kernel)
theorem bw_1344 : Cond.methodLink "CountingHorsesLaw" 88 ⟨"CountingHorsesModel", "undo", "()I"⟩ ∈ BW := bw_at 1344 (by decide +kernel) (by decide +kernel)
theorem bw_1345 : Cond.instanceMethod ⟨"CountingHorsesModel", "undo", "()I"⟩ ∈ BW := bw_at 1345 (by decide +kernel) (by decide +kernel)
theorem bw_1346 : Cond.selects "CountingHorsesModel" ⟨"CountingHorsesModel", "undo", "()I"⟩ ⟨"CountingHorsesModel", "undo", "()I"⟩ ∈ BW := bw_at 1346 (by decide +kernel) (by decide +kernel)
theorem bw_1347 : Cond.code ⟨"CountingHorsesModel", "undo", "()I"⟩ prog_14_method_63_code 3 (some .int) ∈ BW := bw_at 1347 (by decide +kernel) (by decide +kernel)
theorem bw_1348 : Cond.methodLink "CountingHorsesLaw" 32 ⟨"CountingHorsesModel", "move", "(II)Z"⟩ ∈ BW := bw_at 1348 (by decide +kernel) (by decide +kernel)
theorem bw_1349 : Cond.instanceMethod ⟨"CountingHorsesModel", "move", "(II)Z"⟩ ∈ BW := bw_at 1349 (by decide +kernel) (by decide +kernel)
theorem bw_1350 : Cond.selects "CountingHorsesModel" ⟨"CountingHorsesModel", "move", "(II)Z"⟩ ⟨"CountingHorsesModel", "move", "(II)Z"⟩ ∈ BW := bw_at 1350 (by decide +kernel) (by decide +kernel)
theorem bw_1351 : Cond.code ⟨"CountingHorsesModel", "move", "(II)Z"⟩ prog_14_method_64_code 3 (some .boolean) ∈ BW := bw_at 1351 (by decide +kernel) (by decide +kernel)
theorem bw_1356 : Cond.methodLink "CountingHorsesLaw" 67 ⟨"CountingHorsesModel", "start", "(I)Z"⟩ ∈ BW := bw_at 1356 (by decide +kernel) (by decide +kernel)
theorem bw_1357 : Cond.instanceMethod ⟨"CountingHorsesModel", "start", "(I)Z"⟩ ∈ BW := bw_at 1357 (by decide +kernel) (by decide +kernel)
theorem bw_1358 : Cond.selects "CountingHorsesModel" ⟨"CountingHorsesModel", "start", "(I)Z"⟩ ⟨"CountingHorsesModel", "start", "(I)Z"⟩ ∈ BW := bw_at 1358 (by decide +kernel) (by decide +kernel)
theorem bw_1359 : Cond.code ⟨"CountingHorsesModel", "start", "(I)Z"⟩ prog_14_method_65_code 2 (some .boolean) ∈ BW := bw_at 1359 (by decide +kernel) (by decide +kernel)
theorem bw_1360 : Cond.methodLink "CountingHorsesLaw" 76 ⟨"CountingHorsesModel", "drive", "(I)I"⟩ ∈ BW := bw_at 1360 (by decide +kernel) (by decide +kernel)
theorem bw_1361 : Cond.instanceMethod ⟨"CountingHorsesModel", "drive", "(I)I"⟩ ∈ BW := bw_at 1361 (by decide +kernel) (by decide +kernel)
theorem bw_1362 : Cond.selects "CountingHorsesModel" ⟨"CountingHorsesModel", "drive", "(I)I"⟩ ⟨"CountingHorsesModel", "drive", "(I)I"⟩ ∈ BW := bw_at 1362 (by decide +kernel) (by decide +kernel)
theorem bw_1363 : Cond.code ⟨"CountingHorsesModel", "drive", "(I)I"⟩ prog_14_method_66_code 2 (some .int) ∈ BW := bw_at 1363 (by decide +kernel) (by decide +kernel)
theorem bw_1364 : Cond.methodLink "CountingHorsesLaw" 80 ⟨"CountingHorsesModel", "pass", "(I)I"⟩ ∈ BW := bw_at 1364 (by decide +kernel) (by decide +kernel)
theorem bw_1365 : Cond.instanceMethod ⟨"CountingHorsesModel", "pass", "(I)I"⟩ ∈ BW := bw_at 1365 (by decide +kernel) (by decide +kernel)
theorem bw_1366 : Cond.selects "CountingHorsesModel" ⟨"CountingHorsesModel", "pass", "(I)I"⟩ ⟨"CountingHorsesModel", "pass", "(I)I"⟩ ∈ BW := bw_at 1366 (by decide +kernel) (by decide +kernel)
theorem bw_1367 : Cond.code ⟨"CountingHorsesModel", "pass", "(I)I"⟩ prog_14_method_67_code 3 (some .int) ∈ BW := bw_at 1367 (by decide +kernel) (by decide +kernel)
theorem bw_1368 : Cond.methodLink "CountingHorsesLaw" 84 ⟨"CountingHorsesModel", "played", "(I)I"⟩ ∈ BW := bw_at 1368 (by decide +kernel) (by decide +kernel)
theorem bw_1369 : Cond.instanceMethod ⟨"CountingHorsesModel", "played", "(I)I"⟩ ∈ BW := bw_at 1369 (by decide +kernel) (by decide +kernel)
theorem bw_1370 : Cond.selects "CountingHorsesModel" ⟨"CountingHorsesModel", "played", "(I)I"⟩ ⟨"CountingHorsesModel", "played", "(I)I"⟩ ∈ BW := bw_at 1370 (by decide +kernel) (by decide +kernel)
theorem bw_1371 : Cond.code ⟨"CountingHorsesModel", "played", "(I)I"⟩ prog_14_method_69_code 3 (some .int) ∈ BW := bw_at 1371 (by decide +kernel) (by decide +kernel)
theorem bw_1378 : Cond.methodLink "CountingHorsesLaw" 92 ⟨"CountingHorsesModel", "coach", "(I)I"⟩ ∈ BW := bw_at 1378 (by decide +kernel) (by decide +kernel)
theorem bw_1379 : Cond.instanceMethod ⟨"CountingHorsesModel", "coach", "(I)I"⟩ ∈ BW := bw_at 1379 (by decide +kernel) (by decide +kernel)
theorem bw_1380 : Cond.selects "CountingHorsesModel" ⟨"CountingHorsesModel", "coach", "(I)I"⟩ ⟨"CountingHorsesModel", "coach", "(I)I"⟩ ∈ BW := bw_at 1380 (by decide +kernel) (by decide +kernel)
theorem bw_1381 : Cond.code ⟨"CountingHorsesModel", "coach", "(I)I"⟩ prog_14_method_71_code 2 (some .int) ∈ BW := bw_at 1381 (by decide +kernel) (by decide +kernel)
theorem bw_1386 : Cond.methodLink "CountingHorsesLaw" 96 ⟨"CountingHorsesModel", "harness", "(III)I"⟩ ∈ BW := bw_at 1386 (by decide +kernel) (by decide +kernel)
theorem bw_1387 : Cond.instanceMethod ⟨"CountingHorsesModel", "harness", "(III)I"⟩ ∈ BW := bw_at 1387 (by decide +kernel) (by decide +kernel)
theorem bw_1388 : Cond.selects "CountingHorsesModel" ⟨"CountingHorsesModel", "harness", "(III)I"⟩ ⟨"CountingHorsesModel", "harness", "(III)I"⟩ ∈ BW := bw_at 1388 (by decide +kernel) (by decide +kernel)
theorem bw_1389 : Cond.code ⟨"CountingHorsesModel", "harness", "(III)I"⟩ prog_14_method_74_code 6 (some .int) ∈ BW := bw_at 1389 (by decide +kernel) (by decide +kernel)
theorem bw_1399 : Cond.methodLink "CountingHorsesLaw" 101 ⟨"CountingHorsesModel", "least", "(IIZ)I"⟩ ∈ BW := bw_at 1399 (by decide +kernel) (by decide +kernel)
theorem bw_1400 : Cond.instanceMethod ⟨"CountingHorsesModel", "least", "(IIZ)I"⟩ ∈ BW := bw_at 1400 (by decide +kernel) (by decide +kernel)
theorem bw_1401 : Cond.selects "CountingHorsesModel" ⟨"CountingHorsesModel", "least", "(IIZ)I"⟩ ⟨"CountingHorsesModel", "least", "(IIZ)I"⟩ ∈ BW := bw_at 1401 (by decide +kernel) (by decide +kernel)
theorem bw_1402 : Cond.code ⟨"CountingHorsesModel", "least", "(IIZ)I"⟩ prog_14_method_76_code 8 (some .int) ∈ BW := bw_at 1402 (by decide +kernel) (by decide +kernel)
theorem bw_1408 : Cond.methodLink "CountingHorsesLaw" 105 ⟨"CountingHorsesModel", "thief", "(III)I"⟩ ∈ BW := bw_at 1408 (by decide +kernel) (by decide +kernel)
theorem bw_1409 : Cond.instanceMethod ⟨"CountingHorsesModel", "thief", "(III)I"⟩ ∈ BW := bw_at 1409 (by decide +kernel) (by decide +kernel)
theorem bw_1410 : Cond.selects "CountingHorsesModel" ⟨"CountingHorsesModel", "thief", "(III)I"⟩ ⟨"CountingHorsesModel", "thief", "(III)I"⟩ ∈ BW := bw_at 1410 (by decide +kernel) (by decide +kernel)
theorem bw_1411 : Cond.code ⟨"CountingHorsesModel", "thief", "(III)I"⟩ prog_14_method_78_code 6 (some .int) ∈ BW := bw_at 1411 (by decide +kernel) (by decide +kernel)
theorem bw_1423 : Cond.methodLink "CountingHorsesLaw" 109 ⟨"CountingHorsesModel", "seen", "(I)I"⟩ ∈ BW := bw_at 1423 (by decide +kernel) (by decide +kernel)
theorem bw_1424 : Cond.instanceMethod ⟨"CountingHorsesModel", "seen", "(I)I"⟩ ∈ BW := bw_at 1424 (by decide +kernel) (by decide +kernel)
theorem bw_1425 : Cond.selects "CountingHorsesModel" ⟨"CountingHorsesModel", "seen", "(I)I"⟩ ⟨"CountingHorsesModel", "seen", "(I)I"⟩ ∈ BW := bw_at 1425 (by decide +kernel) (by decide +kernel)
theorem bw_1426 : Cond.code ⟨"CountingHorsesModel", "seen", "(I)I"⟩ prog_14_method_79_code 2 (some .int) ∈ BW := bw_at 1426 (by decide +kernel) (by decide +kernel)
theorem bw_1427 : Cond.methodLink "CountingHorsesLaw" 113 ⟨"CountingHorsesModel", "who", "(II)I"⟩ ∈ BW := bw_at 1427 (by decide +kernel) (by decide +kernel)
theorem bw_1428 : Cond.instanceMethod ⟨"CountingHorsesModel", "who", "(II)I"⟩ ∈ BW := bw_at 1428 (by decide +kernel) (by decide +kernel)
theorem bw_1429 : Cond.selects "CountingHorsesModel" ⟨"CountingHorsesModel", "who", "(II)I"⟩ ⟨"CountingHorsesModel", "who", "(II)I"⟩ ∈ BW := bw_at 1429 (by decide +kernel) (by decide +kernel)
theorem bw_1430 : Cond.code ⟨"CountingHorsesModel", "who", "(II)I"⟩ prog_14_method_82_code 3 (some .int) ∈ BW := bw_at 1430 (by decide +kernel) (by decide +kernel)
theorem bw_1442 : Cond.methodLink "CountingHorsesLaw" 117 ⟨"CountingHorsesModel", "tried", "(III)I"⟩ ∈ BW := bw_at 1442 (by decide +kernel) (by decide +kernel)
theorem bw_1443 : Cond.instanceMethod ⟨"CountingHorsesModel", "tried", "(III)I"⟩ ∈ BW := bw_at 1443 (by decide +kernel) (by decide +kernel)
theorem bw_1444 : Cond.selects "CountingHorsesModel" ⟨"CountingHorsesModel", "tried", "(III)I"⟩ ⟨"CountingHorsesModel", "tried", "(III)I"⟩ ∈ BW := bw_at 1444 (by decide +kernel) (by decide +kernel)
theorem bw_1445 : Cond.code ⟨"CountingHorsesModel", "tried", "(III)I"⟩ prog_14_method_83_code 5 (some .int) ∈ BW := bw_at 1445 (by decide +kernel) (by decide +kernel)
theorem bw_1446 : Cond.methodLink "CountingHorsesLaw" 121 ⟨"CountingHorsesModel", "taught", "()I"⟩ ∈ BW := bw_at 1446 (by decide +kernel) (by decide +kernel)
theorem bw_1447 : Cond.instanceMethod ⟨"CountingHorsesModel", "taught", "()I"⟩ ∈ BW := bw_at 1447 (by decide +kernel) (by decide +kernel)
theorem bw_1448 : Cond.selects "CountingHorsesModel" ⟨"CountingHorsesModel", "taught", "()I"⟩ ⟨"CountingHorsesModel", "taught", "()I"⟩ ∈ BW := bw_at 1448 (by decide +kernel) (by decide +kernel)
theorem bw_1449 : Cond.code ⟨"CountingHorsesModel", "taught", "()I"⟩ prog_14_method_85_code 3 (some .int) ∈ BW := bw_at 1449 (by decide +kernel) (by decide +kernel)
theorem bw_1454 : Cond.methodLink "CountingHorsesLaw" 125 ⟨"CountingHorsesModel", "never", "()I"⟩ ∈ BW := bw_at 1454 (by decide +kernel) (by decide +kernel)
theorem bw_1455 : Cond.instanceMethod ⟨"CountingHorsesModel", "never", "()I"⟩ ∈ BW := bw_at 1455 (by decide +kernel) (by decide +kernel)
theorem bw_1456 : Cond.selects "CountingHorsesModel" ⟨"CountingHorsesModel", "never", "()I"⟩ ⟨"CountingHorsesModel", "never", "()I"⟩ ∈ BW := bw_at 1456 (by decide +kernel) (by decide +kernel)
theorem bw_1457 : Cond.code ⟨"CountingHorsesModel", "never", "()I"⟩ prog_14_method_86_code 6 (some .int) ∈ BW := bw_at 1457 (by decide +kernel) (by decide +kernel)
theorem bw_1458 : Cond.methodLink "CountingHorsesLaw" 129 ⟨"CountingHorsesModel", "image", "()I"⟩ ∈ BW := bw_at 1458 (by decide +kernel) (by decide +kernel)
theorem bw_1459 : Cond.instanceMethod ⟨"CountingHorsesModel", "image", "()I"⟩ ∈ BW := bw_at 1459 (by decide +kernel) (by decide +kernel)
theorem bw_1460 : Cond.selects "CountingHorsesModel" ⟨"CountingHorsesModel", "image", "()I"⟩ ⟨"CountingHorsesModel", "image", "()I"⟩ ∈ BW := bw_at 1460 (by decide +kernel) (by decide +kernel)
theorem bw_1461 : Cond.code ⟨"CountingHorsesModel", "image", "()I"⟩ prog_14_method_87_code 1 (some .int) ∈ BW := bw_at 1461 (by decide +kernel) (by decide +kernel)
theorem bw_1462 : Cond.methodLink "CountingHorsesLaw" 133 ⟨"CountingHorsesModel", "back", "()I"⟩ ∈ BW := bw_at 1462 (by decide +kernel) (by decide +kernel)
theorem bw_1463 : Cond.instanceMethod ⟨"CountingHorsesModel", "back", "()I"⟩ ∈ BW := bw_at 1463 (by decide +kernel) (by decide +kernel)
theorem bw_1464 : Cond.selects "CountingHorsesModel" ⟨"CountingHorsesModel", "back", "()I"⟩ ⟨"CountingHorsesModel", "back", "()I"⟩ ∈ BW := bw_at 1464 (by decide +kernel) (by decide +kernel)
theorem bw_1465 : Cond.code ⟨"CountingHorsesModel", "back", "()I"⟩ prog_14_method_88_code 1 (some .int) ∈ BW := bw_at 1465 (by decide +kernel) (by decide +kernel)
theorem bw_1466 : Cond.methodLink "CountingHorsesLaw" 137 ⟨"CountingHorsesModel", "about", "(I)I"⟩ ∈ BW := bw_at 1466 (by decide +kernel) (by decide +kernel)
theorem bw_1467 : Cond.instanceMethod ⟨"CountingHorsesModel", "about", "(I)I"⟩ ∈ BW := bw_at 1467 (by decide +kernel) (by decide +kernel)
theorem bw_1468 : Cond.selects "CountingHorsesModel" ⟨"CountingHorsesModel", "about", "(I)I"⟩ ⟨"CountingHorsesModel", "about", "(I)I"⟩ ∈ BW := bw_at 1468 (by decide +kernel) (by decide +kernel)
theorem bw_1469 : Cond.code ⟨"CountingHorsesModel", "about", "(I)I"⟩ prog_14_method_89_code 2 (some .int) ∈ BW := bw_at 1469 (by decide +kernel) (by decide +kernel)
set_option maxHeartbeats 4000000 in
theorem law_tail {p : Program} {l : Launch} {e : Env} {s : State} {m : MethodId} {below : List Frame} {meth : Method} {c : Code} {b : Nat} {xs : Nat → Int32} {D : va_G} {cI cM cT : ClassId} {x q : Nat} {H : Heap} {locs : List Loc} {ls : Array Slot} (Z : Zx p s m #[Value.ref b] meth c code 4 ret R_law (fun q : Nat => s.heap.size ≤ q) (ty3 cI cM cT) D) (hX : va_X b 6 xs s s.heap) (hbl : b < s.heap.size) (hS : va_S (fun q : Nat => s.heap.size ≤ q) s.heap H locs) (hl : lv_has ls 4 [(0, .ref b), (1, .ref x), (2, .ref q), (3, .int 0)]) : W p l e room_1 s m #[Value.ref b] below meth c H locs 300 23000 (lw_Z below #[Value.ref b] s) (F0 m 997 ls []) := by
  have hx := Z.1
  have hb := Z.2.1
  have hbA : ¬ (fun q : Nat => s.heap.size ≤ q) b := Nat.not_le.mpr hbl
  refine lv_iinc (v := 6) (lv' := [(3, .int 6), (0, .ref b), (1, .ref x), (2, .ref q)]) hx hb dL_law_997 hl (k := 3) rfl (by decide) (by decide) rfl (fun ls hl => ?_)
  refine lv_goto (tgt := 18) hx hb dL_law_1000 (by decide) ?_
  refine lv_iload_n hx hb dL_law_18 rfl (lv_at hl 0 rfl) ?_
  refine lv_aload_n hx hb dL_law_19 rfl (lv_at hl 1 rfl) ?_
  refine va_slen hx hb hX hbl hbA hS dL_law_20 ?_
  refine lv_bipush (v := 6) hx hb dL_law_21 (by decide) ?_
  refine lv_isub hx hb dL_law_23 ?_
  refine z_topi (y := 0) (by decide) ?_
  refine lv_icmp_gt (tgt := 1003) hx hb dL_law_24 (by decide) (fun _ => ?_) (fun h => absurd (by decide) h)
  refine lv_iconst (v := 1) hx hb dL_law_1003 (by decide) ?_
  refine va_forget (fun q hq => hS.2.2 q hq) ?_
  refine W.widen (k := 600000) (n := 7302250) (by decide) (by decide) ?_
  exact lw_ret hx hb Z.2.2.2.2.2.2.2.2.2 Z.2.2.2.2.2.2.2.2.1 dL_law_1004
set_option maxHeartbeats 4000000 in
set_option maxRecDepth 100000 in
theorem law_0 {p : Program} {l : Launch} {e : Env} {s : State} {m : MethodId} {below : List Frame} {meth : Method} {c : Code} {b : Nat} {xs : Nat → Int32} {D : va_G} {cI cM cT : ClassId} {H : Heap} {locs : List Loc} {ls : Array Slot} {x : Nat} {st : Nat} {dr : Nat} {nw : Nat} {kp : Nat} {rd : Nat} {tm : Nat} {co : Nat} {rO : Nat} {sT : Nat} {mA : Nat} {sB : Nat} {sA : Nat} {tH : Nat} {tF : Nat} {tS : Nat} {mU : Nat} {bF : Nat} {bT : Nat} {s1 : Nat} {s2 : Nat} {s3 : Nat} {q : Nat} {aA : Nat} {aI : Nat} {aT : Nat} {aP : Nat} {pI : Nat} {nM : Nat} {vA : Nat} {tR : Nat} {rW : Nat} {sP : Nat} {oA : Nat} {bS : Nat} {aS : Nat} {aO : Nat} {cS : Nat} {wY : Nat} (Z : Zx p s m #[Value.ref b] meth c code 4 ret R_law (fun q : Nat => s.heap.size ≤ q) (ty3 cI cM cT) D) (hX : va_X b 6 xs s s.heap) (hbl : b < s.heap.size) (hP : va_P D vwCl ([(x, .inr (11, [.ref st, .ref dr, .ref nw, .ref kp, .ref rd, .ref tm, .ref co])), (nw, .inr (10, [.ref rO, .ref sT, .ref mA, .ref sB, .ref sA, .ref tH, .ref tF, .ref tS, .int 0, .int 0, .int (-1), .int 0, .int 0])), (rO, .inr (3, [.ref mU, .ref bF, .ref bT, .int 0])), (mU, .inl (cI, 300, .inl (fun _ => 0))), (st, .inr (6, [.ref dr, .ref s1, .ref s2, .ref s3, .int 1])), (q, .inr (12, [.ref aA, .ref aI, .ref aT, .ref aP, .int 0, .int (-1), .int (-1), .int 0, .int 0, .int 0, .int 0, .long 0, .int 0, .int 0, .int 0, .int 0, .ref pI, .int 0, .int 0, .int 0, .int 0, .int 0, .ref nM, .ref vA, .ref tR, .int 0, .int 0, .int 0, .ref rW, .ref sP, .ref oA, .ref bS, .ref aS, .ref aO, .ref cS, .ref wY])), (aA, .inl (cI, 862, .inl af0))]) H) (hD : va_D (fun q : Nat => s.heap.size ≤ q) ([(x, .inr (11, [.ref st, .ref dr, .ref nw, .ref kp, .ref rd, .ref tm, .ref co])), (nw, .inr (10, [.ref rO, .ref sT, .ref mA, .ref sB, .ref sA, .ref tH, .ref tF, .ref tS, .int 0, .int 0, .int (-1), .int 0, .int 0])), (rO, .inr (3, [.ref mU, .ref bF, .ref bT, .int 0])), (mU, .inl (cI, 300, .inl (fun _ => 0))), (st, .inr (6, [.ref dr, .ref s1, .ref s2, .ref s3, .int 1])), (q, .inr (12, [.ref aA, .ref aI, .ref aT, .ref aP, .int 0, .int (-1), .int (-1), .int 0, .int 0, .int 0, .int 0, .long 0, .int 0, .int 0, .int 0, .int 0, .ref pI, .int 0, .int 0, .int 0, .int 0, .int 0, .ref nM, .ref vA, .ref tR, .int 0, .int 0, .int 0, .ref rW, .ref sP, .ref oA, .ref bS, .ref aS, .ref aO, .ref cS, .ref wY])), (aA, .inl (cI, 862, .inl af0))])) (hS : va_S (fun q : Nat => s.heap.size ≤ q) s.heap H locs) (hl : lv_has ls 4 [(0, .ref b), (1, .ref x), (2, .ref q), (3, .int 0)]) : W p l e room_1 s m #[Value.ref b] below meth c H locs 300 23000 (lw_Z below #[Value.ref b] s) (F0 m 164 ls []) := by
  have hx := Z.1
  have hb := Z.2.1
  have hbA : ¬ (fun q : Nat => s.heap.size ≤ q) b := Nat.not_le.mpr hbl
  skip
  refine lv_aload_n hx hb dL_law_164 rfl (lv_at hl 1 rfl) ?_
  refine lv_aload_n hx hb dL_law_165 rfl (lv_at hl 0 rfl) ?_
  refine lv_iload_n hx hb dL_law_166 rfl (lv_at hl 3 rfl) ?_
  refine lv_iconst (v := 1) hx hb dL_law_167 (by decide) ?_
  refine lv_iadd hx hb dL_law_168 ?_
  refine z_topi (y := 1) (by decide) ?_
  refine va_sld hx hb hX hbl hbA hS (vin (by decide)) dL_law_169 ?_
  refine z_topi (y := xs 1) rfl ?_
  refine lv_aload_n hx hb dL_law_170 rfl (lv_at hl 0 rfl) ?_
  refine lv_iload_n hx hb dL_law_171 rfl (lv_at hl 3 rfl) ?_
  refine lv_iconst (v := 2) hx hb dL_law_172 (by decide) ?_
  refine lv_iadd hx hb dL_law_173 ?_
  refine z_topi (y := 2) (by decide) ?_
  refine va_sld hx hb hX hbl hbA hS (vin (by decide)) dL_law_174 ?_
  refine z_topi (y := xs 2) rfl ?_
  refine lv_aload_n hx hb dL_law_175 rfl (lv_at hl 0 rfl) ?_
  refine lv_iload_n hx hb dL_law_176 rfl (lv_at hl 3 rfl) ?_
  refine lv_iconst (v := 3) hx hb dL_law_177 (by decide) ?_
  refine lv_iadd hx hb dL_law_178 ?_
  refine z_topi (y := 3) (by decide) ?_
  refine va_sld hx hb hX hbl hbA hS (vin (by decide)) dL_law_179 ?_
  refine z_topi (y := xs 3) rfl ?_
  have hPc := hP.sub2 (wc := [(x, .inr (11, [.ref st, .ref dr, .ref nw, .ref kp, .ref rd, .ref tm, .ref co])), (nw, .inr (10, [.ref rO, .ref sT, .ref mA, .ref sB, .ref sA, .ref tH, .ref tF, .ref tS, .int 0, .int 0, .int (-1), .int 0, .int 0])), (rO, .inr (3, [.ref mU, .ref bF, .ref bT, .int 0])), (mU, .inl (cI, 300, .inl (fun _ => 0))), (st, .inr (6, [.ref dr, .ref s1, .ref s2, .ref s3, .int 1]))]) [0, 1, 2, 3, 4] rfl
  have hDc := hD.sub (ws' := [(x, .inr (11, [.ref st, .ref dr, .ref nw, .ref kp, .ref rd, .ref tm, .ref co])), (nw, .inr (10, [.ref rO, .ref sT, .ref mA, .ref sB, .ref sA, .ref tH, .ref tF, .ref tS, .int 0, .int 0, .int (-1), .int 0, .int 0])), (rO, .inr (3, [.ref mU, .ref bF, .ref bT, .int 0])), (mU, .inl (cI, 300, .inl (fun _ => 0))), (st, .inr (6, [.ref dr, .ref s1, .ref s2, .ref s3, .int 1]))]) [0, 1, 2, 3, 4] (by decide) rfl
  refine raw_Vi (ci := 11) (q0 := 0) (nA := 3) (As := [.int (xs 1), .int (xs 2), .int (xs 3)]) (rest := []) Z hl.1 (c_X11_mud l D cI cM cT x st dr nw kp rd tm co rO sT mA sB sA tH tF tS mU bF bT s1 s2 s3 (xs 1) (xs 2) (xs 3)) (bw_V bw_490 bw_491 bw_492 bw_80 bw_493) ⟨by decide +kernel, by decide +kernel, by decide +kernel⟩ rfl ⟨Nat.le_of_ble_eq_true rfl, Nat.le_of_ble_eq_true rfl⟩ rfl rfl rfl hPc hDc hS rfl (Nat.le_of_ble_eq_true rfl) dL_law_180 ⟨Nat.le_of_ble_eq_true rfl, Nat.le_of_ble_eq_true rfl⟩ (fun r2 u1 H1 locs1 h3 hku1 hP1 hD1 hS1 => ?_)
  have hposth3 := h3
  obtain ⟨hP, hD⟩ := z_join (wr := [(q, .inr (12, [.ref aA, .ref aI, .ref aT, .ref aP, .int 0, .int (-1), .int (-1), .int 0, .int 0, .int 0, .int 0, .long 0, .int 0, .int 0, .int 0, .int 0, .ref pI, .int 0, .int 0, .int 0, .int 0, .int 0, .ref nM, .ref vA, .ref tR, .int 0, .int 0, .int 0, .ref rW, .ref sP, .ref oA, .ref bS, .ref aS, .ref aO, .ref cS, .ref wY])), (aA, .inl (cI, 862, .inl af0))]) Z hS hP hD [0, 1, 2, 3, 4] [5, 6] rfl (by decide) rfl (by decide) (by decide) hku1 hP1 hD1
  have hS := hS1
  clear hS1
  generalize H1 = H at hP hS ⊢
  generalize locs1 = locs at hS ⊢
  have hP := va_P_left hP
  have hD := va_D_left hD
  refine lv_aload_n hx hb dL_law_183 rfl (lv_at hl 2 rfl) ?_
  refine lv_aload_n hx hb dL_law_184 rfl (lv_at hl 0 rfl) ?_
  refine lv_iload_n hx hb dL_law_185 rfl (lv_at hl 3 rfl) ?_
  refine lv_iconst (v := 1) hx hb dL_law_186 (by decide) ?_
  refine lv_iadd hx hb dL_law_187 ?_
  refine z_topi (y := 1) (by decide) ?_
  refine va_sld hx hb hX hbl hbA hS (vin (by decide)) dL_law_188 ?_
  refine z_topi (y := xs 1) rfl ?_
  refine lv_aload_n hx hb dL_law_189 rfl (lv_at hl 0 rfl) ?_
  refine lv_iload_n hx hb dL_law_190 rfl (lv_at hl 3 rfl) ?_
  refine lv_iconst (v := 2) hx hb dL_law_191 (by decide) ?_
  refine lv_iadd hx hb dL_law_192 ?_
  refine z_topi (y := 2) (by decide) ?_
  refine va_sld hx hb hX hbl hbA hS (vin (by decide)) dL_law_193 ?_
  refine z_topi (y := xs 2) rfl ?_
  refine lv_aload_n hx hb dL_law_194 rfl (lv_at hl 0 rfl) ?_
  refine lv_iload_n hx hb dL_law_195 rfl (lv_at hl 3 rfl) ?_
  refine lv_iconst (v := 3) hx hb dL_law_196 (by decide) ?_
  refine lv_iadd hx hb dL_law_197 ?_
  refine z_topi (y := 3) (by decide) ?_
  refine va_sld hx hb hX hbl hbA hS (vin (by decide)) dL_law_198 ?_
  refine z_topi (y := xs 3) rfl ?_
  have hPc := hP.sub2 (wc := [(q, .inr (12, [.ref aA, .ref aI, .ref aT, .ref aP, .int 0, .int (-1), .int (-1), .int 0, .int 0, .int 0, .int 0, .long 0, .int 0, .int 0, .int 0, .int 0, .ref pI, .int 0, .int 0, .int 0, .int 0, .int 0, .ref nM, .ref vA, .ref tR, .int 0, .int 0, .int 0, .ref rW, .ref sP, .ref oA, .ref bS, .ref aS, .ref aO, .ref cS, .ref wY])), (aA, .inl (cI, 862, .inl af0))]) [0, 1] rfl
  have hDc := hD.sub (ws' := [(q, .inr (12, [.ref aA, .ref aI, .ref aT, .ref aP, .int 0, .int (-1), .int (-1), .int 0, .int 0, .int 0, .int 0, .long 0, .int 0, .int 0, .int 0, .int 0, .ref pI, .int 0, .int 0, .int 0, .int 0, .int 0, .ref nM, .ref vA, .ref tR, .int 0, .int 0, .int 0, .ref rW, .ref sP, .ref oA, .ref bS, .ref aS, .ref aO, .ref cS, .ref wY])), (aA, .inl (cI, 862, .inl af0))]) [0, 1] (by decide) rfl
  refine raw_Vi (ci := 12) (q0 := 0) (nA := 3) (As := [.int (xs 1), .int (xs 2), .int (xs 3)]) (rest := [.int r2]) Z hl.1 (c_X12_mud l D cI cM cT q aA aI aT aP pI nM vA tR rW sP oA bS aS aO cS wY (xs 1) (xs 2) (xs 3)) (bw_V bw_1128 bw_1129 bw_1130 bw_92 bw_1131) ⟨by decide +kernel, by decide +kernel, by decide +kernel⟩ rfl ⟨Nat.le_of_ble_eq_true rfl, Nat.le_of_ble_eq_true rfl⟩ rfl rfl rfl hPc hDc hS rfl (Nat.le_of_ble_eq_true rfl) dL_law_199 ⟨Nat.le_of_ble_eq_true rfl, Nat.le_of_ble_eq_true rfl⟩ (fun r5 u4 H1 locs1 h6 hku4 hP1 hD1 hS1 => ?_)
  have hposth6 := h6
  obtain ⟨hP, hD⟩ := z_join (wr := []) Z hS hP hD [0, 1] [] rfl (by decide) rfl (by decide) (by decide) hku4 hP1 hD1
  have hS := hS1
  clear hS1
  generalize H1 = H at hP hS ⊢
  generalize locs1 = locs at hS ⊢
  have hP := va_P_left hP
  have hD := va_D_left hD
  refine lv_icmp_eq (tgt := 997) hx hb dL_law_202 (by decide) (fun c7 => ?_) (fun h => absurd (hposth3.trans hposth6.symm) h)
  exact law_tail Z hX hbl hS (lv_sub hl [0, 1, 2, 3] rfl)
set_option maxHeartbeats 4000000 in
set_option maxRecDepth 100000 in
theorem law_1 {p : Program} {l : Launch} {e : Env} {s : State} {m : MethodId} {below : List Frame} {meth : Method} {c : Code} {b : Nat} {xs : Nat → Int32} {D : va_G} {cI cM cT : ClassId} {H : Heap} {locs : List Loc} {ls : Array Slot} {x : Nat} {st : Nat} {dr : Nat} {nw : Nat} {kp : Nat} {rd : Nat} {tm : Nat} {co : Nat} {rO : Nat} {sT : Nat} {mA : Nat} {sB : Nat} {sA : Nat} {tH : Nat} {tF : Nat} {tS : Nat} {mU : Nat} {bF : Nat} {bT : Nat} {s1 : Nat} {s2 : Nat} {s3 : Nat} {q : Nat} {aA : Nat} {aI : Nat} {aT : Nat} {aP : Nat} {pI : Nat} {nM : Nat} {vA : Nat} {tR : Nat} {rW : Nat} {sP : Nat} {oA : Nat} {bS : Nat} {aS : Nat} {aO : Nat} {cS : Nat} {wY : Nat} (Z : Zx p s m #[Value.ref b] meth c code 4 ret R_law (fun q : Nat => s.heap.size ≤ q) (ty3 cI cM cT) D) (hX : va_X b 6 xs s s.heap) (hbl : b < s.heap.size) (hP : va_P D vwCl ([(x, .inr (11, [.ref st, .ref dr, .ref nw, .ref kp, .ref rd, .ref tm, .ref co])), (nw, .inr (10, [.ref rO, .ref sT, .ref mA, .ref sB, .ref sA, .ref tH, .ref tF, .ref tS, .int 0, .int 0, .int (-1), .int 0, .int 0])), (rO, .inr (3, [.ref mU, .ref bF, .ref bT, .int 0])), (bF, .inl (cI, 4, .inl (fun _ => 0))), (bT, .inl (cI, 4, .inl (fun _ => 0))), (st, .inr (6, [.ref dr, .ref s1, .ref s2, .ref s3, .int 1])), (q, .inr (12, [.ref aA, .ref aI, .ref aT, .ref aP, .int 0, .int (-1), .int (-1), .int 0, .int 0, .int 0, .int 0, .long 0, .int 0, .int 0, .int 0, .int 0, .ref pI, .int 0, .int 0, .int 0, .int 0, .int 0, .ref nM, .ref vA, .ref tR, .int 0, .int 0, .int 0, .ref rW, .ref sP, .ref oA, .ref bS, .ref aS, .ref aO, .ref cS, .ref wY])), (aA, .inl (cI, 862, .inl af0))]) H) (hD : va_D (fun q : Nat => s.heap.size ≤ q) ([(x, .inr (11, [.ref st, .ref dr, .ref nw, .ref kp, .ref rd, .ref tm, .ref co])), (nw, .inr (10, [.ref rO, .ref sT, .ref mA, .ref sB, .ref sA, .ref tH, .ref tF, .ref tS, .int 0, .int 0, .int (-1), .int 0, .int 0])), (rO, .inr (3, [.ref mU, .ref bF, .ref bT, .int 0])), (bF, .inl (cI, 4, .inl (fun _ => 0))), (bT, .inl (cI, 4, .inl (fun _ => 0))), (st, .inr (6, [.ref dr, .ref s1, .ref s2, .ref s3, .int 1])), (q, .inr (12, [.ref aA, .ref aI, .ref aT, .ref aP, .int 0, .int (-1), .int (-1), .int 0, .int 0, .int 0, .int 0, .long 0, .int 0, .int 0, .int 0, .int 0, .ref pI, .int 0, .int 0, .int 0, .int 0, .int 0, .ref nM, .ref vA, .ref tR, .int 0, .int 0, .int 0, .ref rW, .ref sP, .ref oA, .ref bS, .ref aS, .ref aO, .ref cS, .ref wY])), (aA, .inl (cI, 862, .inl af0))])) (hS : va_S (fun q : Nat => s.heap.size ≤ q) s.heap H locs) (hl : lv_has ls 4 [(0, .ref b), (1, .ref x), (2, .ref q), (3, .int 0)]) : W p l e room_1 s m #[Value.ref b] below meth c H locs 300 23000 (lw_Z below #[Value.ref b] s) (F0 m 207 ls []) := by
  have hx := Z.1
  have hb := Z.2.1
  have hbA : ¬ (fun q : Nat => s.heap.size ≤ q) b := Nat.not_le.mpr hbl
  skip
  refine lv_aload_n hx hb dL_law_207 rfl (lv_at hl 1 rfl) ?_
  refine lv_aload_n hx hb dL_law_208 rfl (lv_at hl 0 rfl) ?_
  refine lv_iload_n hx hb dL_law_209 rfl (lv_at hl 3 rfl) ?_
  refine lv_iconst (v := 1) hx hb dL_law_210 (by decide) ?_
  refine lv_iadd hx hb dL_law_211 ?_
  refine z_topi (y := 1) (by decide) ?_
  refine va_sld hx hb hX hbl hbA hS (vin (by decide)) dL_law_212 ?_
  refine z_topi (y := xs 1) rfl ?_
  refine lv_aload_n hx hb dL_law_213 rfl (lv_at hl 0 rfl) ?_
  refine lv_iload_n hx hb dL_law_214 rfl (lv_at hl 3 rfl) ?_
  refine lv_iconst (v := 2) hx hb dL_law_215 (by decide) ?_
  refine lv_iadd hx hb dL_law_216 ?_
  refine z_topi (y := 2) (by decide) ?_
  refine va_sld hx hb hX hbl hbA hS (vin (by decide)) dL_law_217 ?_
  refine z_topi (y := xs 2) rfl ?_
  have hPc := hP.sub2 (wc := [(x, .inr (11, [.ref st, .ref dr, .ref nw, .ref kp, .ref rd, .ref tm, .ref co])), (nw, .inr (10, [.ref rO, .ref sT, .ref mA, .ref sB, .ref sA, .ref tH, .ref tF, .ref tS, .int 0, .int 0, .int (-1), .int 0, .int 0])), (rO, .inr (3, [.ref mU, .ref bF, .ref bT, .int 0])), (bF, .inl (cI, 4, .inl (fun _ => 0))), (bT, .inl (cI, 4, .inl (fun _ => 0))), (st, .inr (6, [.ref dr, .ref s1, .ref s2, .ref s3, .int 1]))]) [0, 1, 2, 3, 4, 5] rfl
  have hDc := hD.sub (ws' := [(x, .inr (11, [.ref st, .ref dr, .ref nw, .ref kp, .ref rd, .ref tm, .ref co])), (nw, .inr (10, [.ref rO, .ref sT, .ref mA, .ref sB, .ref sA, .ref tH, .ref tF, .ref tS, .int 0, .int 0, .int (-1), .int 0, .int 0])), (rO, .inr (3, [.ref mU, .ref bF, .ref bT, .int 0])), (bF, .inl (cI, 4, .inl (fun _ => 0))), (bT, .inl (cI, 4, .inl (fun _ => 0))), (st, .inr (6, [.ref dr, .ref s1, .ref s2, .ref s3, .int 1]))]) [0, 1, 2, 3, 4, 5] (by decide) rfl
  refine raw_Vi (ci := 11) (q0 := 0) (nA := 2) (As := [.int (xs 1), .int (xs 2)]) (rest := []) Z hl.1 (c_X11_bridge l D cI cM cT x st dr nw kp rd tm co rO sT mA sB sA tH tF tS mU bF bT s1 s2 s3 (xs 1) (xs 2)) (bw_V bw_504 bw_505 bw_506 bw_80 bw_507) ⟨by decide +kernel, by decide +kernel, by decide +kernel⟩ rfl ⟨Nat.le_of_ble_eq_true rfl, Nat.le_of_ble_eq_true rfl⟩ rfl rfl rfl hPc hDc hS rfl (Nat.le_of_ble_eq_true rfl) dL_law_218 ⟨Nat.le_of_ble_eq_true rfl, Nat.le_of_ble_eq_true rfl⟩ (fun r2 u1 H1 locs1 h3 hku1 hP1 hD1 hS1 => ?_)
  have hposth3 := h3
  obtain ⟨hP, hD⟩ := z_join (wr := [(q, .inr (12, [.ref aA, .ref aI, .ref aT, .ref aP, .int 0, .int (-1), .int (-1), .int 0, .int 0, .int 0, .int 0, .long 0, .int 0, .int 0, .int 0, .int 0, .ref pI, .int 0, .int 0, .int 0, .int 0, .int 0, .ref nM, .ref vA, .ref tR, .int 0, .int 0, .int 0, .ref rW, .ref sP, .ref oA, .ref bS, .ref aS, .ref aO, .ref cS, .ref wY])), (aA, .inl (cI, 862, .inl af0))]) Z hS hP hD [0, 1, 2, 3, 4, 5] [6, 7] rfl (by decide) rfl (by decide) (by decide) hku1 hP1 hD1
  have hS := hS1
  clear hS1
  generalize H1 = H at hP hS ⊢
  generalize locs1 = locs at hS ⊢
  have hP := va_P_left hP
  have hD := va_D_left hD
  refine lv_aload_n hx hb dL_law_221 rfl (lv_at hl 2 rfl) ?_
  refine lv_aload_n hx hb dL_law_222 rfl (lv_at hl 0 rfl) ?_
  refine lv_iload_n hx hb dL_law_223 rfl (lv_at hl 3 rfl) ?_
  refine lv_iconst (v := 1) hx hb dL_law_224 (by decide) ?_
  refine lv_iadd hx hb dL_law_225 ?_
  refine z_topi (y := 1) (by decide) ?_
  refine va_sld hx hb hX hbl hbA hS (vin (by decide)) dL_law_226 ?_
  refine z_topi (y := xs 1) rfl ?_
  refine lv_aload_n hx hb dL_law_227 rfl (lv_at hl 0 rfl) ?_
  refine lv_iload_n hx hb dL_law_228 rfl (lv_at hl 3 rfl) ?_
  refine lv_iconst (v := 2) hx hb dL_law_229 (by decide) ?_
  refine lv_iadd hx hb dL_law_230 ?_
  refine z_topi (y := 2) (by decide) ?_
  refine va_sld hx hb hX hbl hbA hS (vin (by decide)) dL_law_231 ?_
  refine z_topi (y := xs 2) rfl ?_
  have hPc := hP.sub2 (wc := [(q, .inr (12, [.ref aA, .ref aI, .ref aT, .ref aP, .int 0, .int (-1), .int (-1), .int 0, .int 0, .int 0, .int 0, .long 0, .int 0, .int 0, .int 0, .int 0, .ref pI, .int 0, .int 0, .int 0, .int 0, .int 0, .ref nM, .ref vA, .ref tR, .int 0, .int 0, .int 0, .ref rW, .ref sP, .ref oA, .ref bS, .ref aS, .ref aO, .ref cS, .ref wY])), (aA, .inl (cI, 862, .inl af0))]) [0, 1] rfl
  have hDc := hD.sub (ws' := [(q, .inr (12, [.ref aA, .ref aI, .ref aT, .ref aP, .int 0, .int (-1), .int (-1), .int 0, .int 0, .int 0, .int 0, .long 0, .int 0, .int 0, .int 0, .int 0, .ref pI, .int 0, .int 0, .int 0, .int 0, .int 0, .ref nM, .ref vA, .ref tR, .int 0, .int 0, .int 0, .ref rW, .ref sP, .ref oA, .ref bS, .ref aS, .ref aO, .ref cS, .ref wY])), (aA, .inl (cI, 862, .inl af0))]) [0, 1] (by decide) rfl
  refine raw_Vi (ci := 12) (q0 := 0) (nA := 2) (As := [.int (xs 1), .int (xs 2)]) (rest := [.int r2]) Z hl.1 (c_X12_bridge l D cI cM cT q aA aI aT aP pI nM vA tR rW sP oA bS aS aO cS wY (xs 1) (xs 2)) (bw_V bw_1138 bw_1139 bw_1140 bw_92 bw_1141) ⟨by decide +kernel, by decide +kernel, by decide +kernel⟩ rfl ⟨Nat.le_of_ble_eq_true rfl, Nat.le_of_ble_eq_true rfl⟩ rfl rfl rfl hPc hDc hS rfl (Nat.le_of_ble_eq_true rfl) dL_law_232 ⟨Nat.le_of_ble_eq_true rfl, Nat.le_of_ble_eq_true rfl⟩ (fun r5 u4 H1 locs1 h6 hku4 hP1 hD1 hS1 => ?_)
  have hposth6 := h6
  obtain ⟨hP, hD⟩ := z_join (wr := []) Z hS hP hD [0, 1] [] rfl (by decide) rfl (by decide) (by decide) hku4 hP1 hD1
  have hS := hS1
  clear hS1
  generalize H1 = H at hP hS ⊢
  generalize locs1 = locs at hS ⊢
  have hP := va_P_left hP
  have hD := va_D_left hD
  refine lv_icmp_eq (tgt := 997) hx hb dL_law_235 (by decide) (fun c7 => ?_) (fun h => absurd (hposth3.trans hposth6.symm) h)
  exact law_tail Z hX hbl hS (lv_sub hl [0, 1, 2, 3] rfl)
set_option maxHeartbeats 4000000 in
set_option maxRecDepth 100000 in
theorem law_2 {p : Program} {l : Launch} {e : Env} {s : State} {m : MethodId} {below : List Frame} {meth : Method} {c : Code} {b : Nat} {xs : Nat → Int32} {D : va_G} {cI cM cT : ClassId} {H : Heap} {locs : List Loc} {ls : Array Slot} {x : Nat} {st : Nat} {dr : Nat} {nw : Nat} {kp : Nat} {rd : Nat} {tm : Nat} {co : Nat} {rO : Nat} {sT : Nat} {mA : Nat} {sB : Nat} {sA : Nat} {tH : Nat} {tF : Nat} {tS : Nat} {iA : Nat} {q : Nat} {aA : Nat} {aI : Nat} {aT : Nat} {aP : Nat} {pI : Nat} {nM : Nat} {vA : Nat} {tR : Nat} {rW : Nat} {sP : Nat} {oA : Nat} {bS : Nat} {aS : Nat} {aO : Nat} {cS : Nat} {wY : Nat} (Z : Zx p s m #[Value.ref b] meth c code 4 ret R_law (fun q : Nat => s.heap.size ≤ q) (ty3 cI cM cT) D) (hX : va_X b 6 xs s s.heap) (hbl : b < s.heap.size) (hP : va_P D vwCl ([(x, .inr (11, [.ref st, .ref dr, .ref nw, .ref kp, .ref rd, .ref tm, .ref co])), (nw, .inr (10, [.ref rO, .ref sT, .ref mA, .ref sB, .ref sA, .ref tH, .ref tF, .ref tS, .int 0, .int 0, .int (-1), .int 0, .int 0])), (mA, .inr (1, [.ref iA, .int 0, .int 0, .int 0, .int 0, .int 0, .int 13])), (iA, .inl (cI, 10, .inl (fun _ => 0))), (q, .inr (12, [.ref aA, .ref aI, .ref aT, .ref aP, .int 0, .int (-1), .int (-1), .int 0, .int 0, .int 0, .int 0, .long 0, .int 0, .int 0, .int 0, .int 0, .ref pI, .int 0, .int 0, .int 0, .int 0, .int 0, .ref nM, .ref vA, .ref tR, .int 0, .int 0, .int 0, .ref rW, .ref sP, .ref oA, .ref bS, .ref aS, .ref aO, .ref cS, .ref wY])), (aA, .inl (cI, 862, .inl af0))]) H) (hD : va_D (fun q : Nat => s.heap.size ≤ q) ([(x, .inr (11, [.ref st, .ref dr, .ref nw, .ref kp, .ref rd, .ref tm, .ref co])), (nw, .inr (10, [.ref rO, .ref sT, .ref mA, .ref sB, .ref sA, .ref tH, .ref tF, .ref tS, .int 0, .int 0, .int (-1), .int 0, .int 0])), (mA, .inr (1, [.ref iA, .int 0, .int 0, .int 0, .int 0, .int 0, .int 13])), (iA, .inl (cI, 10, .inl (fun _ => 0))), (q, .inr (12, [.ref aA, .ref aI, .ref aT, .ref aP, .int 0, .int (-1), .int (-1), .int 0, .int 0, .int 0, .int 0, .long 0, .int 0, .int 0, .int 0, .int 0, .ref pI, .int 0, .int 0, .int 0, .int 0, .int 0, .ref nM, .ref vA, .ref tR, .int 0, .int 0, .int 0, .ref rW, .ref sP, .ref oA, .ref bS, .ref aS, .ref aO, .ref cS, .ref wY])), (aA, .inl (cI, 862, .inl af0))])) (hS : va_S (fun q : Nat => s.heap.size ≤ q) s.heap H locs) (hl : lv_has ls 4 [(0, .ref b), (1, .ref x), (2, .ref q), (3, .int 0)]) : W p l e room_1 s m #[Value.ref b] below meth c H locs 300 23000 (lw_Z below #[Value.ref b] s) (F0 m 240 ls []) := by
  have hx := Z.1
  have hb := Z.2.1
  have hbA : ¬ (fun q : Nat => s.heap.size ≤ q) b := Nat.not_le.mpr hbl
  skip
  refine lv_aload_n hx hb dL_law_240 rfl (lv_at hl 1 rfl) ?_
  refine lv_aload_n hx hb dL_law_241 rfl (lv_at hl 0 rfl) ?_
  refine lv_iload_n hx hb dL_law_242 rfl (lv_at hl 3 rfl) ?_
  refine lv_iconst (v := 1) hx hb dL_law_243 (by decide) ?_
  refine lv_iadd hx hb dL_law_244 ?_
  refine z_topi (y := 1) (by decide) ?_
  refine va_sld hx hb hX hbl hbA hS (vin (by decide)) dL_law_245 ?_
  refine z_topi (y := xs 1) rfl ?_
  have hPc := hP.sub2 (wc := [(x, .inr (11, [.ref st, .ref dr, .ref nw, .ref kp, .ref rd, .ref tm, .ref co])), (nw, .inr (10, [.ref rO, .ref sT, .ref mA, .ref sB, .ref sA, .ref tH, .ref tF, .ref tS, .int 0, .int 0, .int (-1), .int 0, .int 0])), (mA, .inr (1, [.ref iA, .int 0, .int 0, .int 0, .int 0, .int 0, .int 13])), (iA, .inl (cI, 10, .inl (fun _ => 0)))]) [0, 1, 2, 3] rfl
  have hDc := hD.sub (ws' := [(x, .inr (11, [.ref st, .ref dr, .ref nw, .ref kp, .ref rd, .ref tm, .ref co])), (nw, .inr (10, [.ref rO, .ref sT, .ref mA, .ref sB, .ref sA, .ref tH, .ref tF, .ref tS, .int 0, .int 0, .int (-1), .int 0, .int 0])), (mA, .inr (1, [.ref iA, .int 0, .int 0, .int 0, .int 0, .int 0, .int 13])), (iA, .inl (cI, 10, .inl (fun _ => 0)))]) [0, 1, 2, 3] (by decide) rfl
  refine raw_Vi (ci := 11) (q0 := 0) (nA := 1) (As := [.int (xs 1)]) (rest := []) Z hl.1 (c_X11_inn l D cI cM cT x st dr nw kp rd tm co rO sT mA sB sA tH tF tS iA (xs 1)) (bw_V bw_508 bw_509 bw_510 bw_80 bw_511) ⟨by decide +kernel, by decide +kernel, by decide +kernel⟩ rfl ⟨Nat.le_of_ble_eq_true rfl, Nat.le_of_ble_eq_true rfl⟩ rfl rfl rfl hPc hDc hS rfl (Nat.le_of_ble_eq_true rfl) dL_law_246 ⟨Nat.le_of_ble_eq_true rfl, Nat.le_of_ble_eq_true rfl⟩ (fun r2 u1 H1 locs1 h3 hku1 hP1 hD1 hS1 => ?_)
  have hposth3 := h3
  obtain ⟨hP, hD⟩ := z_join (wr := [(q, .inr (12, [.ref aA, .ref aI, .ref aT, .ref aP, .int 0, .int (-1), .int (-1), .int 0, .int 0, .int 0, .int 0, .long 0, .int 0, .int 0, .int 0, .int 0, .ref pI, .int 0, .int 0, .int 0, .int 0, .int 0, .ref nM, .ref vA, .ref tR, .int 0, .int 0, .int 0, .ref rW, .ref sP, .ref oA, .ref bS, .ref aS, .ref aO, .ref cS, .ref wY])), (aA, .inl (cI, 862, .inl af0))]) Z hS hP hD [0, 1, 2, 3] [4, 5] rfl (by decide) rfl (by decide) (by decide) hku1 hP1 hD1
  have hS := hS1
  clear hS1
  generalize H1 = H at hP hS ⊢
  generalize locs1 = locs at hS ⊢
  have hP := va_P_left hP
  have hD := va_D_left hD
  refine lv_aload_n hx hb dL_law_249 rfl (lv_at hl 2 rfl) ?_
  refine lv_aload_n hx hb dL_law_250 rfl (lv_at hl 0 rfl) ?_
  refine lv_iload_n hx hb dL_law_251 rfl (lv_at hl 3 rfl) ?_
  refine lv_iconst (v := 1) hx hb dL_law_252 (by decide) ?_
  refine lv_iadd hx hb dL_law_253 ?_
  refine z_topi (y := 1) (by decide) ?_
  refine va_sld hx hb hX hbl hbA hS (vin (by decide)) dL_law_254 ?_
  refine z_topi (y := xs 1) rfl ?_
  have hPc := hP.sub2 (wc := [(q, .inr (12, [.ref aA, .ref aI, .ref aT, .ref aP, .int 0, .int (-1), .int (-1), .int 0, .int 0, .int 0, .int 0, .long 0, .int 0, .int 0, .int 0, .int 0, .ref pI, .int 0, .int 0, .int 0, .int 0, .int 0, .ref nM, .ref vA, .ref tR, .int 0, .int 0, .int 0, .ref rW, .ref sP, .ref oA, .ref bS, .ref aS, .ref aO, .ref cS, .ref wY])), (aA, .inl (cI, 862, .inl af0))]) [0, 1] rfl
  have hDc := hD.sub (ws' := [(q, .inr (12, [.ref aA, .ref aI, .ref aT, .ref aP, .int 0, .int (-1), .int (-1), .int 0, .int 0, .int 0, .int 0, .long 0, .int 0, .int 0, .int 0, .int 0, .ref pI, .int 0, .int 0, .int 0, .int 0, .int 0, .ref nM, .ref vA, .ref tR, .int 0, .int 0, .int 0, .ref rW, .ref sP, .ref oA, .ref bS, .ref aS, .ref aO, .ref cS, .ref wY])), (aA, .inl (cI, 862, .inl af0))]) [0, 1] (by decide) rfl
  refine raw_Vi (ci := 12) (q0 := 0) (nA := 1) (As := [.int (xs 1)]) (rest := [.int r2]) Z hl.1 (c_X12_inn l D cI cM cT q aA aI aT aP pI nM vA tR rW sP oA bS aS aO cS wY (xs 1)) (bw_V bw_1142 bw_1143 bw_1144 bw_92 bw_1145) ⟨by decide +kernel, by decide +kernel, by decide +kernel⟩ rfl ⟨Nat.le_of_ble_eq_true rfl, Nat.le_of_ble_eq_true rfl⟩ rfl rfl rfl hPc hDc hS rfl (Nat.le_of_ble_eq_true rfl) dL_law_255 ⟨Nat.le_of_ble_eq_true rfl, Nat.le_of_ble_eq_true rfl⟩ (fun r5 u4 H1 locs1 h6 hku4 hP1 hD1 hS1 => ?_)
  have hposth6 := h6
  obtain ⟨hP, hD⟩ := z_join (wr := []) Z hS hP hD [0, 1] [] rfl (by decide) rfl (by decide) (by decide) hku4 hP1 hD1
  have hS := hS1
  clear hS1
  generalize H1 = H at hP hS ⊢
  generalize locs1 = locs at hS ⊢
  have hP := va_P_left hP
  have hD := va_D_left hD
  refine lv_icmp_eq (tgt := 997) hx hb dL_law_258 (by decide) (fun c7 => ?_) (fun h => absurd (hposth3.trans hposth6.symm) h)
  exact law_tail Z hX hbl hS (lv_sub hl [0, 1, 2, 3] rfl)
set_option maxHeartbeats 4000000 in
set_option maxRecDepth 100000 in
theorem law_3 {p : Program} {l : Launch} {e : Env} {s : State} {m : MethodId} {below : List Frame} {meth : Method} {c : Code} {b : Nat} {xs : Nat → Int32} {D : va_G} {cI cM cT : ClassId} {H : Heap} {locs : List Loc} {ls : Array Slot} {x : Nat} {st : Nat} {dr : Nat} {nw : Nat} {kp : Nat} {rd : Nat} {tm : Nat} {co : Nat} {rO : Nat} {sT : Nat} {mA : Nat} {sB : Nat} {sA : Nat} {tH : Nat} {tF : Nat} {tS : Nat} {iA : Nat} {q : Nat} {aA : Nat} {aI : Nat} {aT : Nat} {aP : Nat} {pI : Nat} {nM : Nat} {vA : Nat} {tR : Nat} {rW : Nat} {sP : Nat} {oA : Nat} {bS : Nat} {aS : Nat} {aO : Nat} {cS : Nat} {wY : Nat} (Z : Zx p s m #[Value.ref b] meth c code 4 ret R_law (fun q : Nat => s.heap.size ≤ q) (ty3 cI cM cT) D) (hX : va_X b 6 xs s s.heap) (hbl : b < s.heap.size) (hP : va_P D vwCl ([(x, .inr (11, [.ref st, .ref dr, .ref nw, .ref kp, .ref rd, .ref tm, .ref co])), (nw, .inr (10, [.ref rO, .ref sT, .ref mA, .ref sB, .ref sA, .ref tH, .ref tF, .ref tS, .int 0, .int 0, .int (-1), .int 0, .int 0])), (mA, .inr (1, [.ref iA, .int 0, .int 0, .int 0, .int 0, .int 0, .int 13])), (q, .inr (12, [.ref aA, .ref aI, .ref aT, .ref aP, .int 0, .int (-1), .int (-1), .int 0, .int 0, .int 0, .int 0, .long 0, .int 0, .int 0, .int 0, .int 0, .ref pI, .int 0, .int 0, .int 0, .int 0, .int 0, .ref nM, .ref vA, .ref tR, .int 0, .int 0, .int 0, .ref rW, .ref sP, .ref oA, .ref bS, .ref aS, .ref aO, .ref cS, .ref wY])), (aA, .inl (cI, 862, .inl af0))]) H) (hD : va_D (fun q : Nat => s.heap.size ≤ q) ([(x, .inr (11, [.ref st, .ref dr, .ref nw, .ref kp, .ref rd, .ref tm, .ref co])), (nw, .inr (10, [.ref rO, .ref sT, .ref mA, .ref sB, .ref sA, .ref tH, .ref tF, .ref tS, .int 0, .int 0, .int (-1), .int 0, .int 0])), (mA, .inr (1, [.ref iA, .int 0, .int 0, .int 0, .int 0, .int 0, .int 13])), (q, .inr (12, [.ref aA, .ref aI, .ref aT, .ref aP, .int 0, .int (-1), .int (-1), .int 0, .int 0, .int 0, .int 0, .long 0, .int 0, .int 0, .int 0, .int 0, .ref pI, .int 0, .int 0, .int 0, .int 0, .int 0, .ref nM, .ref vA, .ref tR, .int 0, .int 0, .int 0, .ref rW, .ref sP, .ref oA, .ref bS, .ref aS, .ref aO, .ref cS, .ref wY])), (aA, .inl (cI, 862, .inl af0))])) (hS : va_S (fun q : Nat => s.heap.size ≤ q) s.heap H locs) (hl : lv_has ls 4 [(0, .ref b), (1, .ref x), (2, .ref q), (3, .int 0)]) : W p l e room_1 s m #[Value.ref b] below meth c H locs 300 23000 (lw_Z below #[Value.ref b] s) (F0 m 263 ls []) := by
  have hx := Z.1
  have hb := Z.2.1
  have hbA : ¬ (fun q : Nat => s.heap.size ≤ q) b := Nat.not_le.mpr hbl
  skip
  refine lv_aload_n hx hb dL_law_263 rfl (lv_at hl 1 rfl) ?_
  refine lv_aload_n hx hb dL_law_264 rfl (lv_at hl 0 rfl) ?_
  refine lv_iload_n hx hb dL_law_265 rfl (lv_at hl 3 rfl) ?_
  refine lv_iconst (v := 1) hx hb dL_law_266 (by decide) ?_
  refine lv_iadd hx hb dL_law_267 ?_
  refine z_topi (y := 1) (by decide) ?_
  refine va_sld hx hb hX hbl hbA hS (vin (by decide)) dL_law_268 ?_
  refine z_topi (y := xs 1) rfl ?_
  refine lv_aload_n hx hb dL_law_269 rfl (lv_at hl 0 rfl) ?_
  refine lv_iload_n hx hb dL_law_270 rfl (lv_at hl 3 rfl) ?_
  refine lv_iconst (v := 2) hx hb dL_law_271 (by decide) ?_
  refine lv_iadd hx hb dL_law_272 ?_
  refine z_topi (y := 2) (by decide) ?_
  refine va_sld hx hb hX hbl hbA hS (vin (by decide)) dL_law_273 ?_
  refine z_topi (y := xs 2) rfl ?_
  have hPc := hP.sub2 (wc := [(x, .inr (11, [.ref st, .ref dr, .ref nw, .ref kp, .ref rd, .ref tm, .ref co])), (nw, .inr (10, [.ref rO, .ref sT, .ref mA, .ref sB, .ref sA, .ref tH, .ref tF, .ref tS, .int 0, .int 0, .int (-1), .int 0, .int 0])), (mA, .inr (1, [.ref iA, .int 0, .int 0, .int 0, .int 0, .int 0, .int 13]))]) [0, 1, 2] rfl
  have hDc := hD.sub (ws' := [(x, .inr (11, [.ref st, .ref dr, .ref nw, .ref kp, .ref rd, .ref tm, .ref co])), (nw, .inr (10, [.ref rO, .ref sT, .ref mA, .ref sB, .ref sA, .ref tH, .ref tF, .ref tS, .int 0, .int 0, .int (-1), .int 0, .int 0])), (mA, .inr (1, [.ref iA, .int 0, .int 0, .int 0, .int 0, .int 0, .int 13]))]) [0, 1, 2] (by decide) rfl
  refine raw_Vi (ci := 11) (q0 := 0) (nA := 2) (As := [.int (xs 1), .int (xs 2)]) (rest := []) Z hl.1 (c_X11_move l D cI cM cT x st dr nw kp rd tm co rO sT mA sB sA tH tF tS iA (xs 1) (xs 2)) (bw_V bw_512 bw_513 bw_514 bw_80 bw_515) ⟨by decide +kernel, by decide +kernel, by decide +kernel⟩ rfl ⟨Nat.le_of_ble_eq_true rfl, Nat.le_of_ble_eq_true rfl⟩ rfl rfl rfl hPc hDc hS rfl (Nat.le_of_ble_eq_true rfl) dL_law_274 ⟨Nat.le_of_ble_eq_true rfl, Nat.le_of_ble_eq_true rfl⟩ (fun r2 u1 H1 locs1 h3 hku1 hP1 hD1 hS1 => ?_)
  have hposth3 := h3
  obtain ⟨hP, hD⟩ := z_join (wr := [(q, .inr (12, [.ref aA, .ref aI, .ref aT, .ref aP, .int 0, .int (-1), .int (-1), .int 0, .int 0, .int 0, .int 0, .long 0, .int 0, .int 0, .int 0, .int 0, .ref pI, .int 0, .int 0, .int 0, .int 0, .int 0, .ref nM, .ref vA, .ref tR, .int 0, .int 0, .int 0, .ref rW, .ref sP, .ref oA, .ref bS, .ref aS, .ref aO, .ref cS, .ref wY])), (aA, .inl (cI, 862, .inl af0))]) Z hS hP hD [0, 1, 2] [3, 4] rfl (by decide) rfl (by decide) (by decide) hku1 hP1 hD1
  have hS := hS1
  clear hS1
  generalize H1 = H at hP hS ⊢
  generalize locs1 = locs at hS ⊢
  have hP := va_P_left hP
  have hD := va_D_left hD
  refine lv_aload_n hx hb dL_law_277 rfl (lv_at hl 2 rfl) ?_
  refine lv_aload_n hx hb dL_law_278 rfl (lv_at hl 0 rfl) ?_
  refine lv_iload_n hx hb dL_law_279 rfl (lv_at hl 3 rfl) ?_
  refine lv_iconst (v := 1) hx hb dL_law_280 (by decide) ?_
  refine lv_iadd hx hb dL_law_281 ?_
  refine z_topi (y := 1) (by decide) ?_
  refine va_sld hx hb hX hbl hbA hS (vin (by decide)) dL_law_282 ?_
  refine z_topi (y := xs 1) rfl ?_
  refine lv_aload_n hx hb dL_law_283 rfl (lv_at hl 0 rfl) ?_
  refine lv_iload_n hx hb dL_law_284 rfl (lv_at hl 3 rfl) ?_
  refine lv_iconst (v := 2) hx hb dL_law_285 (by decide) ?_
  refine lv_iadd hx hb dL_law_286 ?_
  refine z_topi (y := 2) (by decide) ?_
  refine va_sld hx hb hX hbl hbA hS (vin (by decide)) dL_law_287 ?_
  refine z_topi (y := xs 2) rfl ?_
  have hPc := hP.sub2 (wc := [(q, .inr (12, [.ref aA, .ref aI, .ref aT, .ref aP, .int 0, .int (-1), .int (-1), .int 0, .int 0, .int 0, .int 0, .long 0, .int 0, .int 0, .int 0, .int 0, .ref pI, .int 0, .int 0, .int 0, .int 0, .int 0, .ref nM, .ref vA, .ref tR, .int 0, .int 0, .int 0, .ref rW, .ref sP, .ref oA, .ref bS, .ref aS, .ref aO, .ref cS, .ref wY])), (aA, .inl (cI, 862, .inl af0))]) [0, 1] rfl
  have hDc := hD.sub (ws' := [(q, .inr (12, [.ref aA, .ref aI, .ref aT, .ref aP, .int 0, .int (-1), .int (-1), .int 0, .int 0, .int 0, .int 0, .long 0, .int 0, .int 0, .int 0, .int 0, .ref pI, .int 0, .int 0, .int 0, .int 0, .int 0, .ref nM, .ref vA, .ref tR, .int 0, .int 0, .int 0, .ref rW, .ref sP, .ref oA, .ref bS, .ref aS, .ref aO, .ref cS, .ref wY])), (aA, .inl (cI, 862, .inl af0))]) [0, 1] (by decide) rfl
  refine raw_Vi (ci := 12) (q0 := 0) (nA := 2) (As := [.int (xs 1), .int (xs 2)]) (rest := [.int r2]) Z hl.1 (c_X12_move l D cI cM cT q aA aI aT aP pI nM vA tR rW sP oA bS aS aO cS wY (xs 1) (xs 2)) (bw_V bw_1348 bw_1349 bw_1350 bw_92 bw_1351) ⟨by decide +kernel, by decide +kernel, by decide +kernel⟩ rfl ⟨Nat.le_of_ble_eq_true rfl, Nat.le_of_ble_eq_true rfl⟩ rfl rfl rfl hPc hDc hS rfl (Nat.le_of_ble_eq_true rfl) dL_law_288 ⟨Nat.le_of_ble_eq_true rfl, Nat.le_of_ble_eq_true rfl⟩ (fun r5 u4 H1 locs1 h6 hku4 hP1 hD1 hS1 => ?_)
  have hposth6 := h6
  obtain ⟨hP, hD⟩ := z_join (wr := []) Z hS hP hD [0, 1] [] rfl (by decide) rfl (by decide) (by decide) hku4 hP1 hD1
  have hS := hS1
  clear hS1
  generalize H1 = H at hP hS ⊢
  generalize locs1 = locs at hS ⊢
  have hP := va_P_left hP
  have hD := va_D_left hD
  refine lv_icmp_eq (tgt := 997) hx hb dL_law_291 (by decide) (fun c7 => ?_) (fun h => absurd (hposth3.trans hposth6.symm) h)
  exact law_tail Z hX hbl hS (lv_sub hl [0, 1, 2, 3] rfl)
set_option maxHeartbeats 4000000 in
set_option maxRecDepth 100000 in
theorem law_4 {p : Program} {l : Launch} {e : Env} {s : State} {m : MethodId} {below : List Frame} {meth : Method} {c : Code} {b : Nat} {xs : Nat → Int32} {D : va_G} {cI cM cT : ClassId} {H : Heap} {locs : List Loc} {ls : Array Slot} {x : Nat} {st : Nat} {dr : Nat} {nw : Nat} {kp : Nat} {rd : Nat} {tm : Nat} {co : Nat} {rO : Nat} {sT : Nat} {mA : Nat} {sB : Nat} {sA : Nat} {tH : Nat} {tF : Nat} {tS : Nat} {cO : Nat} {sH : Nat} {s1 : Nat} {s2 : Nat} {s3 : Nat} {q : Nat} {aA : Nat} {aI : Nat} {aT : Nat} {aP : Nat} {pI : Nat} {nM : Nat} {vA : Nat} {tR : Nat} {rW : Nat} {sP : Nat} {oA : Nat} {bS : Nat} {aS : Nat} {aO : Nat} {cS : Nat} {wY : Nat} (Z : Zx p s m #[Value.ref b] meth c code 4 ret R_law (fun q : Nat => s.heap.size ≤ q) (ty3 cI cM cT) D) (hX : va_X b 6 xs s s.heap) (hbl : b < s.heap.size) (hP : va_P D vwCl ([(x, .inr (11, [.ref st, .ref dr, .ref nw, .ref kp, .ref rd, .ref tm, .ref co])), (nw, .inr (10, [.ref rO, .ref sT, .ref mA, .ref sB, .ref sA, .ref tH, .ref tF, .ref tS, .int 0, .int 0, .int (-1), .int 0, .int 0])), (sT, .inr (4, [.ref cO, .ref sH, .int 0])), (cO, .inl (cI, 6, .inl (fun _ => 0))), (sH, .inl (cI, 6, .inl (fun _ => 0))), (st, .inr (6, [.ref dr, .ref s1, .ref s2, .ref s3, .int 1])), (q, .inr (12, [.ref aA, .ref aI, .ref aT, .ref aP, .int 0, .int (-1), .int (-1), .int 0, .int 0, .int 0, .int 0, .long 0, .int 0, .int 0, .int 0, .int 0, .ref pI, .int 0, .int 0, .int 0, .int 0, .int 0, .ref nM, .ref vA, .ref tR, .int 0, .int 0, .int 0, .ref rW, .ref sP, .ref oA, .ref bS, .ref aS, .ref aO, .ref cS, .ref wY])), (aA, .inl (cI, 862, .inl af0))]) H) (hD : va_D (fun q : Nat => s.heap.size ≤ q) ([(x, .inr (11, [.ref st, .ref dr, .ref nw, .ref kp, .ref rd, .ref tm, .ref co])), (nw, .inr (10, [.ref rO, .ref sT, .ref mA, .ref sB, .ref sA, .ref tH, .ref tF, .ref tS, .int 0, .int 0, .int (-1), .int 0, .int 0])), (sT, .inr (4, [.ref cO, .ref sH, .int 0])), (cO, .inl (cI, 6, .inl (fun _ => 0))), (sH, .inl (cI, 6, .inl (fun _ => 0))), (st, .inr (6, [.ref dr, .ref s1, .ref s2, .ref s3, .int 1])), (q, .inr (12, [.ref aA, .ref aI, .ref aT, .ref aP, .int 0, .int (-1), .int (-1), .int 0, .int 0, .int 0, .int 0, .long 0, .int 0, .int 0, .int 0, .int 0, .ref pI, .int 0, .int 0, .int 0, .int 0, .int 0, .ref nM, .ref vA, .ref tR, .int 0, .int 0, .int 0, .ref rW, .ref sP, .ref oA, .ref bS, .ref aS, .ref aO, .ref cS, .ref wY])), (aA, .inl (cI, 862, .inl af0))])) (hS : va_S (fun q : Nat => s.heap.size ≤ q) s.heap H locs) (hl : lv_has ls 4 [(0, .ref b), (1, .ref x), (2, .ref q), (3, .int 0)]) : W p l e room_1 s m #[Value.ref b] below meth c H locs 300 23000 (lw_Z below #[Value.ref b] s) (F0 m 296 ls []) := by
  have hx := Z.1
  have hb := Z.2.1
  have hbA : ¬ (fun q : Nat => s.heap.size ≤ q) b := Nat.not_le.mpr hbl
  skip
  refine lv_aload_n hx hb dL_law_296 rfl (lv_at hl 1 rfl) ?_
  refine lv_aload_n hx hb dL_law_297 rfl (lv_at hl 0 rfl) ?_
  refine lv_iload_n hx hb dL_law_298 rfl (lv_at hl 3 rfl) ?_
  refine lv_iconst (v := 1) hx hb dL_law_299 (by decide) ?_
  refine lv_iadd hx hb dL_law_300 ?_
  refine z_topi (y := 1) (by decide) ?_
  refine va_sld hx hb hX hbl hbA hS (vin (by decide)) dL_law_301 ?_
  refine z_topi (y := xs 1) rfl ?_
  refine lv_aload_n hx hb dL_law_302 rfl (lv_at hl 0 rfl) ?_
  refine lv_iload_n hx hb dL_law_303 rfl (lv_at hl 3 rfl) ?_
  refine lv_iconst (v := 2) hx hb dL_law_304 (by decide) ?_
  refine lv_iadd hx hb dL_law_305 ?_
  refine z_topi (y := 2) (by decide) ?_
  refine va_sld hx hb hX hbl hbA hS (vin (by decide)) dL_law_306 ?_
  refine z_topi (y := xs 2) rfl ?_
  have hPc := hP.sub2 (wc := [(x, .inr (11, [.ref st, .ref dr, .ref nw, .ref kp, .ref rd, .ref tm, .ref co])), (nw, .inr (10, [.ref rO, .ref sT, .ref mA, .ref sB, .ref sA, .ref tH, .ref tF, .ref tS, .int 0, .int 0, .int (-1), .int 0, .int 0])), (sT, .inr (4, [.ref cO, .ref sH, .int 0])), (cO, .inl (cI, 6, .inl (fun _ => 0))), (sH, .inl (cI, 6, .inl (fun _ => 0))), (st, .inr (6, [.ref dr, .ref s1, .ref s2, .ref s3, .int 1]))]) [0, 1, 2, 3, 4, 5] rfl
  have hDc := hD.sub (ws' := [(x, .inr (11, [.ref st, .ref dr, .ref nw, .ref kp, .ref rd, .ref tm, .ref co])), (nw, .inr (10, [.ref rO, .ref sT, .ref mA, .ref sB, .ref sA, .ref tH, .ref tF, .ref tS, .int 0, .int 0, .int (-1), .int 0, .int 0])), (sT, .inr (4, [.ref cO, .ref sH, .int 0])), (cO, .inl (cI, 6, .inl (fun _ => 0))), (sH, .inl (cI, 6, .inl (fun _ => 0))), (st, .inr (6, [.ref dr, .ref s1, .ref s2, .ref s3, .int 1]))]) [0, 1, 2, 3, 4, 5] (by decide) rfl
  refine raw_Vi (ci := 11) (q0 := 0) (nA := 2) (As := [.int (xs 1), .int (xs 2)]) (rest := []) Z hl.1 (c_X11_horse l D cI cM cT x st dr nw kp rd tm co rO sT mA sB sA tH tF tS cO sH s1 s2 s3 (xs 1) (xs 2)) (bw_V bw_527 bw_528 bw_529 bw_80 bw_530) ⟨by decide +kernel, by decide +kernel, by decide +kernel⟩ rfl ⟨Nat.le_of_ble_eq_true rfl, Nat.le_of_ble_eq_true rfl⟩ rfl rfl rfl hPc hDc hS rfl (Nat.le_of_ble_eq_true rfl) dL_law_307 ⟨Nat.le_of_ble_eq_true rfl, Nat.le_of_ble_eq_true rfl⟩ (fun r2 u1 H1 locs1 h3 hku1 hP1 hD1 hS1 => ?_)
  have hposth3 := h3
  obtain ⟨hP, hD⟩ := z_join (wr := [(q, .inr (12, [.ref aA, .ref aI, .ref aT, .ref aP, .int 0, .int (-1), .int (-1), .int 0, .int 0, .int 0, .int 0, .long 0, .int 0, .int 0, .int 0, .int 0, .ref pI, .int 0, .int 0, .int 0, .int 0, .int 0, .ref nM, .ref vA, .ref tR, .int 0, .int 0, .int 0, .ref rW, .ref sP, .ref oA, .ref bS, .ref aS, .ref aO, .ref cS, .ref wY])), (aA, .inl (cI, 862, .inl af0))]) Z hS hP hD [0, 1, 2, 3, 4, 5] [6, 7] rfl (by decide) rfl (by decide) (by decide) hku1 hP1 hD1
  have hS := hS1
  clear hS1
  generalize H1 = H at hP hS ⊢
  generalize locs1 = locs at hS ⊢
  have hP := va_P_left hP
  have hD := va_D_left hD
  refine lv_aload_n hx hb dL_law_310 rfl (lv_at hl 2 rfl) ?_
  refine lv_aload_n hx hb dL_law_311 rfl (lv_at hl 0 rfl) ?_
  refine lv_iload_n hx hb dL_law_312 rfl (lv_at hl 3 rfl) ?_
  refine lv_iconst (v := 1) hx hb dL_law_313 (by decide) ?_
  refine lv_iadd hx hb dL_law_314 ?_
  refine z_topi (y := 1) (by decide) ?_
  refine va_sld hx hb hX hbl hbA hS (vin (by decide)) dL_law_315 ?_
  refine z_topi (y := xs 1) rfl ?_
  refine lv_aload_n hx hb dL_law_316 rfl (lv_at hl 0 rfl) ?_
  refine lv_iload_n hx hb dL_law_317 rfl (lv_at hl 3 rfl) ?_
  refine lv_iconst (v := 2) hx hb dL_law_318 (by decide) ?_
  refine lv_iadd hx hb dL_law_319 ?_
  refine z_topi (y := 2) (by decide) ?_
  refine va_sld hx hb hX hbl hbA hS (vin (by decide)) dL_law_320 ?_
  refine z_topi (y := xs 2) rfl ?_
  have hPc := hP.sub2 (wc := [(q, .inr (12, [.ref aA, .ref aI, .ref aT, .ref aP, .int 0, .int (-1), .int (-1), .int 0, .int 0, .int 0, .int 0, .long 0, .int 0, .int 0, .int 0, .int 0, .ref pI, .int 0, .int 0, .int 0, .int 0, .int 0, .ref nM, .ref vA, .ref tR, .int 0, .int 0, .int 0, .ref rW, .ref sP, .ref oA, .ref bS, .ref aS, .ref aO, .ref cS, .ref wY])), (aA, .inl (cI, 862, .inl af0))]) [0, 1] rfl
  have hDc := hD.sub (ws' := [(q, .inr (12, [.ref aA, .ref aI, .ref aT, .ref aP, .int 0, .int (-1), .int (-1), .int 0, .int 0, .int 0, .int 0, .long 0, .int 0, .int 0, .int 0, .int 0, .ref pI, .int 0, .int 0, .int 0, .int 0, .int 0, .ref nM, .ref vA, .ref tR, .int 0, .int 0, .int 0, .ref rW, .ref sP, .ref oA, .ref bS, .ref aS, .ref aO, .ref cS, .ref wY])), (aA, .inl (cI, 862, .inl af0))]) [0, 1] (by decide) rfl
  refine raw_Vi (ci := 12) (q0 := 0) (nA := 2) (As := [.int (xs 1), .int (xs 2)]) (rest := [.int r2]) Z hl.1 (c_X12_horse l D cI cM cT q aA aI aT aP pI nM vA tR rW sP oA bS aS aO cS wY (xs 1) (xs 2)) (bw_V bw_1146 bw_1147 bw_1148 bw_92 bw_1149) ⟨by decide +kernel, by decide +kernel, by decide +kernel⟩ rfl ⟨Nat.le_of_ble_eq_true rfl, Nat.le_of_ble_eq_true rfl⟩ rfl rfl rfl hPc hDc hS rfl (Nat.le_of_ble_eq_true rfl) dL_law_321 ⟨Nat.le_of_ble_eq_true rfl, Nat.le_of_ble_eq_true rfl⟩ (fun r5 u4 H1 locs1 h6 hku4 hP1 hD1 hS1 => ?_)
  have hposth6 := h6
  obtain ⟨hP, hD⟩ := z_join (wr := []) Z hS hP hD [0, 1] [] rfl (by decide) rfl (by decide) (by decide) hku4 hP1 hD1
  have hS := hS1
  clear hS1
  generalize H1 = H at hP hS ⊢
  generalize locs1 = locs at hS ⊢
  have hP := va_P_left hP
  have hD := va_D_left hD
  refine lv_icmp_eq (tgt := 997) hx hb dL_law_324 (by decide) (fun c7 => ?_) (fun h => absurd (hposth3.trans hposth6.symm) h)
  exact law_tail Z hX hbl hS (lv_sub hl [0, 1, 2, 3] rfl)
set_option maxHeartbeats 4000000 in
set_option maxRecDepth 100000 in
theorem law_5 {p : Program} {l : Launch} {e : Env} {s : State} {m : MethodId} {below : List Frame} {meth : Method} {c : Code} {b : Nat} {xs : Nat → Int32} {D : va_G} {cI cM cT : ClassId} {H : Heap} {locs : List Loc} {ls : Array Slot} {x : Nat} {st : Nat} {dr : Nat} {nw : Nat} {kp : Nat} {rd : Nat} {tm : Nat} {co : Nat} {rO : Nat} {sT : Nat} {mA : Nat} {sB : Nat} {sA : Nat} {tH : Nat} {tF : Nat} {tS : Nat} {iA : Nat} {q : Nat} {aA : Nat} {aI : Nat} {aT : Nat} {aP : Nat} {pI : Nat} {nM : Nat} {vA : Nat} {tR : Nat} {rW : Nat} {sP : Nat} {oA : Nat} {bS : Nat} {aS : Nat} {aO : Nat} {cS : Nat} {wY : Nat} (Z : Zx p s m #[Value.ref b] meth c code 4 ret R_law (fun q : Nat => s.heap.size ≤ q) (ty3 cI cM cT) D) (hX : va_X b 6 xs s s.heap) (hbl : b < s.heap.size) (hP : va_P D vwCl ([(x, .inr (11, [.ref st, .ref dr, .ref nw, .ref kp, .ref rd, .ref tm, .ref co])), (nw, .inr (10, [.ref rO, .ref sT, .ref mA, .ref sB, .ref sA, .ref tH, .ref tF, .ref tS, .int 0, .int 0, .int (-1), .int 0, .int 0])), (mA, .inr (1, [.ref iA, .int 0, .int 0, .int 0, .int 0, .int 0, .int 13])), (q, .inr (12, [.ref aA, .ref aI, .ref aT, .ref aP, .int 0, .int (-1), .int (-1), .int 0, .int 0, .int 0, .int 0, .long 0, .int 0, .int 0, .int 0, .int 0, .ref pI, .int 0, .int 0, .int 0, .int 0, .int 0, .ref nM, .ref vA, .ref tR, .int 0, .int 0, .int 0, .ref rW, .ref sP, .ref oA, .ref bS, .ref aS, .ref aO, .ref cS, .ref wY])), (aA, .inl (cI, 862, .inl af0))]) H) (hD : va_D (fun q : Nat => s.heap.size ≤ q) ([(x, .inr (11, [.ref st, .ref dr, .ref nw, .ref kp, .ref rd, .ref tm, .ref co])), (nw, .inr (10, [.ref rO, .ref sT, .ref mA, .ref sB, .ref sA, .ref tH, .ref tF, .ref tS, .int 0, .int 0, .int (-1), .int 0, .int 0])), (mA, .inr (1, [.ref iA, .int 0, .int 0, .int 0, .int 0, .int 0, .int 13])), (q, .inr (12, [.ref aA, .ref aI, .ref aT, .ref aP, .int 0, .int (-1), .int (-1), .int 0, .int 0, .int 0, .int 0, .long 0, .int 0, .int 0, .int 0, .int 0, .ref pI, .int 0, .int 0, .int 0, .int 0, .int 0, .ref nM, .ref vA, .ref tR, .int 0, .int 0, .int 0, .ref rW, .ref sP, .ref oA, .ref bS, .ref aS, .ref aO, .ref cS, .ref wY])), (aA, .inl (cI, 862, .inl af0))])) (hS : va_S (fun q : Nat => s.heap.size ≤ q) s.heap H locs) (hl : lv_has ls 4 [(0, .ref b), (1, .ref x), (2, .ref q), (3, .int 0)]) : W p l e room_1 s m #[Value.ref b] below meth c H locs 300 23000 (lw_Z below #[Value.ref b] s) (F0 m 329 ls []) := by
  have hx := Z.1
  have hb := Z.2.1
  have hbA : ¬ (fun q : Nat => s.heap.size ≤ q) b := Nat.not_le.mpr hbl
  skip
  refine lv_aload_n hx hb dL_law_329 rfl (lv_at hl 1 rfl) ?_
  refine lv_aload_n hx hb dL_law_330 rfl (lv_at hl 0 rfl) ?_
  refine lv_iload_n hx hb dL_law_331 rfl (lv_at hl 3 rfl) ?_
  refine lv_iconst (v := 1) hx hb dL_law_332 (by decide) ?_
  refine lv_iadd hx hb dL_law_333 ?_
  refine z_topi (y := 1) (by decide) ?_
  refine va_sld hx hb hX hbl hbA hS (vin (by decide)) dL_law_334 ?_
  refine z_topi (y := xs 1) rfl ?_
  refine lv_aload_n hx hb dL_law_335 rfl (lv_at hl 0 rfl) ?_
  refine lv_iload_n hx hb dL_law_336 rfl (lv_at hl 3 rfl) ?_
  refine lv_iconst (v := 2) hx hb dL_law_337 (by decide) ?_
  refine lv_iadd hx hb dL_law_338 ?_
  refine z_topi (y := 2) (by decide) ?_
  refine va_sld hx hb hX hbl hbA hS (vin (by decide)) dL_law_339 ?_
  refine z_topi (y := xs 2) rfl ?_
  have hPc := hP.sub2 (wc := [(x, .inr (11, [.ref st, .ref dr, .ref nw, .ref kp, .ref rd, .ref tm, .ref co])), (nw, .inr (10, [.ref rO, .ref sT, .ref mA, .ref sB, .ref sA, .ref tH, .ref tF, .ref tS, .int 0, .int 0, .int (-1), .int 0, .int 0])), (mA, .inr (1, [.ref iA, .int 0, .int 0, .int 0, .int 0, .int 0, .int 13]))]) [0, 1, 2] rfl
  have hDc := hD.sub (ws' := [(x, .inr (11, [.ref st, .ref dr, .ref nw, .ref kp, .ref rd, .ref tm, .ref co])), (nw, .inr (10, [.ref rO, .ref sT, .ref mA, .ref sB, .ref sA, .ref tH, .ref tF, .ref tS, .int 0, .int 0, .int (-1), .int 0, .int 0])), (mA, .inr (1, [.ref iA, .int 0, .int 0, .int 0, .int 0, .int 0, .int 13]))]) [0, 1, 2] (by decide) rfl
  refine raw_Vi (ci := 11) (q0 := 0) (nA := 2) (As := [.int (xs 1), .int (xs 2)]) (rest := []) Z hl.1 (c_X11_weather l D cI cM cT x st dr nw kp rd tm co rO sT mA sB sA tH tF tS iA (xs 1) (xs 2)) (bw_V bw_531 bw_532 bw_533 bw_80 bw_534) ⟨by decide +kernel, by decide +kernel, by decide +kernel⟩ rfl ⟨Nat.le_of_ble_eq_true rfl, Nat.le_of_ble_eq_true rfl⟩ rfl rfl rfl hPc hDc hS rfl (Nat.le_of_ble_eq_true rfl) dL_law_340 ⟨Nat.le_of_ble_eq_true rfl, Nat.le_of_ble_eq_true rfl⟩ (fun r2 u1 H1 locs1 h3 hku1 hP1 hD1 hS1 => ?_)
  have hposth3 := h3
  obtain ⟨hP, hD⟩ := z_join (wr := [(q, .inr (12, [.ref aA, .ref aI, .ref aT, .ref aP, .int 0, .int (-1), .int (-1), .int 0, .int 0, .int 0, .int 0, .long 0, .int 0, .int 0, .int 0, .int 0, .ref pI, .int 0, .int 0, .int 0, .int 0, .int 0, .ref nM, .ref vA, .ref tR, .int 0, .int 0, .int 0, .ref rW, .ref sP, .ref oA, .ref bS, .ref aS, .ref aO, .ref cS, .ref wY])), (aA, .inl (cI, 862, .inl af0))]) Z hS hP hD [0, 1, 2] [3, 4] rfl (by decide) rfl (by decide) (by decide) hku1 hP1 hD1
  have hS := hS1
  clear hS1
  generalize H1 = H at hP hS ⊢
  generalize locs1 = locs at hS ⊢
  have hP := va_P_left hP
  have hD := va_D_left hD
  refine lv_aload_n hx hb dL_law_343 rfl (lv_at hl 2 rfl) ?_
  refine lv_aload_n hx hb dL_law_344 rfl (lv_at hl 0 rfl) ?_
  refine lv_iload_n hx hb dL_law_345 rfl (lv_at hl 3 rfl) ?_
  refine lv_iconst (v := 1) hx hb dL_law_346 (by decide) ?_
  refine lv_iadd hx hb dL_law_347 ?_
  refine z_topi (y := 1) (by decide) ?_
  refine va_sld hx hb hX hbl hbA hS (vin (by decide)) dL_law_348 ?_
  refine z_topi (y := xs 1) rfl ?_
  refine lv_aload_n hx hb dL_law_349 rfl (lv_at hl 0 rfl) ?_
  refine lv_iload_n hx hb dL_law_350 rfl (lv_at hl 3 rfl) ?_
  refine lv_iconst (v := 2) hx hb dL_law_351 (by decide) ?_
  refine lv_iadd hx hb dL_law_352 ?_
  refine z_topi (y := 2) (by decide) ?_
  refine va_sld hx hb hX hbl hbA hS (vin (by decide)) dL_law_353 ?_
  refine z_topi (y := xs 2) rfl ?_
  have hPc := hP.sub2 (wc := [(q, .inr (12, [.ref aA, .ref aI, .ref aT, .ref aP, .int 0, .int (-1), .int (-1), .int 0, .int 0, .int 0, .int 0, .long 0, .int 0, .int 0, .int 0, .int 0, .ref pI, .int 0, .int 0, .int 0, .int 0, .int 0, .ref nM, .ref vA, .ref tR, .int 0, .int 0, .int 0, .ref rW, .ref sP, .ref oA, .ref bS, .ref aS, .ref aO, .ref cS, .ref wY])), (aA, .inl (cI, 862, .inl af0))]) [0, 1] rfl
  have hDc := hD.sub (ws' := [(q, .inr (12, [.ref aA, .ref aI, .ref aT, .ref aP, .int 0, .int (-1), .int (-1), .int 0, .int 0, .int 0, .int 0, .long 0, .int 0, .int 0, .int 0, .int 0, .ref pI, .int 0, .int 0, .int 0, .int 0, .int 0, .ref nM, .ref vA, .ref tR, .int 0, .int 0, .int 0, .ref rW, .ref sP, .ref oA, .ref bS, .ref aS, .ref aO, .ref cS, .ref wY])), (aA, .inl (cI, 862, .inl af0))]) [0, 1] (by decide) rfl
  refine raw_Vi (ci := 12) (q0 := 0) (nA := 2) (As := [.int (xs 1), .int (xs 2)]) (rest := [.int r2]) Z hl.1 (c_X12_weather l D cI cM cT q aA aI aT aP pI nM vA tR rW sP oA bS aS aO cS wY (xs 1) (xs 2)) (bw_V bw_1150 bw_1151 bw_1152 bw_92 bw_1153) ⟨by decide +kernel, by decide +kernel, by decide +kernel⟩ rfl ⟨Nat.le_of_ble_eq_true rfl, Nat.le_of_ble_eq_true rfl⟩ rfl rfl rfl hPc hDc hS rfl (Nat.le_of_ble_eq_true rfl) dL_law_354 ⟨Nat.le_of_ble_eq_true rfl, Nat.le_of_ble_eq_true rfl⟩ (fun r5 u4 H1 locs1 h6 hku4 hP1 hD1 hS1 => ?_)
  have hposth6 := h6
  obtain ⟨hP, hD⟩ := z_join (wr := []) Z hS hP hD [0, 1] [] rfl (by decide) rfl (by decide) (by decide) hku4 hP1 hD1
  have hS := hS1
  clear hS1
  generalize H1 = H at hP hS ⊢
  generalize locs1 = locs at hS ⊢
  have hP := va_P_left hP
  have hD := va_D_left hD
  refine lv_icmp_eq (tgt := 997) hx hb dL_law_357 (by decide) (fun c7 => ?_) (fun h => absurd (hposth3.trans hposth6.symm) h)
  exact law_tail Z hX hbl hS (lv_sub hl [0, 1, 2, 3] rfl)
set_option maxHeartbeats 4000000 in
set_option maxRecDepth 100000 in
theorem law_6 {p : Program} {l : Launch} {e : Env} {s : State} {m : MethodId} {below : List Frame} {meth : Method} {c : Code} {b : Nat} {xs : Nat → Int32} {D : va_G} {cI cM cT : ClassId} {H : Heap} {locs : List Loc} {ls : Array Slot} {x : Nat} {st : Nat} {dr : Nat} {nw : Nat} {kp : Nat} {rd : Nat} {tm : Nat} {co : Nat} {tP : Nat} {tX : Nat} {bY : Nat} {ki : Nat} {at_ : Nat} {nu : Nat} {q : Nat} {aA : Nat} {aI : Nat} {aT : Nat} {aP : Nat} {pI : Nat} {nM : Nat} {vA : Nat} {tR : Nat} {rW : Nat} {sP : Nat} {oA : Nat} {bS : Nat} {aS : Nat} {aO : Nat} {cS : Nat} {wY : Nat} (Z : Zx p s m #[Value.ref b] meth c code 4 ret R_law (fun q : Nat => s.heap.size ≤ q) (ty3 cI cM cT) D) (hX : va_X b 6 xs s s.heap) (hbl : b < s.heap.size) (hP : va_P D vwCl ([(x, .inr (11, [.ref st, .ref dr, .ref nw, .ref kp, .ref rd, .ref tm, .ref co])), (rd, .inr (2, [.ref tP, .int (-1), .int (-1), .int 0, .int 37, .int 0, .ref tX])), (tP, .inr (7, [.ref bY, .ref ki, .ref at_, .ref nu, .int 0, .int 0])), (bY, .inl (cI, 300, .inl (fun _ => 0))), (q, .inr (12, [.ref aA, .ref aI, .ref aT, .ref aP, .int 0, .int (-1), .int (-1), .int 0, .int 0, .int 0, .int 0, .long 0, .int 0, .int 0, .int 0, .int 0, .ref pI, .int 0, .int 0, .int 0, .int 0, .int 0, .ref nM, .ref vA, .ref tR, .int 0, .int 0, .int 0, .ref rW, .ref sP, .ref oA, .ref bS, .ref aS, .ref aO, .ref cS, .ref wY])), (aP, .inl (cI, 300, .inl (fun _ => 0)))]) H) (hD : va_D (fun q : Nat => s.heap.size ≤ q) ([(x, .inr (11, [.ref st, .ref dr, .ref nw, .ref kp, .ref rd, .ref tm, .ref co])), (rd, .inr (2, [.ref tP, .int (-1), .int (-1), .int 0, .int 37, .int 0, .ref tX])), (tP, .inr (7, [.ref bY, .ref ki, .ref at_, .ref nu, .int 0, .int 0])), (bY, .inl (cI, 300, .inl (fun _ => 0))), (q, .inr (12, [.ref aA, .ref aI, .ref aT, .ref aP, .int 0, .int (-1), .int (-1), .int 0, .int 0, .int 0, .int 0, .long 0, .int 0, .int 0, .int 0, .int 0, .ref pI, .int 0, .int 0, .int 0, .int 0, .int 0, .ref nM, .ref vA, .ref tR, .int 0, .int 0, .int 0, .ref rW, .ref sP, .ref oA, .ref bS, .ref aS, .ref aO, .ref cS, .ref wY])), (aP, .inl (cI, 300, .inl (fun _ => 0)))])) (hS : va_S (fun q : Nat => s.heap.size ≤ q) s.heap H locs) (hl : lv_has ls 4 [(0, .ref b), (1, .ref x), (2, .ref q), (3, .int 0)]) : W p l e room_1 s m #[Value.ref b] below meth c H locs 300 23000 (lw_Z below #[Value.ref b] s) (F0 m 362 ls []) := by
  have hx := Z.1
  have hb := Z.2.1
  have hbA : ¬ (fun q : Nat => s.heap.size ≤ q) b := Nat.not_le.mpr hbl
  skip
  refine lv_aload_n hx hb dL_law_362 rfl (lv_at hl 1 rfl) ?_
  refine lv_aload_n hx hb dL_law_363 rfl (lv_at hl 0 rfl) ?_
  refine lv_iload_n hx hb dL_law_364 rfl (lv_at hl 3 rfl) ?_
  refine lv_iconst (v := 1) hx hb dL_law_365 (by decide) ?_
  refine lv_iadd hx hb dL_law_366 ?_
  refine z_topi (y := 1) (by decide) ?_
  refine va_sld hx hb hX hbl hbA hS (vin (by decide)) dL_law_367 ?_
  refine z_topi (y := xs 1) rfl ?_
  refine lv_aload_n hx hb dL_law_368 rfl (lv_at hl 0 rfl) ?_
  refine lv_iload_n hx hb dL_law_369 rfl (lv_at hl 3 rfl) ?_
  refine lv_iconst (v := 2) hx hb dL_law_370 (by decide) ?_
  refine lv_iadd hx hb dL_law_371 ?_
  refine z_topi (y := 2) (by decide) ?_
  refine va_sld hx hb hX hbl hbA hS (vin (by decide)) dL_law_372 ?_
  refine z_topi (y := xs 2) rfl ?_
  refine lv_aload_n hx hb dL_law_373 rfl (lv_at hl 0 rfl) ?_
  refine lv_iload_n hx hb dL_law_374 rfl (lv_at hl 3 rfl) ?_
  refine lv_iconst (v := 3) hx hb dL_law_375 (by decide) ?_
  refine lv_iadd hx hb dL_law_376 ?_
  refine z_topi (y := 3) (by decide) ?_
  refine va_sld hx hb hX hbl hbA hS (vin (by decide)) dL_law_377 ?_
  refine z_topi (y := xs 3) rfl ?_
  refine lv_aload_n hx hb dL_law_378 rfl (lv_at hl 0 rfl) ?_
  refine lv_iload_n hx hb dL_law_379 rfl (lv_at hl 3 rfl) ?_
  refine lv_iconst (v := 4) hx hb dL_law_380 (by decide) ?_
  refine lv_iadd hx hb dL_law_381 ?_
  refine z_topi (y := 4) (by decide) ?_
  refine va_sld hx hb hX hbl hbA hS (vin (by decide)) dL_law_382 ?_
  refine z_topi (y := xs 4) rfl ?_
  refine lv_aload_n hx hb dL_law_383 rfl (lv_at hl 0 rfl) ?_
  refine lv_iload_n hx hb dL_law_384 rfl (lv_at hl 3 rfl) ?_
  refine lv_iconst (v := 5) hx hb dL_law_385 (by decide) ?_
  refine lv_iadd hx hb dL_law_386 ?_
  refine z_topi (y := 5) (by decide) ?_
  refine va_sld hx hb hX hbl hbA hS (vin (by decide)) dL_law_387 ?_
  refine z_topi (y := xs 5) rfl ?_
  have hPc := hP.sub2 (wc := [(x, .inr (11, [.ref st, .ref dr, .ref nw, .ref kp, .ref rd, .ref tm, .ref co])), (rd, .inr (2, [.ref tP, .int (-1), .int (-1), .int 0, .int 37, .int 0, .ref tX])), (tP, .inr (7, [.ref bY, .ref ki, .ref at_, .ref nu, .int 0, .int 0])), (bY, .inl (cI, 300, .inl (fun _ => 0)))]) [0, 1, 2, 3] rfl
  have hDc := hD.sub (ws' := [(x, .inr (11, [.ref st, .ref dr, .ref nw, .ref kp, .ref rd, .ref tm, .ref co])), (rd, .inr (2, [.ref tP, .int (-1), .int (-1), .int 0, .int 37, .int 0, .ref tX])), (tP, .inr (7, [.ref bY, .ref ki, .ref at_, .ref nu, .int 0, .int 0])), (bY, .inl (cI, 300, .inl (fun _ => 0)))]) [0, 1, 2, 3] (by decide) rfl
  refine raw_Vi (ci := 11) (q0 := 0) (nA := 5) (As := [.int (xs 1), .int (xs 2), .int (xs 3), .int (xs 4), .int (xs 5)]) (rest := []) Z hl.1 (c_X11_feed l D cI cM cT x st dr nw kp rd tm co tP tX bY ki at_ nu (xs 1) (xs 2) (xs 3) (xs 4) (xs 5)) (bw_V bw_535 bw_536 bw_537 bw_80 bw_538) ⟨by decide +kernel, by decide +kernel, by decide +kernel⟩ rfl ⟨Nat.le_of_ble_eq_true rfl, Nat.le_of_ble_eq_true rfl⟩ rfl rfl rfl hPc hDc hS rfl (Nat.le_of_ble_eq_true rfl) dL_law_388 ⟨Nat.le_of_ble_eq_true rfl, Nat.le_of_ble_eq_true rfl⟩ (fun r2 u1 H1 locs1 h3 hku1 hP1 hD1 hS1 => ?_)
  have hposth3 := h3
  obtain ⟨hP, hD⟩ := z_join (wr := [(q, .inr (12, [.ref aA, .ref aI, .ref aT, .ref aP, .int 0, .int (-1), .int (-1), .int 0, .int 0, .int 0, .int 0, .long 0, .int 0, .int 0, .int 0, .int 0, .ref pI, .int 0, .int 0, .int 0, .int 0, .int 0, .ref nM, .ref vA, .ref tR, .int 0, .int 0, .int 0, .ref rW, .ref sP, .ref oA, .ref bS, .ref aS, .ref aO, .ref cS, .ref wY])), (aP, .inl (cI, 300, .inl (fun _ => 0)))]) Z hS hP hD [0, 1, 2, 3] [4, 5] rfl (by decide) rfl (by decide) (by decide) hku1 hP1 hD1
  have hS := hS1
  clear hS1
  generalize H1 = H at hP hS ⊢
  generalize locs1 = locs at hS ⊢
  have hP := va_P_left hP
  have hD := va_D_left hD
  refine lv_aload_n hx hb dL_law_391 rfl (lv_at hl 2 rfl) ?_
  refine lv_aload_n hx hb dL_law_392 rfl (lv_at hl 0 rfl) ?_
  refine lv_iload_n hx hb dL_law_393 rfl (lv_at hl 3 rfl) ?_
  refine lv_iconst (v := 1) hx hb dL_law_394 (by decide) ?_
  refine lv_iadd hx hb dL_law_395 ?_
  refine z_topi (y := 1) (by decide) ?_
  refine va_sld hx hb hX hbl hbA hS (vin (by decide)) dL_law_396 ?_
  refine z_topi (y := xs 1) rfl ?_
  refine lv_aload_n hx hb dL_law_397 rfl (lv_at hl 0 rfl) ?_
  refine lv_iload_n hx hb dL_law_398 rfl (lv_at hl 3 rfl) ?_
  refine lv_iconst (v := 2) hx hb dL_law_399 (by decide) ?_
  refine lv_iadd hx hb dL_law_400 ?_
  refine z_topi (y := 2) (by decide) ?_
  refine va_sld hx hb hX hbl hbA hS (vin (by decide)) dL_law_401 ?_
  refine z_topi (y := xs 2) rfl ?_
  refine lv_aload_n hx hb dL_law_402 rfl (lv_at hl 0 rfl) ?_
  refine lv_iload_n hx hb dL_law_403 rfl (lv_at hl 3 rfl) ?_
  refine lv_iconst (v := 3) hx hb dL_law_404 (by decide) ?_
  refine lv_iadd hx hb dL_law_405 ?_
  refine z_topi (y := 3) (by decide) ?_
  refine va_sld hx hb hX hbl hbA hS (vin (by decide)) dL_law_406 ?_
  refine z_topi (y := xs 3) rfl ?_
  refine lv_aload_n hx hb dL_law_407 rfl (lv_at hl 0 rfl) ?_
  refine lv_iload_n hx hb dL_law_408 rfl (lv_at hl 3 rfl) ?_
  refine lv_iconst (v := 4) hx hb dL_law_409 (by decide) ?_
  refine lv_iadd hx hb dL_law_410 ?_
  refine z_topi (y := 4) (by decide) ?_
  refine va_sld hx hb hX hbl hbA hS (vin (by decide)) dL_law_411 ?_
  refine z_topi (y := xs 4) rfl ?_
  refine lv_aload_n hx hb dL_law_412 rfl (lv_at hl 0 rfl) ?_
  refine lv_iload_n hx hb dL_law_413 rfl (lv_at hl 3 rfl) ?_
  refine lv_iconst (v := 5) hx hb dL_law_414 (by decide) ?_
  refine lv_iadd hx hb dL_law_415 ?_
  refine z_topi (y := 5) (by decide) ?_
  refine va_sld hx hb hX hbl hbA hS (vin (by decide)) dL_law_416 ?_
  refine z_topi (y := xs 5) rfl ?_
  have hPc := hP.sub2 (wc := [(q, .inr (12, [.ref aA, .ref aI, .ref aT, .ref aP, .int 0, .int (-1), .int (-1), .int 0, .int 0, .int 0, .int 0, .long 0, .int 0, .int 0, .int 0, .int 0, .ref pI, .int 0, .int 0, .int 0, .int 0, .int 0, .ref nM, .ref vA, .ref tR, .int 0, .int 0, .int 0, .ref rW, .ref sP, .ref oA, .ref bS, .ref aS, .ref aO, .ref cS, .ref wY])), (aP, .inl (cI, 300, .inl (fun _ => 0)))]) [0, 1] rfl
  have hDc := hD.sub (ws' := [(q, .inr (12, [.ref aA, .ref aI, .ref aT, .ref aP, .int 0, .int (-1), .int (-1), .int 0, .int 0, .int 0, .int 0, .long 0, .int 0, .int 0, .int 0, .int 0, .ref pI, .int 0, .int 0, .int 0, .int 0, .int 0, .ref nM, .ref vA, .ref tR, .int 0, .int 0, .int 0, .ref rW, .ref sP, .ref oA, .ref bS, .ref aS, .ref aO, .ref cS, .ref wY])), (aP, .inl (cI, 300, .inl (fun _ => 0)))]) [0, 1] (by decide) rfl
  refine raw_Vi (ci := 12) (q0 := 0) (nA := 5) (As := [.int (xs 1), .int (xs 2), .int (xs 3), .int (xs 4), .int (xs 5)]) (rest := [.int r2]) Z hl.1 (c_X12_feed l D cI cM cT q aA aI aT aP pI nM vA tR rW sP oA bS aS aO cS wY (xs 1) (xs 2) (xs 3) (xs 4) (xs 5)) (bw_V bw_1154 bw_1155 bw_1156 bw_92 bw_1157) ⟨by decide +kernel, by decide +kernel, by decide +kernel⟩ rfl ⟨Nat.le_of_ble_eq_true rfl, Nat.le_of_ble_eq_true rfl⟩ rfl rfl rfl hPc hDc hS rfl (Nat.le_of_ble_eq_true rfl) dL_law_417 ⟨Nat.le_of_ble_eq_true rfl, Nat.le_of_ble_eq_true rfl⟩ (fun r5 u4 H1 locs1 h6 hku4 hP1 hD1 hS1 => ?_)
  have hposth6 := h6
  obtain ⟨hP, hD⟩ := z_join (wr := []) Z hS hP hD [0, 1] [] rfl (by decide) rfl (by decide) (by decide) hku4 hP1 hD1
  have hS := hS1
  clear hS1
  generalize H1 = H at hP hS ⊢
  generalize locs1 = locs at hS ⊢
  have hP := va_P_left hP
  have hD := va_D_left hD
  refine lv_icmp_eq (tgt := 997) hx hb dL_law_420 (by decide) (fun c7 => ?_) (fun h => absurd (hposth3.trans hposth6.symm) h)
  exact law_tail Z hX hbl hS (lv_sub hl [0, 1, 2, 3] rfl)
set_option maxHeartbeats 4000000 in
set_option maxRecDepth 100000 in
theorem law_7 {p : Program} {l : Launch} {e : Env} {s : State} {m : MethodId} {below : List Frame} {meth : Method} {c : Code} {b : Nat} {xs : Nat → Int32} {D : va_G} {cI cM cT : ClassId} {H : Heap} {locs : List Loc} {ls : Array Slot} {x : Nat} {st : Nat} {dr : Nat} {nw : Nat} {kp : Nat} {rd : Nat} {tm : Nat} {co : Nat} {tP : Nat} {tX : Nat} {bY : Nat} {ki : Nat} {at_ : Nat} {nu : Nat} {q : Nat} {aA : Nat} {aI : Nat} {aT : Nat} {aP : Nat} {pI : Nat} {nM : Nat} {vA : Nat} {tR : Nat} {rW : Nat} {sP : Nat} {oA : Nat} {bS : Nat} {aS : Nat} {aO : Nat} {cS : Nat} {wY : Nat} (Z : Zx p s m #[Value.ref b] meth c code 4 ret R_law (fun q : Nat => s.heap.size ≤ q) (ty3 cI cM cT) D) (hX : va_X b 6 xs s s.heap) (hbl : b < s.heap.size) (hP : va_P D vwCl ([(x, .inr (11, [.ref st, .ref dr, .ref nw, .ref kp, .ref rd, .ref tm, .ref co])), (rd, .inr (2, [.ref tP, .int (-1), .int (-1), .int 0, .int 37, .int 0, .ref tX])), (tP, .inr (7, [.ref bY, .ref ki, .ref at_, .ref nu, .int 0, .int 0])), (q, .inr (12, [.ref aA, .ref aI, .ref aT, .ref aP, .int 0, .int (-1), .int (-1), .int 0, .int 0, .int 0, .int 0, .long 0, .int 0, .int 0, .int 0, .int 0, .ref pI, .int 0, .int 0, .int 0, .int 0, .int 0, .ref nM, .ref vA, .ref tR, .int 0, .int 0, .int 0, .ref rW, .ref sP, .ref oA, .ref bS, .ref aS, .ref aO, .ref cS, .ref wY]))]) H) (hD : va_D (fun q : Nat => s.heap.size ≤ q) ([(x, .inr (11, [.ref st, .ref dr, .ref nw, .ref kp, .ref rd, .ref tm, .ref co])), (rd, .inr (2, [.ref tP, .int (-1), .int (-1), .int 0, .int 37, .int 0, .ref tX])), (tP, .inr (7, [.ref bY, .ref ki, .ref at_, .ref nu, .int 0, .int 0])), (q, .inr (12, [.ref aA, .ref aI, .ref aT, .ref aP, .int 0, .int (-1), .int (-1), .int 0, .int 0, .int 0, .int 0, .long 0, .int 0, .int 0, .int 0, .int 0, .ref pI, .int 0, .int 0, .int 0, .int 0, .int 0, .ref nM, .ref vA, .ref tR, .int 0, .int 0, .int 0, .ref rW, .ref sP, .ref oA, .ref bS, .ref aS, .ref aO, .ref cS, .ref wY]))])) (hS : va_S (fun q : Nat => s.heap.size ≤ q) s.heap H locs) (hl : lv_has ls 4 [(0, .ref b), (1, .ref x), (2, .ref q), (3, .int 0)]) : W p l e room_1 s m #[Value.ref b] below meth c H locs 300 23000 (lw_Z below #[Value.ref b] s) (F0 m 425 ls []) := by
  have hx := Z.1
  have hb := Z.2.1
  have hbA : ¬ (fun q : Nat => s.heap.size ≤ q) b := Nat.not_le.mpr hbl
  skip
  refine lv_aload_n hx hb dL_law_425 rfl (lv_at hl 1 rfl) ?_
  refine lv_aload_n hx hb dL_law_426 rfl (lv_at hl 0 rfl) ?_
  refine lv_iload_n hx hb dL_law_427 rfl (lv_at hl 3 rfl) ?_
  refine lv_iconst (v := 1) hx hb dL_law_428 (by decide) ?_
  refine lv_iadd hx hb dL_law_429 ?_
  refine z_topi (y := 1) (by decide) ?_
  refine va_sld hx hb hX hbl hbA hS (vin (by decide)) dL_law_430 ?_
  refine z_topi (y := xs 1) rfl ?_
  have hPc := hP.sub2 (wc := [(x, .inr (11, [.ref st, .ref dr, .ref nw, .ref kp, .ref rd, .ref tm, .ref co])), (rd, .inr (2, [.ref tP, .int (-1), .int (-1), .int 0, .int 37, .int 0, .ref tX])), (tP, .inr (7, [.ref bY, .ref ki, .ref at_, .ref nu, .int 0, .int 0]))]) [0, 1, 2] rfl
  have hDc := hD.sub (ws' := [(x, .inr (11, [.ref st, .ref dr, .ref nw, .ref kp, .ref rd, .ref tm, .ref co])), (rd, .inr (2, [.ref tP, .int (-1), .int (-1), .int 0, .int 37, .int 0, .ref tX])), (tP, .inr (7, [.ref bY, .ref ki, .ref at_, .ref nu, .int 0, .int 0]))]) [0, 1, 2] (by decide) rfl
  refine raw_Vi (ci := 11) (q0 := 0) (nA := 1) (As := [.int (xs 1)]) (rest := []) Z hl.1 (c_X11_end l D cI cM cT x st dr nw kp rd tm co tP tX bY ki at_ nu (xs 1)) (bw_V bw_543 bw_544 bw_545 bw_80 bw_546) ⟨by decide +kernel, by decide +kernel, by decide +kernel⟩ rfl ⟨Nat.le_of_ble_eq_true rfl, Nat.le_of_ble_eq_true rfl⟩ rfl rfl rfl hPc hDc hS rfl (Nat.le_of_ble_eq_true rfl) dL_law_431 ⟨Nat.le_of_ble_eq_true rfl, Nat.le_of_ble_eq_true rfl⟩ (fun r2 u1 H1 locs1 h3 hku1 hP1 hD1 hS1 => ?_)
  have hposth3 := h3
  obtain ⟨hP, hD⟩ := z_join (wr := [(q, .inr (12, [.ref aA, .ref aI, .ref aT, .ref aP, .int 0, .int (-1), .int (-1), .int 0, .int 0, .int 0, .int 0, .long 0, .int 0, .int 0, .int 0, .int 0, .ref pI, .int 0, .int 0, .int 0, .int 0, .int 0, .ref nM, .ref vA, .ref tR, .int 0, .int 0, .int 0, .ref rW, .ref sP, .ref oA, .ref bS, .ref aS, .ref aO, .ref cS, .ref wY]))]) Z hS hP hD [0, 1, 2] [3] rfl (by decide) rfl (by decide) (by decide) hku1 hP1 hD1
  have hS := hS1
  clear hS1
  generalize H1 = H at hP hS ⊢
  generalize locs1 = locs at hS ⊢
  have hP := va_P_left hP
  have hD := va_D_left hD
  refine lv_aload_n hx hb dL_law_434 rfl (lv_at hl 2 rfl) ?_
  refine lv_aload_n hx hb dL_law_435 rfl (lv_at hl 0 rfl) ?_
  refine lv_iload_n hx hb dL_law_436 rfl (lv_at hl 3 rfl) ?_
  refine lv_iconst (v := 1) hx hb dL_law_437 (by decide) ?_
  refine lv_iadd hx hb dL_law_438 ?_
  refine z_topi (y := 1) (by decide) ?_
  refine va_sld hx hb hX hbl hbA hS (vin (by decide)) dL_law_439 ?_
  refine z_topi (y := xs 1) rfl ?_
  have hPc := hP.sub2 (wc := [(q, .inr (12, [.ref aA, .ref aI, .ref aT, .ref aP, .int 0, .int (-1), .int (-1), .int 0, .int 0, .int 0, .int 0, .long 0, .int 0, .int 0, .int 0, .int 0, .ref pI, .int 0, .int 0, .int 0, .int 0, .int 0, .ref nM, .ref vA, .ref tR, .int 0, .int 0, .int 0, .ref rW, .ref sP, .ref oA, .ref bS, .ref aS, .ref aO, .ref cS, .ref wY]))]) [0] rfl
  have hDc := hD.sub (ws' := [(q, .inr (12, [.ref aA, .ref aI, .ref aT, .ref aP, .int 0, .int (-1), .int (-1), .int 0, .int 0, .int 0, .int 0, .long 0, .int 0, .int 0, .int 0, .int 0, .ref pI, .int 0, .int 0, .int 0, .int 0, .int 0, .ref nM, .ref vA, .ref tR, .int 0, .int 0, .int 0, .ref rW, .ref sP, .ref oA, .ref bS, .ref aS, .ref aO, .ref cS, .ref wY]))]) [0] (by decide) rfl
  refine raw_Vi (ci := 12) (q0 := 0) (nA := 1) (As := [.int (xs 1)]) (rest := [.int r2]) Z hl.1 (c_X12_end l D cI cM cT q aA aI aT aP pI nM vA tR rW sP oA bS aS aO cS wY (xs 1)) (bw_V bw_1162 bw_1163 bw_1164 bw_92 bw_1165) ⟨by decide +kernel, by decide +kernel, by decide +kernel⟩ rfl ⟨Nat.le_of_ble_eq_true rfl, Nat.le_of_ble_eq_true rfl⟩ rfl rfl rfl hPc hDc hS rfl (Nat.le_of_ble_eq_true rfl) dL_law_440 ⟨Nat.le_of_ble_eq_true rfl, Nat.le_of_ble_eq_true rfl⟩ (fun r5 u4 H1 locs1 h6 hku4 hP1 hD1 hS1 => ?_)
  have hposth6 := h6
  obtain ⟨hP, hD⟩ := z_join (wr := []) Z hS hP hD [0] [] rfl (by decide) rfl (by decide) (by decide) hku4 hP1 hD1
  have hS := hS1
  clear hS1
  generalize H1 = H at hP hS ⊢
  generalize locs1 = locs at hS ⊢
  have hP := va_P_left hP
  have hD := va_D_left hD
  refine lv_icmp_eq (tgt := 997) hx hb dL_law_443 (by decide) (fun c7 => ?_) (fun h => absurd (hposth3.trans hposth6.symm) h)
  exact law_tail Z hX hbl hS (lv_sub hl [0, 1, 2, 3] rfl)
set_option maxHeartbeats 4000000 in
set_option maxRecDepth 100000 in
theorem law_8 {p : Program} {l : Launch} {e : Env} {s : State} {m : MethodId} {below : List Frame} {meth : Method} {c : Code} {b : Nat} {xs : Nat → Int32} {D : va_G} {cI cM cT : ClassId} {H : Heap} {locs : List Loc} {ls : Array Slot} {x : Nat} {st : Nat} {dr : Nat} {nw : Nat} {kp : Nat} {rd : Nat} {tm : Nat} {co : Nat} {rO : Nat} {sT : Nat} {mA : Nat} {sB : Nat} {sA : Nat} {tH : Nat} {tF : Nat} {tS : Nat} {tA : Nat} {lW : Nat} {nA : Nat} {kA : Nat} {tP : Nat} {tX : Nat} {bY : Nat} {ki : Nat} {at_ : Nat} {nu : Nat} {t0 : Nat} {cd : Nat} {lF : Nat} {lT : Nat} {cK : Nat} {cM_ : Nat} {tf : Nat → Option Nat} {q : Nat} {aA : Nat} {aI : Nat} {aT : Nat} {aP : Nat} {pI : Nat} {nM : Nat} {vA : Nat} {tR : Nat} {rW : Nat} {sP : Nat} {oA : Nat} {bS : Nat} {aS : Nat} {aO : Nat} {cS : Nat} {wY : Nat} (Z : Zx p s m #[Value.ref b] meth c code 4 ret R_law (fun q : Nat => s.heap.size ≤ q) (ty3 cI cM cT) D) (hX : va_X b 6 xs s s.heap) (hbl : b < s.heap.size) (htf : tf 0 = some t0) (hP : va_P D vwCl ([(x, .inr (11, [.ref st, .ref dr, .ref nw, .ref kp, .ref rd, .ref tm, .ref co])), (nw, .inr (10, [.ref rO, .ref sT, .ref mA, .ref sB, .ref sA, .ref tH, .ref tF, .ref tS, .int 0, .int 0, .int (-1), .int 0, .int 0])), (dr, .inr (0, [.ref nw, .ref tA, .ref lW, .ref nA, .ref kA, .int 0, .int 0])), (tA, .inl (cT, 4, .inr (.inr (.inr (.inr tf))))), (rd, .inr (2, [.ref tP, .int (-1), .int (-1), .int 0, .int 37, .int 0, .ref tX])), (tP, .inr (7, [.ref bY, .ref ki, .ref at_, .ref nu, .int 0, .int 0])), (ki, .inl (cI, 301, .inl (fun _ => 0))), (at_, .inl (cI, 301, .inl (fun _ => 0))), (nu, .inl (cI, 301, .inl (fun _ => 0))), (t0, .inr (9, [.ref cd, .ref lF, .ref lT, .ref cK, .ref cM_, .int 0, .int 0])), (lF, .inl (cI, 4, .inl (fun _ => 0))), (lT, .inl (cI, 4, .inl (fun _ => 0))), (q, .inr (12, [.ref aA, .ref aI, .ref aT, .ref aP, .int 0, .int (-1), .int (-1), .int 0, .int 0, .int 0, .int 0, .long 0, .int 0, .int 0, .int 0, .int 0, .ref pI, .int 0, .int 0, .int 0, .int 0, .int 0, .ref nM, .ref vA, .ref tR, .int 0, .int 0, .int 0, .ref rW, .ref sP, .ref oA, .ref bS, .ref aS, .ref aO, .ref cS, .ref wY])), (aA, .inl (cI, 862, .inl af0)), (aT, .inl (cI, 2720, .inl (fun _ => 0)))]) H) (hD : va_D (fun q : Nat => s.heap.size ≤ q) ([(x, .inr (11, [.ref st, .ref dr, .ref nw, .ref kp, .ref rd, .ref tm, .ref co])), (nw, .inr (10, [.ref rO, .ref sT, .ref mA, .ref sB, .ref sA, .ref tH, .ref tF, .ref tS, .int 0, .int 0, .int (-1), .int 0, .int 0])), (dr, .inr (0, [.ref nw, .ref tA, .ref lW, .ref nA, .ref kA, .int 0, .int 0])), (tA, .inl (cT, 4, .inr (.inr (.inr (.inr tf))))), (rd, .inr (2, [.ref tP, .int (-1), .int (-1), .int 0, .int 37, .int 0, .ref tX])), (tP, .inr (7, [.ref bY, .ref ki, .ref at_, .ref nu, .int 0, .int 0])), (ki, .inl (cI, 301, .inl (fun _ => 0))), (at_, .inl (cI, 301, .inl (fun _ => 0))), (nu, .inl (cI, 301, .inl (fun _ => 0))), (t0, .inr (9, [.ref cd, .ref lF, .ref lT, .ref cK, .ref cM_, .int 0, .int 0])), (lF, .inl (cI, 4, .inl (fun _ => 0))), (lT, .inl (cI, 4, .inl (fun _ => 0))), (q, .inr (12, [.ref aA, .ref aI, .ref aT, .ref aP, .int 0, .int (-1), .int (-1), .int 0, .int 0, .int 0, .int 0, .long 0, .int 0, .int 0, .int 0, .int 0, .ref pI, .int 0, .int 0, .int 0, .int 0, .int 0, .ref nM, .ref vA, .ref tR, .int 0, .int 0, .int 0, .ref rW, .ref sP, .ref oA, .ref bS, .ref aS, .ref aO, .ref cS, .ref wY])), (aA, .inl (cI, 862, .inl af0)), (aT, .inl (cI, 2720, .inl (fun _ => 0)))])) (hS : va_S (fun q : Nat => s.heap.size ≤ q) s.heap H locs) (hl : lv_has ls 4 [(0, .ref b), (1, .ref x), (2, .ref q), (3, .int 0)]) : W p l e room_1 s m #[Value.ref b] below meth c H locs 300 23000 (lw_Z below #[Value.ref b] s) (F0 m 448 ls []) := by
  have hx := Z.1
  have hb := Z.2.1
  have hbA : ¬ (fun q : Nat => s.heap.size ≤ q) b := Nat.not_le.mpr hbl
  skip
  refine lv_aload_n hx hb dL_law_448 rfl (lv_at hl 1 rfl) ?_
  have hPc := hP.sub2 (wc := [(x, .inr (11, [.ref st, .ref dr, .ref nw, .ref kp, .ref rd, .ref tm, .ref co])), (nw, .inr (10, [.ref rO, .ref sT, .ref mA, .ref sB, .ref sA, .ref tH, .ref tF, .ref tS, .int 0, .int 0, .int (-1), .int 0, .int 0])), (dr, .inr (0, [.ref nw, .ref tA, .ref lW, .ref nA, .ref kA, .int 0, .int 0])), (tA, .inl (cT, 4, .inr (.inr (.inr (.inr tf))))), (rd, .inr (2, [.ref tP, .int (-1), .int (-1), .int 0, .int 37, .int 0, .ref tX])), (tP, .inr (7, [.ref bY, .ref ki, .ref at_, .ref nu, .int 0, .int 0])), (ki, .inl (cI, 301, .inl (fun _ => 0))), (at_, .inl (cI, 301, .inl (fun _ => 0))), (nu, .inl (cI, 301, .inl (fun _ => 0))), (t0, .inr (9, [.ref cd, .ref lF, .ref lT, .ref cK, .ref cM_, .int 0, .int 0])), (lF, .inl (cI, 4, .inl (fun _ => 0))), (lT, .inl (cI, 4, .inl (fun _ => 0)))]) [0, 1, 2, 3, 4, 5, 6, 7, 8, 9, 10, 11] rfl
  have hDc := hD.sub (ws' := [(x, .inr (11, [.ref st, .ref dr, .ref nw, .ref kp, .ref rd, .ref tm, .ref co])), (nw, .inr (10, [.ref rO, .ref sT, .ref mA, .ref sB, .ref sA, .ref tH, .ref tF, .ref tS, .int 0, .int 0, .int (-1), .int 0, .int 0])), (dr, .inr (0, [.ref nw, .ref tA, .ref lW, .ref nA, .ref kA, .int 0, .int 0])), (tA, .inl (cT, 4, .inr (.inr (.inr (.inr tf))))), (rd, .inr (2, [.ref tP, .int (-1), .int (-1), .int 0, .int 37, .int 0, .ref tX])), (tP, .inr (7, [.ref bY, .ref ki, .ref at_, .ref nu, .int 0, .int 0])), (ki, .inl (cI, 301, .inl (fun _ => 0))), (at_, .inl (cI, 301, .inl (fun _ => 0))), (nu, .inl (cI, 301, .inl (fun _ => 0))), (t0, .inr (9, [.ref cd, .ref lF, .ref lT, .ref cK, .ref cM_, .int 0, .int 0])), (lF, .inl (cI, 4, .inl (fun _ => 0))), (lT, .inl (cI, 4, .inl (fun _ => 0)))]) [0, 1, 2, 3, 4, 5, 6, 7, 8, 9, 10, 11] (by decide) rfl
  refine raw_Vi (ci := 11) (q0 := 0) (nA := 0) (As := []) (rest := []) Z hl.1 (c_X11_text l D cI cM cT x st dr nw kp rd tm co rO sT mA sB sA tH tF tS tA lW nA kA tP tX bY ki at_ nu t0 cd lF lT cK cM_ tf htf) (bw_V bw_547 bw_548 bw_549 bw_80 bw_550) ⟨by decide +kernel, by decide +kernel, by decide +kernel⟩ rfl ⟨Nat.le_of_ble_eq_true rfl, Nat.le_of_ble_eq_true rfl⟩ rfl rfl rfl hPc hDc hS rfl (Nat.le_of_ble_eq_true rfl) dL_law_449 ⟨Nat.le_of_ble_eq_true rfl, Nat.le_of_ble_eq_true rfl⟩ (fun r2 u1 H1 locs1 h3 hku1 hP1 hD1 hS1 => ?_)
  have hposth3 := h3
  obtain ⟨hP, hD⟩ := z_join (wr := [(q, .inr (12, [.ref aA, .ref aI, .ref aT, .ref aP, .int 0, .int (-1), .int (-1), .int 0, .int 0, .int 0, .int 0, .long 0, .int 0, .int 0, .int 0, .int 0, .ref pI, .int 0, .int 0, .int 0, .int 0, .int 0, .ref nM, .ref vA, .ref tR, .int 0, .int 0, .int 0, .ref rW, .ref sP, .ref oA, .ref bS, .ref aS, .ref aO, .ref cS, .ref wY])), (aA, .inl (cI, 862, .inl af0)), (aT, .inl (cI, 2720, .inl (fun _ => 0)))]) Z hS hP hD [0, 1, 2, 3, 4, 5, 6, 7, 8, 9, 10, 11] [12, 13, 14] rfl (by decide) rfl (by decide) (by decide) hku1 hP1 hD1
  have hS := hS1
  clear hS1
  generalize H1 = H at hP hS ⊢
  generalize locs1 = locs at hS ⊢
  have hP := va_P_left hP
  have hD := va_D_left hD
  refine lv_aload_n hx hb dL_law_452 rfl (lv_at hl 2 rfl) ?_
  have hPc := hP.sub2 (wc := [(q, .inr (12, [.ref aA, .ref aI, .ref aT, .ref aP, .int 0, .int (-1), .int (-1), .int 0, .int 0, .int 0, .int 0, .long 0, .int 0, .int 0, .int 0, .int 0, .ref pI, .int 0, .int 0, .int 0, .int 0, .int 0, .ref nM, .ref vA, .ref tR, .int 0, .int 0, .int 0, .ref rW, .ref sP, .ref oA, .ref bS, .ref aS, .ref aO, .ref cS, .ref wY])), (aA, .inl (cI, 862, .inl af0)), (aT, .inl (cI, 2720, .inl (fun _ => 0)))]) [0, 1, 2] rfl
  have hDc := hD.sub (ws' := [(q, .inr (12, [.ref aA, .ref aI, .ref aT, .ref aP, .int 0, .int (-1), .int (-1), .int 0, .int 0, .int 0, .int 0, .long 0, .int 0, .int 0, .int 0, .int 0, .ref pI, .int 0, .int 0, .int 0, .int 0, .int 0, .ref nM, .ref vA, .ref tR, .int 0, .int 0, .int 0, .ref rW, .ref sP, .ref oA, .ref bS, .ref aS, .ref aO, .ref cS, .ref wY])), (aA, .inl (cI, 862, .inl af0)), (aT, .inl (cI, 2720, .inl (fun _ => 0)))]) [0, 1, 2] (by decide) rfl
  refine raw_Vi (ci := 12) (q0 := 0) (nA := 0) (As := []) (rest := [.int r2]) Z hl.1 (c_X12_text l D cI cM cT q aA aI aT aP pI nM vA tR rW sP oA bS aS aO cS wY) (bw_V bw_1166 bw_1167 bw_1168 bw_92 bw_1169) ⟨by decide +kernel, by decide +kernel, by decide +kernel⟩ rfl ⟨Nat.le_of_ble_eq_true rfl, Nat.le_of_ble_eq_true rfl⟩ rfl rfl rfl hPc hDc hS rfl (Nat.le_of_ble_eq_true rfl) dL_law_453 ⟨Nat.le_of_ble_eq_true rfl, Nat.le_of_ble_eq_true rfl⟩ (fun r5 u4 H1 locs1 h6 hku4 hP1 hD1 hS1 => ?_)
  have hposth6 := h6
  obtain ⟨hP, hD⟩ := z_join (wr := []) Z hS hP hD [0, 1, 2] [] rfl (by decide) rfl (by decide) (by decide) hku4 hP1 hD1
  have hS := hS1
  clear hS1
  generalize H1 = H at hP hS ⊢
  generalize locs1 = locs at hS ⊢
  have hP := va_P_left hP
  have hD := va_D_left hD
  refine lv_icmp_eq (tgt := 997) hx hb dL_law_456 (by decide) (fun c7 => ?_) (fun h => absurd (hposth3.trans hposth6.symm) h)
  exact law_tail Z hX hbl hS (lv_sub hl [0, 1, 2, 3] rfl)
set_option maxHeartbeats 4000000 in
set_option maxRecDepth 100000 in
theorem law_9 {p : Program} {l : Launch} {e : Env} {s : State} {m : MethodId} {below : List Frame} {meth : Method} {c : Code} {b : Nat} {xs : Nat → Int32} {D : va_G} {cI cM cT : ClassId} {H : Heap} {locs : List Loc} {ls : Array Slot} {x : Nat} {st : Nat} {dr : Nat} {nw : Nat} {kp : Nat} {rd : Nat} {tm : Nat} {co : Nat} {tP : Nat} {tX : Nat} {q : Nat} {aA : Nat} {aI : Nat} {aT : Nat} {aP : Nat} {pI : Nat} {nM : Nat} {vA : Nat} {tR : Nat} {rW : Nat} {sP : Nat} {oA : Nat} {bS : Nat} {aS : Nat} {aO : Nat} {cS : Nat} {wY : Nat} (Z : Zx p s m #[Value.ref b] meth c code 4 ret R_law (fun q : Nat => s.heap.size ≤ q) (ty3 cI cM cT) D) (hX : va_X b 6 xs s s.heap) (hbl : b < s.heap.size) (hP : va_P D vwCl ([(x, .inr (11, [.ref st, .ref dr, .ref nw, .ref kp, .ref rd, .ref tm, .ref co])), (rd, .inr (2, [.ref tP, .int (-1), .int (-1), .int 0, .int 37, .int 0, .ref tX])), (q, .inr (12, [.ref aA, .ref aI, .ref aT, .ref aP, .int 0, .int (-1), .int (-1), .int 0, .int 0, .int 0, .int 0, .long 0, .int 0, .int 0, .int 0, .int 0, .ref pI, .int 0, .int 0, .int 0, .int 0, .int 0, .ref nM, .ref vA, .ref tR, .int 0, .int 0, .int 0, .ref rW, .ref sP, .ref oA, .ref bS, .ref aS, .ref aO, .ref cS, .ref wY]))]) H) (hD : va_D (fun q : Nat => s.heap.size ≤ q) ([(x, .inr (11, [.ref st, .ref dr, .ref nw, .ref kp, .ref rd, .ref tm, .ref co])), (rd, .inr (2, [.ref tP, .int (-1), .int (-1), .int 0, .int 37, .int 0, .ref tX])), (q, .inr (12, [.ref aA, .ref aI, .ref aT, .ref aP, .int 0, .int (-1), .int (-1), .int 0, .int 0, .int 0, .int 0, .long 0, .int 0, .int 0, .int 0, .int 0, .ref pI, .int 0, .int 0, .int 0, .int 0, .int 0, .ref nM, .ref vA, .ref tR, .int 0, .int 0, .int 0, .ref rW, .ref sP, .ref oA, .ref bS, .ref aS, .ref aO, .ref cS, .ref wY]))])) (hS : va_S (fun q : Nat => s.heap.size ≤ q) s.heap H locs) (hl : lv_has ls 4 [(0, .ref b), (1, .ref x), (2, .ref q), (3, .int 0)]) : W p l e room_1 s m #[Value.ref b] below meth c H locs 300 23000 (lw_Z below #[Value.ref b] s) (F0 m 461 ls []) := by
  have hx := Z.1
  have hb := Z.2.1
  have hbA : ¬ (fun q : Nat => s.heap.size ≤ q) b := Nat.not_le.mpr hbl
  skip
  refine lv_aload_n hx hb dL_law_461 rfl (lv_at hl 1 rfl) ?_
  refine lv_aload_n hx hb dL_law_462 rfl (lv_at hl 0 rfl) ?_
  refine lv_iload_n hx hb dL_law_463 rfl (lv_at hl 3 rfl) ?_
  refine lv_iconst (v := 1) hx hb dL_law_464 (by decide) ?_
  refine lv_iadd hx hb dL_law_465 ?_
  refine z_topi (y := 1) (by decide) ?_
  refine va_sld hx hb hX hbl hbA hS (vin (by decide)) dL_law_466 ?_
  refine z_topi (y := xs 1) rfl ?_
  have hPc := hP.sub2 (wc := [(x, .inr (11, [.ref st, .ref dr, .ref nw, .ref kp, .ref rd, .ref tm, .ref co])), (rd, .inr (2, [.ref tP, .int (-1), .int (-1), .int 0, .int 37, .int 0, .ref tX]))]) [0, 1] rfl
  have hDc := hD.sub (ws' := [(x, .inr (11, [.ref st, .ref dr, .ref nw, .ref kp, .ref rd, .ref tm, .ref co])), (rd, .inr (2, [.ref tP, .int (-1), .int (-1), .int 0, .int 37, .int 0, .ref tX]))]) [0, 1] (by decide) rfl
  refine raw_Vi (ci := 11) (q0 := 0) (nA := 1) (As := [.int (xs 1)]) (rest := []) Z hl.1 (c_X11_fault l D cI cM cT x st dr nw kp rd tm co tP tX (xs 1)) (bw_V bw_787 bw_788 bw_789 bw_80 bw_790) ⟨by decide +kernel, by decide +kernel, by decide +kernel⟩ rfl ⟨Nat.le_of_ble_eq_true rfl, Nat.le_of_ble_eq_true rfl⟩ rfl rfl rfl hPc hDc hS rfl (Nat.le_of_ble_eq_true rfl) dL_law_467 ⟨Nat.le_of_ble_eq_true rfl, Nat.le_of_ble_eq_true rfl⟩ (fun r2 u1 H1 locs1 h3 hku1 hP1 hD1 hS1 => ?_)
  have hposth3 := h3
  obtain ⟨hP, hD⟩ := z_join (wr := [(q, .inr (12, [.ref aA, .ref aI, .ref aT, .ref aP, .int 0, .int (-1), .int (-1), .int 0, .int 0, .int 0, .int 0, .long 0, .int 0, .int 0, .int 0, .int 0, .ref pI, .int 0, .int 0, .int 0, .int 0, .int 0, .ref nM, .ref vA, .ref tR, .int 0, .int 0, .int 0, .ref rW, .ref sP, .ref oA, .ref bS, .ref aS, .ref aO, .ref cS, .ref wY]))]) Z hS hP hD [0, 1] [2] rfl (by decide) rfl (by decide) (by decide) hku1 hP1 hD1
  have hS := hS1
  clear hS1
  generalize H1 = H at hP hS ⊢
  generalize locs1 = locs at hS ⊢
  have hP := va_P_left hP
  have hD := va_D_left hD
  refine lv_aload_n hx hb dL_law_470 rfl (lv_at hl 2 rfl) ?_
  refine lv_aload_n hx hb dL_law_471 rfl (lv_at hl 0 rfl) ?_
  refine lv_iload_n hx hb dL_law_472 rfl (lv_at hl 3 rfl) ?_
  refine lv_iconst (v := 1) hx hb dL_law_473 (by decide) ?_
  refine lv_iadd hx hb dL_law_474 ?_
  refine z_topi (y := 1) (by decide) ?_
  refine va_sld hx hb hX hbl hbA hS (vin (by decide)) dL_law_475 ?_
  refine z_topi (y := xs 1) rfl ?_
  have hPc := hP.sub2 (wc := [(q, .inr (12, [.ref aA, .ref aI, .ref aT, .ref aP, .int 0, .int (-1), .int (-1), .int 0, .int 0, .int 0, .int 0, .long 0, .int 0, .int 0, .int 0, .int 0, .ref pI, .int 0, .int 0, .int 0, .int 0, .int 0, .ref nM, .ref vA, .ref tR, .int 0, .int 0, .int 0, .ref rW, .ref sP, .ref oA, .ref bS, .ref aS, .ref aO, .ref cS, .ref wY]))]) [0] rfl
  have hDc := hD.sub (ws' := [(q, .inr (12, [.ref aA, .ref aI, .ref aT, .ref aP, .int 0, .int (-1), .int (-1), .int 0, .int 0, .int 0, .int 0, .long 0, .int 0, .int 0, .int 0, .int 0, .ref pI, .int 0, .int 0, .int 0, .int 0, .int 0, .ref nM, .ref vA, .ref tR, .int 0, .int 0, .int 0, .ref rW, .ref sP, .ref oA, .ref bS, .ref aS, .ref aO, .ref cS, .ref wY]))]) [0] (by decide) rfl
  refine raw_Vi (ci := 12) (q0 := 0) (nA := 1) (As := [.int (xs 1)]) (rest := [.int r2]) Z hl.1 (c_X12_fault l D cI cM cT q aA aI aT aP pI nM vA tR rW sP oA bS aS aO cS wY (xs 1)) (bw_V bw_1286 bw_1287 bw_1288 bw_92 bw_1289) ⟨by decide +kernel, by decide +kernel, by decide +kernel⟩ rfl ⟨Nat.le_of_ble_eq_true rfl, Nat.le_of_ble_eq_true rfl⟩ rfl rfl rfl hPc hDc hS rfl (Nat.le_of_ble_eq_true rfl) dL_law_476 ⟨Nat.le_of_ble_eq_true rfl, Nat.le_of_ble_eq_true rfl⟩ (fun r5 u4 H1 locs1 h6 hku4 hP1 hD1 hS1 => ?_)
  have hposth6 := h6
  obtain ⟨hP, hD⟩ := z_join (wr := []) Z hS hP hD [0] [] rfl (by decide) rfl (by decide) (by decide) hku4 hP1 hD1
  have hS := hS1
  clear hS1
  generalize H1 = H at hP hS ⊢
  generalize locs1 = locs at hS ⊢
  have hP := va_P_left hP
  have hD := va_D_left hD
  refine lv_icmp_eq (tgt := 997) hx hb dL_law_479 (by decide) (fun c7 => ?_) (fun h => absurd (hposth3.trans hposth6.symm) h)
  exact law_tail Z hX hbl hS (lv_sub hl [0, 1, 2, 3] rfl)
set_option maxHeartbeats 4000000 in
set_option maxRecDepth 100000 in
theorem law_10 {p : Program} {l : Launch} {e : Env} {s : State} {m : MethodId} {below : List Frame} {meth : Method} {c : Code} {b : Nat} {xs : Nat → Int32} {D : va_G} {cI cM cT : ClassId} {H : Heap} {locs : List Loc} {ls : Array Slot} {x : Nat} {st : Nat} {dr : Nat} {nw : Nat} {kp : Nat} {rd : Nat} {tm : Nat} {co : Nat} {rO : Nat} {sT : Nat} {mA : Nat} {sB : Nat} {sA : Nat} {tH : Nat} {tF : Nat} {tS : Nat} {s1 : Nat} {s2 : Nat} {s3 : Nat} {q : Nat} {aA : Nat} {aI : Nat} {aT : Nat} {aP : Nat} {pI : Nat} {nM : Nat} {vA : Nat} {tR : Nat} {rW : Nat} {sP : Nat} {oA : Nat} {bS : Nat} {aS : Nat} {aO : Nat} {cS : Nat} {wY : Nat} (Z : Zx p s m #[Value.ref b] meth c code 4 ret R_law (fun q : Nat => s.heap.size ≤ q) (ty3 cI cM cT) D) (hX : va_X b 6 xs s s.heap) (hbl : b < s.heap.size) (hP : va_P D vwCl ([(x, .inr (11, [.ref st, .ref dr, .ref nw, .ref kp, .ref rd, .ref tm, .ref co])), (nw, .inr (10, [.ref rO, .ref sT, .ref mA, .ref sB, .ref sA, .ref tH, .ref tF, .ref tS, .int 0, .int 0, .int (-1), .int 0, .int 0])), (st, .inr (6, [.ref dr, .ref s1, .ref s2, .ref s3, .int 1])), (q, .inr (12, [.ref aA, .ref aI, .ref aT, .ref aP, .int 0, .int (-1), .int (-1), .int 0, .int 0, .int 0, .int 0, .long 0, .int 0, .int 0, .int 0, .int 0, .ref pI, .int 0, .int 0, .int 0, .int 0, .int 0, .ref nM, .ref vA, .ref tR, .int 0, .int 0, .int 0, .ref rW, .ref sP, .ref oA, .ref bS, .ref aS, .ref aO, .ref cS, .ref wY])), (aA, .inl (cI, 862, .inl af0))]) H) (hD : va_D (fun q : Nat => s.heap.size ≤ q) ([(x, .inr (11, [.ref st, .ref dr, .ref nw, .ref kp, .ref rd, .ref tm, .ref co])), (nw, .inr (10, [.ref rO, .ref sT, .ref mA, .ref sB, .ref sA, .ref tH, .ref tF, .ref tS, .int 0, .int 0, .int (-1), .int 0, .int 0])), (st, .inr (6, [.ref dr, .ref s1, .ref s2, .ref s3, .int 1])), (q, .inr (12, [.ref aA, .ref aI, .ref aT, .ref aP, .int 0, .int (-1), .int (-1), .int 0, .int 0, .int 0, .int 0, .long 0, .int 0, .int 0, .int 0, .int 0, .ref pI, .int 0, .int 0, .int 0, .int 0, .int 0, .ref nM, .ref vA, .ref tR, .int 0, .int 0, .int 0, .ref rW, .ref sP, .ref oA, .ref bS, .ref aS, .ref aO, .ref cS, .ref wY])), (aA, .inl (cI, 862, .inl af0))])) (hS : va_S (fun q : Nat => s.heap.size ≤ q) s.heap H locs) (hl : lv_has ls 4 [(0, .ref b), (1, .ref x), (2, .ref q), (3, .int 0)]) : W p l e room_1 s m #[Value.ref b] below meth c H locs 300 23000 (lw_Z below #[Value.ref b] s) (F0 m 484 ls []) := by
  have hx := Z.1
  have hb := Z.2.1
  have hbA : ¬ (fun q : Nat => s.heap.size ≤ q) b := Nat.not_le.mpr hbl
  skip
  refine lv_aload_n hx hb dL_law_484 rfl (lv_at hl 1 rfl) ?_
  refine lv_aload_n hx hb dL_law_485 rfl (lv_at hl 0 rfl) ?_
  refine lv_iload_n hx hb dL_law_486 rfl (lv_at hl 3 rfl) ?_
  refine lv_iconst (v := 1) hx hb dL_law_487 (by decide) ?_
  refine lv_iadd hx hb dL_law_488 ?_
  refine z_topi (y := 1) (by decide) ?_
  refine va_sld hx hb hX hbl hbA hS (vin (by decide)) dL_law_489 ?_
  refine z_topi (y := xs 1) rfl ?_
  have hPc := hP.sub2 (wc := [(x, .inr (11, [.ref st, .ref dr, .ref nw, .ref kp, .ref rd, .ref tm, .ref co])), (nw, .inr (10, [.ref rO, .ref sT, .ref mA, .ref sB, .ref sA, .ref tH, .ref tF, .ref tS, .int 0, .int 0, .int (-1), .int 0, .int 0])), (st, .inr (6, [.ref dr, .ref s1, .ref s2, .ref s3, .int 1]))]) [0, 1, 2] rfl
  have hDc := hD.sub (ws' := [(x, .inr (11, [.ref st, .ref dr, .ref nw, .ref kp, .ref rd, .ref tm, .ref co])), (nw, .inr (10, [.ref rO, .ref sT, .ref mA, .ref sB, .ref sA, .ref tH, .ref tF, .ref tS, .int 0, .int 0, .int (-1), .int 0, .int 0])), (st, .inr (6, [.ref dr, .ref s1, .ref s2, .ref s3, .int 1]))]) [0, 1, 2] (by decide) rfl
  refine raw_Vi (ci := 11) (q0 := 0) (nA := 1) (As := [.int (xs 1)]) (rest := []) Z hl.1 (c_X11_by l D cI cM cT x st dr nw kp rd tm co rO sT mA sB sA tH tF tS s1 s2 s3 (xs 1)) (bw_V bw_791 bw_792 bw_793 bw_80 bw_794) ⟨by decide +kernel, by decide +kernel, by decide +kernel⟩ rfl ⟨Nat.le_of_ble_eq_true rfl, Nat.le_of_ble_eq_true rfl⟩ rfl rfl rfl hPc hDc hS rfl (Nat.le_of_ble_eq_true rfl) dL_law_490 ⟨Nat.le_of_ble_eq_true rfl, Nat.le_of_ble_eq_true rfl⟩ (fun r2 u1 H1 locs1 h3 hku1 hP1 hD1 hS1 => ?_)
  have hposth3 := h3
  obtain ⟨hP, hD⟩ := z_join (wr := [(q, .inr (12, [.ref aA, .ref aI, .ref aT, .ref aP, .int 0, .int (-1), .int (-1), .int 0, .int 0, .int 0, .int 0, .long 0, .int 0, .int 0, .int 0, .int 0, .ref pI, .int 0, .int 0, .int 0, .int 0, .int 0, .ref nM, .ref vA, .ref tR, .int 0, .int 0, .int 0, .ref rW, .ref sP, .ref oA, .ref bS, .ref aS, .ref aO, .ref cS, .ref wY])), (aA, .inl (cI, 862, .inl af0))]) Z hS hP hD [0, 1, 2] [3, 4] rfl (by decide) rfl (by decide) (by decide) hku1 hP1 hD1
  have hS := hS1
  clear hS1
  generalize H1 = H at hP hS ⊢
  generalize locs1 = locs at hS ⊢
  have hP := va_P_left hP
  have hD := va_D_left hD
  refine lv_aload_n hx hb dL_law_493 rfl (lv_at hl 2 rfl) ?_
  refine lv_aload_n hx hb dL_law_494 rfl (lv_at hl 0 rfl) ?_
  refine lv_iload_n hx hb dL_law_495 rfl (lv_at hl 3 rfl) ?_
  refine lv_iconst (v := 1) hx hb dL_law_496 (by decide) ?_
  refine lv_iadd hx hb dL_law_497 ?_
  refine z_topi (y := 1) (by decide) ?_
  refine va_sld hx hb hX hbl hbA hS (vin (by decide)) dL_law_498 ?_
  refine z_topi (y := xs 1) rfl ?_
  have hPc := hP.sub2 (wc := [(q, .inr (12, [.ref aA, .ref aI, .ref aT, .ref aP, .int 0, .int (-1), .int (-1), .int 0, .int 0, .int 0, .int 0, .long 0, .int 0, .int 0, .int 0, .int 0, .ref pI, .int 0, .int 0, .int 0, .int 0, .int 0, .ref nM, .ref vA, .ref tR, .int 0, .int 0, .int 0, .ref rW, .ref sP, .ref oA, .ref bS, .ref aS, .ref aO, .ref cS, .ref wY])), (aA, .inl (cI, 862, .inl af0))]) [0, 1] rfl
  have hDc := hD.sub (ws' := [(q, .inr (12, [.ref aA, .ref aI, .ref aT, .ref aP, .int 0, .int (-1), .int (-1), .int 0, .int 0, .int 0, .int 0, .long 0, .int 0, .int 0, .int 0, .int 0, .ref pI, .int 0, .int 0, .int 0, .int 0, .int 0, .ref nM, .ref vA, .ref tR, .int 0, .int 0, .int 0, .ref rW, .ref sP, .ref oA, .ref bS, .ref aS, .ref aO, .ref cS, .ref wY])), (aA, .inl (cI, 862, .inl af0))]) [0, 1] (by decide) rfl
  refine raw_Vi (ci := 12) (q0 := 0) (nA := 1) (As := [.int (xs 1)]) (rest := [.int r2]) Z hl.1 (c_X12_by l D cI cM cT q aA aI aT aP pI nM vA tR rW sP oA bS aS aO cS wY (xs 1)) (bw_V bw_1290 bw_1291 bw_1292 bw_92 bw_1293) ⟨by decide +kernel, by decide +kernel, by decide +kernel⟩ rfl ⟨Nat.le_of_ble_eq_true rfl, Nat.le_of_ble_eq_true rfl⟩ rfl rfl rfl hPc hDc hS rfl (Nat.le_of_ble_eq_true rfl) dL_law_499 ⟨Nat.le_of_ble_eq_true rfl, Nat.le_of_ble_eq_true rfl⟩ (fun r5 u4 H1 locs1 h6 hku4 hP1 hD1 hS1 => ?_)
  have hposth6 := h6
  obtain ⟨hP, hD⟩ := z_join (wr := []) Z hS hP hD [0, 1] [] rfl (by decide) rfl (by decide) (by decide) hku4 hP1 hD1
  have hS := hS1
  clear hS1
  generalize H1 = H at hP hS ⊢
  generalize locs1 = locs at hS ⊢
  have hP := va_P_left hP
  have hD := va_D_left hD
  refine lv_icmp_eq (tgt := 997) hx hb dL_law_502 (by decide) (fun c7 => ?_) (fun h => absurd (hposth3.trans hposth6.symm) h)
  exact law_tail Z hX hbl hS (lv_sub hl [0, 1, 2, 3] rfl)
set_option maxHeartbeats 4000000 in
set_option maxRecDepth 100000 in
theorem law_11 {p : Program} {l : Launch} {e : Env} {s : State} {m : MethodId} {below : List Frame} {meth : Method} {c : Code} {b : Nat} {xs : Nat → Int32} {D : va_G} {cI cM cT : ClassId} {H : Heap} {locs : List Loc} {ls : Array Slot} {x : Nat} {st : Nat} {dr : Nat} {nw : Nat} {kp : Nat} {rd : Nat} {tm : Nat} {co : Nat} {rO : Nat} {sT : Nat} {mA : Nat} {sB : Nat} {sA : Nat} {tH : Nat} {tF : Nat} {tS : Nat} {iA : Nat} {rG : Nat} {q : Nat} {aA : Nat} {aI : Nat} {aT : Nat} {aP : Nat} {pI : Nat} {nM : Nat} {vA : Nat} {tR : Nat} {rW : Nat} {sP : Nat} {oA : Nat} {bS : Nat} {aS : Nat} {aO : Nat} {cS : Nat} {wY : Nat} (Z : Zx p s m #[Value.ref b] meth c code 4 ret R_law (fun q : Nat => s.heap.size ≤ q) (ty3 cI cM cT) D) (hX : va_X b 6 xs s s.heap) (hbl : b < s.heap.size) (hP : va_P D vwCl ([(x, .inr (11, [.ref st, .ref dr, .ref nw, .ref kp, .ref rd, .ref tm, .ref co])), (nw, .inr (10, [.ref rO, .ref sT, .ref mA, .ref sB, .ref sA, .ref tH, .ref tF, .ref tS, .int 0, .int 0, .int (-1), .int 0, .int 0])), (mA, .inr (1, [.ref iA, .int 0, .int 0, .int 0, .int 0, .int 0, .int 13])), (sB, .inr (5, [.ref rG, .int 0, .int 0])), (q, .inr (12, [.ref aA, .ref aI, .ref aT, .ref aP, .int 0, .int (-1), .int (-1), .int 0, .int 0, .int 0, .int 0, .long 0, .int 0, .int 0, .int 0, .int 0, .ref pI, .int 0, .int 0, .int 0, .int 0, .int 0, .ref nM, .ref vA, .ref tR, .int 0, .int 0, .int 0, .ref rW, .ref sP, .ref oA, .ref bS, .ref aS, .ref aO, .ref cS, .ref wY])), (aA, .inl (cI, 862, .inl af0))]) H) (hD : va_D (fun q : Nat => s.heap.size ≤ q) ([(x, .inr (11, [.ref st, .ref dr, .ref nw, .ref kp, .ref rd, .ref tm, .ref co])), (nw, .inr (10, [.ref rO, .ref sT, .ref mA, .ref sB, .ref sA, .ref tH, .ref tF, .ref tS, .int 0, .int 0, .int (-1), .int 0, .int 0])), (mA, .inr (1, [.ref iA, .int 0, .int 0, .int 0, .int 0, .int 0, .int 13])), (sB, .inr (5, [.ref rG, .int 0, .int 0])), (q, .inr (12, [.ref aA, .ref aI, .ref aT, .ref aP, .int 0, .int (-1), .int (-1), .int 0, .int 0, .int 0, .int 0, .long 0, .int 0, .int 0, .int 0, .int 0, .ref pI, .int 0, .int 0, .int 0, .int 0, .int 0, .ref nM, .ref vA, .ref tR, .int 0, .int 0, .int 0, .ref rW, .ref sP, .ref oA, .ref bS, .ref aS, .ref aO, .ref cS, .ref wY])), (aA, .inl (cI, 862, .inl af0))])) (hS : va_S (fun q : Nat => s.heap.size ≤ q) s.heap H locs) (hl : lv_has ls 4 [(0, .ref b), (1, .ref x), (2, .ref q), (3, .int 0)]) : W p l e room_1 s m #[Value.ref b] below meth c H locs 300 23000 (lw_Z below #[Value.ref b] s) (F0 m 507 ls []) := by
  have hx := Z.1
  have hb := Z.2.1
  have hbA : ¬ (fun q : Nat => s.heap.size ≤ q) b := Nat.not_le.mpr hbl
  skip
  refine lv_aload_n hx hb dL_law_507 rfl (lv_at hl 1 rfl) ?_
  refine lv_aload_n hx hb dL_law_508 rfl (lv_at hl 0 rfl) ?_
  refine lv_iload_n hx hb dL_law_509 rfl (lv_at hl 3 rfl) ?_
  refine lv_iconst (v := 1) hx hb dL_law_510 (by decide) ?_
  refine lv_iadd hx hb dL_law_511 ?_
  refine z_topi (y := 1) (by decide) ?_
  refine va_sld hx hb hX hbl hbA hS (vin (by decide)) dL_law_512 ?_
  refine z_topi (y := xs 1) rfl ?_
  have hPc := hP.sub2 (wc := [(x, .inr (11, [.ref st, .ref dr, .ref nw, .ref kp, .ref rd, .ref tm, .ref co])), (nw, .inr (10, [.ref rO, .ref sT, .ref mA, .ref sB, .ref sA, .ref tH, .ref tF, .ref tS, .int 0, .int 0, .int (-1), .int 0, .int 0])), (mA, .inr (1, [.ref iA, .int 0, .int 0, .int 0, .int 0, .int 0, .int 13])), (sB, .inr (5, [.ref rG, .int 0, .int 0]))]) [0, 1, 2, 3] rfl
  have hDc := hD.sub (ws' := [(x, .inr (11, [.ref st, .ref dr, .ref nw, .ref kp, .ref rd, .ref tm, .ref co])), (nw, .inr (10, [.ref rO, .ref sT, .ref mA, .ref sB, .ref sA, .ref tH, .ref tF, .ref tS, .int 0, .int 0, .int (-1), .int 0, .int 0])), (mA, .inr (1, [.ref iA, .int 0, .int 0, .int 0, .int 0, .int 0, .int 13])), (sB, .inr (5, [.ref rG, .int 0, .int 0]))]) [0, 1, 2, 3] (by decide) rfl
  refine raw_Vi (ci := 11) (q0 := 0) (nA := 1) (As := [.int (xs 1)]) (rest := []) Z hl.1 (c_X11_start l D cI cM cT x st dr nw kp rd tm co rO sT mA sB sA tH tF tS iA rG (xs 1)) (bw_V bw_795 bw_796 bw_797 bw_80 bw_798) ⟨by decide +kernel, by decide +kernel, by decide +kernel⟩ rfl ⟨Nat.le_of_ble_eq_true rfl, Nat.le_of_ble_eq_true rfl⟩ rfl rfl rfl hPc hDc hS rfl (Nat.le_of_ble_eq_true rfl) dL_law_513 ⟨Nat.le_of_ble_eq_true rfl, Nat.le_of_ble_eq_true rfl⟩ (fun r2 u1 H1 locs1 h3 hku1 hP1 hD1 hS1 => ?_)
  have hposth3 := h3
  obtain ⟨hP, hD⟩ := z_join (wr := [(q, .inr (12, [.ref aA, .ref aI, .ref aT, .ref aP, .int 0, .int (-1), .int (-1), .int 0, .int 0, .int 0, .int 0, .long 0, .int 0, .int 0, .int 0, .int 0, .ref pI, .int 0, .int 0, .int 0, .int 0, .int 0, .ref nM, .ref vA, .ref tR, .int 0, .int 0, .int 0, .ref rW, .ref sP, .ref oA, .ref bS, .ref aS, .ref aO, .ref cS, .ref wY])), (aA, .inl (cI, 862, .inl af0))]) Z hS hP hD [0, 1, 2, 3] [4, 5] rfl (by decide) rfl (by decide) (by decide) hku1 hP1 hD1
  have hS := hS1
  clear hS1
  generalize H1 = H at hP hS ⊢
  generalize locs1 = locs at hS ⊢
  have hP := va_P_left hP
  have hD := va_D_left hD
  refine lv_aload_n hx hb dL_law_516 rfl (lv_at hl 2 rfl) ?_
  refine lv_aload_n hx hb dL_law_517 rfl (lv_at hl 0 rfl) ?_
  refine lv_iload_n hx hb dL_law_518 rfl (lv_at hl 3 rfl) ?_
  refine lv_iconst (v := 1) hx hb dL_law_519 (by decide) ?_
  refine lv_iadd hx hb dL_law_520 ?_
  refine z_topi (y := 1) (by decide) ?_
  refine va_sld hx hb hX hbl hbA hS (vin (by decide)) dL_law_521 ?_
  refine z_topi (y := xs 1) rfl ?_
  have hPc := hP.sub2 (wc := [(q, .inr (12, [.ref aA, .ref aI, .ref aT, .ref aP, .int 0, .int (-1), .int (-1), .int 0, .int 0, .int 0, .int 0, .long 0, .int 0, .int 0, .int 0, .int 0, .ref pI, .int 0, .int 0, .int 0, .int 0, .int 0, .ref nM, .ref vA, .ref tR, .int 0, .int 0, .int 0, .ref rW, .ref sP, .ref oA, .ref bS, .ref aS, .ref aO, .ref cS, .ref wY])), (aA, .inl (cI, 862, .inl af0))]) [0, 1] rfl
  have hDc := hD.sub (ws' := [(q, .inr (12, [.ref aA, .ref aI, .ref aT, .ref aP, .int 0, .int (-1), .int (-1), .int 0, .int 0, .int 0, .int 0, .long 0, .int 0, .int 0, .int 0, .int 0, .ref pI, .int 0, .int 0, .int 0, .int 0, .int 0, .ref nM, .ref vA, .ref tR, .int 0, .int 0, .int 0, .ref rW, .ref sP, .ref oA, .ref bS, .ref aS, .ref aO, .ref cS, .ref wY])), (aA, .inl (cI, 862, .inl af0))]) [0, 1] (by decide) rfl
  refine raw_Vi (ci := 12) (q0 := 0) (nA := 1) (As := [.int (xs 1)]) (rest := [.int r2]) Z hl.1 (c_X12_start l D cI cM cT q aA aI aT aP pI nM vA tR rW sP oA bS aS aO cS wY (xs 1)) (bw_V bw_1356 bw_1357 bw_1358 bw_92 bw_1359) ⟨by decide +kernel, by decide +kernel, by decide +kernel⟩ rfl ⟨Nat.le_of_ble_eq_true rfl, Nat.le_of_ble_eq_true rfl⟩ rfl rfl rfl hPc hDc hS rfl (Nat.le_of_ble_eq_true rfl) dL_law_522 ⟨Nat.le_of_ble_eq_true rfl, Nat.le_of_ble_eq_true rfl⟩ (fun r5 u4 H1 locs1 h6 hku4 hP1 hD1 hS1 => ?_)
  have hposth6 := h6
  obtain ⟨hP, hD⟩ := z_join (wr := []) Z hS hP hD [0, 1] [] rfl (by decide) rfl (by decide) (by decide) hku4 hP1 hD1
  have hS := hS1
  clear hS1
  generalize H1 = H at hP hS ⊢
  generalize locs1 = locs at hS ⊢
  have hP := va_P_left hP
  have hD := va_D_left hD
  refine lv_icmp_eq (tgt := 997) hx hb dL_law_525 (by decide) (fun c7 => ?_) (fun h => absurd (hposth3.trans hposth6.symm) h)
  exact law_tail Z hX hbl hS (lv_sub hl [0, 1, 2, 3] rfl)
set_option maxHeartbeats 4000000 in
set_option maxRecDepth 100000 in
theorem law_12 {p : Program} {l : Launch} {e : Env} {s : State} {m : MethodId} {below : List Frame} {meth : Method} {c : Code} {b : Nat} {xs : Nat → Int32} {D : va_G} {cI cM cT : ClassId} {H : Heap} {locs : List Loc} {ls : Array Slot} {x : Nat} {st : Nat} {dr : Nat} {nw : Nat} {kp : Nat} {rd : Nat} {tm : Nat} {co : Nat} {rO : Nat} {sT : Nat} {mA : Nat} {sB : Nat} {sA : Nat} {tH : Nat} {tF : Nat} {tS : Nat} {cO : Nat} {sH : Nat} {q : Nat} {aA : Nat} {aI : Nat} {aT : Nat} {aP : Nat} {pI : Nat} {nM : Nat} {vA : Nat} {tR : Nat} {rW : Nat} {sP : Nat} {oA : Nat} {bS : Nat} {aS : Nat} {aO : Nat} {cS : Nat} {wY : Nat} (Z : Zx p s m #[Value.ref b] meth c code 4 ret R_law (fun q : Nat => s.heap.size ≤ q) (ty3 cI cM cT) D) (hX : va_X b 6 xs s s.heap) (hbl : b < s.heap.size) (hP : va_P D vwCl ([(x, .inr (11, [.ref st, .ref dr, .ref nw, .ref kp, .ref rd, .ref tm, .ref co])), (nw, .inr (10, [.ref rO, .ref sT, .ref mA, .ref sB, .ref sA, .ref tH, .ref tF, .ref tS, .int 0, .int 0, .int (-1), .int 0, .int 0])), (sT, .inr (4, [.ref cO, .ref sH, .int 0])), (q, .inr (12, [.ref aA, .ref aI, .ref aT, .ref aP, .int 0, .int (-1), .int (-1), .int 0, .int 0, .int 0, .int 0, .long 0, .int 0, .int 0, .int 0, .int 0, .ref pI, .int 0, .int 0, .int 0, .int 0, .int 0, .ref nM, .ref vA, .ref tR, .int 0, .int 0, .int 0, .ref rW, .ref sP, .ref oA, .ref bS, .ref aS, .ref aO, .ref cS, .ref wY])), (aA, .inl (cI, 862, .inl af0))]) H) (hD : va_D (fun q : Nat => s.heap.size ≤ q) ([(x, .inr (11, [.ref st, .ref dr, .ref nw, .ref kp, .ref rd, .ref tm, .ref co])), (nw, .inr (10, [.ref rO, .ref sT, .ref mA, .ref sB, .ref sA, .ref tH, .ref tF, .ref tS, .int 0, .int 0, .int (-1), .int 0, .int 0])), (sT, .inr (4, [.ref cO, .ref sH, .int 0])), (q, .inr (12, [.ref aA, .ref aI, .ref aT, .ref aP, .int 0, .int (-1), .int (-1), .int 0, .int 0, .int 0, .int 0, .long 0, .int 0, .int 0, .int 0, .int 0, .ref pI, .int 0, .int 0, .int 0, .int 0, .int 0, .ref nM, .ref vA, .ref tR, .int 0, .int 0, .int 0, .ref rW, .ref sP, .ref oA, .ref bS, .ref aS, .ref aO, .ref cS, .ref wY])), (aA, .inl (cI, 862, .inl af0))])) (hS : va_S (fun q : Nat => s.heap.size ≤ q) s.heap H locs) (hl : lv_has ls 4 [(0, .ref b), (1, .ref x), (2, .ref q), (3, .int 0)]) : W p l e room_1 s m #[Value.ref b] below meth c H locs 300 23000 (lw_Z below #[Value.ref b] s) (F0 m 530 ls []) := by
  have hx := Z.1
  have hb := Z.2.1
  have hbA : ¬ (fun q : Nat => s.heap.size ≤ q) b := Nat.not_le.mpr hbl
  skip
  refine lv_aload_n hx hb dL_law_530 rfl (lv_at hl 1 rfl) ?_
  refine lv_aload_n hx hb dL_law_531 rfl (lv_at hl 0 rfl) ?_
  refine lv_iload_n hx hb dL_law_532 rfl (lv_at hl 3 rfl) ?_
  refine lv_iconst (v := 1) hx hb dL_law_533 (by decide) ?_
  refine lv_iadd hx hb dL_law_534 ?_
  refine z_topi (y := 1) (by decide) ?_
  refine va_sld hx hb hX hbl hbA hS (vin (by decide)) dL_law_535 ?_
  refine z_topi (y := xs 1) rfl ?_
  refine lv_aload_n hx hb dL_law_536 rfl (lv_at hl 0 rfl) ?_
  refine lv_iload_n hx hb dL_law_537 rfl (lv_at hl 3 rfl) ?_
  refine lv_iconst (v := 2) hx hb dL_law_538 (by decide) ?_
  refine lv_iadd hx hb dL_law_539 ?_
  refine z_topi (y := 2) (by decide) ?_
  refine va_sld hx hb hX hbl hbA hS (vin (by decide)) dL_law_540 ?_
  refine z_topi (y := xs 2) rfl ?_
  refine lv_aload_n hx hb dL_law_541 rfl (lv_at hl 0 rfl) ?_
  refine lv_iload_n hx hb dL_law_542 rfl (lv_at hl 3 rfl) ?_
  refine lv_iconst (v := 3) hx hb dL_law_543 (by decide) ?_
  refine lv_iadd hx hb dL_law_544 ?_
  refine z_topi (y := 3) (by decide) ?_
  refine va_sld hx hb hX hbl hbA hS (vin (by decide)) dL_law_545 ?_
  refine z_topi (y := xs 3) rfl ?_
  have hPc := hP.sub2 (wc := [(x, .inr (11, [.ref st, .ref dr, .ref nw, .ref kp, .ref rd, .ref tm, .ref co])), (nw, .inr (10, [.ref rO, .ref sT, .ref mA, .ref sB, .ref sA, .ref tH, .ref tF, .ref tS, .int 0, .int 0, .int (-1), .int 0, .int 0])), (sT, .inr (4, [.ref cO, .ref sH, .int 0]))]) [0, 1, 2] rfl
  have hDc := hD.sub (ws' := [(x, .inr (11, [.ref st, .ref dr, .ref nw, .ref kp, .ref rd, .ref tm, .ref co])), (nw, .inr (10, [.ref rO, .ref sT, .ref mA, .ref sB, .ref sA, .ref tH, .ref tF, .ref tS, .int 0, .int 0, .int (-1), .int 0, .int 0])), (sT, .inr (4, [.ref cO, .ref sH, .int 0]))]) [0, 1, 2] (by decide) rfl
  refine raw_Vi (ci := 11) (q0 := 0) (nA := 3) (As := [.int (xs 1), .int (xs 2), .int (xs 3)]) (rest := []) Z hl.1 (c_X11_would l D cI cM cT x st dr nw kp rd tm co rO sT mA sB sA tH tF tS cO sH (xs 1) (xs 2) (xs 3)) (bw_V bw_799 bw_800 bw_801 bw_80 bw_802) ⟨by decide +kernel, by decide +kernel, by decide +kernel⟩ rfl ⟨Nat.le_of_ble_eq_true rfl, Nat.le_of_ble_eq_true rfl⟩ rfl rfl rfl hPc hDc hS rfl (Nat.le_of_ble_eq_true rfl) dL_law_546 ⟨Nat.le_of_ble_eq_true rfl, Nat.le_of_ble_eq_true rfl⟩ (fun r2 u1 H1 locs1 h3 hku1 hP1 hD1 hS1 => ?_)
  have hposth3 := h3
  obtain ⟨hP, hD⟩ := z_join (wr := [(q, .inr (12, [.ref aA, .ref aI, .ref aT, .ref aP, .int 0, .int (-1), .int (-1), .int 0, .int 0, .int 0, .int 0, .long 0, .int 0, .int 0, .int 0, .int 0, .ref pI, .int 0, .int 0, .int 0, .int 0, .int 0, .ref nM, .ref vA, .ref tR, .int 0, .int 0, .int 0, .ref rW, .ref sP, .ref oA, .ref bS, .ref aS, .ref aO, .ref cS, .ref wY])), (aA, .inl (cI, 862, .inl af0))]) Z hS hP hD [0, 1, 2] [3, 4] rfl (by decide) rfl (by decide) (by decide) hku1 hP1 hD1
  have hS := hS1
  clear hS1
  generalize H1 = H at hP hS ⊢
  generalize locs1 = locs at hS ⊢
  have hP := va_P_left hP
  have hD := va_D_left hD
  refine lv_aload_n hx hb dL_law_549 rfl (lv_at hl 2 rfl) ?_
  refine lv_aload_n hx hb dL_law_550 rfl (lv_at hl 0 rfl) ?_
  refine lv_iload_n hx hb dL_law_551 rfl (lv_at hl 3 rfl) ?_
  refine lv_iconst (v := 1) hx hb dL_law_552 (by decide) ?_
  refine lv_iadd hx hb dL_law_553 ?_
  refine z_topi (y := 1) (by decide) ?_
  refine va_sld hx hb hX hbl hbA hS (vin (by decide)) dL_law_554 ?_
  refine z_topi (y := xs 1) rfl ?_
  refine lv_aload_n hx hb dL_law_555 rfl (lv_at hl 0 rfl) ?_
  refine lv_iload_n hx hb dL_law_556 rfl (lv_at hl 3 rfl) ?_
  refine lv_iconst (v := 2) hx hb dL_law_557 (by decide) ?_
  refine lv_iadd hx hb dL_law_558 ?_
  refine z_topi (y := 2) (by decide) ?_
  refine va_sld hx hb hX hbl hbA hS (vin (by decide)) dL_law_559 ?_
  refine z_topi (y := xs 2) rfl ?_
  refine lv_aload_n hx hb dL_law_560 rfl (lv_at hl 0 rfl) ?_
  refine lv_iload_n hx hb dL_law_561 rfl (lv_at hl 3 rfl) ?_
  refine lv_iconst (v := 3) hx hb dL_law_562 (by decide) ?_
  refine lv_iadd hx hb dL_law_563 ?_
  refine z_topi (y := 3) (by decide) ?_
  refine va_sld hx hb hX hbl hbA hS (vin (by decide)) dL_law_564 ?_
  refine z_topi (y := xs 3) rfl ?_
  have hPc := hP.sub2 (wc := [(q, .inr (12, [.ref aA, .ref aI, .ref aT, .ref aP, .int 0, .int (-1), .int (-1), .int 0, .int 0, .int 0, .int 0, .long 0, .int 0, .int 0, .int 0, .int 0, .ref pI, .int 0, .int 0, .int 0, .int 0, .int 0, .ref nM, .ref vA, .ref tR, .int 0, .int 0, .int 0, .ref rW, .ref sP, .ref oA, .ref bS, .ref aS, .ref aO, .ref cS, .ref wY])), (aA, .inl (cI, 862, .inl af0))]) [0, 1] rfl
  have hDc := hD.sub (ws' := [(q, .inr (12, [.ref aA, .ref aI, .ref aT, .ref aP, .int 0, .int (-1), .int (-1), .int 0, .int 0, .int 0, .int 0, .long 0, .int 0, .int 0, .int 0, .int 0, .ref pI, .int 0, .int 0, .int 0, .int 0, .int 0, .ref nM, .ref vA, .ref tR, .int 0, .int 0, .int 0, .ref rW, .ref sP, .ref oA, .ref bS, .ref aS, .ref aO, .ref cS, .ref wY])), (aA, .inl (cI, 862, .inl af0))]) [0, 1] (by decide) rfl
  refine raw_Vi (ci := 12) (q0 := 0) (nA := 3) (As := [.int (xs 1), .int (xs 2), .int (xs 3)]) (rest := [.int r2]) Z hl.1 (c_X12_would l D cI cM cT q aA aI aT aP pI nM vA tR rW sP oA bS aS aO cS wY (xs 1) (xs 2) (xs 3)) (bw_V bw_1294 bw_1295 bw_1296 bw_92 bw_1297) ⟨by decide +kernel, by decide +kernel, by decide +kernel⟩ rfl ⟨Nat.le_of_ble_eq_true rfl, Nat.le_of_ble_eq_true rfl⟩ rfl rfl rfl hPc hDc hS rfl (Nat.le_of_ble_eq_true rfl) dL_law_565 ⟨Nat.le_of_ble_eq_true rfl, Nat.le_of_ble_eq_true rfl⟩ (fun r5 u4 H1 locs1 h6 hku4 hP1 hD1 hS1 => ?_)
  have hposth6 := h6
  obtain ⟨hP, hD⟩ := z_join (wr := []) Z hS hP hD [0, 1] [] rfl (by decide) rfl (by decide) (by decide) hku4 hP1 hD1
  have hS := hS1
  clear hS1
  generalize H1 = H at hP hS ⊢
  generalize locs1 = locs at hS ⊢
  have hP := va_P_left hP
  have hD := va_D_left hD
  refine lv_icmp_eq (tgt := 997) hx hb dL_law_568 (by decide) (fun c7 => ?_) (fun h => absurd (hposth3.trans hposth6.symm) h)
  exact law_tail Z hX hbl hS (lv_sub hl [0, 1, 2, 3] rfl)
set_option maxHeartbeats 4000000 in
set_option maxRecDepth 100000 in
theorem law_13 {p : Program} {l : Launch} {e : Env} {s : State} {m : MethodId} {below : List Frame} {meth : Method} {c : Code} {b : Nat} {xs : Nat → Int32} {D : va_G} {cI cM cT : ClassId} {H : Heap} {locs : List Loc} {ls : Array Slot} {x : Nat} {st : Nat} {dr : Nat} {nw : Nat} {kp : Nat} {rd : Nat} {tm : Nat} {co : Nat} {rO : Nat} {sT : Nat} {mA : Nat} {sB : Nat} {sA : Nat} {tH : Nat} {tF : Nat} {tS : Nat} {cO : Nat} {sH : Nat} {iA : Nat} {q : Nat} {aA : Nat} {aI : Nat} {aT : Nat} {aP : Nat} {pI : Nat} {nM : Nat} {vA : Nat} {tR : Nat} {rW : Nat} {sP : Nat} {oA : Nat} {bS : Nat} {aS : Nat} {aO : Nat} {cS : Nat} {wY : Nat} (Z : Zx p s m #[Value.ref b] meth c code 4 ret R_law (fun q : Nat => s.heap.size ≤ q) (ty3 cI cM cT) D) (hX : va_X b 6 xs s s.heap) (hbl : b < s.heap.size) (hP : va_P D vwCl ([(x, .inr (11, [.ref st, .ref dr, .ref nw, .ref kp, .ref rd, .ref tm, .ref co])), (nw, .inr (10, [.ref rO, .ref sT, .ref mA, .ref sB, .ref sA, .ref tH, .ref tF, .ref tS, .int 0, .int 0, .int (-1), .int 0, .int 0])), (sT, .inr (4, [.ref cO, .ref sH, .int 0])), (mA, .inr (1, [.ref iA, .int 0, .int 0, .int 0, .int 0, .int 0, .int 13])), (q, .inr (12, [.ref aA, .ref aI, .ref aT, .ref aP, .int 0, .int (-1), .int (-1), .int 0, .int 0, .int 0, .int 0, .long 0, .int 0, .int 0, .int 0, .int 0, .ref pI, .int 0, .int 0, .int 0, .int 0, .int 0, .ref nM, .ref vA, .ref tR, .int 0, .int 0, .int 0, .ref rW, .ref sP, .ref oA, .ref bS, .ref aS, .ref aO, .ref cS, .ref wY])), (aA, .inl (cI, 862, .inl af0))]) H) (hD : va_D (fun q : Nat => s.heap.size ≤ q) ([(x, .inr (11, [.ref st, .ref dr, .ref nw, .ref kp, .ref rd, .ref tm, .ref co])), (nw, .inr (10, [.ref rO, .ref sT, .ref mA, .ref sB, .ref sA, .ref tH, .ref tF, .ref tS, .int 0, .int 0, .int (-1), .int 0, .int 0])), (sT, .inr (4, [.ref cO, .ref sH, .int 0])), (mA, .inr (1, [.ref iA, .int 0, .int 0, .int 0, .int 0, .int 0, .int 13])), (q, .inr (12, [.ref aA, .ref aI, .ref aT, .ref aP, .int 0, .int (-1), .int (-1), .int 0, .int 0, .int 0, .int 0, .long 0, .int 0, .int 0, .int 0, .int 0, .ref pI, .int 0, .int 0, .int 0, .int 0, .int 0, .ref nM, .ref vA, .ref tR, .int 0, .int 0, .int 0, .ref rW, .ref sP, .ref oA, .ref bS, .ref aS, .ref aO, .ref cS, .ref wY])), (aA, .inl (cI, 862, .inl af0))])) (hS : va_S (fun q : Nat => s.heap.size ≤ q) s.heap H locs) (hl : lv_has ls 4 [(0, .ref b), (1, .ref x), (2, .ref q), (3, .int 0)]) : W p l e room_1 s m #[Value.ref b] below meth c H locs 300 23000 (lw_Z below #[Value.ref b] s) (F0 m 573 ls []) := by
  have hx := Z.1
  have hb := Z.2.1
  have hbA : ¬ (fun q : Nat => s.heap.size ≤ q) b := Nat.not_le.mpr hbl
  skip
  refine lv_aload_n hx hb dL_law_573 rfl (lv_at hl 1 rfl) ?_
  refine lv_aload_n hx hb dL_law_574 rfl (lv_at hl 0 rfl) ?_
  refine lv_iload_n hx hb dL_law_575 rfl (lv_at hl 3 rfl) ?_
  refine lv_iconst (v := 1) hx hb dL_law_576 (by decide) ?_
  refine lv_iadd hx hb dL_law_577 ?_
  refine z_topi (y := 1) (by decide) ?_
  refine va_sld hx hb hX hbl hbA hS (vin (by decide)) dL_law_578 ?_
  refine z_topi (y := xs 1) rfl ?_
  have hPc := hP.sub2 (wc := [(x, .inr (11, [.ref st, .ref dr, .ref nw, .ref kp, .ref rd, .ref tm, .ref co])), (nw, .inr (10, [.ref rO, .ref sT, .ref mA, .ref sB, .ref sA, .ref tH, .ref tF, .ref tS, .int 0, .int 0, .int (-1), .int 0, .int 0])), (sT, .inr (4, [.ref cO, .ref sH, .int 0])), (mA, .inr (1, [.ref iA, .int 0, .int 0, .int 0, .int 0, .int 0, .int 13]))]) [0, 1, 2, 3] rfl
  have hDc := hD.sub (ws' := [(x, .inr (11, [.ref st, .ref dr, .ref nw, .ref kp, .ref rd, .ref tm, .ref co])), (nw, .inr (10, [.ref rO, .ref sT, .ref mA, .ref sB, .ref sA, .ref tH, .ref tF, .ref tS, .int 0, .int 0, .int (-1), .int 0, .int 0])), (sT, .inr (4, [.ref cO, .ref sH, .int 0])), (mA, .inr (1, [.ref iA, .int 0, .int 0, .int 0, .int 0, .int 0, .int 13]))]) [0, 1, 2, 3] (by decide) rfl
  refine raw_Vi (ci := 11) (q0 := 0) (nA := 1) (As := [.int (xs 1)]) (rest := []) Z hl.1 (c_X11_drive l D cI cM cT x st dr nw kp rd tm co rO sT mA sB sA tH tF tS cO sH iA (xs 1)) (bw_V bw_867 bw_868 bw_869 bw_80 bw_870) ⟨by decide +kernel, by decide +kernel, by decide +kernel⟩ rfl ⟨Nat.le_of_ble_eq_true rfl, Nat.le_of_ble_eq_true rfl⟩ rfl rfl rfl hPc hDc hS rfl (Nat.le_of_ble_eq_true rfl) dL_law_579 ⟨Nat.le_of_ble_eq_true rfl, Nat.le_of_ble_eq_true rfl⟩ (fun r2 u1 H1 locs1 h3 hku1 hP1 hD1 hS1 => ?_)
  have hposth3 := h3
  obtain ⟨hP, hD⟩ := z_join (wr := [(q, .inr (12, [.ref aA, .ref aI, .ref aT, .ref aP, .int 0, .int (-1), .int (-1), .int 0, .int 0, .int 0, .int 0, .long 0, .int 0, .int 0, .int 0, .int 0, .ref pI, .int 0, .int 0, .int 0, .int 0, .int 0, .ref nM, .ref vA, .ref tR, .int 0, .int 0, .int 0, .ref rW, .ref sP, .ref oA, .ref bS, .ref aS, .ref aO, .ref cS, .ref wY])), (aA, .inl (cI, 862, .inl af0))]) Z hS hP hD [0, 1, 2, 3] [4, 5] rfl (by decide) rfl (by decide) (by decide) hku1 hP1 hD1
  have hS := hS1
  clear hS1
  generalize H1 = H at hP hS ⊢
  generalize locs1 = locs at hS ⊢
  have hP := va_P_left hP
  have hD := va_D_left hD
  refine lv_aload_n hx hb dL_law_582 rfl (lv_at hl 2 rfl) ?_
  refine lv_aload_n hx hb dL_law_583 rfl (lv_at hl 0 rfl) ?_
  refine lv_iload_n hx hb dL_law_584 rfl (lv_at hl 3 rfl) ?_
  refine lv_iconst (v := 1) hx hb dL_law_585 (by decide) ?_
  refine lv_iadd hx hb dL_law_586 ?_
  refine z_topi (y := 1) (by decide) ?_
  refine va_sld hx hb hX hbl hbA hS (vin (by decide)) dL_law_587 ?_
  refine z_topi (y := xs 1) rfl ?_
  have hPc := hP.sub2 (wc := [(q, .inr (12, [.ref aA, .ref aI, .ref aT, .ref aP, .int 0, .int (-1), .int (-1), .int 0, .int 0, .int 0, .int 0, .long 0, .int 0, .int 0, .int 0, .int 0, .ref pI, .int 0, .int 0, .int 0, .int 0, .int 0, .ref nM, .ref vA, .ref tR, .int 0, .int 0, .int 0, .ref rW, .ref sP, .ref oA, .ref bS, .ref aS, .ref aO, .ref cS, .ref wY])), (aA, .inl (cI, 862, .inl af0))]) [0, 1] rfl
  have hDc := hD.sub (ws' := [(q, .inr (12, [.ref aA, .ref aI, .ref aT, .ref aP, .int 0, .int (-1), .int (-1), .int 0, .int 0, .int 0, .int 0, .long 0, .int 0, .int 0, .int 0, .int 0, .ref pI, .int 0, .int 0, .int 0, .int 0, .int 0, .ref nM, .ref vA, .ref tR, .int 0, .int 0, .int 0, .ref rW, .ref sP, .ref oA, .ref bS, .ref aS, .ref aO, .ref cS, .ref wY])), (aA, .inl (cI, 862, .inl af0))]) [0, 1] (by decide) rfl
  refine raw_Vi (ci := 12) (q0 := 0) (nA := 1) (As := [.int (xs 1)]) (rest := [.int r2]) Z hl.1 (c_X12_drive l D cI cM cT q aA aI aT aP pI nM vA tR rW sP oA bS aS aO cS wY (xs 1)) (bw_V bw_1360 bw_1361 bw_1362 bw_92 bw_1363) ⟨by decide +kernel, by decide +kernel, by decide +kernel⟩ rfl ⟨Nat.le_of_ble_eq_true rfl, Nat.le_of_ble_eq_true rfl⟩ rfl rfl rfl hPc hDc hS rfl (Nat.le_of_ble_eq_true rfl) dL_law_588 ⟨Nat.le_of_ble_eq_true rfl, Nat.le_of_ble_eq_true rfl⟩ (fun r5 u4 H1 locs1 h6 hku4 hP1 hD1 hS1 => ?_)
  have hposth6 := h6
  obtain ⟨hP, hD⟩ := z_join (wr := []) Z hS hP hD [0, 1] [] rfl (by decide) rfl (by decide) (by decide) hku4 hP1 hD1
  have hS := hS1
  clear hS1
  generalize H1 = H at hP hS ⊢
  generalize locs1 = locs at hS ⊢
  have hP := va_P_left hP
  have hD := va_D_left hD
  refine lv_icmp_eq (tgt := 997) hx hb dL_law_591 (by decide) (fun c7 => ?_) (fun h => absurd (hposth3.trans hposth6.symm) h)
  exact law_tail Z hX hbl hS (lv_sub hl [0, 1, 2, 3] rfl)
set_option maxHeartbeats 4000000 in
set_option maxRecDepth 100000 in
theorem law_14 {p : Program} {l : Launch} {e : Env} {s : State} {m : MethodId} {below : List Frame} {meth : Method} {c : Code} {b : Nat} {xs : Nat → Int32} {D : va_G} {cI cM cT : ClassId} {H : Heap} {locs : List Loc} {ls : Array Slot} {x : Nat} {st : Nat} {dr : Nat} {nw : Nat} {kp : Nat} {rd : Nat} {tm : Nat} {co : Nat} {rO : Nat} {sT : Nat} {mA : Nat} {sB : Nat} {sA : Nat} {tH : Nat} {tF : Nat} {tS : Nat} {iA : Nat} {rG : Nat} {s1 : Nat} {s2 : Nat} {s3 : Nat} {fN : Nat → Option Nat} {PL : va_W} {Ka : Nat → Prop} {q : Nat} {aA : Nat} {aI : Nat} {aT : Nat} {aP : Nat} {pI : Nat} {nM : Nat} {vA : Nat} {tR : Nat} {rW : Nat} {sP : Nat} {oA : Nat} {bS : Nat} {aS : Nat} {aO : Nat} {cS : Nat} {wY : Nat} (Z : Zx p s m #[Value.ref b] meth c code 4 ret R_law (fun q : Nat => s.heap.size ≤ q) (ty3 cI cM cT) D) (hX : va_X b 6 xs s s.heap) (hbl : b < s.heap.size) (hN_ : RingOK cI fN 30 PL Ka) (hP : va_P D vwCl ([(x, .inr (11, [.ref st, .ref dr, .ref nw, .ref kp, .ref rd, .ref tm, .ref co])), (nw, .inr (10, [.ref rO, .ref sT, .ref mA, .ref sB, .ref sA, .ref tH, .ref tF, .ref tS, .int 0, .int 0, .int (-1), .int 0, .int 0])), (mA, .inr (1, [.ref iA, .int 0, .int 0, .int 0, .int 0, .int 0, .int 13])), (iA, .inl (cI, 10, .inl (fun _ => 0))), (sB, .inr (5, [.ref rG, .int 0, .int 0])), (rG, .inl (cM, 30, .inr (.inr (.inr (.inr fN))))), (st, .inr (6, [.ref dr, .ref s1, .ref s2, .ref s3, .int 1])), (q, .inr (12, [.ref aA, .ref aI, .ref aT, .ref aP, .int 0, .int (-1), .int (-1), .int 0, .int 0, .int 0, .int 0, .long 0, .int 0, .int 0, .int 0, .int 0, .ref pI, .int 0, .int 0, .int 0, .int 0, .int 0, .ref nM, .ref vA, .ref tR, .int 0, .int 0, .int 0, .ref rW, .ref sP, .ref oA, .ref bS, .ref aS, .ref aO, .ref cS, .ref wY])), (aA, .inl (cI, 862, .inl af0))] ++ PL) H) (hD : va_D (fun q : Nat => s.heap.size ≤ q) ([(x, .inr (11, [.ref st, .ref dr, .ref nw, .ref kp, .ref rd, .ref tm, .ref co])), (nw, .inr (10, [.ref rO, .ref sT, .ref mA, .ref sB, .ref sA, .ref tH, .ref tF, .ref tS, .int 0, .int 0, .int (-1), .int 0, .int 0])), (mA, .inr (1, [.ref iA, .int 0, .int 0, .int 0, .int 0, .int 0, .int 13])), (iA, .inl (cI, 10, .inl (fun _ => 0))), (sB, .inr (5, [.ref rG, .int 0, .int 0])), (rG, .inl (cM, 30, .inr (.inr (.inr (.inr fN))))), (st, .inr (6, [.ref dr, .ref s1, .ref s2, .ref s3, .int 1])), (q, .inr (12, [.ref aA, .ref aI, .ref aT, .ref aP, .int 0, .int (-1), .int (-1), .int 0, .int 0, .int 0, .int 0, .long 0, .int 0, .int 0, .int 0, .int 0, .ref pI, .int 0, .int 0, .int 0, .int 0, .int 0, .ref nM, .ref vA, .ref tR, .int 0, .int 0, .int 0, .ref rW, .ref sP, .ref oA, .ref bS, .ref aS, .ref aO, .ref cS, .ref wY])), (aA, .inl (cI, 862, .inl af0))] ++ PL)) (hS : va_S (fun q : Nat => s.heap.size ≤ q) s.heap H locs) (hl : lv_has ls 4 [(0, .ref b), (1, .ref x), (2, .ref q), (3, .int 0)]) : W p l e room_1 s m #[Value.ref b] below meth c H locs 300 23000 (lw_Z below #[Value.ref b] s) (F0 m 596 ls []) := by
  have hx := Z.1
  have hb := Z.2.1
  have hbA : ¬ (fun q : Nat => s.heap.size ≤ q) b := Nat.not_le.mpr hbl
  skip
  refine lv_aload_n hx hb dL_law_596 rfl (lv_at hl 1 rfl) ?_
  refine lv_aload_n hx hb dL_law_597 rfl (lv_at hl 0 rfl) ?_
  refine lv_iload_n hx hb dL_law_598 rfl (lv_at hl 3 rfl) ?_
  refine lv_iconst (v := 1) hx hb dL_law_599 (by decide) ?_
  refine lv_iadd hx hb dL_law_600 ?_
  refine z_topi (y := 1) (by decide) ?_
  refine va_sld hx hb hX hbl hbA hS (vin (by decide)) dL_law_601 ?_
  refine z_topi (y := xs 1) rfl ?_
  have hPc := hP.part (cx := [(x, .inr (11, [.ref st, .ref dr, .ref nw, .ref kp, .ref rd, .ref tm, .ref co])), (nw, .inr (10, [.ref rO, .ref sT, .ref mA, .ref sB, .ref sA, .ref tH, .ref tF, .ref tS, .int 0, .int 0, .int (-1), .int 0, .int 0])), (mA, .inr (1, [.ref iA, .int 0, .int 0, .int 0, .int 0, .int 0, .int 13])), (iA, .inl (cI, 10, .inl (fun _ => 0))), (sB, .inr (5, [.ref rG, .int 0, .int 0])), (rG, .inl (cM, 30, .inr (.inr (.inr (.inr fN))))), (st, .inr (6, [.ref dr, .ref s1, .ref s2, .ref s3, .int 1]))]) [0, 1, 2, 3, 4, 5, 6] rfl
  have hDc := hD.part (cx := [(x, .inr (11, [.ref st, .ref dr, .ref nw, .ref kp, .ref rd, .ref tm, .ref co])), (nw, .inr (10, [.ref rO, .ref sT, .ref mA, .ref sB, .ref sA, .ref tH, .ref tF, .ref tS, .int 0, .int 0, .int (-1), .int 0, .int 0])), (mA, .inr (1, [.ref iA, .int 0, .int 0, .int 0, .int 0, .int 0, .int 13])), (iA, .inl (cI, 10, .inl (fun _ => 0))), (sB, .inr (5, [.ref rG, .int 0, .int 0])), (rG, .inl (cM, 30, .inr (.inr (.inr (.inr fN))))), (st, .inr (6, [.ref dr, .ref s1, .ref s2, .ref s3, .int 1]))]) [0, 1, 2, 3, 4, 5, 6] (by decide) rfl
  refine raw_Vi (ci := 11) (q0 := 0) (nA := 1) (As := [.int (xs 1)]) (rest := []) Z hl.1 (c_X11_pass l D cI cM cT x st dr nw kp rd tm co rO sT mA sB sA tH tF tS iA rG s1 s2 s3 (xs 1) fN PL Ka hN_) (bw_V bw_876 bw_877 bw_878 bw_80 bw_879) ⟨by decide +kernel, by decide +kernel, by decide +kernel⟩ rfl ⟨Nat.le_of_ble_eq_true rfl, Nat.le_of_ble_eq_true rfl⟩ rfl rfl rfl hPc hDc hS rfl (Nat.le_of_ble_eq_true rfl) dL_law_602 ⟨Nat.le_of_ble_eq_true rfl, Nat.le_of_ble_eq_true rfl⟩ (fun r2 u1 H1 locs1 h3 hku1 hP1 hD1 hS1 => ?_)
  have hposth3 := h3
  obtain ⟨hP, hD⟩ := z_joinP (rx := []) (pl1 := []) (wr := [(q, .inr (12, [.ref aA, .ref aI, .ref aT, .ref aP, .int 0, .int (-1), .int (-1), .int 0, .int 0, .int 0, .int 0, .long 0, .int 0, .int 0, .int 0, .int 0, .ref pI, .int 0, .int 0, .int 0, .int 0, .int 0, .ref nM, .ref vA, .ref tR, .int 0, .int 0, .int 0, .ref rW, .ref sP, .ref oA, .ref bS, .ref aS, .ref aO, .ref cS, .ref wY])), (aA, .inl (cI, 862, .inl af0))]) Z hS hP hD [0, 1, 2, 3, 4, 5, 6] [7, 8] rfl (by decide) rfl (by decide) (by decide) hku1 va_P_nil va_D_nil
  have hS := hS1
  clear hS1
  generalize H1 = H at hP hS ⊢
  generalize locs1 = locs at hS ⊢
  have hP : va_P D vwCl ([(q, .inr (12, [.ref aA, .ref aI, .ref aT, .ref aP, .int 0, .int (-1), .int (-1), .int 0, .int 0, .int 0, .int 0, .long 0, .int 0, .int 0, .int 0, .int 0, .ref pI, .int 0, .int 0, .int 0, .int 0, .int 0, .ref nM, .ref vA, .ref tR, .int 0, .int 0, .int 0, .ref rW, .ref sP, .ref oA, .ref bS, .ref aS, .ref aO, .ref cS, .ref wY])), (aA, .inl (cI, 862, .inl af0))]) H := hP
  have hD : va_D (fun q : Nat => s.heap.size ≤ q) ([(q, .inr (12, [.ref aA, .ref aI, .ref aT, .ref aP, .int 0, .int (-1), .int (-1), .int 0, .int 0, .int 0, .int 0, .long 0, .int 0, .int 0, .int 0, .int 0, .ref pI, .int 0, .int 0, .int 0, .int 0, .int 0, .ref nM, .ref vA, .ref tR, .int 0, .int 0, .int 0, .ref rW, .ref sP, .ref oA, .ref bS, .ref aS, .ref aO, .ref cS, .ref wY])), (aA, .inl (cI, 862, .inl af0))]) := hD
  refine lv_aload_n hx hb dL_law_605 rfl (lv_at hl 2 rfl) ?_
  refine lv_aload_n hx hb dL_law_606 rfl (lv_at hl 0 rfl) ?_
  refine lv_iload_n hx hb dL_law_607 rfl (lv_at hl 3 rfl) ?_
  refine lv_iconst (v := 1) hx hb dL_law_608 (by decide) ?_
  refine lv_iadd hx hb dL_law_609 ?_
  refine z_topi (y := 1) (by decide) ?_
  refine va_sld hx hb hX hbl hbA hS (vin (by decide)) dL_law_610 ?_
  refine z_topi (y := xs 1) rfl ?_
  have hPc := hP.sub2 (wc := [(q, .inr (12, [.ref aA, .ref aI, .ref aT, .ref aP, .int 0, .int (-1), .int (-1), .int 0, .int 0, .int 0, .int 0, .long 0, .int 0, .int 0, .int 0, .int 0, .ref pI, .int 0, .int 0, .int 0, .int 0, .int 0, .ref nM, .ref vA, .ref tR, .int 0, .int 0, .int 0, .ref rW, .ref sP, .ref oA, .ref bS, .ref aS, .ref aO, .ref cS, .ref wY])), (aA, .inl (cI, 862, .inl af0))]) [0, 1] rfl
  have hDc := hD.sub (ws' := [(q, .inr (12, [.ref aA, .ref aI, .ref aT, .ref aP, .int 0, .int (-1), .int (-1), .int 0, .int 0, .int 0, .int 0, .long 0, .int 0, .int 0, .int 0, .int 0, .ref pI, .int 0, .int 0, .int 0, .int 0, .int 0, .ref nM, .ref vA, .ref tR, .int 0, .int 0, .int 0, .ref rW, .ref sP, .ref oA, .ref bS, .ref aS, .ref aO, .ref cS, .ref wY])), (aA, .inl (cI, 862, .inl af0))]) [0, 1] (by decide) rfl
  refine raw_Vi (ci := 12) (q0 := 0) (nA := 1) (As := [.int (xs 1)]) (rest := [.int r2]) Z hl.1 (c_X12_pass l D cI cM cT q aA aI aT aP pI nM vA tR rW sP oA bS aS aO cS wY (xs 1)) (bw_V bw_1364 bw_1365 bw_1366 bw_92 bw_1367) ⟨by decide +kernel, by decide +kernel, by decide +kernel⟩ rfl ⟨Nat.le_of_ble_eq_true rfl, Nat.le_of_ble_eq_true rfl⟩ rfl rfl rfl hPc hDc hS rfl (Nat.le_of_ble_eq_true rfl) dL_law_611 ⟨Nat.le_of_ble_eq_true rfl, Nat.le_of_ble_eq_true rfl⟩ (fun r5 u4 H1 locs1 h6 hku4 hP1 hD1 hS1 => ?_)
  have hposth6 := h6
  obtain ⟨hP, hD⟩ := z_join (wr := []) Z hS hP hD [0, 1] [] rfl (by decide) rfl (by decide) (by decide) hku4 hP1 hD1
  have hS := hS1
  clear hS1
  generalize H1 = H at hP hS ⊢
  generalize locs1 = locs at hS ⊢
  have hP := va_P_left hP
  have hD := va_D_left hD
  refine lv_icmp_eq (tgt := 997) hx hb dL_law_614 (by decide) (fun c7 => ?_) (fun h => absurd (hposth3.trans hposth6.symm) h)
  exact law_tail Z hX hbl hS (lv_sub hl [0, 1, 2, 3] rfl)
set_option maxHeartbeats 4000000 in
set_option maxRecDepth 100000 in
theorem law_15 {p : Program} {l : Launch} {e : Env} {s : State} {m : MethodId} {below : List Frame} {meth : Method} {c : Code} {b : Nat} {xs : Nat → Int32} {D : va_G} {cI cM cT : ClassId} {H : Heap} {locs : List Loc} {ls : Array Slot} {x : Nat} {st : Nat} {dr : Nat} {nw : Nat} {kp : Nat} {rd : Nat} {tm : Nat} {co : Nat} {rO : Nat} {sT : Nat} {mA : Nat} {sB : Nat} {sA : Nat} {tH : Nat} {tF : Nat} {tS : Nat} {q : Nat} {aA : Nat} {aI : Nat} {aT : Nat} {aP : Nat} {pI : Nat} {nM : Nat} {vA : Nat} {tR : Nat} {rW : Nat} {sP : Nat} {oA : Nat} {bS : Nat} {aS : Nat} {aO : Nat} {cS : Nat} {wY : Nat} (Z : Zx p s m #[Value.ref b] meth c code 4 ret R_law (fun q : Nat => s.heap.size ≤ q) (ty3 cI cM cT) D) (hX : va_X b 6 xs s s.heap) (hbl : b < s.heap.size) (hP : va_P D vwCl ([(x, .inr (11, [.ref st, .ref dr, .ref nw, .ref kp, .ref rd, .ref tm, .ref co])), (nw, .inr (10, [.ref rO, .ref sT, .ref mA, .ref sB, .ref sA, .ref tH, .ref tF, .ref tS, .int 0, .int 0, .int (-1), .int 0, .int 0])), (q, .inr (12, [.ref aA, .ref aI, .ref aT, .ref aP, .int 0, .int (-1), .int (-1), .int 0, .int 0, .int 0, .int 0, .long 0, .int 0, .int 0, .int 0, .int 0, .ref pI, .int 0, .int 0, .int 0, .int 0, .int 0, .ref nM, .ref vA, .ref tR, .int 0, .int 0, .int 0, .ref rW, .ref sP, .ref oA, .ref bS, .ref aS, .ref aO, .ref cS, .ref wY])), (aA, .inl (cI, 862, .inl af0))]) H) (hD : va_D (fun q : Nat => s.heap.size ≤ q) ([(x, .inr (11, [.ref st, .ref dr, .ref nw, .ref kp, .ref rd, .ref tm, .ref co])), (nw, .inr (10, [.ref rO, .ref sT, .ref mA, .ref sB, .ref sA, .ref tH, .ref tF, .ref tS, .int 0, .int 0, .int (-1), .int 0, .int 0])), (q, .inr (12, [.ref aA, .ref aI, .ref aT, .ref aP, .int 0, .int (-1), .int (-1), .int 0, .int 0, .int 0, .int 0, .long 0, .int 0, .int 0, .int 0, .int 0, .ref pI, .int 0, .int 0, .int 0, .int 0, .int 0, .ref nM, .ref vA, .ref tR, .int 0, .int 0, .int 0, .ref rW, .ref sP, .ref oA, .ref bS, .ref aS, .ref aO, .ref cS, .ref wY])), (aA, .inl (cI, 862, .inl af0))])) (hS : va_S (fun q : Nat => s.heap.size ≤ q) s.heap H locs) (hl : lv_has ls 4 [(0, .ref b), (1, .ref x), (2, .ref q), (3, .int 0)]) : W p l e room_1 s m #[Value.ref b] below meth c H locs 300 23000 (lw_Z below #[Value.ref b] s) (F0 m 619 ls []) := by
  have hx := Z.1
  have hb := Z.2.1
  have hbA : ¬ (fun q : Nat => s.heap.size ≤ q) b := Nat.not_le.mpr hbl
  skip
  refine lv_aload_n hx hb dL_law_619 rfl (lv_at hl 1 rfl) ?_
  refine lv_aload_n hx hb dL_law_620 rfl (lv_at hl 0 rfl) ?_
  refine lv_iload_n hx hb dL_law_621 rfl (lv_at hl 3 rfl) ?_
  refine lv_iconst (v := 1) hx hb dL_law_622 (by decide) ?_
  refine lv_iadd hx hb dL_law_623 ?_
  refine z_topi (y := 1) (by decide) ?_
  refine va_sld hx hb hX hbl hbA hS (vin (by decide)) dL_law_624 ?_
  refine z_topi (y := xs 1) rfl ?_
  have hPc := hP.sub2 (wc := [(x, .inr (11, [.ref st, .ref dr, .ref nw, .ref kp, .ref rd, .ref tm, .ref co])), (nw, .inr (10, [.ref rO, .ref sT, .ref mA, .ref sB, .ref sA, .ref tH, .ref tF, .ref tS, .int 0, .int 0, .int (-1), .int 0, .int 0]))]) [0, 1] rfl
  have hDc := hD.sub (ws' := [(x, .inr (11, [.ref st, .ref dr, .ref nw, .ref kp, .ref rd, .ref tm, .ref co])), (nw, .inr (10, [.ref rO, .ref sT, .ref mA, .ref sB, .ref sA, .ref tH, .ref tF, .ref tS, .int 0, .int 0, .int (-1), .int 0, .int 0]))]) [0, 1] (by decide) rfl
  refine raw_Vi (ci := 11) (q0 := 0) (nA := 1) (As := [.int (xs 1)]) (rest := []) Z hl.1 (c_X11_played l D cI cM cT x st dr nw kp rd tm co rO sT mA sB sA tH tF tS (xs 1)) (bw_V bw_884 bw_885 bw_886 bw_80 bw_887) ⟨by decide +kernel, by decide +kernel, by decide +kernel⟩ rfl ⟨Nat.le_of_ble_eq_true rfl, Nat.le_of_ble_eq_true rfl⟩ rfl rfl rfl hPc hDc hS rfl (Nat.le_of_ble_eq_true rfl) dL_law_625 ⟨Nat.le_of_ble_eq_true rfl, Nat.le_of_ble_eq_true rfl⟩ (fun r2 u1 H1 locs1 h3 hku1 hP1 hD1 hS1 => ?_)
  have hposth3 := h3
  obtain ⟨hP, hD⟩ := z_join (wr := [(q, .inr (12, [.ref aA, .ref aI, .ref aT, .ref aP, .int 0, .int (-1), .int (-1), .int 0, .int 0, .int 0, .int 0, .long 0, .int 0, .int 0, .int 0, .int 0, .ref pI, .int 0, .int 0, .int 0, .int 0, .int 0, .ref nM, .ref vA, .ref tR, .int 0, .int 0, .int 0, .ref rW, .ref sP, .ref oA, .ref bS, .ref aS, .ref aO, .ref cS, .ref wY])), (aA, .inl (cI, 862, .inl af0))]) Z hS hP hD [0, 1] [2, 3] rfl (by decide) rfl (by decide) (by decide) hku1 hP1 hD1
  have hS := hS1
  clear hS1
  generalize H1 = H at hP hS ⊢
  generalize locs1 = locs at hS ⊢
  have hP := va_P_left hP
  have hD := va_D_left hD
  refine lv_aload_n hx hb dL_law_628 rfl (lv_at hl 2 rfl) ?_
  refine lv_aload_n hx hb dL_law_629 rfl (lv_at hl 0 rfl) ?_
  refine lv_iload_n hx hb dL_law_630 rfl (lv_at hl 3 rfl) ?_
  refine lv_iconst (v := 1) hx hb dL_law_631 (by decide) ?_
  refine lv_iadd hx hb dL_law_632 ?_
  refine z_topi (y := 1) (by decide) ?_
  refine va_sld hx hb hX hbl hbA hS (vin (by decide)) dL_law_633 ?_
  refine z_topi (y := xs 1) rfl ?_
  have hPc := hP.sub2 (wc := [(q, .inr (12, [.ref aA, .ref aI, .ref aT, .ref aP, .int 0, .int (-1), .int (-1), .int 0, .int 0, .int 0, .int 0, .long 0, .int 0, .int 0, .int 0, .int 0, .ref pI, .int 0, .int 0, .int 0, .int 0, .int 0, .ref nM, .ref vA, .ref tR, .int 0, .int 0, .int 0, .ref rW, .ref sP, .ref oA, .ref bS, .ref aS, .ref aO, .ref cS, .ref wY])), (aA, .inl (cI, 862, .inl af0))]) [0, 1] rfl
  have hDc := hD.sub (ws' := [(q, .inr (12, [.ref aA, .ref aI, .ref aT, .ref aP, .int 0, .int (-1), .int (-1), .int 0, .int 0, .int 0, .int 0, .long 0, .int 0, .int 0, .int 0, .int 0, .ref pI, .int 0, .int 0, .int 0, .int 0, .int 0, .ref nM, .ref vA, .ref tR, .int 0, .int 0, .int 0, .ref rW, .ref sP, .ref oA, .ref bS, .ref aS, .ref aO, .ref cS, .ref wY])), (aA, .inl (cI, 862, .inl af0))]) [0, 1] (by decide) rfl
  refine raw_Vi (ci := 12) (q0 := 0) (nA := 1) (As := [.int (xs 1)]) (rest := [.int r2]) Z hl.1 (c_X12_played l D cI cM cT q aA aI aT aP pI nM vA tR rW sP oA bS aS aO cS wY (xs 1)) (bw_V bw_1368 bw_1369 bw_1370 bw_92 bw_1371) ⟨by decide +kernel, by decide +kernel, by decide +kernel⟩ rfl ⟨Nat.le_of_ble_eq_true rfl, Nat.le_of_ble_eq_true rfl⟩ rfl rfl rfl hPc hDc hS rfl (Nat.le_of_ble_eq_true rfl) dL_law_634 ⟨Nat.le_of_ble_eq_true rfl, Nat.le_of_ble_eq_true rfl⟩ (fun r5 u4 H1 locs1 h6 hku4 hP1 hD1 hS1 => ?_)
  have hposth6 := h6
  obtain ⟨hP, hD⟩ := z_join (wr := []) Z hS hP hD [0, 1] [] rfl (by decide) rfl (by decide) (by decide) hku4 hP1 hD1
  have hS := hS1
  clear hS1
  generalize H1 = H at hP hS ⊢
  generalize locs1 = locs at hS ⊢
  have hP := va_P_left hP
  have hD := va_D_left hD
  refine lv_icmp_eq (tgt := 997) hx hb dL_law_637 (by decide) (fun c7 => ?_) (fun h => absurd (hposth3.trans hposth6.symm) h)
  exact law_tail Z hX hbl hS (lv_sub hl [0, 1, 2, 3] rfl)
set_option maxHeartbeats 4000000 in
set_option maxRecDepth 100000 in
theorem law_16 {p : Program} {l : Launch} {e : Env} {s : State} {m : MethodId} {below : List Frame} {meth : Method} {c : Code} {b : Nat} {xs : Nat → Int32} {D : va_G} {cI cM cT : ClassId} {H : Heap} {locs : List Loc} {ls : Array Slot} {x : Nat} {st : Nat} {dr : Nat} {nw : Nat} {kp : Nat} {rd : Nat} {tm : Nat} {co : Nat} {rO : Nat} {sT : Nat} {mA : Nat} {sB : Nat} {sA : Nat} {tH : Nat} {tF : Nat} {tS : Nat} {rG : Nat} {iA : Nat} {q : Nat} {aA : Nat} {aI : Nat} {aT : Nat} {aP : Nat} {pI : Nat} {nM : Nat} {vA : Nat} {tR : Nat} {rW : Nat} {sP : Nat} {oA : Nat} {bS : Nat} {aS : Nat} {aO : Nat} {cS : Nat} {wY : Nat} (Z : Zx p s m #[Value.ref b] meth c code 4 ret R_law (fun q : Nat => s.heap.size ≤ q) (ty3 cI cM cT) D) (hX : va_X b 6 xs s s.heap) (hbl : b < s.heap.size) (hP : va_P D vwCl ([(x, .inr (11, [.ref st, .ref dr, .ref nw, .ref kp, .ref rd, .ref tm, .ref co])), (nw, .inr (10, [.ref rO, .ref sT, .ref mA, .ref sB, .ref sA, .ref tH, .ref tF, .ref tS, .int 0, .int 0, .int (-1), .int 0, .int 0])), (sB, .inr (5, [.ref rG, .int 0, .int 0])), (mA, .inr (1, [.ref iA, .int 0, .int 0, .int 0, .int 0, .int 0, .int 13])), (q, .inr (12, [.ref aA, .ref aI, .ref aT, .ref aP, .int 0, .int (-1), .int (-1), .int 0, .int 0, .int 0, .int 0, .long 0, .int 0, .int 0, .int 0, .int 0, .ref pI, .int 0, .int 0, .int 0, .int 0, .int 0, .ref nM, .ref vA, .ref tR, .int 0, .int 0, .int 0, .ref rW, .ref sP, .ref oA, .ref bS, .ref aS, .ref aO, .ref cS, .ref wY])), (aA, .inl (cI, 862, .inl af0))]) H) (hD : va_D (fun q : Nat => s.heap.size ≤ q) ([(x, .inr (11, [.ref st, .ref dr, .ref nw, .ref kp, .ref rd, .ref tm, .ref co])), (nw, .inr (10, [.ref rO, .ref sT, .ref mA, .ref sB, .ref sA, .ref tH, .ref tF, .ref tS, .int 0, .int 0, .int (-1), .int 0, .int 0])), (sB, .inr (5, [.ref rG, .int 0, .int 0])), (mA, .inr (1, [.ref iA, .int 0, .int 0, .int 0, .int 0, .int 0, .int 13])), (q, .inr (12, [.ref aA, .ref aI, .ref aT, .ref aP, .int 0, .int (-1), .int (-1), .int 0, .int 0, .int 0, .int 0, .long 0, .int 0, .int 0, .int 0, .int 0, .ref pI, .int 0, .int 0, .int 0, .int 0, .int 0, .ref nM, .ref vA, .ref tR, .int 0, .int 0, .int 0, .ref rW, .ref sP, .ref oA, .ref bS, .ref aS, .ref aO, .ref cS, .ref wY])), (aA, .inl (cI, 862, .inl af0))])) (hS : va_S (fun q : Nat => s.heap.size ≤ q) s.heap H locs) (hl : lv_has ls 4 [(0, .ref b), (1, .ref x), (2, .ref q), (3, .int 0)]) : W p l e room_1 s m #[Value.ref b] below meth c H locs 300 23000 (lw_Z below #[Value.ref b] s) (F0 m 642 ls []) := by
  have hx := Z.1
  have hb := Z.2.1
  have hbA : ¬ (fun q : Nat => s.heap.size ≤ q) b := Nat.not_le.mpr hbl
  skip
  refine lv_aload_n hx hb dL_law_642 rfl (lv_at hl 1 rfl) ?_
  have hPc := hP.sub2 (wc := [(x, .inr (11, [.ref st, .ref dr, .ref nw, .ref kp, .ref rd, .ref tm, .ref co])), (nw, .inr (10, [.ref rO, .ref sT, .ref mA, .ref sB, .ref sA, .ref tH, .ref tF, .ref tS, .int 0, .int 0, .int (-1), .int 0, .int 0])), (sB, .inr (5, [.ref rG, .int 0, .int 0])), (mA, .inr (1, [.ref iA, .int 0, .int 0, .int 0, .int 0, .int 0, .int 13]))]) [0, 1, 2, 3] rfl
  have hDc := hD.sub (ws' := [(x, .inr (11, [.ref st, .ref dr, .ref nw, .ref kp, .ref rd, .ref tm, .ref co])), (nw, .inr (10, [.ref rO, .ref sT, .ref mA, .ref sB, .ref sA, .ref tH, .ref tF, .ref tS, .int 0, .int 0, .int (-1), .int 0, .int 0])), (sB, .inr (5, [.ref rG, .int 0, .int 0])), (mA, .inr (1, [.ref iA, .int 0, .int 0, .int 0, .int 0, .int 0, .int 13]))]) [0, 1, 2, 3] (by decide) rfl
  refine raw_Vi (ci := 11) (q0 := 0) (nA := 0) (As := []) (rest := []) Z hl.1 (c_X11_undo l D cI cM cT x st dr nw kp rd tm co rO sT mA sB sA tH tF tS rG iA) (bw_V bw_888 bw_889 bw_890 bw_80 bw_891) ⟨by decide +kernel, by decide +kernel, by decide +kernel⟩ rfl ⟨Nat.le_of_ble_eq_true rfl, Nat.le_of_ble_eq_true rfl⟩ rfl rfl rfl hPc hDc hS rfl (Nat.le_of_ble_eq_true rfl) dL_law_643 ⟨Nat.le_of_ble_eq_true rfl, Nat.le_of_ble_eq_true rfl⟩ (fun r2 u1 H1 locs1 h3 hku1 hP1 hD1 hS1 => ?_)
  have hposth3 := h3
  obtain ⟨hP, hD⟩ := z_join (wr := [(q, .inr (12, [.ref aA, .ref aI, .ref aT, .ref aP, .int 0, .int (-1), .int (-1), .int 0, .int 0, .int 0, .int 0, .long 0, .int 0, .int 0, .int 0, .int 0, .ref pI, .int 0, .int 0, .int 0, .int 0, .int 0, .ref nM, .ref vA, .ref tR, .int 0, .int 0, .int 0, .ref rW, .ref sP, .ref oA, .ref bS, .ref aS, .ref aO, .ref cS, .ref wY])), (aA, .inl (cI, 862, .inl af0))]) Z hS hP hD [0, 1, 2, 3] [4, 5] rfl (by decide) rfl (by decide) (by decide) hku1 hP1 hD1
  have hS := hS1
  clear hS1
  generalize H1 = H at hP hS ⊢
  generalize locs1 = locs at hS ⊢
  have hP := va_P_left hP
  have hD := va_D_left hD
  refine lv_aload_n hx hb dL_law_646 rfl (lv_at hl 2 rfl) ?_
  have hPc := hP.sub2 (wc := [(q, .inr (12, [.ref aA, .ref aI, .ref aT, .ref aP, .int 0, .int (-1), .int (-1), .int 0, .int 0, .int 0, .int 0, .long 0, .int 0, .int 0, .int 0, .int 0, .ref pI, .int 0, .int 0, .int 0, .int 0, .int 0, .ref nM, .ref vA, .ref tR, .int 0, .int 0, .int 0, .ref rW, .ref sP, .ref oA, .ref bS, .ref aS, .ref aO, .ref cS, .ref wY])), (aA, .inl (cI, 862, .inl af0))]) [0, 1] rfl
  have hDc := hD.sub (ws' := [(q, .inr (12, [.ref aA, .ref aI, .ref aT, .ref aP, .int 0, .int (-1), .int (-1), .int 0, .int 0, .int 0, .int 0, .long 0, .int 0, .int 0, .int 0, .int 0, .ref pI, .int 0, .int 0, .int 0, .int 0, .int 0, .ref nM, .ref vA, .ref tR, .int 0, .int 0, .int 0, .ref rW, .ref sP, .ref oA, .ref bS, .ref aS, .ref aO, .ref cS, .ref wY])), (aA, .inl (cI, 862, .inl af0))]) [0, 1] (by decide) rfl
  refine raw_Vi (ci := 12) (q0 := 0) (nA := 0) (As := []) (rest := [.int r2]) Z hl.1 (c_X12_undo l D cI cM cT q aA aI aT aP pI nM vA tR rW sP oA bS aS aO cS wY) (bw_V bw_1344 bw_1345 bw_1346 bw_92 bw_1347) ⟨by decide +kernel, by decide +kernel, by decide +kernel⟩ rfl ⟨Nat.le_of_ble_eq_true rfl, Nat.le_of_ble_eq_true rfl⟩ rfl rfl rfl hPc hDc hS rfl (Nat.le_of_ble_eq_true rfl) dL_law_647 ⟨Nat.le_of_ble_eq_true rfl, Nat.le_of_ble_eq_true rfl⟩ (fun r5 u4 H1 locs1 h6 hku4 hP1 hD1 hS1 => ?_)
  have hposth6 := h6
  obtain ⟨hP, hD⟩ := z_join (wr := []) Z hS hP hD [0, 1] [] rfl (by decide) rfl (by decide) (by decide) hku4 hP1 hD1
  have hS := hS1
  clear hS1
  generalize H1 = H at hP hS ⊢
  generalize locs1 = locs at hS ⊢
  have hP := va_P_left hP
  have hD := va_D_left hD
  refine lv_icmp_eq (tgt := 997) hx hb dL_law_650 (by decide) (fun c7 => ?_) (fun h => absurd (hposth3.trans hposth6.symm) h)
  exact law_tail Z hX hbl hS (lv_sub hl [0, 1, 2, 3] rfl)
set_option maxHeartbeats 4000000 in
set_option maxRecDepth 100000 in
theorem law_17 {p : Program} {l : Launch} {e : Env} {s : State} {m : MethodId} {below : List Frame} {meth : Method} {c : Code} {b : Nat} {xs : Nat → Int32} {D : va_G} {cI cM cT : ClassId} {H : Heap} {locs : List Loc} {ls : Array Slot} {x : Nat} {st : Nat} {dr : Nat} {nw : Nat} {kp : Nat} {rd : Nat} {tm : Nat} {co : Nat} {rO : Nat} {sT : Nat} {mA : Nat} {sB : Nat} {sA : Nat} {tH : Nat} {tF : Nat} {tS : Nat} {iA : Nat} {q : Nat} {aA : Nat} {aI : Nat} {aT : Nat} {aP : Nat} {pI : Nat} {nM : Nat} {vA : Nat} {tR : Nat} {rW : Nat} {sP : Nat} {oA : Nat} {bS : Nat} {aS : Nat} {aO : Nat} {cS : Nat} {wY : Nat} (Z : Zx p s m #[Value.ref b] meth c code 4 ret R_law (fun q : Nat => s.heap.size ≤ q) (ty3 cI cM cT) D) (hX : va_X b 6 xs s s.heap) (hbl : b < s.heap.size) (hP : va_P D vwCl ([(x, .inr (11, [.ref st, .ref dr, .ref nw, .ref kp, .ref rd, .ref tm, .ref co])), (nw, .inr (10, [.ref rO, .ref sT, .ref mA, .ref sB, .ref sA, .ref tH, .ref tF, .ref tS, .int 0, .int 0, .int (-1), .int 0, .int 0])), (mA, .inr (1, [.ref iA, .int 0, .int 0, .int 0, .int 0, .int 0, .int 13])), (q, .inr (12, [.ref aA, .ref aI, .ref aT, .ref aP, .int 0, .int (-1), .int (-1), .int 0, .int 0, .int 0, .int 0, .long 0, .int 0, .int 0, .int 0, .int 0, .ref pI, .int 0, .int 0, .int 0, .int 0, .int 0, .ref nM, .ref vA, .ref tR, .int 0, .int 0, .int 0, .ref rW, .ref sP, .ref oA, .ref bS, .ref aS, .ref aO, .ref cS, .ref wY])), (aA, .inl (cI, 862, .inl af0))]) H) (hD : va_D (fun q : Nat => s.heap.size ≤ q) ([(x, .inr (11, [.ref st, .ref dr, .ref nw, .ref kp, .ref rd, .ref tm, .ref co])), (nw, .inr (10, [.ref rO, .ref sT, .ref mA, .ref sB, .ref sA, .ref tH, .ref tF, .ref tS, .int 0, .int 0, .int (-1), .int 0, .int 0])), (mA, .inr (1, [.ref iA, .int 0, .int 0, .int 0, .int 0, .int 0, .int 13])), (q, .inr (12, [.ref aA, .ref aI, .ref aT, .ref aP, .int 0, .int (-1), .int (-1), .int 0, .int 0, .int 0, .int 0, .long 0, .int 0, .int 0, .int 0, .int 0, .ref pI, .int 0, .int 0, .int 0, .int 0, .int 0, .ref nM, .ref vA, .ref tR, .int 0, .int 0, .int 0, .ref rW, .ref sP, .ref oA, .ref bS, .ref aS, .ref aO, .ref cS, .ref wY])), (aA, .inl (cI, 862, .inl af0))])) (hS : va_S (fun q : Nat => s.heap.size ≤ q) s.heap H locs) (hl : lv_has ls 4 [(0, .ref b), (1, .ref x), (2, .ref q), (3, .int 0)]) : W p l e room_1 s m #[Value.ref b] below meth c H locs 300 23000 (lw_Z below #[Value.ref b] s) (F0 m 655 ls []) := by
  have hx := Z.1
  have hb := Z.2.1
  have hbA : ¬ (fun q : Nat => s.heap.size ≤ q) b := Nat.not_le.mpr hbl
  skip
  refine lv_aload_n hx hb dL_law_655 rfl (lv_at hl 1 rfl) ?_
  refine lv_aload_n hx hb dL_law_656 rfl (lv_at hl 0 rfl) ?_
  refine lv_iload_n hx hb dL_law_657 rfl (lv_at hl 3 rfl) ?_
  refine lv_iconst (v := 1) hx hb dL_law_658 (by decide) ?_
  refine lv_iadd hx hb dL_law_659 ?_
  refine z_topi (y := 1) (by decide) ?_
  refine va_sld hx hb hX hbl hbA hS (vin (by decide)) dL_law_660 ?_
  refine z_topi (y := xs 1) rfl ?_
  have hPc := hP.sub2 (wc := [(x, .inr (11, [.ref st, .ref dr, .ref nw, .ref kp, .ref rd, .ref tm, .ref co])), (nw, .inr (10, [.ref rO, .ref sT, .ref mA, .ref sB, .ref sA, .ref tH, .ref tF, .ref tS, .int 0, .int 0, .int (-1), .int 0, .int 0])), (mA, .inr (1, [.ref iA, .int 0, .int 0, .int 0, .int 0, .int 0, .int 13]))]) [0, 1, 2] rfl
  have hDc := hD.sub (ws' := [(x, .inr (11, [.ref st, .ref dr, .ref nw, .ref kp, .ref rd, .ref tm, .ref co])), (nw, .inr (10, [.ref rO, .ref sT, .ref mA, .ref sB, .ref sA, .ref tH, .ref tF, .ref tS, .int 0, .int 0, .int (-1), .int 0, .int 0])), (mA, .inr (1, [.ref iA, .int 0, .int 0, .int 0, .int 0, .int 0, .int 13]))]) [0, 1, 2] (by decide) rfl
  refine raw_Vi (ci := 11) (q0 := 0) (nA := 1) (As := [.int (xs 1)]) (rest := []) Z hl.1 (c_X11_coach l D cI cM cT x st dr nw kp rd tm co rO sT mA sB sA tH tF tS iA (xs 1)) (bw_V bw_896 bw_897 bw_898 bw_80 bw_899) ⟨by decide +kernel, by decide +kernel, by decide +kernel⟩ rfl ⟨Nat.le_of_ble_eq_true rfl, Nat.le_of_ble_eq_true rfl⟩ rfl rfl rfl hPc hDc hS rfl (Nat.le_of_ble_eq_true rfl) dL_law_661 ⟨Nat.le_of_ble_eq_true rfl, Nat.le_of_ble_eq_true rfl⟩ (fun r2 u1 H1 locs1 h3 hku1 hP1 hD1 hS1 => ?_)
  have hposth3 := h3
  obtain ⟨hP, hD⟩ := z_join (wr := [(q, .inr (12, [.ref aA, .ref aI, .ref aT, .ref aP, .int 0, .int (-1), .int (-1), .int 0, .int 0, .int 0, .int 0, .long 0, .int 0, .int 0, .int 0, .int 0, .ref pI, .int 0, .int 0, .int 0, .int 0, .int 0, .ref nM, .ref vA, .ref tR, .int 0, .int 0, .int 0, .ref rW, .ref sP, .ref oA, .ref bS, .ref aS, .ref aO, .ref cS, .ref wY])), (aA, .inl (cI, 862, .inl af0))]) Z hS hP hD [0, 1, 2] [3, 4] rfl (by decide) rfl (by decide) (by decide) hku1 hP1 hD1
  have hS := hS1
  clear hS1
  generalize H1 = H at hP hS ⊢
  generalize locs1 = locs at hS ⊢
  have hP := va_P_left hP
  have hD := va_D_left hD
  refine lv_aload_n hx hb dL_law_664 rfl (lv_at hl 2 rfl) ?_
  refine lv_aload_n hx hb dL_law_665 rfl (lv_at hl 0 rfl) ?_
  refine lv_iload_n hx hb dL_law_666 rfl (lv_at hl 3 rfl) ?_
  refine lv_iconst (v := 1) hx hb dL_law_667 (by decide) ?_
  refine lv_iadd hx hb dL_law_668 ?_
  refine z_topi (y := 1) (by decide) ?_
  refine va_sld hx hb hX hbl hbA hS (vin (by decide)) dL_law_669 ?_
  refine z_topi (y := xs 1) rfl ?_
  have hPc := hP.sub2 (wc := [(q, .inr (12, [.ref aA, .ref aI, .ref aT, .ref aP, .int 0, .int (-1), .int (-1), .int 0, .int 0, .int 0, .int 0, .long 0, .int 0, .int 0, .int 0, .int 0, .ref pI, .int 0, .int 0, .int 0, .int 0, .int 0, .ref nM, .ref vA, .ref tR, .int 0, .int 0, .int 0, .ref rW, .ref sP, .ref oA, .ref bS, .ref aS, .ref aO, .ref cS, .ref wY])), (aA, .inl (cI, 862, .inl af0))]) [0, 1] rfl
  have hDc := hD.sub (ws' := [(q, .inr (12, [.ref aA, .ref aI, .ref aT, .ref aP, .int 0, .int (-1), .int (-1), .int 0, .int 0, .int 0, .int 0, .long 0, .int 0, .int 0, .int 0, .int 0, .ref pI, .int 0, .int 0, .int 0, .int 0, .int 0, .ref nM, .ref vA, .ref tR, .int 0, .int 0, .int 0, .ref rW, .ref sP, .ref oA, .ref bS, .ref aS, .ref aO, .ref cS, .ref wY])), (aA, .inl (cI, 862, .inl af0))]) [0, 1] (by decide) rfl
  refine raw_Vi (ci := 12) (q0 := 0) (nA := 1) (As := [.int (xs 1)]) (rest := [.int r2]) Z hl.1 (c_X12_coach l D cI cM cT q aA aI aT aP pI nM vA tR rW sP oA bS aS aO cS wY (xs 1)) (bw_V bw_1378 bw_1379 bw_1380 bw_92 bw_1381) ⟨by decide +kernel, by decide +kernel, by decide +kernel⟩ rfl ⟨Nat.le_of_ble_eq_true rfl, Nat.le_of_ble_eq_true rfl⟩ rfl rfl rfl hPc hDc hS rfl (Nat.le_of_ble_eq_true rfl) dL_law_670 ⟨Nat.le_of_ble_eq_true rfl, Nat.le_of_ble_eq_true rfl⟩ (fun r5 u4 H1 locs1 h6 hku4 hP1 hD1 hS1 => ?_)
  have hposth6 := h6
  obtain ⟨hP, hD⟩ := z_join (wr := []) Z hS hP hD [0, 1] [] rfl (by decide) rfl (by decide) (by decide) hku4 hP1 hD1
  have hS := hS1
  clear hS1
  generalize H1 = H at hP hS ⊢
  generalize locs1 = locs at hS ⊢
  have hP := va_P_left hP
  have hD := va_D_left hD
  refine lv_icmp_eq (tgt := 997) hx hb dL_law_673 (by decide) (fun c7 => ?_) (fun h => absurd (hposth3.trans hposth6.symm) h)
  exact law_tail Z hX hbl hS (lv_sub hl [0, 1, 2, 3] rfl)
set_option maxHeartbeats 4000000 in
set_option maxRecDepth 100000 in
theorem law_18 {p : Program} {l : Launch} {e : Env} {s : State} {m : MethodId} {below : List Frame} {meth : Method} {c : Code} {b : Nat} {xs : Nat → Int32} {D : va_G} {cI cM cT : ClassId} {H : Heap} {locs : List Loc} {ls : Array Slot} {x : Nat} {st : Nat} {dr : Nat} {nw : Nat} {kp : Nat} {rd : Nat} {tm : Nat} {co : Nat} {be : Nat} {or_ : Nat} {s1 : Nat} {s2 : Nat} {s3 : Nat} {tA : Nat} {lW : Nat} {nA : Nat} {kA : Nat} {rO : Nat} {sT : Nat} {mA : Nat} {sB : Nat} {sA : Nat} {tH : Nat} {tF : Nat} {tS : Nat} {cO : Nat} {sH : Nat} {q : Nat} {aA : Nat} {aI : Nat} {aT : Nat} {aP : Nat} {pI : Nat} {nM : Nat} {vA : Nat} {tR : Nat} {rW : Nat} {sP : Nat} {oA : Nat} {bS : Nat} {aS : Nat} {aO : Nat} {cS : Nat} {wY : Nat} (Z : Zx p s m #[Value.ref b] meth c code 4 ret R_law (fun q : Nat => s.heap.size ≤ q) (ty3 cI cM cT) D) (hX : va_X b 6 xs s s.heap) (hbl : b < s.heap.size) (hP : va_P D vwCl ([(x, .inr (11, [.ref st, .ref dr, .ref nw, .ref kp, .ref rd, .ref tm, .ref co])), (tm, .inr (8, [.ref be, .ref or_, .int 0, .int (-1)])), (be, .inl (cI, 6, .inl (fun _ => 0))), (or_, .inl (cI, 6, .inl (fun _ => 0))), (st, .inr (6, [.ref dr, .ref s1, .ref s2, .ref s3, .int 1])), (dr, .inr (0, [.ref nw, .ref tA, .ref lW, .ref nA, .ref kA, .int 0, .int 0])), (nw, .inr (10, [.ref rO, .ref sT, .ref mA, .ref sB, .ref sA, .ref tH, .ref tF, .ref tS, .int 0, .int 0, .int (-1), .int 0, .int 0])), (sT, .inr (4, [.ref cO, .ref sH, .int 0])), (q, .inr (12, [.ref aA, .ref aI, .ref aT, .ref aP, .int 0, .int (-1), .int (-1), .int 0, .int 0, .int 0, .int 0, .long 0, .int 0, .int 0, .int 0, .int 0, .ref pI, .int 0, .int 0, .int 0, .int 0, .int 0, .ref nM, .ref vA, .ref tR, .int 0, .int 0, .int 0, .ref rW, .ref sP, .ref oA, .ref bS, .ref aS, .ref aO, .ref cS, .ref wY])), (aA, .inl (cI, 862, .inl af0))]) H) (hD : va_D (fun q : Nat => s.heap.size ≤ q) ([(x, .inr (11, [.ref st, .ref dr, .ref nw, .ref kp, .ref rd, .ref tm, .ref co])), (tm, .inr (8, [.ref be, .ref or_, .int 0, .int (-1)])), (be, .inl (cI, 6, .inl (fun _ => 0))), (or_, .inl (cI, 6, .inl (fun _ => 0))), (st, .inr (6, [.ref dr, .ref s1, .ref s2, .ref s3, .int 1])), (dr, .inr (0, [.ref nw, .ref tA, .ref lW, .ref nA, .ref kA, .int 0, .int 0])), (nw, .inr (10, [.ref rO, .ref sT, .ref mA, .ref sB, .ref sA, .ref tH, .ref tF, .ref tS, .int 0, .int 0, .int (-1), .int 0, .int 0])), (sT, .inr (4, [.ref cO, .ref sH, .int 0])), (q, .inr (12, [.ref aA, .ref aI, .ref aT, .ref aP, .int 0, .int (-1), .int (-1), .int 0, .int 0, .int 0, .int 0, .long 0, .int 0, .int 0, .int 0, .int 0, .ref pI, .int 0, .int 0, .int 0, .int 0, .int 0, .ref nM, .ref vA, .ref tR, .int 0, .int 0, .int 0, .ref rW, .ref sP, .ref oA, .ref bS, .ref aS, .ref aO, .ref cS, .ref wY])), (aA, .inl (cI, 862, .inl af0))])) (hS : va_S (fun q : Nat => s.heap.size ≤ q) s.heap H locs) (hl : lv_has ls 4 [(0, .ref b), (1, .ref x), (2, .ref q), (3, .int 0)]) : W p l e room_1 s m #[Value.ref b] below meth c H locs 300 23000 (lw_Z below #[Value.ref b] s) (F0 m 678 ls []) := by
  have hx := Z.1
  have hb := Z.2.1
  have hbA : ¬ (fun q : Nat => s.heap.size ≤ q) b := Nat.not_le.mpr hbl
  skip
  refine lv_aload_n hx hb dL_law_678 rfl (lv_at hl 1 rfl) ?_
  refine lv_aload_n hx hb dL_law_679 rfl (lv_at hl 0 rfl) ?_
  refine lv_iload_n hx hb dL_law_680 rfl (lv_at hl 3 rfl) ?_
  refine lv_iconst (v := 1) hx hb dL_law_681 (by decide) ?_
  refine lv_iadd hx hb dL_law_682 ?_
  refine z_topi (y := 1) (by decide) ?_
  refine va_sld hx hb hX hbl hbA hS (vin (by decide)) dL_law_683 ?_
  refine z_topi (y := xs 1) rfl ?_
  refine lv_aload_n hx hb dL_law_684 rfl (lv_at hl 0 rfl) ?_
  refine lv_iload_n hx hb dL_law_685 rfl (lv_at hl 3 rfl) ?_
  refine lv_iconst (v := 2) hx hb dL_law_686 (by decide) ?_
  refine lv_iadd hx hb dL_law_687 ?_
  refine z_topi (y := 2) (by decide) ?_
  refine va_sld hx hb hX hbl hbA hS (vin (by decide)) dL_law_688 ?_
  refine z_topi (y := xs 2) rfl ?_
  refine lv_aload_n hx hb dL_law_689 rfl (lv_at hl 0 rfl) ?_
  refine lv_iload_n hx hb dL_law_690 rfl (lv_at hl 3 rfl) ?_
  refine lv_iconst (v := 3) hx hb dL_law_691 (by decide) ?_
  refine lv_iadd hx hb dL_law_692 ?_
  refine z_topi (y := 3) (by decide) ?_
  refine va_sld hx hb hX hbl hbA hS (vin (by decide)) dL_law_693 ?_
  refine z_topi (y := xs 3) rfl ?_
  have hPc := hP.sub2 (wc := [(x, .inr (11, [.ref st, .ref dr, .ref nw, .ref kp, .ref rd, .ref tm, .ref co])), (tm, .inr (8, [.ref be, .ref or_, .int 0, .int (-1)])), (be, .inl (cI, 6, .inl (fun _ => 0))), (or_, .inl (cI, 6, .inl (fun _ => 0))), (st, .inr (6, [.ref dr, .ref s1, .ref s2, .ref s3, .int 1])), (dr, .inr (0, [.ref nw, .ref tA, .ref lW, .ref nA, .ref kA, .int 0, .int 0])), (nw, .inr (10, [.ref rO, .ref sT, .ref mA, .ref sB, .ref sA, .ref tH, .ref tF, .ref tS, .int 0, .int 0, .int (-1), .int 0, .int 0])), (sT, .inr (4, [.ref cO, .ref sH, .int 0]))]) [0, 1, 2, 3, 4, 5, 6, 7] rfl
  have hDc := hD.sub (ws' := [(x, .inr (11, [.ref st, .ref dr, .ref nw, .ref kp, .ref rd, .ref tm, .ref co])), (tm, .inr (8, [.ref be, .ref or_, .int 0, .int (-1)])), (be, .inl (cI, 6, .inl (fun _ => 0))), (or_, .inl (cI, 6, .inl (fun _ => 0))), (st, .inr (6, [.ref dr, .ref s1, .ref s2, .ref s3, .int 1])), (dr, .inr (0, [.ref nw, .ref tA, .ref lW, .ref nA, .ref kA, .int 0, .int 0])), (nw, .inr (10, [.ref rO, .ref sT, .ref mA, .ref sB, .ref sA, .ref tH, .ref tF, .ref tS, .int 0, .int 0, .int (-1), .int 0, .int 0])), (sT, .inr (4, [.ref cO, .ref sH, .int 0]))]) [0, 1, 2, 3, 4, 5, 6, 7] (by decide) rfl
  refine raw_Vi (ci := 11) (q0 := 0) (nA := 3) (As := [.int (xs 1), .int (xs 2), .int (xs 3)]) (rest := []) Z hl.1 (c_X11_harness l D cI cM cT x st dr nw kp rd tm co be or_ s1 s2 s3 tA lW nA kA rO sT mA sB sA tH tF tS cO sH (xs 1) (xs 2) (xs 3)) (bw_V bw_904 bw_905 bw_906 bw_80 bw_907) ⟨by decide +kernel, by decide +kernel, by decide +kernel⟩ rfl ⟨Nat.le_of_ble_eq_true rfl, Nat.le_of_ble_eq_true rfl⟩ rfl rfl rfl hPc hDc hS rfl (Nat.le_of_ble_eq_true rfl) dL_law_694 ⟨Nat.le_of_ble_eq_true rfl, Nat.le_of_ble_eq_true rfl⟩ (fun r2 u1 H1 locs1 h3 hku1 hP1 hD1 hS1 => ?_)
  have hposth3 := h3
  obtain ⟨hP, hD⟩ := z_join (wr := [(q, .inr (12, [.ref aA, .ref aI, .ref aT, .ref aP, .int 0, .int (-1), .int (-1), .int 0, .int 0, .int 0, .int 0, .long 0, .int 0, .int 0, .int 0, .int 0, .ref pI, .int 0, .int 0, .int 0, .int 0, .int 0, .ref nM, .ref vA, .ref tR, .int 0, .int 0, .int 0, .ref rW, .ref sP, .ref oA, .ref bS, .ref aS, .ref aO, .ref cS, .ref wY])), (aA, .inl (cI, 862, .inl af0))]) Z hS hP hD [0, 1, 2, 3, 4, 5, 6, 7] [8, 9] rfl (by decide) rfl (by decide) (by decide) hku1 hP1 hD1
  have hS := hS1
  clear hS1
  generalize H1 = H at hP hS ⊢
  generalize locs1 = locs at hS ⊢
  have hP := va_P_left hP
  have hD := va_D_left hD
  refine lv_aload_n hx hb dL_law_697 rfl (lv_at hl 2 rfl) ?_
  refine lv_aload_n hx hb dL_law_698 rfl (lv_at hl 0 rfl) ?_
  refine lv_iload_n hx hb dL_law_699 rfl (lv_at hl 3 rfl) ?_
  refine lv_iconst (v := 1) hx hb dL_law_700 (by decide) ?_
  refine lv_iadd hx hb dL_law_701 ?_
  refine z_topi (y := 1) (by decide) ?_
  refine va_sld hx hb hX hbl hbA hS (vin (by decide)) dL_law_702 ?_
  refine z_topi (y := xs 1) rfl ?_
  refine lv_aload_n hx hb dL_law_703 rfl (lv_at hl 0 rfl) ?_
  refine lv_iload_n hx hb dL_law_704 rfl (lv_at hl 3 rfl) ?_
  refine lv_iconst (v := 2) hx hb dL_law_705 (by decide) ?_
  refine lv_iadd hx hb dL_law_706 ?_
  refine z_topi (y := 2) (by decide) ?_
  refine va_sld hx hb hX hbl hbA hS (vin (by decide)) dL_law_707 ?_
  refine z_topi (y := xs 2) rfl ?_
  refine lv_aload_n hx hb dL_law_708 rfl (lv_at hl 0 rfl) ?_
  refine lv_iload_n hx hb dL_law_709 rfl (lv_at hl 3 rfl) ?_
  refine lv_iconst (v := 3) hx hb dL_law_710 (by decide) ?_
  refine lv_iadd hx hb dL_law_711 ?_
  refine z_topi (y := 3) (by decide) ?_
  refine va_sld hx hb hX hbl hbA hS (vin (by decide)) dL_law_712 ?_
  refine z_topi (y := xs 3) rfl ?_
  have hPc := hP.sub2 (wc := [(q, .inr (12, [.ref aA, .ref aI, .ref aT, .ref aP, .int 0, .int (-1), .int (-1), .int 0, .int 0, .int 0, .int 0, .long 0, .int 0, .int 0, .int 0, .int 0, .ref pI, .int 0, .int 0, .int 0, .int 0, .int 0, .ref nM, .ref vA, .ref tR, .int 0, .int 0, .int 0, .ref rW, .ref sP, .ref oA, .ref bS, .ref aS, .ref aO, .ref cS, .ref wY])), (aA, .inl (cI, 862, .inl af0))]) [0, 1] rfl
  have hDc := hD.sub (ws' := [(q, .inr (12, [.ref aA, .ref aI, .ref aT, .ref aP, .int 0, .int (-1), .int (-1), .int 0, .int 0, .int 0, .int 0, .long 0, .int 0, .int 0, .int 0, .int 0, .ref pI, .int 0, .int 0, .int 0, .int 0, .int 0, .ref nM, .ref vA, .ref tR, .int 0, .int 0, .int 0, .ref rW, .ref sP, .ref oA, .ref bS, .ref aS, .ref aO, .ref cS, .ref wY])), (aA, .inl (cI, 862, .inl af0))]) [0, 1] (by decide) rfl
  refine raw_Vi (ci := 12) (q0 := 0) (nA := 3) (As := [.int (xs 1), .int (xs 2), .int (xs 3)]) (rest := [.int r2]) Z hl.1 (c_X12_harness l D cI cM cT q aA aI aT aP pI nM vA tR rW sP oA bS aS aO cS wY (xs 1) (xs 2) (xs 3)) (bw_V bw_1386 bw_1387 bw_1388 bw_92 bw_1389) ⟨by decide +kernel, by decide +kernel, by decide +kernel⟩ rfl ⟨Nat.le_of_ble_eq_true rfl, Nat.le_of_ble_eq_true rfl⟩ rfl rfl rfl hPc hDc hS rfl (Nat.le_of_ble_eq_true rfl) dL_law_713 ⟨Nat.le_of_ble_eq_true rfl, Nat.le_of_ble_eq_true rfl⟩ (fun r5 u4 H1 locs1 h6 hku4 hP1 hD1 hS1 => ?_)
  have hposth6 := h6
  obtain ⟨hP, hD⟩ := z_join (wr := []) Z hS hP hD [0, 1] [] rfl (by decide) rfl (by decide) (by decide) hku4 hP1 hD1
  have hS := hS1
  clear hS1
  generalize H1 = H at hP hS ⊢
  generalize locs1 = locs at hS ⊢
  have hP := va_P_left hP
  have hD := va_D_left hD
  refine lv_icmp_eq (tgt := 997) hx hb dL_law_716 (by decide) (fun c7 => ?_) (fun h => absurd (hposth3.trans hposth6.symm) h)
  exact law_tail Z hX hbl hS (lv_sub hl [0, 1, 2, 3] rfl)
set_option maxHeartbeats 4000000 in
set_option maxRecDepth 100000 in
theorem law_19 {p : Program} {l : Launch} {e : Env} {s : State} {m : MethodId} {below : List Frame} {meth : Method} {c : Code} {b : Nat} {xs : Nat → Int32} {D : va_G} {cI cM cT : ClassId} {H : Heap} {locs : List Loc} {ls : Array Slot} {x : Nat} {st : Nat} {dr : Nat} {nw : Nat} {kp : Nat} {rd : Nat} {tm : Nat} {co : Nat} {rO : Nat} {sT : Nat} {mA : Nat} {sB : Nat} {sA : Nat} {tH : Nat} {tF : Nat} {tS : Nat} {cO : Nat} {sH : Nat} {q : Nat} {aA : Nat} {aI : Nat} {aT : Nat} {aP : Nat} {pI : Nat} {nM : Nat} {vA : Nat} {tR : Nat} {rW : Nat} {sP : Nat} {oA : Nat} {bS : Nat} {aS : Nat} {aO : Nat} {cS : Nat} {wY : Nat} (Z : Zx p s m #[Value.ref b] meth c code 4 ret R_law (fun q : Nat => s.heap.size ≤ q) (ty3 cI cM cT) D) (hX : va_X b 6 xs s s.heap) (hbl : b < s.heap.size) (hP : va_P D vwCl ([(x, .inr (11, [.ref st, .ref dr, .ref nw, .ref kp, .ref rd, .ref tm, .ref co])), (nw, .inr (10, [.ref rO, .ref sT, .ref mA, .ref sB, .ref sA, .ref tH, .ref tF, .ref tS, .int 0, .int 0, .int (-1), .int 0, .int 0])), (sT, .inr (4, [.ref cO, .ref sH, .int 0])), (co, .inl (cI, 300, .inl (fun _ => 0))), (q, .inr (12, [.ref aA, .ref aI, .ref aT, .ref aP, .int 0, .int (-1), .int (-1), .int 0, .int 0, .int 0, .int 0, .long 0, .int 0, .int 0, .int 0, .int 0, .ref pI, .int 0, .int 0, .int 0, .int 0, .int 0, .ref nM, .ref vA, .ref tR, .int 0, .int 0, .int 0, .ref rW, .ref sP, .ref oA, .ref bS, .ref aS, .ref aO, .ref cS, .ref wY])), (aA, .inl (cI, 862, .inl af0)), (cS, .inl (cI, 300, .inl (fun _ => 0)))]) H) (hD : va_D (fun q : Nat => s.heap.size ≤ q) ([(x, .inr (11, [.ref st, .ref dr, .ref nw, .ref kp, .ref rd, .ref tm, .ref co])), (nw, .inr (10, [.ref rO, .ref sT, .ref mA, .ref sB, .ref sA, .ref tH, .ref tF, .ref tS, .int 0, .int 0, .int (-1), .int 0, .int 0])), (sT, .inr (4, [.ref cO, .ref sH, .int 0])), (co, .inl (cI, 300, .inl (fun _ => 0))), (q, .inr (12, [.ref aA, .ref aI, .ref aT, .ref aP, .int 0, .int (-1), .int (-1), .int 0, .int 0, .int 0, .int 0, .long 0, .int 0, .int 0, .int 0, .int 0, .ref pI, .int 0, .int 0, .int 0, .int 0, .int 0, .ref nM, .ref vA, .ref tR, .int 0, .int 0, .int 0, .ref rW, .ref sP, .ref oA, .ref bS, .ref aS, .ref aO, .ref cS, .ref wY])), (aA, .inl (cI, 862, .inl af0)), (cS, .inl (cI, 300, .inl (fun _ => 0)))])) (hS : va_S (fun q : Nat => s.heap.size ≤ q) s.heap H locs) (hl : lv_has ls 4 [(0, .ref b), (1, .ref x), (2, .ref q), (3, .int 0)]) : W p l e room_1 s m #[Value.ref b] below meth c H locs 300 23000 (lw_Z below #[Value.ref b] s) (F0 m 721 ls []) := by
  have hx := Z.1
  have hb := Z.2.1
  have hbA : ¬ (fun q : Nat => s.heap.size ≤ q) b := Nat.not_le.mpr hbl
  skip
  refine lv_aload_n hx hb dL_law_721 rfl (lv_at hl 1 rfl) ?_
  refine lv_aload_n hx hb dL_law_722 rfl (lv_at hl 0 rfl) ?_
  refine lv_iload_n hx hb dL_law_723 rfl (lv_at hl 3 rfl) ?_
  refine lv_iconst (v := 1) hx hb dL_law_724 (by decide) ?_
  refine lv_iadd hx hb dL_law_725 ?_
  refine z_topi (y := 1) (by decide) ?_
  refine va_sld hx hb hX hbl hbA hS (vin (by decide)) dL_law_726 ?_
  refine z_topi (y := xs 1) rfl ?_
  refine lv_aload_n hx hb dL_law_727 rfl (lv_at hl 0 rfl) ?_
  refine lv_iload_n hx hb dL_law_728 rfl (lv_at hl 3 rfl) ?_
  refine lv_iconst (v := 2) hx hb dL_law_729 (by decide) ?_
  refine lv_iadd hx hb dL_law_730 ?_
  refine z_topi (y := 2) (by decide) ?_
  refine va_sld hx hb hX hbl hbA hS (vin (by decide)) dL_law_731 ?_
  refine z_topi (y := xs 2) rfl ?_
  refine lv_aload_n hx hb dL_law_732 rfl (lv_at hl 0 rfl) ?_
  refine lv_iload_n hx hb dL_law_733 rfl (lv_at hl 3 rfl) ?_
  refine lv_iconst (v := 3) hx hb dL_law_734 (by decide) ?_
  refine lv_iadd hx hb dL_law_735 ?_
  refine z_topi (y := 3) (by decide) ?_
  refine va_sld hx hb hX hbl hbA hS (vin (by decide)) dL_law_736 ?_
  refine z_topi (y := xs 3) rfl ?_
  refine lv_if_eq (tgt := 744) hx hb dL_law_737 (by decide) (fun c1 => ?_) (fun c1 => ?_)
  · refine lv_iconst (v := 0) hx hb dL_law_744 (by decide) ?_
    have hPc := hP.sub2 (wc := [(x, .inr (11, [.ref st, .ref dr, .ref nw, .ref kp, .ref rd, .ref tm, .ref co])), (nw, .inr (10, [.ref rO, .ref sT, .ref mA, .ref sB, .ref sA, .ref tH, .ref tF, .ref tS, .int 0, .int 0, .int (-1), .int 0, .int 0])), (sT, .inr (4, [.ref cO, .ref sH, .int 0])), (co, .inl (cI, 300, .inl (fun _ => 0)))]) [0, 1, 2, 3] rfl
    have hDc := hD.sub (ws' := [(x, .inr (11, [.ref st, .ref dr, .ref nw, .ref kp, .ref rd, .ref tm, .ref co])), (nw, .inr (10, [.ref rO, .ref sT, .ref mA, .ref sB, .ref sA, .ref tH, .ref tF, .ref tS, .int 0, .int 0, .int (-1), .int 0, .int 0])), (sT, .inr (4, [.ref cO, .ref sH, .int 0])), (co, .inl (cI, 300, .inl (fun _ => 0)))]) [0, 1, 2, 3] (by decide) rfl
    refine raw_Vi (ci := 11) (q0 := 0) (nA := 3) (As := [.int (xs 1), .int (xs 2), .int 0]) (rest := []) Z hl.1 (c_X11_least l D cI cM cT x st dr nw kp rd tm co rO sT mA sB sA tH tF tS cO sH (xs 1) (xs 2) 0) (bw_V bw_922 bw_923 bw_924 bw_80 bw_925) ⟨by decide +kernel, by decide +kernel, by decide +kernel⟩ rfl ⟨Nat.le_of_ble_eq_true rfl, Nat.le_of_ble_eq_true rfl⟩ rfl rfl rfl hPc hDc hS rfl (Nat.le_of_ble_eq_true rfl) dL_law_745 ⟨Nat.le_of_ble_eq_true rfl, Nat.le_of_ble_eq_true rfl⟩ (fun r3 u2 H1 locs1 h4 hku2 hP1 hD1 hS1 => ?_)
    have hposth4 := h4
    obtain ⟨hP, hD⟩ := z_join (wr := [(q, .inr (12, [.ref aA, .ref aI, .ref aT, .ref aP, .int 0, .int (-1), .int (-1), .int 0, .int 0, .int 0, .int 0, .long 0, .int 0, .int 0, .int 0, .int 0, .ref pI, .int 0, .int 0, .int 0, .int 0, .int 0, .ref nM, .ref vA, .ref tR, .int 0, .int 0, .int 0, .ref rW, .ref sP, .ref oA, .ref bS, .ref aS, .ref aO, .ref cS, .ref wY])), (aA, .inl (cI, 862, .inl af0)), (cS, .inl (cI, 300, .inl (fun _ => 0)))]) Z hS hP hD [0, 1, 2, 3] [4, 5, 6] rfl (by decide) rfl (by decide) (by decide) hku2 hP1 hD1
    have hS := hS1
    clear hS1
    generalize H1 = H at hP hS ⊢
    generalize locs1 = locs at hS ⊢
    have hP := va_P_left hP
    have hD := va_D_left hD
    refine lv_aload_n hx hb dL_law_748 rfl (lv_at hl 2 rfl) ?_
    refine lv_aload_n hx hb dL_law_749 rfl (lv_at hl 0 rfl) ?_
    refine lv_iload_n hx hb dL_law_750 rfl (lv_at hl 3 rfl) ?_
    refine lv_iconst (v := 1) hx hb dL_law_751 (by decide) ?_
    refine lv_iadd hx hb dL_law_752 ?_
    refine z_topi (y := 1) (by decide) ?_
    refine va_sld hx hb hX hbl hbA hS (vin (by decide)) dL_law_753 ?_
    refine z_topi (y := xs 1) rfl ?_
    refine lv_aload_n hx hb dL_law_754 rfl (lv_at hl 0 rfl) ?_
    refine lv_iload_n hx hb dL_law_755 rfl (lv_at hl 3 rfl) ?_
    refine lv_iconst (v := 2) hx hb dL_law_756 (by decide) ?_
    refine lv_iadd hx hb dL_law_757 ?_
    refine z_topi (y := 2) (by decide) ?_
    refine va_sld hx hb hX hbl hbA hS (vin (by decide)) dL_law_758 ?_
    refine z_topi (y := xs 2) rfl ?_
    refine lv_aload_n hx hb dL_law_759 rfl (lv_at hl 0 rfl) ?_
    refine lv_iload_n hx hb dL_law_760 rfl (lv_at hl 3 rfl) ?_
    refine lv_iconst (v := 3) hx hb dL_law_761 (by decide) ?_
    refine lv_iadd hx hb dL_law_762 ?_
    refine z_topi (y := 3) (by decide) ?_
    refine va_sld hx hb hX hbl hbA hS (vin (by decide)) dL_law_763 ?_
    refine z_topi (y := xs 3) rfl ?_
    refine lv_if_eq (tgt := 771) hx hb dL_law_764 (by decide) (fun c5 => ?_) (fun c5 => ?_)
    · refine lv_iconst (v := 0) hx hb dL_law_771 (by decide) ?_
      have hPc := hP.sub2 (wc := [(q, .inr (12, [.ref aA, .ref aI, .ref aT, .ref aP, .int 0, .int (-1), .int (-1), .int 0, .int 0, .int 0, .int 0, .long 0, .int 0, .int 0, .int 0, .int 0, .ref pI, .int 0, .int 0, .int 0, .int 0, .int 0, .ref nM, .ref vA, .ref tR, .int 0, .int 0, .int 0, .ref rW, .ref sP, .ref oA, .ref bS, .ref aS, .ref aO, .ref cS, .ref wY])), (aA, .inl (cI, 862, .inl af0)), (cS, .inl (cI, 300, .inl (fun _ => 0)))]) [0, 1, 2] rfl
      have hDc := hD.sub (ws' := [(q, .inr (12, [.ref aA, .ref aI, .ref aT, .ref aP, .int 0, .int (-1), .int (-1), .int 0, .int 0, .int 0, .int 0, .long 0, .int 0, .int 0, .int 0, .int 0, .ref pI, .int 0, .int 0, .int 0, .int 0, .int 0, .ref nM, .ref vA, .ref tR, .int 0, .int 0, .int 0, .ref rW, .ref sP, .ref oA, .ref bS, .ref aS, .ref aO, .ref cS, .ref wY])), (aA, .inl (cI, 862, .inl af0)), (cS, .inl (cI, 300, .inl (fun _ => 0)))]) [0, 1, 2] (by decide) rfl
      refine raw_Vi (ci := 12) (q0 := 0) (nA := 3) (As := [.int (xs 1), .int (xs 2), .int 0]) (rest := [.int r3]) Z hl.1 (c_X12_least l D cI cM cT q aA aI aT aP pI nM vA tR rW sP oA bS aS aO cS wY (xs 1) (xs 2) 0) (bw_V bw_1399 bw_1400 bw_1401 bw_92 bw_1402) ⟨by decide +kernel, by decide +kernel, by decide +kernel⟩ rfl ⟨Nat.le_of_ble_eq_true rfl, Nat.le_of_ble_eq_true rfl⟩ rfl rfl rfl hPc hDc hS rfl (Nat.le_of_ble_eq_true rfl) dL_law_772 ⟨Nat.le_of_ble_eq_true rfl, Nat.le_of_ble_eq_true rfl⟩ (fun r7 u6 H1 locs1 h8 hku6 hP1 hD1 hS1 => ?_)
      have hposth8 := h8
      obtain ⟨hP, hD⟩ := z_join (wr := []) Z hS hP hD [0, 1, 2] [] rfl (by decide) rfl (by decide) (by decide) hku6 hP1 hD1
      have hS := hS1
      clear hS1
      generalize H1 = H at hP hS ⊢
      generalize locs1 = locs at hS ⊢
      have hP := va_P_left hP
      have hD := va_D_left hD
      refine lv_icmp_eq (tgt := 997) hx hb dL_law_775 (by decide) (fun c9 => ?_) (fun h => absurd (hposth4.trans hposth8.symm) h)
      exact law_tail Z hX hbl hS (lv_sub hl [0, 1, 2, 3] rfl)
    · refine lv_iconst (v := 1) hx hb dL_law_767 (by decide) ?_
      refine lv_goto (tgt := 772) hx hb dL_law_768 (by decide) ?_
      have hPc := hP.sub2 (wc := [(q, .inr (12, [.ref aA, .ref aI, .ref aT, .ref aP, .int 0, .int (-1), .int (-1), .int 0, .int 0, .int 0, .int 0, .long 0, .int 0, .int 0, .int 0, .int 0, .ref pI, .int 0, .int 0, .int 0, .int 0, .int 0, .ref nM, .ref vA, .ref tR, .int 0, .int 0, .int 0, .ref rW, .ref sP, .ref oA, .ref bS, .ref aS, .ref aO, .ref cS, .ref wY])), (aA, .inl (cI, 862, .inl af0)), (cS, .inl (cI, 300, .inl (fun _ => 0)))]) [0, 1, 2] rfl
      have hDc := hD.sub (ws' := [(q, .inr (12, [.ref aA, .ref aI, .ref aT, .ref aP, .int 0, .int (-1), .int (-1), .int 0, .int 0, .int 0, .int 0, .long 0, .int 0, .int 0, .int 0, .int 0, .ref pI, .int 0, .int 0, .int 0, .int 0, .int 0, .ref nM, .ref vA, .ref tR, .int 0, .int 0, .int 0, .ref rW, .ref sP, .ref oA, .ref bS, .ref aS, .ref aO, .ref cS, .ref wY])), (aA, .inl (cI, 862, .inl af0)), (cS, .inl (cI, 300, .inl (fun _ => 0)))]) [0, 1, 2] (by decide) rfl
      refine raw_Vi (ci := 12) (q0 := 0) (nA := 3) (As := [.int (xs 1), .int (xs 2), .int 1]) (rest := [.int r3]) Z hl.1 (c_X12_least l D cI cM cT q aA aI aT aP pI nM vA tR rW sP oA bS aS aO cS wY (xs 1) (xs 2) 1) (bw_V bw_1399 bw_1400 bw_1401 bw_92 bw_1402) ⟨by decide +kernel, by decide +kernel, by decide +kernel⟩ rfl ⟨Nat.le_of_ble_eq_true rfl, Nat.le_of_ble_eq_true rfl⟩ rfl rfl rfl hPc hDc hS rfl (Nat.le_of_ble_eq_true rfl) dL_law_772 ⟨Nat.le_of_ble_eq_true rfl, Nat.le_of_ble_eq_true rfl⟩ (fun r11 u10 H1 locs1 h12 hku10 hP1 hD1 hS1 => ?_)
      have hposth12 := h12
      obtain ⟨hP, hD⟩ := z_join (wr := []) Z hS hP hD [0, 1, 2] [] rfl (by decide) rfl (by decide) (by decide) hku10 hP1 hD1
      have hS := hS1
      clear hS1
      generalize H1 = H at hP hS ⊢
      generalize locs1 = locs at hS ⊢
      have hP := va_P_left hP
      have hD := va_D_left hD
      refine lv_icmp_eq (tgt := 997) hx hb dL_law_775 (by decide) (fun c13 => ?_) (fun h => absurd (hposth4.trans hposth12.symm) h)
      exact law_tail Z hX hbl hS (lv_sub hl [0, 1, 2, 3] rfl)
  · refine lv_iconst (v := 1) hx hb dL_law_740 (by decide) ?_
    refine lv_goto (tgt := 745) hx hb dL_law_741 (by decide) ?_
    have hPc := hP.sub2 (wc := [(x, .inr (11, [.ref st, .ref dr, .ref nw, .ref kp, .ref rd, .ref tm, .ref co])), (nw, .inr (10, [.ref rO, .ref sT, .ref mA, .ref sB, .ref sA, .ref tH, .ref tF, .ref tS, .int 0, .int 0, .int (-1), .int 0, .int 0])), (sT, .inr (4, [.ref cO, .ref sH, .int 0])), (co, .inl (cI, 300, .inl (fun _ => 0)))]) [0, 1, 2, 3] rfl
    have hDc := hD.sub (ws' := [(x, .inr (11, [.ref st, .ref dr, .ref nw, .ref kp, .ref rd, .ref tm, .ref co])), (nw, .inr (10, [.ref rO, .ref sT, .ref mA, .ref sB, .ref sA, .ref tH, .ref tF, .ref tS, .int 0, .int 0, .int (-1), .int 0, .int 0])), (sT, .inr (4, [.ref cO, .ref sH, .int 0])), (co, .inl (cI, 300, .inl (fun _ => 0)))]) [0, 1, 2, 3] (by decide) rfl
    refine raw_Vi (ci := 11) (q0 := 0) (nA := 3) (As := [.int (xs 1), .int (xs 2), .int 1]) (rest := []) Z hl.1 (c_X11_least l D cI cM cT x st dr nw kp rd tm co rO sT mA sB sA tH tF tS cO sH (xs 1) (xs 2) 1) (bw_V bw_922 bw_923 bw_924 bw_80 bw_925) ⟨by decide +kernel, by decide +kernel, by decide +kernel⟩ rfl ⟨Nat.le_of_ble_eq_true rfl, Nat.le_of_ble_eq_true rfl⟩ rfl rfl rfl hPc hDc hS rfl (Nat.le_of_ble_eq_true rfl) dL_law_745 ⟨Nat.le_of_ble_eq_true rfl, Nat.le_of_ble_eq_true rfl⟩ (fun r15 u14 H1 locs1 h16 hku14 hP1 hD1 hS1 => ?_)
    have hposth16 := h16
    obtain ⟨hP, hD⟩ := z_join (wr := [(q, .inr (12, [.ref aA, .ref aI, .ref aT, .ref aP, .int 0, .int (-1), .int (-1), .int 0, .int 0, .int 0, .int 0, .long 0, .int 0, .int 0, .int 0, .int 0, .ref pI, .int 0, .int 0, .int 0, .int 0, .int 0, .ref nM, .ref vA, .ref tR, .int 0, .int 0, .int 0, .ref rW, .ref sP, .ref oA, .ref bS, .ref aS, .ref aO, .ref cS, .ref wY])), (aA, .inl (cI, 862, .inl af0)), (cS, .inl (cI, 300, .inl (fun _ => 0)))]) Z hS hP hD [0, 1, 2, 3] [4, 5, 6] rfl (by decide) rfl (by decide) (by decide) hku14 hP1 hD1
    have hS := hS1
    clear hS1
    generalize H1 = H at hP hS ⊢
    generalize locs1 = locs at hS ⊢
    have hP := va_P_left hP
    have hD := va_D_left hD
    refine lv_aload_n hx hb dL_law_748 rfl (lv_at hl 2 rfl) ?_
    refine lv_aload_n hx hb dL_law_749 rfl (lv_at hl 0 rfl) ?_
    refine lv_iload_n hx hb dL_law_750 rfl (lv_at hl 3 rfl) ?_
    refine lv_iconst (v := 1) hx hb dL_law_751 (by decide) ?_
    refine lv_iadd hx hb dL_law_752 ?_
    refine z_topi (y := 1) (by decide) ?_
    refine va_sld hx hb hX hbl hbA hS (vin (by decide)) dL_law_753 ?_
    refine z_topi (y := xs 1) rfl ?_
    refine lv_aload_n hx hb dL_law_754 rfl (lv_at hl 0 rfl) ?_
    refine lv_iload_n hx hb dL_law_755 rfl (lv_at hl 3 rfl) ?_
    refine lv_iconst (v := 2) hx hb dL_law_756 (by decide) ?_
    refine lv_iadd hx hb dL_law_757 ?_
    refine z_topi (y := 2) (by decide) ?_
    refine va_sld hx hb hX hbl hbA hS (vin (by decide)) dL_law_758 ?_
    refine z_topi (y := xs 2) rfl ?_
    refine lv_aload_n hx hb dL_law_759 rfl (lv_at hl 0 rfl) ?_
    refine lv_iload_n hx hb dL_law_760 rfl (lv_at hl 3 rfl) ?_
    refine lv_iconst (v := 3) hx hb dL_law_761 (by decide) ?_
    refine lv_iadd hx hb dL_law_762 ?_
    refine z_topi (y := 3) (by decide) ?_
    refine va_sld hx hb hX hbl hbA hS (vin (by decide)) dL_law_763 ?_
    refine z_topi (y := xs 3) rfl ?_
    refine lv_if_eq (tgt := 771) hx hb dL_law_764 (by decide) (fun c17 => ?_) (fun c17 => ?_)
    · refine lv_iconst (v := 0) hx hb dL_law_771 (by decide) ?_
      have hPc := hP.sub2 (wc := [(q, .inr (12, [.ref aA, .ref aI, .ref aT, .ref aP, .int 0, .int (-1), .int (-1), .int 0, .int 0, .int 0, .int 0, .long 0, .int 0, .int 0, .int 0, .int 0, .ref pI, .int 0, .int 0, .int 0, .int 0, .int 0, .ref nM, .ref vA, .ref tR, .int 0, .int 0, .int 0, .ref rW, .ref sP, .ref oA, .ref bS, .ref aS, .ref aO, .ref cS, .ref wY])), (aA, .inl (cI, 862, .inl af0)), (cS, .inl (cI, 300, .inl (fun _ => 0)))]) [0, 1, 2] rfl
      have hDc := hD.sub (ws' := [(q, .inr (12, [.ref aA, .ref aI, .ref aT, .ref aP, .int 0, .int (-1), .int (-1), .int 0, .int 0, .int 0, .int 0, .long 0, .int 0, .int 0, .int 0, .int 0, .ref pI, .int 0, .int 0, .int 0, .int 0, .int 0, .ref nM, .ref vA, .ref tR, .int 0, .int 0, .int 0, .ref rW, .ref sP, .ref oA, .ref bS, .ref aS, .ref aO, .ref cS, .ref wY])), (aA, .inl (cI, 862, .inl af0)), (cS, .inl (cI, 300, .inl (fun _ => 0)))]) [0, 1, 2] (by decide) rfl
      refine raw_Vi (ci := 12) (q0 := 0) (nA := 3) (As := [.int (xs 1), .int (xs 2), .int 0]) (rest := [.int r15]) Z hl.1 (c_X12_least l D cI cM cT q aA aI aT aP pI nM vA tR rW sP oA bS aS aO cS wY (xs 1) (xs 2) 0) (bw_V bw_1399 bw_1400 bw_1401 bw_92 bw_1402) ⟨by decide +kernel, by decide +kernel, by decide +kernel⟩ rfl ⟨Nat.le_of_ble_eq_true rfl, Nat.le_of_ble_eq_true rfl⟩ rfl rfl rfl hPc hDc hS rfl (Nat.le_of_ble_eq_true rfl) dL_law_772 ⟨Nat.le_of_ble_eq_true rfl, Nat.le_of_ble_eq_true rfl⟩ (fun r19 u18 H1 locs1 h20 hku18 hP1 hD1 hS1 => ?_)
      have hposth20 := h20
      obtain ⟨hP, hD⟩ := z_join (wr := []) Z hS hP hD [0, 1, 2] [] rfl (by decide) rfl (by decide) (by decide) hku18 hP1 hD1
      have hS := hS1
      clear hS1
      generalize H1 = H at hP hS ⊢
      generalize locs1 = locs at hS ⊢
      have hP := va_P_left hP
      have hD := va_D_left hD
      refine lv_icmp_eq (tgt := 997) hx hb dL_law_775 (by decide) (fun c21 => ?_) (fun h => absurd (hposth16.trans hposth20.symm) h)
      exact law_tail Z hX hbl hS (lv_sub hl [0, 1, 2, 3] rfl)
    · refine lv_iconst (v := 1) hx hb dL_law_767 (by decide) ?_
      refine lv_goto (tgt := 772) hx hb dL_law_768 (by decide) ?_
      have hPc := hP.sub2 (wc := [(q, .inr (12, [.ref aA, .ref aI, .ref aT, .ref aP, .int 0, .int (-1), .int (-1), .int 0, .int 0, .int 0, .int 0, .long 0, .int 0, .int 0, .int 0, .int 0, .ref pI, .int 0, .int 0, .int 0, .int 0, .int 0, .ref nM, .ref vA, .ref tR, .int 0, .int 0, .int 0, .ref rW, .ref sP, .ref oA, .ref bS, .ref aS, .ref aO, .ref cS, .ref wY])), (aA, .inl (cI, 862, .inl af0)), (cS, .inl (cI, 300, .inl (fun _ => 0)))]) [0, 1, 2] rfl
      have hDc := hD.sub (ws' := [(q, .inr (12, [.ref aA, .ref aI, .ref aT, .ref aP, .int 0, .int (-1), .int (-1), .int 0, .int 0, .int 0, .int 0, .long 0, .int 0, .int 0, .int 0, .int 0, .ref pI, .int 0, .int 0, .int 0, .int 0, .int 0, .ref nM, .ref vA, .ref tR, .int 0, .int 0, .int 0, .ref rW, .ref sP, .ref oA, .ref bS, .ref aS, .ref aO, .ref cS, .ref wY])), (aA, .inl (cI, 862, .inl af0)), (cS, .inl (cI, 300, .inl (fun _ => 0)))]) [0, 1, 2] (by decide) rfl
      refine raw_Vi (ci := 12) (q0 := 0) (nA := 3) (As := [.int (xs 1), .int (xs 2), .int 1]) (rest := [.int r15]) Z hl.1 (c_X12_least l D cI cM cT q aA aI aT aP pI nM vA tR rW sP oA bS aS aO cS wY (xs 1) (xs 2) 1) (bw_V bw_1399 bw_1400 bw_1401 bw_92 bw_1402) ⟨by decide +kernel, by decide +kernel, by decide +kernel⟩ rfl ⟨Nat.le_of_ble_eq_true rfl, Nat.le_of_ble_eq_true rfl⟩ rfl rfl rfl hPc hDc hS rfl (Nat.le_of_ble_eq_true rfl) dL_law_772 ⟨Nat.le_of_ble_eq_true rfl, Nat.le_of_ble_eq_true rfl⟩ (fun r23 u22 H1 locs1 h24 hku22 hP1 hD1 hS1 => ?_)
      have hposth24 := h24
      obtain ⟨hP, hD⟩ := z_join (wr := []) Z hS hP hD [0, 1, 2] [] rfl (by decide) rfl (by decide) (by decide) hku22 hP1 hD1
      have hS := hS1
      clear hS1
      generalize H1 = H at hP hS ⊢
      generalize locs1 = locs at hS ⊢
      have hP := va_P_left hP
      have hD := va_D_left hD
      refine lv_icmp_eq (tgt := 997) hx hb dL_law_775 (by decide) (fun c25 => ?_) (fun h => absurd (hposth16.trans hposth24.symm) h)
      exact law_tail Z hX hbl hS (lv_sub hl [0, 1, 2, 3] rfl)
set_option maxHeartbeats 4000000 in
set_option maxRecDepth 100000 in
theorem law_20 {p : Program} {l : Launch} {e : Env} {s : State} {m : MethodId} {below : List Frame} {meth : Method} {c : Code} {b : Nat} {xs : Nat → Int32} {D : va_G} {cI cM cT : ClassId} {H : Heap} {locs : List Loc} {ls : Array Slot} {x : Nat} {st : Nat} {dr : Nat} {nw : Nat} {kp : Nat} {rd : Nat} {tm : Nat} {co : Nat} {rO : Nat} {sT : Nat} {mA : Nat} {sB : Nat} {sA : Nat} {tH : Nat} {tF : Nat} {tS : Nat} {cO : Nat} {sH : Nat} {q : Nat} {aA : Nat} {aI : Nat} {aT : Nat} {aP : Nat} {pI : Nat} {nM : Nat} {vA : Nat} {tR : Nat} {rW : Nat} {sP : Nat} {oA : Nat} {bS : Nat} {aS : Nat} {aO : Nat} {cS : Nat} {wY : Nat} (Z : Zx p s m #[Value.ref b] meth c code 4 ret R_law (fun q : Nat => s.heap.size ≤ q) (ty3 cI cM cT) D) (hX : va_X b 6 xs s s.heap) (hbl : b < s.heap.size) (hP : va_P D vwCl ([(x, .inr (11, [.ref st, .ref dr, .ref nw, .ref kp, .ref rd, .ref tm, .ref co])), (nw, .inr (10, [.ref rO, .ref sT, .ref mA, .ref sB, .ref sA, .ref tH, .ref tF, .ref tS, .int 0, .int 0, .int (-1), .int 0, .int 0])), (sT, .inr (4, [.ref cO, .ref sH, .int 0])), (q, .inr (12, [.ref aA, .ref aI, .ref aT, .ref aP, .int 0, .int (-1), .int (-1), .int 0, .int 0, .int 0, .int 0, .long 0, .int 0, .int 0, .int 0, .int 0, .ref pI, .int 0, .int 0, .int 0, .int 0, .int 0, .ref nM, .ref vA, .ref tR, .int 0, .int 0, .int 0, .ref rW, .ref sP, .ref oA, .ref bS, .ref aS, .ref aO, .ref cS, .ref wY])), (aA, .inl (cI, 862, .inl af0))]) H) (hD : va_D (fun q : Nat => s.heap.size ≤ q) ([(x, .inr (11, [.ref st, .ref dr, .ref nw, .ref kp, .ref rd, .ref tm, .ref co])), (nw, .inr (10, [.ref rO, .ref sT, .ref mA, .ref sB, .ref sA, .ref tH, .ref tF, .ref tS, .int 0, .int 0, .int (-1), .int 0, .int 0])), (sT, .inr (4, [.ref cO, .ref sH, .int 0])), (q, .inr (12, [.ref aA, .ref aI, .ref aT, .ref aP, .int 0, .int (-1), .int (-1), .int 0, .int 0, .int 0, .int 0, .long 0, .int 0, .int 0, .int 0, .int 0, .ref pI, .int 0, .int 0, .int 0, .int 0, .int 0, .ref nM, .ref vA, .ref tR, .int 0, .int 0, .int 0, .ref rW, .ref sP, .ref oA, .ref bS, .ref aS, .ref aO, .ref cS, .ref wY])), (aA, .inl (cI, 862, .inl af0))])) (hS : va_S (fun q : Nat => s.heap.size ≤ q) s.heap H locs) (hl : lv_has ls 4 [(0, .ref b), (1, .ref x), (2, .ref q), (3, .int 0)]) : W p l e room_1 s m #[Value.ref b] below meth c H locs 300 23000 (lw_Z below #[Value.ref b] s) (F0 m 780 ls []) := by
  have hx := Z.1
  have hb := Z.2.1
  have hbA : ¬ (fun q : Nat => s.heap.size ≤ q) b := Nat.not_le.mpr hbl
  skip
  refine lv_aload_n hx hb dL_law_780 rfl (lv_at hl 1 rfl) ?_
  refine lv_aload_n hx hb dL_law_781 rfl (lv_at hl 0 rfl) ?_
  refine lv_iload_n hx hb dL_law_782 rfl (lv_at hl 3 rfl) ?_
  refine lv_iconst (v := 1) hx hb dL_law_783 (by decide) ?_
  refine lv_iadd hx hb dL_law_784 ?_
  refine z_topi (y := 1) (by decide) ?_
  refine va_sld hx hb hX hbl hbA hS (vin (by decide)) dL_law_785 ?_
  refine z_topi (y := xs 1) rfl ?_
  refine lv_aload_n hx hb dL_law_786 rfl (lv_at hl 0 rfl) ?_
  refine lv_iload_n hx hb dL_law_787 rfl (lv_at hl 3 rfl) ?_
  refine lv_iconst (v := 2) hx hb dL_law_788 (by decide) ?_
  refine lv_iadd hx hb dL_law_789 ?_
  refine z_topi (y := 2) (by decide) ?_
  refine va_sld hx hb hX hbl hbA hS (vin (by decide)) dL_law_790 ?_
  refine z_topi (y := xs 2) rfl ?_
  refine lv_aload_n hx hb dL_law_791 rfl (lv_at hl 0 rfl) ?_
  refine lv_iload_n hx hb dL_law_792 rfl (lv_at hl 3 rfl) ?_
  refine lv_iconst (v := 3) hx hb dL_law_793 (by decide) ?_
  refine lv_iadd hx hb dL_law_794 ?_
  refine z_topi (y := 3) (by decide) ?_
  refine va_sld hx hb hX hbl hbA hS (vin (by decide)) dL_law_795 ?_
  refine z_topi (y := xs 3) rfl ?_
  have hPc := hP.sub2 (wc := [(x, .inr (11, [.ref st, .ref dr, .ref nw, .ref kp, .ref rd, .ref tm, .ref co])), (nw, .inr (10, [.ref rO, .ref sT, .ref mA, .ref sB, .ref sA, .ref tH, .ref tF, .ref tS, .int 0, .int 0, .int (-1), .int 0, .int 0])), (sT, .inr (4, [.ref cO, .ref sH, .int 0]))]) [0, 1, 2] rfl
  have hDc := hD.sub (ws' := [(x, .inr (11, [.ref st, .ref dr, .ref nw, .ref kp, .ref rd, .ref tm, .ref co])), (nw, .inr (10, [.ref rO, .ref sT, .ref mA, .ref sB, .ref sA, .ref tH, .ref tF, .ref tS, .int 0, .int 0, .int (-1), .int 0, .int 0])), (sT, .inr (4, [.ref cO, .ref sH, .int 0]))]) [0, 1, 2] (by decide) rfl
  refine raw_Vi (ci := 11) (q0 := 0) (nA := 3) (As := [.int (xs 1), .int (xs 2), .int (xs 3)]) (rest := []) Z hl.1 (c_X11_thief l D cI cM cT x st dr nw kp rd tm co rO sT mA sB sA tH tF tS cO sH (xs 1) (xs 2) (xs 3)) (bw_V bw_932 bw_933 bw_934 bw_80 bw_935) ⟨by decide +kernel, by decide +kernel, by decide +kernel⟩ rfl ⟨Nat.le_of_ble_eq_true rfl, Nat.le_of_ble_eq_true rfl⟩ rfl rfl rfl hPc hDc hS rfl (Nat.le_of_ble_eq_true rfl) dL_law_796 ⟨Nat.le_of_ble_eq_true rfl, Nat.le_of_ble_eq_true rfl⟩ (fun r2 u1 H1 locs1 h3 hku1 hP1 hD1 hS1 => ?_)
  have hposth3 := h3
  obtain ⟨hP, hD⟩ := z_join (wr := [(q, .inr (12, [.ref aA, .ref aI, .ref aT, .ref aP, .int 0, .int (-1), .int (-1), .int 0, .int 0, .int 0, .int 0, .long 0, .int 0, .int 0, .int 0, .int 0, .ref pI, .int 0, .int 0, .int 0, .int 0, .int 0, .ref nM, .ref vA, .ref tR, .int 0, .int 0, .int 0, .ref rW, .ref sP, .ref oA, .ref bS, .ref aS, .ref aO, .ref cS, .ref wY])), (aA, .inl (cI, 862, .inl af0))]) Z hS hP hD [0, 1, 2] [3, 4] rfl (by decide) rfl (by decide) (by decide) hku1 hP1 hD1
  have hS := hS1
  clear hS1
  generalize H1 = H at hP hS ⊢
  generalize locs1 = locs at hS ⊢
  have hP := va_P_left hP
  have hD := va_D_left hD
  refine lv_aload_n hx hb dL_law_799 rfl (lv_at hl 2 rfl) ?_
  refine lv_aload_n hx hb dL_law_800 rfl (lv_at hl 0 rfl) ?_
  refine lv_iload_n hx hb dL_law_801 rfl (lv_at hl 3 rfl) ?_
  refine lv_iconst (v := 1) hx hb dL_law_802 (by decide) ?_
  refine lv_iadd hx hb dL_law_803 ?_
  refine z_topi (y := 1) (by decide) ?_
  refine va_sld hx hb hX hbl hbA hS (vin (by decide)) dL_law_804 ?_
  refine z_topi (y := xs 1) rfl ?_
  refine lv_aload_n hx hb dL_law_805 rfl (lv_at hl 0 rfl) ?_
  refine lv_iload_n hx hb dL_law_806 rfl (lv_at hl 3 rfl) ?_
  refine lv_iconst (v := 2) hx hb dL_law_807 (by decide) ?_
  refine lv_iadd hx hb dL_law_808 ?_
  refine z_topi (y := 2) (by decide) ?_
  refine va_sld hx hb hX hbl hbA hS (vin (by decide)) dL_law_809 ?_
  refine z_topi (y := xs 2) rfl ?_
  refine lv_aload_n hx hb dL_law_810 rfl (lv_at hl 0 rfl) ?_
  refine lv_iload_n hx hb dL_law_811 rfl (lv_at hl 3 rfl) ?_
  refine lv_iconst (v := 3) hx hb dL_law_812 (by decide) ?_
  refine lv_iadd hx hb dL_law_813 ?_
  refine z_topi (y := 3) (by decide) ?_
  refine va_sld hx hb hX hbl hbA hS (vin (by decide)) dL_law_814 ?_
  refine z_topi (y := xs 3) rfl ?_
  have hPc := hP.sub2 (wc := [(q, .inr (12, [.ref aA, .ref aI, .ref aT, .ref aP, .int 0, .int (-1), .int (-1), .int 0, .int 0, .int 0, .int 0, .long 0, .int 0, .int 0, .int 0, .int 0, .ref pI, .int 0, .int 0, .int 0, .int 0, .int 0, .ref nM, .ref vA, .ref tR, .int 0, .int 0, .int 0, .ref rW, .ref sP, .ref oA, .ref bS, .ref aS, .ref aO, .ref cS, .ref wY])), (aA, .inl (cI, 862, .inl af0))]) [0, 1] rfl
  have hDc := hD.sub (ws' := [(q, .inr (12, [.ref aA, .ref aI, .ref aT, .ref aP, .int 0, .int (-1), .int (-1), .int 0, .int 0, .int 0, .int 0, .long 0, .int 0, .int 0, .int 0, .int 0, .ref pI, .int 0, .int 0, .int 0, .int 0, .int 0, .ref nM, .ref vA, .ref tR, .int 0, .int 0, .int 0, .ref rW, .ref sP, .ref oA, .ref bS, .ref aS, .ref aO, .ref cS, .ref wY])), (aA, .inl (cI, 862, .inl af0))]) [0, 1] (by decide) rfl
  refine raw_Vi (ci := 12) (q0 := 0) (nA := 3) (As := [.int (xs 1), .int (xs 2), .int (xs 3)]) (rest := [.int r2]) Z hl.1 (c_X12_thief l D cI cM cT q aA aI aT aP pI nM vA tR rW sP oA bS aS aO cS wY (xs 1) (xs 2) (xs 3)) (bw_V bw_1408 bw_1409 bw_1410 bw_92 bw_1411) ⟨by decide +kernel, by decide +kernel, by decide +kernel⟩ rfl ⟨Nat.le_of_ble_eq_true rfl, Nat.le_of_ble_eq_true rfl⟩ rfl rfl rfl hPc hDc hS rfl (Nat.le_of_ble_eq_true rfl) dL_law_815 ⟨Nat.le_of_ble_eq_true rfl, Nat.le_of_ble_eq_true rfl⟩ (fun r5 u4 H1 locs1 h6 hku4 hP1 hD1 hS1 => ?_)
  have hposth6 := h6
  obtain ⟨hP, hD⟩ := z_join (wr := []) Z hS hP hD [0, 1] [] rfl (by decide) rfl (by decide) (by decide) hku4 hP1 hD1
  have hS := hS1
  clear hS1
  generalize H1 = H at hP hS ⊢
  generalize locs1 = locs at hS ⊢
  have hP := va_P_left hP
  have hD := va_D_left hD
  refine lv_icmp_eq (tgt := 997) hx hb dL_law_818 (by decide) (fun c7 => ?_) (fun h => absurd (hposth3.trans hposth6.symm) h)
  exact law_tail Z hX hbl hS (lv_sub hl [0, 1, 2, 3] rfl)
set_option maxHeartbeats 4000000 in
set_option maxRecDepth 100000 in
theorem law_21 {p : Program} {l : Launch} {e : Env} {s : State} {m : MethodId} {below : List Frame} {meth : Method} {c : Code} {b : Nat} {xs : Nat → Int32} {D : va_G} {cI cM cT : ClassId} {H : Heap} {locs : List Loc} {ls : Array Slot} {x : Nat} {st : Nat} {dr : Nat} {nw : Nat} {kp : Nat} {rd : Nat} {tm : Nat} {co : Nat} {rO : Nat} {sT : Nat} {mA : Nat} {sB : Nat} {sA : Nat} {tH : Nat} {tF : Nat} {tS : Nat} {q : Nat} {aA : Nat} {aI : Nat} {aT : Nat} {aP : Nat} {pI : Nat} {nM : Nat} {vA : Nat} {tR : Nat} {rW : Nat} {sP : Nat} {oA : Nat} {bS : Nat} {aS : Nat} {aO : Nat} {cS : Nat} {wY : Nat} (Z : Zx p s m #[Value.ref b] meth c code 4 ret R_law (fun q : Nat => s.heap.size ≤ q) (ty3 cI cM cT) D) (hX : va_X b 6 xs s s.heap) (hbl : b < s.heap.size) (hP : va_P D vwCl ([(x, .inr (11, [.ref st, .ref dr, .ref nw, .ref kp, .ref rd, .ref tm, .ref co])), (nw, .inr (10, [.ref rO, .ref sT, .ref mA, .ref sB, .ref sA, .ref tH, .ref tF, .ref tS, .int 0, .int 0, .int (-1), .int 0, .int 0])), (sA, .inl (cI, 6, .inl (fun _ => 0))), (q, .inr (12, [.ref aA, .ref aI, .ref aT, .ref aP, .int 0, .int (-1), .int (-1), .int 0, .int 0, .int 0, .int 0, .long 0, .int 0, .int 0, .int 0, .int 0, .ref pI, .int 0, .int 0, .int 0, .int 0, .int 0, .ref nM, .ref vA, .ref tR, .int 0, .int 0, .int 0, .ref rW, .ref sP, .ref oA, .ref bS, .ref aS, .ref aO, .ref cS, .ref wY])), (aA, .inl (cI, 862, .inl af0))]) H) (hD : va_D (fun q : Nat => s.heap.size ≤ q) ([(x, .inr (11, [.ref st, .ref dr, .ref nw, .ref kp, .ref rd, .ref tm, .ref co])), (nw, .inr (10, [.ref rO, .ref sT, .ref mA, .ref sB, .ref sA, .ref tH, .ref tF, .ref tS, .int 0, .int 0, .int (-1), .int 0, .int 0])), (sA, .inl (cI, 6, .inl (fun _ => 0))), (q, .inr (12, [.ref aA, .ref aI, .ref aT, .ref aP, .int 0, .int (-1), .int (-1), .int 0, .int 0, .int 0, .int 0, .long 0, .int 0, .int 0, .int 0, .int 0, .ref pI, .int 0, .int 0, .int 0, .int 0, .int 0, .ref nM, .ref vA, .ref tR, .int 0, .int 0, .int 0, .ref rW, .ref sP, .ref oA, .ref bS, .ref aS, .ref aO, .ref cS, .ref wY])), (aA, .inl (cI, 862, .inl af0))])) (hS : va_S (fun q : Nat => s.heap.size ≤ q) s.heap H locs) (hl : lv_has ls 4 [(0, .ref b), (1, .ref x), (2, .ref q), (3, .int 0)]) : W p l e room_1 s m #[Value.ref b] below meth c H locs 300 23000 (lw_Z below #[Value.ref b] s) (F0 m 823 ls []) := by
  have hx := Z.1
  have hb := Z.2.1
  have hbA : ¬ (fun q : Nat => s.heap.size ≤ q) b := Nat.not_le.mpr hbl
  skip
  refine lv_aload_n hx hb dL_law_823 rfl (lv_at hl 1 rfl) ?_
  refine lv_aload_n hx hb dL_law_824 rfl (lv_at hl 0 rfl) ?_
  refine lv_iload_n hx hb dL_law_825 rfl (lv_at hl 3 rfl) ?_
  refine lv_iconst (v := 1) hx hb dL_law_826 (by decide) ?_
  refine lv_iadd hx hb dL_law_827 ?_
  refine z_topi (y := 1) (by decide) ?_
  refine va_sld hx hb hX hbl hbA hS (vin (by decide)) dL_law_828 ?_
  refine z_topi (y := xs 1) rfl ?_
  have hPc := hP.sub2 (wc := [(x, .inr (11, [.ref st, .ref dr, .ref nw, .ref kp, .ref rd, .ref tm, .ref co])), (nw, .inr (10, [.ref rO, .ref sT, .ref mA, .ref sB, .ref sA, .ref tH, .ref tF, .ref tS, .int 0, .int 0, .int (-1), .int 0, .int 0])), (sA, .inl (cI, 6, .inl (fun _ => 0)))]) [0, 1, 2] rfl
  have hDc := hD.sub (ws' := [(x, .inr (11, [.ref st, .ref dr, .ref nw, .ref kp, .ref rd, .ref tm, .ref co])), (nw, .inr (10, [.ref rO, .ref sT, .ref mA, .ref sB, .ref sA, .ref tH, .ref tF, .ref tS, .int 0, .int 0, .int (-1), .int 0, .int 0])), (sA, .inl (cI, 6, .inl (fun _ => 0)))]) [0, 1, 2] (by decide) rfl
  refine raw_Vi (ci := 11) (q0 := 0) (nA := 1) (As := [.int (xs 1)]) (rest := []) Z hl.1 (c_X11_seen l D cI cM cT x st dr nw kp rd tm co rO sT mA sB sA tH tF tS (xs 1)) (bw_V bw_946 bw_947 bw_948 bw_80 bw_949) ⟨by decide +kernel, by decide +kernel, by decide +kernel⟩ rfl ⟨Nat.le_of_ble_eq_true rfl, Nat.le_of_ble_eq_true rfl⟩ rfl rfl rfl hPc hDc hS rfl (Nat.le_of_ble_eq_true rfl) dL_law_829 ⟨Nat.le_of_ble_eq_true rfl, Nat.le_of_ble_eq_true rfl⟩ (fun r2 u1 H1 locs1 h3 hku1 hP1 hD1 hS1 => ?_)
  have hposth3 := h3
  obtain ⟨hP, hD⟩ := z_join (wr := [(q, .inr (12, [.ref aA, .ref aI, .ref aT, .ref aP, .int 0, .int (-1), .int (-1), .int 0, .int 0, .int 0, .int 0, .long 0, .int 0, .int 0, .int 0, .int 0, .ref pI, .int 0, .int 0, .int 0, .int 0, .int 0, .ref nM, .ref vA, .ref tR, .int 0, .int 0, .int 0, .ref rW, .ref sP, .ref oA, .ref bS, .ref aS, .ref aO, .ref cS, .ref wY])), (aA, .inl (cI, 862, .inl af0))]) Z hS hP hD [0, 1, 2] [3, 4] rfl (by decide) rfl (by decide) (by decide) hku1 hP1 hD1
  have hS := hS1
  clear hS1
  generalize H1 = H at hP hS ⊢
  generalize locs1 = locs at hS ⊢
  have hP := va_P_left hP
  have hD := va_D_left hD
  refine lv_aload_n hx hb dL_law_832 rfl (lv_at hl 2 rfl) ?_
  refine lv_aload_n hx hb dL_law_833 rfl (lv_at hl 0 rfl) ?_
  refine lv_iload_n hx hb dL_law_834 rfl (lv_at hl 3 rfl) ?_
  refine lv_iconst (v := 1) hx hb dL_law_835 (by decide) ?_
  refine lv_iadd hx hb dL_law_836 ?_
  refine z_topi (y := 1) (by decide) ?_
  refine va_sld hx hb hX hbl hbA hS (vin (by decide)) dL_law_837 ?_
  refine z_topi (y := xs 1) rfl ?_
  have hPc := hP.sub2 (wc := [(q, .inr (12, [.ref aA, .ref aI, .ref aT, .ref aP, .int 0, .int (-1), .int (-1), .int 0, .int 0, .int 0, .int 0, .long 0, .int 0, .int 0, .int 0, .int 0, .ref pI, .int 0, .int 0, .int 0, .int 0, .int 0, .ref nM, .ref vA, .ref tR, .int 0, .int 0, .int 0, .ref rW, .ref sP, .ref oA, .ref bS, .ref aS, .ref aO, .ref cS, .ref wY])), (aA, .inl (cI, 862, .inl af0))]) [0, 1] rfl
  have hDc := hD.sub (ws' := [(q, .inr (12, [.ref aA, .ref aI, .ref aT, .ref aP, .int 0, .int (-1), .int (-1), .int 0, .int 0, .int 0, .int 0, .long 0, .int 0, .int 0, .int 0, .int 0, .ref pI, .int 0, .int 0, .int 0, .int 0, .int 0, .ref nM, .ref vA, .ref tR, .int 0, .int 0, .int 0, .ref rW, .ref sP, .ref oA, .ref bS, .ref aS, .ref aO, .ref cS, .ref wY])), (aA, .inl (cI, 862, .inl af0))]) [0, 1] (by decide) rfl
  refine raw_Vi (ci := 12) (q0 := 0) (nA := 1) (As := [.int (xs 1)]) (rest := [.int r2]) Z hl.1 (c_X12_seen l D cI cM cT q aA aI aT aP pI nM vA tR rW sP oA bS aS aO cS wY (xs 1)) (bw_V bw_1423 bw_1424 bw_1425 bw_92 bw_1426) ⟨by decide +kernel, by decide +kernel, by decide +kernel⟩ rfl ⟨Nat.le_of_ble_eq_true rfl, Nat.le_of_ble_eq_true rfl⟩ rfl rfl rfl hPc hDc hS rfl (Nat.le_of_ble_eq_true rfl) dL_law_838 ⟨Nat.le_of_ble_eq_true rfl, Nat.le_of_ble_eq_true rfl⟩ (fun r5 u4 H1 locs1 h6 hku4 hP1 hD1 hS1 => ?_)
  have hposth6 := h6
  obtain ⟨hP, hD⟩ := z_join (wr := []) Z hS hP hD [0, 1] [] rfl (by decide) rfl (by decide) (by decide) hku4 hP1 hD1
  have hS := hS1
  clear hS1
  generalize H1 = H at hP hS ⊢
  generalize locs1 = locs at hS ⊢
  have hP := va_P_left hP
  have hD := va_D_left hD
  refine lv_icmp_eq (tgt := 997) hx hb dL_law_841 (by decide) (fun c7 => ?_) (fun h => absurd (hposth3.trans hposth6.symm) h)
  exact law_tail Z hX hbl hS (lv_sub hl [0, 1, 2, 3] rfl)
set_option maxHeartbeats 4000000 in
set_option maxRecDepth 100000 in
theorem law_22 {p : Program} {l : Launch} {e : Env} {s : State} {m : MethodId} {below : List Frame} {meth : Method} {c : Code} {b : Nat} {xs : Nat → Int32} {D : va_G} {cI cM cT : ClassId} {H : Heap} {locs : List Loc} {ls : Array Slot} {x : Nat} {st : Nat} {dr : Nat} {nw : Nat} {kp : Nat} {rd : Nat} {tm : Nat} {co : Nat} {rO : Nat} {sT : Nat} {mA : Nat} {sB : Nat} {sA : Nat} {tH : Nat} {tF : Nat} {tS : Nat} {q : Nat} {aA : Nat} {aI : Nat} {aT : Nat} {aP : Nat} {pI : Nat} {nM : Nat} {vA : Nat} {tR : Nat} {rW : Nat} {sP : Nat} {oA : Nat} {bS : Nat} {aS : Nat} {aO : Nat} {cS : Nat} {wY : Nat} (Z : Zx p s m #[Value.ref b] meth c code 4 ret R_law (fun q : Nat => s.heap.size ≤ q) (ty3 cI cM cT) D) (hX : va_X b 6 xs s s.heap) (hbl : b < s.heap.size) (hP : va_P D vwCl ([(x, .inr (11, [.ref st, .ref dr, .ref nw, .ref kp, .ref rd, .ref tm, .ref co])), (nw, .inr (10, [.ref rO, .ref sT, .ref mA, .ref sB, .ref sA, .ref tH, .ref tF, .ref tS, .int 0, .int 0, .int (-1), .int 0, .int 0])), (q, .inr (12, [.ref aA, .ref aI, .ref aT, .ref aP, .int 0, .int (-1), .int (-1), .int 0, .int 0, .int 0, .int 0, .long 0, .int 0, .int 0, .int 0, .int 0, .ref pI, .int 0, .int 0, .int 0, .int 0, .int 0, .ref nM, .ref vA, .ref tR, .int 0, .int 0, .int 0, .ref rW, .ref sP, .ref oA, .ref bS, .ref aS, .ref aO, .ref cS, .ref wY])), (aA, .inl (cI, 862, .inl af0)), (wY, .inl (cI, 64, .inl (fun _ => 0)))]) H) (hD : va_D (fun q : Nat => s.heap.size ≤ q) ([(x, .inr (11, [.ref st, .ref dr, .ref nw, .ref kp, .ref rd, .ref tm, .ref co])), (nw, .inr (10, [.ref rO, .ref sT, .ref mA, .ref sB, .ref sA, .ref tH, .ref tF, .ref tS, .int 0, .int 0, .int (-1), .int 0, .int 0])), (q, .inr (12, [.ref aA, .ref aI, .ref aT, .ref aP, .int 0, .int (-1), .int (-1), .int 0, .int 0, .int 0, .int 0, .long 0, .int 0, .int 0, .int 0, .int 0, .ref pI, .int 0, .int 0, .int 0, .int 0, .int 0, .ref nM, .ref vA, .ref tR, .int 0, .int 0, .int 0, .ref rW, .ref sP, .ref oA, .ref bS, .ref aS, .ref aO, .ref cS, .ref wY])), (aA, .inl (cI, 862, .inl af0)), (wY, .inl (cI, 64, .inl (fun _ => 0)))])) (hS : va_S (fun q : Nat => s.heap.size ≤ q) s.heap H locs) (hl : lv_has ls 4 [(0, .ref b), (1, .ref x), (2, .ref q), (3, .int 0)]) : W p l e room_1 s m #[Value.ref b] below meth c H locs 300 23000 (lw_Z below #[Value.ref b] s) (F0 m 846 ls []) := by
  have hx := Z.1
  have hb := Z.2.1
  have hbA : ¬ (fun q : Nat => s.heap.size ≤ q) b := Nat.not_le.mpr hbl
  skip
  refine lv_aload_n hx hb dL_law_846 rfl (lv_at hl 1 rfl) ?_
  refine lv_aload_n hx hb dL_law_847 rfl (lv_at hl 0 rfl) ?_
  refine lv_iload_n hx hb dL_law_848 rfl (lv_at hl 3 rfl) ?_
  refine lv_iconst (v := 1) hx hb dL_law_849 (by decide) ?_
  refine lv_iadd hx hb dL_law_850 ?_
  refine z_topi (y := 1) (by decide) ?_
  refine va_sld hx hb hX hbl hbA hS (vin (by decide)) dL_law_851 ?_
  refine z_topi (y := xs 1) rfl ?_
  refine lv_aload_n hx hb dL_law_852 rfl (lv_at hl 0 rfl) ?_
  refine lv_iload_n hx hb dL_law_853 rfl (lv_at hl 3 rfl) ?_
  refine lv_iconst (v := 2) hx hb dL_law_854 (by decide) ?_
  refine lv_iadd hx hb dL_law_855 ?_
  refine z_topi (y := 2) (by decide) ?_
  refine va_sld hx hb hX hbl hbA hS (vin (by decide)) dL_law_856 ?_
  refine z_topi (y := xs 2) rfl ?_
  have hPc := hP.sub2 (wc := [(x, .inr (11, [.ref st, .ref dr, .ref nw, .ref kp, .ref rd, .ref tm, .ref co])), (nw, .inr (10, [.ref rO, .ref sT, .ref mA, .ref sB, .ref sA, .ref tH, .ref tF, .ref tS, .int 0, .int 0, .int (-1), .int 0, .int 0]))]) [0, 1] rfl
  have hDc := hD.sub (ws' := [(x, .inr (11, [.ref st, .ref dr, .ref nw, .ref kp, .ref rd, .ref tm, .ref co])), (nw, .inr (10, [.ref rO, .ref sT, .ref mA, .ref sB, .ref sA, .ref tH, .ref tF, .ref tS, .int 0, .int 0, .int (-1), .int 0, .int 0]))]) [0, 1] (by decide) rfl
  refine raw_Vi (ci := 11) (q0 := 0) (nA := 2) (As := [.int (xs 1), .int (xs 2)]) (rest := []) Z hl.1 (c_X11_who l D cI cM cT x st dr nw kp rd tm co rO sT mA sB sA tH tF tS (xs 1) (xs 2)) (bw_V bw_950 bw_951 bw_952 bw_80 bw_953) ⟨by decide +kernel, by decide +kernel, by decide +kernel⟩ rfl ⟨Nat.le_of_ble_eq_true rfl, Nat.le_of_ble_eq_true rfl⟩ rfl rfl rfl hPc hDc hS rfl (Nat.le_of_ble_eq_true rfl) dL_law_857 ⟨Nat.le_of_ble_eq_true rfl, Nat.le_of_ble_eq_true rfl⟩ (fun r2 u1 H1 locs1 h3 hku1 hP1 hD1 hS1 => ?_)
  have hposth3 := h3
  obtain ⟨hP, hD⟩ := z_join (wr := [(q, .inr (12, [.ref aA, .ref aI, .ref aT, .ref aP, .int 0, .int (-1), .int (-1), .int 0, .int 0, .int 0, .int 0, .long 0, .int 0, .int 0, .int 0, .int 0, .ref pI, .int 0, .int 0, .int 0, .int 0, .int 0, .ref nM, .ref vA, .ref tR, .int 0, .int 0, .int 0, .ref rW, .ref sP, .ref oA, .ref bS, .ref aS, .ref aO, .ref cS, .ref wY])), (aA, .inl (cI, 862, .inl af0)), (wY, .inl (cI, 64, .inl (fun _ => 0)))]) Z hS hP hD [0, 1] [2, 3, 4] rfl (by decide) rfl (by decide) (by decide) hku1 hP1 hD1
  have hS := hS1
  clear hS1
  generalize H1 = H at hP hS ⊢
  generalize locs1 = locs at hS ⊢
  have hP := va_P_left hP
  have hD := va_D_left hD
  refine lv_aload_n hx hb dL_law_860 rfl (lv_at hl 2 rfl) ?_
  refine lv_aload_n hx hb dL_law_861 rfl (lv_at hl 0 rfl) ?_
  refine lv_iload_n hx hb dL_law_862 rfl (lv_at hl 3 rfl) ?_
  refine lv_iconst (v := 1) hx hb dL_law_863 (by decide) ?_
  refine lv_iadd hx hb dL_law_864 ?_
  refine z_topi (y := 1) (by decide) ?_
  refine va_sld hx hb hX hbl hbA hS (vin (by decide)) dL_law_865 ?_
  refine z_topi (y := xs 1) rfl ?_
  refine lv_aload_n hx hb dL_law_866 rfl (lv_at hl 0 rfl) ?_
  refine lv_iload_n hx hb dL_law_867 rfl (lv_at hl 3 rfl) ?_
  refine lv_iconst (v := 2) hx hb dL_law_868 (by decide) ?_
  refine lv_iadd hx hb dL_law_869 ?_
  refine z_topi (y := 2) (by decide) ?_
  refine va_sld hx hb hX hbl hbA hS (vin (by decide)) dL_law_870 ?_
  refine z_topi (y := xs 2) rfl ?_
  have hPc := hP.sub2 (wc := [(q, .inr (12, [.ref aA, .ref aI, .ref aT, .ref aP, .int 0, .int (-1), .int (-1), .int 0, .int 0, .int 0, .int 0, .long 0, .int 0, .int 0, .int 0, .int 0, .ref pI, .int 0, .int 0, .int 0, .int 0, .int 0, .ref nM, .ref vA, .ref tR, .int 0, .int 0, .int 0, .ref rW, .ref sP, .ref oA, .ref bS, .ref aS, .ref aO, .ref cS, .ref wY])), (aA, .inl (cI, 862, .inl af0)), (wY, .inl (cI, 64, .inl (fun _ => 0)))]) [0, 1, 2] rfl
  have hDc := hD.sub (ws' := [(q, .inr (12, [.ref aA, .ref aI, .ref aT, .ref aP, .int 0, .int (-1), .int (-1), .int 0, .int 0, .int 0, .int 0, .long 0, .int 0, .int 0, .int 0, .int 0, .ref pI, .int 0, .int 0, .int 0, .int 0, .int 0, .ref nM, .ref vA, .ref tR, .int 0, .int 0, .int 0, .ref rW, .ref sP, .ref oA, .ref bS, .ref aS, .ref aO, .ref cS, .ref wY])), (aA, .inl (cI, 862, .inl af0)), (wY, .inl (cI, 64, .inl (fun _ => 0)))]) [0, 1, 2] (by decide) rfl
  refine raw_Vi (ci := 12) (q0 := 0) (nA := 2) (As := [.int (xs 1), .int (xs 2)]) (rest := [.int r2]) Z hl.1 (c_X12_who l D cI cM cT q aA aI aT aP pI nM vA tR rW sP oA bS aS aO cS wY (xs 1) (xs 2)) (bw_V bw_1427 bw_1428 bw_1429 bw_92 bw_1430) ⟨by decide +kernel, by decide +kernel, by decide +kernel⟩ rfl ⟨Nat.le_of_ble_eq_true rfl, Nat.le_of_ble_eq_true rfl⟩ rfl rfl rfl hPc hDc hS rfl (Nat.le_of_ble_eq_true rfl) dL_law_871 ⟨Nat.le_of_ble_eq_true rfl, Nat.le_of_ble_eq_true rfl⟩ (fun r5 u4 H1 locs1 h6 hku4 hP1 hD1 hS1 => ?_)
  have hposth6 := h6
  obtain ⟨hP, hD⟩ := z_join (wr := []) Z hS hP hD [0, 1, 2] [] rfl (by decide) rfl (by decide) (by decide) hku4 hP1 hD1
  have hS := hS1
  clear hS1
  generalize H1 = H at hP hS ⊢
  generalize locs1 = locs at hS ⊢
  have hP := va_P_left hP
  have hD := va_D_left hD
  refine lv_icmp_eq (tgt := 997) hx hb dL_law_874 (by decide) (fun c7 => ?_) (fun h => absurd (hposth3.trans hposth6.symm) h)
  exact law_tail Z hX hbl hS (lv_sub hl [0, 1, 2, 3] rfl)
set_option maxHeartbeats 4000000 in
set_option maxRecDepth 100000 in
theorem law_23 {p : Program} {l : Launch} {e : Env} {s : State} {m : MethodId} {below : List Frame} {meth : Method} {c : Code} {b : Nat} {xs : Nat → Int32} {D : va_G} {cI cM cT : ClassId} {H : Heap} {locs : List Loc} {ls : Array Slot} {x : Nat} {st : Nat} {dr : Nat} {nw : Nat} {kp : Nat} {rd : Nat} {tm : Nat} {co : Nat} {rO : Nat} {sT : Nat} {mA : Nat} {sB : Nat} {sA : Nat} {tH : Nat} {tF : Nat} {tS : Nat} {cO : Nat} {sH : Nat} {q : Nat} {aA : Nat} {aI : Nat} {aT : Nat} {aP : Nat} {pI : Nat} {nM : Nat} {vA : Nat} {tR : Nat} {rW : Nat} {sP : Nat} {oA : Nat} {bS : Nat} {aS : Nat} {aO : Nat} {cS : Nat} {wY : Nat} (Z : Zx p s m #[Value.ref b] meth c code 4 ret R_law (fun q : Nat => s.heap.size ≤ q) (ty3 cI cM cT) D) (hX : va_X b 6 xs s s.heap) (hbl : b < s.heap.size) (hP : va_P D vwCl ([(x, .inr (11, [.ref st, .ref dr, .ref nw, .ref kp, .ref rd, .ref tm, .ref co])), (nw, .inr (10, [.ref rO, .ref sT, .ref mA, .ref sB, .ref sA, .ref tH, .ref tF, .ref tS, .int 0, .int 0, .int (-1), .int 0, .int 0])), (sT, .inr (4, [.ref cO, .ref sH, .int 0])), (q, .inr (12, [.ref aA, .ref aI, .ref aT, .ref aP, .int 0, .int (-1), .int (-1), .int 0, .int 0, .int 0, .int 0, .long 0, .int 0, .int 0, .int 0, .int 0, .ref pI, .int 0, .int 0, .int 0, .int 0, .int 0, .ref nM, .ref vA, .ref tR, .int 0, .int 0, .int 0, .ref rW, .ref sP, .ref oA, .ref bS, .ref aS, .ref aO, .ref cS, .ref wY])), (aA, .inl (cI, 862, .inl af0))]) H) (hD : va_D (fun q : Nat => s.heap.size ≤ q) ([(x, .inr (11, [.ref st, .ref dr, .ref nw, .ref kp, .ref rd, .ref tm, .ref co])), (nw, .inr (10, [.ref rO, .ref sT, .ref mA, .ref sB, .ref sA, .ref tH, .ref tF, .ref tS, .int 0, .int 0, .int (-1), .int 0, .int 0])), (sT, .inr (4, [.ref cO, .ref sH, .int 0])), (q, .inr (12, [.ref aA, .ref aI, .ref aT, .ref aP, .int 0, .int (-1), .int (-1), .int 0, .int 0, .int 0, .int 0, .long 0, .int 0, .int 0, .int 0, .int 0, .ref pI, .int 0, .int 0, .int 0, .int 0, .int 0, .ref nM, .ref vA, .ref tR, .int 0, .int 0, .int 0, .ref rW, .ref sP, .ref oA, .ref bS, .ref aS, .ref aO, .ref cS, .ref wY])), (aA, .inl (cI, 862, .inl af0))])) (hS : va_S (fun q : Nat => s.heap.size ≤ q) s.heap H locs) (hl : lv_has ls 4 [(0, .ref b), (1, .ref x), (2, .ref q), (3, .int 0)]) : W p l e room_1 s m #[Value.ref b] below meth c H locs 300 23000 (lw_Z below #[Value.ref b] s) (F0 m 879 ls []) := by
  have hx := Z.1
  have hb := Z.2.1
  have hbA : ¬ (fun q : Nat => s.heap.size ≤ q) b := Nat.not_le.mpr hbl
  skip
  refine lv_aload_n hx hb dL_law_879 rfl (lv_at hl 1 rfl) ?_
  refine lv_aload_n hx hb dL_law_880 rfl (lv_at hl 0 rfl) ?_
  refine lv_iload_n hx hb dL_law_881 rfl (lv_at hl 3 rfl) ?_
  refine lv_iconst (v := 1) hx hb dL_law_882 (by decide) ?_
  refine lv_iadd hx hb dL_law_883 ?_
  refine z_topi (y := 1) (by decide) ?_
  refine va_sld hx hb hX hbl hbA hS (vin (by decide)) dL_law_884 ?_
  refine z_topi (y := xs 1) rfl ?_
  refine lv_aload_n hx hb dL_law_885 rfl (lv_at hl 0 rfl) ?_
  refine lv_iload_n hx hb dL_law_886 rfl (lv_at hl 3 rfl) ?_
  refine lv_iconst (v := 2) hx hb dL_law_887 (by decide) ?_
  refine lv_iadd hx hb dL_law_888 ?_
  refine z_topi (y := 2) (by decide) ?_
  refine va_sld hx hb hX hbl hbA hS (vin (by decide)) dL_law_889 ?_
  refine z_topi (y := xs 2) rfl ?_
  refine lv_aload_n hx hb dL_law_890 rfl (lv_at hl 0 rfl) ?_
  refine lv_iload_n hx hb dL_law_891 rfl (lv_at hl 3 rfl) ?_
  refine lv_iconst (v := 3) hx hb dL_law_892 (by decide) ?_
  refine lv_iadd hx hb dL_law_893 ?_
  refine z_topi (y := 3) (by decide) ?_
  refine va_sld hx hb hX hbl hbA hS (vin (by decide)) dL_law_894 ?_
  refine z_topi (y := xs 3) rfl ?_
  have hPc := hP.sub2 (wc := [(x, .inr (11, [.ref st, .ref dr, .ref nw, .ref kp, .ref rd, .ref tm, .ref co])), (nw, .inr (10, [.ref rO, .ref sT, .ref mA, .ref sB, .ref sA, .ref tH, .ref tF, .ref tS, .int 0, .int 0, .int (-1), .int 0, .int 0])), (sT, .inr (4, [.ref cO, .ref sH, .int 0]))]) [0, 1, 2] rfl
  have hDc := hD.sub (ws' := [(x, .inr (11, [.ref st, .ref dr, .ref nw, .ref kp, .ref rd, .ref tm, .ref co])), (nw, .inr (10, [.ref rO, .ref sT, .ref mA, .ref sB, .ref sA, .ref tH, .ref tF, .ref tS, .int 0, .int 0, .int (-1), .int 0, .int 0])), (sT, .inr (4, [.ref cO, .ref sH, .int 0]))]) [0, 1, 2] (by decide) rfl
  refine raw_Vi (ci := 11) (q0 := 0) (nA := 3) (As := [.int (xs 1), .int (xs 2), .int (xs 3)]) (rest := []) Z hl.1 (c_X11_tried l D cI cM cT x st dr nw kp rd tm co rO sT mA sB sA tH tF tS cO sH (xs 1) (xs 2) (xs 3)) (bw_V bw_958 bw_959 bw_960 bw_80 bw_961) ⟨by decide +kernel, by decide +kernel, by decide +kernel⟩ rfl ⟨Nat.le_of_ble_eq_true rfl, Nat.le_of_ble_eq_true rfl⟩ rfl rfl rfl hPc hDc hS rfl (Nat.le_of_ble_eq_true rfl) dL_law_895 ⟨Nat.le_of_ble_eq_true rfl, Nat.le_of_ble_eq_true rfl⟩ (fun r2 u1 H1 locs1 h3 hku1 hP1 hD1 hS1 => ?_)
  have hposth3 := h3
  obtain ⟨hP, hD⟩ := z_join (wr := [(q, .inr (12, [.ref aA, .ref aI, .ref aT, .ref aP, .int 0, .int (-1), .int (-1), .int 0, .int 0, .int 0, .int 0, .long 0, .int 0, .int 0, .int 0, .int 0, .ref pI, .int 0, .int 0, .int 0, .int 0, .int 0, .ref nM, .ref vA, .ref tR, .int 0, .int 0, .int 0, .ref rW, .ref sP, .ref oA, .ref bS, .ref aS, .ref aO, .ref cS, .ref wY])), (aA, .inl (cI, 862, .inl af0))]) Z hS hP hD [0, 1, 2] [3, 4] rfl (by decide) rfl (by decide) (by decide) hku1 hP1 hD1
  have hS := hS1
  clear hS1
  generalize H1 = H at hP hS ⊢
  generalize locs1 = locs at hS ⊢
  have hP := va_P_left hP
  have hD := va_D_left hD
  refine lv_aload_n hx hb dL_law_898 rfl (lv_at hl 2 rfl) ?_
  refine lv_aload_n hx hb dL_law_899 rfl (lv_at hl 0 rfl) ?_
  refine lv_iload_n hx hb dL_law_900 rfl (lv_at hl 3 rfl) ?_
  refine lv_iconst (v := 1) hx hb dL_law_901 (by decide) ?_
  refine lv_iadd hx hb dL_law_902 ?_
  refine z_topi (y := 1) (by decide) ?_
  refine va_sld hx hb hX hbl hbA hS (vin (by decide)) dL_law_903 ?_
  refine z_topi (y := xs 1) rfl ?_
  refine lv_aload_n hx hb dL_law_904 rfl (lv_at hl 0 rfl) ?_
  refine lv_iload_n hx hb dL_law_905 rfl (lv_at hl 3 rfl) ?_
  refine lv_iconst (v := 2) hx hb dL_law_906 (by decide) ?_
  refine lv_iadd hx hb dL_law_907 ?_
  refine z_topi (y := 2) (by decide) ?_
  refine va_sld hx hb hX hbl hbA hS (vin (by decide)) dL_law_908 ?_
  refine z_topi (y := xs 2) rfl ?_
  refine lv_aload_n hx hb dL_law_909 rfl (lv_at hl 0 rfl) ?_
  refine lv_iload_n hx hb dL_law_910 rfl (lv_at hl 3 rfl) ?_
  refine lv_iconst (v := 3) hx hb dL_law_911 (by decide) ?_
  refine lv_iadd hx hb dL_law_912 ?_
  refine z_topi (y := 3) (by decide) ?_
  refine va_sld hx hb hX hbl hbA hS (vin (by decide)) dL_law_913 ?_
  refine z_topi (y := xs 3) rfl ?_
  have hPc := hP.sub2 (wc := [(q, .inr (12, [.ref aA, .ref aI, .ref aT, .ref aP, .int 0, .int (-1), .int (-1), .int 0, .int 0, .int 0, .int 0, .long 0, .int 0, .int 0, .int 0, .int 0, .ref pI, .int 0, .int 0, .int 0, .int 0, .int 0, .ref nM, .ref vA, .ref tR, .int 0, .int 0, .int 0, .ref rW, .ref sP, .ref oA, .ref bS, .ref aS, .ref aO, .ref cS, .ref wY])), (aA, .inl (cI, 862, .inl af0))]) [0, 1] rfl
  have hDc := hD.sub (ws' := [(q, .inr (12, [.ref aA, .ref aI, .ref aT, .ref aP, .int 0, .int (-1), .int (-1), .int 0, .int 0, .int 0, .int 0, .long 0, .int 0, .int 0, .int 0, .int 0, .ref pI, .int 0, .int 0, .int 0, .int 0, .int 0, .ref nM, .ref vA, .ref tR, .int 0, .int 0, .int 0, .ref rW, .ref sP, .ref oA, .ref bS, .ref aS, .ref aO, .ref cS, .ref wY])), (aA, .inl (cI, 862, .inl af0))]) [0, 1] (by decide) rfl
  refine raw_Vi (ci := 12) (q0 := 0) (nA := 3) (As := [.int (xs 1), .int (xs 2), .int (xs 3)]) (rest := [.int r2]) Z hl.1 (c_X12_tried l D cI cM cT q aA aI aT aP pI nM vA tR rW sP oA bS aS aO cS wY (xs 1) (xs 2) (xs 3)) (bw_V bw_1442 bw_1443 bw_1444 bw_92 bw_1445) ⟨by decide +kernel, by decide +kernel, by decide +kernel⟩ rfl ⟨Nat.le_of_ble_eq_true rfl, Nat.le_of_ble_eq_true rfl⟩ rfl rfl rfl hPc hDc hS rfl (Nat.le_of_ble_eq_true rfl) dL_law_914 ⟨Nat.le_of_ble_eq_true rfl, Nat.le_of_ble_eq_true rfl⟩ (fun r5 u4 H1 locs1 h6 hku4 hP1 hD1 hS1 => ?_)
  have hposth6 := h6
  obtain ⟨hP, hD⟩ := z_join (wr := []) Z hS hP hD [0, 1] [] rfl (by decide) rfl (by decide) (by decide) hku4 hP1 hD1
  have hS := hS1
  clear hS1
  generalize H1 = H at hP hS ⊢
  generalize locs1 = locs at hS ⊢
  have hP := va_P_left hP
  have hD := va_D_left hD
  refine lv_icmp_eq (tgt := 997) hx hb dL_law_917 (by decide) (fun c7 => ?_) (fun h => absurd (hposth3.trans hposth6.symm) h)
  exact law_tail Z hX hbl hS (lv_sub hl [0, 1, 2, 3] rfl)
set_option maxHeartbeats 4000000 in
set_option maxRecDepth 100000 in
theorem law_24 {p : Program} {l : Launch} {e : Env} {s : State} {m : MethodId} {below : List Frame} {meth : Method} {c : Code} {b : Nat} {xs : Nat → Int32} {D : va_G} {cI cM cT : ClassId} {H : Heap} {locs : List Loc} {ls : Array Slot} {x : Nat} {st : Nat} {dr : Nat} {nw : Nat} {kp : Nat} {rd : Nat} {tm : Nat} {co : Nat} {rO : Nat} {sT : Nat} {mA : Nat} {sB : Nat} {sA : Nat} {tH : Nat} {tF : Nat} {tS : Nat} {q : Nat} {aA : Nat} {aI : Nat} {aT : Nat} {aP : Nat} {pI : Nat} {nM : Nat} {vA : Nat} {tR : Nat} {rW : Nat} {sP : Nat} {oA : Nat} {bS : Nat} {aS : Nat} {aO : Nat} {cS : Nat} {wY : Nat} (Z : Zx p s m #[Value.ref b] meth c code 4 ret R_law (fun q : Nat => s.heap.size ≤ q) (ty3 cI cM cT) D) (hX : va_X b 6 xs s s.heap) (hbl : b < s.heap.size) (hP : va_P D vwCl ([(x, .inr (11, [.ref st, .ref dr, .ref nw, .ref kp, .ref rd, .ref tm, .ref co])), (nw, .inr (10, [.ref rO, .ref sT, .ref mA, .ref sB, .ref sA, .ref tH, .ref tF, .ref tS, .int 0, .int 0, .int (-1), .int 0, .int 0])), (q, .inr (12, [.ref aA, .ref aI, .ref aT, .ref aP, .int 0, .int (-1), .int (-1), .int 0, .int 0, .int 0, .int 0, .long 0, .int 0, .int 0, .int 0, .int 0, .ref pI, .int 0, .int 0, .int 0, .int 0, .int 0, .ref nM, .ref vA, .ref tR, .int 0, .int 0, .int 0, .ref rW, .ref sP, .ref oA, .ref bS, .ref aS, .ref aO, .ref cS, .ref wY])), (aA, .inl (cI, 862, .inl af0))]) H) (hD : va_D (fun q : Nat => s.heap.size ≤ q) ([(x, .inr (11, [.ref st, .ref dr, .ref nw, .ref kp, .ref rd, .ref tm, .ref co])), (nw, .inr (10, [.ref rO, .ref sT, .ref mA, .ref sB, .ref sA, .ref tH, .ref tF, .ref tS, .int 0, .int 0, .int (-1), .int 0, .int 0])), (q, .inr (12, [.ref aA, .ref aI, .ref aT, .ref aP, .int 0, .int (-1), .int (-1), .int 0, .int 0, .int 0, .int 0, .long 0, .int 0, .int 0, .int 0, .int 0, .ref pI, .int 0, .int 0, .int 0, .int 0, .int 0, .ref nM, .ref vA, .ref tR, .int 0, .int 0, .int 0, .ref rW, .ref sP, .ref oA, .ref bS, .ref aS, .ref aO, .ref cS, .ref wY])), (aA, .inl (cI, 862, .inl af0))])) (hS : va_S (fun q : Nat => s.heap.size ≤ q) s.heap H locs) (hl : lv_has ls 4 [(0, .ref b), (1, .ref x), (2, .ref q), (3, .int 0)]) : W p l e room_1 s m #[Value.ref b] below meth c H locs 300 23000 (lw_Z below #[Value.ref b] s) (F0 m 922 ls []) := by
  have hx := Z.1
  have hb := Z.2.1
  have hbA : ¬ (fun q : Nat => s.heap.size ≤ q) b := Nat.not_le.mpr hbl
  skip
  refine lv_aload_n hx hb dL_law_922 rfl (lv_at hl 1 rfl) ?_
  have hPc := hP.sub2 (wc := [(x, .inr (11, [.ref st, .ref dr, .ref nw, .ref kp, .ref rd, .ref tm, .ref co])), (nw, .inr (10, [.ref rO, .ref sT, .ref mA, .ref sB, .ref sA, .ref tH, .ref tF, .ref tS, .int 0, .int 0, .int (-1), .int 0, .int 0]))]) [0, 1] rfl
  have hDc := hD.sub (ws' := [(x, .inr (11, [.ref st, .ref dr, .ref nw, .ref kp, .ref rd, .ref tm, .ref co])), (nw, .inr (10, [.ref rO, .ref sT, .ref mA, .ref sB, .ref sA, .ref tH, .ref tF, .ref tS, .int 0, .int 0, .int (-1), .int 0, .int 0]))]) [0, 1] (by decide) rfl
  refine raw_Vi (ci := 11) (q0 := 0) (nA := 0) (As := []) (rest := []) Z hl.1 (c_X11_taught l D cI cM cT x st dr nw kp rd tm co rO sT mA sB sA tH tF tS) (bw_V bw_962 bw_963 bw_964 bw_80 bw_965) ⟨by decide +kernel, by decide +kernel, by decide +kernel⟩ rfl ⟨Nat.le_of_ble_eq_true rfl, Nat.le_of_ble_eq_true rfl⟩ rfl rfl rfl hPc hDc hS rfl (Nat.le_of_ble_eq_true rfl) dL_law_923 ⟨Nat.le_of_ble_eq_true rfl, Nat.le_of_ble_eq_true rfl⟩ (fun r2 u1 H1 locs1 h3 hku1 hP1 hD1 hS1 => ?_)
  have hposth3 := h3
  obtain ⟨hP, hD⟩ := z_join (wr := [(q, .inr (12, [.ref aA, .ref aI, .ref aT, .ref aP, .int 0, .int (-1), .int (-1), .int 0, .int 0, .int 0, .int 0, .long 0, .int 0, .int 0, .int 0, .int 0, .ref pI, .int 0, .int 0, .int 0, .int 0, .int 0, .ref nM, .ref vA, .ref tR, .int 0, .int 0, .int 0, .ref rW, .ref sP, .ref oA, .ref bS, .ref aS, .ref aO, .ref cS, .ref wY])), (aA, .inl (cI, 862, .inl af0))]) Z hS hP hD [0, 1] [2, 3] rfl (by decide) rfl (by decide) (by decide) hku1 hP1 hD1
  have hS := hS1
  clear hS1
  generalize H1 = H at hP hS ⊢
  generalize locs1 = locs at hS ⊢
  have hP := va_P_left hP
  have hD := va_D_left hD
  refine lv_aload_n hx hb dL_law_926 rfl (lv_at hl 2 rfl) ?_
  have hPc := hP.sub2 (wc := [(q, .inr (12, [.ref aA, .ref aI, .ref aT, .ref aP, .int 0, .int (-1), .int (-1), .int 0, .int 0, .int 0, .int 0, .long 0, .int 0, .int 0, .int 0, .int 0, .ref pI, .int 0, .int 0, .int 0, .int 0, .int 0, .ref nM, .ref vA, .ref tR, .int 0, .int 0, .int 0, .ref rW, .ref sP, .ref oA, .ref bS, .ref aS, .ref aO, .ref cS, .ref wY])), (aA, .inl (cI, 862, .inl af0))]) [0, 1] rfl
  have hDc := hD.sub (ws' := [(q, .inr (12, [.ref aA, .ref aI, .ref aT, .ref aP, .int 0, .int (-1), .int (-1), .int 0, .int 0, .int 0, .int 0, .long 0, .int 0, .int 0, .int 0, .int 0, .ref pI, .int 0, .int 0, .int 0, .int 0, .int 0, .ref nM, .ref vA, .ref tR, .int 0, .int 0, .int 0, .ref rW, .ref sP, .ref oA, .ref bS, .ref aS, .ref aO, .ref cS, .ref wY])), (aA, .inl (cI, 862, .inl af0))]) [0, 1] (by decide) rfl
  refine raw_Vi (ci := 12) (q0 := 0) (nA := 0) (As := []) (rest := [.int r2]) Z hl.1 (c_X12_taught l D cI cM cT q aA aI aT aP pI nM vA tR rW sP oA bS aS aO cS wY) (bw_V bw_1446 bw_1447 bw_1448 bw_92 bw_1449) ⟨by decide +kernel, by decide +kernel, by decide +kernel⟩ rfl ⟨Nat.le_of_ble_eq_true rfl, Nat.le_of_ble_eq_true rfl⟩ rfl rfl rfl hPc hDc hS rfl (Nat.le_of_ble_eq_true rfl) dL_law_927 ⟨Nat.le_of_ble_eq_true rfl, Nat.le_of_ble_eq_true rfl⟩ (fun r5 u4 H1 locs1 h6 hku4 hP1 hD1 hS1 => ?_)
  have hposth6 := h6
  obtain ⟨hP, hD⟩ := z_join (wr := []) Z hS hP hD [0, 1] [] rfl (by decide) rfl (by decide) (by decide) hku4 hP1 hD1
  have hS := hS1
  clear hS1
  generalize H1 = H at hP hS ⊢
  generalize locs1 = locs at hS ⊢
  have hP := va_P_left hP
  have hD := va_D_left hD
  refine lv_icmp_eq (tgt := 997) hx hb dL_law_930 (by decide) (fun c7 => ?_) (fun h => absurd (hposth3.trans hposth6.symm) h)
  exact law_tail Z hX hbl hS (lv_sub hl [0, 1, 2, 3] rfl)
set_option maxHeartbeats 4000000 in
set_option maxRecDepth 100000 in
theorem law_25 {p : Program} {l : Launch} {e : Env} {s : State} {m : MethodId} {below : List Frame} {meth : Method} {c : Code} {b : Nat} {xs : Nat → Int32} {D : va_G} {cI cM cT : ClassId} {H : Heap} {locs : List Loc} {ls : Array Slot} {x : Nat} {st : Nat} {dr : Nat} {nw : Nat} {kp : Nat} {rd : Nat} {tm : Nat} {co : Nat} {rO : Nat} {sT : Nat} {mA : Nat} {sB : Nat} {sA : Nat} {tH : Nat} {tF : Nat} {tS : Nat} {iA : Nat} {q : Nat} {aA : Nat} {aI : Nat} {aT : Nat} {aP : Nat} {pI : Nat} {nM : Nat} {vA : Nat} {tR : Nat} {rW : Nat} {sP : Nat} {oA : Nat} {bS : Nat} {aS : Nat} {aO : Nat} {cS : Nat} {wY : Nat} (Z : Zx p s m #[Value.ref b] meth c code 4 ret R_law (fun q : Nat => s.heap.size ≤ q) (ty3 cI cM cT) D) (hX : va_X b 6 xs s s.heap) (hbl : b < s.heap.size) (hP : va_P D vwCl ([(x, .inr (11, [.ref st, .ref dr, .ref nw, .ref kp, .ref rd, .ref tm, .ref co])), (nw, .inr (10, [.ref rO, .ref sT, .ref mA, .ref sB, .ref sA, .ref tH, .ref tF, .ref tS, .int 0, .int 0, .int (-1), .int 0, .int 0])), (mA, .inr (1, [.ref iA, .int 0, .int 0, .int 0, .int 0, .int 0, .int 13])), (q, .inr (12, [.ref aA, .ref aI, .ref aT, .ref aP, .int 0, .int (-1), .int (-1), .int 0, .int 0, .int 0, .int 0, .long 0, .int 0, .int 0, .int 0, .int 0, .ref pI, .int 0, .int 0, .int 0, .int 0, .int 0, .ref nM, .ref vA, .ref tR, .int 0, .int 0, .int 0, .ref rW, .ref sP, .ref oA, .ref bS, .ref aS, .ref aO, .ref cS, .ref wY])), (aA, .inl (cI, 862, .inl af0))]) H) (hD : va_D (fun q : Nat => s.heap.size ≤ q) ([(x, .inr (11, [.ref st, .ref dr, .ref nw, .ref kp, .ref rd, .ref tm, .ref co])), (nw, .inr (10, [.ref rO, .ref sT, .ref mA, .ref sB, .ref sA, .ref tH, .ref tF, .ref tS, .int 0, .int 0, .int (-1), .int 0, .int 0])), (mA, .inr (1, [.ref iA, .int 0, .int 0, .int 0, .int 0, .int 0, .int 13])), (q, .inr (12, [.ref aA, .ref aI, .ref aT, .ref aP, .int 0, .int (-1), .int (-1), .int 0, .int 0, .int 0, .int 0, .long 0, .int 0, .int 0, .int 0, .int 0, .ref pI, .int 0, .int 0, .int 0, .int 0, .int 0, .ref nM, .ref vA, .ref tR, .int 0, .int 0, .int 0, .ref rW, .ref sP, .ref oA, .ref bS, .ref aS, .ref aO, .ref cS, .ref wY])), (aA, .inl (cI, 862, .inl af0))])) (hS : va_S (fun q : Nat => s.heap.size ≤ q) s.heap H locs) (hl : lv_has ls 4 [(0, .ref b), (1, .ref x), (2, .ref q), (3, .int 0)]) : W p l e room_1 s m #[Value.ref b] below meth c H locs 300 23000 (lw_Z below #[Value.ref b] s) (F0 m 935 ls []) := by
  have hx := Z.1
  have hb := Z.2.1
  have hbA : ¬ (fun q : Nat => s.heap.size ≤ q) b := Nat.not_le.mpr hbl
  skip
  refine lv_aload_n hx hb dL_law_935 rfl (lv_at hl 1 rfl) ?_
  have hPc := hP.sub2 (wc := [(x, .inr (11, [.ref st, .ref dr, .ref nw, .ref kp, .ref rd, .ref tm, .ref co])), (nw, .inr (10, [.ref rO, .ref sT, .ref mA, .ref sB, .ref sA, .ref tH, .ref tF, .ref tS, .int 0, .int 0, .int (-1), .int 0, .int 0])), (mA, .inr (1, [.ref iA, .int 0, .int 0, .int 0, .int 0, .int 0, .int 13]))]) [0, 1, 2] rfl
  have hDc := hD.sub (ws' := [(x, .inr (11, [.ref st, .ref dr, .ref nw, .ref kp, .ref rd, .ref tm, .ref co])), (nw, .inr (10, [.ref rO, .ref sT, .ref mA, .ref sB, .ref sA, .ref tH, .ref tF, .ref tS, .int 0, .int 0, .int (-1), .int 0, .int 0])), (mA, .inr (1, [.ref iA, .int 0, .int 0, .int 0, .int 0, .int 0, .int 13]))]) [0, 1, 2] (by decide) rfl
  refine raw_Vi (ci := 11) (q0 := 0) (nA := 0) (As := []) (rest := []) Z hl.1 (c_X11_never l D cI cM cT x st dr nw kp rd tm co rO sT mA sB sA tH tF tS iA) (bw_V bw_970 bw_971 bw_972 bw_80 bw_973) ⟨by decide +kernel, by decide +kernel, by decide +kernel⟩ rfl ⟨Nat.le_of_ble_eq_true rfl, Nat.le_of_ble_eq_true rfl⟩ rfl rfl rfl hPc hDc hS rfl (Nat.le_of_ble_eq_true rfl) dL_law_936 ⟨Nat.le_of_ble_eq_true rfl, Nat.le_of_ble_eq_true rfl⟩ (fun r2 u1 H1 locs1 h3 hku1 hP1 hD1 hS1 => ?_)
  have hposth3 := h3
  obtain ⟨hP, hD⟩ := z_join (wr := [(q, .inr (12, [.ref aA, .ref aI, .ref aT, .ref aP, .int 0, .int (-1), .int (-1), .int 0, .int 0, .int 0, .int 0, .long 0, .int 0, .int 0, .int 0, .int 0, .ref pI, .int 0, .int 0, .int 0, .int 0, .int 0, .ref nM, .ref vA, .ref tR, .int 0, .int 0, .int 0, .ref rW, .ref sP, .ref oA, .ref bS, .ref aS, .ref aO, .ref cS, .ref wY])), (aA, .inl (cI, 862, .inl af0))]) Z hS hP hD [0, 1, 2] [3, 4] rfl (by decide) rfl (by decide) (by decide) hku1 hP1 hD1
  have hS := hS1
  clear hS1
  generalize H1 = H at hP hS ⊢
  generalize locs1 = locs at hS ⊢
  have hP := va_P_left hP
  have hD := va_D_left hD
  refine lv_aload_n hx hb dL_law_939 rfl (lv_at hl 2 rfl) ?_
  have hPc := hP.sub2 (wc := [(q, .inr (12, [.ref aA, .ref aI, .ref aT, .ref aP, .int 0, .int (-1), .int (-1), .int 0, .int 0, .int 0, .int 0, .long 0, .int 0, .int 0, .int 0, .int 0, .ref pI, .int 0, .int 0, .int 0, .int 0, .int 0, .ref nM, .ref vA, .ref tR, .int 0, .int 0, .int 0, .ref rW, .ref sP, .ref oA, .ref bS, .ref aS, .ref aO, .ref cS, .ref wY])), (aA, .inl (cI, 862, .inl af0))]) [0, 1] rfl
  have hDc := hD.sub (ws' := [(q, .inr (12, [.ref aA, .ref aI, .ref aT, .ref aP, .int 0, .int (-1), .int (-1), .int 0, .int 0, .int 0, .int 0, .long 0, .int 0, .int 0, .int 0, .int 0, .ref pI, .int 0, .int 0, .int 0, .int 0, .int 0, .ref nM, .ref vA, .ref tR, .int 0, .int 0, .int 0, .ref rW, .ref sP, .ref oA, .ref bS, .ref aS, .ref aO, .ref cS, .ref wY])), (aA, .inl (cI, 862, .inl af0))]) [0, 1] (by decide) rfl
  refine raw_Vi (ci := 12) (q0 := 0) (nA := 0) (As := []) (rest := [.int r2]) Z hl.1 (c_X12_never l D cI cM cT q aA aI aT aP pI nM vA tR rW sP oA bS aS aO cS wY) (bw_V bw_1454 bw_1455 bw_1456 bw_92 bw_1457) ⟨by decide +kernel, by decide +kernel, by decide +kernel⟩ rfl ⟨Nat.le_of_ble_eq_true rfl, Nat.le_of_ble_eq_true rfl⟩ rfl rfl rfl hPc hDc hS rfl (Nat.le_of_ble_eq_true rfl) dL_law_940 ⟨Nat.le_of_ble_eq_true rfl, Nat.le_of_ble_eq_true rfl⟩ (fun r5 u4 H1 locs1 h6 hku4 hP1 hD1 hS1 => ?_)
  have hposth6 := h6
  obtain ⟨hP, hD⟩ := z_join (wr := []) Z hS hP hD [0, 1] [] rfl (by decide) rfl (by decide) (by decide) hku4 hP1 hD1
  have hS := hS1
  clear hS1
  generalize H1 = H at hP hS ⊢
  generalize locs1 = locs at hS ⊢
  have hP := va_P_left hP
  have hD := va_D_left hD
  refine lv_icmp_eq (tgt := 997) hx hb dL_law_943 (by decide) (fun c7 => ?_) (fun h => absurd (hposth3.trans hposth6.symm) h)
  exact law_tail Z hX hbl hS (lv_sub hl [0, 1, 2, 3] rfl)
set_option maxHeartbeats 4000000 in
set_option maxRecDepth 100000 in
theorem law_26 {p : Program} {l : Launch} {e : Env} {s : State} {m : MethodId} {below : List Frame} {meth : Method} {c : Code} {b : Nat} {xs : Nat → Int32} {D : va_G} {cI cM cT : ClassId} {H : Heap} {locs : List Loc} {ls : Array Slot} {x : Nat} {st : Nat} {dr : Nat} {nw : Nat} {kp : Nat} {rd : Nat} {tm : Nat} {co : Nat} {rO : Nat} {sT : Nat} {mA : Nat} {sB : Nat} {sA : Nat} {tH : Nat} {tF : Nat} {tS : Nat} {mU : Nat} {bF : Nat} {bT : Nat} {cO : Nat} {sH : Nat} {iA : Nat} {rG : Nat} {rOk : Nat} {sTk : Nat} {mAk : Nat} {sBk : Nat} {sAk : Nat} {tHk : Nat} {tFk : Nat} {tSk : Nat} {mUk : Nat} {bFk : Nat} {bTk : Nat} {cOk : Nat} {sHk : Nat} {iAk : Nat} {rGk : Nat} {fN : Nat → Option Nat} {fK : Nat → Option Nat} {PL : va_W} {Ka : Nat → Prop} {Kb : Nat → Prop} {q : Nat} {aA : Nat} {aI : Nat} {aT : Nat} {aP : Nat} {pI : Nat} {nM : Nat} {vA : Nat} {tR : Nat} {rW : Nat} {sP : Nat} {oA : Nat} {bS : Nat} {aS : Nat} {aO : Nat} {cS : Nat} {wY : Nat} {gi : Nat → Int32} (Z : Zx p s m #[Value.ref b] meth c code 4 ret R_law (fun q : Nat => s.heap.size ≤ q) (ty3 cI cM cT) D) (hX : va_X b 6 xs s s.heap) (hbl : b < s.heap.size) (hN_ : RingOK cI fN 30 PL Ka) (hK_ : RingOK cI fK 30 PL Kb) (hab : ∀ k, Ka k → ¬ Kb k) (hP : va_P D vwCl ([(x, .inr (11, [.ref st, .ref dr, .ref nw, .ref kp, .ref rd, .ref tm, .ref co])), (nw, .inr (10, [.ref rO, .ref sT, .ref mA, .ref sB, .ref sA, .ref tH, .ref tF, .ref tS, .int 0, .int 0, .int (-1), .int 0, .int 0])), (rO, .inr (3, [.ref mU, .ref bF, .ref bT, .int 0])), (mU, .inl (cI, 300, .inl (fun _ => 0))), (bF, .inl (cI, 4, .inl (fun _ => 0))), (bT, .inl (cI, 4, .inl (fun _ => 0))), (sT, .inr (4, [.ref cO, .ref sH, .int 0])), (cO, .inl (cI, 6, .inl (fun _ => 0))), (sH, .inl (cI, 6, .inl (fun _ => 0))), (mA, .inr (1, [.ref iA, .int 0, .int 0, .int 0, .int 0, .int 0, .int 13])), (iA, .inl (cI, 10, .inl (fun _ => 0))), (sB, .inr (5, [.ref rG, .int 0, .int 0])), (rG, .inl (cM, 30, .inr (.inr (.inr (.inr fN))))), (sA, .inl (cI, 6, .inl (fun _ => 0))), (tH, .inl (cI, 10, .inl (fun _ => 0))), (tF, .inl (cI, 10, .inl (fun _ => 0))), (tS, .inl (cI, 10, .inl (fun _ => 0))), (kp, .inr (10, [.ref rOk, .ref sTk, .ref mAk, .ref sBk, .ref sAk, .ref tHk, .ref tFk, .ref tSk, .int 0, .int 0, .int (-1), .int 0, .int 0])), (rOk, .inr (3, [.ref mUk, .ref bFk, .ref bTk, .int 0])), (mUk, .inl (cI, 300, .inl (fun _ => 0))), (bFk, .inl (cI, 4, .inl (fun _ => 0))), (bTk, .inl (cI, 4, .inl (fun _ => 0))), (sTk, .inr (4, [.ref cOk, .ref sHk, .int 0])), (cOk, .inl (cI, 6, .inl (fun _ => 0))), (sHk, .inl (cI, 6, .inl (fun _ => 0))), (mAk, .inr (1, [.ref iAk, .int 0, .int 0, .int 0, .int 0, .int 0, .int 13])), (iAk, .inl (cI, 10, .inl (fun _ => 0))), (sBk, .inr (5, [.ref rGk, .int 0, .int 0])), (rGk, .inl (cM, 30, .inr (.inr (.inr (.inr fK))))), (sAk, .inl (cI, 6, .inl (fun _ => 0))), (tHk, .inl (cI, 10, .inl (fun _ => 0))), (tFk, .inl (cI, 10, .inl (fun _ => 0))), (tSk, .inl (cI, 10, .inl (fun _ => 0))), (q, .inr (12, [.ref aA, .ref aI, .ref aT, .ref aP, .int 0, .int (-1), .int (-1), .int 0, .int 0, .int 0, .int 0, .long 0, .int 0, .int 0, .int 0, .int 0, .ref pI, .int 0, .int 0, .int 0, .int 0, .int 0, .ref nM, .ref vA, .ref tR, .int 0, .int 0, .int 0, .ref rW, .ref sP, .ref oA, .ref bS, .ref aS, .ref aO, .ref cS, .ref wY])), (aA, .inl (cI, 862, .inl af0)), (aI, .inl (cI, 862, .inl gi))] ++ PL) H) (hD : va_D (fun q : Nat => s.heap.size ≤ q) ([(x, .inr (11, [.ref st, .ref dr, .ref nw, .ref kp, .ref rd, .ref tm, .ref co])), (nw, .inr (10, [.ref rO, .ref sT, .ref mA, .ref sB, .ref sA, .ref tH, .ref tF, .ref tS, .int 0, .int 0, .int (-1), .int 0, .int 0])), (rO, .inr (3, [.ref mU, .ref bF, .ref bT, .int 0])), (mU, .inl (cI, 300, .inl (fun _ => 0))), (bF, .inl (cI, 4, .inl (fun _ => 0))), (bT, .inl (cI, 4, .inl (fun _ => 0))), (sT, .inr (4, [.ref cO, .ref sH, .int 0])), (cO, .inl (cI, 6, .inl (fun _ => 0))), (sH, .inl (cI, 6, .inl (fun _ => 0))), (mA, .inr (1, [.ref iA, .int 0, .int 0, .int 0, .int 0, .int 0, .int 13])), (iA, .inl (cI, 10, .inl (fun _ => 0))), (sB, .inr (5, [.ref rG, .int 0, .int 0])), (rG, .inl (cM, 30, .inr (.inr (.inr (.inr fN))))), (sA, .inl (cI, 6, .inl (fun _ => 0))), (tH, .inl (cI, 10, .inl (fun _ => 0))), (tF, .inl (cI, 10, .inl (fun _ => 0))), (tS, .inl (cI, 10, .inl (fun _ => 0))), (kp, .inr (10, [.ref rOk, .ref sTk, .ref mAk, .ref sBk, .ref sAk, .ref tHk, .ref tFk, .ref tSk, .int 0, .int 0, .int (-1), .int 0, .int 0])), (rOk, .inr (3, [.ref mUk, .ref bFk, .ref bTk, .int 0])), (mUk, .inl (cI, 300, .inl (fun _ => 0))), (bFk, .inl (cI, 4, .inl (fun _ => 0))), (bTk, .inl (cI, 4, .inl (fun _ => 0))), (sTk, .inr (4, [.ref cOk, .ref sHk, .int 0])), (cOk, .inl (cI, 6, .inl (fun _ => 0))), (sHk, .inl (cI, 6, .inl (fun _ => 0))), (mAk, .inr (1, [.ref iAk, .int 0, .int 0, .int 0, .int 0, .int 0, .int 13])), (iAk, .inl (cI, 10, .inl (fun _ => 0))), (sBk, .inr (5, [.ref rGk, .int 0, .int 0])), (rGk, .inl (cM, 30, .inr (.inr (.inr (.inr fK))))), (sAk, .inl (cI, 6, .inl (fun _ => 0))), (tHk, .inl (cI, 10, .inl (fun _ => 0))), (tFk, .inl (cI, 10, .inl (fun _ => 0))), (tSk, .inl (cI, 10, .inl (fun _ => 0))), (q, .inr (12, [.ref aA, .ref aI, .ref aT, .ref aP, .int 0, .int (-1), .int (-1), .int 0, .int 0, .int 0, .int 0, .long 0, .int 0, .int 0, .int 0, .int 0, .ref pI, .int 0, .int 0, .int 0, .int 0, .int 0, .ref nM, .ref vA, .ref tR, .int 0, .int 0, .int 0, .ref rW, .ref sP, .ref oA, .ref bS, .ref aS, .ref aO, .ref cS, .ref wY])), (aA, .inl (cI, 862, .inl af0)), (aI, .inl (cI, 862, .inl gi))] ++ PL)) (hS : va_S (fun q : Nat => s.heap.size ≤ q) s.heap H locs) (hl : lv_has ls 4 [(0, .ref b), (1, .ref x), (2, .ref q), (3, .int 0)]) : W p l e room_1 s m #[Value.ref b] below meth c H locs 300 23000 (lw_Z below #[Value.ref b] s) (F0 m 948 ls []) := by
  have hx := Z.1
  have hb := Z.2.1
  have hbA : ¬ (fun q : Nat => s.heap.size ≤ q) b := Nat.not_le.mpr hbl
  skip
  refine lv_aload_n hx hb dL_law_948 rfl (lv_at hl 1 rfl) ?_
  have hPc := hP.part (cx := [(x, .inr (11, [.ref st, .ref dr, .ref nw, .ref kp, .ref rd, .ref tm, .ref co])), (nw, .inr (10, [.ref rO, .ref sT, .ref mA, .ref sB, .ref sA, .ref tH, .ref tF, .ref tS, .int 0, .int 0, .int (-1), .int 0, .int 0])), (rO, .inr (3, [.ref mU, .ref bF, .ref bT, .int 0])), (mU, .inl (cI, 300, .inl (fun _ => 0))), (bF, .inl (cI, 4, .inl (fun _ => 0))), (bT, .inl (cI, 4, .inl (fun _ => 0))), (sT, .inr (4, [.ref cO, .ref sH, .int 0])), (cO, .inl (cI, 6, .inl (fun _ => 0))), (sH, .inl (cI, 6, .inl (fun _ => 0))), (mA, .inr (1, [.ref iA, .int 0, .int 0, .int 0, .int 0, .int 0, .int 13])), (iA, .inl (cI, 10, .inl (fun _ => 0))), (sB, .inr (5, [.ref rG, .int 0, .int 0])), (rG, .inl (cM, 30, .inr (.inr (.inr (.inr fN))))), (sA, .inl (cI, 6, .inl (fun _ => 0))), (tH, .inl (cI, 10, .inl (fun _ => 0))), (tF, .inl (cI, 10, .inl (fun _ => 0))), (tS, .inl (cI, 10, .inl (fun _ => 0))), (kp, .inr (10, [.ref rOk, .ref sTk, .ref mAk, .ref sBk, .ref sAk, .ref tHk, .ref tFk, .ref tSk, .int 0, .int 0, .int (-1), .int 0, .int 0])), (rOk, .inr (3, [.ref mUk, .ref bFk, .ref bTk, .int 0])), (mUk, .inl (cI, 300, .inl (fun _ => 0))), (bFk, .inl (cI, 4, .inl (fun _ => 0))), (bTk, .inl (cI, 4, .inl (fun _ => 0))), (sTk, .inr (4, [.ref cOk, .ref sHk, .int 0])), (cOk, .inl (cI, 6, .inl (fun _ => 0))), (sHk, .inl (cI, 6, .inl (fun _ => 0))), (mAk, .inr (1, [.ref iAk, .int 0, .int 0, .int 0, .int 0, .int 0, .int 13])), (iAk, .inl (cI, 10, .inl (fun _ => 0))), (sBk, .inr (5, [.ref rGk, .int 0, .int 0])), (rGk, .inl (cM, 30, .inr (.inr (.inr (.inr fK))))), (sAk, .inl (cI, 6, .inl (fun _ => 0))), (tHk, .inl (cI, 10, .inl (fun _ => 0))), (tFk, .inl (cI, 10, .inl (fun _ => 0))), (tSk, .inl (cI, 10, .inl (fun _ => 0)))]) [0, 1, 2, 3, 4, 5, 6, 7, 8, 9, 10, 11, 12, 13, 14, 15, 16, 17, 18, 19, 20, 21, 22, 23, 24, 25, 26, 27, 28, 29, 30, 31, 32] rfl
  have hDc := hD.part (cx := [(x, .inr (11, [.ref st, .ref dr, .ref nw, .ref kp, .ref rd, .ref tm, .ref co])), (nw, .inr (10, [.ref rO, .ref sT, .ref mA, .ref sB, .ref sA, .ref tH, .ref tF, .ref tS, .int 0, .int 0, .int (-1), .int 0, .int 0])), (rO, .inr (3, [.ref mU, .ref bF, .ref bT, .int 0])), (mU, .inl (cI, 300, .inl (fun _ => 0))), (bF, .inl (cI, 4, .inl (fun _ => 0))), (bT, .inl (cI, 4, .inl (fun _ => 0))), (sT, .inr (4, [.ref cO, .ref sH, .int 0])), (cO, .inl (cI, 6, .inl (fun _ => 0))), (sH, .inl (cI, 6, .inl (fun _ => 0))), (mA, .inr (1, [.ref iA, .int 0, .int 0, .int 0, .int 0, .int 0, .int 13])), (iA, .inl (cI, 10, .inl (fun _ => 0))), (sB, .inr (5, [.ref rG, .int 0, .int 0])), (rG, .inl (cM, 30, .inr (.inr (.inr (.inr fN))))), (sA, .inl (cI, 6, .inl (fun _ => 0))), (tH, .inl (cI, 10, .inl (fun _ => 0))), (tF, .inl (cI, 10, .inl (fun _ => 0))), (tS, .inl (cI, 10, .inl (fun _ => 0))), (kp, .inr (10, [.ref rOk, .ref sTk, .ref mAk, .ref sBk, .ref sAk, .ref tHk, .ref tFk, .ref tSk, .int 0, .int 0, .int (-1), .int 0, .int 0])), (rOk, .inr (3, [.ref mUk, .ref bFk, .ref bTk, .int 0])), (mUk, .inl (cI, 300, .inl (fun _ => 0))), (bFk, .inl (cI, 4, .inl (fun _ => 0))), (bTk, .inl (cI, 4, .inl (fun _ => 0))), (sTk, .inr (4, [.ref cOk, .ref sHk, .int 0])), (cOk, .inl (cI, 6, .inl (fun _ => 0))), (sHk, .inl (cI, 6, .inl (fun _ => 0))), (mAk, .inr (1, [.ref iAk, .int 0, .int 0, .int 0, .int 0, .int 0, .int 13])), (iAk, .inl (cI, 10, .inl (fun _ => 0))), (sBk, .inr (5, [.ref rGk, .int 0, .int 0])), (rGk, .inl (cM, 30, .inr (.inr (.inr (.inr fK))))), (sAk, .inl (cI, 6, .inl (fun _ => 0))), (tHk, .inl (cI, 10, .inl (fun _ => 0))), (tFk, .inl (cI, 10, .inl (fun _ => 0))), (tSk, .inl (cI, 10, .inl (fun _ => 0)))]) [0, 1, 2, 3, 4, 5, 6, 7, 8, 9, 10, 11, 12, 13, 14, 15, 16, 17, 18, 19, 20, 21, 22, 23, 24, 25, 26, 27, 28, 29, 30, 31, 32] (by decide) rfl
  refine raw_Vi (ci := 11) (q0 := 0) (nA := 0) (As := []) (rest := []) Z hl.1 (c_X11_image l D cI cM cT x st dr nw kp rd tm co rO sT mA sB sA tH tF tS mU bF bT cO sH iA rG rOk sTk mAk sBk sAk tHk tFk tSk mUk bFk bTk cOk sHk iAk rGk fN fK PL Ka Kb hN_ hK_ hab) (bw_V bw_978 bw_979 bw_980 bw_80 bw_981) ⟨by decide +kernel, by decide +kernel, by decide +kernel⟩ rfl ⟨Nat.le_of_ble_eq_true rfl, Nat.le_of_ble_eq_true rfl⟩ rfl rfl rfl hPc hDc hS rfl (Nat.le_of_ble_eq_true rfl) dL_law_949 ⟨Nat.le_of_ble_eq_true rfl, Nat.le_of_ble_eq_true rfl⟩ (fun r2 u1 H1 locs1 h3 hku1 hP1 hD1 hS1 => ?_)
  have hposth3 := h3
  obtain ⟨hP, hD⟩ := z_joinP (rx := []) (pl1 := []) (wr := [(q, .inr (12, [.ref aA, .ref aI, .ref aT, .ref aP, .int 0, .int (-1), .int (-1), .int 0, .int 0, .int 0, .int 0, .long 0, .int 0, .int 0, .int 0, .int 0, .ref pI, .int 0, .int 0, .int 0, .int 0, .int 0, .ref nM, .ref vA, .ref tR, .int 0, .int 0, .int 0, .ref rW, .ref sP, .ref oA, .ref bS, .ref aS, .ref aO, .ref cS, .ref wY])), (aA, .inl (cI, 862, .inl af0)), (aI, .inl (cI, 862, .inl gi))]) Z hS hP hD [0, 1, 2, 3, 4, 5, 6, 7, 8, 9, 10, 11, 12, 13, 14, 15, 16, 17, 18, 19, 20, 21, 22, 23, 24, 25, 26, 27, 28, 29, 30, 31, 32] [33, 34, 35] rfl (by decide) rfl (by decide) (by decide) hku1 va_P_nil va_D_nil
  have hS := hS1
  clear hS1
  generalize H1 = H at hP hS ⊢
  generalize locs1 = locs at hS ⊢
  have hP : va_P D vwCl ([(q, .inr (12, [.ref aA, .ref aI, .ref aT, .ref aP, .int 0, .int (-1), .int (-1), .int 0, .int 0, .int 0, .int 0, .long 0, .int 0, .int 0, .int 0, .int 0, .ref pI, .int 0, .int 0, .int 0, .int 0, .int 0, .ref nM, .ref vA, .ref tR, .int 0, .int 0, .int 0, .ref rW, .ref sP, .ref oA, .ref bS, .ref aS, .ref aO, .ref cS, .ref wY])), (aA, .inl (cI, 862, .inl af0)), (aI, .inl (cI, 862, .inl gi))]) H := hP
  have hD : va_D (fun q : Nat => s.heap.size ≤ q) ([(q, .inr (12, [.ref aA, .ref aI, .ref aT, .ref aP, .int 0, .int (-1), .int (-1), .int 0, .int 0, .int 0, .int 0, .long 0, .int 0, .int 0, .int 0, .int 0, .ref pI, .int 0, .int 0, .int 0, .int 0, .int 0, .ref nM, .ref vA, .ref tR, .int 0, .int 0, .int 0, .ref rW, .ref sP, .ref oA, .ref bS, .ref aS, .ref aO, .ref cS, .ref wY])), (aA, .inl (cI, 862, .inl af0)), (aI, .inl (cI, 862, .inl gi))]) := hD
  refine lv_aload_n hx hb dL_law_952 rfl (lv_at hl 2 rfl) ?_
  have hPc := hP.sub2 (wc := [(q, .inr (12, [.ref aA, .ref aI, .ref aT, .ref aP, .int 0, .int (-1), .int (-1), .int 0, .int 0, .int 0, .int 0, .long 0, .int 0, .int 0, .int 0, .int 0, .ref pI, .int 0, .int 0, .int 0, .int 0, .int 0, .ref nM, .ref vA, .ref tR, .int 0, .int 0, .int 0, .ref rW, .ref sP, .ref oA, .ref bS, .ref aS, .ref aO, .ref cS, .ref wY])), (aA, .inl (cI, 862, .inl af0)), (aI, .inl (cI, 862, .inl gi))]) [0, 1, 2] rfl
  have hDc := hD.sub (ws' := [(q, .inr (12, [.ref aA, .ref aI, .ref aT, .ref aP, .int 0, .int (-1), .int (-1), .int 0, .int 0, .int 0, .int 0, .long 0, .int 0, .int 0, .int 0, .int 0, .ref pI, .int 0, .int 0, .int 0, .int 0, .int 0, .ref nM, .ref vA, .ref tR, .int 0, .int 0, .int 0, .ref rW, .ref sP, .ref oA, .ref bS, .ref aS, .ref aO, .ref cS, .ref wY])), (aA, .inl (cI, 862, .inl af0)), (aI, .inl (cI, 862, .inl gi))]) [0, 1, 2] (by decide) rfl
  refine raw_Vi (ci := 12) (q0 := 0) (nA := 0) (As := []) (rest := [.int r2]) Z hl.1 (c_X12_image l D cI cM cT q aA aI aT aP pI nM vA tR rW sP oA bS aS aO cS wY gi) (bw_V bw_1458 bw_1459 bw_1460 bw_92 bw_1461) ⟨by decide +kernel, by decide +kernel, by decide +kernel⟩ rfl ⟨Nat.le_of_ble_eq_true rfl, Nat.le_of_ble_eq_true rfl⟩ rfl rfl rfl hPc hDc hS rfl (Nat.le_of_ble_eq_true rfl) dL_law_953 ⟨Nat.le_of_ble_eq_true rfl, Nat.le_of_ble_eq_true rfl⟩ (fun r5 u4 H1 locs1 h6 hku4 hP1 hD1 hS1 => ?_)
  have hposth6 := h6
  obtain ⟨hP, hD⟩ := z_join (wr := []) Z hS hP hD [0, 1, 2] [] rfl (by decide) rfl (by decide) (by decide) hku4 hP1 hD1
  have hS := hS1
  clear hS1
  generalize H1 = H at hP hS ⊢
  generalize locs1 = locs at hS ⊢
  have hP := va_P_left hP
  have hD := va_D_left hD
  refine lv_icmp_eq (tgt := 997) hx hb dL_law_956 (by decide) (fun c7 => ?_) (fun h => absurd (hposth3.trans hposth6.symm) h)
  exact law_tail Z hX hbl hS (lv_sub hl [0, 1, 2, 3] rfl)
set_option maxHeartbeats 4000000 in
set_option maxRecDepth 100000 in
theorem law_27 {p : Program} {l : Launch} {e : Env} {s : State} {m : MethodId} {below : List Frame} {meth : Method} {c : Code} {b : Nat} {xs : Nat → Int32} {D : va_G} {cI cM cT : ClassId} {H : Heap} {locs : List Loc} {ls : Array Slot} {x : Nat} {st : Nat} {dr : Nat} {nw : Nat} {kp : Nat} {rd : Nat} {tm : Nat} {co : Nat} {rO : Nat} {sT : Nat} {mA : Nat} {sB : Nat} {sA : Nat} {tH : Nat} {tF : Nat} {tS : Nat} {mU : Nat} {bF : Nat} {bT : Nat} {cO : Nat} {sH : Nat} {iA : Nat} {rG : Nat} {rOk : Nat} {sTk : Nat} {mAk : Nat} {sBk : Nat} {sAk : Nat} {tHk : Nat} {tFk : Nat} {tSk : Nat} {mUk : Nat} {bFk : Nat} {bTk : Nat} {cOk : Nat} {sHk : Nat} {iAk : Nat} {rGk : Nat} {s1 : Nat} {s2 : Nat} {s3 : Nat} {fN : Nat → Option Nat} {fK : Nat → Option Nat} {PL : va_W} {Ka : Nat → Prop} {Kb : Nat → Prop} {q : Nat} {aA : Nat} {aI : Nat} {aT : Nat} {aP : Nat} {pI : Nat} {nM : Nat} {vA : Nat} {tR : Nat} {rW : Nat} {sP : Nat} {oA : Nat} {bS : Nat} {aS : Nat} {aO : Nat} {cS : Nat} {wY : Nat} {gi : Nat → Int32} (Z : Zx p s m #[Value.ref b] meth c code 4 ret R_law (fun q : Nat => s.heap.size ≤ q) (ty3 cI cM cT) D) (hX : va_X b 6 xs s s.heap) (hbl : b < s.heap.size) (hN_ : RingOK cI fN 30 PL Ka) (hK_ : RingOK cI fK 30 PL Kb) (hab : ∀ k, Ka k → ¬ Kb k) (hgi : ∀ j, j < 862 → gi j = af0 j) (hP : va_P D vwCl ([(x, .inr (11, [.ref st, .ref dr, .ref nw, .ref kp, .ref rd, .ref tm, .ref co])), (nw, .inr (10, [.ref rO, .ref sT, .ref mA, .ref sB, .ref sA, .ref tH, .ref tF, .ref tS, .int 0, .int 0, .int (-1), .int 0, .int 0])), (rO, .inr (3, [.ref mU, .ref bF, .ref bT, .int 0])), (mU, .inl (cI, 300, .inl (fun _ => 0))), (bF, .inl (cI, 4, .inl (fun _ => 0))), (bT, .inl (cI, 4, .inl (fun _ => 0))), (sT, .inr (4, [.ref cO, .ref sH, .int 0])), (cO, .inl (cI, 6, .inl (fun _ => 0))), (sH, .inl (cI, 6, .inl (fun _ => 0))), (mA, .inr (1, [.ref iA, .int 0, .int 0, .int 0, .int 0, .int 0, .int 13])), (iA, .inl (cI, 10, .inl (fun _ => 0))), (sB, .inr (5, [.ref rG, .int 0, .int 0])), (rG, .inl (cM, 30, .inr (.inr (.inr (.inr fN))))), (sA, .inl (cI, 6, .inl (fun _ => 0))), (tH, .inl (cI, 10, .inl (fun _ => 0))), (tF, .inl (cI, 10, .inl (fun _ => 0))), (tS, .inl (cI, 10, .inl (fun _ => 0))), (kp, .inr (10, [.ref rOk, .ref sTk, .ref mAk, .ref sBk, .ref sAk, .ref tHk, .ref tFk, .ref tSk, .int 0, .int 0, .int (-1), .int 0, .int 0])), (rOk, .inr (3, [.ref mUk, .ref bFk, .ref bTk, .int 0])), (mUk, .inl (cI, 300, .inl (fun _ => 0))), (bFk, .inl (cI, 4, .inl (fun _ => 0))), (bTk, .inl (cI, 4, .inl (fun _ => 0))), (sTk, .inr (4, [.ref cOk, .ref sHk, .int 0])), (cOk, .inl (cI, 6, .inl (fun _ => 0))), (sHk, .inl (cI, 6, .inl (fun _ => 0))), (mAk, .inr (1, [.ref iAk, .int 0, .int 0, .int 0, .int 0, .int 0, .int 13])), (iAk, .inl (cI, 10, .inl (fun _ => 0))), (sBk, .inr (5, [.ref rGk, .int 0, .int 0])), (rGk, .inl (cM, 30, .inr (.inr (.inr (.inr fK))))), (sAk, .inl (cI, 6, .inl (fun _ => 0))), (tHk, .inl (cI, 10, .inl (fun _ => 0))), (tFk, .inl (cI, 10, .inl (fun _ => 0))), (tSk, .inl (cI, 10, .inl (fun _ => 0))), (st, .inr (6, [.ref dr, .ref s1, .ref s2, .ref s3, .int 1])), (q, .inr (12, [.ref aA, .ref aI, .ref aT, .ref aP, .int 0, .int (-1), .int (-1), .int 0, .int 0, .int 0, .int 0, .long 0, .int 0, .int 0, .int 0, .int 0, .ref pI, .int 0, .int 0, .int 0, .int 0, .int 0, .ref nM, .ref vA, .ref tR, .int 0, .int 0, .int 0, .ref rW, .ref sP, .ref oA, .ref bS, .ref aS, .ref aO, .ref cS, .ref wY])), (aA, .inl (cI, 862, .inl af0)), (aI, .inl (cI, 862, .inl gi))] ++ PL) H) (hD : va_D (fun q : Nat => s.heap.size ≤ q) ([(x, .inr (11, [.ref st, .ref dr, .ref nw, .ref kp, .ref rd, .ref tm, .ref co])), (nw, .inr (10, [.ref rO, .ref sT, .ref mA, .ref sB, .ref sA, .ref tH, .ref tF, .ref tS, .int 0, .int 0, .int (-1), .int 0, .int 0])), (rO, .inr (3, [.ref mU, .ref bF, .ref bT, .int 0])), (mU, .inl (cI, 300, .inl (fun _ => 0))), (bF, .inl (cI, 4, .inl (fun _ => 0))), (bT, .inl (cI, 4, .inl (fun _ => 0))), (sT, .inr (4, [.ref cO, .ref sH, .int 0])), (cO, .inl (cI, 6, .inl (fun _ => 0))), (sH, .inl (cI, 6, .inl (fun _ => 0))), (mA, .inr (1, [.ref iA, .int 0, .int 0, .int 0, .int 0, .int 0, .int 13])), (iA, .inl (cI, 10, .inl (fun _ => 0))), (sB, .inr (5, [.ref rG, .int 0, .int 0])), (rG, .inl (cM, 30, .inr (.inr (.inr (.inr fN))))), (sA, .inl (cI, 6, .inl (fun _ => 0))), (tH, .inl (cI, 10, .inl (fun _ => 0))), (tF, .inl (cI, 10, .inl (fun _ => 0))), (tS, .inl (cI, 10, .inl (fun _ => 0))), (kp, .inr (10, [.ref rOk, .ref sTk, .ref mAk, .ref sBk, .ref sAk, .ref tHk, .ref tFk, .ref tSk, .int 0, .int 0, .int (-1), .int 0, .int 0])), (rOk, .inr (3, [.ref mUk, .ref bFk, .ref bTk, .int 0])), (mUk, .inl (cI, 300, .inl (fun _ => 0))), (bFk, .inl (cI, 4, .inl (fun _ => 0))), (bTk, .inl (cI, 4, .inl (fun _ => 0))), (sTk, .inr (4, [.ref cOk, .ref sHk, .int 0])), (cOk, .inl (cI, 6, .inl (fun _ => 0))), (sHk, .inl (cI, 6, .inl (fun _ => 0))), (mAk, .inr (1, [.ref iAk, .int 0, .int 0, .int 0, .int 0, .int 0, .int 13])), (iAk, .inl (cI, 10, .inl (fun _ => 0))), (sBk, .inr (5, [.ref rGk, .int 0, .int 0])), (rGk, .inl (cM, 30, .inr (.inr (.inr (.inr fK))))), (sAk, .inl (cI, 6, .inl (fun _ => 0))), (tHk, .inl (cI, 10, .inl (fun _ => 0))), (tFk, .inl (cI, 10, .inl (fun _ => 0))), (tSk, .inl (cI, 10, .inl (fun _ => 0))), (st, .inr (6, [.ref dr, .ref s1, .ref s2, .ref s3, .int 1])), (q, .inr (12, [.ref aA, .ref aI, .ref aT, .ref aP, .int 0, .int (-1), .int (-1), .int 0, .int 0, .int 0, .int 0, .long 0, .int 0, .int 0, .int 0, .int 0, .ref pI, .int 0, .int 0, .int 0, .int 0, .int 0, .ref nM, .ref vA, .ref tR, .int 0, .int 0, .int 0, .ref rW, .ref sP, .ref oA, .ref bS, .ref aS, .ref aO, .ref cS, .ref wY])), (aA, .inl (cI, 862, .inl af0)), (aI, .inl (cI, 862, .inl gi))] ++ PL)) (hS : va_S (fun q : Nat => s.heap.size ≤ q) s.heap H locs) (hl : lv_has ls 4 [(0, .ref b), (1, .ref x), (2, .ref q), (3, .int 0)]) : W p l e room_1 s m #[Value.ref b] below meth c H locs 300 23000 (lw_Z below #[Value.ref b] s) (F0 m 961 ls []) := by
  have hx := Z.1
  have hb := Z.2.1
  have hbA : ¬ (fun q : Nat => s.heap.size ≤ q) b := Nat.not_le.mpr hbl
  skip
  refine lv_aload_n hx hb dL_law_961 rfl (lv_at hl 1 rfl) ?_
  have hPc := hP.part (cx := [(x, .inr (11, [.ref st, .ref dr, .ref nw, .ref kp, .ref rd, .ref tm, .ref co])), (nw, .inr (10, [.ref rO, .ref sT, .ref mA, .ref sB, .ref sA, .ref tH, .ref tF, .ref tS, .int 0, .int 0, .int (-1), .int 0, .int 0])), (rO, .inr (3, [.ref mU, .ref bF, .ref bT, .int 0])), (mU, .inl (cI, 300, .inl (fun _ => 0))), (bF, .inl (cI, 4, .inl (fun _ => 0))), (bT, .inl (cI, 4, .inl (fun _ => 0))), (sT, .inr (4, [.ref cO, .ref sH, .int 0])), (cO, .inl (cI, 6, .inl (fun _ => 0))), (sH, .inl (cI, 6, .inl (fun _ => 0))), (mA, .inr (1, [.ref iA, .int 0, .int 0, .int 0, .int 0, .int 0, .int 13])), (iA, .inl (cI, 10, .inl (fun _ => 0))), (sB, .inr (5, [.ref rG, .int 0, .int 0])), (rG, .inl (cM, 30, .inr (.inr (.inr (.inr fN))))), (sA, .inl (cI, 6, .inl (fun _ => 0))), (tH, .inl (cI, 10, .inl (fun _ => 0))), (tF, .inl (cI, 10, .inl (fun _ => 0))), (tS, .inl (cI, 10, .inl (fun _ => 0))), (kp, .inr (10, [.ref rOk, .ref sTk, .ref mAk, .ref sBk, .ref sAk, .ref tHk, .ref tFk, .ref tSk, .int 0, .int 0, .int (-1), .int 0, .int 0])), (rOk, .inr (3, [.ref mUk, .ref bFk, .ref bTk, .int 0])), (mUk, .inl (cI, 300, .inl (fun _ => 0))), (bFk, .inl (cI, 4, .inl (fun _ => 0))), (bTk, .inl (cI, 4, .inl (fun _ => 0))), (sTk, .inr (4, [.ref cOk, .ref sHk, .int 0])), (cOk, .inl (cI, 6, .inl (fun _ => 0))), (sHk, .inl (cI, 6, .inl (fun _ => 0))), (mAk, .inr (1, [.ref iAk, .int 0, .int 0, .int 0, .int 0, .int 0, .int 13])), (iAk, .inl (cI, 10, .inl (fun _ => 0))), (sBk, .inr (5, [.ref rGk, .int 0, .int 0])), (rGk, .inl (cM, 30, .inr (.inr (.inr (.inr fK))))), (sAk, .inl (cI, 6, .inl (fun _ => 0))), (tHk, .inl (cI, 10, .inl (fun _ => 0))), (tFk, .inl (cI, 10, .inl (fun _ => 0))), (tSk, .inl (cI, 10, .inl (fun _ => 0))), (st, .inr (6, [.ref dr, .ref s1, .ref s2, .ref s3, .int 1]))]) [0, 1, 2, 3, 4, 5, 6, 7, 8, 9, 10, 11, 12, 13, 14, 15, 16, 17, 18, 19, 20, 21, 22, 23, 24, 25, 26, 27, 28, 29, 30, 31, 32, 33] rfl
  have hDc := hD.part (cx := [(x, .inr (11, [.ref st, .ref dr, .ref nw, .ref kp, .ref rd, .ref tm, .ref co])), (nw, .inr (10, [.ref rO, .ref sT, .ref mA, .ref sB, .ref sA, .ref tH, .ref tF, .ref tS, .int 0, .int 0, .int (-1), .int 0, .int 0])), (rO, .inr (3, [.ref mU, .ref bF, .ref bT, .int 0])), (mU, .inl (cI, 300, .inl (fun _ => 0))), (bF, .inl (cI, 4, .inl (fun _ => 0))), (bT, .inl (cI, 4, .inl (fun _ => 0))), (sT, .inr (4, [.ref cO, .ref sH, .int 0])), (cO, .inl (cI, 6, .inl (fun _ => 0))), (sH, .inl (cI, 6, .inl (fun _ => 0))), (mA, .inr (1, [.ref iA, .int 0, .int 0, .int 0, .int 0, .int 0, .int 13])), (iA, .inl (cI, 10, .inl (fun _ => 0))), (sB, .inr (5, [.ref rG, .int 0, .int 0])), (rG, .inl (cM, 30, .inr (.inr (.inr (.inr fN))))), (sA, .inl (cI, 6, .inl (fun _ => 0))), (tH, .inl (cI, 10, .inl (fun _ => 0))), (tF, .inl (cI, 10, .inl (fun _ => 0))), (tS, .inl (cI, 10, .inl (fun _ => 0))), (kp, .inr (10, [.ref rOk, .ref sTk, .ref mAk, .ref sBk, .ref sAk, .ref tHk, .ref tFk, .ref tSk, .int 0, .int 0, .int (-1), .int 0, .int 0])), (rOk, .inr (3, [.ref mUk, .ref bFk, .ref bTk, .int 0])), (mUk, .inl (cI, 300, .inl (fun _ => 0))), (bFk, .inl (cI, 4, .inl (fun _ => 0))), (bTk, .inl (cI, 4, .inl (fun _ => 0))), (sTk, .inr (4, [.ref cOk, .ref sHk, .int 0])), (cOk, .inl (cI, 6, .inl (fun _ => 0))), (sHk, .inl (cI, 6, .inl (fun _ => 0))), (mAk, .inr (1, [.ref iAk, .int 0, .int 0, .int 0, .int 0, .int 0, .int 13])), (iAk, .inl (cI, 10, .inl (fun _ => 0))), (sBk, .inr (5, [.ref rGk, .int 0, .int 0])), (rGk, .inl (cM, 30, .inr (.inr (.inr (.inr fK))))), (sAk, .inl (cI, 6, .inl (fun _ => 0))), (tHk, .inl (cI, 10, .inl (fun _ => 0))), (tFk, .inl (cI, 10, .inl (fun _ => 0))), (tSk, .inl (cI, 10, .inl (fun _ => 0))), (st, .inr (6, [.ref dr, .ref s1, .ref s2, .ref s3, .int 1]))]) [0, 1, 2, 3, 4, 5, 6, 7, 8, 9, 10, 11, 12, 13, 14, 15, 16, 17, 18, 19, 20, 21, 22, 23, 24, 25, 26, 27, 28, 29, 30, 31, 32, 33] (by decide) rfl
  refine raw_Vi (ci := 11) (q0 := 0) (nA := 0) (As := []) (rest := []) Z hl.1 (c_X11_back l D cI cM cT x st dr nw kp rd tm co rO sT mA sB sA tH tF tS mU bF bT cO sH iA rG rOk sTk mAk sBk sAk tHk tFk tSk mUk bFk bTk cOk sHk iAk rGk s1 s2 s3 fN fK PL Ka Kb hN_ hK_ hab) (bw_V bw_1002 bw_1003 bw_1004 bw_80 bw_1005) ⟨by decide +kernel, by decide +kernel, by decide +kernel⟩ rfl ⟨Nat.le_of_ble_eq_true rfl, Nat.le_of_ble_eq_true rfl⟩ rfl rfl rfl hPc hDc hS rfl (Nat.le_of_ble_eq_true rfl) dL_law_962 ⟨Nat.le_of_ble_eq_true rfl, Nat.le_of_ble_eq_true rfl⟩ (fun r2 u1 H1 locs1 h3 hku1 hP1 hD1 hS1 => ?_)
  have hposth3 := h3
  obtain ⟨hP, hD⟩ := z_joinP (rx := []) (pl1 := []) (wr := [(q, .inr (12, [.ref aA, .ref aI, .ref aT, .ref aP, .int 0, .int (-1), .int (-1), .int 0, .int 0, .int 0, .int 0, .long 0, .int 0, .int 0, .int 0, .int 0, .ref pI, .int 0, .int 0, .int 0, .int 0, .int 0, .ref nM, .ref vA, .ref tR, .int 0, .int 0, .int 0, .ref rW, .ref sP, .ref oA, .ref bS, .ref aS, .ref aO, .ref cS, .ref wY])), (aA, .inl (cI, 862, .inl af0)), (aI, .inl (cI, 862, .inl gi))]) Z hS hP hD [0, 1, 2, 3, 4, 5, 6, 7, 8, 9, 10, 11, 12, 13, 14, 15, 16, 17, 18, 19, 20, 21, 22, 23, 24, 25, 26, 27, 28, 29, 30, 31, 32, 33] [34, 35, 36] rfl (by decide) rfl (by decide) (by decide) hku1 va_P_nil va_D_nil
  have hS := hS1
  clear hS1
  generalize H1 = H at hP hS ⊢
  generalize locs1 = locs at hS ⊢
  have hP : va_P D vwCl ([(q, .inr (12, [.ref aA, .ref aI, .ref aT, .ref aP, .int 0, .int (-1), .int (-1), .int 0, .int 0, .int 0, .int 0, .long 0, .int 0, .int 0, .int 0, .int 0, .ref pI, .int 0, .int 0, .int 0, .int 0, .int 0, .ref nM, .ref vA, .ref tR, .int 0, .int 0, .int 0, .ref rW, .ref sP, .ref oA, .ref bS, .ref aS, .ref aO, .ref cS, .ref wY])), (aA, .inl (cI, 862, .inl af0)), (aI, .inl (cI, 862, .inl gi))]) H := hP
  have hD : va_D (fun q : Nat => s.heap.size ≤ q) ([(q, .inr (12, [.ref aA, .ref aI, .ref aT, .ref aP, .int 0, .int (-1), .int (-1), .int 0, .int 0, .int 0, .int 0, .long 0, .int 0, .int 0, .int 0, .int 0, .ref pI, .int 0, .int 0, .int 0, .int 0, .int 0, .ref nM, .ref vA, .ref tR, .int 0, .int 0, .int 0, .ref rW, .ref sP, .ref oA, .ref bS, .ref aS, .ref aO, .ref cS, .ref wY])), (aA, .inl (cI, 862, .inl af0)), (aI, .inl (cI, 862, .inl gi))]) := hD
  refine lv_aload_n hx hb dL_law_965 rfl (lv_at hl 2 rfl) ?_
  have hPc := hP.sub2 (wc := [(q, .inr (12, [.ref aA, .ref aI, .ref aT, .ref aP, .int 0, .int (-1), .int (-1), .int 0, .int 0, .int 0, .int 0, .long 0, .int 0, .int 0, .int 0, .int 0, .ref pI, .int 0, .int 0, .int 0, .int 0, .int 0, .ref nM, .ref vA, .ref tR, .int 0, .int 0, .int 0, .ref rW, .ref sP, .ref oA, .ref bS, .ref aS, .ref aO, .ref cS, .ref wY])), (aA, .inl (cI, 862, .inl af0)), (aI, .inl (cI, 862, .inl gi))]) [0, 1, 2] rfl
  have hDc := hD.sub (ws' := [(q, .inr (12, [.ref aA, .ref aI, .ref aT, .ref aP, .int 0, .int (-1), .int (-1), .int 0, .int 0, .int 0, .int 0, .long 0, .int 0, .int 0, .int 0, .int 0, .ref pI, .int 0, .int 0, .int 0, .int 0, .int 0, .ref nM, .ref vA, .ref tR, .int 0, .int 0, .int 0, .ref rW, .ref sP, .ref oA, .ref bS, .ref aS, .ref aO, .ref cS, .ref wY])), (aA, .inl (cI, 862, .inl af0)), (aI, .inl (cI, 862, .inl gi))]) [0, 1, 2] (by decide) rfl
  refine raw_Vi (ci := 12) (q0 := 0) (nA := 0) (As := []) (rest := [.int r2]) Z hl.1 (c_X12_back l D cI cM cT q aA aI aT aP pI nM vA tR rW sP oA bS aS aO cS wY gi hgi) (bw_V bw_1462 bw_1463 bw_1464 bw_92 bw_1465) ⟨by decide +kernel, by decide +kernel, by decide +kernel⟩ rfl ⟨Nat.le_of_ble_eq_true rfl, Nat.le_of_ble_eq_true rfl⟩ rfl rfl rfl hPc hDc hS rfl (Nat.le_of_ble_eq_true rfl) dL_law_966 ⟨Nat.le_of_ble_eq_true rfl, Nat.le_of_ble_eq_true rfl⟩ (fun r5 u4 H1 locs1 h6 hku4 hP1 hD1 hS1 => ?_)
  have hposth6 := h6
  obtain ⟨hP, hD⟩ := z_join (wr := []) Z hS hP hD [0, 1, 2] [] rfl (by decide) rfl (by decide) (by decide) hku4 hP1 hD1
  have hS := hS1
  clear hS1
  generalize H1 = H at hP hS ⊢
  generalize locs1 = locs at hS ⊢
  have hP := va_P_left hP
  have hD := va_D_left hD
  refine lv_icmp_eq (tgt := 997) hx hb dL_law_969 (by decide) (fun c7 => ?_) (fun h => absurd (hposth3.trans hposth6.symm) h)
  exact law_tail Z hX hbl hS (lv_sub hl [0, 1, 2, 3] rfl)
set_option maxHeartbeats 4000000 in
set_option maxRecDepth 100000 in
theorem law_28 {p : Program} {l : Launch} {e : Env} {s : State} {m : MethodId} {below : List Frame} {meth : Method} {c : Code} {b : Nat} {xs : Nat → Int32} {D : va_G} {cI cM cT : ClassId} {H : Heap} {locs : List Loc} {ls : Array Slot} {x : Nat} {st : Nat} {dr : Nat} {nw : Nat} {kp : Nat} {rd : Nat} {tm : Nat} {co : Nat} {rO : Nat} {sT : Nat} {mA : Nat} {sB : Nat} {sA : Nat} {tH : Nat} {tF : Nat} {tS : Nat} {iA : Nat} {mU : Nat} {bF : Nat} {bT : Nat} {cO : Nat} {sH : Nat} {rG : Nat} {tP : Nat} {tX : Nat} {bY : Nat} {ki : Nat} {at_ : Nat} {nu : Nat} {q : Nat} {aA : Nat} {aI : Nat} {aT : Nat} {aP : Nat} {pI : Nat} {nM : Nat} {vA : Nat} {tR : Nat} {rW : Nat} {sP : Nat} {oA : Nat} {bS : Nat} {aS : Nat} {aO : Nat} {cS : Nat} {wY : Nat} (Z : Zx p s m #[Value.ref b] meth c code 4 ret R_law (fun q : Nat => s.heap.size ≤ q) (ty3 cI cM cT) D) (hX : va_X b 6 xs s s.heap) (hbl : b < s.heap.size) (hP : va_P D vwCl ([(x, .inr (11, [.ref st, .ref dr, .ref nw, .ref kp, .ref rd, .ref tm, .ref co])), (nw, .inr (10, [.ref rO, .ref sT, .ref mA, .ref sB, .ref sA, .ref tH, .ref tF, .ref tS, .int 0, .int 0, .int (-1), .int 0, .int 0])), (mA, .inr (1, [.ref iA, .int 0, .int 0, .int 0, .int 0, .int 0, .int 13])), (rO, .inr (3, [.ref mU, .ref bF, .ref bT, .int 0])), (mU, .inl (cI, 300, .inl (fun _ => 0))), (sT, .inr (4, [.ref cO, .ref sH, .int 0])), (sB, .inr (5, [.ref rG, .int 0, .int 0])), (rd, .inr (2, [.ref tP, .int (-1), .int (-1), .int 0, .int 37, .int 0, .ref tX])), (tP, .inr (7, [.ref bY, .ref ki, .ref at_, .ref nu, .int 0, .int 0])), (q, .inr (12, [.ref aA, .ref aI, .ref aT, .ref aP, .int 0, .int (-1), .int (-1), .int 0, .int 0, .int 0, .int 0, .long 0, .int 0, .int 0, .int 0, .int 0, .ref pI, .int 0, .int 0, .int 0, .int 0, .int 0, .ref nM, .ref vA, .ref tR, .int 0, .int 0, .int 0, .ref rW, .ref sP, .ref oA, .ref bS, .ref aS, .ref aO, .ref cS, .ref wY])), (aA, .inl (cI, 862, .inl af0))]) H) (hD : va_D (fun q : Nat => s.heap.size ≤ q) ([(x, .inr (11, [.ref st, .ref dr, .ref nw, .ref kp, .ref rd, .ref tm, .ref co])), (nw, .inr (10, [.ref rO, .ref sT, .ref mA, .ref sB, .ref sA, .ref tH, .ref tF, .ref tS, .int 0, .int 0, .int (-1), .int 0, .int 0])), (mA, .inr (1, [.ref iA, .int 0, .int 0, .int 0, .int 0, .int 0, .int 13])), (rO, .inr (3, [.ref mU, .ref bF, .ref bT, .int 0])), (mU, .inl (cI, 300, .inl (fun _ => 0))), (sT, .inr (4, [.ref cO, .ref sH, .int 0])), (sB, .inr (5, [.ref rG, .int 0, .int 0])), (rd, .inr (2, [.ref tP, .int (-1), .int (-1), .int 0, .int 37, .int 0, .ref tX])), (tP, .inr (7, [.ref bY, .ref ki, .ref at_, .ref nu, .int 0, .int 0])), (q, .inr (12, [.ref aA, .ref aI, .ref aT, .ref aP, .int 0, .int (-1), .int (-1), .int 0, .int 0, .int 0, .int 0, .long 0, .int 0, .int 0, .int 0, .int 0, .ref pI, .int 0, .int 0, .int 0, .int 0, .int 0, .ref nM, .ref vA, .ref tR, .int 0, .int 0, .int 0, .ref rW, .ref sP, .ref oA, .ref bS, .ref aS, .ref aO, .ref cS, .ref wY])), (aA, .inl (cI, 862, .inl af0))])) (hS : va_S (fun q : Nat => s.heap.size ≤ q) s.heap H locs) (hl : lv_has ls 4 [(0, .ref b), (1, .ref x), (2, .ref q), (3, .int 0)]) : W p l e room_1 s m #[Value.ref b] below meth c H locs 300 23000 (lw_Z below #[Value.ref b] s) (F0 m 974 ls []) := by
  have hx := Z.1
  have hb := Z.2.1
  have hbA : ¬ (fun q : Nat => s.heap.size ≤ q) b := Nat.not_le.mpr hbl
  skip
  refine lv_aload_n hx hb dL_law_974 rfl (lv_at hl 1 rfl) ?_
  refine lv_aload_n hx hb dL_law_975 rfl (lv_at hl 0 rfl) ?_
  refine lv_iload_n hx hb dL_law_976 rfl (lv_at hl 3 rfl) ?_
  refine lv_iconst (v := 1) hx hb dL_law_977 (by decide) ?_
  refine lv_iadd hx hb dL_law_978 ?_
  refine z_topi (y := 1) (by decide) ?_
  refine va_sld hx hb hX hbl hbA hS (vin (by decide)) dL_law_979 ?_
  refine z_topi (y := xs 1) rfl ?_
  have hPc := hP.sub2 (wc := [(x, .inr (11, [.ref st, .ref dr, .ref nw, .ref kp, .ref rd, .ref tm, .ref co])), (nw, .inr (10, [.ref rO, .ref sT, .ref mA, .ref sB, .ref sA, .ref tH, .ref tF, .ref tS, .int 0, .int 0, .int (-1), .int 0, .int 0])), (mA, .inr (1, [.ref iA, .int 0, .int 0, .int 0, .int 0, .int 0, .int 13])), (rO, .inr (3, [.ref mU, .ref bF, .ref bT, .int 0])), (mU, .inl (cI, 300, .inl (fun _ => 0))), (sT, .inr (4, [.ref cO, .ref sH, .int 0])), (sB, .inr (5, [.ref rG, .int 0, .int 0])), (rd, .inr (2, [.ref tP, .int (-1), .int (-1), .int 0, .int 37, .int 0, .ref tX])), (tP, .inr (7, [.ref bY, .ref ki, .ref at_, .ref nu, .int 0, .int 0]))]) [0, 1, 2, 3, 4, 5, 6, 7, 8] rfl
  have hDc := hD.sub (ws' := [(x, .inr (11, [.ref st, .ref dr, .ref nw, .ref kp, .ref rd, .ref tm, .ref co])), (nw, .inr (10, [.ref rO, .ref sT, .ref mA, .ref sB, .ref sA, .ref tH, .ref tF, .ref tS, .int 0, .int 0, .int (-1), .int 0, .int 0])), (mA, .inr (1, [.ref iA, .int 0, .int 0, .int 0, .int 0, .int 0, .int 13])), (rO, .inr (3, [.ref mU, .ref bF, .ref bT, .int 0])), (mU, .inl (cI, 300, .inl (fun _ => 0))), (sT, .inr (4, [.ref cO, .ref sH, .int 0])), (sB, .inr (5, [.ref rG, .int 0, .int 0])), (rd, .inr (2, [.ref tP, .int (-1), .int (-1), .int 0, .int 37, .int 0, .ref tX])), (tP, .inr (7, [.ref bY, .ref ki, .ref at_, .ref nu, .int 0, .int 0]))]) [0, 1, 2, 3, 4, 5, 6, 7, 8] (by decide) rfl
  refine raw_Vi (ci := 11) (q0 := 0) (nA := 1) (As := [.int (xs 1)]) (rest := []) Z hl.1 (c_X11_about l D cI cM cT x st dr nw kp rd tm co rO sT mA sB sA tH tF tS iA mU bF bT cO sH rG tP tX bY ki at_ nu (xs 1)) (bw_V bw_1006 bw_1007 bw_1008 bw_80 bw_1009) ⟨by decide +kernel, by decide +kernel, by decide +kernel⟩ rfl ⟨Nat.le_of_ble_eq_true rfl, Nat.le_of_ble_eq_true rfl⟩ rfl rfl rfl hPc hDc hS rfl (Nat.le_of_ble_eq_true rfl) dL_law_980 ⟨Nat.le_of_ble_eq_true rfl, Nat.le_of_ble_eq_true rfl⟩ (fun r2 u1 H1 locs1 h3 hku1 hP1 hD1 hS1 => ?_)
  have hposth3 := h3
  obtain ⟨hP, hD⟩ := z_join (wr := [(q, .inr (12, [.ref aA, .ref aI, .ref aT, .ref aP, .int 0, .int (-1), .int (-1), .int 0, .int 0, .int 0, .int 0, .long 0, .int 0, .int 0, .int 0, .int 0, .ref pI, .int 0, .int 0, .int 0, .int 0, .int 0, .ref nM, .ref vA, .ref tR, .int 0, .int 0, .int 0, .ref rW, .ref sP, .ref oA, .ref bS, .ref aS, .ref aO, .ref cS, .ref wY])), (aA, .inl (cI, 862, .inl af0))]) Z hS hP hD [0, 1, 2, 3, 4, 5, 6, 7, 8] [9, 10] rfl (by decide) rfl (by decide) (by decide) hku1 hP1 hD1
  have hS := hS1
  clear hS1
  generalize H1 = H at hP hS ⊢
  generalize locs1 = locs at hS ⊢
  have hP := va_P_left hP
  have hD := va_D_left hD
  refine lv_aload_n hx hb dL_law_983 rfl (lv_at hl 2 rfl) ?_
  refine lv_aload_n hx hb dL_law_984 rfl (lv_at hl 0 rfl) ?_
  refine lv_iload_n hx hb dL_law_985 rfl (lv_at hl 3 rfl) ?_
  refine lv_iconst (v := 1) hx hb dL_law_986 (by decide) ?_
  refine lv_iadd hx hb dL_law_987 ?_
  refine z_topi (y := 1) (by decide) ?_
  refine va_sld hx hb hX hbl hbA hS (vin (by decide)) dL_law_988 ?_
  refine z_topi (y := xs 1) rfl ?_
  have hPc := hP.sub2 (wc := [(q, .inr (12, [.ref aA, .ref aI, .ref aT, .ref aP, .int 0, .int (-1), .int (-1), .int 0, .int 0, .int 0, .int 0, .long 0, .int 0, .int 0, .int 0, .int 0, .ref pI, .int 0, .int 0, .int 0, .int 0, .int 0, .ref nM, .ref vA, .ref tR, .int 0, .int 0, .int 0, .ref rW, .ref sP, .ref oA, .ref bS, .ref aS, .ref aO, .ref cS, .ref wY])), (aA, .inl (cI, 862, .inl af0))]) [0, 1] rfl
  have hDc := hD.sub (ws' := [(q, .inr (12, [.ref aA, .ref aI, .ref aT, .ref aP, .int 0, .int (-1), .int (-1), .int 0, .int 0, .int 0, .int 0, .long 0, .int 0, .int 0, .int 0, .int 0, .ref pI, .int 0, .int 0, .int 0, .int 0, .int 0, .ref nM, .ref vA, .ref tR, .int 0, .int 0, .int 0, .ref rW, .ref sP, .ref oA, .ref bS, .ref aS, .ref aO, .ref cS, .ref wY])), (aA, .inl (cI, 862, .inl af0))]) [0, 1] (by decide) rfl
  refine raw_Vi (ci := 12) (q0 := 0) (nA := 1) (As := [.int (xs 1)]) (rest := [.int r2]) Z hl.1 (c_X12_about l D cI cM cT q aA aI aT aP pI nM vA tR rW sP oA bS aS aO cS wY (xs 1)) (bw_V bw_1466 bw_1467 bw_1468 bw_92 bw_1469) ⟨by decide +kernel, by decide +kernel, by decide +kernel⟩ rfl ⟨Nat.le_of_ble_eq_true rfl, Nat.le_of_ble_eq_true rfl⟩ rfl rfl rfl hPc hDc hS rfl (Nat.le_of_ble_eq_true rfl) dL_law_989 ⟨Nat.le_of_ble_eq_true rfl, Nat.le_of_ble_eq_true rfl⟩ (fun r5 u4 H1 locs1 h6 hku4 hP1 hD1 hS1 => ?_)
  have hposth6 := h6
  obtain ⟨hP, hD⟩ := z_join (wr := []) Z hS hP hD [0, 1] [] rfl (by decide) rfl (by decide) (by decide) hku4 hP1 hD1
  have hS := hS1
  clear hS1
  generalize H1 = H at hP hS ⊢
  generalize locs1 = locs at hS ⊢
  have hP := va_P_left hP
  have hD := va_D_left hD
  refine lv_icmp_eq (tgt := 997) hx hb dL_law_992 (by decide) (fun c7 => ?_) (fun h => absurd (hposth3.trans hposth6.symm) h)
  exact law_tail Z hX hbl hS (lv_sub hl [0, 1, 2, 3] rfl)
