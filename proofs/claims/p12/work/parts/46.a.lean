theorem dL_law_0 : decode cL_law 0 = .ok (.new 7, 3) := by decide +kernel
theorem dL_law_3 : decode cL_law 3 = .ok (.dup, 1) := by decide +kernel
theorem dL_law_4 : decode cL_law 4 = .ok (.invokespecial 9, 3) := by decide +kernel
theorem dL_law_7 : decode cL_law 7 = .ok (.astore_n 1, 1) := by decide +kernel
theorem dL_law_8 : decode cL_law 8 = .ok (.new 10, 3) := by decide +kernel
theorem dL_law_11 : decode cL_law 11 = .ok (.dup, 1) := by decide +kernel
theorem dL_law_12 : decode cL_law 12 = .ok (.invokespecial 12, 3) := by decide +kernel
theorem dL_law_15 : decode cL_law 15 = .ok (.astore_n 2, 1) := by decide +kernel
theorem dL_law_16 : decode cL_law 16 = .ok (.iconst 0, 1) := by decide +kernel
theorem dL_law_17 : decode cL_law 17 = .ok (.istore_n 3, 1) := by decide +kernel
theorem dL_law_18 : decode cL_law 18 = .ok (.iload_n 3, 1) := by decide +kernel
theorem dL_law_19 : decode cL_law 19 = .ok (.aload_n 0, 1) := by decide +kernel
theorem dL_law_20 : decode cL_law 20 = .ok (.arraylength, 1) := by decide +kernel
theorem dL_law_21 : decode cL_law 21 = .ok (.bipush 6, 2) := by decide +kernel
theorem dL_law_23 : decode cL_law 23 = .ok (.isub, 1) := by decide +kernel
theorem dL_law_24 : decode cL_law 24 = .ok (.if_icmp .gt 979, 3) := by decide +kernel
theorem dL_law_27 : decode cL_law 27 = .ok (.aload_n 0, 1) := by decide +kernel
theorem dL_law_28 : decode cL_law 28 = .ok (.iload_n 3, 1) := by decide +kernel
theorem dL_law_29 : decode cL_law 29 = .ok (.iaload, 1) := by decide +kernel
theorem dL_law_30 : decode cL_law 30 = .ok (.bipush 31, 2) := by decide +kernel
theorem dL_law_32 : decode cL_law 32 = .ok (.iand, 1) := by decide +kernel
theorem dL_law_33 : decode cL_law 33 = .ok (.tableswitch 964 0 28 #[131, 174, 207, 230, 263, 296, 329, 392, 415, 428, 451, 474, 497, 540, 563, 586, 609, 622, 645, 688, 747, 790, 813, 846, 889, 902, 915, 928, 941], 131) := by decide +kernel
theorem dL_law_164 : decode cL_law 164 = .ok (.aload_n 1, 1) := by decide +kernel
theorem dL_law_165 : decode cL_law 165 = .ok (.aload_n 0, 1) := by decide +kernel
theorem dL_law_166 : decode cL_law 166 = .ok (.iload_n 3, 1) := by decide +kernel
theorem dL_law_167 : decode cL_law 167 = .ok (.iconst 1, 1) := by decide +kernel
theorem dL_law_168 : decode cL_law 168 = .ok (.iadd, 1) := by decide +kernel
theorem dL_law_169 : decode cL_law 169 = .ok (.iaload, 1) := by decide +kernel
theorem dL_law_170 : decode cL_law 170 = .ok (.aload_n 0, 1) := by decide +kernel
theorem dL_law_171 : decode cL_law 171 = .ok (.iload_n 3, 1) := by decide +kernel
theorem dL_law_172 : decode cL_law 172 = .ok (.iconst 2, 1) := by decide +kernel
theorem dL_law_173 : decode cL_law 173 = .ok (.iadd, 1) := by decide +kernel
theorem dL_law_174 : decode cL_law 174 = .ok (.iaload, 1) := by decide +kernel
theorem dL_law_175 : decode cL_law 175 = .ok (.aload_n 0, 1) := by decide +kernel
theorem dL_law_176 : decode cL_law 176 = .ok (.iload_n 3, 1) := by decide +kernel
theorem dL_law_177 : decode cL_law 177 = .ok (.iconst 3, 1) := by decide +kernel
theorem dL_law_178 : decode cL_law 178 = .ok (.iadd, 1) := by decide +kernel
theorem dL_law_179 : decode cL_law 179 = .ok (.iaload, 1) := by decide +kernel
theorem dL_law_180 : decode cL_law 180 = .ok (.invokevirtual 13, 3) := by decide +kernel
theorem dL_law_183 : decode cL_law 183 = .ok (.pop, 1) := by decide +kernel
theorem dL_law_184 : decode cL_law 184 = .ok (.aload_n 2, 1) := by decide +kernel
theorem dL_law_185 : decode cL_law 185 = .ok (.aload_n 0, 1) := by decide +kernel
theorem dL_law_186 : decode cL_law 186 = .ok (.iload_n 3, 1) := by decide +kernel
theorem dL_law_187 : decode cL_law 187 = .ok (.iconst 1, 1) := by decide +kernel
theorem dL_law_188 : decode cL_law 188 = .ok (.iadd, 1) := by decide +kernel
theorem dL_law_189 : decode cL_law 189 = .ok (.iaload, 1) := by decide +kernel
theorem dL_law_190 : decode cL_law 190 = .ok (.aload_n 0, 1) := by decide +kernel
theorem dL_law_191 : decode cL_law 191 = .ok (.iload_n 3, 1) := by decide +kernel
theorem dL_law_192 : decode cL_law 192 = .ok (.iconst 2, 1) := by decide +kernel
theorem dL_law_193 : decode cL_law 193 = .ok (.iadd, 1) := by decide +kernel
theorem dL_law_194 : decode cL_law 194 = .ok (.iaload, 1) := by decide +kernel
theorem dL_law_195 : decode cL_law 195 = .ok (.aload_n 0, 1) := by decide +kernel
theorem dL_law_196 : decode cL_law 196 = .ok (.iload_n 3, 1) := by decide +kernel
theorem dL_law_197 : decode cL_law 197 = .ok (.iconst 3, 1) := by decide +kernel
theorem dL_law_198 : decode cL_law 198 = .ok (.iadd, 1) := by decide +kernel
theorem dL_law_199 : decode cL_law 199 = .ok (.iaload, 1) := by decide +kernel
theorem dL_law_200 : decode cL_law 200 = .ok (.invokevirtual 17, 3) := by decide +kernel
theorem dL_law_203 : decode cL_law 203 = .ok (.pop, 1) := by decide +kernel
theorem dL_law_204 : decode cL_law 204 = .ok (.goto 793, 3) := by decide +kernel
theorem dL_law_207 : decode cL_law 207 = .ok (.aload_n 1, 1) := by decide +kernel
theorem dL_law_208 : decode cL_law 208 = .ok (.aload_n 0, 1) := by decide +kernel
theorem dL_law_209 : decode cL_law 209 = .ok (.iload_n 3, 1) := by decide +kernel
theorem dL_law_210 : decode cL_law 210 = .ok (.iconst 1, 1) := by decide +kernel
theorem dL_law_211 : decode cL_law 211 = .ok (.iadd, 1) := by decide +kernel
theorem dL_law_212 : decode cL_law 212 = .ok (.iaload, 1) := by decide +kernel
theorem dL_law_213 : decode cL_law 213 = .ok (.aload_n 0, 1) := by decide +kernel
theorem dL_law_214 : decode cL_law 214 = .ok (.iload_n 3, 1) := by decide +kernel
theorem dL_law_215 : decode cL_law 215 = .ok (.iconst 2, 1) := by decide +kernel
theorem dL_law_216 : decode cL_law 216 = .ok (.iadd, 1) := by decide +kernel
theorem dL_law_217 : decode cL_law 217 = .ok (.iaload, 1) := by decide +kernel
theorem dL_law_218 : decode cL_law 218 = .ok (.invokevirtual 18, 3) := by decide +kernel
theorem dL_law_221 : decode cL_law 221 = .ok (.pop, 1) := by decide +kernel
theorem dL_law_222 : decode cL_law 222 = .ok (.aload_n 2, 1) := by decide +kernel
theorem dL_law_223 : decode cL_law 223 = .ok (.aload_n 0, 1) := by decide +kernel
theorem dL_law_224 : decode cL_law 224 = .ok (.iload_n 3, 1) := by decide +kernel
theorem dL_law_225 : decode cL_law 225 = .ok (.iconst 1, 1) := by decide +kernel
theorem dL_law_226 : decode cL_law 226 = .ok (.iadd, 1) := by decide +kernel
theorem dL_law_227 : decode cL_law 227 = .ok (.iaload, 1) := by decide +kernel
theorem dL_law_228 : decode cL_law 228 = .ok (.aload_n 0, 1) := by decide +kernel
theorem dL_law_229 : decode cL_law 229 = .ok (.iload_n 3, 1) := by decide +kernel
theorem dL_law_230 : decode cL_law 230 = .ok (.iconst 2, 1) := by decide +kernel
theorem dL_law_231 : decode cL_law 231 = .ok (.iadd, 1) := by decide +kernel
theorem dL_law_232 : decode cL_law 232 = .ok (.iaload, 1) := by decide +kernel
theorem dL_law_233 : decode cL_law 233 = .ok (.invokevirtual 22, 3) := by decide +kernel
theorem dL_law_236 : decode cL_law 236 = .ok (.pop, 1) := by decide +kernel
theorem dL_law_237 : decode cL_law 237 = .ok (.goto 760, 3) := by decide +kernel
theorem dL_law_240 : decode cL_law 240 = .ok (.aload_n 1, 1) := by decide +kernel
theorem dL_law_241 : decode cL_law 241 = .ok (.aload_n 0, 1) := by decide +kernel
theorem dL_law_242 : decode cL_law 242 = .ok (.iload_n 3, 1) := by decide +kernel
theorem dL_law_243 : decode cL_law 243 = .ok (.iconst 1, 1) := by decide +kernel
theorem dL_law_244 : decode cL_law 244 = .ok (.iadd, 1) := by decide +kernel
theorem dL_law_245 : decode cL_law 245 = .ok (.iaload, 1) := by decide +kernel
theorem dL_law_246 : decode cL_law 246 = .ok (.invokevirtual 23, 3) := by decide +kernel
theorem dL_law_249 : decode cL_law 249 = .ok (.pop, 1) := by decide +kernel
theorem dL_law_250 : decode cL_law 250 = .ok (.aload_n 2, 1) := by decide +kernel
theorem dL_law_251 : decode cL_law 251 = .ok (.aload_n 0, 1) := by decide +kernel
theorem dL_law_252 : decode cL_law 252 = .ok (.iload_n 3, 1) := by decide +kernel
theorem dL_law_253 : decode cL_law 253 = .ok (.iconst 1, 1) := by decide +kernel
theorem dL_law_254 : decode cL_law 254 = .ok (.iadd, 1) := by decide +kernel
theorem dL_law_255 : decode cL_law 255 = .ok (.iaload, 1) := by decide +kernel
theorem dL_law_256 : decode cL_law 256 = .ok (.invokevirtual 27, 3) := by decide +kernel
theorem dL_law_259 : decode cL_law 259 = .ok (.pop, 1) := by decide +kernel
theorem dL_law_260 : decode cL_law 260 = .ok (.goto 737, 3) := by decide +kernel
theorem dL_law_263 : decode cL_law 263 = .ok (.aload_n 1, 1) := by decide +kernel
theorem dL_law_264 : decode cL_law 264 = .ok (.aload_n 0, 1) := by decide +kernel
theorem dL_law_265 : decode cL_law 265 = .ok (.iload_n 3, 1) := by decide +kernel
theorem dL_law_266 : decode cL_law 266 = .ok (.iconst 1, 1) := by decide +kernel
theorem dL_law_267 : decode cL_law 267 = .ok (.iadd, 1) := by decide +kernel
theorem dL_law_268 : decode cL_law 268 = .ok (.iaload, 1) := by decide +kernel
theorem dL_law_269 : decode cL_law 269 = .ok (.aload_n 0, 1) := by decide +kernel
theorem dL_law_270 : decode cL_law 270 = .ok (.iload_n 3, 1) := by decide +kernel
theorem dL_law_271 : decode cL_law 271 = .ok (.iconst 2, 1) := by decide +kernel
theorem dL_law_272 : decode cL_law 272 = .ok (.iadd, 1) := by decide +kernel
theorem dL_law_273 : decode cL_law 273 = .ok (.iaload, 1) := by decide +kernel
theorem dL_law_274 : decode cL_law 274 = .ok (.invokevirtual 28, 3) := by decide +kernel
theorem dL_law_277 : decode cL_law 277 = .ok (.pop, 1) := by decide +kernel
theorem dL_law_278 : decode cL_law 278 = .ok (.aload_n 2, 1) := by decide +kernel
theorem dL_law_279 : decode cL_law 279 = .ok (.aload_n 0, 1) := by decide +kernel
theorem dL_law_280 : decode cL_law 280 = .ok (.iload_n 3, 1) := by decide +kernel
theorem dL_law_281 : decode cL_law 281 = .ok (.iconst 1, 1) := by decide +kernel
theorem dL_law_282 : decode cL_law 282 = .ok (.iadd, 1) := by decide +kernel
theorem dL_law_283 : decode cL_law 283 = .ok (.iaload, 1) := by decide +kernel
theorem dL_law_284 : decode cL_law 284 = .ok (.aload_n 0, 1) := by decide +kernel
theorem dL_law_285 : decode cL_law 285 = .ok (.iload_n 3, 1) := by decide +kernel
theorem dL_law_286 : decode cL_law 286 = .ok (.iconst 2, 1) := by decide +kernel
theorem dL_law_287 : decode cL_law 287 = .ok (.iadd, 1) := by decide +kernel
theorem dL_law_288 : decode cL_law 288 = .ok (.iaload, 1) := by decide +kernel
theorem dL_law_289 : decode cL_law 289 = .ok (.invokevirtual 32, 3) := by decide +kernel
theorem dL_law_292 : decode cL_law 292 = .ok (.pop, 1) := by decide +kernel
theorem dL_law_293 : decode cL_law 293 = .ok (.goto 704, 3) := by decide +kernel
theorem dL_law_296 : decode cL_law 296 = .ok (.aload_n 1, 1) := by decide +kernel
theorem dL_law_297 : decode cL_law 297 = .ok (.aload_n 0, 1) := by decide +kernel
theorem dL_law_298 : decode cL_law 298 = .ok (.iload_n 3, 1) := by decide +kernel
theorem dL_law_299 : decode cL_law 299 = .ok (.iconst 1, 1) := by decide +kernel
theorem dL_law_300 : decode cL_law 300 = .ok (.iadd, 1) := by decide +kernel
theorem dL_law_301 : decode cL_law 301 = .ok (.iaload, 1) := by decide +kernel
theorem dL_law_302 : decode cL_law 302 = .ok (.aload_n 0, 1) := by decide +kernel
theorem dL_law_303 : decode cL_law 303 = .ok (.iload_n 3, 1) := by decide +kernel
theorem dL_law_304 : decode cL_law 304 = .ok (.iconst 2, 1) := by decide +kernel
theorem dL_law_305 : decode cL_law 305 = .ok (.iadd, 1) := by decide +kernel
theorem dL_law_306 : decode cL_law 306 = .ok (.iaload, 1) := by decide +kernel
theorem dL_law_307 : decode cL_law 307 = .ok (.invokevirtual 33, 3) := by decide +kernel
theorem dL_law_310 : decode cL_law 310 = .ok (.pop, 1) := by decide +kernel
theorem dL_law_311 : decode cL_law 311 = .ok (.aload_n 2, 1) := by decide +kernel
theorem dL_law_312 : decode cL_law 312 = .ok (.aload_n 0, 1) := by decide +kernel
theorem dL_law_313 : decode cL_law 313 = .ok (.iload_n 3, 1) := by decide +kernel
theorem dL_law_314 : decode cL_law 314 = .ok (.iconst 1, 1) := by decide +kernel
theorem dL_law_315 : decode cL_law 315 = .ok (.iadd, 1) := by decide +kernel
theorem dL_law_316 : decode cL_law 316 = .ok (.iaload, 1) := by decide +kernel
theorem dL_law_317 : decode cL_law 317 = .ok (.aload_n 0, 1) := by decide +kernel
theorem dL_law_318 : decode cL_law 318 = .ok (.iload_n 3, 1) := by decide +kernel
theorem dL_law_319 : decode cL_law 319 = .ok (.iconst 2, 1) := by decide +kernel
theorem dL_law_320 : decode cL_law 320 = .ok (.iadd, 1) := by decide +kernel
theorem dL_law_321 : decode cL_law 321 = .ok (.iaload, 1) := by decide +kernel
theorem dL_law_322 : decode cL_law 322 = .ok (.invokevirtual 36, 3) := by decide +kernel
theorem dL_law_325 : decode cL_law 325 = .ok (.pop, 1) := by decide +kernel
theorem dL_law_326 : decode cL_law 326 = .ok (.goto 671, 3) := by decide +kernel
theorem dL_law_329 : decode cL_law 329 = .ok (.aload_n 1, 1) := by decide +kernel
theorem dL_law_330 : decode cL_law 330 = .ok (.aload_n 0, 1) := by decide +kernel
theorem dL_law_331 : decode cL_law 331 = .ok (.iload_n 3, 1) := by decide +kernel
theorem dL_law_332 : decode cL_law 332 = .ok (.iconst 1, 1) := by decide +kernel
theorem dL_law_333 : decode cL_law 333 = .ok (.iadd, 1) := by decide +kernel
theorem dL_law_334 : decode cL_law 334 = .ok (.iaload, 1) := by decide +kernel
theorem dL_law_335 : decode cL_law 335 = .ok (.aload_n 0, 1) := by decide +kernel
theorem dL_law_336 : decode cL_law 336 = .ok (.iload_n 3, 1) := by decide +kernel
theorem dL_law_337 : decode cL_law 337 = .ok (.iconst 2, 1) := by decide +kernel
theorem dL_law_338 : decode cL_law 338 = .ok (.iadd, 1) := by decide +kernel
theorem dL_law_339 : decode cL_law 339 = .ok (.iaload, 1) := by decide +kernel
theorem dL_law_340 : decode cL_law 340 = .ok (.invokevirtual 37, 3) := by decide +kernel
theorem dL_law_343 : decode cL_law 343 = .ok (.pop, 1) := by decide +kernel
theorem dL_law_344 : decode cL_law 344 = .ok (.aload_n 2, 1) := by decide +kernel
theorem dL_law_345 : decode cL_law 345 = .ok (.aload_n 0, 1) := by decide +kernel
theorem dL_law_346 : decode cL_law 346 = .ok (.iload_n 3, 1) := by decide +kernel
theorem dL_law_347 : decode cL_law 347 = .ok (.iconst 1, 1) := by decide +kernel
theorem dL_law_348 : decode cL_law 348 = .ok (.iadd, 1) := by decide +kernel
theorem dL_law_349 : decode cL_law 349 = .ok (.iaload, 1) := by decide +kernel
theorem dL_law_350 : decode cL_law 350 = .ok (.aload_n 0, 1) := by decide +kernel
theorem dL_law_351 : decode cL_law 351 = .ok (.iload_n 3, 1) := by decide +kernel
theorem dL_law_352 : decode cL_law 352 = .ok (.iconst 2, 1) := by decide +kernel
theorem dL_law_353 : decode cL_law 353 = .ok (.iadd, 1) := by decide +kernel
theorem dL_law_354 : decode cL_law 354 = .ok (.iaload, 1) := by decide +kernel
theorem dL_law_355 : decode cL_law 355 = .ok (.invokevirtual 40, 3) := by decide +kernel
theorem dL_law_358 : decode cL_law 358 = .ok (.pop, 1) := by decide +kernel
theorem dL_law_359 : decode cL_law 359 = .ok (.goto 638, 3) := by decide +kernel
theorem dL_law_362 : decode cL_law 362 = .ok (.aload_n 1, 1) := by decide +kernel
theorem dL_law_363 : decode cL_law 363 = .ok (.aload_n 0, 1) := by decide +kernel
theorem dL_law_364 : decode cL_law 364 = .ok (.iload_n 3, 1) := by decide +kernel
theorem dL_law_365 : decode cL_law 365 = .ok (.iconst 1, 1) := by decide +kernel
theorem dL_law_366 : decode cL_law 366 = .ok (.iadd, 1) := by decide +kernel
theorem dL_law_367 : decode cL_law 367 = .ok (.iaload, 1) := by decide +kernel
theorem dL_law_368 : decode cL_law 368 = .ok (.aload_n 0, 1) := by decide +kernel
theorem dL_law_369 : decode cL_law 369 = .ok (.iload_n 3, 1) := by decide +kernel
theorem dL_law_370 : decode cL_law 370 = .ok (.iconst 2, 1) := by decide +kernel
theorem dL_law_371 : decode cL_law 371 = .ok (.iadd, 1) := by decide +kernel
theorem dL_law_372 : decode cL_law 372 = .ok (.iaload, 1) := by decide +kernel
theorem dL_law_373 : decode cL_law 373 = .ok (.aload_n 0, 1) := by decide +kernel
theorem dL_law_374 : decode cL_law 374 = .ok (.iload_n 3, 1) := by decide +kernel
theorem dL_law_375 : decode cL_law 375 = .ok (.iconst 3, 1) := by decide +kernel
theorem dL_law_376 : decode cL_law 376 = .ok (.iadd, 1) := by decide +kernel
theorem dL_law_377 : decode cL_law 377 = .ok (.iaload, 1) := by decide +kernel
theorem dL_law_378 : decode cL_law 378 = .ok (.aload_n 0, 1) := by decide +kernel
theorem dL_law_379 : decode cL_law 379 = .ok (.iload_n 3, 1) := by decide +kernel
theorem dL_law_380 : decode cL_law 380 = .ok (.iconst 4, 1) := by decide +kernel
theorem dL_law_381 : decode cL_law 381 = .ok (.iadd, 1) := by decide +kernel
theorem dL_law_382 : decode cL_law 382 = .ok (.iaload, 1) := by decide +kernel
theorem dL_law_383 : decode cL_law 383 = .ok (.aload_n 0, 1) := by decide +kernel
theorem dL_law_384 : decode cL_law 384 = .ok (.iload_n 3, 1) := by decide +kernel
theorem dL_law_385 : decode cL_law 385 = .ok (.iconst 5, 1) := by decide +kernel
theorem dL_law_386 : decode cL_law 386 = .ok (.iadd, 1) := by decide +kernel
theorem dL_law_387 : decode cL_law 387 = .ok (.iaload, 1) := by decide +kernel
theorem dL_law_388 : decode cL_law 388 = .ok (.invokevirtual 41, 3) := by decide +kernel
theorem dL_law_391 : decode cL_law 391 = .ok (.pop, 1) := by decide +kernel
theorem dL_law_392 : decode cL_law 392 = .ok (.aload_n 2, 1) := by decide +kernel
theorem dL_law_393 : decode cL_law 393 = .ok (.aload_n 0, 1) := by decide +kernel
theorem dL_law_394 : decode cL_law 394 = .ok (.iload_n 3, 1) := by decide +kernel
theorem dL_law_395 : decode cL_law 395 = .ok (.iconst 1, 1) := by decide +kernel
theorem dL_law_396 : decode cL_law 396 = .ok (.iadd, 1) := by decide +kernel
theorem dL_law_397 : decode cL_law 397 = .ok (.iaload, 1) := by decide +kernel
theorem dL_law_398 : decode cL_law 398 = .ok (.aload_n 0, 1) := by decide +kernel
theorem dL_law_399 : decode cL_law 399 = .ok (.iload_n 3, 1) := by decide +kernel
theorem dL_law_400 : decode cL_law 400 = .ok (.iconst 2, 1) := by decide +kernel
theorem dL_law_401 : decode cL_law 401 = .ok (.iadd, 1) := by decide +kernel
theorem dL_law_402 : decode cL_law 402 = .ok (.iaload, 1) := by decide +kernel
theorem dL_law_403 : decode cL_law 403 = .ok (.aload_n 0, 1) := by decide +kernel
theorem dL_law_404 : decode cL_law 404 = .ok (.iload_n 3, 1) := by decide +kernel
theorem dL_law_405 : decode cL_law 405 = .ok (.iconst 3, 1) := by decide +kernel
theorem dL_law_406 : decode cL_law 406 = .ok (.iadd, 1) := by decide +kernel
theorem dL_law_407 : decode cL_law 407 = .ok (.iaload, 1) := by decide +kernel
theorem dL_law_408 : decode cL_law 408 = .ok (.aload_n 0, 1) := by decide +kernel
theorem dL_law_409 : decode cL_law 409 = .ok (.iload_n 3, 1) := by decide +kernel
theorem dL_law_410 : decode cL_law 410 = .ok (.iconst 4, 1) := by decide +kernel
theorem dL_law_411 : decode cL_law 411 = .ok (.iadd, 1) := by decide +kernel
theorem dL_law_412 : decode cL_law 412 = .ok (.iaload, 1) := by decide +kernel
theorem dL_law_413 : decode cL_law 413 = .ok (.aload_n 0, 1) := by decide +kernel
theorem dL_law_414 : decode cL_law 414 = .ok (.iload_n 3, 1) := by decide +kernel
theorem dL_law_415 : decode cL_law 415 = .ok (.iconst 5, 1) := by decide +kernel
theorem dL_law_416 : decode cL_law 416 = .ok (.iadd, 1) := by decide +kernel
theorem dL_law_417 : decode cL_law 417 = .ok (.iaload, 1) := by decide +kernel
theorem dL_law_418 : decode cL_law 418 = .ok (.invokevirtual 45, 3) := by decide +kernel
theorem dL_law_421 : decode cL_law 421 = .ok (.pop, 1) := by decide +kernel
theorem dL_law_422 : decode cL_law 422 = .ok (.goto 575, 3) := by decide +kernel
theorem dL_law_425 : decode cL_law 425 = .ok (.aload_n 1, 1) := by decide +kernel
theorem dL_law_426 : decode cL_law 426 = .ok (.aload_n 0, 1) := by decide +kernel
theorem dL_law_427 : decode cL_law 427 = .ok (.iload_n 3, 1) := by decide +kernel
theorem dL_law_428 : decode cL_law 428 = .ok (.iconst 1, 1) := by decide +kernel
theorem dL_law_429 : decode cL_law 429 = .ok (.iadd, 1) := by decide +kernel
theorem dL_law_430 : decode cL_law 430 = .ok (.iaload, 1) := by decide +kernel
theorem dL_law_431 : decode cL_law 431 = .ok (.invokevirtual 46, 3) := by decide +kernel
theorem dL_law_434 : decode cL_law 434 = .ok (.pop, 1) := by decide +kernel
theorem dL_law_435 : decode cL_law 435 = .ok (.aload_n 2, 1) := by decide +kernel
theorem dL_law_436 : decode cL_law 436 = .ok (.aload_n 0, 1) := by decide +kernel
theorem dL_law_437 : decode cL_law 437 = .ok (.iload_n 3, 1) := by decide +kernel
theorem dL_law_438 : decode cL_law 438 = .ok (.iconst 1, 1) := by decide +kernel
theorem dL_law_439 : decode cL_law 439 = .ok (.iadd, 1) := by decide +kernel
theorem dL_law_440 : decode cL_law 440 = .ok (.iaload, 1) := by decide +kernel
theorem dL_law_441 : decode cL_law 441 = .ok (.invokevirtual 49, 3) := by decide +kernel
theorem dL_law_444 : decode cL_law 444 = .ok (.pop, 1) := by decide +kernel
theorem dL_law_445 : decode cL_law 445 = .ok (.goto 552, 3) := by decide +kernel
theorem dL_law_448 : decode cL_law 448 = .ok (.aload_n 1, 1) := by decide +kernel
theorem dL_law_449 : decode cL_law 449 = .ok (.invokevirtual 50, 3) := by decide +kernel
theorem dL_law_452 : decode cL_law 452 = .ok (.pop, 1) := by decide +kernel
theorem dL_law_453 : decode cL_law 453 = .ok (.aload_n 2, 1) := by decide +kernel
theorem dL_law_454 : decode cL_law 454 = .ok (.invokevirtual 54, 3) := by decide +kernel
theorem dL_law_457 : decode cL_law 457 = .ok (.pop, 1) := by decide +kernel
theorem dL_law_458 : decode cL_law 458 = .ok (.goto 539, 3) := by decide +kernel
theorem dL_law_461 : decode cL_law 461 = .ok (.aload_n 1, 1) := by decide +kernel
theorem dL_law_462 : decode cL_law 462 = .ok (.aload_n 0, 1) := by decide +kernel
theorem dL_law_463 : decode cL_law 463 = .ok (.iload_n 3, 1) := by decide +kernel
theorem dL_law_464 : decode cL_law 464 = .ok (.iconst 1, 1) := by decide +kernel
theorem dL_law_465 : decode cL_law 465 = .ok (.iadd, 1) := by decide +kernel
theorem dL_law_466 : decode cL_law 466 = .ok (.iaload, 1) := by decide +kernel
theorem dL_law_467 : decode cL_law 467 = .ok (.invokevirtual 55, 3) := by decide +kernel
theorem dL_law_470 : decode cL_law 470 = .ok (.pop, 1) := by decide +kernel
theorem dL_law_471 : decode cL_law 471 = .ok (.aload_n 2, 1) := by decide +kernel
theorem dL_law_472 : decode cL_law 472 = .ok (.aload_n 0, 1) := by decide +kernel
theorem dL_law_473 : decode cL_law 473 = .ok (.iload_n 3, 1) := by decide +kernel
theorem dL_law_474 : decode cL_law 474 = .ok (.iconst 1, 1) := by decide +kernel
theorem dL_law_475 : decode cL_law 475 = .ok (.iadd, 1) := by decide +kernel
theorem dL_law_476 : decode cL_law 476 = .ok (.iaload, 1) := by decide +kernel
theorem dL_law_477 : decode cL_law 477 = .ok (.invokevirtual 58, 3) := by decide +kernel
theorem dL_law_480 : decode cL_law 480 = .ok (.pop, 1) := by decide +kernel
theorem dL_law_481 : decode cL_law 481 = .ok (.goto 516, 3) := by decide +kernel
theorem dL_law_484 : decode cL_law 484 = .ok (.aload_n 1, 1) := by decide +kernel
theorem dL_law_485 : decode cL_law 485 = .ok (.aload_n 0, 1) := by decide +kernel
theorem dL_law_486 : decode cL_law 486 = .ok (.iload_n 3, 1) := by decide +kernel
theorem dL_law_487 : decode cL_law 487 = .ok (.iconst 1, 1) := by decide +kernel
theorem dL_law_488 : decode cL_law 488 = .ok (.iadd, 1) := by decide +kernel
theorem dL_law_489 : decode cL_law 489 = .ok (.iaload, 1) := by decide +kernel
theorem dL_law_490 : decode cL_law 490 = .ok (.invokevirtual 59, 3) := by decide +kernel
theorem dL_law_493 : decode cL_law 493 = .ok (.aload_n 2, 1) := by decide +kernel
theorem dL_law_494 : decode cL_law 494 = .ok (.aload_n 0, 1) := by decide +kernel
theorem dL_law_495 : decode cL_law 495 = .ok (.iload_n 3, 1) := by decide +kernel
theorem dL_law_496 : decode cL_law 496 = .ok (.iconst 1, 1) := by decide +kernel
theorem dL_law_497 : decode cL_law 497 = .ok (.iadd, 1) := by decide +kernel
theorem dL_law_498 : decode cL_law 498 = .ok (.iaload, 1) := by decide +kernel
theorem dL_law_499 : decode cL_law 499 = .ok (.invokevirtual 63, 3) := by decide +kernel
theorem dL_law_502 : decode cL_law 502 = .ok (.if_icmp .eq 495, 3) := by decide +kernel
theorem dL_law_505 : decode cL_law 505 = .ok (.iconst 0, 1) := by decide +kernel
theorem dL_law_506 : decode cL_law 506 = .ok (.ireturn, 1) := by decide +kernel
theorem dL_law_507 : decode cL_law 507 = .ok (.aload_n 1, 1) := by decide +kernel
theorem dL_law_508 : decode cL_law 508 = .ok (.aload_n 0, 1) := by decide +kernel
theorem dL_law_509 : decode cL_law 509 = .ok (.iload_n 3, 1) := by decide +kernel
theorem dL_law_510 : decode cL_law 510 = .ok (.iconst 1, 1) := by decide +kernel
theorem dL_law_511 : decode cL_law 511 = .ok (.iadd, 1) := by decide +kernel
theorem dL_law_512 : decode cL_law 512 = .ok (.iaload, 1) := by decide +kernel
theorem dL_law_513 : decode cL_law 513 = .ok (.invokevirtual 64, 3) := by decide +kernel
theorem dL_law_516 : decode cL_law 516 = .ok (.pop, 1) := by decide +kernel
theorem dL_law_517 : decode cL_law 517 = .ok (.aload_n 2, 1) := by decide +kernel
theorem dL_law_518 : decode cL_law 518 = .ok (.aload_n 0, 1) := by decide +kernel
theorem dL_law_519 : decode cL_law 519 = .ok (.iload_n 3, 1) := by decide +kernel
theorem dL_law_520 : decode cL_law 520 = .ok (.iconst 1, 1) := by decide +kernel
theorem dL_law_521 : decode cL_law 521 = .ok (.iadd, 1) := by decide +kernel
theorem dL_law_522 : decode cL_law 522 = .ok (.iaload, 1) := by decide +kernel
theorem dL_law_523 : decode cL_law 523 = .ok (.invokevirtual 67, 3) := by decide +kernel
theorem dL_law_526 : decode cL_law 526 = .ok (.pop, 1) := by decide +kernel
theorem dL_law_527 : decode cL_law 527 = .ok (.goto 470, 3) := by decide +kernel
theorem dL_law_530 : decode cL_law 530 = .ok (.aload_n 1, 1) := by decide +kernel
theorem dL_law_531 : decode cL_law 531 = .ok (.aload_n 0, 1) := by decide +kernel
theorem dL_law_532 : decode cL_law 532 = .ok (.iload_n 3, 1) := by decide +kernel
theorem dL_law_533 : decode cL_law 533 = .ok (.iconst 1, 1) := by decide +kernel
theorem dL_law_534 : decode cL_law 534 = .ok (.iadd, 1) := by decide +kernel
theorem dL_law_535 : decode cL_law 535 = .ok (.iaload, 1) := by decide +kernel
theorem dL_law_536 : decode cL_law 536 = .ok (.aload_n 0, 1) := by decide +kernel
theorem dL_law_537 : decode cL_law 537 = .ok (.iload_n 3, 1) := by decide +kernel
theorem dL_law_538 : decode cL_law 538 = .ok (.iconst 2, 1) := by decide +kernel
theorem dL_law_539 : decode cL_law 539 = .ok (.iadd, 1) := by decide +kernel
theorem dL_law_540 : decode cL_law 540 = .ok (.iaload, 1) := by decide +kernel
theorem dL_law_541 : decode cL_law 541 = .ok (.aload_n 0, 1) := by decide +kernel
theorem dL_law_542 : decode cL_law 542 = .ok (.iload_n 3, 1) := by decide +kernel
theorem dL_law_543 : decode cL_law 543 = .ok (.iconst 3, 1) := by decide +kernel
theorem dL_law_544 : decode cL_law 544 = .ok (.iadd, 1) := by decide +kernel
theorem dL_law_545 : decode cL_law 545 = .ok (.iaload, 1) := by decide +kernel
theorem dL_law_546 : decode cL_law 546 = .ok (.invokevirtual 68, 3) := by decide +kernel
theorem dL_law_549 : decode cL_law 549 = .ok (.pop, 1) := by decide +kernel
theorem dL_law_550 : decode cL_law 550 = .ok (.aload_n 2, 1) := by decide +kernel
theorem dL_law_551 : decode cL_law 551 = .ok (.aload_n 0, 1) := by decide +kernel
theorem dL_law_552 : decode cL_law 552 = .ok (.iload_n 3, 1) := by decide +kernel
theorem dL_law_553 : decode cL_law 553 = .ok (.iconst 1, 1) := by decide +kernel
theorem dL_law_554 : decode cL_law 554 = .ok (.iadd, 1) := by decide +kernel
theorem dL_law_555 : decode cL_law 555 = .ok (.iaload, 1) := by decide +kernel
theorem dL_law_556 : decode cL_law 556 = .ok (.aload_n 0, 1) := by decide +kernel
theorem dL_law_557 : decode cL_law 557 = .ok (.iload_n 3, 1) := by decide +kernel
theorem dL_law_558 : decode cL_law 558 = .ok (.iconst 2, 1) := by decide +kernel
theorem dL_law_559 : decode cL_law 559 = .ok (.iadd, 1) := by decide +kernel
theorem dL_law_560 : decode cL_law 560 = .ok (.iaload, 1) := by decide +kernel
theorem dL_law_561 : decode cL_law 561 = .ok (.aload_n 0, 1) := by decide +kernel
theorem dL_law_562 : decode cL_law 562 = .ok (.iload_n 3, 1) := by decide +kernel
theorem dL_law_563 : decode cL_law 563 = .ok (.iconst 3, 1) := by decide +kernel
theorem dL_law_564 : decode cL_law 564 = .ok (.iadd, 1) := by decide +kernel
theorem dL_law_565 : decode cL_law 565 = .ok (.iaload, 1) := by decide +kernel
theorem dL_law_566 : decode cL_law 566 = .ok (.invokevirtual 72, 3) := by decide +kernel
theorem dL_law_569 : decode cL_law 569 = .ok (.pop, 1) := by decide +kernel
theorem dL_law_570 : decode cL_law 570 = .ok (.goto 427, 3) := by decide +kernel
theorem dL_law_573 : decode cL_law 573 = .ok (.aload_n 1, 1) := by decide +kernel
theorem dL_law_574 : decode cL_law 574 = .ok (.aload_n 0, 1) := by decide +kernel
theorem dL_law_575 : decode cL_law 575 = .ok (.iload_n 3, 1) := by decide +kernel
theorem dL_law_576 : decode cL_law 576 = .ok (.iconst 1, 1) := by decide +kernel
theorem dL_law_577 : decode cL_law 577 = .ok (.iadd, 1) := by decide +kernel
theorem dL_law_578 : decode cL_law 578 = .ok (.iaload, 1) := by decide +kernel
theorem dL_law_579 : decode cL_law 579 = .ok (.invokevirtual 73, 3) := by decide +kernel
theorem dL_law_582 : decode cL_law 582 = .ok (.pop, 1) := by decide +kernel
theorem dL_law_583 : decode cL_law 583 = .ok (.aload_n 2, 1) := by decide +kernel
theorem dL_law_584 : decode cL_law 584 = .ok (.aload_n 0, 1) := by decide +kernel
theorem dL_law_585 : decode cL_law 585 = .ok (.iload_n 3, 1) := by decide +kernel
theorem dL_law_586 : decode cL_law 586 = .ok (.iconst 1, 1) := by decide +kernel
theorem dL_law_587 : decode cL_law 587 = .ok (.iadd, 1) := by decide +kernel
theorem dL_law_588 : decode cL_law 588 = .ok (.iaload, 1) := by decide +kernel
theorem dL_law_589 : decode cL_law 589 = .ok (.invokevirtual 76, 3) := by decide +kernel
theorem dL_law_592 : decode cL_law 592 = .ok (.pop, 1) := by decide +kernel
theorem dL_law_593 : decode cL_law 593 = .ok (.goto 404, 3) := by decide +kernel
theorem dL_law_596 : decode cL_law 596 = .ok (.aload_n 1, 1) := by decide +kernel
theorem dL_law_597 : decode cL_law 597 = .ok (.aload_n 0, 1) := by decide +kernel
theorem dL_law_598 : decode cL_law 598 = .ok (.iload_n 3, 1) := by decide +kernel
theorem dL_law_599 : decode cL_law 599 = .ok (.iconst 1, 1) := by decide +kernel
theorem dL_law_600 : decode cL_law 600 = .ok (.iadd, 1) := by decide +kernel
theorem dL_law_601 : decode cL_law 601 = .ok (.iaload, 1) := by decide +kernel
theorem dL_law_602 : decode cL_law 602 = .ok (.invokevirtual 77, 3) := by decide +kernel
theorem dL_law_605 : decode cL_law 605 = .ok (.pop, 1) := by decide +kernel
theorem dL_law_606 : decode cL_law 606 = .ok (.aload_n 2, 1) := by decide +kernel
theorem dL_law_607 : decode cL_law 607 = .ok (.aload_n 0, 1) := by decide +kernel
theorem dL_law_608 : decode cL_law 608 = .ok (.iload_n 3, 1) := by decide +kernel
theorem dL_law_609 : decode cL_law 609 = .ok (.iconst 1, 1) := by decide +kernel
theorem dL_law_610 : decode cL_law 610 = .ok (.iadd, 1) := by decide +kernel
theorem dL_law_611 : decode cL_law 611 = .ok (.iaload, 1) := by decide +kernel
theorem dL_law_612 : decode cL_law 612 = .ok (.invokevirtual 80, 3) := by decide +kernel
theorem dL_law_615 : decode cL_law 615 = .ok (.pop, 1) := by decide +kernel
theorem dL_law_616 : decode cL_law 616 = .ok (.goto 381, 3) := by decide +kernel
theorem dL_law_619 : decode cL_law 619 = .ok (.aload_n 1, 1) := by decide +kernel
theorem dL_law_620 : decode cL_law 620 = .ok (.aload_n 0, 1) := by decide +kernel
theorem dL_law_621 : decode cL_law 621 = .ok (.iload_n 3, 1) := by decide +kernel
theorem dL_law_622 : decode cL_law 622 = .ok (.iconst 1, 1) := by decide +kernel
theorem dL_law_623 : decode cL_law 623 = .ok (.iadd, 1) := by decide +kernel
theorem dL_law_624 : decode cL_law 624 = .ok (.iaload, 1) := by decide +kernel
theorem dL_law_625 : decode cL_law 625 = .ok (.invokevirtual 81, 3) := by decide +kernel
theorem dL_law_628 : decode cL_law 628 = .ok (.pop, 1) := by decide +kernel
theorem dL_law_629 : decode cL_law 629 = .ok (.aload_n 2, 1) := by decide +kernel
theorem dL_law_630 : decode cL_law 630 = .ok (.aload_n 0, 1) := by decide +kernel
theorem dL_law_631 : decode cL_law 631 = .ok (.iload_n 3, 1) := by decide +kernel
theorem dL_law_632 : decode cL_law 632 = .ok (.iconst 1, 1) := by decide +kernel
theorem dL_law_633 : decode cL_law 633 = .ok (.iadd, 1) := by decide +kernel
theorem dL_law_634 : decode cL_law 634 = .ok (.iaload, 1) := by decide +kernel
theorem dL_law_635 : decode cL_law 635 = .ok (.invokevirtual 84, 3) := by decide +kernel
theorem dL_law_638 : decode cL_law 638 = .ok (.pop, 1) := by decide +kernel
theorem dL_law_639 : decode cL_law 639 = .ok (.goto 358, 3) := by decide +kernel
theorem dL_law_642 : decode cL_law 642 = .ok (.aload_n 1, 1) := by decide +kernel
theorem dL_law_643 : decode cL_law 643 = .ok (.invokevirtual 85, 3) := by decide +kernel
theorem dL_law_646 : decode cL_law 646 = .ok (.pop, 1) := by decide +kernel
theorem dL_law_647 : decode cL_law 647 = .ok (.aload_n 2, 1) := by decide +kernel
theorem dL_law_648 : decode cL_law 648 = .ok (.invokevirtual 88, 3) := by decide +kernel
theorem dL_law_651 : decode cL_law 651 = .ok (.pop, 1) := by decide +kernel
theorem dL_law_652 : decode cL_law 652 = .ok (.goto 345, 3) := by decide +kernel
theorem dL_law_655 : decode cL_law 655 = .ok (.aload_n 1, 1) := by decide +kernel
theorem dL_law_656 : decode cL_law 656 = .ok (.aload_n 0, 1) := by decide +kernel
theorem dL_law_657 : decode cL_law 657 = .ok (.iload_n 3, 1) := by decide +kernel
theorem dL_law_658 : decode cL_law 658 = .ok (.iconst 1, 1) := by decide +kernel
theorem dL_law_659 : decode cL_law 659 = .ok (.iadd, 1) := by decide +kernel
theorem dL_law_660 : decode cL_law 660 = .ok (.iaload, 1) := by decide +kernel
theorem dL_law_661 : decode cL_law 661 = .ok (.invokevirtual 89, 3) := by decide +kernel
theorem dL_law_664 : decode cL_law 664 = .ok (.pop, 1) := by decide +kernel
theorem dL_law_665 : decode cL_law 665 = .ok (.aload_n 2, 1) := by decide +kernel
theorem dL_law_666 : decode cL_law 666 = .ok (.aload_n 0, 1) := by decide +kernel
theorem dL_law_667 : decode cL_law 667 = .ok (.iload_n 3, 1) := by decide +kernel
theorem dL_law_668 : decode cL_law 668 = .ok (.iconst 1, 1) := by decide +kernel
theorem dL_law_669 : decode cL_law 669 = .ok (.iadd, 1) := by decide +kernel
theorem dL_law_670 : decode cL_law 670 = .ok (.iaload, 1) := by decide +kernel
theorem dL_law_671 : decode cL_law 671 = .ok (.invokevirtual 92, 3) := by decide +kernel
theorem dL_law_674 : decode cL_law 674 = .ok (.pop, 1) := by decide +kernel
theorem dL_law_675 : decode cL_law 675 = .ok (.goto 322, 3) := by decide +kernel
theorem dL_law_678 : decode cL_law 678 = .ok (.aload_n 1, 1) := by decide +kernel
theorem dL_law_679 : decode cL_law 679 = .ok (.aload_n 0, 1) := by decide +kernel
theorem dL_law_680 : decode cL_law 680 = .ok (.iload_n 3, 1) := by decide +kernel
theorem dL_law_681 : decode cL_law 681 = .ok (.iconst 1, 1) := by decide +kernel
theorem dL_law_682 : decode cL_law 682 = .ok (.iadd, 1) := by decide +kernel
theorem dL_law_683 : decode cL_law 683 = .ok (.iaload, 1) := by decide +kernel
theorem dL_law_684 : decode cL_law 684 = .ok (.aload_n 0, 1) := by decide +kernel
theorem dL_law_685 : decode cL_law 685 = .ok (.iload_n 3, 1) := by decide +kernel
theorem dL_law_686 : decode cL_law 686 = .ok (.iconst 2, 1) := by decide +kernel
theorem dL_law_687 : decode cL_law 687 = .ok (.iadd, 1) := by decide +kernel
theorem dL_law_688 : decode cL_law 688 = .ok (.iaload, 1) := by decide +kernel
theorem dL_law_689 : decode cL_law 689 = .ok (.aload_n 0, 1) := by decide +kernel
theorem dL_law_690 : decode cL_law 690 = .ok (.iload_n 3, 1) := by decide +kernel
theorem dL_law_691 : decode cL_law 691 = .ok (.iconst 3, 1) := by decide +kernel
theorem dL_law_692 : decode cL_law 692 = .ok (.iadd, 1) := by decide +kernel
theorem dL_law_693 : decode cL_law 693 = .ok (.iaload, 1) := by decide +kernel
theorem dL_law_694 : decode cL_law 694 = .ok (.invokevirtual 93, 3) := by decide +kernel
theorem dL_law_697 : decode cL_law 697 = .ok (.pop, 1) := by decide +kernel
theorem dL_law_698 : decode cL_law 698 = .ok (.aload_n 2, 1) := by decide +kernel
theorem dL_law_699 : decode cL_law 699 = .ok (.aload_n 0, 1) := by decide +kernel
theorem dL_law_700 : decode cL_law 700 = .ok (.iload_n 3, 1) := by decide +kernel
theorem dL_law_701 : decode cL_law 701 = .ok (.iconst 1, 1) := by decide +kernel
theorem dL_law_702 : decode cL_law 702 = .ok (.iadd, 1) := by decide +kernel
theorem dL_law_703 : decode cL_law 703 = .ok (.iaload, 1) := by decide +kernel
theorem dL_law_704 : decode cL_law 704 = .ok (.aload_n 0, 1) := by decide +kernel
theorem dL_law_705 : decode cL_law 705 = .ok (.iload_n 3, 1) := by decide +kernel
theorem dL_law_706 : decode cL_law 706 = .ok (.iconst 2, 1) := by decide +kernel
theorem dL_law_707 : decode cL_law 707 = .ok (.iadd, 1) := by decide +kernel
theorem dL_law_708 : decode cL_law 708 = .ok (.iaload, 1) := by decide +kernel
theorem dL_law_709 : decode cL_law 709 = .ok (.aload_n 0, 1) := by decide +kernel
theorem dL_law_710 : decode cL_law 710 = .ok (.iload_n 3, 1) := by decide +kernel
theorem dL_law_711 : decode cL_law 711 = .ok (.iconst 3, 1) := by decide +kernel
theorem dL_law_712 : decode cL_law 712 = .ok (.iadd, 1) := by decide +kernel
theorem dL_law_713 : decode cL_law 713 = .ok (.iaload, 1) := by decide +kernel
theorem dL_law_714 : decode cL_law 714 = .ok (.invokevirtual 96, 3) := by decide +kernel
theorem dL_law_717 : decode cL_law 717 = .ok (.pop, 1) := by decide +kernel
theorem dL_law_718 : decode cL_law 718 = .ok (.goto 279, 3) := by decide +kernel
theorem dL_law_721 : decode cL_law 721 = .ok (.aload_n 1, 1) := by decide +kernel
theorem dL_law_722 : decode cL_law 722 = .ok (.aload_n 0, 1) := by decide +kernel
theorem dL_law_723 : decode cL_law 723 = .ok (.iload_n 3, 1) := by decide +kernel
theorem dL_law_724 : decode cL_law 724 = .ok (.iconst 1, 1) := by decide +kernel
theorem dL_law_725 : decode cL_law 725 = .ok (.iadd, 1) := by decide +kernel
theorem dL_law_726 : decode cL_law 726 = .ok (.iaload, 1) := by decide +kernel
theorem dL_law_727 : decode cL_law 727 = .ok (.aload_n 0, 1) := by decide +kernel
theorem dL_law_728 : decode cL_law 728 = .ok (.iload_n 3, 1) := by decide +kernel
theorem dL_law_729 : decode cL_law 729 = .ok (.iconst 2, 1) := by decide +kernel
theorem dL_law_730 : decode cL_law 730 = .ok (.iadd, 1) := by decide +kernel
theorem dL_law_731 : decode cL_law 731 = .ok (.iaload, 1) := by decide +kernel
theorem dL_law_732 : decode cL_law 732 = .ok (.aload_n 0, 1) := by decide +kernel
theorem dL_law_733 : decode cL_law 733 = .ok (.iload_n 3, 1) := by decide +kernel
theorem dL_law_734 : decode cL_law 734 = .ok (.iconst 3, 1) := by decide +kernel
theorem dL_law_735 : decode cL_law 735 = .ok (.iadd, 1) := by decide +kernel
theorem dL_law_736 : decode cL_law 736 = .ok (.iaload, 1) := by decide +kernel
theorem dL_law_737 : decode cL_law 737 = .ok (.ifCond .eq 7, 3) := by decide +kernel
theorem dL_law_740 : decode cL_law 740 = .ok (.iconst 1, 1) := by decide +kernel
theorem dL_law_741 : decode cL_law 741 = .ok (.goto 4, 3) := by decide +kernel
theorem dL_law_744 : decode cL_law 744 = .ok (.iconst 0, 1) := by decide +kernel
theorem dL_law_745 : decode cL_law 745 = .ok (.invokevirtual 97, 3) := by decide +kernel
theorem dL_law_748 : decode cL_law 748 = .ok (.pop, 1) := by decide +kernel
theorem dL_law_749 : decode cL_law 749 = .ok (.aload_n 2, 1) := by decide +kernel
theorem dL_law_750 : decode cL_law 750 = .ok (.aload_n 0, 1) := by decide +kernel
theorem dL_law_751 : decode cL_law 751 = .ok (.iload_n 3, 1) := by decide +kernel
theorem dL_law_752 : decode cL_law 752 = .ok (.iconst 1, 1) := by decide +kernel
theorem dL_law_753 : decode cL_law 753 = .ok (.iadd, 1) := by decide +kernel
theorem dL_law_754 : decode cL_law 754 = .ok (.iaload, 1) := by decide +kernel
theorem dL_law_755 : decode cL_law 755 = .ok (.aload_n 0, 1) := by decide +kernel
theorem dL_law_756 : decode cL_law 756 = .ok (.iload_n 3, 1) := by decide +kernel
theorem dL_law_757 : decode cL_law 757 = .ok (.iconst 2, 1) := by decide +kernel
theorem dL_law_758 : decode cL_law 758 = .ok (.iadd, 1) := by decide +kernel
theorem dL_law_759 : decode cL_law 759 = .ok (.iaload, 1) := by decide +kernel
theorem dL_law_760 : decode cL_law 760 = .ok (.aload_n 0, 1) := by decide +kernel
theorem dL_law_761 : decode cL_law 761 = .ok (.iload_n 3, 1) := by decide +kernel
theorem dL_law_762 : decode cL_law 762 = .ok (.iconst 3, 1) := by decide +kernel
theorem dL_law_763 : decode cL_law 763 = .ok (.iadd, 1) := by decide +kernel
theorem dL_law_764 : decode cL_law 764 = .ok (.iaload, 1) := by decide +kernel
theorem dL_law_765 : decode cL_law 765 = .ok (.ifCond .eq 7, 3) := by decide +kernel
theorem dL_law_768 : decode cL_law 768 = .ok (.iconst 1, 1) := by decide +kernel
theorem dL_law_769 : decode cL_law 769 = .ok (.goto 4, 3) := by decide +kernel
theorem dL_law_772 : decode cL_law 772 = .ok (.iconst 0, 1) := by decide +kernel
theorem dL_law_773 : decode cL_law 773 = .ok (.invokevirtual 101, 3) := by decide +kernel
theorem dL_law_776 : decode cL_law 776 = .ok (.pop, 1) := by decide +kernel
theorem dL_law_777 : decode cL_law 777 = .ok (.goto 220, 3) := by decide +kernel
theorem dL_law_780 : decode cL_law 780 = .ok (.aload_n 1, 1) := by decide +kernel
theorem dL_law_781 : decode cL_law 781 = .ok (.aload_n 0, 1) := by decide +kernel
theorem dL_law_782 : decode cL_law 782 = .ok (.iload_n 3, 1) := by decide +kernel
theorem dL_law_783 : decode cL_law 783 = .ok (.iconst 1, 1) := by decide +kernel
theorem dL_law_784 : decode cL_law 784 = .ok (.iadd, 1) := by decide +kernel
theorem dL_law_785 : decode cL_law 785 = .ok (.iaload, 1) := by decide +kernel
theorem dL_law_786 : decode cL_law 786 = .ok (.aload_n 0, 1) := by decide +kernel
theorem dL_law_787 : decode cL_law 787 = .ok (.iload_n 3, 1) := by decide +kernel
theorem dL_law_788 : decode cL_law 788 = .ok (.iconst 2, 1) := by decide +kernel
theorem dL_law_789 : decode cL_law 789 = .ok (.iadd, 1) := by decide +kernel
theorem dL_law_790 : decode cL_law 790 = .ok (.iaload, 1) := by decide +kernel
theorem dL_law_791 : decode cL_law 791 = .ok (.aload_n 0, 1) := by decide +kernel
theorem dL_law_792 : decode cL_law 792 = .ok (.iload_n 3, 1) := by decide +kernel
theorem dL_law_793 : decode cL_law 793 = .ok (.iconst 3, 1) := by decide +kernel
theorem dL_law_794 : decode cL_law 794 = .ok (.iadd, 1) := by decide +kernel
theorem dL_law_795 : decode cL_law 795 = .ok (.iaload, 1) := by decide +kernel
theorem dL_law_796 : decode cL_law 796 = .ok (.invokevirtual 102, 3) := by decide +kernel
theorem dL_law_799 : decode cL_law 799 = .ok (.pop, 1) := by decide +kernel
theorem dL_law_800 : decode cL_law 800 = .ok (.aload_n 2, 1) := by decide +kernel
theorem dL_law_801 : decode cL_law 801 = .ok (.aload_n 0, 1) := by decide +kernel
theorem dL_law_802 : decode cL_law 802 = .ok (.iload_n 3, 1) := by decide +kernel
theorem dL_law_803 : decode cL_law 803 = .ok (.iconst 1, 1) := by decide +kernel
theorem dL_law_804 : decode cL_law 804 = .ok (.iadd, 1) := by decide +kernel
theorem dL_law_805 : decode cL_law 805 = .ok (.iaload, 1) := by decide +kernel
theorem dL_law_806 : decode cL_law 806 = .ok (.aload_n 0, 1) := by decide +kernel
theorem dL_law_807 : decode cL_law 807 = .ok (.iload_n 3, 1) := by decide +kernel
theorem dL_law_808 : decode cL_law 808 = .ok (.iconst 2, 1) := by decide +kernel
theorem dL_law_809 : decode cL_law 809 = .ok (.iadd, 1) := by decide +kernel
theorem dL_law_810 : decode cL_law 810 = .ok (.iaload, 1) := by decide +kernel
theorem dL_law_811 : decode cL_law 811 = .ok (.aload_n 0, 1) := by decide +kernel
theorem dL_law_812 : decode cL_law 812 = .ok (.iload_n 3, 1) := by decide +kernel
theorem dL_law_813 : decode cL_law 813 = .ok (.iconst 3, 1) := by decide +kernel
theorem dL_law_814 : decode cL_law 814 = .ok (.iadd, 1) := by decide +kernel
theorem dL_law_815 : decode cL_law 815 = .ok (.iaload, 1) := by decide +kernel
theorem dL_law_816 : decode cL_law 816 = .ok (.invokevirtual 105, 3) := by decide +kernel
theorem dL_law_819 : decode cL_law 819 = .ok (.pop, 1) := by decide +kernel
theorem dL_law_820 : decode cL_law 820 = .ok (.goto 177, 3) := by decide +kernel
theorem dL_law_823 : decode cL_law 823 = .ok (.aload_n 1, 1) := by decide +kernel
theorem dL_law_824 : decode cL_law 824 = .ok (.aload_n 0, 1) := by decide +kernel
theorem dL_law_825 : decode cL_law 825 = .ok (.iload_n 3, 1) := by decide +kernel
theorem dL_law_826 : decode cL_law 826 = .ok (.iconst 1, 1) := by decide +kernel
theorem dL_law_827 : decode cL_law 827 = .ok (.iadd, 1) := by decide +kernel
theorem dL_law_828 : decode cL_law 828 = .ok (.iaload, 1) := by decide +kernel
theorem dL_law_829 : decode cL_law 829 = .ok (.invokevirtual 106, 3) := by decide +kernel
theorem dL_law_832 : decode cL_law 832 = .ok (.pop, 1) := by decide +kernel
theorem dL_law_833 : decode cL_law 833 = .ok (.aload_n 2, 1) := by decide +kernel
theorem dL_law_834 : decode cL_law 834 = .ok (.aload_n 0, 1) := by decide +kernel
theorem dL_law_835 : decode cL_law 835 = .ok (.iload_n 3, 1) := by decide +kernel
theorem dL_law_836 : decode cL_law 836 = .ok (.iconst 1, 1) := by decide +kernel
theorem dL_law_837 : decode cL_law 837 = .ok (.iadd, 1) := by decide +kernel
theorem dL_law_838 : decode cL_law 838 = .ok (.iaload, 1) := by decide +kernel
theorem dL_law_839 : decode cL_law 839 = .ok (.invokevirtual 109, 3) := by decide +kernel
theorem dL_law_842 : decode cL_law 842 = .ok (.pop, 1) := by decide +kernel
theorem dL_law_843 : decode cL_law 843 = .ok (.goto 154, 3) := by decide +kernel
theorem dL_law_846 : decode cL_law 846 = .ok (.aload_n 1, 1) := by decide +kernel
theorem dL_law_847 : decode cL_law 847 = .ok (.aload_n 0, 1) := by decide +kernel
theorem dL_law_848 : decode cL_law 848 = .ok (.iload_n 3, 1) := by decide +kernel
theorem dL_law_849 : decode cL_law 849 = .ok (.iconst 1, 1) := by decide +kernel
theorem dL_law_850 : decode cL_law 850 = .ok (.iadd, 1) := by decide +kernel
theorem dL_law_851 : decode cL_law 851 = .ok (.iaload, 1) := by decide +kernel
theorem dL_law_852 : decode cL_law 852 = .ok (.aload_n 0, 1) := by decide +kernel
theorem dL_law_853 : decode cL_law 853 = .ok (.iload_n 3, 1) := by decide +kernel
theorem dL_law_854 : decode cL_law 854 = .ok (.iconst 2, 1) := by decide +kernel
theorem dL_law_855 : decode cL_law 855 = .ok (.iadd, 1) := by decide +kernel
theorem dL_law_856 : decode cL_law 856 = .ok (.iaload, 1) := by decide +kernel
theorem dL_law_857 : decode cL_law 857 = .ok (.invokevirtual 110, 3) := by decide +kernel
theorem dL_law_860 : decode cL_law 860 = .ok (.pop, 1) := by decide +kernel
theorem dL_law_861 : decode cL_law 861 = .ok (.aload_n 2, 1) := by decide +kernel
theorem dL_law_862 : decode cL_law 862 = .ok (.aload_n 0, 1) := by decide +kernel
theorem dL_law_863 : decode cL_law 863 = .ok (.iload_n 3, 1) := by decide +kernel
theorem dL_law_864 : decode cL_law 864 = .ok (.iconst 1, 1) := by decide +kernel
theorem dL_law_865 : decode cL_law 865 = .ok (.iadd, 1) := by decide +kernel
theorem dL_law_866 : decode cL_law 866 = .ok (.iaload, 1) := by decide +kernel
theorem dL_law_867 : decode cL_law 867 = .ok (.aload_n 0, 1) := by decide +kernel
theorem dL_law_868 : decode cL_law 868 = .ok (.iload_n 3, 1) := by decide +kernel
theorem dL_law_869 : decode cL_law 869 = .ok (.iconst 2, 1) := by decide +kernel
theorem dL_law_870 : decode cL_law 870 = .ok (.iadd, 1) := by decide +kernel
theorem dL_law_871 : decode cL_law 871 = .ok (.iaload, 1) := by decide +kernel
theorem dL_law_872 : decode cL_law 872 = .ok (.invokevirtual 113, 3) := by decide +kernel
theorem dL_law_875 : decode cL_law 875 = .ok (.pop, 1) := by decide +kernel
theorem dL_law_876 : decode cL_law 876 = .ok (.goto 121, 3) := by decide +kernel
theorem dL_law_879 : decode cL_law 879 = .ok (.aload_n 1, 1) := by decide +kernel
theorem dL_law_880 : decode cL_law 880 = .ok (.aload_n 0, 1) := by decide +kernel
theorem dL_law_881 : decode cL_law 881 = .ok (.iload_n 3, 1) := by decide +kernel
theorem dL_law_882 : decode cL_law 882 = .ok (.iconst 1, 1) := by decide +kernel
theorem dL_law_883 : decode cL_law 883 = .ok (.iadd, 1) := by decide +kernel
theorem dL_law_884 : decode cL_law 884 = .ok (.iaload, 1) := by decide +kernel
theorem dL_law_885 : decode cL_law 885 = .ok (.aload_n 0, 1) := by decide +kernel
theorem dL_law_886 : decode cL_law 886 = .ok (.iload_n 3, 1) := by decide +kernel
theorem dL_law_887 : decode cL_law 887 = .ok (.iconst 2, 1) := by decide +kernel
theorem dL_law_888 : decode cL_law 888 = .ok (.iadd, 1) := by decide +kernel
theorem dL_law_889 : decode cL_law 889 = .ok (.iaload, 1) := by decide +kernel
theorem dL_law_890 : decode cL_law 890 = .ok (.aload_n 0, 1) := by decide +kernel
theorem dL_law_891 : decode cL_law 891 = .ok (.iload_n 3, 1) := by decide +kernel
theorem dL_law_892 : decode cL_law 892 = .ok (.iconst 3, 1) := by decide +kernel
theorem dL_law_893 : decode cL_law 893 = .ok (.iadd, 1) := by decide +kernel
theorem dL_law_894 : decode cL_law 894 = .ok (.iaload, 1) := by decide +kernel
theorem dL_law_895 : decode cL_law 895 = .ok (.invokevirtual 114, 3) := by decide +kernel
theorem dL_law_898 : decode cL_law 898 = .ok (.pop, 1) := by decide +kernel
theorem dL_law_899 : decode cL_law 899 = .ok (.aload_n 2, 1) := by decide +kernel
theorem dL_law_900 : decode cL_law 900 = .ok (.aload_n 0, 1) := by decide +kernel
theorem dL_law_901 : decode cL_law 901 = .ok (.iload_n 3, 1) := by decide +kernel
theorem dL_law_902 : decode cL_law 902 = .ok (.iconst 1, 1) := by decide +kernel
theorem dL_law_903 : decode cL_law 903 = .ok (.iadd, 1) := by decide +kernel
theorem dL_law_904 : decode cL_law 904 = .ok (.iaload, 1) := by decide +kernel
theorem dL_law_905 : decode cL_law 905 = .ok (.aload_n 0, 1) := by decide +kernel
theorem dL_law_906 : decode cL_law 906 = .ok (.iload_n 3, 1) := by decide +kernel
theorem dL_law_907 : decode cL_law 907 = .ok (.iconst 2, 1) := by decide +kernel
theorem dL_law_908 : decode cL_law 908 = .ok (.iadd, 1) := by decide +kernel
theorem dL_law_909 : decode cL_law 909 = .ok (.iaload, 1) := by decide +kernel
theorem dL_law_910 : decode cL_law 910 = .ok (.aload_n 0, 1) := by decide +kernel
theorem dL_law_911 : decode cL_law 911 = .ok (.iload_n 3, 1) := by decide +kernel
theorem dL_law_912 : decode cL_law 912 = .ok (.iconst 3, 1) := by decide +kernel
theorem dL_law_913 : decode cL_law 913 = .ok (.iadd, 1) := by decide +kernel
theorem dL_law_914 : decode cL_law 914 = .ok (.iaload, 1) := by decide +kernel
theorem dL_law_915 : decode cL_law 915 = .ok (.invokevirtual 117, 3) := by decide +kernel
theorem dL_law_918 : decode cL_law 918 = .ok (.pop, 1) := by decide +kernel
theorem dL_law_919 : decode cL_law 919 = .ok (.goto 78, 3) := by decide +kernel
theorem dL_law_922 : decode cL_law 922 = .ok (.aload_n 1, 1) := by decide +kernel
theorem dL_law_923 : decode cL_law 923 = .ok (.invokevirtual 118, 3) := by decide +kernel
theorem dL_law_926 : decode cL_law 926 = .ok (.pop, 1) := by decide +kernel
theorem dL_law_927 : decode cL_law 927 = .ok (.aload_n 2, 1) := by decide +kernel
theorem dL_law_928 : decode cL_law 928 = .ok (.invokevirtual 121, 3) := by decide +kernel
theorem dL_law_931 : decode cL_law 931 = .ok (.pop, 1) := by decide +kernel
theorem dL_law_932 : decode cL_law 932 = .ok (.goto 65, 3) := by decide +kernel
theorem dL_law_935 : decode cL_law 935 = .ok (.aload_n 1, 1) := by decide +kernel
theorem dL_law_936 : decode cL_law 936 = .ok (.invokevirtual 122, 3) := by decide +kernel
theorem dL_law_939 : decode cL_law 939 = .ok (.pop, 1) := by decide +kernel
theorem dL_law_940 : decode cL_law 940 = .ok (.aload_n 2, 1) := by decide +kernel
theorem dL_law_941 : decode cL_law 941 = .ok (.invokevirtual 125, 3) := by decide +kernel
theorem dL_law_944 : decode cL_law 944 = .ok (.pop, 1) := by decide +kernel
theorem dL_law_945 : decode cL_law 945 = .ok (.goto 52, 3) := by decide +kernel
theorem dL_law_948 : decode cL_law 948 = .ok (.aload_n 1, 1) := by decide +kernel
theorem dL_law_949 : decode cL_law 949 = .ok (.invokevirtual 126, 3) := by decide +kernel
theorem dL_law_952 : decode cL_law 952 = .ok (.pop, 1) := by decide +kernel
theorem dL_law_953 : decode cL_law 953 = .ok (.aload_n 2, 1) := by decide +kernel
theorem dL_law_954 : decode cL_law 954 = .ok (.invokevirtual 129, 3) := by decide +kernel
theorem dL_law_957 : decode cL_law 957 = .ok (.pop, 1) := by decide +kernel
theorem dL_law_958 : decode cL_law 958 = .ok (.goto 39, 3) := by decide +kernel
theorem dL_law_961 : decode cL_law 961 = .ok (.aload_n 1, 1) := by decide +kernel
theorem dL_law_962 : decode cL_law 962 = .ok (.invokevirtual 130, 3) := by decide +kernel
theorem dL_law_965 : decode cL_law 965 = .ok (.pop, 1) := by decide +kernel
theorem dL_law_966 : decode cL_law 966 = .ok (.aload_n 2, 1) := by decide +kernel
theorem dL_law_967 : decode cL_law 967 = .ok (.invokevirtual 133, 3) := by decide +kernel
theorem dL_law_970 : decode cL_law 970 = .ok (.pop, 1) := by decide +kernel
theorem dL_law_971 : decode cL_law 971 = .ok (.goto 26, 3) := by decide +kernel
theorem dL_law_974 : decode cL_law 974 = .ok (.aload_n 1, 1) := by decide +kernel
theorem dL_law_975 : decode cL_law 975 = .ok (.aload_n 0, 1) := by decide +kernel
theorem dL_law_976 : decode cL_law 976 = .ok (.iload_n 3, 1) := by decide +kernel
theorem dL_law_977 : decode cL_law 977 = .ok (.iconst 1, 1) := by decide +kernel
theorem dL_law_978 : decode cL_law 978 = .ok (.iadd, 1) := by decide +kernel
theorem dL_law_979 : decode cL_law 979 = .ok (.iaload, 1) := by decide +kernel
theorem dL_law_980 : decode cL_law 980 = .ok (.invokevirtual 134, 3) := by decide +kernel
theorem dL_law_983 : decode cL_law 983 = .ok (.pop, 1) := by decide +kernel
theorem dL_law_984 : decode cL_law 984 = .ok (.aload_n 2, 1) := by decide +kernel
theorem dL_law_985 : decode cL_law 985 = .ok (.aload_n 0, 1) := by decide +kernel
theorem dL_law_986 : decode cL_law 986 = .ok (.iload_n 3, 1) := by decide +kernel
theorem dL_law_987 : decode cL_law 987 = .ok (.iconst 1, 1) := by decide +kernel
theorem dL_law_988 : decode cL_law 988 = .ok (.iadd, 1) := by decide +kernel
theorem dL_law_989 : decode cL_law 989 = .ok (.iaload, 1) := by decide +kernel
theorem dL_law_990 : decode cL_law 990 = .ok (.invokevirtual 137, 3) := by decide +kernel
theorem dL_law_993 : decode cL_law 993 = .ok (.pop, 1) := by decide +kernel
theorem dL_law_994 : decode cL_law 994 = .ok (.goto 3, 3) := by decide +kernel
theorem dL_law_997 : decode cL_law 997 = .ok (.iinc 3 6, 3) := by decide +kernel
theorem dL_law_1000 : decode cL_law 1000 = .ok (.goto (-982), 3) := by decide +kernel
theorem dL_law_1003 : decode cL_law 1003 = .ok (.iconst 1, 1) := by decide +kernel
theorem dL_law_1004 : decode cL_law 1004 = .ok (.ireturn, 1) := by decide +kernel
theorem bw_490 : Cond.methodLink "CountingHorsesLaw" 13 ⟨"CountingHorses", "mud", "(III)Z"⟩ ∈ BW := bw_at 490 (by decide +kernel) (by decide +kernel)
theorem bw_491 : Cond.instanceMethod ⟨"CountingHorses", "mud", "(III)Z"⟩ ∈ BW := bw_at 491 (by decide +kernel) (by decide +kernel)
theorem bw_492 : Cond.selects "CountingHorses" ⟨"CountingHorses", "mud", "(III)Z"⟩ ⟨"CountingHorses", "mud", "(III)Z"⟩ ∈ BW := bw_at 492 (by decide +kernel) (by decide +kernel)
theorem bw_493 : Cond.code ⟨"CountingHorses", "mud", "(III)Z"⟩ prog_1_method_2_code 5 (some .boolean) ∈ BW := bw_at 493 (by decide +kernel) (by decide +kernel)
theorem bw_504 : Cond.methodLink "CountingHorsesLaw" 18 ⟨"CountingHorses", "bridge", "(II)I"⟩ ∈ BW := bw_at 504 (by decide +kernel) (by decide +kernel)
theorem bw_505 : Cond.instanceMethod ⟨"CountingHorses", "bridge", "(II)I"⟩ ∈ BW := bw_at 505 (by decide +kernel) (by decide +kernel)
theorem bw_506 : Cond.selects "CountingHorses" ⟨"CountingHorses", "bridge", "(II)I"⟩ ⟨"CountingHorses", "bridge", "(II)I"⟩ ∈ BW := bw_at 506 (by decide +kernel) (by decide +kernel)
theorem bw_507 : Cond.code ⟨"CountingHorses", "bridge", "(II)I"⟩ prog_1_method_3_code 4 (some .int) ∈ BW := bw_at 507 (by decide +kernel) (by decide +kernel)
theorem bw_508 : Cond.methodLink "CountingHorsesLaw" 23 ⟨"CountingHorses", "inn", "(I)I"⟩ ∈ BW := bw_at 508 (by decide +kernel) (by decide +kernel)
theorem bw_509 : Cond.instanceMethod ⟨"CountingHorses", "inn", "(I)I"⟩ ∈ BW := bw_at 509 (by decide +kernel) (by decide +kernel)
theorem bw_510 : Cond.selects "CountingHorses" ⟨"CountingHorses", "inn", "(I)I"⟩ ⟨"CountingHorses", "inn", "(I)I"⟩ ∈ BW := bw_at 510 (by decide +kernel) (by decide +kernel)
theorem bw_511 : Cond.code ⟨"CountingHorses", "inn", "(I)I"⟩ prog_1_method_4_code 3 (some .int) ∈ BW := bw_at 511 (by decide +kernel) (by decide +kernel)
theorem bw_512 : Cond.methodLink "CountingHorsesLaw" 28 ⟨"CountingHorses", "move", "(II)Z"⟩ ∈ BW := bw_at 512 (by decide +kernel) (by decide +kernel)
theorem bw_513 : Cond.instanceMethod ⟨"CountingHorses", "move", "(II)Z"⟩ ∈ BW := bw_at 513 (by decide +kernel) (by decide +kernel)
theorem bw_514 : Cond.selects "CountingHorses" ⟨"CountingHorses", "move", "(II)Z"⟩ ⟨"CountingHorses", "move", "(II)Z"⟩ ∈ BW := bw_at 514 (by decide +kernel) (by decide +kernel)
theorem bw_515 : Cond.code ⟨"CountingHorses", "move", "(II)Z"⟩ prog_1_method_5_code 4 (some .boolean) ∈ BW := bw_at 515 (by decide +kernel) (by decide +kernel)
theorem bw_527 : Cond.methodLink "CountingHorsesLaw" 33 ⟨"CountingHorses", "horse", "(II)I"⟩ ∈ BW := bw_at 527 (by decide +kernel) (by decide +kernel)
theorem bw_528 : Cond.instanceMethod ⟨"CountingHorses", "horse", "(II)I"⟩ ∈ BW := bw_at 528 (by decide +kernel) (by decide +kernel)
theorem bw_529 : Cond.selects "CountingHorses" ⟨"CountingHorses", "horse", "(II)I"⟩ ⟨"CountingHorses", "horse", "(II)I"⟩ ∈ BW := bw_at 529 (by decide +kernel) (by decide +kernel)
theorem bw_530 : Cond.code ⟨"CountingHorses", "horse", "(II)I"⟩ prog_1_method_6_code 4 (some .int) ∈ BW := bw_at 530 (by decide +kernel) (by decide +kernel)
theorem bw_531 : Cond.methodLink "CountingHorsesLaw" 37 ⟨"CountingHorses", "weather", "(II)Z"⟩ ∈ BW := bw_at 531 (by decide +kernel) (by decide +kernel)
theorem bw_532 : Cond.instanceMethod ⟨"CountingHorses", "weather", "(II)Z"⟩ ∈ BW := bw_at 532 (by decide +kernel) (by decide +kernel)
theorem bw_533 : Cond.selects "CountingHorses" ⟨"CountingHorses", "weather", "(II)Z"⟩ ⟨"CountingHorses", "weather", "(II)Z"⟩ ∈ BW := bw_at 533 (by decide +kernel) (by decide +kernel)
theorem bw_534 : Cond.code ⟨"CountingHorses", "weather", "(II)Z"⟩ prog_1_method_7_code 3 (some .boolean) ∈ BW := bw_at 534 (by decide +kernel) (by decide +kernel)
theorem bw_535 : Cond.methodLink "CountingHorsesLaw" 41 ⟨"CountingHorses", "feed", "(IIIII)I"⟩ ∈ BW := bw_at 535 (by decide +kernel) (by decide +kernel)
theorem bw_536 : Cond.instanceMethod ⟨"CountingHorses", "feed", "(IIIII)I"⟩ ∈ BW := bw_at 536 (by decide +kernel) (by decide +kernel)
theorem bw_537 : Cond.selects "CountingHorses" ⟨"CountingHorses", "feed", "(IIIII)I"⟩ ⟨"CountingHorses", "feed", "(IIIII)I"⟩ ∈ BW := bw_at 537 (by decide +kernel) (by decide +kernel)
theorem bw_538 : Cond.code ⟨"CountingHorses", "feed", "(IIIII)I"⟩ prog_1_method_8_code 6 (some .int) ∈ BW := bw_at 538 (by decide +kernel) (by decide +kernel)
theorem bw_543 : Cond.methodLink "CountingHorsesLaw" 46 ⟨"CountingHorses", "end", "(I)I"⟩ ∈ BW := bw_at 543 (by decide +kernel) (by decide +kernel)
theorem bw_544 : Cond.instanceMethod ⟨"CountingHorses", "end", "(I)I"⟩ ∈ BW := bw_at 544 (by decide +kernel) (by decide +kernel)
theorem bw_545 : Cond.selects "CountingHorses" ⟨"CountingHorses", "end", "(I)I"⟩ ⟨"CountingHorses", "end", "(I)I"⟩ ∈ BW := bw_at 545 (by decide +kernel) (by decide +kernel)
theorem bw_546 : Cond.code ⟨"CountingHorses", "end", "(I)I"⟩ prog_1_method_9_code 2 (some .int) ∈ BW := bw_at 546 (by decide +kernel) (by decide +kernel)
theorem bw_1128 : Cond.methodLink "CountingHorsesLaw" 17 ⟨"CountingHorsesModel", "mud", "(III)Z"⟩ ∈ BW := bw_at 1128 (by decide +kernel) (by decide +kernel)
theorem bw_1129 : Cond.instanceMethod ⟨"CountingHorsesModel", "mud", "(III)Z"⟩ ∈ BW := bw_at 1129 (by decide +kernel) (by decide +kernel)
theorem bw_1130 : Cond.selects "CountingHorsesModel" ⟨"CountingHorsesModel", "mud", "(III)Z"⟩ ⟨"CountingHorsesModel", "mud", "(III)Z"⟩ ∈ BW := bw_at 1130 (by decide +kernel) (by decide +kernel)
theorem bw_1131 : Cond.code ⟨"CountingHorsesModel", "mud", "(III)Z"⟩ prog_14_method_9_code 5 (some .boolean) ∈ BW := bw_at 1131 (by decide +kernel) (by decide +kernel)
theorem bw_1138 : Cond.methodLink "CountingHorsesLaw" 22 ⟨"CountingHorsesModel", "bridge", "(II)I"⟩ ∈ BW := bw_at 1138 (by decide +kernel) (by decide +kernel)
theorem bw_1139 : Cond.instanceMethod ⟨"CountingHorsesModel", "bridge", "(II)I"⟩ ∈ BW := bw_at 1139 (by decide +kernel) (by decide +kernel)
theorem bw_1140 : Cond.selects "CountingHorsesModel" ⟨"CountingHorsesModel", "bridge", "(II)I"⟩ ⟨"CountingHorsesModel", "bridge", "(II)I"⟩ ∈ BW := bw_at 1140 (by decide +kernel) (by decide +kernel)
theorem bw_1141 : Cond.code ⟨"CountingHorsesModel", "bridge", "(II)I"⟩ prog_14_method_10_code 3 (some .int) ∈ BW := bw_at 1141 (by decide +kernel) (by decide +kernel)
theorem bw_1142 : Cond.methodLink "CountingHorsesLaw" 27 ⟨"CountingHorsesModel", "inn", "(I)I"⟩ ∈ BW := bw_at 1142 (by decide +kernel) (by decide +kernel)
theorem bw_1143 : Cond.instanceMethod ⟨"CountingHorsesModel", "inn", "(I)I"⟩ ∈ BW := bw_at 1143 (by decide +kernel) (by decide +kernel)
theorem bw_1144 : Cond.selects "CountingHorsesModel" ⟨"CountingHorsesModel", "inn", "(I)I"⟩ ⟨"CountingHorsesModel", "inn", "(I)I"⟩ ∈ BW := bw_at 1144 (by decide +kernel) (by decide +kernel)
theorem bw_1145 : Cond.code ⟨"CountingHorsesModel", "inn", "(I)I"⟩ prog_14_method_11_code 2 (some .int) ∈ BW := bw_at 1145 (by decide +kernel) (by decide +kernel)
theorem bw_1146 : Cond.methodLink "CountingHorsesLaw" 36 ⟨"CountingHorsesModel", "horse", "(II)I"⟩ ∈ BW := bw_at 1146 (by decide +kernel) (by decide +kernel)
theorem bw_1147 : Cond.instanceMethod ⟨"CountingHorsesModel", "horse", "(II)I"⟩ ∈ BW := bw_at 1147 (by decide +kernel) (by decide +kernel)
theorem bw_1148 : Cond.selects "CountingHorsesModel" ⟨"CountingHorsesModel", "horse", "(II)I"⟩ ⟨"CountingHorsesModel", "horse", "(II)I"⟩ ∈ BW := bw_at 1148 (by decide +kernel) (by decide +kernel)
theorem bw_1149 : Cond.code ⟨"CountingHorsesModel", "horse", "(II)I"⟩ prog_14_method_12_code 3 (some .int) ∈ BW := bw_at 1149 (by decide +kernel) (by decide +kernel)
theorem bw_1150 : Cond.methodLink "CountingHorsesLaw" 40 ⟨"CountingHorsesModel", "weather", "(II)Z"⟩ ∈ BW := bw_at 1150 (by decide +kernel) (by decide +kernel)
theorem bw_1151 : Cond.instanceMethod ⟨"CountingHorsesModel", "weather", "(II)Z"⟩ ∈ BW := bw_at 1151 (by decide +kernel) (by decide +kernel)
theorem bw_1152 : Cond.selects "CountingHorsesModel" ⟨"CountingHorsesModel", "weather", "(II)Z"⟩ ⟨"CountingHorsesModel", "weather", "(II)Z"⟩ ∈ BW := bw_at 1152 (by decide +kernel) (by decide +kernel)
theorem bw_1153 : Cond.code ⟨"CountingHorsesModel", "weather", "(II)Z"⟩ prog_14_method_13_code 3 (some .boolean) ∈ BW := bw_at 1153 (by decide +kernel) (by decide +kernel)
theorem bw_1154 : Cond.methodLink "CountingHorsesLaw" 45 ⟨"CountingHorsesModel", "feed", "(IIIII)I"⟩ ∈ BW := bw_at 1154 (by decide +kernel) (by decide +kernel)
theorem bw_1155 : Cond.instanceMethod ⟨"CountingHorsesModel", "feed", "(IIIII)I"⟩ ∈ BW := bw_at 1155 (by decide +kernel) (by decide +kernel)
theorem bw_1156 : Cond.selects "CountingHorsesModel" ⟨"CountingHorsesModel", "feed", "(IIIII)I"⟩ ⟨"CountingHorsesModel", "feed", "(IIIII)I"⟩ ∈ BW := bw_at 1156 (by decide +kernel) (by decide +kernel)
theorem bw_1157 : Cond.code ⟨"CountingHorsesModel", "feed", "(IIIII)I"⟩ prog_14_method_15_code 6 (some .int) ∈ BW := bw_at 1157 (by decide +kernel) (by decide +kernel)
theorem bw_1162 : Cond.methodLink "CountingHorsesLaw" 49 ⟨"CountingHorsesModel", "end", "(I)I"⟩ ∈ BW := bw_at 1162 (by decide +kernel) (by decide +kernel)
theorem bw_1163 : Cond.instanceMethod ⟨"CountingHorsesModel", "end", "(I)I"⟩ ∈ BW := bw_at 1163 (by decide +kernel) (by decide +kernel)
theorem bw_1164 : Cond.selects "CountingHorsesModel" ⟨"CountingHorsesModel", "end", "(I)I"⟩ ⟨"CountingHorsesModel", "end", "(I)I"⟩ ∈ BW := bw_at 1164 (by decide +kernel) (by decide +kernel)
theorem bw_1165 : Cond.code ⟨"CountingHorsesModel", "end", "(I)I"⟩ prog_14_method_16_code 2 (some .int) ∈ BW := bw_at 1165 (by decide +kernel) (by decide +kernel)
theorem bw_1348 : Cond.methodLink "CountingHorsesLaw" 32 ⟨"CountingHorsesModel", "move", "(II)Z"⟩ ∈ BW := bw_at 1348 (by decide +kernel) (by decide +kernel)
theorem bw_1349 : Cond.instanceMethod ⟨"CountingHorsesModel", "move", "(II)Z"⟩ ∈ BW := bw_at 1349 (by decide +kernel) (by decide +kernel)
theorem bw_1350 : Cond.selects "CountingHorsesModel" ⟨"CountingHorsesModel", "move", "(II)Z"⟩ ⟨"CountingHorsesModel", "move", "(II)Z"⟩ ∈ BW := bw_at 1350 (by decide +kernel) (by decide +kernel)
theorem bw_1351 : Cond.code ⟨"CountingHorsesModel", "move", "(II)Z"⟩ prog_14_method_64_code 3 (some .boolean) ∈ BW := bw_at 1351 (by decide +kernel) (by decide +kernel)
theorem InvX.head {cI cM cT cJ cZ : ClassId} {x : Nat} {kc0 kc1 kc9 kc10 kc6 ki0 ki1 ki9 ki10 ki6 tl fu0 fp0 : Int} {bt : Nat → Int} {xw : va_W} (h : InvX cI cM cT cJ cZ x kc0 kc1 kc9 kc10 kc6 ki0 ki1 ki9 ki10 ki6 tl fu0 fp0 bt xw) : ∃ fs, xw[0]? = some (x, .inr (11, fs)) := by
  refine h _ ?_
  intro st dr nw kp rd tm co s1 s2 s3 tA lW nA kA t0 cd_t0 lF_t0 lT_t0 cK_t0 cU_t0 t1 cd_t1 lF_t1 lT_t1 cK_t1 cU_t1 t2 cd_t2 lF_t2 lT_t2 cK_t2 cU_t2 t3 cd_t3 lF_t3 lT_t3 cK_t3 cU_t3 cd_lW lF_lW lT_lW cK_lW cU_lW rO sT mA sB sA tH tF tS mU bF bT cO sH iA rG rOk sTk mAk sBk sAk tHk tFk tSk mUk bFk bTk cOk sHk iAk rGk tP tX bY ki a_t nu bE oR ag sd ea ln_t0 cl_t0 ln_t1 cl_t1 ln_t2 cl_t2 ln_t3 cl_t3 ln_lW cl_lW sp tn ru se tr br ho in_ pl oa dv dy xx nx sz spk tnk ruk sek trk brk hok in_k plk oak dvk dyk xxk nxk szk fa fb tk kd nb le tks ts to_ fs1 fs2 fs3 fna fka tf fcd_t0 flf_t0 flt_t0 fck_t0 fcu_t0 fcd_t1 flf_t1 flt_t1 fck_t1 fcu_t1 fcd_t2 flf_t2 flt_t2 fck_t2 fcu_t2 fcd_t3 flf_t3 flt_t3 fck_t3 fcu_t3 fcd_lW flf_lW flt_lW fmu fbf fbt fco fsh fia fN fsa fth ftf fts fmuk fbfk fbtk fcok fshk fiak fNk fsak fthk ftfk ftsk fby fki fat fnu fbe for_ fco_ PL Ka Kb hw9 hr_fs1 hi_sd hi_ln_t0 hi_cl_t0 hr_flt_t0 hi_ln_t1 hi_cl_t1 hr_flt_t1 hi_ln_t2 hi_cl_t2 hr_flt_t2 hi_ln_t3 hi_cl_t3 hr_flt_t3 hi_ln_lW hi_cl_lW hr_flt_lW hi_tn hi_se hi_tr hi_br hr_fmu hr_fbt hi_ho hr_fco hr_fsh hi_in_ hi_pl hr_fia hi_nx hr_fsa hr_fth hr_ftf hi_tnk hi_sek hi_trk hi_brk hr_fmuk hr_fbtk hi_hok hr_fcok hr_fshk hi_in_k hi_plk hr_fiak hi_nxk hr_fsak hr_fthk hr_ftfk hi_tk hi_le hi_tks hr_fby hi_ts htf0 htf1 htf2 htf3 hN_ hK_ hab e0 e1 e9 e10 e6 g0 g1 g9 g10 g6 el ef ep eb
  subst hw9
  exact ⟨_, rfl⟩
theorem InvM.head {cI cM cT cJ cZ : ClassId} {q : Nat} {kc0 kc1 kc9 kc10 kc6 ki0 ki1 ki9 ki10 ki6 tl fu0 fp0 : Int} {bt : Nat → Int} {mw : va_W} (h : InvM cI cM cT cJ cZ q kc0 kc1 kc9 kc10 kc6 ki0 ki1 ki9 ki10 ki6 tl fu0 fp0 bt mw) : ∃ fs, mw[0]? = some (q, .inr (12, fs)) := by
  refine h _ ?_
  intro aA aI xT tP_ pI nm vL tR rW sP oT bS aS aO cS wY td fu fp at_ plc tok num wrd tx0 cls wri cam pid ope isw so0 onc spp eat ste fa fi fxt ftp fpi fnm fvl ftr frw fsp fot fbs fas fao fcs fwy hw9 hi_td hi_spp hr_fa hr_fi hr_fxt hr_fnm hr_fsp hr_fas h66 el ef ep eb
  subst hw9
  exact ⟨_, rfl⟩
theorem zin {ii : Int32} {L : Nat} {j : Int32} (h0 : 0 ≤ ii.toInt) (h1 : ii.toInt + 6 ≤ (L : Int)) (hL : L ≤ 3072) (hj : 0 ≤ j.toInt ∧ j.toInt ≤ 5) : vp_in (ii + j) L := by
  have e := zaddg (a := ii) (b := j) (by omega) (by omega)
  exact vp_in_iff.mpr (by omega)
set_option maxHeartbeats 4000000 in
set_option maxRecDepth 100000 in
theorem law_0 {p : Program} {l : Launch} {e : Env} {s : State} {m : MethodId} {below : List Frame} {meth : Method} {c : Code} {b L : Nat} {xs : Nat → Int32} {D : va_G} {cI cM cT cJ cZ : ClassId} {ii : Int32} {x q : Nat} (Z : Zx p s m #[Value.ref b] meth c code 4 ret R_law (fun q : Nat => s.heap.size ≤ q) (ty3 cI cM cT cJ cZ) D) (hX : va_X b L xs s s.heap) (hbl : b < s.heap.size) (hL : L ≤ 3072) (h0 : 0 ≤ ii.toInt) (h1 : ii.toInt + 6 ≤ (L : Int)) (kk : ∀ {kc0 kc1 kc9 kc10 kc6 ki0 ki1 ki9 ki10 ki6 tl fu0 fp0 : Int} {bt : Nat → Int} {xw mw : va_W} {H : Heap} {locs : List Loc} {ls : Array Slot} (hXi : InvX cI cM cT cJ cZ x kc0 kc1 kc9 kc10 kc6 ki0 ki1 ki9 ki10 ki6 tl fu0 fp0 bt xw) (hMi : InvM cI cM cT cJ cZ q kc0 kc1 kc9 kc10 kc6 ki0 ki1 ki9 ki10 ki6 tl fu0 fp0 bt mw) (hP : va_P D vwCl (xw ++ mw) H) (hD : va_D (fun q : Nat => s.heap.size ≤ q) (xw ++ mw)) (hS : va_S (fun q : Nat => s.heap.size ≤ q) s.heap H locs) (hl : lv_has ls 4 [(0, .ref b), (1, .ref x), (2, .ref q), (3, .int ii)]), W p l e room_1 s m #[Value.ref b] below meth c H locs 300 28000 (lw_Z below #[Value.ref b] s) (F0 m 997 ls [])) : ∀ {kc0 kc1 kc9 kc10 kc6 ki0 ki1 ki9 ki10 ki6 tl fu0 fp0 : Int} {bt : Nat → Int} {xw mw : va_W} {H : Heap} {locs : List Loc} {ls : Array Slot} (hXi : InvX cI cM cT cJ cZ x kc0 kc1 kc9 kc10 kc6 ki0 ki1 ki9 ki10 ki6 tl fu0 fp0 bt xw) (hMi : InvM cI cM cT cJ cZ q kc0 kc1 kc9 kc10 kc6 ki0 ki1 ki9 ki10 ki6 tl fu0 fp0 bt mw) (hP : va_P D vwCl (xw ++ mw) H) (hD : va_D (fun q : Nat => s.heap.size ≤ q) (xw ++ mw)) (hS : va_S (fun q : Nat => s.heap.size ≤ q) s.heap H locs) (hl : lv_has ls 4 [(0, .ref b), (1, .ref x), (2, .ref q), (3, .int ii)]), W p l e room_1 s m #[Value.ref b] below meth c H locs 300 28000 (lw_Z below #[Value.ref b] s) (F0 m 164 ls []) := by
  intro kc0 kc1 kc9 kc10 kc6 ki0 ki1 ki9 ki10 ki6 tl fu0 fp0 bt xw mw H locs ls hXi hMi hP hD hS hl
  have hx := Z.1
  have hb := Z.2.1
  have hbA : ¬ (fun q : Nat => s.heap.size ≤ q) b := Nat.not_le.mpr hbl
  obtain ⟨fs1, hd1⟩ := InvX.head hXi
  obtain ⟨fs2, hd2⟩ := InvM.head hMi
  refine lv_aload_n hx hb dL_law_164 rfl (lv_at hl 1 rfl) ?_
  refine lv_aload_n hx hb dL_law_165 rfl (lv_at hl 0 rfl) ?_
  refine lv_iload_n hx hb dL_law_166 rfl (lv_at hl 3 rfl) ?_
  refine lv_iconst (v := 1) hx hb dL_law_167 (by decide) ?_
  refine lv_iadd hx hb dL_law_168 ?_
  refine va_sld hx hb hX hbl hbA hS (zin h0 h1 hL (by decide)) dL_law_169 ?_
  refine lv_aload_n hx hb dL_law_170 rfl (lv_at hl 0 rfl) ?_
  refine lv_iload_n hx hb dL_law_171 rfl (lv_at hl 3 rfl) ?_
  refine lv_iconst (v := 2) hx hb dL_law_172 (by decide) ?_
  refine lv_iadd hx hb dL_law_173 ?_
  refine va_sld hx hb hX hbl hbA hS (zin h0 h1 hL (by decide)) dL_law_174 ?_
  refine lv_aload_n hx hb dL_law_175 rfl (lv_at hl 0 rfl) ?_
  refine lv_iload_n hx hb dL_law_176 rfl (lv_at hl 3 rfl) ?_
  refine lv_iconst (v := 3) hx hb dL_law_177 (by decide) ?_
  refine lv_iadd hx hb dL_law_178 ?_
  refine va_sld hx hb hX hbl hbA hS (zin h0 h1 hL (by decide)) dL_law_179 ?_
  have hDc := (va_D_left hD)
  refine raw_Vi (ci := 11) (q0 := 0) (nA := 3) (As := [.int (xs (ii + 1).toNatClampNeg), .int (xs (ii + 2).toNatClampNeg), .int (xs (ii + 3).toNatClampNeg)]) (rest := []) Z hl.1 (w_X_mud l D cI cM cT cJ cZ x kc0 kc1 kc9 kc10 kc6 ki0 ki1 ki9 ki10 ki6 tl fu0 fp0 bt (xs (ii + 1).toNatClampNeg) (xs (ii + 2).toNatClampNeg) (xs (ii + 3).toNatClampNeg) hXi) (bw_V bw_490 bw_491 bw_492 bw_80 bw_493) ⟨by decide +kernel, by decide +kernel, by decide +kernel⟩ rfl ⟨Nat.le_of_ble_eq_true rfl, Nat.le_of_ble_eq_true rfl⟩ rfl rfl hd1 (va_P_left hP) hDc hS rfl (Nat.le_of_ble_eq_true rfl) dL_law_180 ⟨Nat.le_of_ble_eq_true rfl, Nat.le_of_ble_eq_true rfl⟩ (fun r1 u H locs h9 hk9 hP1 hD1 hS1 => ?_)
  obtain ⟨d0, d1, d9, d10, d6, j0, j1, j9, j10, j6, tl_, fu_, fp_, bn, hrel1, hX2⟩ := h9
  obtain ⟨hP, hD⟩ := joinL hP hD hk9 (raw_free hDc Z.2.2.2.2.2.2.2.1 hS) hP1 hD1
  have hS := hS1
  clear hS1
  refine lv_pop hx hb dL_law_183 rfl ?_
  refine lv_aload_n hx hb dL_law_184 rfl (lv_at hl 2 rfl) ?_
  refine lv_aload_n hx hb dL_law_185 rfl (lv_at hl 0 rfl) ?_
  refine lv_iload_n hx hb dL_law_186 rfl (lv_at hl 3 rfl) ?_
  refine lv_iconst (v := 1) hx hb dL_law_187 (by decide) ?_
  refine lv_iadd hx hb dL_law_188 ?_
  refine va_sld hx hb hX hbl hbA hS (zin h0 h1 hL (by decide)) dL_law_189 ?_
  refine lv_aload_n hx hb dL_law_190 rfl (lv_at hl 0 rfl) ?_
  refine lv_iload_n hx hb dL_law_191 rfl (lv_at hl 3 rfl) ?_
  refine lv_iconst (v := 2) hx hb dL_law_192 (by decide) ?_
  refine lv_iadd hx hb dL_law_193 ?_
  refine va_sld hx hb hX hbl hbA hS (zin h0 h1 hL (by decide)) dL_law_194 ?_
  refine lv_aload_n hx hb dL_law_195 rfl (lv_at hl 0 rfl) ?_
  refine lv_iload_n hx hb dL_law_196 rfl (lv_at hl 3 rfl) ?_
  refine lv_iconst (v := 3) hx hb dL_law_197 (by decide) ?_
  refine lv_iadd hx hb dL_law_198 ?_
  refine va_sld hx hb hX hbl hbA hS (zin h0 h1 hL (by decide)) dL_law_199 ?_
  have hDc := (va_D_right hD)
  refine raw_Vi (ci := 12) (q0 := 0) (nA := 3) (As := [.int (xs (ii + 1).toNatClampNeg), .int (xs (ii + 2).toNatClampNeg), .int (xs (ii + 3).toNatClampNeg)]) (rest := []) Z hl.1 (w_M_mud l D cI cM cT cJ cZ q kc0 kc1 kc9 kc10 kc6 ki0 ki1 ki9 ki10 ki6 tl fu0 fp0 bt (xs (ii + 1).toNatClampNeg) (xs (ii + 2).toNatClampNeg) (xs (ii + 3).toNatClampNeg) hMi) (bw_V bw_1128 bw_1129 bw_1130 bw_92 bw_1131) ⟨by decide +kernel, by decide +kernel, by decide +kernel⟩ rfl ⟨Nat.le_of_ble_eq_true rfl, Nat.le_of_ble_eq_true rfl⟩ rfl rfl hd2 (va_P_right hP) hDc hS rfl (Nat.le_of_ble_eq_true rfl) dL_law_200 ⟨Nat.le_of_ble_eq_true rfl, Nat.le_of_ble_eq_true rfl⟩ (fun r2 u H locs h9 hk9 hP1 hD1 hS1 => ?_)
  obtain ⟨d0m, d1m, d9m, d10m, d6m, j0m, j1m, j9m, j10m, j6m, tl_m, fu_m, fp_m, bnm, hrel2, hM2⟩ := h9
  obtain ⟨hP, hD⟩ := joinR hP hD hk9 (raw_free hDc Z.2.2.2.2.2.2.2.1 hS) hP1 hD1
  have hS := hS1
  clear hS1
  have hbn : bnm = bn := hrel2.2.2.2.2.2.2.2.2.2.2.2.2.2.2.trans hrel1.2.2.2.2.2.2.2.2.2.2.2.2.2.2.symm
  have heq : d0m = d0 ∧ d1m = d1 ∧ d9m = d9 ∧ d10m = d10 ∧ d6m = d6 ∧ j0m = j0 ∧ j1m = j1 ∧ j9m = j9 ∧ j10m = j10 ∧ j6m = j6 ∧ tl_m = tl_ ∧ fu_m = fu_ ∧ fp_m = fp_ := by omega
  obtain ⟨rfl, rfl, rfl, rfl, rfl, rfl, rfl, rfl, rfl, rfl, rfl, rfl, rfl⟩ := heq
  subst hbn
  refine lv_pop hx hb dL_law_203 rfl ?_
  refine lv_goto (tgt := 997) hx hb dL_law_204 (by decide) ?_
  exact kk hX2 hM2 hP hD hS hl
set_option maxHeartbeats 4000000 in
set_option maxRecDepth 100000 in
theorem law_1 {p : Program} {l : Launch} {e : Env} {s : State} {m : MethodId} {below : List Frame} {meth : Method} {c : Code} {b L : Nat} {xs : Nat → Int32} {D : va_G} {cI cM cT cJ cZ : ClassId} {ii : Int32} {x q : Nat} (Z : Zx p s m #[Value.ref b] meth c code 4 ret R_law (fun q : Nat => s.heap.size ≤ q) (ty3 cI cM cT cJ cZ) D) (hX : va_X b L xs s s.heap) (hbl : b < s.heap.size) (hL : L ≤ 3072) (h0 : 0 ≤ ii.toInt) (h1 : ii.toInt + 6 ≤ (L : Int)) (kk : ∀ {kc0 kc1 kc9 kc10 kc6 ki0 ki1 ki9 ki10 ki6 tl fu0 fp0 : Int} {bt : Nat → Int} {xw mw : va_W} {H : Heap} {locs : List Loc} {ls : Array Slot} (hXi : InvX cI cM cT cJ cZ x kc0 kc1 kc9 kc10 kc6 ki0 ki1 ki9 ki10 ki6 tl fu0 fp0 bt xw) (hMi : InvM cI cM cT cJ cZ q kc0 kc1 kc9 kc10 kc6 ki0 ki1 ki9 ki10 ki6 tl fu0 fp0 bt mw) (hP : va_P D vwCl (xw ++ mw) H) (hD : va_D (fun q : Nat => s.heap.size ≤ q) (xw ++ mw)) (hS : va_S (fun q : Nat => s.heap.size ≤ q) s.heap H locs) (hl : lv_has ls 4 [(0, .ref b), (1, .ref x), (2, .ref q), (3, .int ii)]), W p l e room_1 s m #[Value.ref b] below meth c H locs 300 28000 (lw_Z below #[Value.ref b] s) (F0 m 997 ls [])) : ∀ {kc0 kc1 kc9 kc10 kc6 ki0 ki1 ki9 ki10 ki6 tl fu0 fp0 : Int} {bt : Nat → Int} {xw mw : va_W} {H : Heap} {locs : List Loc} {ls : Array Slot} (hXi : InvX cI cM cT cJ cZ x kc0 kc1 kc9 kc10 kc6 ki0 ki1 ki9 ki10 ki6 tl fu0 fp0 bt xw) (hMi : InvM cI cM cT cJ cZ q kc0 kc1 kc9 kc10 kc6 ki0 ki1 ki9 ki10 ki6 tl fu0 fp0 bt mw) (hP : va_P D vwCl (xw ++ mw) H) (hD : va_D (fun q : Nat => s.heap.size ≤ q) (xw ++ mw)) (hS : va_S (fun q : Nat => s.heap.size ≤ q) s.heap H locs) (hl : lv_has ls 4 [(0, .ref b), (1, .ref x), (2, .ref q), (3, .int ii)]), W p l e room_1 s m #[Value.ref b] below meth c H locs 300 28000 (lw_Z below #[Value.ref b] s) (F0 m 207 ls []) := by
  intro kc0 kc1 kc9 kc10 kc6 ki0 ki1 ki9 ki10 ki6 tl fu0 fp0 bt xw mw H locs ls hXi hMi hP hD hS hl
  have hx := Z.1
  have hb := Z.2.1
  have hbA : ¬ (fun q : Nat => s.heap.size ≤ q) b := Nat.not_le.mpr hbl
  obtain ⟨fs1, hd1⟩ := InvX.head hXi
  obtain ⟨fs2, hd2⟩ := InvM.head hMi
  refine lv_aload_n hx hb dL_law_207 rfl (lv_at hl 1 rfl) ?_
  refine lv_aload_n hx hb dL_law_208 rfl (lv_at hl 0 rfl) ?_
  refine lv_iload_n hx hb dL_law_209 rfl (lv_at hl 3 rfl) ?_
  refine lv_iconst (v := 1) hx hb dL_law_210 (by decide) ?_
  refine lv_iadd hx hb dL_law_211 ?_
  refine va_sld hx hb hX hbl hbA hS (zin h0 h1 hL (by decide)) dL_law_212 ?_
  refine lv_aload_n hx hb dL_law_213 rfl (lv_at hl 0 rfl) ?_
  refine lv_iload_n hx hb dL_law_214 rfl (lv_at hl 3 rfl) ?_
  refine lv_iconst (v := 2) hx hb dL_law_215 (by decide) ?_
  refine lv_iadd hx hb dL_law_216 ?_
  refine va_sld hx hb hX hbl hbA hS (zin h0 h1 hL (by decide)) dL_law_217 ?_
  have hDc := (va_D_left hD)
  refine raw_Vi (ci := 11) (q0 := 0) (nA := 2) (As := [.int (xs (ii + 1).toNatClampNeg), .int (xs (ii + 2).toNatClampNeg)]) (rest := []) Z hl.1 (w_X_bridge l D cI cM cT cJ cZ x kc0 kc1 kc9 kc10 kc6 ki0 ki1 ki9 ki10 ki6 tl fu0 fp0 bt (xs (ii + 1).toNatClampNeg) (xs (ii + 2).toNatClampNeg) hXi) (bw_V bw_504 bw_505 bw_506 bw_80 bw_507) ⟨by decide +kernel, by decide +kernel, by decide +kernel⟩ rfl ⟨Nat.le_of_ble_eq_true rfl, Nat.le_of_ble_eq_true rfl⟩ rfl rfl hd1 (va_P_left hP) hDc hS rfl (Nat.le_of_ble_eq_true rfl) dL_law_218 ⟨Nat.le_of_ble_eq_true rfl, Nat.le_of_ble_eq_true rfl⟩ (fun r1 u H locs h9 hk9 hP1 hD1 hS1 => ?_)
  obtain ⟨d0, d1, d9, d10, d6, j0, j1, j9, j10, j6, tl_, fu_, fp_, bn, hrel1, hX2⟩ := h9
  obtain ⟨hP, hD⟩ := joinL hP hD hk9 (raw_free hDc Z.2.2.2.2.2.2.2.1 hS) hP1 hD1
  have hS := hS1
  clear hS1
  refine lv_pop hx hb dL_law_221 rfl ?_
  refine lv_aload_n hx hb dL_law_222 rfl (lv_at hl 2 rfl) ?_
  refine lv_aload_n hx hb dL_law_223 rfl (lv_at hl 0 rfl) ?_
  refine lv_iload_n hx hb dL_law_224 rfl (lv_at hl 3 rfl) ?_
  refine lv_iconst (v := 1) hx hb dL_law_225 (by decide) ?_
  refine lv_iadd hx hb dL_law_226 ?_
  refine va_sld hx hb hX hbl hbA hS (zin h0 h1 hL (by decide)) dL_law_227 ?_
  refine lv_aload_n hx hb dL_law_228 rfl (lv_at hl 0 rfl) ?_
  refine lv_iload_n hx hb dL_law_229 rfl (lv_at hl 3 rfl) ?_
  refine lv_iconst (v := 2) hx hb dL_law_230 (by decide) ?_
  refine lv_iadd hx hb dL_law_231 ?_
  refine va_sld hx hb hX hbl hbA hS (zin h0 h1 hL (by decide)) dL_law_232 ?_
  have hDc := (va_D_right hD)
  refine raw_Vi (ci := 12) (q0 := 0) (nA := 2) (As := [.int (xs (ii + 1).toNatClampNeg), .int (xs (ii + 2).toNatClampNeg)]) (rest := []) Z hl.1 (w_M_bridge l D cI cM cT cJ cZ q kc0 kc1 kc9 kc10 kc6 ki0 ki1 ki9 ki10 ki6 tl fu0 fp0 bt (xs (ii + 1).toNatClampNeg) (xs (ii + 2).toNatClampNeg) hMi) (bw_V bw_1138 bw_1139 bw_1140 bw_92 bw_1141) ⟨by decide +kernel, by decide +kernel, by decide +kernel⟩ rfl ⟨Nat.le_of_ble_eq_true rfl, Nat.le_of_ble_eq_true rfl⟩ rfl rfl hd2 (va_P_right hP) hDc hS rfl (Nat.le_of_ble_eq_true rfl) dL_law_233 ⟨Nat.le_of_ble_eq_true rfl, Nat.le_of_ble_eq_true rfl⟩ (fun r2 u H locs h9 hk9 hP1 hD1 hS1 => ?_)
  obtain ⟨d0m, d1m, d9m, d10m, d6m, j0m, j1m, j9m, j10m, j6m, tl_m, fu_m, fp_m, bnm, hrel2, hM2⟩ := h9
  obtain ⟨hP, hD⟩ := joinR hP hD hk9 (raw_free hDc Z.2.2.2.2.2.2.2.1 hS) hP1 hD1
  have hS := hS1
  clear hS1
  have hbn : bnm = bn := hrel2.2.2.2.2.2.2.2.2.2.2.2.2.2.trans hrel1.2.2.2.2.2.2.2.2.2.2.2.2.2.symm
  have heq : d0m = d0 ∧ d1m = d1 ∧ d9m = d9 ∧ d10m = d10 ∧ d6m = d6 ∧ j0m = j0 ∧ j1m = j1 ∧ j9m = j9 ∧ j10m = j10 ∧ j6m = j6 ∧ tl_m = tl_ ∧ fu_m = fu_ ∧ fp_m = fp_ := by omega
  obtain ⟨rfl, rfl, rfl, rfl, rfl, rfl, rfl, rfl, rfl, rfl, rfl, rfl, rfl⟩ := heq
  subst hbn
  refine lv_pop hx hb dL_law_236 rfl ?_
  refine lv_goto (tgt := 997) hx hb dL_law_237 (by decide) ?_
  exact kk hX2 hM2 hP hD hS hl
set_option maxHeartbeats 4000000 in
set_option maxRecDepth 100000 in
theorem law_2 {p : Program} {l : Launch} {e : Env} {s : State} {m : MethodId} {below : List Frame} {meth : Method} {c : Code} {b L : Nat} {xs : Nat → Int32} {D : va_G} {cI cM cT cJ cZ : ClassId} {ii : Int32} {x q : Nat} (Z : Zx p s m #[Value.ref b] meth c code 4 ret R_law (fun q : Nat => s.heap.size ≤ q) (ty3 cI cM cT cJ cZ) D) (hX : va_X b L xs s s.heap) (hbl : b < s.heap.size) (hL : L ≤ 3072) (h0 : 0 ≤ ii.toInt) (h1 : ii.toInt + 6 ≤ (L : Int)) (kk : ∀ {kc0 kc1 kc9 kc10 kc6 ki0 ki1 ki9 ki10 ki6 tl fu0 fp0 : Int} {bt : Nat → Int} {xw mw : va_W} {H : Heap} {locs : List Loc} {ls : Array Slot} (hXi : InvX cI cM cT cJ cZ x kc0 kc1 kc9 kc10 kc6 ki0 ki1 ki9 ki10 ki6 tl fu0 fp0 bt xw) (hMi : InvM cI cM cT cJ cZ q kc0 kc1 kc9 kc10 kc6 ki0 ki1 ki9 ki10 ki6 tl fu0 fp0 bt mw) (hP : va_P D vwCl (xw ++ mw) H) (hD : va_D (fun q : Nat => s.heap.size ≤ q) (xw ++ mw)) (hS : va_S (fun q : Nat => s.heap.size ≤ q) s.heap H locs) (hl : lv_has ls 4 [(0, .ref b), (1, .ref x), (2, .ref q), (3, .int ii)]), W p l e room_1 s m #[Value.ref b] below meth c H locs 300 28000 (lw_Z below #[Value.ref b] s) (F0 m 997 ls [])) : ∀ {kc0 kc1 kc9 kc10 kc6 ki0 ki1 ki9 ki10 ki6 tl fu0 fp0 : Int} {bt : Nat → Int} {xw mw : va_W} {H : Heap} {locs : List Loc} {ls : Array Slot} (hXi : InvX cI cM cT cJ cZ x kc0 kc1 kc9 kc10 kc6 ki0 ki1 ki9 ki10 ki6 tl fu0 fp0 bt xw) (hMi : InvM cI cM cT cJ cZ q kc0 kc1 kc9 kc10 kc6 ki0 ki1 ki9 ki10 ki6 tl fu0 fp0 bt mw) (hP : va_P D vwCl (xw ++ mw) H) (hD : va_D (fun q : Nat => s.heap.size ≤ q) (xw ++ mw)) (hS : va_S (fun q : Nat => s.heap.size ≤ q) s.heap H locs) (hl : lv_has ls 4 [(0, .ref b), (1, .ref x), (2, .ref q), (3, .int ii)]), W p l e room_1 s m #[Value.ref b] below meth c H locs 300 28000 (lw_Z below #[Value.ref b] s) (F0 m 240 ls []) := by
  intro kc0 kc1 kc9 kc10 kc6 ki0 ki1 ki9 ki10 ki6 tl fu0 fp0 bt xw mw H locs ls hXi hMi hP hD hS hl
  have hx := Z.1
  have hb := Z.2.1
  have hbA : ¬ (fun q : Nat => s.heap.size ≤ q) b := Nat.not_le.mpr hbl
  obtain ⟨fs1, hd1⟩ := InvX.head hXi
  obtain ⟨fs2, hd2⟩ := InvM.head hMi
  refine lv_aload_n hx hb dL_law_240 rfl (lv_at hl 1 rfl) ?_
  refine lv_aload_n hx hb dL_law_241 rfl (lv_at hl 0 rfl) ?_
  refine lv_iload_n hx hb dL_law_242 rfl (lv_at hl 3 rfl) ?_
  refine lv_iconst (v := 1) hx hb dL_law_243 (by decide) ?_
  refine lv_iadd hx hb dL_law_244 ?_
  refine va_sld hx hb hX hbl hbA hS (zin h0 h1 hL (by decide)) dL_law_245 ?_
  have hDc := (va_D_left hD)
  refine raw_Vi (ci := 11) (q0 := 0) (nA := 1) (As := [.int (xs (ii + 1).toNatClampNeg)]) (rest := []) Z hl.1 (w_X_inn l D cI cM cT cJ cZ x kc0 kc1 kc9 kc10 kc6 ki0 ki1 ki9 ki10 ki6 tl fu0 fp0 bt (xs (ii + 1).toNatClampNeg) hXi) (bw_V bw_508 bw_509 bw_510 bw_80 bw_511) ⟨by decide +kernel, by decide +kernel, by decide +kernel⟩ rfl ⟨Nat.le_of_ble_eq_true rfl, Nat.le_of_ble_eq_true rfl⟩ rfl rfl hd1 (va_P_left hP) hDc hS rfl (Nat.le_of_ble_eq_true rfl) dL_law_246 ⟨Nat.le_of_ble_eq_true rfl, Nat.le_of_ble_eq_true rfl⟩ (fun r1 u H locs h9 hk9 hP1 hD1 hS1 => ?_)
  obtain ⟨d0, d1, d9, d10, d6, j0, j1, j9, j10, j6, tl_, fu_, fp_, bn, hrel1, hX2⟩ := h9
  obtain ⟨hP, hD⟩ := joinL hP hD hk9 (raw_free hDc Z.2.2.2.2.2.2.2.1 hS) hP1 hD1
  have hS := hS1
  clear hS1
  refine lv_pop hx hb dL_law_249 rfl ?_
  refine lv_aload_n hx hb dL_law_250 rfl (lv_at hl 2 rfl) ?_
  refine lv_aload_n hx hb dL_law_251 rfl (lv_at hl 0 rfl) ?_
  refine lv_iload_n hx hb dL_law_252 rfl (lv_at hl 3 rfl) ?_
  refine lv_iconst (v := 1) hx hb dL_law_253 (by decide) ?_
  refine lv_iadd hx hb dL_law_254 ?_
  refine va_sld hx hb hX hbl hbA hS (zin h0 h1 hL (by decide)) dL_law_255 ?_
  have hDc := (va_D_right hD)
  refine raw_Vi (ci := 12) (q0 := 0) (nA := 1) (As := [.int (xs (ii + 1).toNatClampNeg)]) (rest := []) Z hl.1 (w_M_inn l D cI cM cT cJ cZ q kc0 kc1 kc9 kc10 kc6 ki0 ki1 ki9 ki10 ki6 tl fu0 fp0 bt (xs (ii + 1).toNatClampNeg) hMi) (bw_V bw_1142 bw_1143 bw_1144 bw_92 bw_1145) ⟨by decide +kernel, by decide +kernel, by decide +kernel⟩ rfl ⟨Nat.le_of_ble_eq_true rfl, Nat.le_of_ble_eq_true rfl⟩ rfl rfl hd2 (va_P_right hP) hDc hS rfl (Nat.le_of_ble_eq_true rfl) dL_law_256 ⟨Nat.le_of_ble_eq_true rfl, Nat.le_of_ble_eq_true rfl⟩ (fun r2 u H locs h9 hk9 hP1 hD1 hS1 => ?_)
  obtain ⟨d0m, d1m, d9m, d10m, d6m, j0m, j1m, j9m, j10m, j6m, tl_m, fu_m, fp_m, bnm, hrel2, hM2⟩ := h9
  obtain ⟨hP, hD⟩ := joinR hP hD hk9 (raw_free hDc Z.2.2.2.2.2.2.2.1 hS) hP1 hD1
  have hS := hS1
  clear hS1
  have hbn : bnm = bn := hrel2.2.2.2.2.2.2.2.2.2.2.2.2.2.trans hrel1.2.2.2.2.2.2.2.2.2.2.2.2.2.symm
  have heq : d0m = d0 ∧ d1m = d1 ∧ d9m = d9 ∧ d10m = d10 ∧ d6m = d6 ∧ j0m = j0 ∧ j1m = j1 ∧ j9m = j9 ∧ j10m = j10 ∧ j6m = j6 ∧ tl_m = tl_ ∧ fu_m = fu_ ∧ fp_m = fp_ := by omega
  obtain ⟨rfl, rfl, rfl, rfl, rfl, rfl, rfl, rfl, rfl, rfl, rfl, rfl, rfl⟩ := heq
  subst hbn
  refine lv_pop hx hb dL_law_259 rfl ?_
  refine lv_goto (tgt := 997) hx hb dL_law_260 (by decide) ?_
  exact kk hX2 hM2 hP hD hS hl
set_option maxHeartbeats 4000000 in
set_option maxRecDepth 100000 in
theorem law_3 {p : Program} {l : Launch} {e : Env} {s : State} {m : MethodId} {below : List Frame} {meth : Method} {c : Code} {b L : Nat} {xs : Nat → Int32} {D : va_G} {cI cM cT cJ cZ : ClassId} {ii : Int32} {x q : Nat} (Z : Zx p s m #[Value.ref b] meth c code 4 ret R_law (fun q : Nat => s.heap.size ≤ q) (ty3 cI cM cT cJ cZ) D) (hX : va_X b L xs s s.heap) (hbl : b < s.heap.size) (hL : L ≤ 3072) (h0 : 0 ≤ ii.toInt) (h1 : ii.toInt + 6 ≤ (L : Int)) (kk : ∀ {kc0 kc1 kc9 kc10 kc6 ki0 ki1 ki9 ki10 ki6 tl fu0 fp0 : Int} {bt : Nat → Int} {xw mw : va_W} {H : Heap} {locs : List Loc} {ls : Array Slot} (hXi : InvX cI cM cT cJ cZ x kc0 kc1 kc9 kc10 kc6 ki0 ki1 ki9 ki10 ki6 tl fu0 fp0 bt xw) (hMi : InvM cI cM cT cJ cZ q kc0 kc1 kc9 kc10 kc6 ki0 ki1 ki9 ki10 ki6 tl fu0 fp0 bt mw) (hP : va_P D vwCl (xw ++ mw) H) (hD : va_D (fun q : Nat => s.heap.size ≤ q) (xw ++ mw)) (hS : va_S (fun q : Nat => s.heap.size ≤ q) s.heap H locs) (hl : lv_has ls 4 [(0, .ref b), (1, .ref x), (2, .ref q), (3, .int ii)]), W p l e room_1 s m #[Value.ref b] below meth c H locs 300 28000 (lw_Z below #[Value.ref b] s) (F0 m 997 ls [])) : ∀ {kc0 kc1 kc9 kc10 kc6 ki0 ki1 ki9 ki10 ki6 tl fu0 fp0 : Int} {bt : Nat → Int} {xw mw : va_W} {H : Heap} {locs : List Loc} {ls : Array Slot} (hXi : InvX cI cM cT cJ cZ x kc0 kc1 kc9 kc10 kc6 ki0 ki1 ki9 ki10 ki6 tl fu0 fp0 bt xw) (hMi : InvM cI cM cT cJ cZ q kc0 kc1 kc9 kc10 kc6 ki0 ki1 ki9 ki10 ki6 tl fu0 fp0 bt mw) (hP : va_P D vwCl (xw ++ mw) H) (hD : va_D (fun q : Nat => s.heap.size ≤ q) (xw ++ mw)) (hS : va_S (fun q : Nat => s.heap.size ≤ q) s.heap H locs) (hl : lv_has ls 4 [(0, .ref b), (1, .ref x), (2, .ref q), (3, .int ii)]), W p l e room_1 s m #[Value.ref b] below meth c H locs 300 28000 (lw_Z below #[Value.ref b] s) (F0 m 263 ls []) := by
  intro kc0 kc1 kc9 kc10 kc6 ki0 ki1 ki9 ki10 ki6 tl fu0 fp0 bt xw mw H locs ls hXi hMi hP hD hS hl
  have hx := Z.1
  have hb := Z.2.1
  have hbA : ¬ (fun q : Nat => s.heap.size ≤ q) b := Nat.not_le.mpr hbl
  obtain ⟨fs1, hd1⟩ := InvX.head hXi
  obtain ⟨fs2, hd2⟩ := InvM.head hMi
  refine lv_aload_n hx hb dL_law_263 rfl (lv_at hl 1 rfl) ?_
  refine lv_aload_n hx hb dL_law_264 rfl (lv_at hl 0 rfl) ?_
  refine lv_iload_n hx hb dL_law_265 rfl (lv_at hl 3 rfl) ?_
  refine lv_iconst (v := 1) hx hb dL_law_266 (by decide) ?_
  refine lv_iadd hx hb dL_law_267 ?_
  refine va_sld hx hb hX hbl hbA hS (zin h0 h1 hL (by decide)) dL_law_268 ?_
  refine lv_aload_n hx hb dL_law_269 rfl (lv_at hl 0 rfl) ?_
  refine lv_iload_n hx hb dL_law_270 rfl (lv_at hl 3 rfl) ?_
  refine lv_iconst (v := 2) hx hb dL_law_271 (by decide) ?_
  refine lv_iadd hx hb dL_law_272 ?_
  refine va_sld hx hb hX hbl hbA hS (zin h0 h1 hL (by decide)) dL_law_273 ?_
  have hDc := (va_D_left hD)
  refine raw_Vi (ci := 11) (q0 := 0) (nA := 2) (As := [.int (xs (ii + 1).toNatClampNeg), .int (xs (ii + 2).toNatClampNeg)]) (rest := []) Z hl.1 (w_X_move l D cI cM cT cJ cZ x kc0 kc1 kc9 kc10 kc6 ki0 ki1 ki9 ki10 ki6 tl fu0 fp0 bt (xs (ii + 1).toNatClampNeg) (xs (ii + 2).toNatClampNeg) hXi) (bw_V bw_512 bw_513 bw_514 bw_80 bw_515) ⟨by decide +kernel, by decide +kernel, by decide +kernel⟩ rfl ⟨Nat.le_of_ble_eq_true rfl, Nat.le_of_ble_eq_true rfl⟩ rfl rfl hd1 (va_P_left hP) hDc hS rfl (Nat.le_of_ble_eq_true rfl) dL_law_274 ⟨Nat.le_of_ble_eq_true rfl, Nat.le_of_ble_eq_true rfl⟩ (fun r1 u H locs h9 hk9 hP1 hD1 hS1 => ?_)
  obtain ⟨d0, d1, d9, d10, d6, j0, j1, j9, j10, j6, tl_, fu_, fp_, bn, hrel1, hX2⟩ := h9
  obtain ⟨hP, hD⟩ := joinL hP hD hk9 (raw_free hDc Z.2.2.2.2.2.2.2.1 hS) hP1 hD1
  have hS := hS1
  clear hS1
  refine lv_pop hx hb dL_law_277 rfl ?_
  refine lv_aload_n hx hb dL_law_278 rfl (lv_at hl 2 rfl) ?_
  refine lv_aload_n hx hb dL_law_279 rfl (lv_at hl 0 rfl) ?_
  refine lv_iload_n hx hb dL_law_280 rfl (lv_at hl 3 rfl) ?_
  refine lv_iconst (v := 1) hx hb dL_law_281 (by decide) ?_
  refine lv_iadd hx hb dL_law_282 ?_
  refine va_sld hx hb hX hbl hbA hS (zin h0 h1 hL (by decide)) dL_law_283 ?_
  refine lv_aload_n hx hb dL_law_284 rfl (lv_at hl 0 rfl) ?_
  refine lv_iload_n hx hb dL_law_285 rfl (lv_at hl 3 rfl) ?_
  refine lv_iconst (v := 2) hx hb dL_law_286 (by decide) ?_
  refine lv_iadd hx hb dL_law_287 ?_
  refine va_sld hx hb hX hbl hbA hS (zin h0 h1 hL (by decide)) dL_law_288 ?_
  have hDc := (va_D_right hD)
  refine raw_Vi (ci := 12) (q0 := 0) (nA := 2) (As := [.int (xs (ii + 1).toNatClampNeg), .int (xs (ii + 2).toNatClampNeg)]) (rest := []) Z hl.1 (w_M_move l D cI cM cT cJ cZ q kc0 kc1 kc9 kc10 kc6 ki0 ki1 ki9 ki10 ki6 tl fu0 fp0 bt (xs (ii + 1).toNatClampNeg) (xs (ii + 2).toNatClampNeg) hMi) (bw_V bw_1348 bw_1349 bw_1350 bw_92 bw_1351) ⟨by decide +kernel, by decide +kernel, by decide +kernel⟩ rfl ⟨Nat.le_of_ble_eq_true rfl, Nat.le_of_ble_eq_true rfl⟩ rfl rfl hd2 (va_P_right hP) hDc hS rfl (Nat.le_of_ble_eq_true rfl) dL_law_289 ⟨Nat.le_of_ble_eq_true rfl, Nat.le_of_ble_eq_true rfl⟩ (fun r2 u H locs h9 hk9 hP1 hD1 hS1 => ?_)
  obtain ⟨d0m, d1m, d9m, d10m, d6m, j0m, j1m, j9m, j10m, j6m, tl_m, fu_m, fp_m, bnm, hrel2, hM2⟩ := h9
  obtain ⟨hP, hD⟩ := joinR hP hD hk9 (raw_free hDc Z.2.2.2.2.2.2.2.1 hS) hP1 hD1
  have hS := hS1
  clear hS1
  have hbn : bnm = bn := hrel2.2.2.2.2.2.2.2.2.2.2.2.2.2.trans hrel1.2.2.2.2.2.2.2.2.2.2.2.2.2.symm
  have heq : d0m = d0 ∧ d1m = d1 ∧ d9m = d9 ∧ d10m = d10 ∧ d6m = d6 ∧ j0m = j0 ∧ j1m = j1 ∧ j9m = j9 ∧ j10m = j10 ∧ j6m = j6 ∧ tl_m = tl_ ∧ fu_m = fu_ ∧ fp_m = fp_ := by omega
  obtain ⟨rfl, rfl, rfl, rfl, rfl, rfl, rfl, rfl, rfl, rfl, rfl, rfl, rfl⟩ := heq
  subst hbn
  refine lv_pop hx hb dL_law_292 rfl ?_
  refine lv_goto (tgt := 997) hx hb dL_law_293 (by decide) ?_
  exact kk hX2 hM2 hP hD hS hl
set_option maxHeartbeats 4000000 in
set_option maxRecDepth 100000 in
theorem law_4 {p : Program} {l : Launch} {e : Env} {s : State} {m : MethodId} {below : List Frame} {meth : Method} {c : Code} {b L : Nat} {xs : Nat → Int32} {D : va_G} {cI cM cT cJ cZ : ClassId} {ii : Int32} {x q : Nat} (Z : Zx p s m #[Value.ref b] meth c code 4 ret R_law (fun q : Nat => s.heap.size ≤ q) (ty3 cI cM cT cJ cZ) D) (hX : va_X b L xs s s.heap) (hbl : b < s.heap.size) (hL : L ≤ 3072) (h0 : 0 ≤ ii.toInt) (h1 : ii.toInt + 6 ≤ (L : Int)) (kk : ∀ {kc0 kc1 kc9 kc10 kc6 ki0 ki1 ki9 ki10 ki6 tl fu0 fp0 : Int} {bt : Nat → Int} {xw mw : va_W} {H : Heap} {locs : List Loc} {ls : Array Slot} (hXi : InvX cI cM cT cJ cZ x kc0 kc1 kc9 kc10 kc6 ki0 ki1 ki9 ki10 ki6 tl fu0 fp0 bt xw) (hMi : InvM cI cM cT cJ cZ q kc0 kc1 kc9 kc10 kc6 ki0 ki1 ki9 ki10 ki6 tl fu0 fp0 bt mw) (hP : va_P D vwCl (xw ++ mw) H) (hD : va_D (fun q : Nat => s.heap.size ≤ q) (xw ++ mw)) (hS : va_S (fun q : Nat => s.heap.size ≤ q) s.heap H locs) (hl : lv_has ls 4 [(0, .ref b), (1, .ref x), (2, .ref q), (3, .int ii)]), W p l e room_1 s m #[Value.ref b] below meth c H locs 300 28000 (lw_Z below #[Value.ref b] s) (F0 m 997 ls [])) : ∀ {kc0 kc1 kc9 kc10 kc6 ki0 ki1 ki9 ki10 ki6 tl fu0 fp0 : Int} {bt : Nat → Int} {xw mw : va_W} {H : Heap} {locs : List Loc} {ls : Array Slot} (hXi : InvX cI cM cT cJ cZ x kc0 kc1 kc9 kc10 kc6 ki0 ki1 ki9 ki10 ki6 tl fu0 fp0 bt xw) (hMi : InvM cI cM cT cJ cZ q kc0 kc1 kc9 kc10 kc6 ki0 ki1 ki9 ki10 ki6 tl fu0 fp0 bt mw) (hP : va_P D vwCl (xw ++ mw) H) (hD : va_D (fun q : Nat => s.heap.size ≤ q) (xw ++ mw)) (hS : va_S (fun q : Nat => s.heap.size ≤ q) s.heap H locs) (hl : lv_has ls 4 [(0, .ref b), (1, .ref x), (2, .ref q), (3, .int ii)]), W p l e room_1 s m #[Value.ref b] below meth c H locs 300 28000 (lw_Z below #[Value.ref b] s) (F0 m 296 ls []) := by
  intro kc0 kc1 kc9 kc10 kc6 ki0 ki1 ki9 ki10 ki6 tl fu0 fp0 bt xw mw H locs ls hXi hMi hP hD hS hl
  have hx := Z.1
  have hb := Z.2.1
  have hbA : ¬ (fun q : Nat => s.heap.size ≤ q) b := Nat.not_le.mpr hbl
  obtain ⟨fs1, hd1⟩ := InvX.head hXi
  obtain ⟨fs2, hd2⟩ := InvM.head hMi
  refine lv_aload_n hx hb dL_law_296 rfl (lv_at hl 1 rfl) ?_
  refine lv_aload_n hx hb dL_law_297 rfl (lv_at hl 0 rfl) ?_
  refine lv_iload_n hx hb dL_law_298 rfl (lv_at hl 3 rfl) ?_
  refine lv_iconst (v := 1) hx hb dL_law_299 (by decide) ?_
  refine lv_iadd hx hb dL_law_300 ?_
  refine va_sld hx hb hX hbl hbA hS (zin h0 h1 hL (by decide)) dL_law_301 ?_
  refine lv_aload_n hx hb dL_law_302 rfl (lv_at hl 0 rfl) ?_
  refine lv_iload_n hx hb dL_law_303 rfl (lv_at hl 3 rfl) ?_
  refine lv_iconst (v := 2) hx hb dL_law_304 (by decide) ?_
  refine lv_iadd hx hb dL_law_305 ?_
  refine va_sld hx hb hX hbl hbA hS (zin h0 h1 hL (by decide)) dL_law_306 ?_
  have hDc := (va_D_left hD)
  refine raw_Vi (ci := 11) (q0 := 0) (nA := 2) (As := [.int (xs (ii + 1).toNatClampNeg), .int (xs (ii + 2).toNatClampNeg)]) (rest := []) Z hl.1 (w_X_horse l D cI cM cT cJ cZ x kc0 kc1 kc9 kc10 kc6 ki0 ki1 ki9 ki10 ki6 tl fu0 fp0 bt (xs (ii + 1).toNatClampNeg) (xs (ii + 2).toNatClampNeg) hXi) (bw_V bw_527 bw_528 bw_529 bw_80 bw_530) ⟨by decide +kernel, by decide +kernel, by decide +kernel⟩ rfl ⟨Nat.le_of_ble_eq_true rfl, Nat.le_of_ble_eq_true rfl⟩ rfl rfl hd1 (va_P_left hP) hDc hS rfl (Nat.le_of_ble_eq_true rfl) dL_law_307 ⟨Nat.le_of_ble_eq_true rfl, Nat.le_of_ble_eq_true rfl⟩ (fun r1 u H locs h9 hk9 hP1 hD1 hS1 => ?_)
  obtain ⟨d0, d1, d9, d10, d6, j0, j1, j9, j10, j6, tl_, fu_, fp_, bn, hrel1, hX2⟩ := h9
  obtain ⟨hP, hD⟩ := joinL hP hD hk9 (raw_free hDc Z.2.2.2.2.2.2.2.1 hS) hP1 hD1
  have hS := hS1
  clear hS1
  refine lv_pop hx hb dL_law_310 rfl ?_
  refine lv_aload_n hx hb dL_law_311 rfl (lv_at hl 2 rfl) ?_
  refine lv_aload_n hx hb dL_law_312 rfl (lv_at hl 0 rfl) ?_
  refine lv_iload_n hx hb dL_law_313 rfl (lv_at hl 3 rfl) ?_
  refine lv_iconst (v := 1) hx hb dL_law_314 (by decide) ?_
  refine lv_iadd hx hb dL_law_315 ?_
  refine va_sld hx hb hX hbl hbA hS (zin h0 h1 hL (by decide)) dL_law_316 ?_
  refine lv_aload_n hx hb dL_law_317 rfl (lv_at hl 0 rfl) ?_
  refine lv_iload_n hx hb dL_law_318 rfl (lv_at hl 3 rfl) ?_
  refine lv_iconst (v := 2) hx hb dL_law_319 (by decide) ?_
  refine lv_iadd hx hb dL_law_320 ?_
  refine va_sld hx hb hX hbl hbA hS (zin h0 h1 hL (by decide)) dL_law_321 ?_
  have hDc := (va_D_right hD)
  refine raw_Vi (ci := 12) (q0 := 0) (nA := 2) (As := [.int (xs (ii + 1).toNatClampNeg), .int (xs (ii + 2).toNatClampNeg)]) (rest := []) Z hl.1 (w_M_horse l D cI cM cT cJ cZ q kc0 kc1 kc9 kc10 kc6 ki0 ki1 ki9 ki10 ki6 tl fu0 fp0 bt (xs (ii + 1).toNatClampNeg) (xs (ii + 2).toNatClampNeg) hMi) (bw_V bw_1146 bw_1147 bw_1148 bw_92 bw_1149) ⟨by decide +kernel, by decide +kernel, by decide +kernel⟩ rfl ⟨Nat.le_of_ble_eq_true rfl, Nat.le_of_ble_eq_true rfl⟩ rfl rfl hd2 (va_P_right hP) hDc hS rfl (Nat.le_of_ble_eq_true rfl) dL_law_322 ⟨Nat.le_of_ble_eq_true rfl, Nat.le_of_ble_eq_true rfl⟩ (fun r2 u H locs h9 hk9 hP1 hD1 hS1 => ?_)
  obtain ⟨d0m, d1m, d9m, d10m, d6m, j0m, j1m, j9m, j10m, j6m, tl_m, fu_m, fp_m, bnm, hrel2, hM2⟩ := h9
  obtain ⟨hP, hD⟩ := joinR hP hD hk9 (raw_free hDc Z.2.2.2.2.2.2.2.1 hS) hP1 hD1
  have hS := hS1
  clear hS1
  have hbn : bnm = bn := hrel2.2.2.2.2.2.2.2.2.2.2.2.2.2.trans hrel1.2.2.2.2.2.2.2.2.2.2.2.2.2.symm
  have heq : d0m = d0 ∧ d1m = d1 ∧ d9m = d9 ∧ d10m = d10 ∧ d6m = d6 ∧ j0m = j0 ∧ j1m = j1 ∧ j9m = j9 ∧ j10m = j10 ∧ j6m = j6 ∧ tl_m = tl_ ∧ fu_m = fu_ ∧ fp_m = fp_ := by omega
  obtain ⟨rfl, rfl, rfl, rfl, rfl, rfl, rfl, rfl, rfl, rfl, rfl, rfl, rfl⟩ := heq
  subst hbn
  refine lv_pop hx hb dL_law_325 rfl ?_
  refine lv_goto (tgt := 997) hx hb dL_law_326 (by decide) ?_
  exact kk hX2 hM2 hP hD hS hl
set_option maxHeartbeats 4000000 in
set_option maxRecDepth 100000 in
theorem law_5 {p : Program} {l : Launch} {e : Env} {s : State} {m : MethodId} {below : List Frame} {meth : Method} {c : Code} {b L : Nat} {xs : Nat → Int32} {D : va_G} {cI cM cT cJ cZ : ClassId} {ii : Int32} {x q : Nat} (Z : Zx p s m #[Value.ref b] meth c code 4 ret R_law (fun q : Nat => s.heap.size ≤ q) (ty3 cI cM cT cJ cZ) D) (hX : va_X b L xs s s.heap) (hbl : b < s.heap.size) (hL : L ≤ 3072) (h0 : 0 ≤ ii.toInt) (h1 : ii.toInt + 6 ≤ (L : Int)) (kk : ∀ {kc0 kc1 kc9 kc10 kc6 ki0 ki1 ki9 ki10 ki6 tl fu0 fp0 : Int} {bt : Nat → Int} {xw mw : va_W} {H : Heap} {locs : List Loc} {ls : Array Slot} (hXi : InvX cI cM cT cJ cZ x kc0 kc1 kc9 kc10 kc6 ki0 ki1 ki9 ki10 ki6 tl fu0 fp0 bt xw) (hMi : InvM cI cM cT cJ cZ q kc0 kc1 kc9 kc10 kc6 ki0 ki1 ki9 ki10 ki6 tl fu0 fp0 bt mw) (hP : va_P D vwCl (xw ++ mw) H) (hD : va_D (fun q : Nat => s.heap.size ≤ q) (xw ++ mw)) (hS : va_S (fun q : Nat => s.heap.size ≤ q) s.heap H locs) (hl : lv_has ls 4 [(0, .ref b), (1, .ref x), (2, .ref q), (3, .int ii)]), W p l e room_1 s m #[Value.ref b] below meth c H locs 300 28000 (lw_Z below #[Value.ref b] s) (F0 m 997 ls [])) : ∀ {kc0 kc1 kc9 kc10 kc6 ki0 ki1 ki9 ki10 ki6 tl fu0 fp0 : Int} {bt : Nat → Int} {xw mw : va_W} {H : Heap} {locs : List Loc} {ls : Array Slot} (hXi : InvX cI cM cT cJ cZ x kc0 kc1 kc9 kc10 kc6 ki0 ki1 ki9 ki10 ki6 tl fu0 fp0 bt xw) (hMi : InvM cI cM cT cJ cZ q kc0 kc1 kc9 kc10 kc6 ki0 ki1 ki9 ki10 ki6 tl fu0 fp0 bt mw) (hP : va_P D vwCl (xw ++ mw) H) (hD : va_D (fun q : Nat => s.heap.size ≤ q) (xw ++ mw)) (hS : va_S (fun q : Nat => s.heap.size ≤ q) s.heap H locs) (hl : lv_has ls 4 [(0, .ref b), (1, .ref x), (2, .ref q), (3, .int ii)]), W p l e room_1 s m #[Value.ref b] below meth c H locs 300 28000 (lw_Z below #[Value.ref b] s) (F0 m 329 ls []) := by
  intro kc0 kc1 kc9 kc10 kc6 ki0 ki1 ki9 ki10 ki6 tl fu0 fp0 bt xw mw H locs ls hXi hMi hP hD hS hl
  have hx := Z.1
  have hb := Z.2.1
  have hbA : ¬ (fun q : Nat => s.heap.size ≤ q) b := Nat.not_le.mpr hbl
  obtain ⟨fs1, hd1⟩ := InvX.head hXi
  obtain ⟨fs2, hd2⟩ := InvM.head hMi
  refine lv_aload_n hx hb dL_law_329 rfl (lv_at hl 1 rfl) ?_
  refine lv_aload_n hx hb dL_law_330 rfl (lv_at hl 0 rfl) ?_
  refine lv_iload_n hx hb dL_law_331 rfl (lv_at hl 3 rfl) ?_
  refine lv_iconst (v := 1) hx hb dL_law_332 (by decide) ?_
  refine lv_iadd hx hb dL_law_333 ?_
  refine va_sld hx hb hX hbl hbA hS (zin h0 h1 hL (by decide)) dL_law_334 ?_
  refine lv_aload_n hx hb dL_law_335 rfl (lv_at hl 0 rfl) ?_
  refine lv_iload_n hx hb dL_law_336 rfl (lv_at hl 3 rfl) ?_
  refine lv_iconst (v := 2) hx hb dL_law_337 (by decide) ?_
  refine lv_iadd hx hb dL_law_338 ?_
  refine va_sld hx hb hX hbl hbA hS (zin h0 h1 hL (by decide)) dL_law_339 ?_
  have hDc := (va_D_left hD)
  refine raw_Vi (ci := 11) (q0 := 0) (nA := 2) (As := [.int (xs (ii + 1).toNatClampNeg), .int (xs (ii + 2).toNatClampNeg)]) (rest := []) Z hl.1 (w_X_weather l D cI cM cT cJ cZ x kc0 kc1 kc9 kc10 kc6 ki0 ki1 ki9 ki10 ki6 tl fu0 fp0 bt (xs (ii + 1).toNatClampNeg) (xs (ii + 2).toNatClampNeg) hXi) (bw_V bw_531 bw_532 bw_533 bw_80 bw_534) ⟨by decide +kernel, by decide +kernel, by decide +kernel⟩ rfl ⟨Nat.le_of_ble_eq_true rfl, Nat.le_of_ble_eq_true rfl⟩ rfl rfl hd1 (va_P_left hP) hDc hS rfl (Nat.le_of_ble_eq_true rfl) dL_law_340 ⟨Nat.le_of_ble_eq_true rfl, Nat.le_of_ble_eq_true rfl⟩ (fun r1 u H locs h9 hk9 hP1 hD1 hS1 => ?_)
  obtain ⟨d0, d1, d9, d10, d6, j0, j1, j9, j10, j6, tl_, fu_, fp_, bn, hrel1, hX2⟩ := h9
  obtain ⟨hP, hD⟩ := joinL hP hD hk9 (raw_free hDc Z.2.2.2.2.2.2.2.1 hS) hP1 hD1
  have hS := hS1
  clear hS1
  refine lv_pop hx hb dL_law_343 rfl ?_
  refine lv_aload_n hx hb dL_law_344 rfl (lv_at hl 2 rfl) ?_
  refine lv_aload_n hx hb dL_law_345 rfl (lv_at hl 0 rfl) ?_
  refine lv_iload_n hx hb dL_law_346 rfl (lv_at hl 3 rfl) ?_
  refine lv_iconst (v := 1) hx hb dL_law_347 (by decide) ?_
  refine lv_iadd hx hb dL_law_348 ?_
  refine va_sld hx hb hX hbl hbA hS (zin h0 h1 hL (by decide)) dL_law_349 ?_
  refine lv_aload_n hx hb dL_law_350 rfl (lv_at hl 0 rfl) ?_
  refine lv_iload_n hx hb dL_law_351 rfl (lv_at hl 3 rfl) ?_
  refine lv_iconst (v := 2) hx hb dL_law_352 (by decide) ?_
  refine lv_iadd hx hb dL_law_353 ?_
  refine va_sld hx hb hX hbl hbA hS (zin h0 h1 hL (by decide)) dL_law_354 ?_
  have hDc := (va_D_right hD)
  refine raw_Vi (ci := 12) (q0 := 0) (nA := 2) (As := [.int (xs (ii + 1).toNatClampNeg), .int (xs (ii + 2).toNatClampNeg)]) (rest := []) Z hl.1 (w_M_weather l D cI cM cT cJ cZ q kc0 kc1 kc9 kc10 kc6 ki0 ki1 ki9 ki10 ki6 tl fu0 fp0 bt (xs (ii + 1).toNatClampNeg) (xs (ii + 2).toNatClampNeg) hMi) (bw_V bw_1150 bw_1151 bw_1152 bw_92 bw_1153) ⟨by decide +kernel, by decide +kernel, by decide +kernel⟩ rfl ⟨Nat.le_of_ble_eq_true rfl, Nat.le_of_ble_eq_true rfl⟩ rfl rfl hd2 (va_P_right hP) hDc hS rfl (Nat.le_of_ble_eq_true rfl) dL_law_355 ⟨Nat.le_of_ble_eq_true rfl, Nat.le_of_ble_eq_true rfl⟩ (fun r2 u H locs h9 hk9 hP1 hD1 hS1 => ?_)
  obtain ⟨d0m, d1m, d9m, d10m, d6m, j0m, j1m, j9m, j10m, j6m, tl_m, fu_m, fp_m, bnm, hrel2, hM2⟩ := h9
  obtain ⟨hP, hD⟩ := joinR hP hD hk9 (raw_free hDc Z.2.2.2.2.2.2.2.1 hS) hP1 hD1
  have hS := hS1
  clear hS1
  have hbn : bnm = bn := hrel2.2.2.2.2.2.2.2.2.2.2.2.2.2.2.trans hrel1.2.2.2.2.2.2.2.2.2.2.2.2.2.2.symm
  have heq : d0m = d0 ∧ d1m = d1 ∧ d9m = d9 ∧ d10m = d10 ∧ d6m = d6 ∧ j0m = j0 ∧ j1m = j1 ∧ j9m = j9 ∧ j10m = j10 ∧ j6m = j6 ∧ tl_m = tl_ ∧ fu_m = fu_ ∧ fp_m = fp_ := by omega
  obtain ⟨rfl, rfl, rfl, rfl, rfl, rfl, rfl, rfl, rfl, rfl, rfl, rfl, rfl⟩ := heq
  subst hbn
  refine lv_pop hx hb dL_law_358 rfl ?_
  refine lv_goto (tgt := 997) hx hb dL_law_359 (by decide) ?_
  exact kk hX2 hM2 hP hD hS hl
set_option maxHeartbeats 4000000 in
set_option maxRecDepth 100000 in
theorem law_6 {p : Program} {l : Launch} {e : Env} {s : State} {m : MethodId} {below : List Frame} {meth : Method} {c : Code} {b L : Nat} {xs : Nat → Int32} {D : va_G} {cI cM cT cJ cZ : ClassId} {ii : Int32} {x q : Nat} (Z : Zx p s m #[Value.ref b] meth c code 4 ret R_law (fun q : Nat => s.heap.size ≤ q) (ty3 cI cM cT cJ cZ) D) (hX : va_X b L xs s s.heap) (hbl : b < s.heap.size) (hL : L ≤ 3072) (h0 : 0 ≤ ii.toInt) (h1 : ii.toInt + 6 ≤ (L : Int)) (kk : ∀ {kc0 kc1 kc9 kc10 kc6 ki0 ki1 ki9 ki10 ki6 tl fu0 fp0 : Int} {bt : Nat → Int} {xw mw : va_W} {H : Heap} {locs : List Loc} {ls : Array Slot} (hXi : InvX cI cM cT cJ cZ x kc0 kc1 kc9 kc10 kc6 ki0 ki1 ki9 ki10 ki6 tl fu0 fp0 bt xw) (hMi : InvM cI cM cT cJ cZ q kc0 kc1 kc9 kc10 kc6 ki0 ki1 ki9 ki10 ki6 tl fu0 fp0 bt mw) (hP : va_P D vwCl (xw ++ mw) H) (hD : va_D (fun q : Nat => s.heap.size ≤ q) (xw ++ mw)) (hS : va_S (fun q : Nat => s.heap.size ≤ q) s.heap H locs) (hl : lv_has ls 4 [(0, .ref b), (1, .ref x), (2, .ref q), (3, .int ii)]), W p l e room_1 s m #[Value.ref b] below meth c H locs 300 28000 (lw_Z below #[Value.ref b] s) (F0 m 997 ls [])) : ∀ {kc0 kc1 kc9 kc10 kc6 ki0 ki1 ki9 ki10 ki6 tl fu0 fp0 : Int} {bt : Nat → Int} {xw mw : va_W} {H : Heap} {locs : List Loc} {ls : Array Slot} (hXi : InvX cI cM cT cJ cZ x kc0 kc1 kc9 kc10 kc6 ki0 ki1 ki9 ki10 ki6 tl fu0 fp0 bt xw) (hMi : InvM cI cM cT cJ cZ q kc0 kc1 kc9 kc10 kc6 ki0 ki1 ki9 ki10 ki6 tl fu0 fp0 bt mw) (hP : va_P D vwCl (xw ++ mw) H) (hD : va_D (fun q : Nat => s.heap.size ≤ q) (xw ++ mw)) (hS : va_S (fun q : Nat => s.heap.size ≤ q) s.heap H locs) (hl : lv_has ls 4 [(0, .ref b), (1, .ref x), (2, .ref q), (3, .int ii)]), W p l e room_1 s m #[Value.ref b] below meth c H locs 300 28000 (lw_Z below #[Value.ref b] s) (F0 m 362 ls []) := by
  intro kc0 kc1 kc9 kc10 kc6 ki0 ki1 ki9 ki10 ki6 tl fu0 fp0 bt xw mw H locs ls hXi hMi hP hD hS hl
  have hx := Z.1
  have hb := Z.2.1
  have hbA : ¬ (fun q : Nat => s.heap.size ≤ q) b := Nat.not_le.mpr hbl
  obtain ⟨fs1, hd1⟩ := InvX.head hXi
  obtain ⟨fs2, hd2⟩ := InvM.head hMi
  refine lv_aload_n hx hb dL_law_362 rfl (lv_at hl 1 rfl) ?_
  refine lv_aload_n hx hb dL_law_363 rfl (lv_at hl 0 rfl) ?_
  refine lv_iload_n hx hb dL_law_364 rfl (lv_at hl 3 rfl) ?_
  refine lv_iconst (v := 1) hx hb dL_law_365 (by decide) ?_
  refine lv_iadd hx hb dL_law_366 ?_
  refine va_sld hx hb hX hbl hbA hS (zin h0 h1 hL (by decide)) dL_law_367 ?_
  refine lv_aload_n hx hb dL_law_368 rfl (lv_at hl 0 rfl) ?_
  refine lv_iload_n hx hb dL_law_369 rfl (lv_at hl 3 rfl) ?_
  refine lv_iconst (v := 2) hx hb dL_law_370 (by decide) ?_
  refine lv_iadd hx hb dL_law_371 ?_
  refine va_sld hx hb hX hbl hbA hS (zin h0 h1 hL (by decide)) dL_law_372 ?_
  refine lv_aload_n hx hb dL_law_373 rfl (lv_at hl 0 rfl) ?_
  refine lv_iload_n hx hb dL_law_374 rfl (lv_at hl 3 rfl) ?_
  refine lv_iconst (v := 3) hx hb dL_law_375 (by decide) ?_
  refine lv_iadd hx hb dL_law_376 ?_
  refine va_sld hx hb hX hbl hbA hS (zin h0 h1 hL (by decide)) dL_law_377 ?_
  refine lv_aload_n hx hb dL_law_378 rfl (lv_at hl 0 rfl) ?_
  refine lv_iload_n hx hb dL_law_379 rfl (lv_at hl 3 rfl) ?_
  refine lv_iconst (v := 4) hx hb dL_law_380 (by decide) ?_
  refine lv_iadd hx hb dL_law_381 ?_
  refine va_sld hx hb hX hbl hbA hS (zin h0 h1 hL (by decide)) dL_law_382 ?_
  refine lv_aload_n hx hb dL_law_383 rfl (lv_at hl 0 rfl) ?_
  refine lv_iload_n hx hb dL_law_384 rfl (lv_at hl 3 rfl) ?_
  refine lv_iconst (v := 5) hx hb dL_law_385 (by decide) ?_
  refine lv_iadd hx hb dL_law_386 ?_
  refine va_sld hx hb hX hbl hbA hS (zin h0 h1 hL (by decide)) dL_law_387 ?_
  have hDc := (va_D_left hD)
  refine raw_Vi (ci := 11) (q0 := 0) (nA := 5) (As := [.int (xs (ii + 1).toNatClampNeg), .int (xs (ii + 2).toNatClampNeg), .int (xs (ii + 3).toNatClampNeg), .int (xs (ii + 4).toNatClampNeg), .int (xs (ii + 5).toNatClampNeg)]) (rest := []) Z hl.1 (w_X_feed l D cI cM cT cJ cZ x kc0 kc1 kc9 kc10 kc6 ki0 ki1 ki9 ki10 ki6 tl fu0 fp0 bt (xs (ii + 1).toNatClampNeg) (xs (ii + 2).toNatClampNeg) (xs (ii + 3).toNatClampNeg) (xs (ii + 4).toNatClampNeg) (xs (ii + 5).toNatClampNeg) hXi) (bw_V bw_535 bw_536 bw_537 bw_80 bw_538) ⟨by decide +kernel, by decide +kernel, by decide +kernel⟩ rfl ⟨Nat.le_of_ble_eq_true rfl, Nat.le_of_ble_eq_true rfl⟩ rfl rfl hd1 (va_P_left hP) hDc hS rfl (Nat.le_of_ble_eq_true rfl) dL_law_388 ⟨Nat.le_of_ble_eq_true rfl, Nat.le_of_ble_eq_true rfl⟩ (fun r1 u H locs h9 hk9 hP1 hD1 hS1 => ?_)
  obtain ⟨d0, d1, d9, d10, d6, j0, j1, j9, j10, j6, tl_, fu_, fp_, bn, hrel1, hX2⟩ := h9
  obtain ⟨hP, hD⟩ := joinL hP hD hk9 (raw_free hDc Z.2.2.2.2.2.2.2.1 hS) hP1 hD1
  have hS := hS1
  clear hS1
  refine lv_pop hx hb dL_law_391 rfl ?_
  refine lv_aload_n hx hb dL_law_392 rfl (lv_at hl 2 rfl) ?_
  refine lv_aload_n hx hb dL_law_393 rfl (lv_at hl 0 rfl) ?_
  refine lv_iload_n hx hb dL_law_394 rfl (lv_at hl 3 rfl) ?_
  refine lv_iconst (v := 1) hx hb dL_law_395 (by decide) ?_
  refine lv_iadd hx hb dL_law_396 ?_
  refine va_sld hx hb hX hbl hbA hS (zin h0 h1 hL (by decide)) dL_law_397 ?_
  refine lv_aload_n hx hb dL_law_398 rfl (lv_at hl 0 rfl) ?_
  refine lv_iload_n hx hb dL_law_399 rfl (lv_at hl 3 rfl) ?_
  refine lv_iconst (v := 2) hx hb dL_law_400 (by decide) ?_
  refine lv_iadd hx hb dL_law_401 ?_
  refine va_sld hx hb hX hbl hbA hS (zin h0 h1 hL (by decide)) dL_law_402 ?_
  refine lv_aload_n hx hb dL_law_403 rfl (lv_at hl 0 rfl) ?_
  refine lv_iload_n hx hb dL_law_404 rfl (lv_at hl 3 rfl) ?_
  refine lv_iconst (v := 3) hx hb dL_law_405 (by decide) ?_
  refine lv_iadd hx hb dL_law_406 ?_
  refine va_sld hx hb hX hbl hbA hS (zin h0 h1 hL (by decide)) dL_law_407 ?_
  refine lv_aload_n hx hb dL_law_408 rfl (lv_at hl 0 rfl) ?_
  refine lv_iload_n hx hb dL_law_409 rfl (lv_at hl 3 rfl) ?_
  refine lv_iconst (v := 4) hx hb dL_law_410 (by decide) ?_
  refine lv_iadd hx hb dL_law_411 ?_
  refine va_sld hx hb hX hbl hbA hS (zin h0 h1 hL (by decide)) dL_law_412 ?_
  refine lv_aload_n hx hb dL_law_413 rfl (lv_at hl 0 rfl) ?_
  refine lv_iload_n hx hb dL_law_414 rfl (lv_at hl 3 rfl) ?_
  refine lv_iconst (v := 5) hx hb dL_law_415 (by decide) ?_
  refine lv_iadd hx hb dL_law_416 ?_
  refine va_sld hx hb hX hbl hbA hS (zin h0 h1 hL (by decide)) dL_law_417 ?_
  have hDc := (va_D_right hD)
  refine raw_Vi (ci := 12) (q0 := 0) (nA := 5) (As := [.int (xs (ii + 1).toNatClampNeg), .int (xs (ii + 2).toNatClampNeg), .int (xs (ii + 3).toNatClampNeg), .int (xs (ii + 4).toNatClampNeg), .int (xs (ii + 5).toNatClampNeg)]) (rest := []) Z hl.1 (w_M_feed l D cI cM cT cJ cZ q kc0 kc1 kc9 kc10 kc6 ki0 ki1 ki9 ki10 ki6 tl fu0 fp0 bt (xs (ii + 1).toNatClampNeg) (xs (ii + 2).toNatClampNeg) (xs (ii + 3).toNatClampNeg) (xs (ii + 4).toNatClampNeg) (xs (ii + 5).toNatClampNeg) hMi) (bw_V bw_1154 bw_1155 bw_1156 bw_92 bw_1157) ⟨by decide +kernel, by decide +kernel, by decide +kernel⟩ rfl ⟨Nat.le_of_ble_eq_true rfl, Nat.le_of_ble_eq_true rfl⟩ rfl rfl hd2 (va_P_right hP) hDc hS rfl (Nat.le_of_ble_eq_true rfl) dL_law_418 ⟨Nat.le_of_ble_eq_true rfl, Nat.le_of_ble_eq_true rfl⟩ (fun r2 u H locs h9 hk9 hP1 hD1 hS1 => ?_)
  obtain ⟨d0m, d1m, d9m, d10m, d6m, j0m, j1m, j9m, j10m, j6m, tl_m, fu_m, fp_m, bnm, hrel2, hM2⟩ := h9
  obtain ⟨hP, hD⟩ := joinR hP hD hk9 (raw_free hDc Z.2.2.2.2.2.2.2.1 hS) hP1 hD1
  have hS := hS1
  clear hS1
  have hbn : bnm = bn := by
    rcases hrel1.2.1 with h9 | h9 <;> rcases hrel2.2.1 with h8 | h8
    · rw [h9.2, h8.2]
    · exfalso; omega
    · exfalso; omega
    · rw [h9.2, h8.2]
  have heq : d0m = d0 ∧ d1m = d1 ∧ d9m = d9 ∧ d10m = d10 ∧ d6m = d6 ∧ j0m = j0 ∧ j1m = j1 ∧ j9m = j9 ∧ j10m = j10 ∧ j6m = j6 ∧ tl_m = tl_ ∧ fu_m = fu_ ∧ fp_m = fp_ := by omega
  obtain ⟨rfl, rfl, rfl, rfl, rfl, rfl, rfl, rfl, rfl, rfl, rfl, rfl, rfl⟩ := heq
  subst hbn
  refine lv_pop hx hb dL_law_421 rfl ?_
  refine lv_goto (tgt := 997) hx hb dL_law_422 (by decide) ?_
  exact kk hX2 hM2 hP hD hS hl
set_option maxHeartbeats 4000000 in
set_option maxRecDepth 100000 in
theorem law_7 {p : Program} {l : Launch} {e : Env} {s : State} {m : MethodId} {below : List Frame} {meth : Method} {c : Code} {b L : Nat} {xs : Nat → Int32} {D : va_G} {cI cM cT cJ cZ : ClassId} {ii : Int32} {x q : Nat} (Z : Zx p s m #[Value.ref b] meth c code 4 ret R_law (fun q : Nat => s.heap.size ≤ q) (ty3 cI cM cT cJ cZ) D) (hX : va_X b L xs s s.heap) (hbl : b < s.heap.size) (hL : L ≤ 3072) (h0 : 0 ≤ ii.toInt) (h1 : ii.toInt + 6 ≤ (L : Int)) (kk : ∀ {kc0 kc1 kc9 kc10 kc6 ki0 ki1 ki9 ki10 ki6 tl fu0 fp0 : Int} {bt : Nat → Int} {xw mw : va_W} {H : Heap} {locs : List Loc} {ls : Array Slot} (hXi : InvX cI cM cT cJ cZ x kc0 kc1 kc9 kc10 kc6 ki0 ki1 ki9 ki10 ki6 tl fu0 fp0 bt xw) (hMi : InvM cI cM cT cJ cZ q kc0 kc1 kc9 kc10 kc6 ki0 ki1 ki9 ki10 ki6 tl fu0 fp0 bt mw) (hP : va_P D vwCl (xw ++ mw) H) (hD : va_D (fun q : Nat => s.heap.size ≤ q) (xw ++ mw)) (hS : va_S (fun q : Nat => s.heap.size ≤ q) s.heap H locs) (hl : lv_has ls 4 [(0, .ref b), (1, .ref x), (2, .ref q), (3, .int ii)]), W p l e room_1 s m #[Value.ref b] below meth c H locs 300 28000 (lw_Z below #[Value.ref b] s) (F0 m 997 ls [])) : ∀ {kc0 kc1 kc9 kc10 kc6 ki0 ki1 ki9 ki10 ki6 tl fu0 fp0 : Int} {bt : Nat → Int} {xw mw : va_W} {H : Heap} {locs : List Loc} {ls : Array Slot} (hXi : InvX cI cM cT cJ cZ x kc0 kc1 kc9 kc10 kc6 ki0 ki1 ki9 ki10 ki6 tl fu0 fp0 bt xw) (hMi : InvM cI cM cT cJ cZ q kc0 kc1 kc9 kc10 kc6 ki0 ki1 ki9 ki10 ki6 tl fu0 fp0 bt mw) (hP : va_P D vwCl (xw ++ mw) H) (hD : va_D (fun q : Nat => s.heap.size ≤ q) (xw ++ mw)) (hS : va_S (fun q : Nat => s.heap.size ≤ q) s.heap H locs) (hl : lv_has ls 4 [(0, .ref b), (1, .ref x), (2, .ref q), (3, .int ii)]), W p l e room_1 s m #[Value.ref b] below meth c H locs 300 28000 (lw_Z below #[Value.ref b] s) (F0 m 425 ls []) := by
  intro kc0 kc1 kc9 kc10 kc6 ki0 ki1 ki9 ki10 ki6 tl fu0 fp0 bt xw mw H locs ls hXi hMi hP hD hS hl
  have hx := Z.1
  have hb := Z.2.1
  have hbA : ¬ (fun q : Nat => s.heap.size ≤ q) b := Nat.not_le.mpr hbl
  obtain ⟨fs1, hd1⟩ := InvX.head hXi
  obtain ⟨fs2, hd2⟩ := InvM.head hMi
  refine lv_aload_n hx hb dL_law_425 rfl (lv_at hl 1 rfl) ?_
  refine lv_aload_n hx hb dL_law_426 rfl (lv_at hl 0 rfl) ?_
  refine lv_iload_n hx hb dL_law_427 rfl (lv_at hl 3 rfl) ?_
  refine lv_iconst (v := 1) hx hb dL_law_428 (by decide) ?_
  refine lv_iadd hx hb dL_law_429 ?_
  refine va_sld hx hb hX hbl hbA hS (zin h0 h1 hL (by decide)) dL_law_430 ?_
  have hDc := (va_D_left hD)
  refine raw_Vi (ci := 11) (q0 := 0) (nA := 1) (As := [.int (xs (ii + 1).toNatClampNeg)]) (rest := []) Z hl.1 (w_X_end l D cI cM cT cJ cZ x kc0 kc1 kc9 kc10 kc6 ki0 ki1 ki9 ki10 ki6 tl fu0 fp0 bt (xs (ii + 1).toNatClampNeg) hXi) (bw_V bw_543 bw_544 bw_545 bw_80 bw_546) ⟨by decide +kernel, by decide +kernel, by decide +kernel⟩ rfl ⟨Nat.le_of_ble_eq_true rfl, Nat.le_of_ble_eq_true rfl⟩ rfl rfl hd1 (va_P_left hP) hDc hS rfl (Nat.le_of_ble_eq_true rfl) dL_law_431 ⟨Nat.le_of_ble_eq_true rfl, Nat.le_of_ble_eq_true rfl⟩ (fun r1 u H locs h9 hk9 hP1 hD1 hS1 => ?_)
  obtain ⟨d0, d1, d9, d10, d6, j0, j1, j9, j10, j6, tl_, fu_, fp_, bn, hrel1, hX2⟩ := h9
  obtain ⟨hP, hD⟩ := joinL hP hD hk9 (raw_free hDc Z.2.2.2.2.2.2.2.1 hS) hP1 hD1
  have hS := hS1
  clear hS1
  refine lv_pop hx hb dL_law_434 rfl ?_
  refine lv_aload_n hx hb dL_law_435 rfl (lv_at hl 2 rfl) ?_
  refine lv_aload_n hx hb dL_law_436 rfl (lv_at hl 0 rfl) ?_
  refine lv_iload_n hx hb dL_law_437 rfl (lv_at hl 3 rfl) ?_
  refine lv_iconst (v := 1) hx hb dL_law_438 (by decide) ?_
  refine lv_iadd hx hb dL_law_439 ?_
  refine va_sld hx hb hX hbl hbA hS (zin h0 h1 hL (by decide)) dL_law_440 ?_
  have hDc := (va_D_right hD)
  refine raw_Vi (ci := 12) (q0 := 0) (nA := 1) (As := [.int (xs (ii + 1).toNatClampNeg)]) (rest := []) Z hl.1 (w_M_end l D cI cM cT cJ cZ q kc0 kc1 kc9 kc10 kc6 ki0 ki1 ki9 ki10 ki6 tl fu0 fp0 bt (xs (ii + 1).toNatClampNeg) hMi) (bw_V bw_1162 bw_1163 bw_1164 bw_92 bw_1165) ⟨by decide +kernel, by decide +kernel, by decide +kernel⟩ rfl ⟨Nat.le_of_ble_eq_true rfl, Nat.le_of_ble_eq_true rfl⟩ rfl rfl hd2 (va_P_right hP) hDc hS rfl (Nat.le_of_ble_eq_true rfl) dL_law_441 ⟨Nat.le_of_ble_eq_true rfl, Nat.le_of_ble_eq_true rfl⟩ (fun r2 u H locs h9 hk9 hP1 hD1 hS1 => ?_)
  obtain ⟨d0m, d1m, d9m, d10m, d6m, j0m, j1m, j9m, j10m, j6m, tl_m, fu_m, fp_m, bnm, hrel2, hM2⟩ := h9
  obtain ⟨hP, hD⟩ := joinR hP hD hk9 (raw_free hDc Z.2.2.2.2.2.2.2.1 hS) hP1 hD1
  have hS := hS1
  clear hS1
  have htl : tl_m = tl_ := by omega
  have hbn : bnm = bn := by
    rcases hrel1.2.1 with h9 | h9 <;> rcases hrel2.2.1 with h8 | h8
    · rw [h9.2, h8.2]
    · exfalso; omega
    · exfalso; omega
    · rw [h9.2, h8.2, htl]
  have heq : d0m = d0 ∧ d1m = d1 ∧ d9m = d9 ∧ d10m = d10 ∧ d6m = d6 ∧ j0m = j0 ∧ j1m = j1 ∧ j9m = j9 ∧ j10m = j10 ∧ j6m = j6 ∧ tl_m = tl_ ∧ fu_m = fu_ ∧ fp_m = fp_ := by omega
  obtain ⟨rfl, rfl, rfl, rfl, rfl, rfl, rfl, rfl, rfl, rfl, rfl, rfl, rfl⟩ := heq
  subst hbn
  refine lv_pop hx hb dL_law_444 rfl ?_
  refine lv_goto (tgt := 997) hx hb dL_law_445 (by decide) ?_
  exact kk hX2 hM2 hP hD hS hl
