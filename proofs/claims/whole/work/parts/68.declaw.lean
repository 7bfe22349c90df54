/-! The law: one row a case of its switch. -/
theorem d_law_0 : decode code 0 = .ok (.new 8, 3) := by decide +kernel
theorem d_law_3 : decode code 3 = .ok (.dup, 1) := by decide +kernel
theorem d_law_4 : decode code 4 = .ok (.invokespecial 85, 3) := by decide +kernel
theorem d_law_7 : decode code 7 = .ok (.astore_n 1, 1) := by decide +kernel
theorem d_law_8 : decode code 8 = .ok (.new 86, 3) := by decide +kernel
theorem d_law_11 : decode code 11 = .ok (.dup, 1) := by decide +kernel
theorem d_law_12 : decode code 12 = .ok (.invokespecial 88, 3) := by decide +kernel
theorem d_law_15 : decode code 15 = .ok (.astore_n 2, 1) := by decide +kernel
theorem d_law_16 : decode code 16 = .ok (.iconst 1, 1) := by decide +kernel
theorem d_law_17 : decode code 17 = .ok (.newarray .long, 2) := by decide +kernel
theorem d_law_19 : decode code 19 = .ok (.astore_n 3, 1) := by decide +kernel
theorem d_law_20 : decode code 20 = .ok (.iconst 1, 1) := by decide +kernel
theorem d_law_21 : decode code 21 = .ok (.newarray .double, 2) := by decide +kernel
theorem d_law_23 : decode code 23 = .ok (.astore 4, 2) := by decide +kernel
theorem d_law_25 : decode code 25 = .ok (.iconst 0, 1) := by decide +kernel
theorem d_law_26 : decode code 26 = .ok (.istore 5, 2) := by decide +kernel
theorem d_law_28 : decode code 28 = .ok (.iload 5, 2) := by decide +kernel
theorem d_law_30 : decode code 30 = .ok (.aload_n 0, 1) := by decide +kernel
theorem d_law_31 : decode code 31 = .ok (.arraylength, 1) := by decide +kernel
theorem d_law_32 : decode code 32 = .ok (.bipush 6, 2) := by decide +kernel
theorem d_law_34 : decode code 34 = .ok (.isub, 1) := by decide +kernel
theorem d_law_35 : decode code 35 = .ok (.if_icmp .gt 1633, 3) := by decide +kernel
theorem d_law_38 : decode code 38 = .ok (.aload_n 0, 1) := by decide +kernel
theorem d_law_39 : decode code 39 = .ok (.iload 5, 2) := by decide +kernel
theorem d_law_41 : decode code 41 = .ok (.iaload, 1) := by decide +kernel
theorem d_law_42 : decode code 42 = .ok (.bipush 31, 2) := by decide +kernel
theorem d_law_44 : decode code 44 = .ok (.iand, 1) := by decide +kernel
theorem d_law_45 : decode code 45 = .ok (.tableswitch 1617 0 19 #[95, 151, 207, 291, 371, 439, 519, 623, 727, 795, 851, 919, 1011, 1095, 1151, 1195, 1263, 1387, 1520, 1561], 95) := by decide +kernel
theorem d_law_140 : decode code 140 = .ok (.aload_n 1, 1) := by decide +kernel
theorem d_law_141 : decode code 141 = .ok (.aload_n 0, 1) := by decide +kernel
theorem d_law_142 : decode code 142 = .ok (.iload 5, 2) := by decide +kernel
theorem d_law_144 : decode code 144 = .ok (.iconst 1, 1) := by decide +kernel
theorem d_law_145 : decode code 145 = .ok (.iadd, 1) := by decide +kernel
theorem d_law_146 : decode code 146 = .ok (.iaload, 1) := by decide +kernel
theorem d_law_147 : decode code 147 = .ok (.aload_n 3, 1) := by decide +kernel
theorem d_law_148 : decode code 148 = .ok (.invokestatic 89, 3) := by decide +kernel
theorem d_law_151 : decode code 151 = .ok (.istore 6, 2) := by decide +kernel
theorem d_law_153 : decode code 153 = .ok (.aload_n 2, 1) := by decide +kernel
theorem d_law_154 : decode code 154 = .ok (.aload_n 0, 1) := by decide +kernel
theorem d_law_155 : decode code 155 = .ok (.iload 5, 2) := by decide +kernel
theorem d_law_157 : decode code 157 = .ok (.iconst 1, 1) := by decide +kernel
theorem d_law_158 : decode code 158 = .ok (.iadd, 1) := by decide +kernel
theorem d_law_159 : decode code 159 = .ok (.iaload, 1) := by decide +kernel
theorem d_law_160 : decode code 160 = .ok (.invokevirtual 94, 3) := by decide +kernel
theorem d_law_163 : decode code 163 = .ok (.istore 7, 2) := by decide +kernel
theorem d_law_165 : decode code 165 = .ok (.aload_n 2, 1) := by decide +kernel
theorem d_law_166 : decode code 166 = .ok (.invokevirtual 95, 3) := by decide +kernel
theorem d_law_169 : decode code 169 = .ok (.iload 6, 2) := by decide +kernel
theorem d_law_171 : decode code 171 = .ok (.if_icmp .eq 5, 3) := by decide +kernel
theorem d_law_174 : decode code 174 = .ok (.iconst 0, 1) := by decide +kernel
theorem d_law_175 : decode code 175 = .ok (.ireturn, 1) := by decide +kernel
theorem d_law_176 : decode code 176 = .ok (.iload 6, 2) := by decide +kernel
theorem d_law_178 : decode code 178 = .ok (.ifCond .ne 15, 3) := by decide +kernel
theorem d_law_181 : decode code 181 = .ok (.aload_n 3, 1) := by decide +kernel
theorem d_law_182 : decode code 182 = .ok (.iconst 0, 1) := by decide +kernel
theorem d_law_183 : decode code 183 = .ok (.laload, 1) := by decide +kernel
theorem d_law_184 : decode code 184 = .ok (.iload 7, 2) := by decide +kernel
theorem d_law_186 : decode code 186 = .ok (.i2l, 1) := by decide +kernel
theorem d_law_187 : decode code 187 = .ok (.lcmp, 1) := by decide +kernel
theorem d_law_188 : decode code 188 = .ok (.ifCond .eq 5, 3) := by decide +kernel
theorem d_law_191 : decode code 191 = .ok (.iconst 0, 1) := by decide +kernel
theorem d_law_192 : decode code 192 = .ok (.ireturn, 1) := by decide +kernel
theorem d_law_193 : decode code 193 = .ok (.goto 1469, 3) := by decide +kernel
theorem d_law_196 : decode code 196 = .ok (.aload_n 1, 1) := by decide +kernel
theorem d_law_197 : decode code 197 = .ok (.aload_n 0, 1) := by decide +kernel
theorem d_law_198 : decode code 198 = .ok (.iload 5, 2) := by decide +kernel
theorem d_law_200 : decode code 200 = .ok (.iconst 1, 1) := by decide +kernel
theorem d_law_201 : decode code 201 = .ok (.iadd, 1) := by decide +kernel
theorem d_law_202 : decode code 202 = .ok (.iaload, 1) := by decide +kernel
theorem d_law_203 : decode code 203 = .ok (.aload_n 3, 1) := by decide +kernel
theorem d_law_204 : decode code 204 = .ok (.invokestatic 98, 3) := by decide +kernel
theorem d_law_207 : decode code 207 = .ok (.istore 6, 2) := by decide +kernel
theorem d_law_209 : decode code 209 = .ok (.aload_n 2, 1) := by decide +kernel
theorem d_law_210 : decode code 210 = .ok (.aload_n 0, 1) := by decide +kernel
theorem d_law_211 : decode code 211 = .ok (.iload 5, 2) := by decide +kernel
theorem d_law_213 : decode code 213 = .ok (.iconst 1, 1) := by decide +kernel
theorem d_law_214 : decode code 214 = .ok (.iadd, 1) := by decide +kernel
theorem d_law_215 : decode code 215 = .ok (.iaload, 1) := by decide +kernel
theorem d_law_216 : decode code 216 = .ok (.invokevirtual 100, 3) := by decide +kernel
theorem d_law_219 : decode code 219 = .ok (.istore 7, 2) := by decide +kernel
theorem d_law_221 : decode code 221 = .ok (.aload_n 2, 1) := by decide +kernel
theorem d_law_222 : decode code 222 = .ok (.invokevirtual 95, 3) := by decide +kernel
theorem d_law_225 : decode code 225 = .ok (.iload 6, 2) := by decide +kernel
theorem d_law_227 : decode code 227 = .ok (.if_icmp .eq 5, 3) := by decide +kernel
theorem d_law_230 : decode code 230 = .ok (.iconst 0, 1) := by decide +kernel
theorem d_law_231 : decode code 231 = .ok (.ireturn, 1) := by decide +kernel
theorem d_law_232 : decode code 232 = .ok (.iload 6, 2) := by decide +kernel
theorem d_law_234 : decode code 234 = .ok (.ifCond .ne 15, 3) := by decide +kernel
theorem d_law_237 : decode code 237 = .ok (.aload_n 3, 1) := by decide +kernel
theorem d_law_238 : decode code 238 = .ok (.iconst 0, 1) := by decide +kernel
theorem d_law_239 : decode code 239 = .ok (.laload, 1) := by decide +kernel
theorem d_law_240 : decode code 240 = .ok (.iload 7, 2) := by decide +kernel
theorem d_law_242 : decode code 242 = .ok (.i2l, 1) := by decide +kernel
theorem d_law_243 : decode code 243 = .ok (.lcmp, 1) := by decide +kernel
theorem d_law_244 : decode code 244 = .ok (.ifCond .eq 5, 3) := by decide +kernel
theorem d_law_247 : decode code 247 = .ok (.iconst 0, 1) := by decide +kernel
theorem d_law_248 : decode code 248 = .ok (.ireturn, 1) := by decide +kernel
theorem d_law_249 : decode code 249 = .ok (.goto 1413, 3) := by decide +kernel
theorem d_law_252 : decode code 252 = .ok (.aload_n 1, 1) := by decide +kernel
theorem d_law_253 : decode code 253 = .ok (.aload_n 0, 1) := by decide +kernel
theorem d_law_254 : decode code 254 = .ok (.iload 5, 2) := by decide +kernel
theorem d_law_256 : decode code 256 = .ok (.iconst 1, 1) := by decide +kernel
theorem d_law_257 : decode code 257 = .ok (.iadd, 1) := by decide +kernel
theorem d_law_258 : decode code 258 = .ok (.iaload, 1) := by decide +kernel
theorem d_law_259 : decode code 259 = .ok (.aload_n 0, 1) := by decide +kernel
theorem d_law_260 : decode code 260 = .ok (.iload 5, 2) := by decide +kernel
theorem d_law_262 : decode code 262 = .ok (.iconst 2, 1) := by decide +kernel
theorem d_law_263 : decode code 263 = .ok (.iadd, 1) := by decide +kernel
theorem d_law_264 : decode code 264 = .ok (.iaload, 1) := by decide +kernel
theorem d_law_265 : decode code 265 = .ok (.ifCond .eq 7, 3) := by decide +kernel
theorem d_law_268 : decode code 268 = .ok (.iconst 1, 1) := by decide +kernel
theorem d_law_269 : decode code 269 = .ok (.goto 4, 3) := by decide +kernel
theorem d_law_272 : decode code 272 = .ok (.iconst 0, 1) := by decide +kernel
theorem d_law_273 : decode code 273 = .ok (.aload_n 3, 1) := by decide +kernel
theorem d_law_274 : decode code 274 = .ok (.invokestatic 101, 3) := by decide +kernel
theorem d_law_277 : decode code 277 = .ok (.istore 6, 2) := by decide +kernel
theorem d_law_279 : decode code 279 = .ok (.aload_n 2, 1) := by decide +kernel
theorem d_law_280 : decode code 280 = .ok (.aload_n 0, 1) := by decide +kernel
theorem d_law_281 : decode code 281 = .ok (.iload 5, 2) := by decide +kernel
theorem d_law_283 : decode code 283 = .ok (.iconst 1, 1) := by decide +kernel
theorem d_law_284 : decode code 284 = .ok (.iadd, 1) := by decide +kernel
theorem d_law_285 : decode code 285 = .ok (.iaload, 1) := by decide +kernel
theorem d_law_286 : decode code 286 = .ok (.aload_n 0, 1) := by decide +kernel
theorem d_law_287 : decode code 287 = .ok (.iload 5, 2) := by decide +kernel
theorem d_law_289 : decode code 289 = .ok (.iconst 2, 1) := by decide +kernel
theorem d_law_290 : decode code 290 = .ok (.iadd, 1) := by decide +kernel
theorem d_law_291 : decode code 291 = .ok (.iaload, 1) := by decide +kernel
theorem d_law_292 : decode code 292 = .ok (.ifCond .eq 7, 3) := by decide +kernel
theorem d_law_295 : decode code 295 = .ok (.iconst 1, 1) := by decide +kernel
theorem d_law_296 : decode code 296 = .ok (.goto 4, 3) := by decide +kernel
theorem d_law_299 : decode code 299 = .ok (.iconst 0, 1) := by decide +kernel
theorem d_law_300 : decode code 300 = .ok (.invokevirtual 104, 3) := by decide +kernel
theorem d_law_303 : decode code 303 = .ok (.istore 7, 2) := by decide +kernel
theorem d_law_305 : decode code 305 = .ok (.aload_n 2, 1) := by decide +kernel
theorem d_law_306 : decode code 306 = .ok (.invokevirtual 95, 3) := by decide +kernel
theorem d_law_309 : decode code 309 = .ok (.iload 6, 2) := by decide +kernel
theorem d_law_311 : decode code 311 = .ok (.if_icmp .eq 5, 3) := by decide +kernel
theorem d_law_314 : decode code 314 = .ok (.iconst 0, 1) := by decide +kernel
theorem d_law_315 : decode code 315 = .ok (.ireturn, 1) := by decide +kernel
theorem d_law_316 : decode code 316 = .ok (.iload 6, 2) := by decide +kernel
theorem d_law_318 : decode code 318 = .ok (.ifCond .ne 15, 3) := by decide +kernel
theorem d_law_321 : decode code 321 = .ok (.aload_n 3, 1) := by decide +kernel
theorem d_law_322 : decode code 322 = .ok (.iconst 0, 1) := by decide +kernel
theorem d_law_323 : decode code 323 = .ok (.laload, 1) := by decide +kernel
theorem d_law_324 : decode code 324 = .ok (.iload 7, 2) := by decide +kernel
theorem d_law_326 : decode code 326 = .ok (.i2l, 1) := by decide +kernel
theorem d_law_327 : decode code 327 = .ok (.lcmp, 1) := by decide +kernel
theorem d_law_328 : decode code 328 = .ok (.ifCond .eq 5, 3) := by decide +kernel
theorem d_law_331 : decode code 331 = .ok (.iconst 0, 1) := by decide +kernel
theorem d_law_332 : decode code 332 = .ok (.ireturn, 1) := by decide +kernel
theorem d_law_333 : decode code 333 = .ok (.goto 1329, 3) := by decide +kernel
theorem d_law_336 : decode code 336 = .ok (.aload_n 1, 1) := by decide +kernel
theorem d_law_337 : decode code 337 = .ok (.aload_n 0, 1) := by decide +kernel
theorem d_law_338 : decode code 338 = .ok (.iload 5, 2) := by decide +kernel
theorem d_law_340 : decode code 340 = .ok (.iconst 1, 1) := by decide +kernel
theorem d_law_341 : decode code 341 = .ok (.iadd, 1) := by decide +kernel
theorem d_law_342 : decode code 342 = .ok (.iaload, 1) := by decide +kernel
theorem d_law_343 : decode code 343 = .ok (.aload_n 0, 1) := by decide +kernel
theorem d_law_344 : decode code 344 = .ok (.iload 5, 2) := by decide +kernel
theorem d_law_346 : decode code 346 = .ok (.iconst 2, 1) := by decide +kernel
theorem d_law_347 : decode code 347 = .ok (.iadd, 1) := by decide +kernel
theorem d_law_348 : decode code 348 = .ok (.iaload, 1) := by decide +kernel
theorem d_law_349 : decode code 349 = .ok (.aload_n 0, 1) := by decide +kernel
theorem d_law_350 : decode code 350 = .ok (.iload 5, 2) := by decide +kernel
theorem d_law_352 : decode code 352 = .ok (.iconst 3, 1) := by decide +kernel
theorem d_law_353 : decode code 353 = .ok (.iadd, 1) := by decide +kernel
theorem d_law_354 : decode code 354 = .ok (.iaload, 1) := by decide +kernel
theorem d_law_355 : decode code 355 = .ok (.aload_n 3, 1) := by decide +kernel
theorem d_law_356 : decode code 356 = .ok (.invokestatic 105, 3) := by decide +kernel
theorem d_law_359 : decode code 359 = .ok (.istore 6, 2) := by decide +kernel
theorem d_law_361 : decode code 361 = .ok (.aload_n 2, 1) := by decide +kernel
theorem d_law_362 : decode code 362 = .ok (.aload_n 0, 1) := by decide +kernel
theorem d_law_363 : decode code 363 = .ok (.iload 5, 2) := by decide +kernel
theorem d_law_365 : decode code 365 = .ok (.iconst 1, 1) := by decide +kernel
theorem d_law_366 : decode code 366 = .ok (.iadd, 1) := by decide +kernel
theorem d_law_367 : decode code 367 = .ok (.iaload, 1) := by decide +kernel
theorem d_law_368 : decode code 368 = .ok (.aload_n 0, 1) := by decide +kernel
theorem d_law_369 : decode code 369 = .ok (.iload 5, 2) := by decide +kernel
theorem d_law_371 : decode code 371 = .ok (.iconst 2, 1) := by decide +kernel
theorem d_law_372 : decode code 372 = .ok (.iadd, 1) := by decide +kernel
theorem d_law_373 : decode code 373 = .ok (.iaload, 1) := by decide +kernel
theorem d_law_374 : decode code 374 = .ok (.aload_n 0, 1) := by decide +kernel
theorem d_law_375 : decode code 375 = .ok (.iload 5, 2) := by decide +kernel
theorem d_law_377 : decode code 377 = .ok (.iconst 3, 1) := by decide +kernel
theorem d_law_378 : decode code 378 = .ok (.iadd, 1) := by decide +kernel
theorem d_law_379 : decode code 379 = .ok (.iaload, 1) := by decide +kernel
theorem d_law_380 : decode code 380 = .ok (.invokevirtual 108, 3) := by decide +kernel
theorem d_law_383 : decode code 383 = .ok (.istore 7, 2) := by decide +kernel
theorem d_law_385 : decode code 385 = .ok (.aload_n 2, 1) := by decide +kernel
theorem d_law_386 : decode code 386 = .ok (.invokevirtual 95, 3) := by decide +kernel
theorem d_law_389 : decode code 389 = .ok (.iload 6, 2) := by decide +kernel
theorem d_law_391 : decode code 391 = .ok (.if_icmp .eq 5, 3) := by decide +kernel
theorem d_law_394 : decode code 394 = .ok (.iconst 0, 1) := by decide +kernel
theorem d_law_395 : decode code 395 = .ok (.ireturn, 1) := by decide +kernel
theorem d_law_396 : decode code 396 = .ok (.iload 6, 2) := by decide +kernel
theorem d_law_398 : decode code 398 = .ok (.ifCond .ne 15, 3) := by decide +kernel
theorem d_law_401 : decode code 401 = .ok (.aload_n 3, 1) := by decide +kernel
theorem d_law_402 : decode code 402 = .ok (.iconst 0, 1) := by decide +kernel
theorem d_law_403 : decode code 403 = .ok (.laload, 1) := by decide +kernel
theorem d_law_404 : decode code 404 = .ok (.iload 7, 2) := by decide +kernel
theorem d_law_406 : decode code 406 = .ok (.i2l, 1) := by decide +kernel
theorem d_law_407 : decode code 407 = .ok (.lcmp, 1) := by decide +kernel
theorem d_law_408 : decode code 408 = .ok (.ifCond .eq 5, 3) := by decide +kernel
theorem d_law_411 : decode code 411 = .ok (.iconst 0, 1) := by decide +kernel
theorem d_law_412 : decode code 412 = .ok (.ireturn, 1) := by decide +kernel
theorem d_law_413 : decode code 413 = .ok (.goto 1249, 3) := by decide +kernel
theorem d_law_416 : decode code 416 = .ok (.aload_n 1, 1) := by decide +kernel
theorem d_law_417 : decode code 417 = .ok (.aload_n 0, 1) := by decide +kernel
theorem d_law_418 : decode code 418 = .ok (.iload 5, 2) := by decide +kernel
theorem d_law_420 : decode code 420 = .ok (.iconst 1, 1) := by decide +kernel
theorem d_law_421 : decode code 421 = .ok (.iadd, 1) := by decide +kernel
theorem d_law_422 : decode code 422 = .ok (.iaload, 1) := by decide +kernel
theorem d_law_423 : decode code 423 = .ok (.aload_n 0, 1) := by decide +kernel
theorem d_law_424 : decode code 424 = .ok (.iload 5, 2) := by decide +kernel
theorem d_law_426 : decode code 426 = .ok (.iconst 2, 1) := by decide +kernel
theorem d_law_427 : decode code 427 = .ok (.iadd, 1) := by decide +kernel
theorem d_law_428 : decode code 428 = .ok (.iaload, 1) := by decide +kernel
theorem d_law_429 : decode code 429 = .ok (.aload_n 3, 1) := by decide +kernel
theorem d_law_430 : decode code 430 = .ok (.invokestatic 109, 3) := by decide +kernel
theorem d_law_433 : decode code 433 = .ok (.istore 6, 2) := by decide +kernel
theorem d_law_435 : decode code 435 = .ok (.aload_n 2, 1) := by decide +kernel
theorem d_law_436 : decode code 436 = .ok (.aload_n 0, 1) := by decide +kernel
theorem d_law_437 : decode code 437 = .ok (.iload 5, 2) := by decide +kernel
theorem d_law_439 : decode code 439 = .ok (.iconst 1, 1) := by decide +kernel
theorem d_law_440 : decode code 440 = .ok (.iadd, 1) := by decide +kernel
theorem d_law_441 : decode code 441 = .ok (.iaload, 1) := by decide +kernel
theorem d_law_442 : decode code 442 = .ok (.aload_n 0, 1) := by decide +kernel
theorem d_law_443 : decode code 443 = .ok (.iload 5, 2) := by decide +kernel
theorem d_law_445 : decode code 445 = .ok (.iconst 2, 1) := by decide +kernel
theorem d_law_446 : decode code 446 = .ok (.iadd, 1) := by decide +kernel
theorem d_law_447 : decode code 447 = .ok (.iaload, 1) := by decide +kernel
theorem d_law_448 : decode code 448 = .ok (.invokevirtual 112, 3) := by decide +kernel
theorem d_law_451 : decode code 451 = .ok (.istore 7, 2) := by decide +kernel
theorem d_law_453 : decode code 453 = .ok (.aload_n 2, 1) := by decide +kernel
theorem d_law_454 : decode code 454 = .ok (.invokevirtual 95, 3) := by decide +kernel
theorem d_law_457 : decode code 457 = .ok (.iload 6, 2) := by decide +kernel
theorem d_law_459 : decode code 459 = .ok (.if_icmp .eq 5, 3) := by decide +kernel
theorem d_law_462 : decode code 462 = .ok (.iconst 0, 1) := by decide +kernel
theorem d_law_463 : decode code 463 = .ok (.ireturn, 1) := by decide +kernel
theorem d_law_464 : decode code 464 = .ok (.iload 6, 2) := by decide +kernel
theorem d_law_466 : decode code 466 = .ok (.ifCond .ne 15, 3) := by decide +kernel
theorem d_law_469 : decode code 469 = .ok (.aload_n 3, 1) := by decide +kernel
theorem d_law_470 : decode code 470 = .ok (.iconst 0, 1) := by decide +kernel
theorem d_law_471 : decode code 471 = .ok (.laload, 1) := by decide +kernel
theorem d_law_472 : decode code 472 = .ok (.iload 7, 2) := by decide +kernel
theorem d_law_474 : decode code 474 = .ok (.i2l, 1) := by decide +kernel
theorem d_law_475 : decode code 475 = .ok (.lcmp, 1) := by decide +kernel
theorem d_law_476 : decode code 476 = .ok (.ifCond .eq 5, 3) := by decide +kernel
theorem d_law_479 : decode code 479 = .ok (.iconst 0, 1) := by decide +kernel
theorem d_law_480 : decode code 480 = .ok (.ireturn, 1) := by decide +kernel
theorem d_law_481 : decode code 481 = .ok (.goto 1181, 3) := by decide +kernel
theorem d_law_484 : decode code 484 = .ok (.aload_n 1, 1) := by decide +kernel
theorem d_law_485 : decode code 485 = .ok (.aload_n 0, 1) := by decide +kernel
theorem d_law_486 : decode code 486 = .ok (.iload 5, 2) := by decide +kernel
theorem d_law_488 : decode code 488 = .ok (.iconst 1, 1) := by decide +kernel
theorem d_law_489 : decode code 489 = .ok (.iadd, 1) := by decide +kernel
theorem d_law_490 : decode code 490 = .ok (.iaload, 1) := by decide +kernel
theorem d_law_491 : decode code 491 = .ok (.aload_n 0, 1) := by decide +kernel
theorem d_law_492 : decode code 492 = .ok (.iload 5, 2) := by decide +kernel
theorem d_law_494 : decode code 494 = .ok (.iconst 2, 1) := by decide +kernel
theorem d_law_495 : decode code 495 = .ok (.iadd, 1) := by decide +kernel
theorem d_law_496 : decode code 496 = .ok (.iaload, 1) := by decide +kernel
theorem d_law_497 : decode code 497 = .ok (.aload_n 0, 1) := by decide +kernel
theorem d_law_498 : decode code 498 = .ok (.iload 5, 2) := by decide +kernel
theorem d_law_500 : decode code 500 = .ok (.iconst 3, 1) := by decide +kernel
theorem d_law_501 : decode code 501 = .ok (.iadd, 1) := by decide +kernel
theorem d_law_502 : decode code 502 = .ok (.iaload, 1) := by decide +kernel
theorem d_law_503 : decode code 503 = .ok (.aload_n 3, 1) := by decide +kernel
theorem d_law_504 : decode code 504 = .ok (.invokestatic 113, 3) := by decide +kernel
theorem d_law_507 : decode code 507 = .ok (.istore 6, 2) := by decide +kernel
theorem d_law_509 : decode code 509 = .ok (.aload_n 2, 1) := by decide +kernel
theorem d_law_510 : decode code 510 = .ok (.aload_n 0, 1) := by decide +kernel
theorem d_law_511 : decode code 511 = .ok (.iload 5, 2) := by decide +kernel
theorem d_law_513 : decode code 513 = .ok (.iconst 1, 1) := by decide +kernel
theorem d_law_514 : decode code 514 = .ok (.iadd, 1) := by decide +kernel
theorem d_law_515 : decode code 515 = .ok (.iaload, 1) := by decide +kernel
theorem d_law_516 : decode code 516 = .ok (.aload_n 0, 1) := by decide +kernel
theorem d_law_517 : decode code 517 = .ok (.iload 5, 2) := by decide +kernel
theorem d_law_519 : decode code 519 = .ok (.iconst 2, 1) := by decide +kernel
theorem d_law_520 : decode code 520 = .ok (.iadd, 1) := by decide +kernel
theorem d_law_521 : decode code 521 = .ok (.iaload, 1) := by decide +kernel
theorem d_law_522 : decode code 522 = .ok (.aload_n 0, 1) := by decide +kernel
theorem d_law_523 : decode code 523 = .ok (.iload 5, 2) := by decide +kernel
theorem d_law_525 : decode code 525 = .ok (.iconst 3, 1) := by decide +kernel
theorem d_law_526 : decode code 526 = .ok (.iadd, 1) := by decide +kernel
theorem d_law_527 : decode code 527 = .ok (.iaload, 1) := by decide +kernel
theorem d_law_528 : decode code 528 = .ok (.invokevirtual 115, 3) := by decide +kernel
theorem d_law_531 : decode code 531 = .ok (.istore 7, 2) := by decide +kernel
theorem d_law_533 : decode code 533 = .ok (.aload_n 2, 1) := by decide +kernel
theorem d_law_534 : decode code 534 = .ok (.invokevirtual 95, 3) := by decide +kernel
theorem d_law_537 : decode code 537 = .ok (.iload 6, 2) := by decide +kernel
theorem d_law_539 : decode code 539 = .ok (.if_icmp .eq 5, 3) := by decide +kernel
theorem d_law_542 : decode code 542 = .ok (.iconst 0, 1) := by decide +kernel
theorem d_law_543 : decode code 543 = .ok (.ireturn, 1) := by decide +kernel
theorem d_law_544 : decode code 544 = .ok (.iload 6, 2) := by decide +kernel
theorem d_law_546 : decode code 546 = .ok (.ifCond .ne 15, 3) := by decide +kernel
theorem d_law_549 : decode code 549 = .ok (.aload_n 3, 1) := by decide +kernel
theorem d_law_550 : decode code 550 = .ok (.iconst 0, 1) := by decide +kernel
theorem d_law_551 : decode code 551 = .ok (.laload, 1) := by decide +kernel
theorem d_law_552 : decode code 552 = .ok (.iload 7, 2) := by decide +kernel
theorem d_law_554 : decode code 554 = .ok (.i2l, 1) := by decide +kernel
theorem d_law_555 : decode code 555 = .ok (.lcmp, 1) := by decide +kernel
theorem d_law_556 : decode code 556 = .ok (.ifCond .eq 5, 3) := by decide +kernel
theorem d_law_559 : decode code 559 = .ok (.iconst 0, 1) := by decide +kernel
theorem d_law_560 : decode code 560 = .ok (.ireturn, 1) := by decide +kernel
theorem d_law_561 : decode code 561 = .ok (.goto 1101, 3) := by decide +kernel
theorem d_law_564 : decode code 564 = .ok (.aload_n 1, 1) := by decide +kernel
theorem d_law_565 : decode code 565 = .ok (.aload_n 0, 1) := by decide +kernel
theorem d_law_566 : decode code 566 = .ok (.iload 5, 2) := by decide +kernel
theorem d_law_568 : decode code 568 = .ok (.iconst 1, 1) := by decide +kernel
theorem d_law_569 : decode code 569 = .ok (.iadd, 1) := by decide +kernel
theorem d_law_570 : decode code 570 = .ok (.iaload, 1) := by decide +kernel
theorem d_law_571 : decode code 571 = .ok (.aload_n 0, 1) := by decide +kernel
theorem d_law_572 : decode code 572 = .ok (.iload 5, 2) := by decide +kernel
theorem d_law_574 : decode code 574 = .ok (.iconst 2, 1) := by decide +kernel
theorem d_law_575 : decode code 575 = .ok (.iadd, 1) := by decide +kernel
theorem d_law_576 : decode code 576 = .ok (.iaload, 1) := by decide +kernel
theorem d_law_577 : decode code 577 = .ok (.aload_n 0, 1) := by decide +kernel
theorem d_law_578 : decode code 578 = .ok (.iload 5, 2) := by decide +kernel
theorem d_law_580 : decode code 580 = .ok (.iconst 3, 1) := by decide +kernel
theorem d_law_581 : decode code 581 = .ok (.iadd, 1) := by decide +kernel
theorem d_law_582 : decode code 582 = .ok (.iaload, 1) := by decide +kernel
theorem d_law_583 : decode code 583 = .ok (.aload_n 0, 1) := by decide +kernel
theorem d_law_584 : decode code 584 = .ok (.iload 5, 2) := by decide +kernel
theorem d_law_586 : decode code 586 = .ok (.iconst 4, 1) := by decide +kernel
theorem d_law_587 : decode code 587 = .ok (.iadd, 1) := by decide +kernel
theorem d_law_588 : decode code 588 = .ok (.iaload, 1) := by decide +kernel
theorem d_law_589 : decode code 589 = .ok (.aload_n 0, 1) := by decide +kernel
theorem d_law_590 : decode code 590 = .ok (.iload 5, 2) := by decide +kernel
theorem d_law_592 : decode code 592 = .ok (.iconst 5, 1) := by decide +kernel
theorem d_law_593 : decode code 593 = .ok (.iadd, 1) := by decide +kernel
theorem d_law_594 : decode code 594 = .ok (.iaload, 1) := by decide +kernel
theorem d_law_595 : decode code 595 = .ok (.aload_n 3, 1) := by decide +kernel
theorem d_law_596 : decode code 596 = .ok (.invokestatic 116, 3) := by decide +kernel
theorem d_law_599 : decode code 599 = .ok (.istore 6, 2) := by decide +kernel
theorem d_law_601 : decode code 601 = .ok (.aload_n 2, 1) := by decide +kernel
theorem d_law_602 : decode code 602 = .ok (.aload_n 0, 1) := by decide +kernel
theorem d_law_603 : decode code 603 = .ok (.iload 5, 2) := by decide +kernel
theorem d_law_605 : decode code 605 = .ok (.iconst 1, 1) := by decide +kernel
theorem d_law_606 : decode code 606 = .ok (.iadd, 1) := by decide +kernel
theorem d_law_607 : decode code 607 = .ok (.iaload, 1) := by decide +kernel
theorem d_law_608 : decode code 608 = .ok (.aload_n 0, 1) := by decide +kernel
theorem d_law_609 : decode code 609 = .ok (.iload 5, 2) := by decide +kernel
theorem d_law_611 : decode code 611 = .ok (.iconst 2, 1) := by decide +kernel
theorem d_law_612 : decode code 612 = .ok (.iadd, 1) := by decide +kernel
theorem d_law_613 : decode code 613 = .ok (.iaload, 1) := by decide +kernel
theorem d_law_614 : decode code 614 = .ok (.aload_n 0, 1) := by decide +kernel
theorem d_law_615 : decode code 615 = .ok (.iload 5, 2) := by decide +kernel
theorem d_law_617 : decode code 617 = .ok (.iconst 3, 1) := by decide +kernel
theorem d_law_618 : decode code 618 = .ok (.iadd, 1) := by decide +kernel
theorem d_law_619 : decode code 619 = .ok (.iaload, 1) := by decide +kernel
theorem d_law_620 : decode code 620 = .ok (.aload_n 0, 1) := by decide +kernel
theorem d_law_621 : decode code 621 = .ok (.iload 5, 2) := by decide +kernel
theorem d_law_623 : decode code 623 = .ok (.iconst 4, 1) := by decide +kernel
theorem d_law_624 : decode code 624 = .ok (.iadd, 1) := by decide +kernel
theorem d_law_625 : decode code 625 = .ok (.iaload, 1) := by decide +kernel
theorem d_law_626 : decode code 626 = .ok (.aload_n 0, 1) := by decide +kernel
theorem d_law_627 : decode code 627 = .ok (.iload 5, 2) := by decide +kernel
theorem d_law_629 : decode code 629 = .ok (.iconst 5, 1) := by decide +kernel
theorem d_law_630 : decode code 630 = .ok (.iadd, 1) := by decide +kernel
theorem d_law_631 : decode code 631 = .ok (.iaload, 1) := by decide +kernel
theorem d_law_632 : decode code 632 = .ok (.invokevirtual 119, 3) := by decide +kernel
theorem d_law_635 : decode code 635 = .ok (.istore 7, 2) := by decide +kernel
theorem d_law_637 : decode code 637 = .ok (.aload_n 2, 1) := by decide +kernel
theorem d_law_638 : decode code 638 = .ok (.invokevirtual 95, 3) := by decide +kernel
theorem d_law_641 : decode code 641 = .ok (.iload 6, 2) := by decide +kernel
theorem d_law_643 : decode code 643 = .ok (.if_icmp .eq 5, 3) := by decide +kernel
theorem d_law_646 : decode code 646 = .ok (.iconst 0, 1) := by decide +kernel
theorem d_law_647 : decode code 647 = .ok (.ireturn, 1) := by decide +kernel
theorem d_law_648 : decode code 648 = .ok (.iload 6, 2) := by decide +kernel
theorem d_law_650 : decode code 650 = .ok (.ifCond .ne 15, 3) := by decide +kernel
theorem d_law_653 : decode code 653 = .ok (.aload_n 3, 1) := by decide +kernel
theorem d_law_654 : decode code 654 = .ok (.iconst 0, 1) := by decide +kernel
theorem d_law_655 : decode code 655 = .ok (.laload, 1) := by decide +kernel
theorem d_law_656 : decode code 656 = .ok (.iload 7, 2) := by decide +kernel
theorem d_law_658 : decode code 658 = .ok (.i2l, 1) := by decide +kernel
theorem d_law_659 : decode code 659 = .ok (.lcmp, 1) := by decide +kernel
theorem d_law_660 : decode code 660 = .ok (.ifCond .eq 5, 3) := by decide +kernel
theorem d_law_663 : decode code 663 = .ok (.iconst 0, 1) := by decide +kernel
theorem d_law_664 : decode code 664 = .ok (.ireturn, 1) := by decide +kernel
theorem d_law_665 : decode code 665 = .ok (.goto 997, 3) := by decide +kernel
theorem d_law_668 : decode code 668 = .ok (.aload_n 1, 1) := by decide +kernel
theorem d_law_669 : decode code 669 = .ok (.aload_n 0, 1) := by decide +kernel
theorem d_law_670 : decode code 670 = .ok (.iload 5, 2) := by decide +kernel
theorem d_law_672 : decode code 672 = .ok (.iconst 1, 1) := by decide +kernel
theorem d_law_673 : decode code 673 = .ok (.iadd, 1) := by decide +kernel
theorem d_law_674 : decode code 674 = .ok (.iaload, 1) := by decide +kernel
theorem d_law_675 : decode code 675 = .ok (.aload_n 0, 1) := by decide +kernel
theorem d_law_676 : decode code 676 = .ok (.iload 5, 2) := by decide +kernel
theorem d_law_678 : decode code 678 = .ok (.iconst 2, 1) := by decide +kernel
theorem d_law_679 : decode code 679 = .ok (.iadd, 1) := by decide +kernel
theorem d_law_680 : decode code 680 = .ok (.iaload, 1) := by decide +kernel
theorem d_law_681 : decode code 681 = .ok (.aload_n 0, 1) := by decide +kernel
theorem d_law_682 : decode code 682 = .ok (.iload 5, 2) := by decide +kernel
theorem d_law_684 : decode code 684 = .ok (.iconst 3, 1) := by decide +kernel
theorem d_law_685 : decode code 685 = .ok (.iadd, 1) := by decide +kernel
theorem d_law_686 : decode code 686 = .ok (.iaload, 1) := by decide +kernel
theorem d_law_687 : decode code 687 = .ok (.aload_n 0, 1) := by decide +kernel
theorem d_law_688 : decode code 688 = .ok (.iload 5, 2) := by decide +kernel
theorem d_law_690 : decode code 690 = .ok (.iconst 4, 1) := by decide +kernel
theorem d_law_691 : decode code 691 = .ok (.iadd, 1) := by decide +kernel
theorem d_law_692 : decode code 692 = .ok (.iaload, 1) := by decide +kernel
theorem d_law_693 : decode code 693 = .ok (.aload_n 0, 1) := by decide +kernel
theorem d_law_694 : decode code 694 = .ok (.iload 5, 2) := by decide +kernel
theorem d_law_696 : decode code 696 = .ok (.iconst 5, 1) := by decide +kernel
theorem d_law_697 : decode code 697 = .ok (.iadd, 1) := by decide +kernel
theorem d_law_698 : decode code 698 = .ok (.iaload, 1) := by decide +kernel
theorem d_law_699 : decode code 699 = .ok (.aload_n 3, 1) := by decide +kernel
theorem d_law_700 : decode code 700 = .ok (.invokestatic 120, 3) := by decide +kernel
theorem d_law_703 : decode code 703 = .ok (.istore 6, 2) := by decide +kernel
theorem d_law_705 : decode code 705 = .ok (.aload_n 2, 1) := by decide +kernel
theorem d_law_706 : decode code 706 = .ok (.aload_n 0, 1) := by decide +kernel
theorem d_law_707 : decode code 707 = .ok (.iload 5, 2) := by decide +kernel
theorem d_law_709 : decode code 709 = .ok (.iconst 1, 1) := by decide +kernel
theorem d_law_710 : decode code 710 = .ok (.iadd, 1) := by decide +kernel
theorem d_law_711 : decode code 711 = .ok (.iaload, 1) := by decide +kernel
theorem d_law_712 : decode code 712 = .ok (.aload_n 0, 1) := by decide +kernel
theorem d_law_713 : decode code 713 = .ok (.iload 5, 2) := by decide +kernel
theorem d_law_715 : decode code 715 = .ok (.iconst 2, 1) := by decide +kernel
theorem d_law_716 : decode code 716 = .ok (.iadd, 1) := by decide +kernel
theorem d_law_717 : decode code 717 = .ok (.iaload, 1) := by decide +kernel
theorem d_law_718 : decode code 718 = .ok (.aload_n 0, 1) := by decide +kernel
theorem d_law_719 : decode code 719 = .ok (.iload 5, 2) := by decide +kernel
theorem d_law_721 : decode code 721 = .ok (.iconst 3, 1) := by decide +kernel
theorem d_law_722 : decode code 722 = .ok (.iadd, 1) := by decide +kernel
theorem d_law_723 : decode code 723 = .ok (.iaload, 1) := by decide +kernel
theorem d_law_724 : decode code 724 = .ok (.aload_n 0, 1) := by decide +kernel
theorem d_law_725 : decode code 725 = .ok (.iload 5, 2) := by decide +kernel
theorem d_law_727 : decode code 727 = .ok (.iconst 4, 1) := by decide +kernel
theorem d_law_728 : decode code 728 = .ok (.iadd, 1) := by decide +kernel
theorem d_law_729 : decode code 729 = .ok (.iaload, 1) := by decide +kernel
theorem d_law_730 : decode code 730 = .ok (.aload_n 0, 1) := by decide +kernel
theorem d_law_731 : decode code 731 = .ok (.iload 5, 2) := by decide +kernel
theorem d_law_733 : decode code 733 = .ok (.iconst 5, 1) := by decide +kernel
theorem d_law_734 : decode code 734 = .ok (.iadd, 1) := by decide +kernel
theorem d_law_735 : decode code 735 = .ok (.iaload, 1) := by decide +kernel
theorem d_law_736 : decode code 736 = .ok (.invokevirtual 122, 3) := by decide +kernel
theorem d_law_739 : decode code 739 = .ok (.istore 7, 2) := by decide +kernel
theorem d_law_741 : decode code 741 = .ok (.aload_n 2, 1) := by decide +kernel
theorem d_law_742 : decode code 742 = .ok (.invokevirtual 95, 3) := by decide +kernel
theorem d_law_745 : decode code 745 = .ok (.iload 6, 2) := by decide +kernel
theorem d_law_747 : decode code 747 = .ok (.if_icmp .eq 5, 3) := by decide +kernel
theorem d_law_750 : decode code 750 = .ok (.iconst 0, 1) := by decide +kernel
theorem d_law_751 : decode code 751 = .ok (.ireturn, 1) := by decide +kernel
theorem d_law_752 : decode code 752 = .ok (.iload 6, 2) := by decide +kernel
theorem d_law_754 : decode code 754 = .ok (.ifCond .ne 15, 3) := by decide +kernel
theorem d_law_757 : decode code 757 = .ok (.aload_n 3, 1) := by decide +kernel
theorem d_law_758 : decode code 758 = .ok (.iconst 0, 1) := by decide +kernel
theorem d_law_759 : decode code 759 = .ok (.laload, 1) := by decide +kernel
theorem d_law_760 : decode code 760 = .ok (.iload 7, 2) := by decide +kernel
theorem d_law_762 : decode code 762 = .ok (.i2l, 1) := by decide +kernel
theorem d_law_763 : decode code 763 = .ok (.lcmp, 1) := by decide +kernel
theorem d_law_764 : decode code 764 = .ok (.ifCond .eq 5, 3) := by decide +kernel
theorem d_law_767 : decode code 767 = .ok (.iconst 0, 1) := by decide +kernel
theorem d_law_768 : decode code 768 = .ok (.ireturn, 1) := by decide +kernel
theorem d_law_769 : decode code 769 = .ok (.goto 893, 3) := by decide +kernel
theorem d_law_772 : decode code 772 = .ok (.aload_n 1, 1) := by decide +kernel
theorem d_law_773 : decode code 773 = .ok (.aload_n 0, 1) := by decide +kernel
theorem d_law_774 : decode code 774 = .ok (.iload 5, 2) := by decide +kernel
theorem d_law_776 : decode code 776 = .ok (.iconst 1, 1) := by decide +kernel
theorem d_law_777 : decode code 777 = .ok (.iadd, 1) := by decide +kernel
theorem d_law_778 : decode code 778 = .ok (.iaload, 1) := by decide +kernel
theorem d_law_779 : decode code 779 = .ok (.aload_n 0, 1) := by decide +kernel
theorem d_law_780 : decode code 780 = .ok (.iload 5, 2) := by decide +kernel
theorem d_law_782 : decode code 782 = .ok (.iconst 2, 1) := by decide +kernel
theorem d_law_783 : decode code 783 = .ok (.iadd, 1) := by decide +kernel
theorem d_law_784 : decode code 784 = .ok (.iaload, 1) := by decide +kernel
theorem d_law_785 : decode code 785 = .ok (.aload_n 3, 1) := by decide +kernel
theorem d_law_786 : decode code 786 = .ok (.invokestatic 123, 3) := by decide +kernel
theorem d_law_789 : decode code 789 = .ok (.istore 6, 2) := by decide +kernel
theorem d_law_791 : decode code 791 = .ok (.aload_n 2, 1) := by decide +kernel
theorem d_law_792 : decode code 792 = .ok (.aload_n 0, 1) := by decide +kernel
theorem d_law_793 : decode code 793 = .ok (.iload 5, 2) := by decide +kernel
theorem d_law_795 : decode code 795 = .ok (.iconst 1, 1) := by decide +kernel
theorem d_law_796 : decode code 796 = .ok (.iadd, 1) := by decide +kernel
theorem d_law_797 : decode code 797 = .ok (.iaload, 1) := by decide +kernel
theorem d_law_798 : decode code 798 = .ok (.aload_n 0, 1) := by decide +kernel
theorem d_law_799 : decode code 799 = .ok (.iload 5, 2) := by decide +kernel
theorem d_law_801 : decode code 801 = .ok (.iconst 2, 1) := by decide +kernel
theorem d_law_802 : decode code 802 = .ok (.iadd, 1) := by decide +kernel
theorem d_law_803 : decode code 803 = .ok (.iaload, 1) := by decide +kernel
theorem d_law_804 : decode code 804 = .ok (.invokevirtual 125, 3) := by decide +kernel
theorem d_law_807 : decode code 807 = .ok (.istore 7, 2) := by decide +kernel
theorem d_law_809 : decode code 809 = .ok (.aload_n 2, 1) := by decide +kernel
theorem d_law_810 : decode code 810 = .ok (.invokevirtual 95, 3) := by decide +kernel
theorem d_law_813 : decode code 813 = .ok (.iload 6, 2) := by decide +kernel
theorem d_law_815 : decode code 815 = .ok (.if_icmp .eq 5, 3) := by decide +kernel
theorem d_law_818 : decode code 818 = .ok (.iconst 0, 1) := by decide +kernel
theorem d_law_819 : decode code 819 = .ok (.ireturn, 1) := by decide +kernel
theorem d_law_820 : decode code 820 = .ok (.iload 6, 2) := by decide +kernel
theorem d_law_822 : decode code 822 = .ok (.ifCond .ne 15, 3) := by decide +kernel
theorem d_law_825 : decode code 825 = .ok (.aload_n 3, 1) := by decide +kernel
theorem d_law_826 : decode code 826 = .ok (.iconst 0, 1) := by decide +kernel
theorem d_law_827 : decode code 827 = .ok (.laload, 1) := by decide +kernel
theorem d_law_828 : decode code 828 = .ok (.iload 7, 2) := by decide +kernel
theorem d_law_830 : decode code 830 = .ok (.i2l, 1) := by decide +kernel
theorem d_law_831 : decode code 831 = .ok (.lcmp, 1) := by decide +kernel
theorem d_law_832 : decode code 832 = .ok (.ifCond .eq 5, 3) := by decide +kernel
theorem d_law_835 : decode code 835 = .ok (.iconst 0, 1) := by decide +kernel
theorem d_law_836 : decode code 836 = .ok (.ireturn, 1) := by decide +kernel
theorem d_law_837 : decode code 837 = .ok (.goto 825, 3) := by decide +kernel
theorem d_law_840 : decode code 840 = .ok (.aload_n 1, 1) := by decide +kernel
theorem d_law_841 : decode code 841 = .ok (.aload_n 0, 1) := by decide +kernel
theorem d_law_842 : decode code 842 = .ok (.iload 5, 2) := by decide +kernel
theorem d_law_844 : decode code 844 = .ok (.iconst 1, 1) := by decide +kernel
theorem d_law_845 : decode code 845 = .ok (.iadd, 1) := by decide +kernel
theorem d_law_846 : decode code 846 = .ok (.iaload, 1) := by decide +kernel
theorem d_law_847 : decode code 847 = .ok (.aload_n 3, 1) := by decide +kernel
theorem d_law_848 : decode code 848 = .ok (.invokestatic 126, 3) := by decide +kernel
theorem d_law_851 : decode code 851 = .ok (.istore 6, 2) := by decide +kernel
theorem d_law_853 : decode code 853 = .ok (.aload_n 2, 1) := by decide +kernel
theorem d_law_854 : decode code 854 = .ok (.aload_n 0, 1) := by decide +kernel
theorem d_law_855 : decode code 855 = .ok (.iload 5, 2) := by decide +kernel
theorem d_law_857 : decode code 857 = .ok (.iconst 1, 1) := by decide +kernel
theorem d_law_858 : decode code 858 = .ok (.iadd, 1) := by decide +kernel
theorem d_law_859 : decode code 859 = .ok (.iaload, 1) := by decide +kernel
theorem d_law_860 : decode code 860 = .ok (.invokevirtual 128, 3) := by decide +kernel
theorem d_law_863 : decode code 863 = .ok (.istore 7, 2) := by decide +kernel
theorem d_law_865 : decode code 865 = .ok (.aload_n 2, 1) := by decide +kernel
theorem d_law_866 : decode code 866 = .ok (.invokevirtual 95, 3) := by decide +kernel
theorem d_law_869 : decode code 869 = .ok (.iload 6, 2) := by decide +kernel
theorem d_law_871 : decode code 871 = .ok (.if_icmp .eq 5, 3) := by decide +kernel
theorem d_law_874 : decode code 874 = .ok (.iconst 0, 1) := by decide +kernel
theorem d_law_875 : decode code 875 = .ok (.ireturn, 1) := by decide +kernel
theorem d_law_876 : decode code 876 = .ok (.iload 6, 2) := by decide +kernel
theorem d_law_878 : decode code 878 = .ok (.ifCond .ne 15, 3) := by decide +kernel
theorem d_law_881 : decode code 881 = .ok (.aload_n 3, 1) := by decide +kernel
theorem d_law_882 : decode code 882 = .ok (.iconst 0, 1) := by decide +kernel
theorem d_law_883 : decode code 883 = .ok (.laload, 1) := by decide +kernel
theorem d_law_884 : decode code 884 = .ok (.iload 7, 2) := by decide +kernel
theorem d_law_886 : decode code 886 = .ok (.i2l, 1) := by decide +kernel
theorem d_law_887 : decode code 887 = .ok (.lcmp, 1) := by decide +kernel
theorem d_law_888 : decode code 888 = .ok (.ifCond .eq 5, 3) := by decide +kernel
theorem d_law_891 : decode code 891 = .ok (.iconst 0, 1) := by decide +kernel
theorem d_law_892 : decode code 892 = .ok (.ireturn, 1) := by decide +kernel
theorem d_law_893 : decode code 893 = .ok (.goto 769, 3) := by decide +kernel
theorem d_law_896 : decode code 896 = .ok (.aload_n 1, 1) := by decide +kernel
theorem d_law_897 : decode code 897 = .ok (.aload_n 0, 1) := by decide +kernel
theorem d_law_898 : decode code 898 = .ok (.iload 5, 2) := by decide +kernel
theorem d_law_900 : decode code 900 = .ok (.iconst 1, 1) := by decide +kernel
theorem d_law_901 : decode code 901 = .ok (.iadd, 1) := by decide +kernel
theorem d_law_902 : decode code 902 = .ok (.iaload, 1) := by decide +kernel
theorem d_law_903 : decode code 903 = .ok (.aload_n 0, 1) := by decide +kernel
theorem d_law_904 : decode code 904 = .ok (.iload 5, 2) := by decide +kernel
theorem d_law_906 : decode code 906 = .ok (.iconst 2, 1) := by decide +kernel
theorem d_law_907 : decode code 907 = .ok (.iadd, 1) := by decide +kernel
theorem d_law_908 : decode code 908 = .ok (.iaload, 1) := by decide +kernel
theorem d_law_909 : decode code 909 = .ok (.aload_n 3, 1) := by decide +kernel
theorem d_law_910 : decode code 910 = .ok (.invokestatic 129, 3) := by decide +kernel
theorem d_law_913 : decode code 913 = .ok (.istore 6, 2) := by decide +kernel
theorem d_law_915 : decode code 915 = .ok (.aload_n 2, 1) := by decide +kernel
theorem d_law_916 : decode code 916 = .ok (.aload_n 0, 1) := by decide +kernel
theorem d_law_917 : decode code 917 = .ok (.iload 5, 2) := by decide +kernel
theorem d_law_919 : decode code 919 = .ok (.iconst 1, 1) := by decide +kernel
theorem d_law_920 : decode code 920 = .ok (.iadd, 1) := by decide +kernel
theorem d_law_921 : decode code 921 = .ok (.iaload, 1) := by decide +kernel
theorem d_law_922 : decode code 922 = .ok (.aload_n 0, 1) := by decide +kernel
theorem d_law_923 : decode code 923 = .ok (.iload 5, 2) := by decide +kernel
theorem d_law_925 : decode code 925 = .ok (.iconst 2, 1) := by decide +kernel
theorem d_law_926 : decode code 926 = .ok (.iadd, 1) := by decide +kernel
theorem d_law_927 : decode code 927 = .ok (.iaload, 1) := by decide +kernel
theorem d_law_928 : decode code 928 = .ok (.invokevirtual 131, 3) := by decide +kernel
theorem d_law_931 : decode code 931 = .ok (.istore 7, 2) := by decide +kernel
theorem d_law_933 : decode code 933 = .ok (.aload_n 2, 1) := by decide +kernel
theorem d_law_934 : decode code 934 = .ok (.invokevirtual 95, 3) := by decide +kernel
theorem d_law_937 : decode code 937 = .ok (.iload 6, 2) := by decide +kernel
theorem d_law_939 : decode code 939 = .ok (.if_icmp .eq 5, 3) := by decide +kernel
theorem d_law_942 : decode code 942 = .ok (.iconst 0, 1) := by decide +kernel
theorem d_law_943 : decode code 943 = .ok (.ireturn, 1) := by decide +kernel
theorem d_law_944 : decode code 944 = .ok (.iload 6, 2) := by decide +kernel
theorem d_law_946 : decode code 946 = .ok (.ifCond .ne 15, 3) := by decide +kernel
theorem d_law_949 : decode code 949 = .ok (.aload_n 3, 1) := by decide +kernel
theorem d_law_950 : decode code 950 = .ok (.iconst 0, 1) := by decide +kernel
theorem d_law_951 : decode code 951 = .ok (.laload, 1) := by decide +kernel
theorem d_law_952 : decode code 952 = .ok (.iload 7, 2) := by decide +kernel
theorem d_law_954 : decode code 954 = .ok (.i2l, 1) := by decide +kernel
theorem d_law_955 : decode code 955 = .ok (.lcmp, 1) := by decide +kernel
theorem d_law_956 : decode code 956 = .ok (.ifCond .eq 5, 3) := by decide +kernel
theorem d_law_959 : decode code 959 = .ok (.iconst 0, 1) := by decide +kernel
theorem d_law_960 : decode code 960 = .ok (.ireturn, 1) := by decide +kernel
theorem d_law_961 : decode code 961 = .ok (.goto 701, 3) := by decide +kernel
theorem d_law_964 : decode code 964 = .ok (.aload_n 1, 1) := by decide +kernel
theorem d_law_965 : decode code 965 = .ok (.aload_n 0, 1) := by decide +kernel
theorem d_law_966 : decode code 966 = .ok (.iload 5, 2) := by decide +kernel
theorem d_law_968 : decode code 968 = .ok (.iconst 1, 1) := by decide +kernel
theorem d_law_969 : decode code 969 = .ok (.iadd, 1) := by decide +kernel
theorem d_law_970 : decode code 970 = .ok (.iaload, 1) := by decide +kernel
theorem d_law_971 : decode code 971 = .ok (.aload_n 0, 1) := by decide +kernel
theorem d_law_972 : decode code 972 = .ok (.iload 5, 2) := by decide +kernel
theorem d_law_974 : decode code 974 = .ok (.iconst 2, 1) := by decide +kernel
theorem d_law_975 : decode code 975 = .ok (.iadd, 1) := by decide +kernel
theorem d_law_976 : decode code 976 = .ok (.iaload, 1) := by decide +kernel
theorem d_law_977 : decode code 977 = .ok (.aload_n 0, 1) := by decide +kernel
theorem d_law_978 : decode code 978 = .ok (.iload 5, 2) := by decide +kernel
theorem d_law_980 : decode code 980 = .ok (.iconst 3, 1) := by decide +kernel
theorem d_law_981 : decode code 981 = .ok (.iadd, 1) := by decide +kernel
theorem d_law_982 : decode code 982 = .ok (.iaload, 1) := by decide +kernel
theorem d_law_983 : decode code 983 = .ok (.aload_n 0, 1) := by decide +kernel
theorem d_law_984 : decode code 984 = .ok (.iload 5, 2) := by decide +kernel
theorem d_law_986 : decode code 986 = .ok (.iconst 4, 1) := by decide +kernel
theorem d_law_987 : decode code 987 = .ok (.iadd, 1) := by decide +kernel
theorem d_law_988 : decode code 988 = .ok (.iaload, 1) := by decide +kernel
theorem d_law_989 : decode code 989 = .ok (.aload_n 3, 1) := by decide +kernel
theorem d_law_990 : decode code 990 = .ok (.invokestatic 132, 3) := by decide +kernel
theorem d_law_993 : decode code 993 = .ok (.istore 6, 2) := by decide +kernel
theorem d_law_995 : decode code 995 = .ok (.aload_n 2, 1) := by decide +kernel
theorem d_law_996 : decode code 996 = .ok (.aload_n 0, 1) := by decide +kernel
theorem d_law_997 : decode code 997 = .ok (.iload 5, 2) := by decide +kernel
theorem d_law_999 : decode code 999 = .ok (.iconst 1, 1) := by decide +kernel
theorem d_law_1000 : decode code 1000 = .ok (.iadd, 1) := by decide +kernel
theorem d_law_1001 : decode code 1001 = .ok (.iaload, 1) := by decide +kernel
theorem d_law_1002 : decode code 1002 = .ok (.aload_n 0, 1) := by decide +kernel
theorem d_law_1003 : decode code 1003 = .ok (.iload 5, 2) := by decide +kernel
theorem d_law_1005 : decode code 1005 = .ok (.iconst 2, 1) := by decide +kernel
theorem d_law_1006 : decode code 1006 = .ok (.iadd, 1) := by decide +kernel
theorem d_law_1007 : decode code 1007 = .ok (.iaload, 1) := by decide +kernel
theorem d_law_1008 : decode code 1008 = .ok (.aload_n 0, 1) := by decide +kernel
theorem d_law_1009 : decode code 1009 = .ok (.iload 5, 2) := by decide +kernel
theorem d_law_1011 : decode code 1011 = .ok (.iconst 3, 1) := by decide +kernel
theorem d_law_1012 : decode code 1012 = .ok (.iadd, 1) := by decide +kernel
theorem d_law_1013 : decode code 1013 = .ok (.iaload, 1) := by decide +kernel
theorem d_law_1014 : decode code 1014 = .ok (.aload_n 0, 1) := by decide +kernel
theorem d_law_1015 : decode code 1015 = .ok (.iload 5, 2) := by decide +kernel
theorem d_law_1017 : decode code 1017 = .ok (.iconst 4, 1) := by decide +kernel
theorem d_law_1018 : decode code 1018 = .ok (.iadd, 1) := by decide +kernel
theorem d_law_1019 : decode code 1019 = .ok (.iaload, 1) := by decide +kernel
theorem d_law_1020 : decode code 1020 = .ok (.invokevirtual 135, 3) := by decide +kernel
theorem d_law_1023 : decode code 1023 = .ok (.istore 7, 2) := by decide +kernel
theorem d_law_1025 : decode code 1025 = .ok (.aload_n 2, 1) := by decide +kernel
theorem d_law_1026 : decode code 1026 = .ok (.invokevirtual 95, 3) := by decide +kernel
theorem d_law_1029 : decode code 1029 = .ok (.iload 6, 2) := by decide +kernel
theorem d_law_1031 : decode code 1031 = .ok (.if_icmp .eq 5, 3) := by decide +kernel
theorem d_law_1034 : decode code 1034 = .ok (.iconst 0, 1) := by decide +kernel
theorem d_law_1035 : decode code 1035 = .ok (.ireturn, 1) := by decide +kernel
theorem d_law_1036 : decode code 1036 = .ok (.iload 6, 2) := by decide +kernel
theorem d_law_1038 : decode code 1038 = .ok (.ifCond .ne 15, 3) := by decide +kernel
theorem d_law_1041 : decode code 1041 = .ok (.aload_n 3, 1) := by decide +kernel
theorem d_law_1042 : decode code 1042 = .ok (.iconst 0, 1) := by decide +kernel
theorem d_law_1043 : decode code 1043 = .ok (.laload, 1) := by decide +kernel
theorem d_law_1044 : decode code 1044 = .ok (.iload 7, 2) := by decide +kernel
theorem d_law_1046 : decode code 1046 = .ok (.i2l, 1) := by decide +kernel
theorem d_law_1047 : decode code 1047 = .ok (.lcmp, 1) := by decide +kernel
theorem d_law_1048 : decode code 1048 = .ok (.ifCond .eq 5, 3) := by decide +kernel
theorem d_law_1051 : decode code 1051 = .ok (.iconst 0, 1) := by decide +kernel
theorem d_law_1052 : decode code 1052 = .ok (.ireturn, 1) := by decide +kernel
theorem d_law_1053 : decode code 1053 = .ok (.goto 609, 3) := by decide +kernel
theorem d_law_1056 : decode code 1056 = .ok (.aload_n 1, 1) := by decide +kernel
theorem d_law_1057 : decode code 1057 = .ok (.aload_n 0, 1) := by decide +kernel
theorem d_law_1058 : decode code 1058 = .ok (.iload 5, 2) := by decide +kernel
theorem d_law_1060 : decode code 1060 = .ok (.iconst 1, 1) := by decide +kernel
theorem d_law_1061 : decode code 1061 = .ok (.iadd, 1) := by decide +kernel
theorem d_law_1062 : decode code 1062 = .ok (.iaload, 1) := by decide +kernel
theorem d_law_1063 : decode code 1063 = .ok (.aload_n 0, 1) := by decide +kernel
theorem d_law_1064 : decode code 1064 = .ok (.iload 5, 2) := by decide +kernel
theorem d_law_1066 : decode code 1066 = .ok (.iconst 2, 1) := by decide +kernel
theorem d_law_1067 : decode code 1067 = .ok (.iadd, 1) := by decide +kernel
theorem d_law_1068 : decode code 1068 = .ok (.iaload, 1) := by decide +kernel
theorem d_law_1069 : decode code 1069 = .ok (.ifCond .eq 7, 3) := by decide +kernel
theorem d_law_1072 : decode code 1072 = .ok (.iconst 1, 1) := by decide +kernel
theorem d_law_1073 : decode code 1073 = .ok (.goto 4, 3) := by decide +kernel
theorem d_law_1076 : decode code 1076 = .ok (.iconst 0, 1) := by decide +kernel
theorem d_law_1077 : decode code 1077 = .ok (.aload_n 3, 1) := by decide +kernel
theorem d_law_1078 : decode code 1078 = .ok (.invokestatic 136, 3) := by decide +kernel
theorem d_law_1081 : decode code 1081 = .ok (.istore 6, 2) := by decide +kernel
theorem d_law_1083 : decode code 1083 = .ok (.aload_n 2, 1) := by decide +kernel
theorem d_law_1084 : decode code 1084 = .ok (.aload_n 0, 1) := by decide +kernel
theorem d_law_1085 : decode code 1085 = .ok (.iload 5, 2) := by decide +kernel
theorem d_law_1087 : decode code 1087 = .ok (.iconst 1, 1) := by decide +kernel
theorem d_law_1088 : decode code 1088 = .ok (.iadd, 1) := by decide +kernel
theorem d_law_1089 : decode code 1089 = .ok (.iaload, 1) := by decide +kernel
theorem d_law_1090 : decode code 1090 = .ok (.aload_n 0, 1) := by decide +kernel
theorem d_law_1091 : decode code 1091 = .ok (.iload 5, 2) := by decide +kernel
theorem d_law_1093 : decode code 1093 = .ok (.iconst 2, 1) := by decide +kernel
theorem d_law_1094 : decode code 1094 = .ok (.iadd, 1) := by decide +kernel
theorem d_law_1095 : decode code 1095 = .ok (.iaload, 1) := by decide +kernel
theorem d_law_1096 : decode code 1096 = .ok (.ifCond .eq 7, 3) := by decide +kernel
theorem d_law_1099 : decode code 1099 = .ok (.iconst 1, 1) := by decide +kernel
theorem d_law_1100 : decode code 1100 = .ok (.goto 4, 3) := by decide +kernel
theorem d_law_1103 : decode code 1103 = .ok (.iconst 0, 1) := by decide +kernel
theorem d_law_1104 : decode code 1104 = .ok (.invokevirtual 138, 3) := by decide +kernel
theorem d_law_1107 : decode code 1107 = .ok (.istore 7, 2) := by decide +kernel
theorem d_law_1109 : decode code 1109 = .ok (.aload_n 2, 1) := by decide +kernel
theorem d_law_1110 : decode code 1110 = .ok (.invokevirtual 95, 3) := by decide +kernel
theorem d_law_1113 : decode code 1113 = .ok (.iload 6, 2) := by decide +kernel
theorem d_law_1115 : decode code 1115 = .ok (.if_icmp .eq 5, 3) := by decide +kernel
theorem d_law_1118 : decode code 1118 = .ok (.iconst 0, 1) := by decide +kernel
theorem d_law_1119 : decode code 1119 = .ok (.ireturn, 1) := by decide +kernel
theorem d_law_1120 : decode code 1120 = .ok (.iload 6, 2) := by decide +kernel
theorem d_law_1122 : decode code 1122 = .ok (.ifCond .ne 15, 3) := by decide +kernel
theorem d_law_1125 : decode code 1125 = .ok (.aload_n 3, 1) := by decide +kernel
theorem d_law_1126 : decode code 1126 = .ok (.iconst 0, 1) := by decide +kernel
theorem d_law_1127 : decode code 1127 = .ok (.laload, 1) := by decide +kernel
theorem d_law_1128 : decode code 1128 = .ok (.iload 7, 2) := by decide +kernel
theorem d_law_1130 : decode code 1130 = .ok (.i2l, 1) := by decide +kernel
theorem d_law_1131 : decode code 1131 = .ok (.lcmp, 1) := by decide +kernel
theorem d_law_1132 : decode code 1132 = .ok (.ifCond .eq 5, 3) := by decide +kernel
theorem d_law_1135 : decode code 1135 = .ok (.iconst 0, 1) := by decide +kernel
theorem d_law_1136 : decode code 1136 = .ok (.ireturn, 1) := by decide +kernel
theorem d_law_1137 : decode code 1137 = .ok (.goto 525, 3) := by decide +kernel
theorem d_law_1140 : decode code 1140 = .ok (.aload_n 1, 1) := by decide +kernel
theorem d_law_1141 : decode code 1141 = .ok (.aload_n 0, 1) := by decide +kernel
theorem d_law_1142 : decode code 1142 = .ok (.iload 5, 2) := by decide +kernel
theorem d_law_1144 : decode code 1144 = .ok (.iconst 1, 1) := by decide +kernel
theorem d_law_1145 : decode code 1145 = .ok (.iadd, 1) := by decide +kernel
theorem d_law_1146 : decode code 1146 = .ok (.iaload, 1) := by decide +kernel
theorem d_law_1147 : decode code 1147 = .ok (.aload_n 3, 1) := by decide +kernel
theorem d_law_1148 : decode code 1148 = .ok (.invokestatic 139, 3) := by decide +kernel
theorem d_law_1151 : decode code 1151 = .ok (.istore 6, 2) := by decide +kernel
theorem d_law_1153 : decode code 1153 = .ok (.aload_n 2, 1) := by decide +kernel
theorem d_law_1154 : decode code 1154 = .ok (.aload_n 0, 1) := by decide +kernel
theorem d_law_1155 : decode code 1155 = .ok (.iload 5, 2) := by decide +kernel
theorem d_law_1157 : decode code 1157 = .ok (.iconst 1, 1) := by decide +kernel
theorem d_law_1158 : decode code 1158 = .ok (.iadd, 1) := by decide +kernel
theorem d_law_1159 : decode code 1159 = .ok (.iaload, 1) := by decide +kernel
theorem d_law_1160 : decode code 1160 = .ok (.invokevirtual 141, 3) := by decide +kernel
theorem d_law_1163 : decode code 1163 = .ok (.istore 7, 2) := by decide +kernel
theorem d_law_1165 : decode code 1165 = .ok (.aload_n 2, 1) := by decide +kernel
theorem d_law_1166 : decode code 1166 = .ok (.invokevirtual 95, 3) := by decide +kernel
theorem d_law_1169 : decode code 1169 = .ok (.iload 6, 2) := by decide +kernel
theorem d_law_1171 : decode code 1171 = .ok (.if_icmp .eq 5, 3) := by decide +kernel
theorem d_law_1174 : decode code 1174 = .ok (.iconst 0, 1) := by decide +kernel
theorem d_law_1175 : decode code 1175 = .ok (.ireturn, 1) := by decide +kernel
theorem d_law_1176 : decode code 1176 = .ok (.iload 6, 2) := by decide +kernel
theorem d_law_1178 : decode code 1178 = .ok (.ifCond .ne 15, 3) := by decide +kernel
theorem d_law_1181 : decode code 1181 = .ok (.aload_n 3, 1) := by decide +kernel
theorem d_law_1182 : decode code 1182 = .ok (.iconst 0, 1) := by decide +kernel
theorem d_law_1183 : decode code 1183 = .ok (.laload, 1) := by decide +kernel
theorem d_law_1184 : decode code 1184 = .ok (.iload 7, 2) := by decide +kernel
theorem d_law_1186 : decode code 1186 = .ok (.i2l, 1) := by decide +kernel
theorem d_law_1187 : decode code 1187 = .ok (.lcmp, 1) := by decide +kernel
theorem d_law_1188 : decode code 1188 = .ok (.ifCond .eq 5, 3) := by decide +kernel
theorem d_law_1191 : decode code 1191 = .ok (.iconst 0, 1) := by decide +kernel
theorem d_law_1192 : decode code 1192 = .ok (.ireturn, 1) := by decide +kernel
theorem d_law_1193 : decode code 1193 = .ok (.goto 469, 3) := by decide +kernel
theorem d_law_1196 : decode code 1196 = .ok (.aload_n 1, 1) := by decide +kernel
theorem d_law_1197 : decode code 1197 = .ok (.aload_n 3, 1) := by decide +kernel
theorem d_law_1198 : decode code 1198 = .ok (.invokestatic 142, 3) := by decide +kernel
theorem d_law_1201 : decode code 1201 = .ok (.istore 6, 2) := by decide +kernel
theorem d_law_1203 : decode code 1203 = .ok (.aload_n 2, 1) := by decide +kernel
theorem d_law_1204 : decode code 1204 = .ok (.invokevirtual 145, 3) := by decide +kernel
theorem d_law_1207 : decode code 1207 = .ok (.istore 7, 2) := by decide +kernel
theorem d_law_1209 : decode code 1209 = .ok (.aload_n 2, 1) := by decide +kernel
theorem d_law_1210 : decode code 1210 = .ok (.invokevirtual 95, 3) := by decide +kernel
theorem d_law_1213 : decode code 1213 = .ok (.iload 6, 2) := by decide +kernel
theorem d_law_1215 : decode code 1215 = .ok (.if_icmp .eq 5, 3) := by decide +kernel
theorem d_law_1218 : decode code 1218 = .ok (.iconst 0, 1) := by decide +kernel
theorem d_law_1219 : decode code 1219 = .ok (.ireturn, 1) := by decide +kernel
theorem d_law_1220 : decode code 1220 = .ok (.iload 6, 2) := by decide +kernel
theorem d_law_1222 : decode code 1222 = .ok (.ifCond .ne 15, 3) := by decide +kernel
theorem d_law_1225 : decode code 1225 = .ok (.aload_n 3, 1) := by decide +kernel
theorem d_law_1226 : decode code 1226 = .ok (.iconst 0, 1) := by decide +kernel
theorem d_law_1227 : decode code 1227 = .ok (.laload, 1) := by decide +kernel
theorem d_law_1228 : decode code 1228 = .ok (.iload 7, 2) := by decide +kernel
theorem d_law_1230 : decode code 1230 = .ok (.i2l, 1) := by decide +kernel
theorem d_law_1231 : decode code 1231 = .ok (.lcmp, 1) := by decide +kernel
theorem d_law_1232 : decode code 1232 = .ok (.ifCond .eq 5, 3) := by decide +kernel
theorem d_law_1235 : decode code 1235 = .ok (.iconst 0, 1) := by decide +kernel
theorem d_law_1236 : decode code 1236 = .ok (.ireturn, 1) := by decide +kernel
theorem d_law_1237 : decode code 1237 = .ok (.goto 425, 3) := by decide +kernel
theorem d_law_1240 : decode code 1240 = .ok (.aload_n 1, 1) := by decide +kernel
theorem d_law_1241 : decode code 1241 = .ok (.aload_n 0, 1) := by decide +kernel
theorem d_law_1242 : decode code 1242 = .ok (.iload 5, 2) := by decide +kernel
theorem d_law_1244 : decode code 1244 = .ok (.iconst 1, 1) := by decide +kernel
theorem d_law_1245 : decode code 1245 = .ok (.iadd, 1) := by decide +kernel
theorem d_law_1246 : decode code 1246 = .ok (.iaload, 1) := by decide +kernel
theorem d_law_1247 : decode code 1247 = .ok (.aload_n 0, 1) := by decide +kernel
theorem d_law_1248 : decode code 1248 = .ok (.iload 5, 2) := by decide +kernel
theorem d_law_1250 : decode code 1250 = .ok (.iconst 2, 1) := by decide +kernel
theorem d_law_1251 : decode code 1251 = .ok (.iadd, 1) := by decide +kernel
theorem d_law_1252 : decode code 1252 = .ok (.iaload, 1) := by decide +kernel
theorem d_law_1253 : decode code 1253 = .ok (.aload_n 3, 1) := by decide +kernel
theorem d_law_1254 : decode code 1254 = .ok (.invokestatic 146, 3) := by decide +kernel
theorem d_law_1257 : decode code 1257 = .ok (.istore 6, 2) := by decide +kernel
theorem d_law_1259 : decode code 1259 = .ok (.aload_n 2, 1) := by decide +kernel
theorem d_law_1260 : decode code 1260 = .ok (.aload_n 0, 1) := by decide +kernel
theorem d_law_1261 : decode code 1261 = .ok (.iload 5, 2) := by decide +kernel
theorem d_law_1263 : decode code 1263 = .ok (.iconst 1, 1) := by decide +kernel
theorem d_law_1264 : decode code 1264 = .ok (.iadd, 1) := by decide +kernel
theorem d_law_1265 : decode code 1265 = .ok (.iaload, 1) := by decide +kernel
theorem d_law_1266 : decode code 1266 = .ok (.aload_n 0, 1) := by decide +kernel
theorem d_law_1267 : decode code 1267 = .ok (.iload 5, 2) := by decide +kernel
theorem d_law_1269 : decode code 1269 = .ok (.iconst 2, 1) := by decide +kernel
theorem d_law_1270 : decode code 1270 = .ok (.iadd, 1) := by decide +kernel
theorem d_law_1271 : decode code 1271 = .ok (.iaload, 1) := by decide +kernel
theorem d_law_1272 : decode code 1272 = .ok (.invokevirtual 148, 3) := by decide +kernel
theorem d_law_1275 : decode code 1275 = .ok (.istore 7, 2) := by decide +kernel
theorem d_law_1277 : decode code 1277 = .ok (.aload_n 2, 1) := by decide +kernel
theorem d_law_1278 : decode code 1278 = .ok (.invokevirtual 95, 3) := by decide +kernel
theorem d_law_1281 : decode code 1281 = .ok (.iload 6, 2) := by decide +kernel
theorem d_law_1283 : decode code 1283 = .ok (.if_icmp .eq 5, 3) := by decide +kernel
theorem d_law_1286 : decode code 1286 = .ok (.iconst 0, 1) := by decide +kernel
theorem d_law_1287 : decode code 1287 = .ok (.ireturn, 1) := by decide +kernel
theorem d_law_1288 : decode code 1288 = .ok (.iload 6, 2) := by decide +kernel
theorem d_law_1290 : decode code 1290 = .ok (.ifCond .ne 15, 3) := by decide +kernel
theorem d_law_1293 : decode code 1293 = .ok (.aload_n 3, 1) := by decide +kernel
theorem d_law_1294 : decode code 1294 = .ok (.iconst 0, 1) := by decide +kernel
theorem d_law_1295 : decode code 1295 = .ok (.laload, 1) := by decide +kernel
theorem d_law_1296 : decode code 1296 = .ok (.iload 7, 2) := by decide +kernel
theorem d_law_1298 : decode code 1298 = .ok (.i2l, 1) := by decide +kernel
theorem d_law_1299 : decode code 1299 = .ok (.lcmp, 1) := by decide +kernel
theorem d_law_1300 : decode code 1300 = .ok (.ifCond .eq 5, 3) := by decide +kernel
theorem d_law_1303 : decode code 1303 = .ok (.iconst 0, 1) := by decide +kernel
theorem d_law_1304 : decode code 1304 = .ok (.ireturn, 1) := by decide +kernel
theorem d_law_1305 : decode code 1305 = .ok (.goto 357, 3) := by decide +kernel
theorem d_law_1308 : decode code 1308 = .ok (.aload_n 1, 1) := by decide +kernel
theorem d_law_1309 : decode code 1309 = .ok (.aload_n 0, 1) := by decide +kernel
theorem d_law_1310 : decode code 1310 = .ok (.iload 5, 2) := by decide +kernel
theorem d_law_1312 : decode code 1312 = .ok (.iconst 1, 1) := by decide +kernel
theorem d_law_1313 : decode code 1313 = .ok (.iadd, 1) := by decide +kernel
theorem d_law_1314 : decode code 1314 = .ok (.iaload, 1) := by decide +kernel
theorem d_law_1315 : decode code 1315 = .ok (.aload_n 0, 1) := by decide +kernel
theorem d_law_1316 : decode code 1316 = .ok (.iload 5, 2) := by decide +kernel
theorem d_law_1318 : decode code 1318 = .ok (.iconst 2, 1) := by decide +kernel
theorem d_law_1319 : decode code 1319 = .ok (.iadd, 1) := by decide +kernel
theorem d_law_1320 : decode code 1320 = .ok (.iaload, 1) := by decide +kernel
theorem d_law_1321 : decode code 1321 = .ok (.aload_n 0, 1) := by decide +kernel
theorem d_law_1322 : decode code 1322 = .ok (.iload 5, 2) := by decide +kernel
theorem d_law_1324 : decode code 1324 = .ok (.iconst 3, 1) := by decide +kernel
theorem d_law_1325 : decode code 1325 = .ok (.iadd, 1) := by decide +kernel
theorem d_law_1326 : decode code 1326 = .ok (.iaload, 1) := by decide +kernel
theorem d_law_1327 : decode code 1327 = .ok (.i2d, 1) := by decide +kernel
theorem d_law_1328 : decode code 1328 = .ok (.ldc2_w 149, 3) := by decide +kernel
theorem d_law_1331 : decode code 1331 = .ok (.dmul, 1) := by decide +kernel
theorem d_law_1332 : decode code 1332 = .ok (.aload_n 0, 1) := by decide +kernel
theorem d_law_1333 : decode code 1333 = .ok (.iload 5, 2) := by decide +kernel
theorem d_law_1335 : decode code 1335 = .ok (.iconst 4, 1) := by decide +kernel
theorem d_law_1336 : decode code 1336 = .ok (.iadd, 1) := by decide +kernel
theorem d_law_1337 : decode code 1337 = .ok (.iaload, 1) := by decide +kernel
theorem d_law_1338 : decode code 1338 = .ok (.i2d, 1) := by decide +kernel
theorem d_law_1339 : decode code 1339 = .ok (.ldc2_w 149, 3) := by decide +kernel
theorem d_law_1342 : decode code 1342 = .ok (.dmul, 1) := by decide +kernel
theorem d_law_1343 : decode code 1343 = .ok (.aload_n 0, 1) := by decide +kernel
theorem d_law_1344 : decode code 1344 = .ok (.iload 5, 2) := by decide +kernel
theorem d_law_1346 : decode code 1346 = .ok (.iconst 5, 1) := by decide +kernel
theorem d_law_1347 : decode code 1347 = .ok (.iadd, 1) := by decide +kernel
theorem d_law_1348 : decode code 1348 = .ok (.iaload, 1) := by decide +kernel
theorem d_law_1349 : decode code 1349 = .ok (.aload_n 3, 1) := by decide +kernel
theorem d_law_1350 : decode code 1350 = .ok (.invokestatic 151, 3) := by decide +kernel
theorem d_law_1353 : decode code 1353 = .ok (.istore 6, 2) := by decide +kernel
theorem d_law_1355 : decode code 1355 = .ok (.aload_n 2, 1) := by decide +kernel
theorem d_law_1356 : decode code 1356 = .ok (.aload_n 0, 1) := by decide +kernel
theorem d_law_1357 : decode code 1357 = .ok (.iload 5, 2) := by decide +kernel
theorem d_law_1359 : decode code 1359 = .ok (.iconst 1, 1) := by decide +kernel
theorem d_law_1360 : decode code 1360 = .ok (.iadd, 1) := by decide +kernel
theorem d_law_1361 : decode code 1361 = .ok (.iaload, 1) := by decide +kernel
theorem d_law_1362 : decode code 1362 = .ok (.aload_n 0, 1) := by decide +kernel
theorem d_law_1363 : decode code 1363 = .ok (.iload 5, 2) := by decide +kernel
theorem d_law_1365 : decode code 1365 = .ok (.iconst 2, 1) := by decide +kernel
theorem d_law_1366 : decode code 1366 = .ok (.iadd, 1) := by decide +kernel
theorem d_law_1367 : decode code 1367 = .ok (.iaload, 1) := by decide +kernel
theorem d_law_1368 : decode code 1368 = .ok (.aload_n 0, 1) := by decide +kernel
theorem d_law_1369 : decode code 1369 = .ok (.iload 5, 2) := by decide +kernel
theorem d_law_1371 : decode code 1371 = .ok (.iconst 3, 1) := by decide +kernel
theorem d_law_1372 : decode code 1372 = .ok (.iadd, 1) := by decide +kernel
theorem d_law_1373 : decode code 1373 = .ok (.iaload, 1) := by decide +kernel
theorem d_law_1374 : decode code 1374 = .ok (.i2d, 1) := by decide +kernel
theorem d_law_1375 : decode code 1375 = .ok (.ldc2_w 149, 3) := by decide +kernel
theorem d_law_1378 : decode code 1378 = .ok (.dmul, 1) := by decide +kernel
theorem d_law_1379 : decode code 1379 = .ok (.aload_n 0, 1) := by decide +kernel
theorem d_law_1380 : decode code 1380 = .ok (.iload 5, 2) := by decide +kernel
theorem d_law_1382 : decode code 1382 = .ok (.iconst 4, 1) := by decide +kernel
theorem d_law_1383 : decode code 1383 = .ok (.iadd, 1) := by decide +kernel
theorem d_law_1384 : decode code 1384 = .ok (.iaload, 1) := by decide +kernel
theorem d_law_1385 : decode code 1385 = .ok (.i2d, 1) := by decide +kernel
theorem d_law_1386 : decode code 1386 = .ok (.ldc2_w 149, 3) := by decide +kernel
theorem d_law_1389 : decode code 1389 = .ok (.dmul, 1) := by decide +kernel
theorem d_law_1390 : decode code 1390 = .ok (.aload_n 0, 1) := by decide +kernel
theorem d_law_1391 : decode code 1391 = .ok (.iload 5, 2) := by decide +kernel
theorem d_law_1393 : decode code 1393 = .ok (.iconst 5, 1) := by decide +kernel
theorem d_law_1394 : decode code 1394 = .ok (.iadd, 1) := by decide +kernel
theorem d_law_1395 : decode code 1395 = .ok (.iaload, 1) := by decide +kernel
theorem d_law_1396 : decode code 1396 = .ok (.invokevirtual 154, 3) := by decide +kernel
theorem d_law_1399 : decode code 1399 = .ok (.istore 7, 2) := by decide +kernel
theorem d_law_1401 : decode code 1401 = .ok (.aload_n 2, 1) := by decide +kernel
theorem d_law_1402 : decode code 1402 = .ok (.invokevirtual 95, 3) := by decide +kernel
theorem d_law_1405 : decode code 1405 = .ok (.iload 6, 2) := by decide +kernel
theorem d_law_1407 : decode code 1407 = .ok (.if_icmp .eq 5, 3) := by decide +kernel
theorem d_law_1410 : decode code 1410 = .ok (.iconst 0, 1) := by decide +kernel
theorem d_law_1411 : decode code 1411 = .ok (.ireturn, 1) := by decide +kernel
theorem d_law_1412 : decode code 1412 = .ok (.iload 6, 2) := by decide +kernel
theorem d_law_1414 : decode code 1414 = .ok (.ifCond .ne 15, 3) := by decide +kernel
theorem d_law_1417 : decode code 1417 = .ok (.aload_n 3, 1) := by decide +kernel
theorem d_law_1418 : decode code 1418 = .ok (.iconst 0, 1) := by decide +kernel
theorem d_law_1419 : decode code 1419 = .ok (.laload, 1) := by decide +kernel
theorem d_law_1420 : decode code 1420 = .ok (.iload 7, 2) := by decide +kernel
theorem d_law_1422 : decode code 1422 = .ok (.i2l, 1) := by decide +kernel
theorem d_law_1423 : decode code 1423 = .ok (.lcmp, 1) := by decide +kernel
theorem d_law_1424 : decode code 1424 = .ok (.ifCond .eq 5, 3) := by decide +kernel
theorem d_law_1427 : decode code 1427 = .ok (.iconst 0, 1) := by decide +kernel
theorem d_law_1428 : decode code 1428 = .ok (.ireturn, 1) := by decide +kernel
theorem d_law_1429 : decode code 1429 = .ok (.goto 233, 3) := by decide +kernel
theorem d_law_1432 : decode code 1432 = .ok (.aload_n 1, 1) := by decide +kernel
theorem d_law_1433 : decode code 1433 = .ok (.aload_n 0, 1) := by decide +kernel
theorem d_law_1434 : decode code 1434 = .ok (.iload 5, 2) := by decide +kernel
theorem d_law_1436 : decode code 1436 = .ok (.iconst 1, 1) := by decide +kernel
theorem d_law_1437 : decode code 1437 = .ok (.iadd, 1) := by decide +kernel
theorem d_law_1438 : decode code 1438 = .ok (.iaload, 1) := by decide +kernel
theorem d_law_1439 : decode code 1439 = .ok (.aload_n 0, 1) := by decide +kernel
theorem d_law_1440 : decode code 1440 = .ok (.iload 5, 2) := by decide +kernel
theorem d_law_1442 : decode code 1442 = .ok (.iconst 2, 1) := by decide +kernel
theorem d_law_1443 : decode code 1443 = .ok (.iadd, 1) := by decide +kernel
theorem d_law_1444 : decode code 1444 = .ok (.iaload, 1) := by decide +kernel
theorem d_law_1445 : decode code 1445 = .ok (.aload_n 0, 1) := by decide +kernel
theorem d_law_1446 : decode code 1446 = .ok (.iload 5, 2) := by decide +kernel
theorem d_law_1448 : decode code 1448 = .ok (.iconst 3, 1) := by decide +kernel
theorem d_law_1449 : decode code 1449 = .ok (.iadd, 1) := by decide +kernel
theorem d_law_1450 : decode code 1450 = .ok (.iaload, 1) := by decide +kernel
theorem d_law_1451 : decode code 1451 = .ok (.i2d, 1) := by decide +kernel
theorem d_law_1452 : decode code 1452 = .ok (.ldc2_w 149, 3) := by decide +kernel
theorem d_law_1455 : decode code 1455 = .ok (.dmul, 1) := by decide +kernel
theorem d_law_1456 : decode code 1456 = .ok (.aload_n 0, 1) := by decide +kernel
theorem d_law_1457 : decode code 1457 = .ok (.iload 5, 2) := by decide +kernel
theorem d_law_1459 : decode code 1459 = .ok (.iconst 4, 1) := by decide +kernel
theorem d_law_1460 : decode code 1460 = .ok (.iadd, 1) := by decide +kernel
theorem d_law_1461 : decode code 1461 = .ok (.iaload, 1) := by decide +kernel
theorem d_law_1462 : decode code 1462 = .ok (.i2d, 1) := by decide +kernel
theorem d_law_1463 : decode code 1463 = .ok (.ldc2_w 149, 3) := by decide +kernel
theorem d_law_1466 : decode code 1466 = .ok (.dmul, 1) := by decide +kernel
theorem d_law_1467 : decode code 1467 = .ok (.aload 4, 2) := by decide +kernel
theorem d_law_1469 : decode code 1469 = .ok (.invokestatic 155, 3) := by decide +kernel
theorem d_law_1472 : decode code 1472 = .ok (.istore 6, 2) := by decide +kernel
theorem d_law_1474 : decode code 1474 = .ok (.aload_n 2, 1) := by decide +kernel
theorem d_law_1475 : decode code 1475 = .ok (.aload_n 0, 1) := by decide +kernel
theorem d_law_1476 : decode code 1476 = .ok (.iload 5, 2) := by decide +kernel
theorem d_law_1478 : decode code 1478 = .ok (.iconst 1, 1) := by decide +kernel
theorem d_law_1479 : decode code 1479 = .ok (.iadd, 1) := by decide +kernel
theorem d_law_1480 : decode code 1480 = .ok (.iaload, 1) := by decide +kernel
theorem d_law_1481 : decode code 1481 = .ok (.aload_n 0, 1) := by decide +kernel
theorem d_law_1482 : decode code 1482 = .ok (.iload 5, 2) := by decide +kernel
theorem d_law_1484 : decode code 1484 = .ok (.iconst 2, 1) := by decide +kernel
theorem d_law_1485 : decode code 1485 = .ok (.iadd, 1) := by decide +kernel
theorem d_law_1486 : decode code 1486 = .ok (.iaload, 1) := by decide +kernel
theorem d_law_1487 : decode code 1487 = .ok (.aload_n 0, 1) := by decide +kernel
theorem d_law_1488 : decode code 1488 = .ok (.iload 5, 2) := by decide +kernel
theorem d_law_1490 : decode code 1490 = .ok (.iconst 3, 1) := by decide +kernel
theorem d_law_1491 : decode code 1491 = .ok (.iadd, 1) := by decide +kernel
theorem d_law_1492 : decode code 1492 = .ok (.iaload, 1) := by decide +kernel
theorem d_law_1493 : decode code 1493 = .ok (.i2d, 1) := by decide +kernel
theorem d_law_1494 : decode code 1494 = .ok (.ldc2_w 149, 3) := by decide +kernel
theorem d_law_1497 : decode code 1497 = .ok (.dmul, 1) := by decide +kernel
theorem d_law_1498 : decode code 1498 = .ok (.aload_n 0, 1) := by decide +kernel
theorem d_law_1499 : decode code 1499 = .ok (.iload 5, 2) := by decide +kernel
theorem d_law_1501 : decode code 1501 = .ok (.iconst 4, 1) := by decide +kernel
theorem d_law_1502 : decode code 1502 = .ok (.iadd, 1) := by decide +kernel
theorem d_law_1503 : decode code 1503 = .ok (.iaload, 1) := by decide +kernel
theorem d_law_1504 : decode code 1504 = .ok (.i2d, 1) := by decide +kernel
theorem d_law_1505 : decode code 1505 = .ok (.ldc2_w 149, 3) := by decide +kernel
theorem d_law_1508 : decode code 1508 = .ok (.dmul, 1) := by decide +kernel
theorem d_law_1509 : decode code 1509 = .ok (.invokevirtual 158, 3) := by decide +kernel
theorem d_law_1512 : decode code 1512 = .ok (.dstore 7, 2) := by decide +kernel
theorem d_law_1514 : decode code 1514 = .ok (.aload_n 2, 1) := by decide +kernel
theorem d_law_1515 : decode code 1515 = .ok (.invokevirtual 95, 3) := by decide +kernel
theorem d_law_1518 : decode code 1518 = .ok (.iload 6, 2) := by decide +kernel
theorem d_law_1520 : decode code 1520 = .ok (.if_icmp .eq 5, 3) := by decide +kernel
theorem d_law_1523 : decode code 1523 = .ok (.iconst 0, 1) := by decide +kernel
theorem d_law_1524 : decode code 1524 = .ok (.ireturn, 1) := by decide +kernel
theorem d_law_1525 : decode code 1525 = .ok (.iload 6, 2) := by decide +kernel
theorem d_law_1527 : decode code 1527 = .ok (.ifCond .ne 35, 3) := by decide +kernel
theorem d_law_1530 : decode code 1530 = .ok (.aload 4, 2) := by decide +kernel
theorem d_law_1532 : decode code 1532 = .ok (.iconst 0, 1) := by decide +kernel
theorem d_law_1533 : decode code 1533 = .ok (.daload, 1) := by decide +kernel
theorem d_law_1534 : decode code 1534 = .ok (.dload 7, 2) := by decide +kernel
theorem d_law_1536 : decode code 1536 = .ok (.dcmp .l, 1) := by decide +kernel
theorem d_law_1537 : decode code 1537 = .ok (.ifCond .eq 25, 3) := by decide +kernel
theorem d_law_1540 : decode code 1540 = .ok (.aload 4, 2) := by decide +kernel
theorem d_law_1542 : decode code 1542 = .ok (.iconst 0, 1) := by decide +kernel
theorem d_law_1543 : decode code 1543 = .ok (.daload, 1) := by decide +kernel
theorem d_law_1544 : decode code 1544 = .ok (.aload 4, 2) := by decide +kernel
theorem d_law_1546 : decode code 1546 = .ok (.iconst 0, 1) := by decide +kernel
theorem d_law_1547 : decode code 1547 = .ok (.daload, 1) := by decide +kernel
theorem d_law_1548 : decode code 1548 = .ok (.dcmp .l, 1) := by decide +kernel
theorem d_law_1549 : decode code 1549 = .ok (.ifCond .eq 11, 3) := by decide +kernel
theorem d_law_1552 : decode code 1552 = .ok (.dload 7, 2) := by decide +kernel
theorem d_law_1554 : decode code 1554 = .ok (.dload 7, 2) := by decide +kernel
theorem d_law_1556 : decode code 1556 = .ok (.dcmp .l, 1) := by decide +kernel
theorem d_law_1557 : decode code 1557 = .ok (.ifCond .ne 5, 3) := by decide +kernel
theorem d_law_1560 : decode code 1560 = .ok (.iconst 0, 1) := by decide +kernel
theorem d_law_1561 : decode code 1561 = .ok (.ireturn, 1) := by decide +kernel
theorem d_law_1562 : decode code 1562 = .ok (.goto 100, 3) := by decide +kernel
theorem d_law_1565 : decode code 1565 = .ok (.aload_n 1, 1) := by decide +kernel
theorem d_law_1566 : decode code 1566 = .ok (.invokevirtual 159, 3) := by decide +kernel
theorem d_law_1569 : decode code 1569 = .ok (.dstore 6, 2) := by decide +kernel
theorem d_law_1571 : decode code 1571 = .ok (.aload_n 2, 1) := by decide +kernel
theorem d_law_1572 : decode code 1572 = .ok (.invokevirtual 163, 3) := by decide +kernel
theorem d_law_1575 : decode code 1575 = .ok (.dstore 8, 2) := by decide +kernel
theorem d_law_1577 : decode code 1577 = .ok (.dload 6, 2) := by decide +kernel
theorem d_law_1579 : decode code 1579 = .ok (.dload 8, 2) := by decide +kernel
theorem d_law_1581 : decode code 1581 = .ok (.dcmp .l, 1) := by decide +kernel
theorem d_law_1582 : decode code 1582 = .ok (.ifCond .eq 21, 3) := by decide +kernel
theorem d_law_1585 : decode code 1585 = .ok (.dload 6, 2) := by decide +kernel
theorem d_law_1587 : decode code 1587 = .ok (.dload 6, 2) := by decide +kernel
theorem d_law_1589 : decode code 1589 = .ok (.dcmp .l, 1) := by decide +kernel
theorem d_law_1590 : decode code 1590 = .ok (.ifCond .eq 11, 3) := by decide +kernel
theorem d_law_1593 : decode code 1593 = .ok (.dload 8, 2) := by decide +kernel
theorem d_law_1595 : decode code 1595 = .ok (.dload 8, 2) := by decide +kernel
theorem d_law_1597 : decode code 1597 = .ok (.dcmp .l, 1) := by decide +kernel
theorem d_law_1598 : decode code 1598 = .ok (.ifCond .ne 5, 3) := by decide +kernel
theorem d_law_1601 : decode code 1601 = .ok (.iconst 0, 1) := by decide +kernel
theorem d_law_1602 : decode code 1602 = .ok (.ireturn, 1) := by decide +kernel
theorem d_law_1603 : decode code 1603 = .ok (.goto 59, 3) := by decide +kernel
theorem d_law_1606 : decode code 1606 = .ok (.aload_n 1, 1) := by decide +kernel
theorem d_law_1607 : decode code 1607 = .ok (.aload_n 0, 1) := by decide +kernel
theorem d_law_1608 : decode code 1608 = .ok (.iload 5, 2) := by decide +kernel
theorem d_law_1610 : decode code 1610 = .ok (.iconst 1, 1) := by decide +kernel
theorem d_law_1611 : decode code 1611 = .ok (.iadd, 1) := by decide +kernel
theorem d_law_1612 : decode code 1612 = .ok (.iaload, 1) := by decide +kernel
theorem d_law_1613 : decode code 1613 = .ok (.aload_n 3, 1) := by decide +kernel
theorem d_law_1614 : decode code 1614 = .ok (.invokestatic 164, 3) := by decide +kernel
theorem d_law_1617 : decode code 1617 = .ok (.istore 6, 2) := by decide +kernel
theorem d_law_1619 : decode code 1619 = .ok (.aload_n 2, 1) := by decide +kernel
theorem d_law_1620 : decode code 1620 = .ok (.aload_n 0, 1) := by decide +kernel
theorem d_law_1621 : decode code 1621 = .ok (.iload 5, 2) := by decide +kernel
theorem d_law_1623 : decode code 1623 = .ok (.iconst 1, 1) := by decide +kernel
theorem d_law_1624 : decode code 1624 = .ok (.iadd, 1) := by decide +kernel
theorem d_law_1625 : decode code 1625 = .ok (.iaload, 1) := by decide +kernel
theorem d_law_1626 : decode code 1626 = .ok (.invokevirtual 166, 3) := by decide +kernel
theorem d_law_1629 : decode code 1629 = .ok (.istore 7, 2) := by decide +kernel
theorem d_law_1631 : decode code 1631 = .ok (.aload_n 2, 1) := by decide +kernel
theorem d_law_1632 : decode code 1632 = .ok (.invokevirtual 95, 3) := by decide +kernel
theorem d_law_1635 : decode code 1635 = .ok (.iload 6, 2) := by decide +kernel
theorem d_law_1637 : decode code 1637 = .ok (.if_icmp .eq 5, 3) := by decide +kernel
theorem d_law_1640 : decode code 1640 = .ok (.iconst 0, 1) := by decide +kernel
theorem d_law_1641 : decode code 1641 = .ok (.ireturn, 1) := by decide +kernel
theorem d_law_1642 : decode code 1642 = .ok (.iload 6, 2) := by decide +kernel
theorem d_law_1644 : decode code 1644 = .ok (.ifCond .ne 15, 3) := by decide +kernel
theorem d_law_1647 : decode code 1647 = .ok (.aload_n 3, 1) := by decide +kernel
theorem d_law_1648 : decode code 1648 = .ok (.iconst 0, 1) := by decide +kernel
theorem d_law_1649 : decode code 1649 = .ok (.laload, 1) := by decide +kernel
theorem d_law_1650 : decode code 1650 = .ok (.iload 7, 2) := by decide +kernel
theorem d_law_1652 : decode code 1652 = .ok (.i2l, 1) := by decide +kernel
theorem d_law_1653 : decode code 1653 = .ok (.lcmp, 1) := by decide +kernel
theorem d_law_1654 : decode code 1654 = .ok (.ifCond .eq 5, 3) := by decide +kernel
theorem d_law_1657 : decode code 1657 = .ok (.iconst 0, 1) := by decide +kernel
theorem d_law_1658 : decode code 1658 = .ok (.ireturn, 1) := by decide +kernel
theorem d_law_1659 : decode code 1659 = .ok (.goto 3, 3) := by decide +kernel
theorem d_law_1662 : decode code 1662 = .ok (.iinc 5 6, 3) := by decide +kernel
theorem d_law_1665 : decode code 1665 = .ok (.goto (-1637), 3) := by decide +kernel
theorem d_law_1668 : decode code 1668 = .ok (.iconst 1, 1) := by decide +kernel
theorem d_law_1669 : decode code 1669 = .ok (.ireturn, 1) := by decide +kernel
