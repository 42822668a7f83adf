/-! the law: its bytes, the sites of its calls -/
theorem dlaw_0 : decode code 0 = .ok (.new 8, 3) := by decide +kernel
theorem dlaw_3 : decode code 3 = .ok (.dup, 1) := by decide +kernel
theorem dlaw_4 : decode code 4 = .ok (.invokespecial 69, 3) := by decide +kernel
theorem dlaw_7 : decode code 7 = .ok (.astore_n 1, 1) := by decide +kernel
theorem dlaw_8 : decode code 8 = .ok (.new 70, 3) := by decide +kernel
theorem dlaw_11 : decode code 11 = .ok (.dup, 1) := by decide +kernel
theorem dlaw_12 : decode code 12 = .ok (.invokespecial 72, 3) := by decide +kernel
theorem dlaw_15 : decode code 15 = .ok (.astore_n 2, 1) := by decide +kernel
theorem dlaw_16 : decode code 16 = .ok (.iconst 1, 1) := by decide +kernel
theorem dlaw_17 : decode code 17 = .ok (.newarray .long, 2) := by decide +kernel
theorem dlaw_19 : decode code 19 = .ok (.astore_n 3, 1) := by decide +kernel
theorem dlaw_20 : decode code 20 = .ok (.iconst 0, 1) := by decide +kernel
theorem dlaw_21 : decode code 21 = .ok (.istore 4, 2) := by decide +kernel
theorem dlaw_23 : decode code 23 = .ok (.iload 4, 2) := by decide +kernel
theorem dlaw_25 : decode code 25 = .ok (.aload_n 0, 1) := by decide +kernel
theorem dlaw_26 : decode code 26 = .ok (.arraylength, 1) := by decide +kernel
theorem dlaw_27 : decode code 27 = .ok (.iconst 5, 1) := by decide +kernel
theorem dlaw_28 : decode code 28 = .ok (.isub, 1) := by decide +kernel
theorem dlaw_29 : decode code 29 = .ok (.if_icmp .gt 1124, 3) := by decide +kernel
theorem dlaw_32 : decode code 32 = .ok (.aload_n 0, 1) := by decide +kernel
theorem dlaw_33 : decode code 33 = .ok (.iload 4, 2) := by decide +kernel
theorem dlaw_35 : decode code 35 = .ok (.iaload, 1) := by decide +kernel
theorem dlaw_36 : decode code 36 = .ok (.bipush 31, 2) := by decide +kernel
theorem dlaw_38 : decode code 38 = .ok (.iand, 1) := by decide +kernel
theorem dlaw_39 : decode code 39 = .ok (.tableswitch 1108 0 16 #[81, 181, 194, 278, 289, 325, 373, 433, 481, 517, 565, 621, 733, 845, 941, 997, 1052], 81) := by decide +kernel
theorem dlaw_120 : decode code 120 = .ok (.aload_n 1, 1) := by decide +kernel
theorem dlaw_121 : decode code 121 = .ok (.aload_n 0, 1) := by decide +kernel
theorem dlaw_122 : decode code 122 = .ok (.iload 4, 2) := by decide +kernel
theorem dlaw_124 : decode code 124 = .ok (.iconst 1, 1) := by decide +kernel
theorem dlaw_125 : decode code 125 = .ok (.iadd, 1) := by decide +kernel
theorem dlaw_126 : decode code 126 = .ok (.iaload, 1) := by decide +kernel
theorem dlaw_127 : decode code 127 = .ok (.aload_n 0, 1) := by decide +kernel
theorem dlaw_128 : decode code 128 = .ok (.iload 4, 2) := by decide +kernel
theorem dlaw_130 : decode code 130 = .ok (.iconst 2, 1) := by decide +kernel
theorem dlaw_131 : decode code 131 = .ok (.iadd, 1) := by decide +kernel
theorem dlaw_132 : decode code 132 = .ok (.iaload, 1) := by decide +kernel
theorem dlaw_133 : decode code 133 = .ok (.i2l, 1) := by decide +kernel
theorem dlaw_134 : decode code 134 = .ok (.bipush 32, 2) := by decide +kernel
theorem dlaw_136 : decode code 136 = .ok (.lshl, 1) := by decide +kernel
theorem dlaw_137 : decode code 137 = .ok (.aload_n 0, 1) := by decide +kernel
theorem dlaw_138 : decode code 138 = .ok (.iload 4, 2) := by decide +kernel
theorem dlaw_140 : decode code 140 = .ok (.iconst 3, 1) := by decide +kernel
theorem dlaw_141 : decode code 141 = .ok (.iadd, 1) := by decide +kernel
theorem dlaw_142 : decode code 142 = .ok (.iaload, 1) := by decide +kernel
theorem dlaw_143 : decode code 143 = .ok (.i2l, 1) := by decide +kernel
theorem dlaw_144 : decode code 144 = .ok (.ldc2_w 73, 3) := by decide +kernel
theorem dlaw_147 : decode code 147 = .ok (.land, 1) := by decide +kernel
theorem dlaw_148 : decode code 148 = .ok (.lor, 1) := by decide +kernel
theorem dlaw_149 : decode code 149 = .ok (.aload_n 3, 1) := by decide +kernel
theorem dlaw_150 : decode code 150 = .ok (.invokestatic 75, 3) := by decide +kernel
theorem dlaw_153 : decode code 153 = .ok (.istore 5, 2) := by decide +kernel
theorem dlaw_155 : decode code 155 = .ok (.aload_n 2, 1) := by decide +kernel
theorem dlaw_156 : decode code 156 = .ok (.aload_n 0, 1) := by decide +kernel
theorem dlaw_157 : decode code 157 = .ok (.iload 4, 2) := by decide +kernel
theorem dlaw_159 : decode code 159 = .ok (.iconst 1, 1) := by decide +kernel
theorem dlaw_160 : decode code 160 = .ok (.iadd, 1) := by decide +kernel
theorem dlaw_161 : decode code 161 = .ok (.iaload, 1) := by decide +kernel
theorem dlaw_162 : decode code 162 = .ok (.aload_n 0, 1) := by decide +kernel
theorem dlaw_163 : decode code 163 = .ok (.iload 4, 2) := by decide +kernel
theorem dlaw_165 : decode code 165 = .ok (.iconst 2, 1) := by decide +kernel
theorem dlaw_166 : decode code 166 = .ok (.iadd, 1) := by decide +kernel
theorem dlaw_167 : decode code 167 = .ok (.iaload, 1) := by decide +kernel
theorem dlaw_168 : decode code 168 = .ok (.i2l, 1) := by decide +kernel
theorem dlaw_169 : decode code 169 = .ok (.bipush 32, 2) := by decide +kernel
theorem dlaw_171 : decode code 171 = .ok (.lshl, 1) := by decide +kernel
theorem dlaw_172 : decode code 172 = .ok (.aload_n 0, 1) := by decide +kernel
theorem dlaw_173 : decode code 173 = .ok (.iload 4, 2) := by decide +kernel
theorem dlaw_175 : decode code 175 = .ok (.iconst 3, 1) := by decide +kernel
theorem dlaw_176 : decode code 176 = .ok (.iadd, 1) := by decide +kernel
theorem dlaw_177 : decode code 177 = .ok (.iaload, 1) := by decide +kernel
theorem dlaw_178 : decode code 178 = .ok (.i2l, 1) := by decide +kernel
theorem dlaw_179 : decode code 179 = .ok (.ldc2_w 73, 3) := by decide +kernel
theorem dlaw_182 : decode code 182 = .ok (.land, 1) := by decide +kernel
theorem dlaw_183 : decode code 183 = .ok (.lor, 1) := by decide +kernel
theorem dlaw_184 : decode code 184 = .ok (.invokevirtual 80, 3) := by decide +kernel
theorem dlaw_187 : decode code 187 = .ok (.istore 6, 2) := by decide +kernel
theorem dlaw_189 : decode code 189 = .ok (.aload_n 2, 1) := by decide +kernel
theorem dlaw_190 : decode code 190 = .ok (.invokevirtual 81, 3) := by decide +kernel
theorem dlaw_193 : decode code 193 = .ok (.iload 5, 2) := by decide +kernel
theorem dlaw_195 : decode code 195 = .ok (.if_icmp .eq 5, 3) := by decide +kernel
theorem dlaw_198 : decode code 198 = .ok (.iconst 0, 1) := by decide +kernel
theorem dlaw_199 : decode code 199 = .ok (.ireturn, 1) := by decide +kernel
theorem dlaw_200 : decode code 200 = .ok (.iload 5, 2) := by decide +kernel
theorem dlaw_202 : decode code 202 = .ok (.ifCond .ne 15, 3) := by decide +kernel
theorem dlaw_205 : decode code 205 = .ok (.aload_n 3, 1) := by decide +kernel
theorem dlaw_206 : decode code 206 = .ok (.iconst 0, 1) := by decide +kernel
theorem dlaw_207 : decode code 207 = .ok (.laload, 1) := by decide +kernel
theorem dlaw_208 : decode code 208 = .ok (.iload 6, 2) := by decide +kernel
theorem dlaw_210 : decode code 210 = .ok (.i2l, 1) := by decide +kernel
theorem dlaw_211 : decode code 211 = .ok (.lcmp, 1) := by decide +kernel
theorem dlaw_212 : decode code 212 = .ok (.ifCond .eq 5, 3) := by decide +kernel
theorem dlaw_215 : decode code 215 = .ok (.iconst 0, 1) := by decide +kernel
theorem dlaw_216 : decode code 216 = .ok (.ireturn, 1) := by decide +kernel
theorem dlaw_217 : decode code 217 = .ok (.goto 930, 3) := by decide +kernel
theorem dlaw_220 : decode code 220 = .ok (.aload_n 1, 1) := by decide +kernel
theorem dlaw_221 : decode code 221 = .ok (.invokevirtual 85, 3) := by decide +kernel
theorem dlaw_224 : decode code 224 = .ok (.aload_n 2, 1) := by decide +kernel
theorem dlaw_225 : decode code 225 = .ok (.invokevirtual 88, 3) := by decide +kernel
theorem dlaw_228 : decode code 228 = .ok (.if_icmp .eq 919, 3) := by decide +kernel
theorem dlaw_231 : decode code 231 = .ok (.iconst 0, 1) := by decide +kernel
theorem dlaw_232 : decode code 232 = .ok (.ireturn, 1) := by decide +kernel
theorem dlaw_233 : decode code 233 = .ok (.aload_n 1, 1) := by decide +kernel
theorem dlaw_234 : decode code 234 = .ok (.aload_n 0, 1) := by decide +kernel
theorem dlaw_235 : decode code 235 = .ok (.iload 4, 2) := by decide +kernel
theorem dlaw_237 : decode code 237 = .ok (.iconst 1, 1) := by decide +kernel
theorem dlaw_238 : decode code 238 = .ok (.iadd, 1) := by decide +kernel
theorem dlaw_239 : decode code 239 = .ok (.iaload, 1) := by decide +kernel
theorem dlaw_240 : decode code 240 = .ok (.aload_n 0, 1) := by decide +kernel
theorem dlaw_241 : decode code 241 = .ok (.iload 4, 2) := by decide +kernel
theorem dlaw_243 : decode code 243 = .ok (.iconst 2, 1) := by decide +kernel
theorem dlaw_244 : decode code 244 = .ok (.iadd, 1) := by decide +kernel
theorem dlaw_245 : decode code 245 = .ok (.iaload, 1) := by decide +kernel
theorem dlaw_246 : decode code 246 = .ok (.ifCond .eq 7, 3) := by decide +kernel
theorem dlaw_249 : decode code 249 = .ok (.iconst 1, 1) := by decide +kernel
theorem dlaw_250 : decode code 250 = .ok (.goto 4, 3) := by decide +kernel
theorem dlaw_253 : decode code 253 = .ok (.iconst 0, 1) := by decide +kernel
theorem dlaw_254 : decode code 254 = .ok (.aload_n 3, 1) := by decide +kernel
theorem dlaw_255 : decode code 255 = .ok (.invokestatic 89, 3) := by decide +kernel
theorem dlaw_258 : decode code 258 = .ok (.istore 5, 2) := by decide +kernel
theorem dlaw_260 : decode code 260 = .ok (.aload_n 2, 1) := by decide +kernel
theorem dlaw_261 : decode code 261 = .ok (.aload_n 0, 1) := by decide +kernel
theorem dlaw_262 : decode code 262 = .ok (.iload 4, 2) := by decide +kernel
theorem dlaw_264 : decode code 264 = .ok (.iconst 1, 1) := by decide +kernel
theorem dlaw_265 : decode code 265 = .ok (.iadd, 1) := by decide +kernel
theorem dlaw_266 : decode code 266 = .ok (.iaload, 1) := by decide +kernel
theorem dlaw_267 : decode code 267 = .ok (.aload_n 0, 1) := by decide +kernel
theorem dlaw_268 : decode code 268 = .ok (.iload 4, 2) := by decide +kernel
theorem dlaw_270 : decode code 270 = .ok (.iconst 2, 1) := by decide +kernel
theorem dlaw_271 : decode code 271 = .ok (.iadd, 1) := by decide +kernel
theorem dlaw_272 : decode code 272 = .ok (.iaload, 1) := by decide +kernel
theorem dlaw_273 : decode code 273 = .ok (.ifCond .eq 7, 3) := by decide +kernel
theorem dlaw_276 : decode code 276 = .ok (.iconst 1, 1) := by decide +kernel
theorem dlaw_277 : decode code 277 = .ok (.goto 4, 3) := by decide +kernel
theorem dlaw_280 : decode code 280 = .ok (.iconst 0, 1) := by decide +kernel
theorem dlaw_281 : decode code 281 = .ok (.invokevirtual 92, 3) := by decide +kernel
theorem dlaw_284 : decode code 284 = .ok (.istore 6, 2) := by decide +kernel
theorem dlaw_286 : decode code 286 = .ok (.aload_n 2, 1) := by decide +kernel
theorem dlaw_287 : decode code 287 = .ok (.invokevirtual 81, 3) := by decide +kernel
theorem dlaw_290 : decode code 290 = .ok (.iload 5, 2) := by decide +kernel
theorem dlaw_292 : decode code 292 = .ok (.if_icmp .eq 5, 3) := by decide +kernel
theorem dlaw_295 : decode code 295 = .ok (.iconst 0, 1) := by decide +kernel
theorem dlaw_296 : decode code 296 = .ok (.ireturn, 1) := by decide +kernel
theorem dlaw_297 : decode code 297 = .ok (.iload 5, 2) := by decide +kernel
theorem dlaw_299 : decode code 299 = .ok (.ifCond .ne 15, 3) := by decide +kernel
theorem dlaw_302 : decode code 302 = .ok (.aload_n 3, 1) := by decide +kernel
theorem dlaw_303 : decode code 303 = .ok (.iconst 0, 1) := by decide +kernel
theorem dlaw_304 : decode code 304 = .ok (.laload, 1) := by decide +kernel
theorem dlaw_305 : decode code 305 = .ok (.iload 6, 2) := by decide +kernel
theorem dlaw_307 : decode code 307 = .ok (.i2l, 1) := by decide +kernel
theorem dlaw_308 : decode code 308 = .ok (.lcmp, 1) := by decide +kernel
theorem dlaw_309 : decode code 309 = .ok (.ifCond .eq 5, 3) := by decide +kernel
theorem dlaw_312 : decode code 312 = .ok (.iconst 0, 1) := by decide +kernel
theorem dlaw_313 : decode code 313 = .ok (.ireturn, 1) := by decide +kernel
theorem dlaw_314 : decode code 314 = .ok (.goto 833, 3) := by decide +kernel
theorem dlaw_317 : decode code 317 = .ok (.aload_n 1, 1) := by decide +kernel
theorem dlaw_318 : decode code 318 = .ok (.invokevirtual 93, 3) := by decide +kernel
theorem dlaw_321 : decode code 321 = .ok (.aload_n 2, 1) := by decide +kernel
theorem dlaw_322 : decode code 322 = .ok (.invokevirtual 96, 3) := by decide +kernel
theorem dlaw_325 : decode code 325 = .ok (.goto 822, 3) := by decide +kernel
theorem dlaw_328 : decode code 328 = .ok (.aload_n 1, 1) := by decide +kernel
theorem dlaw_329 : decode code 329 = .ok (.aload_n 0, 1) := by decide +kernel
theorem dlaw_330 : decode code 330 = .ok (.iload 4, 2) := by decide +kernel
theorem dlaw_332 : decode code 332 = .ok (.iconst 1, 1) := by decide +kernel
theorem dlaw_333 : decode code 333 = .ok (.iadd, 1) := by decide +kernel
theorem dlaw_334 : decode code 334 = .ok (.iaload, 1) := by decide +kernel
theorem dlaw_335 : decode code 335 = .ok (.invokestatic 97, 3) := by decide +kernel
theorem dlaw_338 : decode code 338 = .ok (.istore 5, 2) := by decide +kernel
theorem dlaw_340 : decode code 340 = .ok (.aload_n 2, 1) := by decide +kernel
theorem dlaw_341 : decode code 341 = .ok (.aload_n 0, 1) := by decide +kernel
theorem dlaw_342 : decode code 342 = .ok (.iload 4, 2) := by decide +kernel
theorem dlaw_344 : decode code 344 = .ok (.iconst 1, 1) := by decide +kernel
theorem dlaw_345 : decode code 345 = .ok (.iadd, 1) := by decide +kernel
theorem dlaw_346 : decode code 346 = .ok (.iaload, 1) := by decide +kernel
theorem dlaw_347 : decode code 347 = .ok (.invokevirtual 100, 3) := by decide +kernel
theorem dlaw_350 : decode code 350 = .ok (.aload_n 2, 1) := by decide +kernel
theorem dlaw_351 : decode code 351 = .ok (.invokevirtual 81, 3) := by decide +kernel
theorem dlaw_354 : decode code 354 = .ok (.iload 5, 2) := by decide +kernel
theorem dlaw_356 : decode code 356 = .ok (.if_icmp .eq 5, 3) := by decide +kernel
theorem dlaw_359 : decode code 359 = .ok (.iconst 0, 1) := by decide +kernel
theorem dlaw_360 : decode code 360 = .ok (.ireturn, 1) := by decide +kernel
theorem dlaw_361 : decode code 361 = .ok (.goto 786, 3) := by decide +kernel
theorem dlaw_364 : decode code 364 = .ok (.aload_n 1, 1) := by decide +kernel
theorem dlaw_365 : decode code 365 = .ok (.aload_n 0, 1) := by decide +kernel
theorem dlaw_366 : decode code 366 = .ok (.iload 4, 2) := by decide +kernel
theorem dlaw_368 : decode code 368 = .ok (.iconst 1, 1) := by decide +kernel
theorem dlaw_369 : decode code 369 = .ok (.iadd, 1) := by decide +kernel
theorem dlaw_370 : decode code 370 = .ok (.iaload, 1) := by decide +kernel
theorem dlaw_371 : decode code 371 = .ok (.aload_n 0, 1) := by decide +kernel
theorem dlaw_372 : decode code 372 = .ok (.iload 4, 2) := by decide +kernel
theorem dlaw_374 : decode code 374 = .ok (.iconst 2, 1) := by decide +kernel
theorem dlaw_375 : decode code 375 = .ok (.iadd, 1) := by decide +kernel
theorem dlaw_376 : decode code 376 = .ok (.iaload, 1) := by decide +kernel
theorem dlaw_377 : decode code 377 = .ok (.invokestatic 101, 3) := by decide +kernel
theorem dlaw_380 : decode code 380 = .ok (.istore 5, 2) := by decide +kernel
theorem dlaw_382 : decode code 382 = .ok (.aload_n 2, 1) := by decide +kernel
theorem dlaw_383 : decode code 383 = .ok (.aload_n 0, 1) := by decide +kernel
theorem dlaw_384 : decode code 384 = .ok (.iload 4, 2) := by decide +kernel
theorem dlaw_386 : decode code 386 = .ok (.iconst 1, 1) := by decide +kernel
theorem dlaw_387 : decode code 387 = .ok (.iadd, 1) := by decide +kernel
theorem dlaw_388 : decode code 388 = .ok (.iaload, 1) := by decide +kernel
theorem dlaw_389 : decode code 389 = .ok (.aload_n 0, 1) := by decide +kernel
theorem dlaw_390 : decode code 390 = .ok (.iload 4, 2) := by decide +kernel
theorem dlaw_392 : decode code 392 = .ok (.iconst 2, 1) := by decide +kernel
theorem dlaw_393 : decode code 393 = .ok (.iadd, 1) := by decide +kernel
theorem dlaw_394 : decode code 394 = .ok (.iaload, 1) := by decide +kernel
theorem dlaw_395 : decode code 395 = .ok (.invokevirtual 104, 3) := by decide +kernel
theorem dlaw_398 : decode code 398 = .ok (.aload_n 2, 1) := by decide +kernel
theorem dlaw_399 : decode code 399 = .ok (.invokevirtual 81, 3) := by decide +kernel
theorem dlaw_402 : decode code 402 = .ok (.iload 5, 2) := by decide +kernel
theorem dlaw_404 : decode code 404 = .ok (.if_icmp .eq 5, 3) := by decide +kernel
theorem dlaw_407 : decode code 407 = .ok (.iconst 0, 1) := by decide +kernel
theorem dlaw_408 : decode code 408 = .ok (.ireturn, 1) := by decide +kernel
theorem dlaw_409 : decode code 409 = .ok (.goto 738, 3) := by decide +kernel
theorem dlaw_412 : decode code 412 = .ok (.aload_n 1, 1) := by decide +kernel
theorem dlaw_413 : decode code 413 = .ok (.aload_n 0, 1) := by decide +kernel
theorem dlaw_414 : decode code 414 = .ok (.iload 4, 2) := by decide +kernel
theorem dlaw_416 : decode code 416 = .ok (.iconst 1, 1) := by decide +kernel
theorem dlaw_417 : decode code 417 = .ok (.iadd, 1) := by decide +kernel
theorem dlaw_418 : decode code 418 = .ok (.iaload, 1) := by decide +kernel
theorem dlaw_419 : decode code 419 = .ok (.aload_n 0, 1) := by decide +kernel
theorem dlaw_420 : decode code 420 = .ok (.iload 4, 2) := by decide +kernel
theorem dlaw_422 : decode code 422 = .ok (.iconst 2, 1) := by decide +kernel
theorem dlaw_423 : decode code 423 = .ok (.iadd, 1) := by decide +kernel
theorem dlaw_424 : decode code 424 = .ok (.iaload, 1) := by decide +kernel
theorem dlaw_425 : decode code 425 = .ok (.aload_n 0, 1) := by decide +kernel
theorem dlaw_426 : decode code 426 = .ok (.iload 4, 2) := by decide +kernel
theorem dlaw_428 : decode code 428 = .ok (.iconst 3, 1) := by decide +kernel
theorem dlaw_429 : decode code 429 = .ok (.iadd, 1) := by decide +kernel
theorem dlaw_430 : decode code 430 = .ok (.iaload, 1) := by decide +kernel
theorem dlaw_431 : decode code 431 = .ok (.invokestatic 105, 3) := by decide +kernel
theorem dlaw_434 : decode code 434 = .ok (.istore 5, 2) := by decide +kernel
theorem dlaw_436 : decode code 436 = .ok (.aload_n 2, 1) := by decide +kernel
theorem dlaw_437 : decode code 437 = .ok (.aload_n 0, 1) := by decide +kernel
theorem dlaw_438 : decode code 438 = .ok (.iload 4, 2) := by decide +kernel
theorem dlaw_440 : decode code 440 = .ok (.iconst 1, 1) := by decide +kernel
theorem dlaw_441 : decode code 441 = .ok (.iadd, 1) := by decide +kernel
theorem dlaw_442 : decode code 442 = .ok (.iaload, 1) := by decide +kernel
theorem dlaw_443 : decode code 443 = .ok (.aload_n 0, 1) := by decide +kernel
theorem dlaw_444 : decode code 444 = .ok (.iload 4, 2) := by decide +kernel
theorem dlaw_446 : decode code 446 = .ok (.iconst 2, 1) := by decide +kernel
theorem dlaw_447 : decode code 447 = .ok (.iadd, 1) := by decide +kernel
theorem dlaw_448 : decode code 448 = .ok (.iaload, 1) := by decide +kernel
theorem dlaw_449 : decode code 449 = .ok (.aload_n 0, 1) := by decide +kernel
theorem dlaw_450 : decode code 450 = .ok (.iload 4, 2) := by decide +kernel
theorem dlaw_452 : decode code 452 = .ok (.iconst 3, 1) := by decide +kernel
theorem dlaw_453 : decode code 453 = .ok (.iadd, 1) := by decide +kernel
theorem dlaw_454 : decode code 454 = .ok (.iaload, 1) := by decide +kernel
theorem dlaw_455 : decode code 455 = .ok (.invokevirtual 108, 3) := by decide +kernel
theorem dlaw_458 : decode code 458 = .ok (.aload_n 2, 1) := by decide +kernel
theorem dlaw_459 : decode code 459 = .ok (.invokevirtual 81, 3) := by decide +kernel
theorem dlaw_462 : decode code 462 = .ok (.iload 5, 2) := by decide +kernel
theorem dlaw_464 : decode code 464 = .ok (.if_icmp .eq 5, 3) := by decide +kernel
theorem dlaw_467 : decode code 467 = .ok (.iconst 0, 1) := by decide +kernel
theorem dlaw_468 : decode code 468 = .ok (.ireturn, 1) := by decide +kernel
theorem dlaw_469 : decode code 469 = .ok (.goto 678, 3) := by decide +kernel
theorem dlaw_472 : decode code 472 = .ok (.aload_n 1, 1) := by decide +kernel
theorem dlaw_473 : decode code 473 = .ok (.aload_n 0, 1) := by decide +kernel
theorem dlaw_474 : decode code 474 = .ok (.iload 4, 2) := by decide +kernel
theorem dlaw_476 : decode code 476 = .ok (.iconst 1, 1) := by decide +kernel
theorem dlaw_477 : decode code 477 = .ok (.iadd, 1) := by decide +kernel
theorem dlaw_478 : decode code 478 = .ok (.iaload, 1) := by decide +kernel
theorem dlaw_479 : decode code 479 = .ok (.aload_n 0, 1) := by decide +kernel
theorem dlaw_480 : decode code 480 = .ok (.iload 4, 2) := by decide +kernel
theorem dlaw_482 : decode code 482 = .ok (.iconst 2, 1) := by decide +kernel
theorem dlaw_483 : decode code 483 = .ok (.iadd, 1) := by decide +kernel
theorem dlaw_484 : decode code 484 = .ok (.iaload, 1) := by decide +kernel
theorem dlaw_485 : decode code 485 = .ok (.invokestatic 109, 3) := by decide +kernel
theorem dlaw_488 : decode code 488 = .ok (.istore 5, 2) := by decide +kernel
theorem dlaw_490 : decode code 490 = .ok (.aload_n 2, 1) := by decide +kernel
theorem dlaw_491 : decode code 491 = .ok (.aload_n 0, 1) := by decide +kernel
theorem dlaw_492 : decode code 492 = .ok (.iload 4, 2) := by decide +kernel
theorem dlaw_494 : decode code 494 = .ok (.iconst 1, 1) := by decide +kernel
theorem dlaw_495 : decode code 495 = .ok (.iadd, 1) := by decide +kernel
theorem dlaw_496 : decode code 496 = .ok (.iaload, 1) := by decide +kernel
theorem dlaw_497 : decode code 497 = .ok (.aload_n 0, 1) := by decide +kernel
theorem dlaw_498 : decode code 498 = .ok (.iload 4, 2) := by decide +kernel
theorem dlaw_500 : decode code 500 = .ok (.iconst 2, 1) := by decide +kernel
theorem dlaw_501 : decode code 501 = .ok (.iadd, 1) := by decide +kernel
theorem dlaw_502 : decode code 502 = .ok (.iaload, 1) := by decide +kernel
theorem dlaw_503 : decode code 503 = .ok (.invokevirtual 111, 3) := by decide +kernel
theorem dlaw_506 : decode code 506 = .ok (.aload_n 2, 1) := by decide +kernel
theorem dlaw_507 : decode code 507 = .ok (.invokevirtual 81, 3) := by decide +kernel
theorem dlaw_510 : decode code 510 = .ok (.iload 5, 2) := by decide +kernel
theorem dlaw_512 : decode code 512 = .ok (.if_icmp .eq 5, 3) := by decide +kernel
theorem dlaw_515 : decode code 515 = .ok (.iconst 0, 1) := by decide +kernel
theorem dlaw_516 : decode code 516 = .ok (.ireturn, 1) := by decide +kernel
theorem dlaw_517 : decode code 517 = .ok (.goto 630, 3) := by decide +kernel
theorem dlaw_520 : decode code 520 = .ok (.aload_n 1, 1) := by decide +kernel
theorem dlaw_521 : decode code 521 = .ok (.aload_n 0, 1) := by decide +kernel
theorem dlaw_522 : decode code 522 = .ok (.iload 4, 2) := by decide +kernel
theorem dlaw_524 : decode code 524 = .ok (.iconst 1, 1) := by decide +kernel
theorem dlaw_525 : decode code 525 = .ok (.iadd, 1) := by decide +kernel
theorem dlaw_526 : decode code 526 = .ok (.iaload, 1) := by decide +kernel
theorem dlaw_527 : decode code 527 = .ok (.invokestatic 112, 3) := by decide +kernel
theorem dlaw_530 : decode code 530 = .ok (.istore 5, 2) := by decide +kernel
theorem dlaw_532 : decode code 532 = .ok (.aload_n 2, 1) := by decide +kernel
theorem dlaw_533 : decode code 533 = .ok (.aload_n 0, 1) := by decide +kernel
theorem dlaw_534 : decode code 534 = .ok (.iload 4, 2) := by decide +kernel
theorem dlaw_536 : decode code 536 = .ok (.iconst 1, 1) := by decide +kernel
theorem dlaw_537 : decode code 537 = .ok (.iadd, 1) := by decide +kernel
theorem dlaw_538 : decode code 538 = .ok (.iaload, 1) := by decide +kernel
theorem dlaw_539 : decode code 539 = .ok (.invokevirtual 114, 3) := by decide +kernel
theorem dlaw_542 : decode code 542 = .ok (.aload_n 2, 1) := by decide +kernel
theorem dlaw_543 : decode code 543 = .ok (.invokevirtual 81, 3) := by decide +kernel
theorem dlaw_546 : decode code 546 = .ok (.iload 5, 2) := by decide +kernel
theorem dlaw_548 : decode code 548 = .ok (.if_icmp .eq 5, 3) := by decide +kernel
theorem dlaw_551 : decode code 551 = .ok (.iconst 0, 1) := by decide +kernel
theorem dlaw_552 : decode code 552 = .ok (.ireturn, 1) := by decide +kernel
theorem dlaw_553 : decode code 553 = .ok (.goto 594, 3) := by decide +kernel
theorem dlaw_556 : decode code 556 = .ok (.aload_n 1, 1) := by decide +kernel
theorem dlaw_557 : decode code 557 = .ok (.aload_n 0, 1) := by decide +kernel
theorem dlaw_558 : decode code 558 = .ok (.iload 4, 2) := by decide +kernel
theorem dlaw_560 : decode code 560 = .ok (.iconst 1, 1) := by decide +kernel
theorem dlaw_561 : decode code 561 = .ok (.iadd, 1) := by decide +kernel
theorem dlaw_562 : decode code 562 = .ok (.iaload, 1) := by decide +kernel
theorem dlaw_563 : decode code 563 = .ok (.aload_n 0, 1) := by decide +kernel
theorem dlaw_564 : decode code 564 = .ok (.iload 4, 2) := by decide +kernel
theorem dlaw_566 : decode code 566 = .ok (.iconst 2, 1) := by decide +kernel
theorem dlaw_567 : decode code 567 = .ok (.iadd, 1) := by decide +kernel
theorem dlaw_568 : decode code 568 = .ok (.iaload, 1) := by decide +kernel
theorem dlaw_569 : decode code 569 = .ok (.invokestatic 115, 3) := by decide +kernel
theorem dlaw_572 : decode code 572 = .ok (.istore 5, 2) := by decide +kernel
theorem dlaw_574 : decode code 574 = .ok (.aload_n 2, 1) := by decide +kernel
theorem dlaw_575 : decode code 575 = .ok (.aload_n 0, 1) := by decide +kernel
theorem dlaw_576 : decode code 576 = .ok (.iload 4, 2) := by decide +kernel
theorem dlaw_578 : decode code 578 = .ok (.iconst 1, 1) := by decide +kernel
theorem dlaw_579 : decode code 579 = .ok (.iadd, 1) := by decide +kernel
theorem dlaw_580 : decode code 580 = .ok (.iaload, 1) := by decide +kernel
theorem dlaw_581 : decode code 581 = .ok (.aload_n 0, 1) := by decide +kernel
theorem dlaw_582 : decode code 582 = .ok (.iload 4, 2) := by decide +kernel
theorem dlaw_584 : decode code 584 = .ok (.iconst 2, 1) := by decide +kernel
theorem dlaw_585 : decode code 585 = .ok (.iadd, 1) := by decide +kernel
theorem dlaw_586 : decode code 586 = .ok (.iaload, 1) := by decide +kernel
theorem dlaw_587 : decode code 587 = .ok (.invokevirtual 117, 3) := by decide +kernel
theorem dlaw_590 : decode code 590 = .ok (.aload_n 2, 1) := by decide +kernel
theorem dlaw_591 : decode code 591 = .ok (.invokevirtual 81, 3) := by decide +kernel
theorem dlaw_594 : decode code 594 = .ok (.iload 5, 2) := by decide +kernel
theorem dlaw_596 : decode code 596 = .ok (.if_icmp .eq 5, 3) := by decide +kernel
theorem dlaw_599 : decode code 599 = .ok (.iconst 0, 1) := by decide +kernel
theorem dlaw_600 : decode code 600 = .ok (.ireturn, 1) := by decide +kernel
theorem dlaw_601 : decode code 601 = .ok (.goto 546, 3) := by decide +kernel
theorem dlaw_604 : decode code 604 = .ok (.aload_n 1, 1) := by decide +kernel
theorem dlaw_605 : decode code 605 = .ok (.aload_n 0, 1) := by decide +kernel
theorem dlaw_606 : decode code 606 = .ok (.iload 4, 2) := by decide +kernel
theorem dlaw_608 : decode code 608 = .ok (.iconst 1, 1) := by decide +kernel
theorem dlaw_609 : decode code 609 = .ok (.iadd, 1) := by decide +kernel
theorem dlaw_610 : decode code 610 = .ok (.iaload, 1) := by decide +kernel
theorem dlaw_611 : decode code 611 = .ok (.aload_n 3, 1) := by decide +kernel
theorem dlaw_612 : decode code 612 = .ok (.invokestatic 118, 3) := by decide +kernel
theorem dlaw_615 : decode code 615 = .ok (.istore 5, 2) := by decide +kernel
theorem dlaw_617 : decode code 617 = .ok (.aload_n 2, 1) := by decide +kernel
theorem dlaw_618 : decode code 618 = .ok (.aload_n 0, 1) := by decide +kernel
theorem dlaw_619 : decode code 619 = .ok (.iload 4, 2) := by decide +kernel
theorem dlaw_621 : decode code 621 = .ok (.iconst 1, 1) := by decide +kernel
theorem dlaw_622 : decode code 622 = .ok (.iadd, 1) := by decide +kernel
theorem dlaw_623 : decode code 623 = .ok (.iaload, 1) := by decide +kernel
theorem dlaw_624 : decode code 624 = .ok (.invokevirtual 121, 3) := by decide +kernel
theorem dlaw_627 : decode code 627 = .ok (.istore 6, 2) := by decide +kernel
theorem dlaw_629 : decode code 629 = .ok (.aload_n 2, 1) := by decide +kernel
theorem dlaw_630 : decode code 630 = .ok (.invokevirtual 81, 3) := by decide +kernel
theorem dlaw_633 : decode code 633 = .ok (.iload 5, 2) := by decide +kernel
theorem dlaw_635 : decode code 635 = .ok (.if_icmp .eq 5, 3) := by decide +kernel
theorem dlaw_638 : decode code 638 = .ok (.iconst 0, 1) := by decide +kernel
theorem dlaw_639 : decode code 639 = .ok (.ireturn, 1) := by decide +kernel
theorem dlaw_640 : decode code 640 = .ok (.iload 5, 2) := by decide +kernel
theorem dlaw_642 : decode code 642 = .ok (.ifCond .ne 15, 3) := by decide +kernel
theorem dlaw_645 : decode code 645 = .ok (.aload_n 3, 1) := by decide +kernel
theorem dlaw_646 : decode code 646 = .ok (.iconst 0, 1) := by decide +kernel
theorem dlaw_647 : decode code 647 = .ok (.laload, 1) := by decide +kernel
theorem dlaw_648 : decode code 648 = .ok (.iload 6, 2) := by decide +kernel
theorem dlaw_650 : decode code 650 = .ok (.i2l, 1) := by decide +kernel
theorem dlaw_651 : decode code 651 = .ok (.lcmp, 1) := by decide +kernel
theorem dlaw_652 : decode code 652 = .ok (.ifCond .eq 5, 3) := by decide +kernel
theorem dlaw_655 : decode code 655 = .ok (.iconst 0, 1) := by decide +kernel
theorem dlaw_656 : decode code 656 = .ok (.ireturn, 1) := by decide +kernel
theorem dlaw_657 : decode code 657 = .ok (.goto 490, 3) := by decide +kernel
theorem dlaw_660 : decode code 660 = .ok (.aload_n 1, 1) := by decide +kernel
theorem dlaw_661 : decode code 661 = .ok (.aload_n 0, 1) := by decide +kernel
theorem dlaw_662 : decode code 662 = .ok (.iload 4, 2) := by decide +kernel
theorem dlaw_664 : decode code 664 = .ok (.iconst 1, 1) := by decide +kernel
theorem dlaw_665 : decode code 665 = .ok (.iadd, 1) := by decide +kernel
theorem dlaw_666 : decode code 666 = .ok (.iaload, 1) := by decide +kernel
theorem dlaw_667 : decode code 667 = .ok (.aload_n 0, 1) := by decide +kernel
theorem dlaw_668 : decode code 668 = .ok (.iload 4, 2) := by decide +kernel
theorem dlaw_670 : decode code 670 = .ok (.iconst 2, 1) := by decide +kernel
theorem dlaw_671 : decode code 671 = .ok (.iadd, 1) := by decide +kernel
theorem dlaw_672 : decode code 672 = .ok (.iaload, 1) := by decide +kernel
theorem dlaw_673 : decode code 673 = .ok (.i2l, 1) := by decide +kernel
theorem dlaw_674 : decode code 674 = .ok (.bipush 32, 2) := by decide +kernel
theorem dlaw_676 : decode code 676 = .ok (.lshl, 1) := by decide +kernel
theorem dlaw_677 : decode code 677 = .ok (.aload_n 0, 1) := by decide +kernel
theorem dlaw_678 : decode code 678 = .ok (.iload 4, 2) := by decide +kernel
theorem dlaw_680 : decode code 680 = .ok (.iconst 3, 1) := by decide +kernel
theorem dlaw_681 : decode code 681 = .ok (.iadd, 1) := by decide +kernel
theorem dlaw_682 : decode code 682 = .ok (.iaload, 1) := by decide +kernel
theorem dlaw_683 : decode code 683 = .ok (.i2l, 1) := by decide +kernel
theorem dlaw_684 : decode code 684 = .ok (.ldc2_w 73, 3) := by decide +kernel
theorem dlaw_687 : decode code 687 = .ok (.land, 1) := by decide +kernel
theorem dlaw_688 : decode code 688 = .ok (.lor, 1) := by decide +kernel
theorem dlaw_689 : decode code 689 = .ok (.aload_n 0, 1) := by decide +kernel
theorem dlaw_690 : decode code 690 = .ok (.iload 4, 2) := by decide +kernel
theorem dlaw_692 : decode code 692 = .ok (.iconst 4, 1) := by decide +kernel
theorem dlaw_693 : decode code 693 = .ok (.iadd, 1) := by decide +kernel
theorem dlaw_694 : decode code 694 = .ok (.iaload, 1) := by decide +kernel
theorem dlaw_695 : decode code 695 = .ok (.aload_n 3, 1) := by decide +kernel
theorem dlaw_696 : decode code 696 = .ok (.invokestatic 122, 3) := by decide +kernel
theorem dlaw_699 : decode code 699 = .ok (.istore 5, 2) := by decide +kernel
theorem dlaw_701 : decode code 701 = .ok (.aload_n 2, 1) := by decide +kernel
theorem dlaw_702 : decode code 702 = .ok (.aload_n 0, 1) := by decide +kernel
theorem dlaw_703 : decode code 703 = .ok (.iload 4, 2) := by decide +kernel
theorem dlaw_705 : decode code 705 = .ok (.iconst 1, 1) := by decide +kernel
theorem dlaw_706 : decode code 706 = .ok (.iadd, 1) := by decide +kernel
theorem dlaw_707 : decode code 707 = .ok (.iaload, 1) := by decide +kernel
theorem dlaw_708 : decode code 708 = .ok (.aload_n 0, 1) := by decide +kernel
theorem dlaw_709 : decode code 709 = .ok (.iload 4, 2) := by decide +kernel
theorem dlaw_711 : decode code 711 = .ok (.iconst 2, 1) := by decide +kernel
theorem dlaw_712 : decode code 712 = .ok (.iadd, 1) := by decide +kernel
theorem dlaw_713 : decode code 713 = .ok (.iaload, 1) := by decide +kernel
theorem dlaw_714 : decode code 714 = .ok (.i2l, 1) := by decide +kernel
theorem dlaw_715 : decode code 715 = .ok (.bipush 32, 2) := by decide +kernel
theorem dlaw_717 : decode code 717 = .ok (.lshl, 1) := by decide +kernel
theorem dlaw_718 : decode code 718 = .ok (.aload_n 0, 1) := by decide +kernel
theorem dlaw_719 : decode code 719 = .ok (.iload 4, 2) := by decide +kernel
theorem dlaw_721 : decode code 721 = .ok (.iconst 3, 1) := by decide +kernel
theorem dlaw_722 : decode code 722 = .ok (.iadd, 1) := by decide +kernel
theorem dlaw_723 : decode code 723 = .ok (.iaload, 1) := by decide +kernel
theorem dlaw_724 : decode code 724 = .ok (.i2l, 1) := by decide +kernel
theorem dlaw_725 : decode code 725 = .ok (.ldc2_w 73, 3) := by decide +kernel
theorem dlaw_728 : decode code 728 = .ok (.land, 1) := by decide +kernel
theorem dlaw_729 : decode code 729 = .ok (.lor, 1) := by decide +kernel
theorem dlaw_730 : decode code 730 = .ok (.aload_n 0, 1) := by decide +kernel
theorem dlaw_731 : decode code 731 = .ok (.iload 4, 2) := by decide +kernel
theorem dlaw_733 : decode code 733 = .ok (.iconst 4, 1) := by decide +kernel
theorem dlaw_734 : decode code 734 = .ok (.iadd, 1) := by decide +kernel
theorem dlaw_735 : decode code 735 = .ok (.iaload, 1) := by decide +kernel
theorem dlaw_736 : decode code 736 = .ok (.invokevirtual 125, 3) := by decide +kernel
theorem dlaw_739 : decode code 739 = .ok (.istore 6, 2) := by decide +kernel
theorem dlaw_741 : decode code 741 = .ok (.aload_n 2, 1) := by decide +kernel
theorem dlaw_742 : decode code 742 = .ok (.invokevirtual 81, 3) := by decide +kernel
theorem dlaw_745 : decode code 745 = .ok (.iload 5, 2) := by decide +kernel
theorem dlaw_747 : decode code 747 = .ok (.if_icmp .eq 5, 3) := by decide +kernel
theorem dlaw_750 : decode code 750 = .ok (.iconst 0, 1) := by decide +kernel
theorem dlaw_751 : decode code 751 = .ok (.ireturn, 1) := by decide +kernel
theorem dlaw_752 : decode code 752 = .ok (.iload 5, 2) := by decide +kernel
theorem dlaw_754 : decode code 754 = .ok (.ifCond .ne 15, 3) := by decide +kernel
theorem dlaw_757 : decode code 757 = .ok (.aload_n 3, 1) := by decide +kernel
theorem dlaw_758 : decode code 758 = .ok (.iconst 0, 1) := by decide +kernel
theorem dlaw_759 : decode code 759 = .ok (.laload, 1) := by decide +kernel
theorem dlaw_760 : decode code 760 = .ok (.iload 6, 2) := by decide +kernel
theorem dlaw_762 : decode code 762 = .ok (.i2l, 1) := by decide +kernel
theorem dlaw_763 : decode code 763 = .ok (.lcmp, 1) := by decide +kernel
theorem dlaw_764 : decode code 764 = .ok (.ifCond .eq 5, 3) := by decide +kernel
theorem dlaw_767 : decode code 767 = .ok (.iconst 0, 1) := by decide +kernel
theorem dlaw_768 : decode code 768 = .ok (.ireturn, 1) := by decide +kernel
theorem dlaw_769 : decode code 769 = .ok (.goto 378, 3) := by decide +kernel
theorem dlaw_772 : decode code 772 = .ok (.aload_n 1, 1) := by decide +kernel
theorem dlaw_773 : decode code 773 = .ok (.aload_n 0, 1) := by decide +kernel
theorem dlaw_774 : decode code 774 = .ok (.iload 4, 2) := by decide +kernel
theorem dlaw_776 : decode code 776 = .ok (.iconst 1, 1) := by decide +kernel
theorem dlaw_777 : decode code 777 = .ok (.iadd, 1) := by decide +kernel
theorem dlaw_778 : decode code 778 = .ok (.iaload, 1) := by decide +kernel
theorem dlaw_779 : decode code 779 = .ok (.aload_n 0, 1) := by decide +kernel
theorem dlaw_780 : decode code 780 = .ok (.iload 4, 2) := by decide +kernel
theorem dlaw_782 : decode code 782 = .ok (.iconst 2, 1) := by decide +kernel
theorem dlaw_783 : decode code 783 = .ok (.iadd, 1) := by decide +kernel
theorem dlaw_784 : decode code 784 = .ok (.iaload, 1) := by decide +kernel
theorem dlaw_785 : decode code 785 = .ok (.i2l, 1) := by decide +kernel
theorem dlaw_786 : decode code 786 = .ok (.bipush 32, 2) := by decide +kernel
theorem dlaw_788 : decode code 788 = .ok (.lshl, 1) := by decide +kernel
theorem dlaw_789 : decode code 789 = .ok (.aload_n 0, 1) := by decide +kernel
theorem dlaw_790 : decode code 790 = .ok (.iload 4, 2) := by decide +kernel
theorem dlaw_792 : decode code 792 = .ok (.iconst 3, 1) := by decide +kernel
theorem dlaw_793 : decode code 793 = .ok (.iadd, 1) := by decide +kernel
theorem dlaw_794 : decode code 794 = .ok (.iaload, 1) := by decide +kernel
theorem dlaw_795 : decode code 795 = .ok (.i2l, 1) := by decide +kernel
theorem dlaw_796 : decode code 796 = .ok (.ldc2_w 73, 3) := by decide +kernel
theorem dlaw_799 : decode code 799 = .ok (.land, 1) := by decide +kernel
theorem dlaw_800 : decode code 800 = .ok (.lor, 1) := by decide +kernel
theorem dlaw_801 : decode code 801 = .ok (.aload_n 0, 1) := by decide +kernel
theorem dlaw_802 : decode code 802 = .ok (.iload 4, 2) := by decide +kernel
theorem dlaw_804 : decode code 804 = .ok (.iconst 4, 1) := by decide +kernel
theorem dlaw_805 : decode code 805 = .ok (.iadd, 1) := by decide +kernel
theorem dlaw_806 : decode code 806 = .ok (.iaload, 1) := by decide +kernel
theorem dlaw_807 : decode code 807 = .ok (.aload_n 3, 1) := by decide +kernel
theorem dlaw_808 : decode code 808 = .ok (.invokestatic 126, 3) := by decide +kernel
theorem dlaw_811 : decode code 811 = .ok (.istore 5, 2) := by decide +kernel
theorem dlaw_813 : decode code 813 = .ok (.aload_n 2, 1) := by decide +kernel
theorem dlaw_814 : decode code 814 = .ok (.aload_n 0, 1) := by decide +kernel
theorem dlaw_815 : decode code 815 = .ok (.iload 4, 2) := by decide +kernel
theorem dlaw_817 : decode code 817 = .ok (.iconst 1, 1) := by decide +kernel
theorem dlaw_818 : decode code 818 = .ok (.iadd, 1) := by decide +kernel
theorem dlaw_819 : decode code 819 = .ok (.iaload, 1) := by decide +kernel
theorem dlaw_820 : decode code 820 = .ok (.aload_n 0, 1) := by decide +kernel
theorem dlaw_821 : decode code 821 = .ok (.iload 4, 2) := by decide +kernel
theorem dlaw_823 : decode code 823 = .ok (.iconst 2, 1) := by decide +kernel
theorem dlaw_824 : decode code 824 = .ok (.iadd, 1) := by decide +kernel
theorem dlaw_825 : decode code 825 = .ok (.iaload, 1) := by decide +kernel
theorem dlaw_826 : decode code 826 = .ok (.i2l, 1) := by decide +kernel
theorem dlaw_827 : decode code 827 = .ok (.bipush 32, 2) := by decide +kernel
theorem dlaw_829 : decode code 829 = .ok (.lshl, 1) := by decide +kernel
theorem dlaw_830 : decode code 830 = .ok (.aload_n 0, 1) := by decide +kernel
theorem dlaw_831 : decode code 831 = .ok (.iload 4, 2) := by decide +kernel
theorem dlaw_833 : decode code 833 = .ok (.iconst 3, 1) := by decide +kernel
theorem dlaw_834 : decode code 834 = .ok (.iadd, 1) := by decide +kernel
theorem dlaw_835 : decode code 835 = .ok (.iaload, 1) := by decide +kernel
theorem dlaw_836 : decode code 836 = .ok (.i2l, 1) := by decide +kernel
theorem dlaw_837 : decode code 837 = .ok (.ldc2_w 73, 3) := by decide +kernel
theorem dlaw_840 : decode code 840 = .ok (.land, 1) := by decide +kernel
theorem dlaw_841 : decode code 841 = .ok (.lor, 1) := by decide +kernel
theorem dlaw_842 : decode code 842 = .ok (.aload_n 0, 1) := by decide +kernel
theorem dlaw_843 : decode code 843 = .ok (.iload 4, 2) := by decide +kernel
theorem dlaw_845 : decode code 845 = .ok (.iconst 4, 1) := by decide +kernel
theorem dlaw_846 : decode code 846 = .ok (.iadd, 1) := by decide +kernel
theorem dlaw_847 : decode code 847 = .ok (.iaload, 1) := by decide +kernel
theorem dlaw_848 : decode code 848 = .ok (.invokevirtual 128, 3) := by decide +kernel
theorem dlaw_851 : decode code 851 = .ok (.istore 6, 2) := by decide +kernel
theorem dlaw_853 : decode code 853 = .ok (.aload_n 2, 1) := by decide +kernel
theorem dlaw_854 : decode code 854 = .ok (.invokevirtual 81, 3) := by decide +kernel
theorem dlaw_857 : decode code 857 = .ok (.iload 5, 2) := by decide +kernel
theorem dlaw_859 : decode code 859 = .ok (.if_icmp .eq 5, 3) := by decide +kernel
theorem dlaw_862 : decode code 862 = .ok (.iconst 0, 1) := by decide +kernel
theorem dlaw_863 : decode code 863 = .ok (.ireturn, 1) := by decide +kernel
theorem dlaw_864 : decode code 864 = .ok (.iload 5, 2) := by decide +kernel
theorem dlaw_866 : decode code 866 = .ok (.ifCond .ne 15, 3) := by decide +kernel
theorem dlaw_869 : decode code 869 = .ok (.aload_n 3, 1) := by decide +kernel
theorem dlaw_870 : decode code 870 = .ok (.iconst 0, 1) := by decide +kernel
theorem dlaw_871 : decode code 871 = .ok (.laload, 1) := by decide +kernel
theorem dlaw_872 : decode code 872 = .ok (.iload 6, 2) := by decide +kernel
theorem dlaw_874 : decode code 874 = .ok (.i2l, 1) := by decide +kernel
theorem dlaw_875 : decode code 875 = .ok (.lcmp, 1) := by decide +kernel
theorem dlaw_876 : decode code 876 = .ok (.ifCond .eq 5, 3) := by decide +kernel
theorem dlaw_879 : decode code 879 = .ok (.iconst 0, 1) := by decide +kernel
theorem dlaw_880 : decode code 880 = .ok (.ireturn, 1) := by decide +kernel
theorem dlaw_881 : decode code 881 = .ok (.goto 266, 3) := by decide +kernel
theorem dlaw_884 : decode code 884 = .ok (.aload_n 1, 1) := by decide +kernel
theorem dlaw_885 : decode code 885 = .ok (.aload_n 0, 1) := by decide +kernel
theorem dlaw_886 : decode code 886 = .ok (.iload 4, 2) := by decide +kernel
theorem dlaw_888 : decode code 888 = .ok (.iconst 1, 1) := by decide +kernel
theorem dlaw_889 : decode code 889 = .ok (.iadd, 1) := by decide +kernel
theorem dlaw_890 : decode code 890 = .ok (.iaload, 1) := by decide +kernel
theorem dlaw_891 : decode code 891 = .ok (.aload_n 0, 1) := by decide +kernel
theorem dlaw_892 : decode code 892 = .ok (.iload 4, 2) := by decide +kernel
theorem dlaw_894 : decode code 894 = .ok (.iconst 2, 1) := by decide +kernel
theorem dlaw_895 : decode code 895 = .ok (.iadd, 1) := by decide +kernel
theorem dlaw_896 : decode code 896 = .ok (.iaload, 1) := by decide +kernel
theorem dlaw_897 : decode code 897 = .ok (.aload_n 0, 1) := by decide +kernel
theorem dlaw_898 : decode code 898 = .ok (.iload 4, 2) := by decide +kernel
theorem dlaw_900 : decode code 900 = .ok (.iconst 3, 1) := by decide +kernel
theorem dlaw_901 : decode code 901 = .ok (.iadd, 1) := by decide +kernel
theorem dlaw_902 : decode code 902 = .ok (.iaload, 1) := by decide +kernel
theorem dlaw_903 : decode code 903 = .ok (.ifCond .eq 7, 3) := by decide +kernel
theorem dlaw_906 : decode code 906 = .ok (.iconst 1, 1) := by decide +kernel
theorem dlaw_907 : decode code 907 = .ok (.goto 4, 3) := by decide +kernel
theorem dlaw_910 : decode code 910 = .ok (.iconst 0, 1) := by decide +kernel
theorem dlaw_911 : decode code 911 = .ok (.aload_n 3, 1) := by decide +kernel
theorem dlaw_912 : decode code 912 = .ok (.invokestatic 129, 3) := by decide +kernel
theorem dlaw_915 : decode code 915 = .ok (.istore 5, 2) := by decide +kernel
theorem dlaw_917 : decode code 917 = .ok (.aload_n 2, 1) := by decide +kernel
theorem dlaw_918 : decode code 918 = .ok (.aload_n 0, 1) := by decide +kernel
theorem dlaw_919 : decode code 919 = .ok (.iload 4, 2) := by decide +kernel
theorem dlaw_921 : decode code 921 = .ok (.iconst 1, 1) := by decide +kernel
theorem dlaw_922 : decode code 922 = .ok (.iadd, 1) := by decide +kernel
theorem dlaw_923 : decode code 923 = .ok (.iaload, 1) := by decide +kernel
theorem dlaw_924 : decode code 924 = .ok (.aload_n 0, 1) := by decide +kernel
theorem dlaw_925 : decode code 925 = .ok (.iload 4, 2) := by decide +kernel
theorem dlaw_927 : decode code 927 = .ok (.iconst 2, 1) := by decide +kernel
theorem dlaw_928 : decode code 928 = .ok (.iadd, 1) := by decide +kernel
theorem dlaw_929 : decode code 929 = .ok (.iaload, 1) := by decide +kernel
theorem dlaw_930 : decode code 930 = .ok (.aload_n 0, 1) := by decide +kernel
theorem dlaw_931 : decode code 931 = .ok (.iload 4, 2) := by decide +kernel
theorem dlaw_933 : decode code 933 = .ok (.iconst 3, 1) := by decide +kernel
theorem dlaw_934 : decode code 934 = .ok (.iadd, 1) := by decide +kernel
theorem dlaw_935 : decode code 935 = .ok (.iaload, 1) := by decide +kernel
theorem dlaw_936 : decode code 936 = .ok (.ifCond .eq 7, 3) := by decide +kernel
theorem dlaw_939 : decode code 939 = .ok (.iconst 1, 1) := by decide +kernel
theorem dlaw_940 : decode code 940 = .ok (.goto 4, 3) := by decide +kernel
theorem dlaw_943 : decode code 943 = .ok (.iconst 0, 1) := by decide +kernel
theorem dlaw_944 : decode code 944 = .ok (.invokevirtual 132, 3) := by decide +kernel
theorem dlaw_947 : decode code 947 = .ok (.istore 6, 2) := by decide +kernel
theorem dlaw_949 : decode code 949 = .ok (.aload_n 2, 1) := by decide +kernel
theorem dlaw_950 : decode code 950 = .ok (.invokevirtual 81, 3) := by decide +kernel
theorem dlaw_953 : decode code 953 = .ok (.iload 5, 2) := by decide +kernel
theorem dlaw_955 : decode code 955 = .ok (.if_icmp .eq 5, 3) := by decide +kernel
theorem dlaw_958 : decode code 958 = .ok (.iconst 0, 1) := by decide +kernel
theorem dlaw_959 : decode code 959 = .ok (.ireturn, 1) := by decide +kernel
theorem dlaw_960 : decode code 960 = .ok (.iload 5, 2) := by decide +kernel
theorem dlaw_962 : decode code 962 = .ok (.ifCond .ne 15, 3) := by decide +kernel
theorem dlaw_965 : decode code 965 = .ok (.aload_n 3, 1) := by decide +kernel
theorem dlaw_966 : decode code 966 = .ok (.iconst 0, 1) := by decide +kernel
theorem dlaw_967 : decode code 967 = .ok (.laload, 1) := by decide +kernel
theorem dlaw_968 : decode code 968 = .ok (.iload 6, 2) := by decide +kernel
theorem dlaw_970 : decode code 970 = .ok (.i2l, 1) := by decide +kernel
theorem dlaw_971 : decode code 971 = .ok (.lcmp, 1) := by decide +kernel
theorem dlaw_972 : decode code 972 = .ok (.ifCond .eq 5, 3) := by decide +kernel
theorem dlaw_975 : decode code 975 = .ok (.iconst 0, 1) := by decide +kernel
theorem dlaw_976 : decode code 976 = .ok (.ireturn, 1) := by decide +kernel
theorem dlaw_977 : decode code 977 = .ok (.goto 170, 3) := by decide +kernel
theorem dlaw_980 : decode code 980 = .ok (.aload_n 1, 1) := by decide +kernel
theorem dlaw_981 : decode code 981 = .ok (.aload_n 0, 1) := by decide +kernel
theorem dlaw_982 : decode code 982 = .ok (.iload 4, 2) := by decide +kernel
theorem dlaw_984 : decode code 984 = .ok (.iconst 1, 1) := by decide +kernel
theorem dlaw_985 : decode code 985 = .ok (.iadd, 1) := by decide +kernel
theorem dlaw_986 : decode code 986 = .ok (.iaload, 1) := by decide +kernel
theorem dlaw_987 : decode code 987 = .ok (.aload_n 3, 1) := by decide +kernel
theorem dlaw_988 : decode code 988 = .ok (.invokestatic 133, 3) := by decide +kernel
theorem dlaw_991 : decode code 991 = .ok (.istore 5, 2) := by decide +kernel
theorem dlaw_993 : decode code 993 = .ok (.aload_n 2, 1) := by decide +kernel
theorem dlaw_994 : decode code 994 = .ok (.aload_n 0, 1) := by decide +kernel
theorem dlaw_995 : decode code 995 = .ok (.iload 4, 2) := by decide +kernel
theorem dlaw_997 : decode code 997 = .ok (.iconst 1, 1) := by decide +kernel
theorem dlaw_998 : decode code 998 = .ok (.iadd, 1) := by decide +kernel
theorem dlaw_999 : decode code 999 = .ok (.iaload, 1) := by decide +kernel
theorem dlaw_1000 : decode code 1000 = .ok (.invokevirtual 135, 3) := by decide +kernel
theorem dlaw_1003 : decode code 1003 = .ok (.istore 6, 2) := by decide +kernel
theorem dlaw_1005 : decode code 1005 = .ok (.aload_n 2, 1) := by decide +kernel
theorem dlaw_1006 : decode code 1006 = .ok (.invokevirtual 81, 3) := by decide +kernel
theorem dlaw_1009 : decode code 1009 = .ok (.iload 5, 2) := by decide +kernel
theorem dlaw_1011 : decode code 1011 = .ok (.if_icmp .eq 5, 3) := by decide +kernel
theorem dlaw_1014 : decode code 1014 = .ok (.iconst 0, 1) := by decide +kernel
theorem dlaw_1015 : decode code 1015 = .ok (.ireturn, 1) := by decide +kernel
theorem dlaw_1016 : decode code 1016 = .ok (.iload 5, 2) := by decide +kernel
theorem dlaw_1018 : decode code 1018 = .ok (.ifCond .ne 15, 3) := by decide +kernel
theorem dlaw_1021 : decode code 1021 = .ok (.aload_n 3, 1) := by decide +kernel
theorem dlaw_1022 : decode code 1022 = .ok (.iconst 0, 1) := by decide +kernel
theorem dlaw_1023 : decode code 1023 = .ok (.laload, 1) := by decide +kernel
theorem dlaw_1024 : decode code 1024 = .ok (.iload 6, 2) := by decide +kernel
theorem dlaw_1026 : decode code 1026 = .ok (.i2l, 1) := by decide +kernel
theorem dlaw_1027 : decode code 1027 = .ok (.lcmp, 1) := by decide +kernel
theorem dlaw_1028 : decode code 1028 = .ok (.ifCond .eq 5, 3) := by decide +kernel
theorem dlaw_1031 : decode code 1031 = .ok (.iconst 0, 1) := by decide +kernel
theorem dlaw_1032 : decode code 1032 = .ok (.ireturn, 1) := by decide +kernel
theorem dlaw_1033 : decode code 1033 = .ok (.goto 114, 3) := by decide +kernel
theorem dlaw_1036 : decode code 1036 = .ok (.aload_n 1, 1) := by decide +kernel
theorem dlaw_1037 : decode code 1037 = .ok (.aload_n 0, 1) := by decide +kernel
theorem dlaw_1038 : decode code 1038 = .ok (.iload 4, 2) := by decide +kernel
theorem dlaw_1040 : decode code 1040 = .ok (.iconst 1, 1) := by decide +kernel
theorem dlaw_1041 : decode code 1041 = .ok (.iadd, 1) := by decide +kernel
theorem dlaw_1042 : decode code 1042 = .ok (.iaload, 1) := by decide +kernel
theorem dlaw_1043 : decode code 1043 = .ok (.aload_n 3, 1) := by decide +kernel
theorem dlaw_1044 : decode code 1044 = .ok (.invokestatic 136, 3) := by decide +kernel
theorem dlaw_1047 : decode code 1047 = .ok (.istore 5, 2) := by decide +kernel
theorem dlaw_1049 : decode code 1049 = .ok (.aload_n 2, 1) := by decide +kernel
theorem dlaw_1050 : decode code 1050 = .ok (.aload_n 0, 1) := by decide +kernel
theorem dlaw_1051 : decode code 1051 = .ok (.iload 4, 2) := by decide +kernel
theorem dlaw_1053 : decode code 1053 = .ok (.iconst 1, 1) := by decide +kernel
theorem dlaw_1054 : decode code 1054 = .ok (.iadd, 1) := by decide +kernel
theorem dlaw_1055 : decode code 1055 = .ok (.iaload, 1) := by decide +kernel
theorem dlaw_1056 : decode code 1056 = .ok (.invokevirtual 138, 3) := by decide +kernel
theorem dlaw_1059 : decode code 1059 = .ok (.lstore 6, 2) := by decide +kernel
theorem dlaw_1061 : decode code 1061 = .ok (.aload_n 2, 1) := by decide +kernel
theorem dlaw_1062 : decode code 1062 = .ok (.invokevirtual 81, 3) := by decide +kernel
theorem dlaw_1065 : decode code 1065 = .ok (.iload 5, 2) := by decide +kernel
theorem dlaw_1067 : decode code 1067 = .ok (.if_icmp .eq 5, 3) := by decide +kernel
theorem dlaw_1070 : decode code 1070 = .ok (.iconst 0, 1) := by decide +kernel
theorem dlaw_1071 : decode code 1071 = .ok (.ireturn, 1) := by decide +kernel
theorem dlaw_1072 : decode code 1072 = .ok (.iload 5, 2) := by decide +kernel
theorem dlaw_1074 : decode code 1074 = .ok (.ifCond .ne 14, 3) := by decide +kernel
theorem dlaw_1077 : decode code 1077 = .ok (.aload_n 3, 1) := by decide +kernel
theorem dlaw_1078 : decode code 1078 = .ok (.iconst 0, 1) := by decide +kernel
theorem dlaw_1079 : decode code 1079 = .ok (.laload, 1) := by decide +kernel
theorem dlaw_1080 : decode code 1080 = .ok (.lload 6, 2) := by decide +kernel
theorem dlaw_1082 : decode code 1082 = .ok (.lcmp, 1) := by decide +kernel
theorem dlaw_1083 : decode code 1083 = .ok (.ifCond .eq 5, 3) := by decide +kernel
theorem dlaw_1086 : decode code 1086 = .ok (.iconst 0, 1) := by decide +kernel
theorem dlaw_1087 : decode code 1087 = .ok (.ireturn, 1) := by decide +kernel
theorem dlaw_1088 : decode code 1088 = .ok (.goto 59, 3) := by decide +kernel
theorem dlaw_1091 : decode code 1091 = .ok (.aload_n 1, 1) := by decide +kernel
theorem dlaw_1092 : decode code 1092 = .ok (.aload_n 0, 1) := by decide +kernel
theorem dlaw_1093 : decode code 1093 = .ok (.iload 4, 2) := by decide +kernel
theorem dlaw_1095 : decode code 1095 = .ok (.iconst 1, 1) := by decide +kernel
theorem dlaw_1096 : decode code 1096 = .ok (.iadd, 1) := by decide +kernel
theorem dlaw_1097 : decode code 1097 = .ok (.iaload, 1) := by decide +kernel
theorem dlaw_1098 : decode code 1098 = .ok (.aload_n 3, 1) := by decide +kernel
theorem dlaw_1099 : decode code 1099 = .ok (.invokestatic 139, 3) := by decide +kernel
theorem dlaw_1102 : decode code 1102 = .ok (.istore 5, 2) := by decide +kernel
theorem dlaw_1104 : decode code 1104 = .ok (.aload_n 2, 1) := by decide +kernel
theorem dlaw_1105 : decode code 1105 = .ok (.aload_n 0, 1) := by decide +kernel
theorem dlaw_1106 : decode code 1106 = .ok (.iload 4, 2) := by decide +kernel
theorem dlaw_1108 : decode code 1108 = .ok (.iconst 1, 1) := by decide +kernel
theorem dlaw_1109 : decode code 1109 = .ok (.iadd, 1) := by decide +kernel
theorem dlaw_1110 : decode code 1110 = .ok (.iaload, 1) := by decide +kernel
theorem dlaw_1111 : decode code 1111 = .ok (.invokevirtual 141, 3) := by decide +kernel
theorem dlaw_1114 : decode code 1114 = .ok (.istore 6, 2) := by decide +kernel
theorem dlaw_1116 : decode code 1116 = .ok (.aload_n 2, 1) := by decide +kernel
theorem dlaw_1117 : decode code 1117 = .ok (.invokevirtual 81, 3) := by decide +kernel
theorem dlaw_1120 : decode code 1120 = .ok (.iload 5, 2) := by decide +kernel
theorem dlaw_1122 : decode code 1122 = .ok (.if_icmp .eq 5, 3) := by decide +kernel
theorem dlaw_1125 : decode code 1125 = .ok (.iconst 0, 1) := by decide +kernel
theorem dlaw_1126 : decode code 1126 = .ok (.ireturn, 1) := by decide +kernel
theorem dlaw_1127 : decode code 1127 = .ok (.iload 5, 2) := by decide +kernel
theorem dlaw_1129 : decode code 1129 = .ok (.ifCond .ne 15, 3) := by decide +kernel
theorem dlaw_1132 : decode code 1132 = .ok (.aload_n 3, 1) := by decide +kernel
theorem dlaw_1133 : decode code 1133 = .ok (.iconst 0, 1) := by decide +kernel
theorem dlaw_1134 : decode code 1134 = .ok (.laload, 1) := by decide +kernel
theorem dlaw_1135 : decode code 1135 = .ok (.iload 6, 2) := by decide +kernel
theorem dlaw_1137 : decode code 1137 = .ok (.i2l, 1) := by decide +kernel
theorem dlaw_1138 : decode code 1138 = .ok (.lcmp, 1) := by decide +kernel
theorem dlaw_1139 : decode code 1139 = .ok (.ifCond .eq 5, 3) := by decide +kernel
theorem dlaw_1142 : decode code 1142 = .ok (.iconst 0, 1) := by decide +kernel
theorem dlaw_1143 : decode code 1143 = .ok (.ireturn, 1) := by decide +kernel
theorem dlaw_1144 : decode code 1144 = .ok (.goto 3, 3) := by decide +kernel
theorem dlaw_1147 : decode code 1147 = .ok (.iinc 4 5, 3) := by decide +kernel
theorem dlaw_1150 : decode code 1150 = .ok (.goto (-1127), 3) := by decide +kernel
theorem dlaw_1153 : decode code 1153 = .ok (.iconst 1, 1) := by decide +kernel
theorem dlaw_1154 : decode code 1154 = .ok (.ireturn, 1) := by decide +kernel
theorem hw_L_feed : yL_feed.cls ≠ "java/lang/invoke/MethodHandle" ∧ yL_feed.cls ≠ "java/lang/invoke/VarHandle" ∧ (parseMethodDescriptor yL_feed.desc).map (fun d => d.parameters.length) = some 4 := by decide +kernel
set_option maxRecDepth 100000 in
theorem ws_75 : GoodIn lw_tbl (va_wsS RL 75 yL_feed [.codeWith yL_feed cL_feed 6 (some .int) [(0, 11, 14, 13), (0, 11, 18, 15)]]) := gi_r [310, 311, 42, 312] rfl rfl
theorem hw_L_keep : yL_keep.cls ≠ "java/lang/invoke/MethodHandle" ∧ yL_keep.cls ≠ "java/lang/invoke/VarHandle" ∧ (parseMethodDescriptor yL_keep.desc).map (fun d => d.parameters.length) = some 4 := by decide +kernel
set_option maxRecDepth 100000 in
theorem ws_89 : GoodIn lw_tbl (va_wsS RL 89 yL_keep [.codeWith yL_keep cL_keep 5 (some .int) [(0, 10, 13, 13), (0, 10, 17, 15)]]) := gi_r [406, 407, 42, 408] rfl rfl
theorem hw_L_mac : yL_mac.cls ≠ "java/lang/invoke/MethodHandle" ∧ yL_mac.cls ≠ "java/lang/invoke/VarHandle" ∧ (parseMethodDescriptor yL_mac.desc).map (fun d => d.parameters.length) = some 2 := by decide +kernel
set_option maxRecDepth 100000 in
theorem ws_97 : GoodIn lw_tbl (va_wsS RL 97 yL_mac [.codeWith yL_mac cL_mac 3 (some .int) [(0, 5, 8, 13)]]) := gi_r [426, 427, 42, 428] rfl rfl
theorem hw_L_stretch : yL_stretch.cls ≠ "java/lang/invoke/MethodHandle" ∧ yL_stretch.cls ≠ "java/lang/invoke/VarHandle" ∧ (parseMethodDescriptor yL_stretch.desc).map (fun d => d.parameters.length) = some 3 := by decide +kernel
set_option maxRecDepth 100000 in
theorem ws_101 : GoodIn lw_tbl (va_wsS RL 101 yL_stretch [.codeWith yL_stretch cL_stretch 4 (some .int) [(0, 6, 9, 13)]]) := gi_r [453, 454, 42, 455] rfl rfl
theorem hw_L_label : yL_label.cls ≠ "java/lang/invoke/MethodHandle" ∧ yL_label.cls ≠ "java/lang/invoke/VarHandle" ∧ (parseMethodDescriptor yL_label.desc).map (fun d => d.parameters.length) = some 4 := by decide +kernel
set_option maxRecDepth 100000 in
theorem ws_105 : GoodIn lw_tbl (va_wsS RL 105 yL_label [.codeWith yL_label cL_label 5 (some .int) [(0, 7, 10, 13), (0, 7, 14, 15)]]) := gi_r [469, 470, 42, 471] rfl rfl
theorem hw_L_block : yL_block.cls ≠ "java/lang/invoke/MethodHandle" ∧ yL_block.cls ≠ "java/lang/invoke/VarHandle" ∧ (parseMethodDescriptor yL_block.desc).map (fun d => d.parameters.length) = some 3 := by decide +kernel
set_option maxRecDepth 100000 in
theorem ws_109 : GoodIn lw_tbl (va_wsS RL 109 yL_block [.codeWith yL_block cL_block 4 (some .int) [(0, 6, 9, 13), (0, 6, 12, 15)]]) := gi_r [546, 547, 42, 548] rfl rfl
theorem hw_L_tally : yL_tally.cls ≠ "java/lang/invoke/MethodHandle" ∧ yL_tally.cls ≠ "java/lang/invoke/VarHandle" ∧ (parseMethodDescriptor yL_tally.desc).map (fun d => d.parameters.length) = some 2 := by decide +kernel
set_option maxRecDepth 100000 in
theorem ws_112 : GoodIn lw_tbl (va_wsS RL 112 yL_tally [.codeWith yL_tally cL_tally 3 (some .int) [(0, 5, 8, 13), (0, 5, 11, 15)]]) := gi_r [584, 585, 42, 586] rfl rfl
theorem hw_L_arm : yL_arm.cls ≠ "java/lang/invoke/MethodHandle" ∧ yL_arm.cls ≠ "java/lang/invoke/VarHandle" ∧ (parseMethodDescriptor yL_arm.desc).map (fun d => d.parameters.length) = some 3 := by decide +kernel
set_option maxRecDepth 100000 in
theorem ws_115 : GoodIn lw_tbl (va_wsS RL 115 yL_arm [.codeWith yL_arm cL_arm 4 (some .int) [(0, 6, 9, 13), (0, 6, 12, 15)]]) := gi_r [628, 629, 42, 630] rfl rfl
theorem hw_L_turn : yL_turn.cls ≠ "java/lang/invoke/MethodHandle" ∧ yL_turn.cls ≠ "java/lang/invoke/VarHandle" ∧ (parseMethodDescriptor yL_turn.desc).map (fun d => d.parameters.length) = some 3 := by decide +kernel
set_option maxRecDepth 100000 in
theorem ws_118 : GoodIn lw_tbl (va_wsS RL 118 yL_turn [.codeWith yL_turn cL_turn 4 (some .int) [(0, 9, 12, 13), (0, 9, 15, 15)]]) := gi_r [643, 644, 42, 645] rfl rfl
theorem hw_L_seal : yL_seal.cls ≠ "java/lang/invoke/MethodHandle" ∧ yL_seal.cls ≠ "java/lang/invoke/VarHandle" ∧ (parseMethodDescriptor yL_seal.desc).map (fun d => d.parameters.length) = some 5 := by decide +kernel
set_option maxRecDepth 100000 in
theorem ws_122 : GoodIn lw_tbl (va_wsS RL 122 yL_seal [.codeWith yL_seal cL_seal 7 (some .int) [(0, 13, 16, 13), (0, 13, 20, 15)]]) := gi_r [655, 656, 42, 657] rfl rfl
theorem hw_L_open : yL_open.cls ≠ "java/lang/invoke/MethodHandle" ∧ yL_open.cls ≠ "java/lang/invoke/VarHandle" ∧ (parseMethodDescriptor yL_open.desc).map (fun d => d.parameters.length) = some 5 := by decide +kernel
set_option maxRecDepth 100000 in
theorem ws_126 : GoodIn lw_tbl (va_wsS RL 126 yL_open [.codeWith yL_open cL_open 7 (some .int) [(0, 13, 16, 13), (0, 13, 20, 15)]]) := gi_r [691, 692, 42, 693] rfl rfl
theorem hw_L_shield : yL_shield.cls ≠ "java/lang/invoke/MethodHandle" ∧ yL_shield.cls ≠ "java/lang/invoke/VarHandle" ∧ (parseMethodDescriptor yL_shield.desc).map (fun d => d.parameters.length) = some 5 := by decide +kernel
set_option maxRecDepth 100000 in
theorem ws_129 : GoodIn lw_tbl (va_wsS RL 129 yL_shield [.codeWith yL_shield cL_shield 6 (some .int) [(0, 12, 15, 13), (0, 12, 19, 15)]]) := gi_r [707, 708, 42, 709] rfl rfl
theorem hw_L_out : yL_out.cls ≠ "java/lang/invoke/MethodHandle" ∧ yL_out.cls ≠ "java/lang/invoke/VarHandle" ∧ (parseMethodDescriptor yL_out.desc).map (fun d => d.parameters.length) = some 3 := by decide +kernel
set_option maxRecDepth 100000 in
theorem ws_133 : GoodIn lw_tbl (va_wsS RL 133 yL_out [.codeWith yL_out cL_out 4 (some .int) [(0, 9, 12, 60)]]) := gi_r [720, 721, 42, 722] rfl rfl
theorem hw_L_outs : yL_outs.cls ≠ "java/lang/invoke/MethodHandle" ∧ yL_outs.cls ≠ "java/lang/invoke/VarHandle" ∧ (parseMethodDescriptor yL_outs.desc).map (fun d => d.parameters.length) = some 3 := by decide +kernel
set_option maxRecDepth 100000 in
theorem ws_136 : GoodIn lw_tbl (va_wsS RL 136 yL_outs [.codeWith yL_outs cL_outs 4 (some .int) [(0, 8, 11, 60)]]) := gi_r [748, 749, 42, 750] rfl rfl
theorem hw_L_look : yL_look.cls ≠ "java/lang/invoke/MethodHandle" ∧ yL_look.cls ≠ "java/lang/invoke/VarHandle" ∧ (parseMethodDescriptor yL_look.desc).map (fun d => d.parameters.length) = some 3 := by decide +kernel
set_option maxRecDepth 100000 in
theorem ws_139 : GoodIn lw_tbl (va_wsS RL 139 yL_look [.codeWith yL_look cL_look 4 (some .int) [(0, 9, 12, 60)]]) := gi_r [757, 758, 42, 759] rfl rfl
theorem vMW.frameL {l : Launch} {D : va_G} {y : MethodName} {cc : ByteArray} {maxL : Nat} {ret : Option FieldType} {hh : List (Nat × Nat × Nat × Nat)} {rm : Room} {av : List Value} {wi : va_W} {post : Option Value → va_W → Prop} (M : vMW l D y cc maxL ret hh rm av wi post) (wl : va_W) : vMW l D y cc maxL ret hh rm av (wl ++ wi) (fun r ws' => ∃ wo, post r wo ∧ ws' = wl ++ wo) := by
  intro sz
  refine MetFree.mono (M sz) (fun a U h => ⟨h.1, ⟨h.2.1.1, h.2.1.2.1.right, h.2.1.2.2.1, h.2.1.2.2.2.1.right, h.2.1.2.2.2.2.go (State.WarmedH.refl U) (fun _ _ _ => rfl) va_A_r⟩, h.2.2⟩) (fun _ _ _ _ _ h => h) ?_
  intro a st o t ⟨ha, ⟨hsz, hP, hK, hD, hG⟩, hN⟩ ⟨⟨⟨r, wo, ho, hpo, hP1, hK1, hD1⟩, hz, hk⟩, L, hF, hL⟩
  subst hsz
  have hD' := hD.self (sz := st.heap.size)
  have hap : ∀ (i j : Nat) (p q : Nat × va_E), wl[i]? = some p → wi[j]? = some q → p.1 ≠ q.1 := hD.apart
  refine ⟨⟨⟨r, wl ++ wo, ho, ⟨wo, hpo, rfl⟩, va_P.app (hP.left.stay hap hk) hP1, hK1, va_D.app hD'.left (hD1.weaken (fun k q _ h => va_A_r q.1 h)) (fun i j x y hx hy hxy => ?_)⟩, hz, fun q g1 g2 => hk q g1 (fun z => g2 (va_A_r q z))⟩, L, hF, fun q hq => va_A_r _ (hL q hq)⟩
  rcases hD1.2 j y hy with ⟨k, e, h⟩ | h
  · exact hap i k x (y.1, e) hx h hxy
  · have := (hP.left i x hx).lt
    omega
theorem cb_feed {K K' : Co} {c : Nat} {a : Int32} {p : Int32} {x : BitVec 64} (z : RF_feed K p x K' c a) : c < 3 := by
  unfold RF_feed at z
  rcases z with ⟨rfl, _⟩ | ⟨n, _, _, _, ⟨rfl, _⟩ | ⟨rfl, _⟩⟩ <;> decide
theorem cb_keep {K K' : Co} {c : Nat} {a : Int32} {p : Int32} {b : Nat} (z : RF_keep K p b K' c a) : c < 3 := by
  unfold RF_keep at z
  rcases z with ⟨rfl, _⟩ | ⟨i, _, _, ⟨rfl, _⟩ | ⟨rfl, _⟩⟩ <;> decide
theorem cb_turn {K K' : Co} {c : Nat} {a : Int32} {p : Int32} (z : RF_turn K p K' c a) : c < 3 := by
  unfold RF_turn at z
  rcases z with ⟨rfl, _⟩ | ⟨i, _, _, ⟨rfl, _⟩ | ⟨rfl, _⟩⟩ <;> decide
theorem cb_seal {K K' : Co} {c : Nat} {a : Int32} {p : Int32} {x : BitVec 64} {h : Int32} (z : RF_seal K p x h K' c a) : c < 3 := by
  unfold RF_seal at z
  rcases z with ⟨rfl, _⟩ | ⟨i, _, _, ⟨rfl, _⟩ | ⟨_, ⟨rfl, _⟩ | ⟨n, _, _, ⟨rfl, _⟩ | ⟨rfl, _⟩⟩⟩⟩ <;> decide
theorem cb_unseal {K K' : Co} {c : Nat} {a : Int32} {p : Int32} {x : BitVec 64} {h : Int32} (z : RF_unseal K p x h K' c a) : c < 3 := by
  unfold RF_unseal at z
  rcases z with ⟨rfl, _⟩ | ⟨i, _, _, ⟨rfl, _⟩ | ⟨_, ⟨rfl, _⟩ | ⟨n, _, _, ⟨rfl, _⟩ | ⟨rfl, _⟩⟩⟩⟩ <;> decide
theorem cb_shd {K K' : Co} {c : Nat} {a : Int32} {p q : Int32} {d : Nat} (z : RF_shd K p q d K' c a) : c < 3 := by
  unfold RF_shd at z
  rcases z with ⟨rfl, _⟩ | ⟨i, _, _, ⟨rfl, _⟩ | ⟨n, _, _, _, ⟨rfl, _⟩ | ⟨rfl, _⟩⟩⟩ <;> decide
theorem cb_get {K K' : Co} {c : Nat} {a : Int32} {p : Int32} (z : RF_get K p K' c a) : c < 3 := by
  unfold RF_get at z
  rcases z with ⟨rfl, _⟩ | ⟨i, _, _, rfl, _⟩ <;> decide
theorem cb_outs {K K' : Co} {c : Nat} {a : Int64} {p : Int32} (z : RF_outs K p K' c a) : c < 3 := by
  unfold RF_outs at z
  rcases z with ⟨rfl, _⟩ | ⟨i, _, _, rfl, _⟩ <;> decide
theorem cb_look {K K' : Co} {c : Nat} {a : Int32} {p : Int32} (z : RF_look K p K' c a) : c < 3 := by
  unfold RF_look at z
  rcases z with ⟨rfl, _⟩ | ⟨i, _, _, rfl, _⟩ <;> decide
