/-! DECODE ROWS -/
theorem dL_law_0 : decode code 0 = .ok (.new 10, 3) := by decide +kernel
theorem dL_law_3 : decode code 3 = .ok (.dup, 1) := by decide +kernel
theorem dL_law_4 : decode code 4 = .ok (.invokespecial 72, 3) := by decide +kernel
theorem dL_law_7 : decode code 7 = .ok (.astore_n 1, 1) := by decide +kernel
theorem dL_law_8 : decode code 8 = .ok (.aload_n 1, 1) := by decide +kernel
theorem dL_law_9 : decode code 9 = .ok (.invokevirtual 73, 3) := by decide +kernel
theorem dL_law_12 : decode code 12 = .ok (.ldc 62, 2) := by decide +kernel
theorem dL_law_14 : decode code 14 = .ok (.if_icmp .ne 46, 3) := by decide +kernel
theorem dL_law_17 : decode code 17 = .ok (.aload_n 1, 1) := by decide +kernel
theorem dL_law_18 : decode code 18 = .ok (.invokevirtual 76, 3) := by decide +kernel
theorem dL_law_21 : decode code 21 = .ok (.ldc 62, 2) := by decide +kernel
theorem dL_law_23 : decode code 23 = .ok (.if_icmp .ne 37, 3) := by decide +kernel
theorem dL_law_26 : decode code 26 = .ok (.aload_n 1, 1) := by decide +kernel
theorem dL_law_27 : decode code 27 = .ok (.invokevirtual 34, 3) := by decide +kernel
theorem dL_law_30 : decode code 30 = .ok (.ldc 62, 2) := by decide +kernel
theorem dL_law_32 : decode code 32 = .ok (.if_icmp .ne 28, 3) := by decide +kernel
theorem dL_law_35 : decode code 35 = .ok (.aload_n 1, 1) := by decide +kernel
theorem dL_law_36 : decode code 36 = .ok (.bipush 6, 2) := by decide +kernel
theorem dL_law_38 : decode code 38 = .ok (.invokevirtual 58, 3) := by decide +kernel
theorem dL_law_41 : decode code 41 = .ok (.sipush 4000, 3) := by decide +kernel
theorem dL_law_44 : decode code 44 = .ok (.if_icmp .ne 16, 3) := by decide +kernel
theorem dL_law_47 : decode code 47 = .ok (.aload_n 1, 1) := by decide +kernel
theorem dL_law_48 : decode code 48 = .ok (.invokevirtual 79, 3) := by decide +kernel
theorem dL_law_51 : decode code 51 = .ok (.ldc 82, 2) := by decide +kernel
theorem dL_law_53 : decode code 53 = .ok (.if_icmp .ne 7, 3) := by decide +kernel
theorem dL_law_56 : decode code 56 = .ok (.iconst 1, 1) := by decide +kernel
theorem dL_law_57 : decode code 57 = .ok (.goto 4, 3) := by decide +kernel
theorem dL_law_60 : decode code 60 = .ok (.iconst 0, 1) := by decide +kernel
theorem dL_law_61 : decode code 61 = .ok (.istore_n 2, 1) := by decide +kernel
theorem dL_law_62 : decode code 62 = .ok (.iconst 0, 1) := by decide +kernel
theorem dL_law_63 : decode code 63 = .ok (.istore_n 3, 1) := by decide +kernel
theorem dL_law_64 : decode code 64 = .ok (.iload_n 3, 1) := by decide +kernel
theorem dL_law_65 : decode code 65 = .ok (.bipush 12, 2) := by decide +kernel
theorem dL_law_67 : decode code 67 = .ok (.if_icmp .ge 65, 3) := by decide +kernel
theorem dL_law_70 : decode code 70 = .ok (.iload_n 2, 1) := by decide +kernel
theorem dL_law_71 : decode code 71 = .ok (.ifCond .eq 61, 3) := by decide +kernel
theorem dL_law_74 : decode code 74 = .ok (.aload_n 0, 1) := by decide +kernel
theorem dL_law_75 : decode code 75 = .ok (.iload_n 3, 1) := by decide +kernel
theorem dL_law_76 : decode code 76 = .ok (.invokestatic 83, 3) := by decide +kernel
theorem dL_law_79 : decode code 79 = .ok (.istore 4, 2) := by decide +kernel
theorem dL_law_81 : decode code 81 = .ok (.aload_n 1, 1) := by decide +kernel
theorem dL_law_82 : decode code 82 = .ok (.iload 4, 2) := by decide +kernel
theorem dL_law_84 : decode code 84 = .ok (.bipush 6, 2) := by decide +kernel
theorem dL_law_86 : decode code 86 = .ok (.irem, 1) := by decide +kernel
theorem dL_law_87 : decode code 87 = .ok (.iload 4, 2) := by decide +kernel
theorem dL_law_89 : decode code 89 = .ok (.bipush 8, 2) := by decide +kernel
theorem dL_law_91 : decode code 91 = .ok (.idiv, 1) := by decide +kernel
theorem dL_law_92 : decode code 92 = .ok (.bipush 6, 2) := by decide +kernel
theorem dL_law_94 : decode code 94 = .ok (.irem, 1) := by decide +kernel
theorem dL_law_95 : decode code 95 = .ok (.iload 4, 2) := by decide +kernel
theorem dL_law_97 : decode code 97 = .ok (.bipush 64, 2) := by decide +kernel
theorem dL_law_99 : decode code 99 = .ok (.idiv, 1) := by decide +kernel
theorem dL_law_100 : decode code 100 = .ok (.bipush 10, 2) := by decide +kernel
theorem dL_law_102 : decode code 102 = .ok (.irem, 1) := by decide +kernel
theorem dL_law_103 : decode code 103 = .ok (.invokevirtual 9, 3) := by decide +kernel
theorem dL_law_106 : decode code 106 = .ok (.istore 5, 2) := by decide +kernel
theorem dL_law_108 : decode code 108 = .ok (.iload 5, 2) := by decide +kernel
theorem dL_law_110 : decode code 110 = .ok (.ifCond .ge 10, 3) := by decide +kernel
theorem dL_law_113 : decode code 113 = .ok (.iload 5, 2) := by decide +kernel
theorem dL_law_115 : decode code 115 = .ok (.ldc 62, 2) := by decide +kernel
theorem dL_law_117 : decode code 117 = .ok (.if_icmp .ne 7, 3) := by decide +kernel
theorem dL_law_120 : decode code 120 = .ok (.iconst 1, 1) := by decide +kernel
theorem dL_law_121 : decode code 121 = .ok (.goto 4, 3) := by decide +kernel
theorem dL_law_124 : decode code 124 = .ok (.iconst 0, 1) := by decide +kernel
theorem dL_law_125 : decode code 125 = .ok (.istore_n 2, 1) := by decide +kernel
theorem dL_law_126 : decode code 126 = .ok (.iinc 3 1, 3) := by decide +kernel
theorem dL_law_129 : decode code 129 = .ok (.goto (-65), 3) := by decide +kernel
theorem dL_law_132 : decode code 132 = .ok (.iconst 0, 1) := by decide +kernel
theorem dL_law_133 : decode code 133 = .ok (.istore_n 3, 1) := by decide +kernel
theorem dL_law_134 : decode code 134 = .ok (.iload_n 3, 1) := by decide +kernel
theorem dL_law_135 : decode code 135 = .ok (.bipush 22, 2) := by decide +kernel
theorem dL_law_137 : decode code 137 = .ok (.if_icmp .ge 142, 3) := by decide +kernel
theorem dL_law_140 : decode code 140 = .ok (.iload_n 2, 1) := by decide +kernel
theorem dL_law_141 : decode code 141 = .ok (.ifCond .eq 138, 3) := by decide +kernel
theorem dL_law_144 : decode code 144 = .ok (.aload_n 1, 1) := by decide +kernel
theorem dL_law_145 : decode code 145 = .ok (.bipush 9, 2) := by decide +kernel
theorem dL_law_147 : decode code 147 = .ok (.invokevirtual 58, 3) := by decide +kernel
theorem dL_law_150 : decode code 150 = .ok (.istore 4, 2) := by decide +kernel
theorem dL_law_152 : decode code 152 = .ok (.aload_n 1, 1) := by decide +kernel
theorem dL_law_153 : decode code 153 = .ok (.bipush 6, 2) := by decide +kernel
theorem dL_law_155 : decode code 155 = .ok (.invokevirtual 58, 3) := by decide +kernel
theorem dL_law_158 : decode code 158 = .ok (.istore 5, 2) := by decide +kernel
theorem dL_law_160 : decode code 160 = .ok (.aload_n 1, 1) := by decide +kernel
theorem dL_law_161 : decode code 161 = .ok (.iconst 4, 1) := by decide +kernel
theorem dL_law_162 : decode code 162 = .ok (.invokevirtual 58, 3) := by decide +kernel
theorem dL_law_165 : decode code 165 = .ok (.istore 6, 2) := by decide +kernel
theorem dL_law_167 : decode code 167 = .ok (.aload_n 1, 1) := by decide +kernel
theorem dL_law_168 : decode code 168 = .ok (.aload_n 0, 1) := by decide +kernel
theorem dL_law_169 : decode code 169 = .ok (.bipush 12, 2) := by decide +kernel
theorem dL_law_171 : decode code 171 = .ok (.iload_n 3, 1) := by decide +kernel
theorem dL_law_172 : decode code 172 = .ok (.iadd, 1) := by decide +kernel
theorem dL_law_173 : decode code 173 = .ok (.invokestatic 83, 3) := by decide +kernel
theorem dL_law_176 : decode code 176 = .ok (.invokestatic 87, 3) := by decide +kernel
theorem dL_law_179 : decode code 179 = .ok (.istore 7, 2) := by decide +kernel
theorem dL_law_181 : decode code 181 = .ok (.iload 7, 2) := by decide +kernel
theorem dL_law_183 : decode code 183 = .ok (.ldc 91, 2) := by decide +kernel
theorem dL_law_185 : decode code 185 = .ok (.if_icmp .le 7, 3) := by decide +kernel
theorem dL_law_188 : decode code 188 = .ok (.iconst 1, 1) := by decide +kernel
theorem dL_law_189 : decode code 189 = .ok (.goto 4, 3) := by decide +kernel
theorem dL_law_192 : decode code 192 = .ok (.iconst 0, 1) := by decide +kernel
theorem dL_law_193 : decode code 193 = .ok (.istore 8, 2) := by decide +kernel
theorem dL_law_195 : decode code 195 = .ok (.aload_n 1, 1) := by decide +kernel
theorem dL_law_196 : decode code 196 = .ok (.bipush 9, 2) := by decide +kernel
theorem dL_law_198 : decode code 198 = .ok (.invokevirtual 58, 3) := by decide +kernel
theorem dL_law_201 : decode code 201 = .ok (.iload 8, 2) := by decide +kernel
theorem dL_law_203 : decode code 203 = .ok (.ifCond .eq 9, 3) := by decide +kernel
theorem dL_law_206 : decode code 206 = .ok (.iload 4, 2) := by decide +kernel
theorem dL_law_208 : decode code 208 = .ok (.iconst 4, 1) := by decide +kernel
theorem dL_law_209 : decode code 209 = .ok (.if_icmp .ne 8, 3) := by decide +kernel
theorem dL_law_212 : decode code 212 = .ok (.iload 4, 2) := by decide +kernel
theorem dL_law_214 : decode code 214 = .ok (.goto 7, 3) := by decide +kernel
theorem dL_law_217 : decode code 217 = .ok (.iload 4, 2) := by decide +kernel
theorem dL_law_219 : decode code 219 = .ok (.iconst 1, 1) := by decide +kernel
theorem dL_law_220 : decode code 220 = .ok (.iadd, 1) := by decide +kernel
theorem dL_law_221 : decode code 221 = .ok (.if_icmp .ne 50, 3) := by decide +kernel
theorem dL_law_224 : decode code 224 = .ok (.iload 8, 2) := by decide +kernel
theorem dL_law_226 : decode code 226 = .ok (.ifCond .ne 24, 3) := by decide +kernel
theorem dL_law_229 : decode code 229 = .ok (.aload_n 1, 1) := by decide +kernel
theorem dL_law_230 : decode code 230 = .ok (.bipush 6, 2) := by decide +kernel
theorem dL_law_232 : decode code 232 = .ok (.invokevirtual 58, 3) := by decide +kernel
theorem dL_law_235 : decode code 235 = .ok (.iload 5, 2) := by decide +kernel
theorem dL_law_237 : decode code 237 = .ok (.if_icmp .ne 34, 3) := by decide +kernel
theorem dL_law_240 : decode code 240 = .ok (.aload_n 1, 1) := by decide +kernel
theorem dL_law_241 : decode code 241 = .ok (.iconst 4, 1) := by decide +kernel
theorem dL_law_242 : decode code 242 = .ok (.invokevirtual 58, 3) := by decide +kernel
theorem dL_law_245 : decode code 245 = .ok (.iload 6, 2) := by decide +kernel
theorem dL_law_247 : decode code 247 = .ok (.if_icmp .ne 24, 3) := by decide +kernel
theorem dL_law_250 : decode code 250 = .ok (.aload_n 1, 1) := by decide +kernel
theorem dL_law_251 : decode code 251 = .ok (.iconst 4, 1) := by decide +kernel
theorem dL_law_252 : decode code 252 = .ok (.invokevirtual 58, 3) := by decide +kernel
theorem dL_law_255 : decode code 255 = .ok (.iload 6, 2) := by decide +kernel
theorem dL_law_257 : decode code 257 = .ok (.if_icmp .lt 14, 3) := by decide +kernel
theorem dL_law_260 : decode code 260 = .ok (.aload_n 1, 1) := by decide +kernel
theorem dL_law_261 : decode code 261 = .ok (.invokestatic 92, 3) := by decide +kernel
theorem dL_law_264 : decode code 264 = .ok (.ifCond .eq 7, 3) := by decide +kernel
theorem dL_law_267 : decode code 267 = .ok (.iconst 1, 1) := by decide +kernel
theorem dL_law_268 : decode code 268 = .ok (.goto 4, 3) := by decide +kernel
theorem dL_law_271 : decode code 271 = .ok (.iconst 0, 1) := by decide +kernel
theorem dL_law_272 : decode code 272 = .ok (.istore_n 2, 1) := by decide +kernel
theorem dL_law_273 : decode code 273 = .ok (.iinc 3 1, 3) := by decide +kernel
theorem dL_law_276 : decode code 276 = .ok (.goto (-142), 3) := by decide +kernel
theorem dL_law_279 : decode code 279 = .ok (.iload_n 2, 1) := by decide +kernel
theorem dL_law_280 : decode code 280 = .ok (.ifCond .eq 13, 3) := by decide +kernel
theorem dL_law_283 : decode code 283 = .ok (.aload_n 1, 1) := by decide +kernel
theorem dL_law_284 : decode code 284 = .ok (.iconst 1, 1) := by decide +kernel
theorem dL_law_285 : decode code 285 = .ok (.iconst 2, 1) := by decide +kernel
theorem dL_law_286 : decode code 286 = .ok (.iconst 1, 1) := by decide +kernel
theorem dL_law_287 : decode code 287 = .ok (.invokevirtual 55, 3) := by decide +kernel
theorem dL_law_290 : decode code 290 = .ok (.goto 4, 3) := by decide +kernel
theorem dL_law_293 : decode code 293 = .ok (.iconst 0, 1) := by decide +kernel
theorem dL_law_294 : decode code 294 = .ok (.istore_n 3, 1) := by decide +kernel
theorem dL_law_295 : decode code 295 = .ok (.iload_n 2, 1) := by decide +kernel
theorem dL_law_296 : decode code 296 = .ok (.ifCond .eq 13, 3) := by decide +kernel
theorem dL_law_299 : decode code 299 = .ok (.aload_n 1, 1) := by decide +kernel
theorem dL_law_300 : decode code 300 = .ok (.iconst 1, 1) := by decide +kernel
theorem dL_law_301 : decode code 301 = .ok (.iconst 2, 1) := by decide +kernel
theorem dL_law_302 : decode code 302 = .ok (.iconst 0, 1) := by decide +kernel
theorem dL_law_303 : decode code 303 = .ok (.invokevirtual 55, 3) := by decide +kernel
theorem dL_law_306 : decode code 306 = .ok (.goto 4, 3) := by decide +kernel
theorem dL_law_309 : decode code 309 = .ok (.iconst 0, 1) := by decide +kernel
theorem dL_law_310 : decode code 310 = .ok (.istore 4, 2) := by decide +kernel
theorem dL_law_312 : decode code 312 = .ok (.iload_n 3, 1) := by decide +kernel
theorem dL_law_313 : decode code 313 = .ok (.iload 4, 2) := by decide +kernel
theorem dL_law_315 : decode code 315 = .ok (.if_icmp .ge 7, 3) := by decide +kernel
theorem dL_law_318 : decode code 318 = .ok (.iload_n 3, 1) := by decide +kernel
theorem dL_law_319 : decode code 319 = .ok (.goto 5, 3) := by decide +kernel
theorem dL_law_322 : decode code 322 = .ok (.iload 4, 2) := by decide +kernel
theorem dL_law_324 : decode code 324 = .ok (.istore 5, 2) := by decide +kernel
theorem dL_law_326 : decode code 326 = .ok (.iload 5, 2) := by decide +kernel
theorem dL_law_328 : decode code 328 = .ok (.sipush 200, 3) := by decide +kernel
theorem dL_law_331 : decode code 331 = .ok (.if_icmp .le 9, 3) := by decide +kernel
theorem dL_law_334 : decode code 334 = .ok (.sipush 200, 3) := by decide +kernel
theorem dL_law_337 : decode code 337 = .ok (.goto 5, 3) := by decide +kernel
theorem dL_law_340 : decode code 340 = .ok (.iload 5, 2) := by decide +kernel
theorem dL_law_342 : decode code 342 = .ok (.istore 5, 2) := by decide +kernel
theorem dL_law_344 : decode code 344 = .ok (.iload_n 2, 1) := by decide +kernel
theorem dL_law_345 : decode code 345 = .ok (.ifCond .eq 60, 3) := by decide +kernel
theorem dL_law_348 : decode code 348 = .ok (.aload_n 1, 1) := by decide +kernel
theorem dL_law_349 : decode code 349 = .ok (.iconst 1, 1) := by decide +kernel
theorem dL_law_350 : decode code 350 = .ok (.iconst 2, 1) := by decide +kernel
theorem dL_law_351 : decode code 351 = .ok (.sipush 200, 3) := by decide +kernel
theorem dL_law_354 : decode code 354 = .ok (.invokevirtual 19, 3) := by decide +kernel
theorem dL_law_357 : decode code 357 = .ok (.iload 5, 2) := by decide +kernel
theorem dL_law_359 : decode code 359 = .ok (.ifCond .ne 8, 3) := by decide +kernel
theorem dL_law_362 : decode code 362 = .ok (.ldc 62, 2) := by decide +kernel
theorem dL_law_364 : decode code 364 = .ok (.goto 5, 3) := by decide +kernel
theorem dL_law_367 : decode code 367 = .ok (.iload 5, 2) := by decide +kernel
theorem dL_law_369 : decode code 369 = .ok (.if_icmp .ne 36, 3) := by decide +kernel
theorem dL_law_372 : decode code 372 = .ok (.aload_n 1, 1) := by decide +kernel
theorem dL_law_373 : decode code 373 = .ok (.iconst 1, 1) := by decide +kernel
theorem dL_law_374 : decode code 374 = .ok (.iconst 2, 1) := by decide +kernel
theorem dL_law_375 : decode code 375 = .ok (.iconst 1, 1) := by decide +kernel
theorem dL_law_376 : decode code 376 = .ok (.invokevirtual 55, 3) := by decide +kernel
theorem dL_law_379 : decode code 379 = .ok (.iload_n 3, 1) := by decide +kernel
theorem dL_law_380 : decode code 380 = .ok (.iload 5, 2) := by decide +kernel
theorem dL_law_382 : decode code 382 = .ok (.isub, 1) := by decide +kernel
theorem dL_law_383 : decode code 383 = .ok (.if_icmp .ne 22, 3) := by decide +kernel
theorem dL_law_386 : decode code 386 = .ok (.aload_n 1, 1) := by decide +kernel
theorem dL_law_387 : decode code 387 = .ok (.iconst 1, 1) := by decide +kernel
theorem dL_law_388 : decode code 388 = .ok (.iconst 2, 1) := by decide +kernel
theorem dL_law_389 : decode code 389 = .ok (.iconst 0, 1) := by decide +kernel
theorem dL_law_390 : decode code 390 = .ok (.invokevirtual 55, 3) := by decide +kernel
theorem dL_law_393 : decode code 393 = .ok (.iload 4, 2) := by decide +kernel
theorem dL_law_395 : decode code 395 = .ok (.iload 5, 2) := by decide +kernel
theorem dL_law_397 : decode code 397 = .ok (.isub, 1) := by decide +kernel
theorem dL_law_398 : decode code 398 = .ok (.if_icmp .ne 7, 3) := by decide +kernel
theorem dL_law_401 : decode code 401 = .ok (.iconst 1, 1) := by decide +kernel
theorem dL_law_402 : decode code 402 = .ok (.goto 4, 3) := by decide +kernel
theorem dL_law_405 : decode code 405 = .ok (.iconst 0, 1) := by decide +kernel
theorem dL_law_406 : decode code 406 = .ok (.istore_n 2, 1) := by decide +kernel
theorem dL_law_407 : decode code 407 = .ok (.iload_n 2, 1) := by decide +kernel
theorem dL_law_408 : decode code 408 = .ok (.ifCond .eq 11, 3) := by decide +kernel
theorem dL_law_411 : decode code 411 = .ok (.aload_n 1, 1) := by decide +kernel
theorem dL_law_412 : decode code 412 = .ok (.iconst 3, 1) := by decide +kernel
theorem dL_law_413 : decode code 413 = .ok (.invokevirtual 58, 3) := by decide +kernel
theorem dL_law_416 : decode code 416 = .ok (.goto 4, 3) := by decide +kernel
theorem dL_law_419 : decode code 419 = .ok (.iconst 0, 1) := by decide +kernel
theorem dL_law_420 : decode code 420 = .ok (.istore 6, 2) := by decide +kernel
theorem dL_law_422 : decode code 422 = .ok (.iconst 0, 1) := by decide +kernel
theorem dL_law_423 : decode code 423 = .ok (.istore 7, 2) := by decide +kernel
theorem dL_law_425 : decode code 425 = .ok (.iconst 0, 1) := by decide +kernel
theorem dL_law_426 : decode code 426 = .ok (.istore 8, 2) := by decide +kernel
theorem dL_law_428 : decode code 428 = .ok (.iload 8, 2) := by decide +kernel
theorem dL_law_430 : decode code 430 = .ok (.bipush 8, 2) := by decide +kernel
theorem dL_law_432 : decode code 432 = .ok (.if_icmp .ge 38, 3) := by decide +kernel
theorem dL_law_435 : decode code 435 = .ok (.iload_n 2, 1) := by decide +kernel
theorem dL_law_436 : decode code 436 = .ok (.ifCond .eq 34, 3) := by decide +kernel
theorem dL_law_439 : decode code 439 = .ok (.iload 7, 2) := by decide +kernel
theorem dL_law_441 : decode code 441 = .ok (.aload_n 1, 1) := by decide +kernel
theorem dL_law_442 : decode code 442 = .ok (.iload 8, 2) := by decide +kernel
theorem dL_law_444 : decode code 444 = .ok (.iconst 3, 1) := by decide +kernel
theorem dL_law_445 : decode code 445 = .ok (.if_icmp .le 7, 3) := by decide +kernel
theorem dL_law_448 : decode code 448 = .ok (.iconst 1, 1) := by decide +kernel
theorem dL_law_449 : decode code 449 = .ok (.goto 4, 3) := by decide +kernel
theorem dL_law_452 : decode code 452 = .ok (.iconst 0, 1) := by decide +kernel
theorem dL_law_453 : decode code 453 = .ok (.iload 8, 2) := by decide +kernel
theorem dL_law_455 : decode code 455 = .ok (.iconst 4, 1) := by decide +kernel
theorem dL_law_456 : decode code 456 = .ok (.irem, 1) := by decide +kernel
theorem dL_law_457 : decode code 457 = .ok (.iconst 0, 1) := by decide +kernel
theorem dL_law_458 : decode code 458 = .ok (.invokevirtual 55, 3) := by decide +kernel
theorem dL_law_461 : decode code 461 = .ok (.iadd, 1) := by decide +kernel
theorem dL_law_462 : decode code 462 = .ok (.istore 7, 2) := by decide +kernel
theorem dL_law_464 : decode code 464 = .ok (.iinc 8 1, 3) := by decide +kernel
theorem dL_law_467 : decode code 467 = .ok (.goto (-39), 3) := by decide +kernel
theorem dL_law_470 : decode code 470 = .ok (.iload_n 2, 1) := by decide +kernel
theorem dL_law_471 : decode code 471 = .ok (.ifCond .eq 81, 3) := by decide +kernel
theorem dL_law_474 : decode code 474 = .ok (.aload_n 1, 1) := by decide +kernel
theorem dL_law_475 : decode code 475 = .ok (.invokevirtual 26, 3) := by decide +kernel
theorem dL_law_478 : decode code 478 = .ok (.iload 7, 2) := by decide +kernel
theorem dL_law_480 : decode code 480 = .ok (.if_icmp .ne 72, 3) := by decide +kernel
theorem dL_law_483 : decode code 483 = .ok (.aload_n 1, 1) := by decide +kernel
theorem dL_law_484 : decode code 484 = .ok (.iconst 0, 1) := by decide +kernel
theorem dL_law_485 : decode code 485 = .ok (.iconst 1, 1) := by decide +kernel
theorem dL_law_486 : decode code 486 = .ok (.iconst 0, 1) := by decide +kernel
theorem dL_law_487 : decode code 487 = .ok (.invokevirtual 55, 3) := by decide +kernel
theorem dL_law_490 : decode code 490 = .ok (.aload_n 1, 1) := by decide +kernel
theorem dL_law_491 : decode code 491 = .ok (.iconst 1, 1) := by decide +kernel
theorem dL_law_492 : decode code 492 = .ok (.invokevirtual 58, 3) := by decide +kernel
theorem dL_law_495 : decode code 495 = .ok (.if_icmp .ne 57, 3) := by decide +kernel
theorem dL_law_498 : decode code 498 = .ok (.aload_n 1, 1) := by decide +kernel
theorem dL_law_499 : decode code 499 = .ok (.invokevirtual 37, 3) := by decide +kernel
theorem dL_law_502 : decode code 502 = .ok (.ifCond .lt 50, 3) := by decide +kernel
theorem dL_law_505 : decode code 505 = .ok (.aload_n 1, 1) := by decide +kernel
theorem dL_law_506 : decode code 506 = .ok (.iconst 3, 1) := by decide +kernel
theorem dL_law_507 : decode code 507 = .ok (.invokevirtual 58, 3) := by decide +kernel
theorem dL_law_510 : decode code 510 = .ok (.iload 6, 2) := by decide +kernel
theorem dL_law_512 : decode code 512 = .ok (.iconst 1, 1) := by decide +kernel
theorem dL_law_513 : decode code 513 = .ok (.iadd, 1) := by decide +kernel
theorem dL_law_514 : decode code 514 = .ok (.if_icmp .ne 38, 3) := by decide +kernel
theorem dL_law_517 : decode code 517 = .ok (.aload_n 1, 1) := by decide +kernel
theorem dL_law_518 : decode code 518 = .ok (.invokevirtual 73, 3) := by decide +kernel
theorem dL_law_521 : decode code 521 = .ok (.ifCond .lt 31, 3) := by decide +kernel
theorem dL_law_524 : decode code 524 = .ok (.aload_n 1, 1) := by decide +kernel
theorem dL_law_525 : decode code 525 = .ok (.iconst 3, 1) := by decide +kernel
theorem dL_law_526 : decode code 526 = .ok (.invokevirtual 58, 3) := by decide +kernel
theorem dL_law_529 : decode code 529 = .ok (.iload 6, 2) := by decide +kernel
theorem dL_law_531 : decode code 531 = .ok (.if_icmp .ne 21, 3) := by decide +kernel
theorem dL_law_534 : decode code 534 = .ok (.aload_n 1, 1) := by decide +kernel
theorem dL_law_535 : decode code 535 = .ok (.invokevirtual 73, 3) := by decide +kernel
theorem dL_law_538 : decode code 538 = .ok (.ifCond .lt 14, 3) := by decide +kernel
theorem dL_law_541 : decode code 541 = .ok (.aload_n 1, 1) := by decide +kernel
theorem dL_law_542 : decode code 542 = .ok (.invokestatic 92, 3) := by decide +kernel
theorem dL_law_545 : decode code 545 = .ok (.ifCond .eq 7, 3) := by decide +kernel
theorem dL_law_548 : decode code 548 = .ok (.iconst 1, 1) := by decide +kernel
theorem dL_law_549 : decode code 549 = .ok (.goto 4, 3) := by decide +kernel
theorem dL_law_552 : decode code 552 = .ok (.iconst 0, 1) := by decide +kernel
theorem dL_law_553 : decode code 553 = .ok (.istore_n 2, 1) := by decide +kernel
theorem dL_law_554 : decode code 554 = .ok (.iload_n 2, 1) := by decide +kernel
theorem dL_law_555 : decode code 555 = .ok (.ifCond .eq 243, 3) := by decide +kernel
theorem dL_law_558 : decode code 558 = .ok (.aload_n 1, 1) := by decide +kernel
theorem dL_law_559 : decode code 559 = .ok (.bipush 6, 2) := by decide +kernel
theorem dL_law_561 : decode code 561 = .ok (.iconst 0, 1) := by decide +kernel
theorem dL_law_562 : decode code 562 = .ok (.bipush 10, 2) := by decide +kernel
theorem dL_law_564 : decode code 564 = .ok (.invokevirtual 9, 3) := by decide +kernel
theorem dL_law_567 : decode code 567 = .ok (.ldc 96, 2) := by decide +kernel
theorem dL_law_569 : decode code 569 = .ok (.if_icmp .ne 229, 3) := by decide +kernel
theorem dL_law_572 : decode code 572 = .ok (.aload_n 1, 1) := by decide +kernel
theorem dL_law_573 : decode code 573 = .ok (.iconst 0, 1) := by decide +kernel
theorem dL_law_574 : decode code 574 = .ok (.iconst 0, 1) := by decide +kernel
theorem dL_law_575 : decode code 575 = .ok (.bipush 10, 2) := by decide +kernel
theorem dL_law_577 : decode code 577 = .ok (.invokevirtual 9, 3) := by decide +kernel
theorem dL_law_580 : decode code 580 = .ok (.ldc 97, 2) := by decide +kernel
theorem dL_law_582 : decode code 582 = .ok (.if_icmp .ne 216, 3) := by decide +kernel
theorem dL_law_585 : decode code 585 = .ok (.aload_n 1, 1) := by decide +kernel
theorem dL_law_586 : decode code 586 = .ok (.iconst 2, 1) := by decide +kernel
theorem dL_law_587 : decode code 587 = .ok (.iconst 0, 1) := by decide +kernel
theorem dL_law_588 : decode code 588 = .ok (.invokevirtual 40, 3) := by decide +kernel
theorem dL_law_591 : decode code 591 = .ok (.ldc 97, 2) := by decide +kernel
theorem dL_law_593 : decode code 593 = .ok (.if_icmp .ne 205, 3) := by decide +kernel
theorem dL_law_596 : decode code 596 = .ok (.aload_n 1, 1) := by decide +kernel
theorem dL_law_597 : decode code 597 = .ok (.iconst 1, 1) := by decide +kernel
theorem dL_law_598 : decode code 598 = .ok (.iconst 0, 1) := by decide +kernel
theorem dL_law_599 : decode code 599 = .ok (.invokevirtual 40, 3) := by decide +kernel
theorem dL_law_602 : decode code 602 = .ok (.ldc 97, 2) := by decide +kernel
theorem dL_law_604 : decode code 604 = .ok (.if_icmp .ne 194, 3) := by decide +kernel
theorem dL_law_607 : decode code 607 = .ok (.aload_n 1, 1) := by decide +kernel
theorem dL_law_608 : decode code 608 = .ok (.iconst 0, 1) := by decide +kernel
theorem dL_law_609 : decode code 609 = .ok (.iconst 4, 1) := by decide +kernel
theorem dL_law_610 : decode code 610 = .ok (.iconst 0, 1) := by decide +kernel
theorem dL_law_611 : decode code 611 = .ok (.iconst 0, 1) := by decide +kernel
theorem dL_law_612 : decode code 612 = .ok (.iconst 0, 1) := by decide +kernel
theorem dL_law_613 : decode code 613 = .ok (.invokevirtual 15, 3) := by decide +kernel
theorem dL_law_616 : decode code 616 = .ok (.ldc 96, 2) := by decide +kernel
theorem dL_law_618 : decode code 618 = .ok (.if_icmp .ne 180, 3) := by decide +kernel
theorem dL_law_621 : decode code 621 = .ok (.aload_n 1, 1) := by decide +kernel
theorem dL_law_622 : decode code 622 = .ok (.iconst 1, 1) := by decide +kernel
theorem dL_law_623 : decode code 623 = .ok (.iconst 0, 1) := by decide +kernel
theorem dL_law_624 : decode code 624 = .ok (.iconst 0, 1) := by decide +kernel
theorem dL_law_625 : decode code 625 = .ok (.iconst 3, 1) := by decide +kernel
theorem dL_law_626 : decode code 626 = .ok (.bipush 10, 2) := by decide +kernel
theorem dL_law_628 : decode code 628 = .ok (.invokevirtual 15, 3) := by decide +kernel
theorem dL_law_631 : decode code 631 = .ok (.ldc 96, 2) := by decide +kernel
theorem dL_law_633 : decode code 633 = .ok (.if_icmp .ne 165, 3) := by decide +kernel
theorem dL_law_636 : decode code 636 = .ok (.aload_n 1, 1) := by decide +kernel
theorem dL_law_637 : decode code 637 = .ok (.iconst 1, 1) := by decide +kernel
theorem dL_law_638 : decode code 638 = .ok (.iconst 0, 1) := by decide +kernel
theorem dL_law_639 : decode code 639 = .ok (.iconst 0, 1) := by decide +kernel
theorem dL_law_640 : decode code 640 = .ok (.iconst 0, 1) := by decide +kernel
theorem dL_law_641 : decode code 641 = .ok (.bipush 10, 2) := by decide +kernel
theorem dL_law_643 : decode code 643 = .ok (.invokevirtual 15, 3) := by decide +kernel
theorem dL_law_646 : decode code 646 = .ok (.ldc 97, 2) := by decide +kernel
theorem dL_law_648 : decode code 648 = .ok (.if_icmp .ne 150, 3) := by decide +kernel
theorem dL_law_651 : decode code 651 = .ok (.aload_n 1, 1) := by decide +kernel
theorem dL_law_652 : decode code 652 = .ok (.iconst 1, 1) := by decide +kernel
theorem dL_law_653 : decode code 653 = .ok (.iconst 0, 1) := by decide +kernel
theorem dL_law_654 : decode code 654 = .ok (.sipush 201, 3) := by decide +kernel
theorem dL_law_657 : decode code 657 = .ok (.invokevirtual 19, 3) := by decide +kernel
theorem dL_law_660 : decode code 660 = .ok (.ldc 97, 2) := by decide +kernel
theorem dL_law_662 : decode code 662 = .ok (.if_icmp .ne 136, 3) := by decide +kernel
theorem dL_law_665 : decode code 665 = .ok (.aload_n 1, 1) := by decide +kernel
theorem dL_law_666 : decode code 666 = .ok (.iconst 1, 1) := by decide +kernel
theorem dL_law_667 : decode code 667 = .ok (.iconst 0, 1) := by decide +kernel
theorem dL_law_668 : decode code 668 = .ok (.iconst 4, 1) := by decide +kernel
theorem dL_law_669 : decode code 669 = .ok (.invokevirtual 23, 3) := by decide +kernel
theorem dL_law_672 : decode code 672 = .ok (.ldc 96, 2) := by decide +kernel
theorem dL_law_674 : decode code 674 = .ok (.if_icmp .ne 124, 3) := by decide +kernel
theorem dL_law_677 : decode code 677 = .ok (.aload_n 1, 1) := by decide +kernel
theorem dL_law_678 : decode code 678 = .ok (.iconst 1, 1) := by decide +kernel
theorem dL_law_679 : decode code 679 = .ok (.iconst 1, 1) := by decide +kernel
theorem dL_law_680 : decode code 680 = .ok (.iconst 1, 1) := by decide +kernel
theorem dL_law_681 : decode code 681 = .ok (.invokevirtual 23, 3) := by decide +kernel
theorem dL_law_684 : decode code 684 = .ok (.ldc 62, 2) := by decide +kernel
theorem dL_law_686 : decode code 686 = .ok (.if_icmp .ne 112, 3) := by decide +kernel
theorem dL_law_689 : decode code 689 = .ok (.aload_n 1, 1) := by decide +kernel
theorem dL_law_690 : decode code 690 = .ok (.iconst 4, 1) := by decide +kernel
theorem dL_law_691 : decode code 691 = .ok (.iconst 0, 1) := by decide +kernel
theorem dL_law_692 : decode code 692 = .ok (.invokevirtual 30, 3) := by decide +kernel
theorem dL_law_695 : decode code 695 = .ok (.ldc 96, 2) := by decide +kernel
theorem dL_law_697 : decode code 697 = .ok (.if_icmp .ne 101, 3) := by decide +kernel
theorem dL_law_700 : decode code 700 = .ok (.aload_n 1, 1) := by decide +kernel
theorem dL_law_701 : decode code 701 = .ok (.iconst 1, 1) := by decide +kernel
theorem dL_law_702 : decode code 702 = .ok (.iconst 0, 1) := by decide +kernel
theorem dL_law_703 : decode code 703 = .ok (.bipush 8, 2) := by decide +kernel
theorem dL_law_705 : decode code 705 = .ok (.invokevirtual 55, 3) := by decide +kernel
theorem dL_law_708 : decode code 708 = .ok (.ldc 97, 2) := by decide +kernel
theorem dL_law_710 : decode code 710 = .ok (.if_icmp .ne 88, 3) := by decide +kernel
theorem dL_law_713 : decode code 713 = .ok (.aload_n 1, 1) := by decide +kernel
theorem dL_law_714 : decode code 714 = .ok (.iconst 0, 1) := by decide +kernel
theorem dL_law_715 : decode code 715 = .ok (.iconst 4, 1) := by decide +kernel
theorem dL_law_716 : decode code 716 = .ok (.iconst 0, 1) := by decide +kernel
theorem dL_law_717 : decode code 717 = .ok (.invokevirtual 63, 3) := by decide +kernel
theorem dL_law_720 : decode code 720 = .ok (.ldc 96, 2) := by decide +kernel
theorem dL_law_722 : decode code 722 = .ok (.if_icmp .ne 76, 3) := by decide +kernel
theorem dL_law_725 : decode code 725 = .ok (.aload_n 1, 1) := by decide +kernel
theorem dL_law_726 : decode code 726 = .ok (.iconst 0, 1) := by decide +kernel
theorem dL_law_727 : decode code 727 = .ok (.iconst 0, 1) := by decide +kernel
theorem dL_law_728 : decode code 728 = .ok (.iconst 4, 1) := by decide +kernel
theorem dL_law_729 : decode code 729 = .ok (.invokevirtual 63, 3) := by decide +kernel
theorem dL_law_732 : decode code 732 = .ok (.ldc 97, 2) := by decide +kernel
theorem dL_law_734 : decode code 734 = .ok (.if_icmp .ne 64, 3) := by decide +kernel
theorem dL_law_737 : decode code 737 = .ok (.aload_n 1, 1) := by decide +kernel
theorem dL_law_738 : decode code 738 = .ok (.iconst 4, 1) := by decide +kernel
theorem dL_law_739 : decode code 739 = .ok (.invokevirtual 66, 3) := by decide +kernel
theorem dL_law_742 : decode code 742 = .ok (.ldc 96, 2) := by decide +kernel
theorem dL_law_744 : decode code 744 = .ok (.if_icmp .ne 54, 3) := by decide +kernel
theorem dL_law_747 : decode code 747 = .ok (.aload_n 1, 1) := by decide +kernel
theorem dL_law_748 : decode code 748 = .ok (.iconst 4, 1) := by decide +kernel
theorem dL_law_749 : decode code 749 = .ok (.iconst 0, 1) := by decide +kernel
theorem dL_law_750 : decode code 750 = .ok (.invokevirtual 69, 3) := by decide +kernel
theorem dL_law_753 : decode code 753 = .ok (.ldc 97, 2) := by decide +kernel
theorem dL_law_755 : decode code 755 = .ok (.if_icmp .ne 43, 3) := by decide +kernel
theorem dL_law_758 : decode code 758 = .ok (.aload_n 1, 1) := by decide +kernel
theorem dL_law_759 : decode code 759 = .ok (.bipush 11, 2) := by decide +kernel
theorem dL_law_761 : decode code 761 = .ok (.invokevirtual 58, 3) := by decide +kernel
theorem dL_law_764 : decode code 764 = .ok (.ldc 97, 2) := by decide +kernel
theorem dL_law_766 : decode code 766 = .ok (.if_icmp .ne 32, 3) := by decide +kernel
theorem dL_law_769 : decode code 769 = .ok (.aload_n 1, 1) := by decide +kernel
theorem dL_law_770 : decode code 770 = .ok (.iconst 1, 1) := by decide +kernel
theorem dL_law_771 : decode code 771 = .ok (.iconst (-1), 1) := by decide +kernel
theorem dL_law_772 : decode code 772 = .ok (.iconst 0, 1) := by decide +kernel
theorem dL_law_773 : decode code 773 = .ok (.iconst 0, 1) := by decide +kernel
theorem dL_law_774 : decode code 774 = .ok (.invokevirtual 43, 3) := by decide +kernel
theorem dL_law_777 : decode code 777 = .ok (.ldc 96, 2) := by decide +kernel
theorem dL_law_779 : decode code 779 = .ok (.if_icmp .ne 19, 3) := by decide +kernel
theorem dL_law_782 : decode code 782 = .ok (.aload_n 1, 1) := by decide +kernel
theorem dL_law_783 : decode code 783 = .ok (.iconst 0, 1) := by decide +kernel
theorem dL_law_784 : decode code 784 = .ok (.bipush 6, 2) := by decide +kernel
theorem dL_law_786 : decode code 786 = .ok (.invokevirtual 47, 3) := by decide +kernel
theorem dL_law_789 : decode code 789 = .ok (.ldc 96, 2) := by decide +kernel
theorem dL_law_791 : decode code 791 = .ok (.if_icmp .ne 7, 3) := by decide +kernel
theorem dL_law_794 : decode code 794 = .ok (.iconst 1, 1) := by decide +kernel
theorem dL_law_795 : decode code 795 = .ok (.goto 4, 3) := by decide +kernel
theorem dL_law_798 : decode code 798 = .ok (.iconst 0, 1) := by decide +kernel
theorem dL_law_799 : decode code 799 = .ok (.ireturn, 1) := by decide +kernel
