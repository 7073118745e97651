/-! DECODE ROWS -/
theorem dL_hangs_0 : decode cL_hangs 0 = .ok (.iconst 1, 1) := by decide +kernel
theorem dL_hangs_1 : decode cL_hangs 1 = .ok (.istore_n 1, 1) := by decide +kernel
theorem dL_hangs_2 : decode cL_hangs 2 = .ok (.iconst 0, 1) := by decide +kernel
theorem dL_hangs_3 : decode cL_hangs 3 = .ok (.istore_n 2, 1) := by decide +kernel
theorem dL_hangs_4 : decode cL_hangs 4 = .ok (.iconst 0, 1) := by decide +kernel
theorem dL_hangs_5 : decode cL_hangs 5 = .ok (.istore_n 3, 1) := by decide +kernel
theorem dL_hangs_6 : decode cL_hangs 6 = .ok (.iconst 0, 1) := by decide +kernel
theorem dL_hangs_7 : decode cL_hangs 7 = .ok (.istore 4, 2) := by decide +kernel
theorem dL_hangs_9 : decode cL_hangs 9 = .ok (.iconst 0, 1) := by decide +kernel
theorem dL_hangs_10 : decode cL_hangs 10 = .ok (.istore 5, 2) := by decide +kernel
theorem dL_hangs_12 : decode cL_hangs 12 = .ok (.iload 5, 2) := by decide +kernel
theorem dL_hangs_14 : decode cL_hangs 14 = .ok (.bipush 8, 2) := by decide +kernel
theorem dL_hangs_16 : decode cL_hangs 16 = .ok (.if_icmp .ge 320, 3) := by decide +kernel
theorem dL_hangs_19 : decode cL_hangs 19 = .ok (.iload_n 1, 1) := by decide +kernel
theorem dL_hangs_20 : decode cL_hangs 20 = .ok (.ifCond .eq 316, 3) := by decide +kernel
theorem dL_hangs_23 : decode cL_hangs 23 = .ok (.iload 5, 2) := by decide +kernel
theorem dL_hangs_25 : decode cL_hangs 25 = .ok (.iconst 3, 1) := by decide +kernel
theorem dL_hangs_26 : decode cL_hangs 26 = .ok (.if_icmp .le 7, 3) := by decide +kernel
theorem dL_hangs_29 : decode cL_hangs 29 = .ok (.iconst 1, 1) := by decide +kernel
theorem dL_hangs_30 : decode cL_hangs 30 = .ok (.goto 4, 3) := by decide +kernel
theorem dL_hangs_33 : decode cL_hangs 33 = .ok (.iconst 0, 1) := by decide +kernel
theorem dL_hangs_34 : decode cL_hangs 34 = .ok (.istore 6, 2) := by decide +kernel
theorem dL_hangs_36 : decode cL_hangs 36 = .ok (.iload 5, 2) := by decide +kernel
theorem dL_hangs_38 : decode cL_hangs 38 = .ok (.iconst 4, 1) := by decide +kernel
theorem dL_hangs_39 : decode cL_hangs 39 = .ok (.irem, 1) := by decide +kernel
theorem dL_hangs_40 : decode cL_hangs 40 = .ok (.istore 7, 2) := by decide +kernel
theorem dL_hangs_42 : decode cL_hangs 42 = .ok (.iconst 0, 1) := by decide +kernel
theorem dL_hangs_43 : decode cL_hangs 43 = .ok (.istore 8, 2) := by decide +kernel
theorem dL_hangs_45 : decode cL_hangs 45 = .ok (.iconst (-1), 1) := by decide +kernel
theorem dL_hangs_46 : decode cL_hangs 46 = .ok (.istore 9, 2) := by decide +kernel
theorem dL_hangs_48 : decode cL_hangs 48 = .ok (.iconst 0, 1) := by decide +kernel
theorem dL_hangs_49 : decode cL_hangs 49 = .ok (.istore 10, 2) := by decide +kernel
theorem dL_hangs_51 : decode cL_hangs 51 = .ok (.iconst 0, 1) := by decide +kernel
theorem dL_hangs_52 : decode cL_hangs 52 = .ok (.istore 11, 2) := by decide +kernel
theorem dL_hangs_54 : decode cL_hangs 54 = .ok (.iconst 0, 1) := by decide +kernel
theorem dL_hangs_55 : decode cL_hangs 55 = .ok (.istore 12, 2) := by decide +kernel
theorem dL_hangs_57 : decode cL_hangs 57 = .ok (.iload 12, 2) := by decide +kernel
theorem dL_hangs_59 : decode cL_hangs 59 = .ok (.bipush 18, 2) := by decide +kernel
theorem dL_hangs_61 : decode cL_hangs 61 = .ok (.if_icmp .ge 107, 3) := by decide +kernel
theorem dL_hangs_64 : decode cL_hangs 64 = .ok (.aload_n 0, 1) := by decide +kernel
theorem dL_hangs_65 : decode cL_hangs 65 = .ok (.iload 6, 2) := by decide +kernel
theorem dL_hangs_67 : decode cL_hangs 67 = .ok (.iload 7, 2) := by decide +kernel
theorem dL_hangs_69 : decode cL_hangs 69 = .ok (.iload 12, 2) := by decide +kernel
theorem dL_hangs_71 : decode cL_hangs 71 = .ok (.iconst 3, 1) := by decide +kernel
theorem dL_hangs_72 : decode cL_hangs 72 = .ok (.idiv, 1) := by decide +kernel
theorem dL_hangs_73 : decode cL_hangs 73 = .ok (.iload 12, 2) := by decide +kernel
theorem dL_hangs_75 : decode cL_hangs 75 = .ok (.iconst 3, 1) := by decide +kernel
theorem dL_hangs_76 : decode cL_hangs 76 = .ok (.irem, 1) := by decide +kernel
theorem dL_hangs_77 : decode cL_hangs 77 = .ok (.invokevirtual 43, 3) := by decide +kernel
theorem dL_hangs_80 : decode cL_hangs 80 = .ok (.aload_n 0, 1) := by decide +kernel
theorem dL_hangs_81 : decode cL_hangs 81 = .ok (.iload 12, 2) := by decide +kernel
theorem dL_hangs_83 : decode cL_hangs 83 = .ok (.iconst 3, 1) := by decide +kernel
theorem dL_hangs_84 : decode cL_hangs 84 = .ok (.idiv, 1) := by decide +kernel
theorem dL_hangs_85 : decode cL_hangs 85 = .ok (.iload 12, 2) := by decide +kernel
theorem dL_hangs_87 : decode cL_hangs 87 = .ok (.iconst 3, 1) := by decide +kernel
theorem dL_hangs_88 : decode cL_hangs 88 = .ok (.irem, 1) := by decide +kernel
theorem dL_hangs_89 : decode cL_hangs 89 = .ok (.iload 6, 2) := by decide +kernel
theorem dL_hangs_91 : decode cL_hangs 91 = .ok (.ifCond .eq 7, 3) := by decide +kernel
theorem dL_hangs_94 : decode cL_hangs 94 = .ok (.iconst 3, 1) := by decide +kernel
theorem dL_hangs_95 : decode cL_hangs 95 = .ok (.goto 4, 3) := by decide +kernel
theorem dL_hangs_98 : decode cL_hangs 98 = .ok (.iconst 0, 1) := by decide +kernel
theorem dL_hangs_99 : decode cL_hangs 99 = .ok (.iadd, 1) := by decide +kernel
theorem dL_hangs_100 : decode cL_hangs 100 = .ok (.invokevirtual 47, 3) := by decide +kernel
theorem dL_hangs_103 : decode cL_hangs 103 = .ok (.invokestatic 50, 3) := by decide +kernel
theorem dL_hangs_106 : decode cL_hangs 106 = .ok (.istore 13, 2) := by decide +kernel
theorem dL_hangs_108 : decode cL_hangs 108 = .ok (.iload 8, 2) := by decide +kernel
theorem dL_hangs_110 : decode cL_hangs 110 = .ok (.iload 13, 2) := by decide +kernel
theorem dL_hangs_112 : decode cL_hangs 112 = .ok (.iadd, 1) := by decide +kernel
theorem dL_hangs_113 : decode cL_hangs 113 = .ok (.istore 8, 2) := by decide +kernel
theorem dL_hangs_115 : decode cL_hangs 115 = .ok (.iload 11, 2) := by decide +kernel
theorem dL_hangs_117 : decode cL_hangs 117 = .ok (.iload 13, 2) := by decide +kernel
theorem dL_hangs_119 : decode cL_hangs 119 = .ok (.ifCond .ne 7, 3) := by decide +kernel
theorem dL_hangs_122 : decode cL_hangs 122 = .ok (.iconst 1, 1) := by decide +kernel
theorem dL_hangs_123 : decode cL_hangs 123 = .ok (.goto 4, 3) := by decide +kernel
theorem dL_hangs_126 : decode cL_hangs 126 = .ok (.iconst 0, 1) := by decide +kernel
theorem dL_hangs_127 : decode cL_hangs 127 = .ok (.iadd, 1) := by decide +kernel
theorem dL_hangs_128 : decode cL_hangs 128 = .ok (.istore 11, 2) := by decide +kernel
theorem dL_hangs_130 : decode cL_hangs 130 = .ok (.iload 13, 2) := by decide +kernel
theorem dL_hangs_132 : decode cL_hangs 132 = .ok (.iload 9, 2) := by decide +kernel
theorem dL_hangs_134 : decode cL_hangs 134 = .ok (.if_icmp .le 8, 3) := by decide +kernel
theorem dL_hangs_137 : decode cL_hangs 137 = .ok (.iload 12, 2) := by decide +kernel
theorem dL_hangs_139 : decode cL_hangs 139 = .ok (.goto 5, 3) := by decide +kernel
theorem dL_hangs_142 : decode cL_hangs 142 = .ok (.iload 10, 2) := by decide +kernel
theorem dL_hangs_144 : decode cL_hangs 144 = .ok (.istore 10, 2) := by decide +kernel
theorem dL_hangs_146 : decode cL_hangs 146 = .ok (.iload 13, 2) := by decide +kernel
theorem dL_hangs_148 : decode cL_hangs 148 = .ok (.iload 9, 2) := by decide +kernel
theorem dL_hangs_150 : decode cL_hangs 150 = .ok (.if_icmp .le 8, 3) := by decide +kernel
theorem dL_hangs_153 : decode cL_hangs 153 = .ok (.iload 13, 2) := by decide +kernel
theorem dL_hangs_155 : decode cL_hangs 155 = .ok (.goto 5, 3) := by decide +kernel
theorem dL_hangs_158 : decode cL_hangs 158 = .ok (.iload 9, 2) := by decide +kernel
theorem dL_hangs_160 : decode cL_hangs 160 = .ok (.istore 9, 2) := by decide +kernel
theorem dL_hangs_162 : decode cL_hangs 162 = .ok (.iinc 12 1, 3) := by decide +kernel
theorem dL_hangs_165 : decode cL_hangs 165 = .ok (.goto (-108), 3) := by decide +kernel
theorem dL_hangs_168 : decode cL_hangs 168 = .ok (.aload_n 0, 1) := by decide +kernel
theorem dL_hangs_169 : decode cL_hangs 169 = .ok (.iload 6, 2) := by decide +kernel
theorem dL_hangs_171 : decode cL_hangs 171 = .ok (.iload 7, 2) := by decide +kernel
theorem dL_hangs_173 : decode cL_hangs 173 = .ok (.iconst 2, 1) := by decide +kernel
theorem dL_hangs_174 : decode cL_hangs 174 = .ok (.invokevirtual 55, 3) := by decide +kernel
theorem dL_hangs_177 : decode cL_hangs 177 = .ok (.istore 12, 2) := by decide +kernel
theorem dL_hangs_179 : decode cL_hangs 179 = .ok (.aload_n 0, 1) := by decide +kernel
theorem dL_hangs_180 : decode cL_hangs 180 = .ok (.iload 6, 2) := by decide +kernel
theorem dL_hangs_182 : decode cL_hangs 182 = .ok (.iload 7, 2) := by decide +kernel
theorem dL_hangs_184 : decode cL_hangs 184 = .ok (.iconst 1, 1) := by decide +kernel
theorem dL_hangs_185 : decode cL_hangs 185 = .ok (.invokevirtual 55, 3) := by decide +kernel
theorem dL_hangs_188 : decode cL_hangs 188 = .ok (.iload 8, 2) := by decide +kernel
theorem dL_hangs_190 : decode cL_hangs 190 = .ok (.if_icmp .ne 103, 3) := by decide +kernel
theorem dL_hangs_193 : decode cL_hangs 193 = .ok (.aload_n 0, 1) := by decide +kernel
theorem dL_hangs_194 : decode cL_hangs 194 = .ok (.iload 6, 2) := by decide +kernel
theorem dL_hangs_196 : decode cL_hangs 196 = .ok (.iload 7, 2) := by decide +kernel
theorem dL_hangs_198 : decode cL_hangs 198 = .ok (.iconst 4, 1) := by decide +kernel
theorem dL_hangs_199 : decode cL_hangs 199 = .ok (.invokevirtual 55, 3) := by decide +kernel
theorem dL_hangs_202 : decode cL_hangs 202 = .ok (.iload 9, 2) := by decide +kernel
theorem dL_hangs_204 : decode cL_hangs 204 = .ok (.if_icmp .ne 89, 3) := by decide +kernel
theorem dL_hangs_207 : decode cL_hangs 207 = .ok (.aload_n 0, 1) := by decide +kernel
theorem dL_hangs_208 : decode cL_hangs 208 = .ok (.iload 6, 2) := by decide +kernel
theorem dL_hangs_210 : decode cL_hangs 210 = .ok (.iload 7, 2) := by decide +kernel
theorem dL_hangs_212 : decode cL_hangs 212 = .ok (.iconst 5, 1) := by decide +kernel
theorem dL_hangs_213 : decode cL_hangs 213 = .ok (.invokevirtual 55, 3) := by decide +kernel
theorem dL_hangs_216 : decode cL_hangs 216 = .ok (.iload 10, 2) := by decide +kernel
theorem dL_hangs_218 : decode cL_hangs 218 = .ok (.iconst 3, 1) := by decide +kernel
theorem dL_hangs_219 : decode cL_hangs 219 = .ok (.idiv, 1) := by decide +kernel
theorem dL_hangs_220 : decode cL_hangs 220 = .ok (.if_icmp .ne 73, 3) := by decide +kernel
theorem dL_hangs_223 : decode cL_hangs 223 = .ok (.aload_n 0, 1) := by decide +kernel
theorem dL_hangs_224 : decode cL_hangs 224 = .ok (.iload 6, 2) := by decide +kernel
theorem dL_hangs_226 : decode cL_hangs 226 = .ok (.iload 7, 2) := by decide +kernel
theorem dL_hangs_228 : decode cL_hangs 228 = .ok (.bipush 6, 2) := by decide +kernel
theorem dL_hangs_230 : decode cL_hangs 230 = .ok (.invokevirtual 55, 3) := by decide +kernel
theorem dL_hangs_233 : decode cL_hangs 233 = .ok (.iload 10, 2) := by decide +kernel
theorem dL_hangs_235 : decode cL_hangs 235 = .ok (.iconst 3, 1) := by decide +kernel
theorem dL_hangs_236 : decode cL_hangs 236 = .ok (.irem, 1) := by decide +kernel
theorem dL_hangs_237 : decode cL_hangs 237 = .ok (.if_icmp .ne 56, 3) := by decide +kernel
theorem dL_hangs_240 : decode cL_hangs 240 = .ok (.aload_n 0, 1) := by decide +kernel
theorem dL_hangs_241 : decode cL_hangs 241 = .ok (.iload 6, 2) := by decide +kernel
theorem dL_hangs_243 : decode cL_hangs 243 = .ok (.iload 7, 2) := by decide +kernel
theorem dL_hangs_245 : decode cL_hangs 245 = .ok (.bipush 7, 2) := by decide +kernel
theorem dL_hangs_247 : decode cL_hangs 247 = .ok (.invokevirtual 55, 3) := by decide +kernel
theorem dL_hangs_250 : decode cL_hangs 250 = .ok (.iload 11, 2) := by decide +kernel
theorem dL_hangs_252 : decode cL_hangs 252 = .ok (.if_icmp .ne 41, 3) := by decide +kernel
theorem dL_hangs_255 : decode cL_hangs 255 = .ok (.aload_n 0, 1) := by decide +kernel
theorem dL_hangs_256 : decode cL_hangs 256 = .ok (.iload 6, 2) := by decide +kernel
theorem dL_hangs_258 : decode cL_hangs 258 = .ok (.ifCond .ne 7, 3) := by decide +kernel
theorem dL_hangs_261 : decode cL_hangs 261 = .ok (.iconst 1, 1) := by decide +kernel
theorem dL_hangs_262 : decode cL_hangs 262 = .ok (.goto 4, 3) := by decide +kernel
theorem dL_hangs_265 : decode cL_hangs 265 = .ok (.iconst 0, 1) := by decide +kernel
theorem dL_hangs_266 : decode cL_hangs 266 = .ok (.iload 12, 2) := by decide +kernel
theorem dL_hangs_268 : decode cL_hangs 268 = .ok (.iconst 2, 1) := by decide +kernel
theorem dL_hangs_269 : decode cL_hangs 269 = .ok (.invokevirtual 55, 3) := by decide +kernel
theorem dL_hangs_272 : decode cL_hangs 272 = .ok (.iload 7, 2) := by decide +kernel
theorem dL_hangs_274 : decode cL_hangs 274 = .ok (.if_icmp .ne 19, 3) := by decide +kernel
theorem dL_hangs_277 : decode cL_hangs 277 = .ok (.aload_n 0, 1) := by decide +kernel
theorem dL_hangs_278 : decode cL_hangs 278 = .ok (.iload 6, 2) := by decide +kernel
theorem dL_hangs_280 : decode cL_hangs 280 = .ok (.iload 7, 2) := by decide +kernel
theorem dL_hangs_282 : decode cL_hangs 282 = .ok (.iconst 0, 1) := by decide +kernel
theorem dL_hangs_283 : decode cL_hangs 283 = .ok (.invokevirtual 55, 3) := by decide +kernel
theorem dL_hangs_286 : decode cL_hangs 286 = .ok (.ifCond .lt 7, 3) := by decide +kernel
theorem dL_hangs_289 : decode cL_hangs 289 = .ok (.iconst 1, 1) := by decide +kernel
theorem dL_hangs_290 : decode cL_hangs 290 = .ok (.goto 4, 3) := by decide +kernel
theorem dL_hangs_293 : decode cL_hangs 293 = .ok (.iconst 0, 1) := by decide +kernel
theorem dL_hangs_294 : decode cL_hangs 294 = .ok (.istore_n 1, 1) := by decide +kernel
theorem dL_hangs_295 : decode cL_hangs 295 = .ok (.iload_n 2, 1) := by decide +kernel
theorem dL_hangs_296 : decode cL_hangs 296 = .ok (.iload 8, 2) := by decide +kernel
theorem dL_hangs_298 : decode cL_hangs 298 = .ok (.iadd, 1) := by decide +kernel
theorem dL_hangs_299 : decode cL_hangs 299 = .ok (.istore_n 2, 1) := by decide +kernel
theorem dL_hangs_300 : decode cL_hangs 300 = .ok (.iload_n 3, 1) := by decide +kernel
theorem dL_hangs_301 : decode cL_hangs 301 = .ok (.aload_n 0, 1) := by decide +kernel
theorem dL_hangs_302 : decode cL_hangs 302 = .ok (.iload 6, 2) := by decide +kernel
theorem dL_hangs_304 : decode cL_hangs 304 = .ok (.iload 7, 2) := by decide +kernel
theorem dL_hangs_306 : decode cL_hangs 306 = .ok (.iconst 3, 1) := by decide +kernel
theorem dL_hangs_307 : decode cL_hangs 307 = .ok (.invokevirtual 55, 3) := by decide +kernel
theorem dL_hangs_310 : decode cL_hangs 310 = .ok (.iadd, 1) := by decide +kernel
theorem dL_hangs_311 : decode cL_hangs 311 = .ok (.istore_n 3, 1) := by decide +kernel
theorem dL_hangs_312 : decode cL_hangs 312 = .ok (.iload 4, 2) := by decide +kernel
theorem dL_hangs_314 : decode cL_hangs 314 = .ok (.iload 6, 2) := by decide +kernel
theorem dL_hangs_316 : decode cL_hangs 316 = .ok (.ifCond .eq 7, 3) := by decide +kernel
theorem dL_hangs_319 : decode cL_hangs 319 = .ok (.iconst 0, 1) := by decide +kernel
theorem dL_hangs_320 : decode cL_hangs 320 = .ok (.goto 7, 3) := by decide +kernel
theorem dL_hangs_323 : decode cL_hangs 323 = .ok (.iconst 1, 1) := by decide +kernel
theorem dL_hangs_324 : decode cL_hangs 324 = .ok (.iload 12, 2) := by decide +kernel
theorem dL_hangs_326 : decode cL_hangs 326 = .ok (.ishl, 1) := by decide +kernel
theorem dL_hangs_327 : decode cL_hangs 327 = .ok (.iadd, 1) := by decide +kernel
theorem dL_hangs_328 : decode cL_hangs 328 = .ok (.istore 4, 2) := by decide +kernel
theorem dL_hangs_330 : decode cL_hangs 330 = .ok (.iinc 5 1, 3) := by decide +kernel
theorem dL_hangs_333 : decode cL_hangs 333 = .ok (.goto (-321), 3) := by decide +kernel
theorem dL_hangs_336 : decode cL_hangs 336 = .ok (.iload_n 1, 1) := by decide +kernel
theorem dL_hangs_337 : decode cL_hangs 337 = .ok (.ifCond .eq 40, 3) := by decide +kernel
theorem dL_hangs_340 : decode cL_hangs 340 = .ok (.iload_n 2, 1) := by decide +kernel
theorem dL_hangs_341 : decode cL_hangs 341 = .ok (.aload_n 0, 1) := by decide +kernel
theorem dL_hangs_342 : decode cL_hangs 342 = .ok (.bipush 8, 2) := by decide +kernel
theorem dL_hangs_344 : decode cL_hangs 344 = .ok (.invokevirtual 58, 3) := by decide +kernel
theorem dL_hangs_347 : decode cL_hangs 347 = .ok (.if_icmp .ne 30, 3) := by decide +kernel
theorem dL_hangs_350 : decode cL_hangs 350 = .ok (.iload_n 3, 1) := by decide +kernel
theorem dL_hangs_351 : decode cL_hangs 351 = .ok (.aload_n 0, 1) := by decide +kernel
theorem dL_hangs_352 : decode cL_hangs 352 = .ok (.iconst 4, 1) := by decide +kernel
theorem dL_hangs_353 : decode cL_hangs 353 = .ok (.invokevirtual 58, 3) := by decide +kernel
theorem dL_hangs_356 : decode cL_hangs 356 = .ok (.if_icmp .ne 21, 3) := by decide +kernel
theorem dL_hangs_359 : decode cL_hangs 359 = .ok (.iload_n 3, 1) := by decide +kernel
theorem dL_hangs_360 : decode cL_hangs 360 = .ok (.bipush 10, 2) := by decide +kernel
theorem dL_hangs_362 : decode cL_hangs 362 = .ok (.irem, 1) := by decide +kernel
theorem dL_hangs_363 : decode cL_hangs 363 = .ok (.ifCond .ne 14, 3) := by decide +kernel
theorem dL_hangs_366 : decode cL_hangs 366 = .ok (.iload 4, 2) := by decide +kernel
theorem dL_hangs_368 : decode cL_hangs 368 = .ok (.bipush 15, 2) := by decide +kernel
theorem dL_hangs_370 : decode cL_hangs 370 = .ok (.if_icmp .ne 7, 3) := by decide +kernel
theorem dL_hangs_373 : decode cL_hangs 373 = .ok (.iconst 1, 1) := by decide +kernel
theorem dL_hangs_374 : decode cL_hangs 374 = .ok (.goto 4, 3) := by decide +kernel
theorem dL_hangs_377 : decode cL_hangs 377 = .ok (.iconst 0, 1) := by decide +kernel
theorem dL_hangs_378 : decode cL_hangs 378 = .ok (.istore_n 1, 1) := by decide +kernel
theorem dL_hangs_379 : decode cL_hangs 379 = .ok (.iconst 0, 1) := by decide +kernel
theorem dL_hangs_380 : decode cL_hangs 380 = .ok (.istore 5, 2) := by decide +kernel
theorem dL_hangs_382 : decode cL_hangs 382 = .ok (.iconst 0, 1) := by decide +kernel
theorem dL_hangs_383 : decode cL_hangs 383 = .ok (.istore 6, 2) := by decide +kernel
theorem dL_hangs_385 : decode cL_hangs 385 = .ok (.iconst 0, 1) := by decide +kernel
theorem dL_hangs_386 : decode cL_hangs 386 = .ok (.istore 7, 2) := by decide +kernel
theorem dL_hangs_388 : decode cL_hangs 388 = .ok (.iconst 0, 1) := by decide +kernel
theorem dL_hangs_389 : decode cL_hangs 389 = .ok (.istore 8, 2) := by decide +kernel
theorem dL_hangs_391 : decode cL_hangs 391 = .ok (.iload 8, 2) := by decide +kernel
theorem dL_hangs_393 : decode cL_hangs 393 = .ok (.iconst 4, 1) := by decide +kernel
theorem dL_hangs_394 : decode cL_hangs 394 = .ok (.if_icmp .ge 305, 3) := by decide +kernel
theorem dL_hangs_397 : decode cL_hangs 397 = .ok (.iload_n 1, 1) := by decide +kernel
theorem dL_hangs_398 : decode cL_hangs 398 = .ok (.ifCond .eq 301, 3) := by decide +kernel
theorem dL_hangs_401 : decode cL_hangs 401 = .ok (.iconst 0, 1) := by decide +kernel
theorem dL_hangs_402 : decode cL_hangs 402 = .ok (.istore 9, 2) := by decide +kernel
theorem dL_hangs_404 : decode cL_hangs 404 = .ok (.iload 9, 2) := by decide +kernel
theorem dL_hangs_406 : decode cL_hangs 406 = .ok (.iconst 4, 1) := by decide +kernel
theorem dL_hangs_407 : decode cL_hangs 407 = .ok (.if_icmp .ge 230, 3) := by decide +kernel
theorem dL_hangs_410 : decode cL_hangs 410 = .ok (.iload_n 1, 1) := by decide +kernel
theorem dL_hangs_411 : decode cL_hangs 411 = .ok (.ifCond .eq 226, 3) := by decide +kernel
theorem dL_hangs_414 : decode cL_hangs 414 = .ok (.iconst 0, 1) := by decide +kernel
theorem dL_hangs_415 : decode cL_hangs 415 = .ok (.istore 10, 2) := by decide +kernel
theorem dL_hangs_417 : decode cL_hangs 417 = .ok (.ldc 62, 2) := by decide +kernel
theorem dL_hangs_419 : decode cL_hangs 419 = .ok (.istore 11, 2) := by decide +kernel
theorem dL_hangs_421 : decode cL_hangs 421 = .ok (.iconst 0, 1) := by decide +kernel
theorem dL_hangs_422 : decode cL_hangs 422 = .ok (.istore 12, 2) := by decide +kernel
theorem dL_hangs_424 : decode cL_hangs 424 = .ok (.iconst 5, 1) := by decide +kernel
theorem dL_hangs_425 : decode cL_hangs 425 = .ok (.istore 13, 2) := by decide +kernel
theorem dL_hangs_427 : decode cL_hangs 427 = .ok (.iload 13, 2) := by decide +kernel
theorem dL_hangs_429 : decode cL_hangs 429 = .ok (.ifCond .lt 113, 3) := by decide +kernel
theorem dL_hangs_432 : decode cL_hangs 432 = .ok (.aload_n 0, 1) := by decide +kernel
theorem dL_hangs_433 : decode cL_hangs 433 = .ok (.iconst 1, 1) := by decide +kernel
theorem dL_hangs_434 : decode cL_hangs 434 = .ok (.iload 9, 2) := by decide +kernel
theorem dL_hangs_436 : decode cL_hangs 436 = .ok (.iload 13, 2) := by decide +kernel
theorem dL_hangs_438 : decode cL_hangs 438 = .ok (.iconst 0, 1) := by decide +kernel
theorem dL_hangs_439 : decode cL_hangs 439 = .ok (.invokevirtual 43, 3) := by decide +kernel
theorem dL_hangs_442 : decode cL_hangs 442 = .ok (.aload_n 0, 1) := by decide +kernel
theorem dL_hangs_443 : decode cL_hangs 443 = .ok (.iconst 0, 1) := by decide +kernel
theorem dL_hangs_444 : decode cL_hangs 444 = .ok (.iload 8, 2) := by decide +kernel
theorem dL_hangs_446 : decode cL_hangs 446 = .ok (.iload 13, 2) := by decide +kernel
theorem dL_hangs_448 : decode cL_hangs 448 = .ok (.iconst 2, 1) := by decide +kernel
theorem dL_hangs_449 : decode cL_hangs 449 = .ok (.invokevirtual 43, 3) := by decide +kernel
theorem dL_hangs_452 : decode cL_hangs 452 = .ok (.isub, 1) := by decide +kernel
theorem dL_hangs_453 : decode cL_hangs 453 = .ok (.istore 14, 2) := by decide +kernel
theorem dL_hangs_455 : decode cL_hangs 455 = .ok (.iload 14, 2) := by decide +kernel
theorem dL_hangs_457 : decode cL_hangs 457 = .ok (.iconst 0, 1) := by decide +kernel
theorem dL_hangs_458 : decode cL_hangs 458 = .ok (.invokestatic 50, 3) := by decide +kernel
theorem dL_hangs_461 : decode cL_hangs 461 = .ok (.aload_n 0, 1) := by decide +kernel
theorem dL_hangs_462 : decode cL_hangs 462 = .ok (.iconst 0, 1) := by decide +kernel
theorem dL_hangs_463 : decode cL_hangs 463 = .ok (.invokevirtual 58, 3) := by decide +kernel
theorem dL_hangs_466 : decode cL_hangs 466 = .ok (.if_icmp .le 27, 3) := by decide +kernel
theorem dL_hangs_469 : decode cL_hangs 469 = .ok (.iload 14, 2) := by decide +kernel
theorem dL_hangs_471 : decode cL_hangs 471 = .ok (.aload_n 0, 1) := by decide +kernel
theorem dL_hangs_472 : decode cL_hangs 472 = .ok (.iload 13, 2) := by decide +kernel
theorem dL_hangs_474 : decode cL_hangs 474 = .ok (.iconst 3, 1) := by decide +kernel
theorem dL_hangs_475 : decode cL_hangs 475 = .ok (.invokevirtual 47, 3) := by decide +kernel
theorem dL_hangs_478 : decode cL_hangs 478 = .ok (.aload_n 0, 1) := by decide +kernel
theorem dL_hangs_479 : decode cL_hangs 479 = .ok (.iload 13, 2) := by decide +kernel
theorem dL_hangs_481 : decode cL_hangs 481 = .ok (.iconst 2, 1) := by decide +kernel
theorem dL_hangs_482 : decode cL_hangs 482 = .ok (.invokevirtual 47, 3) := by decide +kernel
theorem dL_hangs_485 : decode cL_hangs 485 = .ok (.isub, 1) := by decide +kernel
theorem dL_hangs_486 : decode cL_hangs 486 = .ok (.if_icmp .eq 7, 3) := by decide +kernel
theorem dL_hangs_489 : decode cL_hangs 489 = .ok (.iconst 1, 1) := by decide +kernel
theorem dL_hangs_490 : decode cL_hangs 490 = .ok (.goto 4, 3) := by decide +kernel
theorem dL_hangs_493 : decode cL_hangs 493 = .ok (.iconst 0, 1) := by decide +kernel
theorem dL_hangs_494 : decode cL_hangs 494 = .ok (.istore 15, 2) := by decide +kernel
theorem dL_hangs_496 : decode cL_hangs 496 = .ok (.iload 10, 2) := by decide +kernel
theorem dL_hangs_498 : decode cL_hangs 498 = .ok (.iload 15, 2) := by decide +kernel
theorem dL_hangs_500 : decode cL_hangs 500 = .ok (.ifCond .eq 7, 3) := by decide +kernel
theorem dL_hangs_503 : decode cL_hangs 503 = .ok (.iconst 1, 1) := by decide +kernel
theorem dL_hangs_504 : decode cL_hangs 504 = .ok (.goto 4, 3) := by decide +kernel
theorem dL_hangs_507 : decode cL_hangs 507 = .ok (.iconst 0, 1) := by decide +kernel
theorem dL_hangs_508 : decode cL_hangs 508 = .ok (.iadd, 1) := by decide +kernel
theorem dL_hangs_509 : decode cL_hangs 509 = .ok (.istore 10, 2) := by decide +kernel
theorem dL_hangs_511 : decode cL_hangs 511 = .ok (.iload 15, 2) := by decide +kernel
theorem dL_hangs_513 : decode cL_hangs 513 = .ok (.ifCond .eq 8, 3) := by decide +kernel
theorem dL_hangs_516 : decode cL_hangs 516 = .ok (.iload 13, 2) := by decide +kernel
theorem dL_hangs_518 : decode cL_hangs 518 = .ok (.goto 5, 3) := by decide +kernel
theorem dL_hangs_521 : decode cL_hangs 521 = .ok (.iload 11, 2) := by decide +kernel
theorem dL_hangs_523 : decode cL_hangs 523 = .ok (.istore 11, 2) := by decide +kernel
theorem dL_hangs_525 : decode cL_hangs 525 = .ok (.iload 12, 2) := by decide +kernel
theorem dL_hangs_527 : decode cL_hangs 527 = .ok (.iload 14, 2) := by decide +kernel
theorem dL_hangs_529 : decode cL_hangs 529 = .ok (.iconst 0, 1) := by decide +kernel
theorem dL_hangs_530 : decode cL_hangs 530 = .ok (.invokestatic 50, 3) := by decide +kernel
theorem dL_hangs_533 : decode cL_hangs 533 = .ok (.iadd, 1) := by decide +kernel
theorem dL_hangs_534 : decode cL_hangs 534 = .ok (.istore 12, 2) := by decide +kernel
theorem dL_hangs_536 : decode cL_hangs 536 = .ok (.iinc 13 (-1), 3) := by decide +kernel
theorem dL_hangs_539 : decode cL_hangs 539 = .ok (.goto (-112), 3) := by decide +kernel
theorem dL_hangs_542 : decode cL_hangs 542 = .ok (.aload_n 0, 1) := by decide +kernel
theorem dL_hangs_543 : decode cL_hangs 543 = .ok (.iload 8, 2) := by decide +kernel
theorem dL_hangs_545 : decode cL_hangs 545 = .ok (.iload 9, 2) := by decide +kernel
theorem dL_hangs_547 : decode cL_hangs 547 = .ok (.iconst 1, 1) := by decide +kernel
theorem dL_hangs_548 : decode cL_hangs 548 = .ok (.invokevirtual 63, 3) := by decide +kernel
theorem dL_hangs_551 : decode cL_hangs 551 = .ok (.iload 10, 2) := by decide +kernel
theorem dL_hangs_553 : decode cL_hangs 553 = .ok (.if_icmp .ne 76, 3) := by decide +kernel
theorem dL_hangs_556 : decode cL_hangs 556 = .ok (.aload_n 0, 1) := by decide +kernel
theorem dL_hangs_557 : decode cL_hangs 557 = .ok (.iload 8, 2) := by decide +kernel
theorem dL_hangs_559 : decode cL_hangs 559 = .ok (.iload 9, 2) := by decide +kernel
theorem dL_hangs_561 : decode cL_hangs 561 = .ok (.iconst 2, 1) := by decide +kernel
theorem dL_hangs_562 : decode cL_hangs 562 = .ok (.invokevirtual 63, 3) := by decide +kernel
theorem dL_hangs_565 : decode cL_hangs 565 = .ok (.iload 11, 2) := by decide +kernel
theorem dL_hangs_567 : decode cL_hangs 567 = .ok (.if_icmp .ne 62, 3) := by decide +kernel
theorem dL_hangs_570 : decode cL_hangs 570 = .ok (.aload_n 0, 1) := by decide +kernel
theorem dL_hangs_571 : decode cL_hangs 571 = .ok (.iload 8, 2) := by decide +kernel
theorem dL_hangs_573 : decode cL_hangs 573 = .ok (.iload 9, 2) := by decide +kernel
theorem dL_hangs_575 : decode cL_hangs 575 = .ok (.iconst 3, 1) := by decide +kernel
theorem dL_hangs_576 : decode cL_hangs 576 = .ok (.invokevirtual 63, 3) := by decide +kernel
theorem dL_hangs_579 : decode cL_hangs 579 = .ok (.iload 12, 2) := by decide +kernel
theorem dL_hangs_581 : decode cL_hangs 581 = .ok (.if_icmp .ne 48, 3) := by decide +kernel
theorem dL_hangs_584 : decode cL_hangs 584 = .ok (.aload_n 0, 1) := by decide +kernel
theorem dL_hangs_585 : decode cL_hangs 585 = .ok (.iload 8, 2) := by decide +kernel
theorem dL_hangs_587 : decode cL_hangs 587 = .ok (.iload 9, 2) := by decide +kernel
theorem dL_hangs_589 : decode cL_hangs 589 = .ok (.iconst 0, 1) := by decide +kernel
theorem dL_hangs_590 : decode cL_hangs 590 = .ok (.invokevirtual 63, 3) := by decide +kernel
theorem dL_hangs_593 : decode cL_hangs 593 = .ok (.sipush 1000, 3) := by decide +kernel
theorem dL_hangs_596 : decode cL_hangs 596 = .ok (.iconst 5, 1) := by decide +kernel
theorem dL_hangs_597 : decode cL_hangs 597 = .ok (.aload_n 0, 1) := by decide +kernel
theorem dL_hangs_598 : decode cL_hangs 598 = .ok (.iconst 0, 1) := by decide +kernel
theorem dL_hangs_599 : decode cL_hangs 599 = .ok (.iload 8, 2) := by decide +kernel
theorem dL_hangs_601 : decode cL_hangs 601 = .ok (.iconst 1, 1) := by decide +kernel
theorem dL_hangs_602 : decode cL_hangs 602 = .ok (.invokevirtual 55, 3) := by decide +kernel
theorem dL_hangs_605 : decode cL_hangs 605 = .ok (.aload_n 0, 1) := by decide +kernel
theorem dL_hangs_606 : decode cL_hangs 606 = .ok (.iconst 1, 1) := by decide +kernel
theorem dL_hangs_607 : decode cL_hangs 607 = .ok (.iload 9, 2) := by decide +kernel
theorem dL_hangs_609 : decode cL_hangs 609 = .ok (.iconst 1, 1) := by decide +kernel
theorem dL_hangs_610 : decode cL_hangs 610 = .ok (.invokevirtual 55, 3) := by decide +kernel
theorem dL_hangs_613 : decode cL_hangs 613 = .ok (.iadd, 1) := by decide +kernel
theorem dL_hangs_614 : decode cL_hangs 614 = .ok (.imul, 1) := by decide +kernel
theorem dL_hangs_615 : decode cL_hangs 615 = .ok (.isub, 1) := by decide +kernel
theorem dL_hangs_616 : decode cL_hangs 616 = .ok (.bipush 50, 2) := by decide +kernel
theorem dL_hangs_618 : decode cL_hangs 618 = .ok (.iload 10, 2) := by decide +kernel
theorem dL_hangs_620 : decode cL_hangs 620 = .ok (.imul, 1) := by decide +kernel
theorem dL_hangs_621 : decode cL_hangs 621 = .ok (.isub, 1) := by decide +kernel
theorem dL_hangs_622 : decode cL_hangs 622 = .ok (.if_icmp .ne 7, 3) := by decide +kernel
theorem dL_hangs_625 : decode cL_hangs 625 = .ok (.iconst 1, 1) := by decide +kernel
theorem dL_hangs_626 : decode cL_hangs 626 = .ok (.goto 4, 3) := by decide +kernel
theorem dL_hangs_629 : decode cL_hangs 629 = .ok (.iconst 0, 1) := by decide +kernel
theorem dL_hangs_630 : decode cL_hangs 630 = .ok (.istore_n 1, 1) := by decide +kernel
theorem dL_hangs_631 : decode cL_hangs 631 = .ok (.iinc 9 1, 3) := by decide +kernel
theorem dL_hangs_634 : decode cL_hangs 634 = .ok (.goto (-230), 3) := by decide +kernel
theorem dL_hangs_637 : decode cL_hangs 637 = .ok (.aload_n 0, 1) := by decide +kernel
theorem dL_hangs_638 : decode cL_hangs 638 = .ok (.iconst 0, 1) := by decide +kernel
theorem dL_hangs_639 : decode cL_hangs 639 = .ok (.iload 8, 2) := by decide +kernel
theorem dL_hangs_641 : decode cL_hangs 641 = .ok (.iconst 2, 1) := by decide +kernel
theorem dL_hangs_642 : decode cL_hangs 642 = .ok (.invokevirtual 55, 3) := by decide +kernel
theorem dL_hangs_645 : decode cL_hangs 645 = .ok (.istore 9, 2) := by decide +kernel
theorem dL_hangs_647 : decode cL_hangs 647 = .ok (.iload 5, 2) := by decide +kernel
theorem dL_hangs_649 : decode cL_hangs 649 = .ok (.aload_n 0, 1) := by decide +kernel
theorem dL_hangs_650 : decode cL_hangs 650 = .ok (.iload 8, 2) := by decide +kernel
theorem dL_hangs_652 : decode cL_hangs 652 = .ok (.iload 9, 2) := by decide +kernel
theorem dL_hangs_654 : decode cL_hangs 654 = .ok (.iconst 0, 1) := by decide +kernel
theorem dL_hangs_655 : decode cL_hangs 655 = .ok (.invokevirtual 63, 3) := by decide +kernel
theorem dL_hangs_658 : decode cL_hangs 658 = .ok (.iadd, 1) := by decide +kernel
theorem dL_hangs_659 : decode cL_hangs 659 = .ok (.istore 5, 2) := by decide +kernel
theorem dL_hangs_661 : decode cL_hangs 661 = .ok (.iload 6, 2) := by decide +kernel
theorem dL_hangs_663 : decode cL_hangs 663 = .ok (.aload_n 0, 1) := by decide +kernel
theorem dL_hangs_664 : decode cL_hangs 664 = .ok (.iload 8, 2) := by decide +kernel
theorem dL_hangs_666 : decode cL_hangs 666 = .ok (.iload 9, 2) := by decide +kernel
theorem dL_hangs_668 : decode cL_hangs 668 = .ok (.iconst 1, 1) := by decide +kernel
theorem dL_hangs_669 : decode cL_hangs 669 = .ok (.invokevirtual 63, 3) := by decide +kernel
theorem dL_hangs_672 : decode cL_hangs 672 = .ok (.iadd, 1) := by decide +kernel
theorem dL_hangs_673 : decode cL_hangs 673 = .ok (.istore 6, 2) := by decide +kernel
theorem dL_hangs_675 : decode cL_hangs 675 = .ok (.iload 7, 2) := by decide +kernel
theorem dL_hangs_677 : decode cL_hangs 677 = .ok (.aload_n 0, 1) := by decide +kernel
theorem dL_hangs_678 : decode cL_hangs 678 = .ok (.iload 8, 2) := by decide +kernel
theorem dL_hangs_680 : decode cL_hangs 680 = .ok (.aload_n 0, 1) := by decide +kernel
theorem dL_hangs_681 : decode cL_hangs 681 = .ok (.iload 8, 2) := by decide +kernel
theorem dL_hangs_683 : decode cL_hangs 683 = .ok (.invokevirtual 66, 3) := by decide +kernel
theorem dL_hangs_686 : decode cL_hangs 686 = .ok (.iconst 0, 1) := by decide +kernel
theorem dL_hangs_687 : decode cL_hangs 687 = .ok (.invokevirtual 63, 3) := by decide +kernel
theorem dL_hangs_690 : decode cL_hangs 690 = .ok (.iadd, 1) := by decide +kernel
theorem dL_hangs_691 : decode cL_hangs 691 = .ok (.istore 7, 2) := by decide +kernel
theorem dL_hangs_693 : decode cL_hangs 693 = .ok (.iinc 8 1, 3) := by decide +kernel
theorem dL_hangs_696 : decode cL_hangs 696 = .ok (.goto (-305), 3) := by decide +kernel
theorem dL_hangs_699 : decode cL_hangs 699 = .ok (.iload_n 1, 1) := by decide +kernel
theorem dL_hangs_700 : decode cL_hangs 700 = .ok (.ifCond .eq 82, 3) := by decide +kernel
theorem dL_hangs_703 : decode cL_hangs 703 = .ok (.iload 5, 2) := by decide +kernel
theorem dL_hangs_705 : decode cL_hangs 705 = .ok (.aload_n 0, 1) := by decide +kernel
theorem dL_hangs_706 : decode cL_hangs 706 = .ok (.bipush 6, 2) := by decide +kernel
theorem dL_hangs_708 : decode cL_hangs 708 = .ok (.invokevirtual 58, 3) := by decide +kernel
theorem dL_hangs_711 : decode cL_hangs 711 = .ok (.if_icmp .ne 71, 3) := by decide +kernel
theorem dL_hangs_714 : decode cL_hangs 714 = .ok (.iload 6, 2) := by decide +kernel
theorem dL_hangs_716 : decode cL_hangs 716 = .ok (.aload_n 0, 1) := by decide +kernel
theorem dL_hangs_717 : decode cL_hangs 717 = .ok (.iconst 5, 1) := by decide +kernel
theorem dL_hangs_718 : decode cL_hangs 718 = .ok (.invokevirtual 58, 3) := by decide +kernel
theorem dL_hangs_721 : decode cL_hangs 721 = .ok (.if_icmp .ne 61, 3) := by decide +kernel
theorem dL_hangs_724 : decode cL_hangs 724 = .ok (.iload 7, 2) := by decide +kernel
theorem dL_hangs_726 : decode cL_hangs 726 = .ok (.aload_n 0, 1) := by decide +kernel
theorem dL_hangs_727 : decode cL_hangs 727 = .ok (.bipush 7, 2) := by decide +kernel
theorem dL_hangs_729 : decode cL_hangs 729 = .ok (.invokevirtual 58, 3) := by decide +kernel
theorem dL_hangs_732 : decode cL_hangs 732 = .ok (.if_icmp .ne 50, 3) := by decide +kernel
theorem dL_hangs_735 : decode cL_hangs 735 = .ok (.iload 7, 2) := by decide +kernel
theorem dL_hangs_737 : decode cL_hangs 737 = .ok (.iload 5, 2) := by decide +kernel
theorem dL_hangs_739 : decode cL_hangs 739 = .ok (.if_icmp .lt 43, 3) := by decide +kernel
theorem dL_hangs_742 : decode cL_hangs 742 = .ok (.iconst 1, 1) := by decide +kernel
theorem dL_hangs_743 : decode cL_hangs 743 = .ok (.aload_n 0, 1) := by decide +kernel
theorem dL_hangs_744 : decode cL_hangs 744 = .ok (.iconst 0, 1) := by decide +kernel
theorem dL_hangs_745 : decode cL_hangs 745 = .ok (.invokevirtual 66, 3) := by decide +kernel
theorem dL_hangs_748 : decode cL_hangs 748 = .ok (.ishl, 1) := by decide +kernel
theorem dL_hangs_749 : decode cL_hangs 749 = .ok (.iconst 1, 1) := by decide +kernel
theorem dL_hangs_750 : decode cL_hangs 750 = .ok (.aload_n 0, 1) := by decide +kernel
theorem dL_hangs_751 : decode cL_hangs 751 = .ok (.iconst 1, 1) := by decide +kernel
theorem dL_hangs_752 : decode cL_hangs 752 = .ok (.invokevirtual 66, 3) := by decide +kernel
theorem dL_hangs_755 : decode cL_hangs 755 = .ok (.ishl, 1) := by decide +kernel
theorem dL_hangs_756 : decode cL_hangs 756 = .ok (.ior, 1) := by decide +kernel
theorem dL_hangs_757 : decode cL_hangs 757 = .ok (.iconst 1, 1) := by decide +kernel
theorem dL_hangs_758 : decode cL_hangs 758 = .ok (.aload_n 0, 1) := by decide +kernel
theorem dL_hangs_759 : decode cL_hangs 759 = .ok (.iconst 2, 1) := by decide +kernel
theorem dL_hangs_760 : decode cL_hangs 760 = .ok (.invokevirtual 66, 3) := by decide +kernel
theorem dL_hangs_763 : decode cL_hangs 763 = .ok (.ishl, 1) := by decide +kernel
theorem dL_hangs_764 : decode cL_hangs 764 = .ok (.ior, 1) := by decide +kernel
theorem dL_hangs_765 : decode cL_hangs 765 = .ok (.iconst 1, 1) := by decide +kernel
theorem dL_hangs_766 : decode cL_hangs 766 = .ok (.aload_n 0, 1) := by decide +kernel
theorem dL_hangs_767 : decode cL_hangs 767 = .ok (.iconst 3, 1) := by decide +kernel
theorem dL_hangs_768 : decode cL_hangs 768 = .ok (.invokevirtual 66, 3) := by decide +kernel
theorem dL_hangs_771 : decode cL_hangs 771 = .ok (.ishl, 1) := by decide +kernel
theorem dL_hangs_772 : decode cL_hangs 772 = .ok (.ior, 1) := by decide +kernel
theorem dL_hangs_773 : decode cL_hangs 773 = .ok (.bipush 15, 2) := by decide +kernel
theorem dL_hangs_775 : decode cL_hangs 775 = .ok (.if_icmp .ne 7, 3) := by decide +kernel
theorem dL_hangs_778 : decode cL_hangs 778 = .ok (.iconst 1, 1) := by decide +kernel
theorem dL_hangs_779 : decode cL_hangs 779 = .ok (.goto 4, 3) := by decide +kernel
theorem dL_hangs_782 : decode cL_hangs 782 = .ok (.iconst 0, 1) := by decide +kernel
theorem dL_hangs_783 : decode cL_hangs 783 = .ok (.istore_n 1, 1) := by decide +kernel
theorem dL_hangs_784 : decode cL_hangs 784 = .ok (.iconst 0, 1) := by decide +kernel
theorem dL_hangs_785 : decode cL_hangs 785 = .ok (.istore 8, 2) := by decide +kernel
theorem dL_hangs_787 : decode cL_hangs 787 = .ok (.iload 8, 2) := by decide +kernel
theorem dL_hangs_789 : decode cL_hangs 789 = .ok (.iconst 4, 1) := by decide +kernel
theorem dL_hangs_790 : decode cL_hangs 790 = .ok (.if_icmp .ge 155, 3) := by decide +kernel
theorem dL_hangs_793 : decode cL_hangs 793 = .ok (.iload_n 1, 1) := by decide +kernel
theorem dL_hangs_794 : decode cL_hangs 794 = .ok (.ifCond .eq 151, 3) := by decide +kernel
theorem dL_hangs_797 : decode cL_hangs 797 = .ok (.aload_n 0, 1) := by decide +kernel
theorem dL_hangs_798 : decode cL_hangs 798 = .ok (.iload 8, 2) := by decide +kernel
theorem dL_hangs_800 : decode cL_hangs 800 = .ok (.iconst 0, 1) := by decide +kernel
theorem dL_hangs_801 : decode cL_hangs 801 = .ok (.invokevirtual 69, 3) := by decide +kernel
theorem dL_hangs_804 : decode cL_hangs 804 = .ok (.istore 9, 2) := by decide +kernel
theorem dL_hangs_806 : decode cL_hangs 806 = .ok (.aload_n 0, 1) := by decide +kernel
theorem dL_hangs_807 : decode cL_hangs 807 = .ok (.iload 8, 2) := by decide +kernel
theorem dL_hangs_809 : decode cL_hangs 809 = .ok (.iconst 1, 1) := by decide +kernel
theorem dL_hangs_810 : decode cL_hangs 810 = .ok (.invokevirtual 69, 3) := by decide +kernel
theorem dL_hangs_813 : decode cL_hangs 813 = .ok (.istore 10, 2) := by decide +kernel
theorem dL_hangs_815 : decode cL_hangs 815 = .ok (.iload 10, 2) := by decide +kernel
theorem dL_hangs_817 : decode cL_hangs 817 = .ok (.aload_n 0, 1) := by decide +kernel
theorem dL_hangs_818 : decode cL_hangs 818 = .ok (.iload 9, 2) := by decide +kernel
theorem dL_hangs_820 : decode cL_hangs 820 = .ok (.aload_n 0, 1) := by decide +kernel
theorem dL_hangs_821 : decode cL_hangs 821 = .ok (.iconst 0, 1) := by decide +kernel
theorem dL_hangs_822 : decode cL_hangs 822 = .ok (.iload 9, 2) := by decide +kernel
theorem dL_hangs_824 : decode cL_hangs 824 = .ok (.iconst 2, 1) := by decide +kernel
theorem dL_hangs_825 : decode cL_hangs 825 = .ok (.invokevirtual 55, 3) := by decide +kernel
theorem dL_hangs_828 : decode cL_hangs 828 = .ok (.iconst 0, 1) := by decide +kernel
theorem dL_hangs_829 : decode cL_hangs 829 = .ok (.invokevirtual 63, 3) := by decide +kernel
theorem dL_hangs_832 : decode cL_hangs 832 = .ok (.if_icmp .ne 105, 3) := by decide +kernel
theorem dL_hangs_835 : decode cL_hangs 835 = .ok (.iload 8, 2) := by decide +kernel
theorem dL_hangs_837 : decode cL_hangs 837 = .ok (.ifCond .eq 45, 3) := by decide +kernel
theorem dL_hangs_840 : decode cL_hangs 840 = .ok (.iload 10, 2) := by decide +kernel
theorem dL_hangs_842 : decode cL_hangs 842 = .ok (.aload_n 0, 1) := by decide +kernel
theorem dL_hangs_843 : decode cL_hangs 843 = .ok (.iload 8, 2) := by decide +kernel
theorem dL_hangs_845 : decode cL_hangs 845 = .ok (.iconst 1, 1) := by decide +kernel
theorem dL_hangs_846 : decode cL_hangs 846 = .ok (.isub, 1) := by decide +kernel
theorem dL_hangs_847 : decode cL_hangs 847 = .ok (.iconst 1, 1) := by decide +kernel
theorem dL_hangs_848 : decode cL_hangs 848 = .ok (.invokevirtual 69, 3) := by decide +kernel
theorem dL_hangs_851 : decode cL_hangs 851 = .ok (.if_icmp .lt 31, 3) := by decide +kernel
theorem dL_hangs_854 : decode cL_hangs 854 = .ok (.iload 10, 2) := by decide +kernel
theorem dL_hangs_856 : decode cL_hangs 856 = .ok (.aload_n 0, 1) := by decide +kernel
theorem dL_hangs_857 : decode cL_hangs 857 = .ok (.iload 8, 2) := by decide +kernel
theorem dL_hangs_859 : decode cL_hangs 859 = .ok (.iconst 1, 1) := by decide +kernel
theorem dL_hangs_860 : decode cL_hangs 860 = .ok (.isub, 1) := by decide +kernel
theorem dL_hangs_861 : decode cL_hangs 861 = .ok (.iconst 1, 1) := by decide +kernel
theorem dL_hangs_862 : decode cL_hangs 862 = .ok (.invokevirtual 69, 3) := by decide +kernel
theorem dL_hangs_865 : decode cL_hangs 865 = .ok (.if_icmp .ne 72, 3) := by decide +kernel
theorem dL_hangs_868 : decode cL_hangs 868 = .ok (.iload 9, 2) := by decide +kernel
theorem dL_hangs_870 : decode cL_hangs 870 = .ok (.aload_n 0, 1) := by decide +kernel
theorem dL_hangs_871 : decode cL_hangs 871 = .ok (.iload 8, 2) := by decide +kernel
theorem dL_hangs_873 : decode cL_hangs 873 = .ok (.iconst 1, 1) := by decide +kernel
theorem dL_hangs_874 : decode cL_hangs 874 = .ok (.isub, 1) := by decide +kernel
theorem dL_hangs_875 : decode cL_hangs 875 = .ok (.iconst 0, 1) := by decide +kernel
theorem dL_hangs_876 : decode cL_hangs 876 = .ok (.invokevirtual 69, 3) := by decide +kernel
theorem dL_hangs_879 : decode cL_hangs 879 = .ok (.if_icmp .le 58, 3) := by decide +kernel
theorem dL_hangs_882 : decode cL_hangs 882 = .ok (.aload_n 0, 1) := by decide +kernel
theorem dL_hangs_883 : decode cL_hangs 883 = .ok (.iload 8, 2) := by decide +kernel
theorem dL_hangs_885 : decode cL_hangs 885 = .ok (.iconst 2, 1) := by decide +kernel
theorem dL_hangs_886 : decode cL_hangs 886 = .ok (.invokevirtual 69, 3) := by decide +kernel
theorem dL_hangs_889 : decode cL_hangs 889 = .ok (.iload 10, 2) := by decide +kernel
theorem dL_hangs_891 : decode cL_hangs 891 = .ok (.sipush 500, 3) := by decide +kernel
theorem dL_hangs_894 : decode cL_hangs 894 = .ok (.if_icmp .lt 9, 3) := by decide +kernel
theorem dL_hangs_897 : decode cL_hangs 897 = .ok (.iload 8, 2) := by decide +kernel
theorem dL_hangs_899 : decode cL_hangs 899 = .ok (.iconst 3, 1) := by decide +kernel
theorem dL_hangs_900 : decode cL_hangs 900 = .ok (.if_icmp .ne 7, 3) := by decide +kernel
theorem dL_hangs_903 : decode cL_hangs 903 = .ok (.iconst 0, 1) := by decide +kernel
theorem dL_hangs_904 : decode cL_hangs 904 = .ok (.goto 26, 3) := by decide +kernel
theorem dL_hangs_907 : decode cL_hangs 907 = .ok (.iload 8, 2) := by decide +kernel
theorem dL_hangs_909 : decode cL_hangs 909 = .ok (.ifCond .ne 8, 3) := by decide +kernel
theorem dL_hangs_912 : decode cL_hangs 912 = .ok (.bipush 100, 2) := by decide +kernel
theorem dL_hangs_914 : decode cL_hangs 914 = .ok (.goto 16, 3) := by decide +kernel
theorem dL_hangs_917 : decode cL_hangs 917 = .ok (.iload 8, 2) := by decide +kernel
theorem dL_hangs_919 : decode cL_hangs 919 = .ok (.iconst 1, 1) := by decide +kernel
theorem dL_hangs_920 : decode cL_hangs 920 = .ok (.if_icmp .ne 8, 3) := by decide +kernel
theorem dL_hangs_923 : decode cL_hangs 923 = .ok (.bipush 50, 2) := by decide +kernel
theorem dL_hangs_925 : decode cL_hangs 925 = .ok (.goto 5, 3) := by decide +kernel
theorem dL_hangs_928 : decode cL_hangs 928 = .ok (.bipush 20, 2) := by decide +kernel
theorem dL_hangs_930 : decode cL_hangs 930 = .ok (.if_icmp .ne 7, 3) := by decide +kernel
theorem dL_hangs_933 : decode cL_hangs 933 = .ok (.iconst 1, 1) := by decide +kernel
theorem dL_hangs_934 : decode cL_hangs 934 = .ok (.goto 4, 3) := by decide +kernel
theorem dL_hangs_937 : decode cL_hangs 937 = .ok (.iconst 0, 1) := by decide +kernel
theorem dL_hangs_938 : decode cL_hangs 938 = .ok (.istore_n 1, 1) := by decide +kernel
theorem dL_hangs_939 : decode cL_hangs 939 = .ok (.iinc 8 1, 3) := by decide +kernel
theorem dL_hangs_942 : decode cL_hangs 942 = .ok (.goto (-155), 3) := by decide +kernel
theorem dL_hangs_945 : decode cL_hangs 945 = .ok (.iload_n 1, 1) := by decide +kernel
theorem dL_hangs_946 : decode cL_hangs 946 = .ok (.ireturn, 1) := by decide +kernel
