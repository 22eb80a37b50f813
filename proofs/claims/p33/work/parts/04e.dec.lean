theorem dL_would_456 : decode cL_would 456 = .ok (.iload 11, 2) := by decide +kernel
theorem dL_would_458 : decode cL_would 458 = .ok (.iconst 4, 1) := by decide +kernel
theorem dL_would_459 : decode cL_would 459 = .ok (.if_icmp .ge 96, 3) := by decide +kernel
theorem dL_would_462 : decode cL_would 462 = .ok (.iload 17, 2) := by decide +kernel
theorem dL_would_464 : decode cL_would 464 = .ok (.ifCond .eq 12, 3) := by decide +kernel
theorem dL_would_467 : decode cL_would 467 = .ok (.iload 14, 2) := by decide +kernel
theorem dL_would_469 : decode cL_would 469 = .ok (.iconst (-1), 1) := by decide +kernel
theorem dL_would_470 : decode cL_would 470 = .ok (.if_icmp .ne 85, 3) := by decide +kernel
theorem dL_would_473 : decode cL_would 473 = .ok (.goto 78, 3) := by decide +kernel
theorem dL_would_476 : decode cL_would 476 = .ok (.iload 13, 2) := by decide +kernel
theorem dL_would_478 : decode cL_would 478 = .ok (.ifCond .ne 22, 3) := by decide +kernel
theorem dL_would_481 : decode cL_would 481 = .ok (.iload 14, 2) := by decide +kernel
theorem dL_would_483 : decode cL_would 483 = .ok (.ifCond .lt 72, 3) := by decide +kernel
theorem dL_would_486 : decode cL_would 486 = .ok (.iload 14, 2) := by decide +kernel
theorem dL_would_488 : decode cL_would 488 = .ok (.aload_n 0, 1) := by decide +kernel
theorem dL_would_489 : decode cL_would 489 = .ok (.bipush 6, 2) := by decide +kernel
theorem dL_would_491 : decode cL_would 491 = .ok (.invokevirtual 13, 3) := by decide +kernel
theorem dL_would_494 : decode cL_would 494 = .ok (.if_icmp .gt 61, 3) := by decide +kernel
theorem dL_would_497 : decode cL_would 497 = .ok (.goto 54, 3) := by decide +kernel
theorem dL_would_500 : decode cL_would 500 = .ok (.iload 13, 2) := by decide +kernel
theorem dL_would_502 : decode cL_would 502 = .ok (.iconst 1, 1) := by decide +kernel
theorem dL_would_503 : decode cL_would 503 = .ok (.if_icmp .ne 17, 3) := by decide +kernel
theorem dL_would_506 : decode cL_would 506 = .ok (.iload 14, 2) := by decide +kernel
theorem dL_would_508 : decode cL_would 508 = .ok (.aload_n 0, 1) := by decide +kernel
theorem dL_would_509 : decode cL_would 509 = .ok (.bipush 7, 2) := by decide +kernel
theorem dL_would_511 : decode cL_would 511 = .ok (.invokevirtual 13, 3) := by decide +kernel
theorem dL_would_514 : decode cL_would 514 = .ok (.if_icmp .lt 41, 3) := by decide +kernel
theorem dL_would_517 : decode cL_would 517 = .ok (.goto 34, 3) := by decide +kernel
theorem dL_would_520 : decode cL_would 520 = .ok (.iload 13, 2) := by decide +kernel
theorem dL_would_522 : decode cL_would 522 = .ok (.iconst 2, 1) := by decide +kernel
theorem dL_would_523 : decode cL_would 523 = .ok (.if_icmp .ne 17, 3) := by decide +kernel
theorem dL_would_526 : decode cL_would 526 = .ok (.iload 14, 2) := by decide +kernel
theorem dL_would_528 : decode cL_would 528 = .ok (.aload_n 0, 1) := by decide +kernel
theorem dL_would_529 : decode cL_would 529 = .ok (.bipush 8, 2) := by decide +kernel
theorem dL_would_531 : decode cL_would 531 = .ok (.invokevirtual 13, 3) := by decide +kernel
theorem dL_would_534 : decode cL_would 534 = .ok (.if_icmp .lt 21, 3) := by decide +kernel
theorem dL_would_537 : decode cL_would 537 = .ok (.goto 14, 3) := by decide +kernel
theorem dL_would_540 : decode cL_would 540 = .ok (.iload 14, 2) := by decide +kernel
theorem dL_would_542 : decode cL_would 542 = .ok (.ifCond .lt 13, 3) := by decide +kernel
theorem dL_would_545 : decode cL_would 545 = .ok (.iload 14, 2) := by decide +kernel
theorem dL_would_547 : decode cL_would 547 = .ok (.iconst 4, 1) := by decide +kernel
theorem dL_would_548 : decode cL_would 548 = .ok (.if_icmp .ge 7, 3) := by decide +kernel
theorem dL_would_551 : decode cL_would 551 = .ok (.iconst 1, 1) := by decide +kernel
theorem dL_would_552 : decode cL_would 552 = .ok (.goto 4, 3) := by decide +kernel
theorem dL_would_555 : decode cL_would 555 = .ok (.iconst 0, 1) := by decide +kernel
theorem dL_would_556 : decode cL_would 556 = .ok (.ireturn, 1) := by decide +kernel
theorem dL_types_0 : decode cL_types 0 = .ok (.iload_n 1, 1) := by decide +kernel
theorem dL_types_1 : decode cL_types 1 = .ok (.bipush 10, 2) := by decide +kernel
theorem dL_types_3 : decode cL_types 3 = .ok (.invokestatic 42, 3) := by decide +kernel
theorem dL_types_6 : decode cL_types 6 = .ok (.istore_n 2, 1) := by decide +kernel
theorem dL_types_7 : decode cL_types 7 = .ok (.aload_n 0, 1) := by decide +kernel
theorem dL_types_8 : decode cL_types 8 = .ok (.invokevirtual 65, 3) := by decide +kernel
theorem dL_types_11 : decode cL_types 11 = .ok (.ifCond .lt 7, 3) := by decide +kernel
theorem dL_types_14 : decode cL_types 14 = .ok (.iconst 1, 1) := by decide +kernel
theorem dL_types_15 : decode cL_types 15 = .ok (.goto 4, 3) := by decide +kernel
theorem dL_types_18 : decode cL_types 18 = .ok (.iconst 0, 1) := by decide +kernel
theorem dL_types_19 : decode cL_types 19 = .ok (.istore_n 3, 1) := by decide +kernel
theorem dL_types_20 : decode cL_types 20 = .ok (.iconst 0, 1) := by decide +kernel
theorem dL_types_21 : decode cL_types 21 = .ok (.istore 4, 2) := by decide +kernel
theorem dL_types_23 : decode cL_types 23 = .ok (.iload 4, 2) := by decide +kernel
theorem dL_types_25 : decode cL_types 25 = .ok (.iload_n 2, 1) := by decide +kernel
theorem dL_types_26 : decode cL_types 26 = .ok (.if_icmp .ge 320, 3) := by decide +kernel
theorem dL_types_29 : decode cL_types 29 = .ok (.iload_n 1, 1) := by decide +kernel
theorem dL_types_30 : decode cL_types 30 = .ok (.iconst 1, 1) := by decide +kernel
theorem dL_types_31 : decode cL_types 31 = .ok (.iconst 2, 1) := by decide +kernel
theorem dL_types_32 : decode cL_types 32 = .ok (.iload 4, 2) := by decide +kernel
theorem dL_types_34 : decode cL_types 34 = .ok (.imul, 1) := by decide +kernel
theorem dL_types_35 : decode cL_types 35 = .ok (.iadd, 1) := by decide +kernel
theorem dL_types_36 : decode cL_types 36 = .ok (.ishr, 1) := by decide +kernel
theorem dL_types_37 : decode cL_types 37 = .ok (.istore 5, 2) := by decide +kernel
theorem dL_types_39 : decode cL_types 39 = .ok (.iload 5, 2) := by decide +kernel
theorem dL_types_41 : decode cL_types 41 = .ok (.bipush 14, 2) := by decide +kernel
theorem dL_types_43 : decode cL_types 43 = .ok (.invokestatic 42, 3) := by decide +kernel
theorem dL_types_46 : decode cL_types 46 = .ok (.istore 6, 2) := by decide +kernel
theorem dL_types_48 : decode cL_types 48 = .ok (.iload 6, 2) := by decide +kernel
theorem dL_types_50 : decode cL_types 50 = .ok (.bipush 9, 2) := by decide +kernel
theorem dL_types_52 : decode cL_types 52 = .ok (.if_icmp .ge 7, 3) := by decide +kernel
theorem dL_types_55 : decode cL_types 55 = .ok (.iconst 1, 1) := by decide +kernel
theorem dL_types_56 : decode cL_types 56 = .ok (.goto 4, 3) := by decide +kernel
theorem dL_types_59 : decode cL_types 59 = .ok (.iconst 0, 1) := by decide +kernel
theorem dL_types_60 : decode cL_types 60 = .ok (.istore 7, 2) := by decide +kernel
theorem dL_types_62 : decode cL_types 62 = .ok (.iload 5, 2) := by decide +kernel
theorem dL_types_64 : decode cL_types 64 = .ok (.iconst 4, 1) := by decide +kernel
theorem dL_types_65 : decode cL_types 65 = .ok (.ishr, 1) := by decide +kernel
theorem dL_types_66 : decode cL_types 66 = .ok (.iload 6, 2) := by decide +kernel
theorem dL_types_68 : decode cL_types 68 = .ok (.bipush 9, 2) := by decide +kernel
theorem dL_types_70 : decode cL_types 70 = .ok (.if_icmp .ne 25, 3) := by decide +kernel
theorem dL_types_73 : decode cL_types 73 = .ok (.iload_n 1, 1) := by decide +kernel
theorem dL_types_74 : decode cL_types 74 = .ok (.bipush 22, 2) := by decide +kernel
theorem dL_types_76 : decode cL_types 76 = .ok (.ishr, 1) := by decide +kernel
theorem dL_types_77 : decode cL_types 77 = .ok (.bipush 9, 2) := by decide +kernel
theorem dL_types_79 : decode cL_types 79 = .ok (.invokestatic 42, 3) := by decide +kernel
theorem dL_types_82 : decode cL_types 82 = .ok (.ifCond .ne 8, 3) := by decide +kernel
theorem dL_types_85 : decode cL_types 85 = .ok (.bipush 18, 2) := by decide +kernel
theorem dL_types_87 : decode cL_types 87 = .ok (.goto 27, 3) := by decide +kernel
theorem dL_types_90 : decode cL_types 90 = .ok (.bipush 16, 2) := by decide +kernel
theorem dL_types_92 : decode cL_types 92 = .ok (.goto 22, 3) := by decide +kernel
theorem dL_types_95 : decode cL_types 95 = .ok (.iload_n 1, 1) := by decide +kernel
theorem dL_types_96 : decode cL_types 96 = .ok (.bipush 23, 2) := by decide +kernel
theorem dL_types_98 : decode cL_types 98 = .ok (.ishr, 1) := by decide +kernel
theorem dL_types_99 : decode cL_types 99 = .ok (.bipush 9, 2) := by decide +kernel
theorem dL_types_101 : decode cL_types 101 = .ok (.invokestatic 42, 3) := by decide +kernel
theorem dL_types_104 : decode cL_types 104 = .ok (.ifCond .ne 8, 3) := by decide +kernel
theorem dL_types_107 : decode cL_types 107 = .ok (.bipush 29, 2) := by decide +kernel
theorem dL_types_109 : decode cL_types 109 = .ok (.goto 5, 3) := by decide +kernel
theorem dL_types_112 : decode cL_types 112 = .ok (.bipush 24, 2) := by decide +kernel
theorem dL_types_114 : decode cL_types 114 = .ok (.invokestatic 42, 3) := by decide +kernel
theorem dL_types_117 : decode cL_types 117 = .ok (.istore 8, 2) := by decide +kernel
theorem dL_types_119 : decode cL_types 119 = .ok (.iload 7, 2) := by decide +kernel
theorem dL_types_121 : decode cL_types 121 = .ok (.ifCond .eq 43, 3) := by decide +kernel
theorem dL_types_124 : decode cL_types 124 = .ok (.iload_n 1, 1) := by decide +kernel
theorem dL_types_125 : decode cL_types 125 = .ok (.bipush 23, 2) := by decide +kernel
theorem dL_types_127 : decode cL_types 127 = .ok (.ishr, 1) := by decide +kernel
theorem dL_types_128 : decode cL_types 128 = .ok (.bipush 9, 2) := by decide +kernel
theorem dL_types_130 : decode cL_types 130 = .ok (.invokestatic 42, 3) := by decide +kernel
theorem dL_types_133 : decode cL_types 133 = .ok (.ifCond .le 31, 3) := by decide +kernel
theorem dL_types_136 : decode cL_types 136 = .ok (.iload 8, 2) := by decide +kernel
theorem dL_types_138 : decode cL_types 138 = .ok (.bipush 12, 2) := by decide +kernel
theorem dL_types_140 : decode cL_types 140 = .ok (.if_icmp .ge 17, 3) := by decide +kernel
theorem dL_types_143 : decode cL_types 143 = .ok (.iload 8, 2) := by decide +kernel
theorem dL_types_145 : decode cL_types 145 = .ok (.iconst 3, 1) := by decide +kernel
theorem dL_types_146 : decode cL_types 146 = .ok (.idiv, 1) := by decide +kernel
theorem dL_types_147 : decode cL_types 147 = .ok (.iconst 4, 1) := by decide +kernel
theorem dL_types_148 : decode cL_types 148 = .ok (.imul, 1) := by decide +kernel
theorem dL_types_149 : decode cL_types 149 = .ok (.iload 8, 2) := by decide +kernel
theorem dL_types_151 : decode cL_types 151 = .ok (.iconst 3, 1) := by decide +kernel
theorem dL_types_152 : decode cL_types 152 = .ok (.irem, 1) := by decide +kernel
theorem dL_types_153 : decode cL_types 153 = .ok (.iadd, 1) := by decide +kernel
theorem dL_types_154 : decode cL_types 154 = .ok (.goto 12, 3) := by decide +kernel
theorem dL_types_157 : decode cL_types 157 = .ok (.iload 8, 2) := by decide +kernel
theorem dL_types_159 : decode cL_types 159 = .ok (.iconst 4, 1) := by decide +kernel
theorem dL_types_160 : decode cL_types 160 = .ok (.iadd, 1) := by decide +kernel
theorem dL_types_161 : decode cL_types 161 = .ok (.goto 5, 3) := by decide +kernel
theorem dL_types_164 : decode cL_types 164 = .ok (.iload 8, 2) := by decide +kernel
theorem dL_types_166 : decode cL_types 166 = .ok (.istore 8, 2) := by decide +kernel
theorem dL_types_168 : decode cL_types 168 = .ok (.iload_n 3, 1) := by decide +kernel
theorem dL_types_169 : decode cL_types 169 = .ok (.ifCond .eq 169, 3) := by decide +kernel
theorem dL_types_172 : decode cL_types 172 = .ok (.iload 4, 2) := by decide +kernel
theorem dL_types_174 : decode cL_types 174 = .ok (.ifCond .eq 12, 3) := by decide +kernel
theorem dL_types_177 : decode cL_types 177 = .ok (.aload_n 0, 1) := by decide +kernel
theorem dL_types_178 : decode cL_types 178 = .ok (.bipush 44, 2) := by decide +kernel
theorem dL_types_180 : decode cL_types 180 = .ok (.invokevirtual 68, 3) := by decide +kernel
theorem dL_types_183 : decode cL_types 183 = .ok (.ifCond .le 155, 3) := by decide +kernel
theorem dL_types_186 : decode cL_types 186 = .ok (.aload_n 0, 1) := by decide +kernel
theorem dL_types_187 : decode cL_types 187 = .ok (.iload 6, 2) := by decide +kernel
theorem dL_types_189 : decode cL_types 189 = .ok (.iconst 5, 1) := by decide +kernel
theorem dL_types_190 : decode cL_types 190 = .ok (.if_icmp .ge 8, 3) := by decide +kernel
theorem dL_types_193 : decode cL_types 193 = .ok (.bipush 104, 2) := by decide +kernel
theorem dL_types_195 : decode cL_types 195 = .ok (.goto 41, 3) := by decide +kernel
theorem dL_types_198 : decode cL_types 198 = .ok (.iload 6, 2) := by decide +kernel
theorem dL_types_200 : decode cL_types 200 = .ok (.bipush 6, 2) := by decide +kernel
theorem dL_types_202 : decode cL_types 202 = .ok (.if_icmp .ge 8, 3) := by decide +kernel
theorem dL_types_205 : decode cL_types 205 = .ok (.bipush 116, 2) := by decide +kernel
theorem dL_types_207 : decode cL_types 207 = .ok (.goto 29, 3) := by decide +kernel
theorem dL_types_210 : decode cL_types 210 = .ok (.iload 6, 2) := by decide +kernel
theorem dL_types_212 : decode cL_types 212 = .ok (.bipush 9, 2) := by decide +kernel
theorem dL_types_214 : decode cL_types 214 = .ok (.if_icmp .ge 8, 3) := by decide +kernel
theorem dL_types_217 : decode cL_types 217 = .ok (.bipush 119, 2) := by decide +kernel
theorem dL_types_219 : decode cL_types 219 = .ok (.goto 17, 3) := by decide +kernel
theorem dL_types_222 : decode cL_types 222 = .ok (.iload 6, 2) := by decide +kernel
theorem dL_types_224 : decode cL_types 224 = .ok (.bipush 9, 2) := by decide +kernel
theorem dL_types_226 : decode cL_types 226 = .ok (.if_icmp .ne 8, 3) := by decide +kernel
theorem dL_types_229 : decode cL_types 229 = .ok (.bipush 99, 2) := by decide +kernel
theorem dL_types_231 : decode cL_types 231 = .ok (.goto 5, 3) := by decide +kernel
theorem dL_types_234 : decode cL_types 234 = .ok (.bipush 100, 2) := by decide +kernel
theorem dL_types_236 : decode cL_types 236 = .ok (.invokevirtual 68, 3) := by decide +kernel
theorem dL_types_239 : decode cL_types 239 = .ok (.ifCond .le 99, 3) := by decide +kernel
theorem dL_types_242 : decode cL_types 242 = .ok (.iload 7, 2) := by decide +kernel
theorem dL_types_244 : decode cL_types 244 = .ok (.ifCond .eq 46, 3) := by decide +kernel
theorem dL_types_247 : decode cL_types 247 = .ok (.aload_n 0, 1) := by decide +kernel
theorem dL_types_248 : decode cL_types 248 = .ok (.bipush 48, 2) := by decide +kernel
theorem dL_types_250 : decode cL_types 250 = .ok (.iload 5, 2) := by decide +kernel
theorem dL_types_252 : decode cL_types 252 = .ok (.iconst 2, 1) := by decide +kernel
theorem dL_types_253 : decode cL_types 253 = .ok (.ishr, 1) := by decide +kernel
theorem dL_types_254 : decode cL_types 254 = .ok (.iload_n 1, 1) := by decide +kernel
theorem dL_types_255 : decode cL_types 255 = .ok (.bipush 24, 2) := by decide +kernel
theorem dL_types_257 : decode cL_types 257 = .ok (.ishr, 1) := by decide +kernel
theorem dL_types_258 : decode cL_types 258 = .ok (.bipush 9, 2) := by decide +kernel
theorem dL_types_260 : decode cL_types 260 = .ok (.invokestatic 42, 3) := by decide +kernel
theorem dL_types_263 : decode cL_types 263 = .ok (.ifCond .ne 7, 3) := by decide +kernel
theorem dL_types_266 : decode cL_types 266 = .ok (.iconst 5, 1) := by decide +kernel
theorem dL_types_267 : decode cL_types 267 = .ok (.goto 4, 3) := by decide +kernel
theorem dL_types_270 : decode cL_types 270 = .ok (.iconst 4, 1) := by decide +kernel
theorem dL_types_271 : decode cL_types 271 = .ok (.invokestatic 42, 3) := by decide +kernel
theorem dL_types_274 : decode cL_types 274 = .ok (.iadd, 1) := by decide +kernel
theorem dL_types_275 : decode cL_types 275 = .ok (.invokevirtual 68, 3) := by decide +kernel
theorem dL_types_278 : decode cL_types 278 = .ok (.ifCond .le 60, 3) := by decide +kernel
theorem dL_types_281 : decode cL_types 281 = .ok (.aload_n 0, 1) := by decide +kernel
theorem dL_types_282 : decode cL_types 282 = .ok (.bipush 58, 2) := by decide +kernel
theorem dL_types_284 : decode cL_types 284 = .ok (.invokevirtual 68, 3) := by decide +kernel
theorem dL_types_287 : decode cL_types 287 = .ok (.ifCond .le 51, 3) := by decide +kernel
theorem dL_types_290 : decode cL_types 290 = .ok (.iload 6, 2) := by decide +kernel
theorem dL_types_292 : decode cL_types 292 = .ok (.bipush 9, 2) := by decide +kernel
theorem dL_types_294 : decode cL_types 294 = .ok (.if_icmp .gt 40, 3) := by decide +kernel
theorem dL_types_297 : decode cL_types 297 = .ok (.iload 8, 2) := by decide +kernel
theorem dL_types_299 : decode cL_types 299 = .ok (.bipush 10, 2) := by decide +kernel
theorem dL_types_301 : decode cL_types 301 = .ok (.if_icmp .lt 18, 3) := by decide +kernel
theorem dL_types_304 : decode cL_types 304 = .ok (.aload_n 0, 1) := by decide +kernel
theorem dL_types_305 : decode cL_types 305 = .ok (.bipush 48, 2) := by decide +kernel
theorem dL_types_307 : decode cL_types 307 = .ok (.iload 8, 2) := by decide +kernel
theorem dL_types_309 : decode cL_types 309 = .ok (.bipush 10, 2) := by decide +kernel
theorem dL_types_311 : decode cL_types 311 = .ok (.idiv, 1) := by decide +kernel
theorem dL_types_312 : decode cL_types 312 = .ok (.iadd, 1) := by decide +kernel
theorem dL_types_313 : decode cL_types 313 = .ok (.invokevirtual 68, 3) := by decide +kernel
theorem dL_types_316 : decode cL_types 316 = .ok (.ifCond .le 22, 3) := by decide +kernel
theorem dL_types_319 : decode cL_types 319 = .ok (.aload_n 0, 1) := by decide +kernel
theorem dL_types_320 : decode cL_types 320 = .ok (.bipush 48, 2) := by decide +kernel
theorem dL_types_322 : decode cL_types 322 = .ok (.iload 8, 2) := by decide +kernel
theorem dL_types_324 : decode cL_types 324 = .ok (.bipush 10, 2) := by decide +kernel
theorem dL_types_326 : decode cL_types 326 = .ok (.irem, 1) := by decide +kernel
theorem dL_types_327 : decode cL_types 327 = .ok (.iadd, 1) := by decide +kernel
theorem dL_types_328 : decode cL_types 328 = .ok (.invokevirtual 68, 3) := by decide +kernel
theorem dL_types_331 : decode cL_types 331 = .ok (.ifCond .le 7, 3) := by decide +kernel
theorem dL_types_334 : decode cL_types 334 = .ok (.iconst 1, 1) := by decide +kernel
theorem dL_types_335 : decode cL_types 335 = .ok (.goto 4, 3) := by decide +kernel
theorem dL_types_338 : decode cL_types 338 = .ok (.iconst 0, 1) := by decide +kernel
theorem dL_types_339 : decode cL_types 339 = .ok (.istore_n 3, 1) := by decide +kernel
theorem dL_types_340 : decode cL_types 340 = .ok (.iinc 4 1, 3) := by decide +kernel
theorem dL_types_343 : decode cL_types 343 = .ok (.goto (-320), 3) := by decide +kernel
theorem dL_types_346 : decode cL_types 346 = .ok (.iload_n 3, 1) := by decide +kernel
theorem dL_types_347 : decode cL_types 347 = .ok (.ifCond .eq 28, 3) := by decide +kernel
theorem dL_types_350 : decode cL_types 350 = .ok (.iload_n 1, 1) := by decide +kernel
theorem dL_types_351 : decode cL_types 351 = .ok (.bipush 26, 2) := by decide +kernel
theorem dL_types_353 : decode cL_types 353 = .ok (.ishr, 1) := by decide +kernel
theorem dL_types_354 : decode cL_types 354 = .ok (.bipush 6, 2) := by decide +kernel
theorem dL_types_356 : decode cL_types 356 = .ok (.invokestatic 42, 3) := by decide +kernel
theorem dL_types_359 : decode cL_types 359 = .ok (.ifCond .gt 12, 3) := by decide +kernel
theorem dL_types_362 : decode cL_types 362 = .ok (.aload_n 0, 1) := by decide +kernel
theorem dL_types_363 : decode cL_types 363 = .ok (.bipush 44, 2) := by decide +kernel
theorem dL_types_365 : decode cL_types 365 = .ok (.invokevirtual 68, 3) := by decide +kernel
theorem dL_types_368 : decode cL_types 368 = .ok (.ifCond .le 7, 3) := by decide +kernel
theorem dL_types_371 : decode cL_types 371 = .ok (.iconst 1, 1) := by decide +kernel
theorem dL_types_372 : decode cL_types 372 = .ok (.goto 4, 3) := by decide +kernel
theorem dL_types_375 : decode cL_types 375 = .ok (.iconst 0, 1) := by decide +kernel
theorem dL_types_376 : decode cL_types 376 = .ok (.ireturn, 1) := by decide +kernel
theorem dL_runs_0 : decode cL_runs 0 = .ok (.iload_n 1, 1) := by decide +kernel
theorem dL_runs_1 : decode cL_runs 1 = .ok (.bipush 10, 2) := by decide +kernel
theorem dL_runs_3 : decode cL_runs 3 = .ok (.invokestatic 42, 3) := by decide +kernel
theorem dL_runs_6 : decode cL_runs 6 = .ok (.istore_n 2, 1) := by decide +kernel
theorem dL_runs_7 : decode cL_runs 7 = .ok (.aload_n 0, 1) := by decide +kernel
theorem dL_runs_8 : decode cL_runs 8 = .ok (.iload_n 1, 1) := by decide +kernel
theorem dL_runs_9 : decode cL_runs 9 = .ok (.invokestatic 71, 3) := by decide +kernel
theorem dL_runs_12 : decode cL_runs 12 = .ok (.istore_n 3, 1) := by decide +kernel
theorem dL_runs_13 : decode cL_runs 13 = .ok (.aload_n 0, 1) := by decide +kernel
theorem dL_runs_14 : decode cL_runs 14 = .ok (.invokestatic 75, 3) := by decide +kernel
theorem dL_runs_17 : decode cL_runs 17 = .ok (.lstore 4, 2) := by decide +kernel
theorem dL_runs_19 : decode cL_runs 19 = .ok (.aload_n 0, 1) := by decide +kernel
theorem dL_runs_20 : decode cL_runs 20 = .ok (.bipush 17, 2) := by decide +kernel
theorem dL_runs_22 : decode cL_runs 22 = .ok (.invokevirtual 13, 3) := by decide +kernel
theorem dL_runs_25 : decode cL_runs 25 = .ok (.istore 6, 2) := by decide +kernel
theorem dL_runs_27 : decode cL_runs 27 = .ok (.aload_n 0, 1) := by decide +kernel
theorem dL_runs_28 : decode cL_runs 28 = .ok (.bipush 13, 2) := by decide +kernel
theorem dL_runs_30 : decode cL_runs 30 = .ok (.invokevirtual 13, 3) := by decide +kernel
theorem dL_runs_33 : decode cL_runs 33 = .ok (.istore 7, 2) := by decide +kernel
theorem dL_runs_35 : decode cL_runs 35 = .ok (.aload_n 0, 1) := by decide +kernel
theorem dL_runs_36 : decode cL_runs 36 = .ok (.bipush 16, 2) := by decide +kernel
theorem dL_runs_38 : decode cL_runs 38 = .ok (.invokevirtual 13, 3) := by decide +kernel
theorem dL_runs_41 : decode cL_runs 41 = .ok (.istore 8, 2) := by decide +kernel
theorem dL_runs_43 : decode cL_runs 43 = .ok (.aload_n 0, 1) := by decide +kernel
theorem dL_runs_44 : decode cL_runs 44 = .ok (.invokevirtual 79, 3) := by decide +kernel
theorem dL_runs_47 : decode cL_runs 47 = .ok (.istore 9, 2) := by decide +kernel
theorem dL_runs_49 : decode cL_runs 49 = .ok (.aload_n 0, 1) := by decide +kernel
theorem dL_runs_50 : decode cL_runs 50 = .ok (.invokevirtual 82, 3) := by decide +kernel
theorem dL_runs_53 : decode cL_runs 53 = .ok (.istore 10, 2) := by decide +kernel
theorem dL_runs_55 : decode cL_runs 55 = .ok (.aload_n 0, 1) := by decide +kernel
theorem dL_runs_56 : decode cL_runs 56 = .ok (.invokevirtual 65, 3) := by decide +kernel
theorem dL_runs_59 : decode cL_runs 59 = .ok (.istore 11, 2) := by decide +kernel
theorem dL_runs_61 : decode cL_runs 61 = .ok (.iload_n 3, 1) := by decide +kernel
theorem dL_runs_62 : decode cL_runs 62 = .ok (.ifCond .eq 34, 3) := by decide +kernel
theorem dL_runs_65 : decode cL_runs 65 = .ok (.iload 10, 2) := by decide +kernel
theorem dL_runs_67 : decode cL_runs 67 = .ok (.bipush (-2), 2) := by decide +kernel
theorem dL_runs_69 : decode cL_runs 69 = .ok (.if_icmp .ne 7, 3) := by decide +kernel
theorem dL_runs_72 : decode cL_runs 72 = .ok (.iconst 1, 1) := by decide +kernel
theorem dL_runs_73 : decode cL_runs 73 = .ok (.goto 4, 3) := by decide +kernel
theorem dL_runs_76 : decode cL_runs 76 = .ok (.iconst 0, 1) := by decide +kernel
theorem dL_runs_77 : decode cL_runs 77 = .ok (.iload 9, 2) := by decide +kernel
theorem dL_runs_79 : decode cL_runs 79 = .ok (.bipush (-4), 2) := by decide +kernel
theorem dL_runs_81 : decode cL_runs 81 = .ok (.if_icmp .eq 7, 3) := by decide +kernel
theorem dL_runs_84 : decode cL_runs 84 = .ok (.iconst 1, 1) := by decide +kernel
theorem dL_runs_85 : decode cL_runs 85 = .ok (.goto 4, 3) := by decide +kernel
theorem dL_runs_88 : decode cL_runs 88 = .ok (.iconst 0, 1) := by decide +kernel
theorem dL_runs_89 : decode cL_runs 89 = .ok (.if_icmp .ne 7, 3) := by decide +kernel
theorem dL_runs_92 : decode cL_runs 92 = .ok (.iconst 1, 1) := by decide +kernel
theorem dL_runs_93 : decode cL_runs 93 = .ok (.goto 4, 3) := by decide +kernel
theorem dL_runs_96 : decode cL_runs 96 = .ok (.iconst 0, 1) := by decide +kernel
theorem dL_runs_97 : decode cL_runs 97 = .ok (.istore 12, 2) := by decide +kernel
theorem dL_runs_99 : decode cL_runs 99 = .ok (.iload 10, 2) := by decide +kernel
theorem dL_runs_101 : decode cL_runs 101 = .ok (.ifCond .ge 54, 3) := by decide +kernel
theorem dL_runs_104 : decode cL_runs 104 = .ok (.iload 12, 2) := by decide +kernel
theorem dL_runs_106 : decode cL_runs 106 = .ok (.ifCond .eq 47, 3) := by decide +kernel
theorem dL_runs_109 : decode cL_runs 109 = .ok (.iload 9, 2) := by decide +kernel
theorem dL_runs_111 : decode cL_runs 111 = .ok (.ifCond .lt 42, 3) := by decide +kernel
theorem dL_runs_114 : decode cL_runs 114 = .ok (.iload 9, 2) := by decide +kernel
theorem dL_runs_116 : decode cL_runs 116 = .ok (.iload 8, 2) := by decide +kernel
theorem dL_runs_118 : decode cL_runs 118 = .ok (.if_icmp .gt 35, 3) := by decide +kernel
theorem dL_runs_121 : decode cL_runs 121 = .ok (.iload 11, 2) := by decide +kernel
theorem dL_runs_123 : decode cL_runs 123 = .ok (.iload 8, 2) := by decide +kernel
theorem dL_runs_125 : decode cL_runs 125 = .ok (.if_icmp .ne 28, 3) := by decide +kernel
theorem dL_runs_128 : decode cL_runs 128 = .ok (.aload_n 0, 1) := by decide +kernel
theorem dL_runs_129 : decode cL_runs 129 = .ok (.invokestatic 75, 3) := by decide +kernel
theorem dL_runs_132 : decode cL_runs 132 = .ok (.lload 4, 2) := by decide +kernel
theorem dL_runs_134 : decode cL_runs 134 = .ok (.lcmp, 1) := by decide +kernel
theorem dL_runs_135 : decode cL_runs 135 = .ok (.ifCond .ne 18, 3) := by decide +kernel
theorem dL_runs_138 : decode cL_runs 138 = .ok (.aload_n 0, 1) := by decide +kernel
theorem dL_runs_139 : decode cL_runs 139 = .ok (.bipush 17, 2) := by decide +kernel
theorem dL_runs_141 : decode cL_runs 141 = .ok (.invokevirtual 13, 3) := by decide +kernel
theorem dL_runs_144 : decode cL_runs 144 = .ok (.iload 6, 2) := by decide +kernel
theorem dL_runs_146 : decode cL_runs 146 = .ok (.if_icmp .ne 7, 3) := by decide +kernel
theorem dL_runs_149 : decode cL_runs 149 = .ok (.iconst 1, 1) := by decide +kernel
theorem dL_runs_150 : decode cL_runs 150 = .ok (.goto 4, 3) := by decide +kernel
theorem dL_runs_153 : decode cL_runs 153 = .ok (.iconst 0, 1) := by decide +kernel
theorem dL_runs_154 : decode cL_runs 154 = .ok (.ireturn, 1) := by decide +kernel
theorem dL_runs_155 : decode cL_runs 155 = .ok (.aload_n 0, 1) := by decide +kernel
theorem dL_runs_156 : decode cL_runs 156 = .ok (.iconst 0, 1) := by decide +kernel
theorem dL_runs_157 : decode cL_runs 157 = .ok (.invokevirtual 85, 3) := by decide +kernel
theorem dL_runs_160 : decode cL_runs 160 = .ok (.istore 13, 2) := by decide +kernel
theorem dL_runs_162 : decode cL_runs 162 = .ok (.iload 12, 2) := by decide +kernel
theorem dL_runs_164 : decode cL_runs 164 = .ok (.ifCond .eq 148, 3) := by decide +kernel
theorem dL_runs_167 : decode cL_runs 167 = .ok (.iload 10, 2) := by decide +kernel
theorem dL_runs_169 : decode cL_runs 169 = .ok (.iload_n 2, 1) := by decide +kernel
theorem dL_runs_170 : decode cL_runs 170 = .ok (.if_icmp .gt 142, 3) := by decide +kernel
theorem dL_runs_173 : decode cL_runs 173 = .ok (.iload 11, 2) := by decide +kernel
theorem dL_runs_175 : decode cL_runs 175 = .ok (.ifCond .ne 137, 3) := by decide +kernel
theorem dL_runs_178 : decode cL_runs 178 = .ok (.aload_n 0, 1) := by decide +kernel
theorem dL_runs_179 : decode cL_runs 179 = .ok (.bipush 17, 2) := by decide +kernel
theorem dL_runs_181 : decode cL_runs 181 = .ok (.invokevirtual 13, 3) := by decide +kernel
theorem dL_runs_184 : decode cL_runs 184 = .ok (.iload 6, 2) := by decide +kernel
theorem dL_runs_186 : decode cL_runs 186 = .ok (.iconst 4, 1) := by decide +kernel
theorem dL_runs_187 : decode cL_runs 187 = .ok (.if_icmp .ge 10, 3) := by decide +kernel
theorem dL_runs_190 : decode cL_runs 190 = .ok (.iload 6, 2) := by decide +kernel
theorem dL_runs_192 : decode cL_runs 192 = .ok (.iconst 1, 1) := by decide +kernel
theorem dL_runs_193 : decode cL_runs 193 = .ok (.iadd, 1) := by decide +kernel
theorem dL_runs_194 : decode cL_runs 194 = .ok (.goto 4, 3) := by decide +kernel
theorem dL_runs_197 : decode cL_runs 197 = .ok (.iconst 4, 1) := by decide +kernel
theorem dL_runs_198 : decode cL_runs 198 = .ok (.if_icmp .ne 114, 3) := by decide +kernel
theorem dL_runs_201 : decode cL_runs 201 = .ok (.aload_n 0, 1) := by decide +kernel
theorem dL_runs_202 : decode cL_runs 202 = .ok (.bipush 13, 2) := by decide +kernel
theorem dL_runs_204 : decode cL_runs 204 = .ok (.invokevirtual 13, 3) := by decide +kernel
theorem dL_runs_207 : decode cL_runs 207 = .ok (.iload 7, 2) := by decide +kernel
theorem dL_runs_209 : decode cL_runs 209 = .ok (.iload 13, 2) := by decide +kernel
theorem dL_runs_211 : decode cL_runs 211 = .ok (.ifCond .le 7, 3) := by decide +kernel
theorem dL_runs_214 : decode cL_runs 214 = .ok (.iconst 1, 1) := by decide +kernel
theorem dL_runs_215 : decode cL_runs 215 = .ok (.goto 4, 3) := by decide +kernel
theorem dL_runs_218 : decode cL_runs 218 = .ok (.iconst 0, 1) := by decide +kernel
theorem dL_runs_219 : decode cL_runs 219 = .ok (.iadd, 1) := by decide +kernel
theorem dL_runs_220 : decode cL_runs 220 = .ok (.if_icmp .ne 92, 3) := by decide +kernel
theorem dL_runs_223 : decode cL_runs 223 = .ok (.iload 10, 2) := by decide +kernel
theorem dL_runs_225 : decode cL_runs 225 = .ok (.iload_n 2, 1) := by decide +kernel
theorem dL_runs_226 : decode cL_runs 226 = .ok (.if_icmp .ne 7, 3) := by decide +kernel
theorem dL_runs_229 : decode cL_runs 229 = .ok (.iconst 1, 1) := by decide +kernel
theorem dL_runs_230 : decode cL_runs 230 = .ok (.goto 4, 3) := by decide +kernel
theorem dL_runs_233 : decode cL_runs 233 = .ok (.iconst 0, 1) := by decide +kernel
theorem dL_runs_234 : decode cL_runs 234 = .ok (.iload 13, 2) := by decide +kernel
theorem dL_runs_236 : decode cL_runs 236 = .ok (.bipush (-4), 2) := by decide +kernel
theorem dL_runs_238 : decode cL_runs 238 = .ok (.if_icmp .ne 7, 3) := by decide +kernel
theorem dL_runs_241 : decode cL_runs 241 = .ok (.iconst 1, 1) := by decide +kernel
theorem dL_runs_242 : decode cL_runs 242 = .ok (.goto 4, 3) := by decide +kernel
theorem dL_runs_245 : decode cL_runs 245 = .ok (.iconst 0, 1) := by decide +kernel
theorem dL_runs_246 : decode cL_runs 246 = .ok (.if_icmp .ne 66, 3) := by decide +kernel
theorem dL_runs_249 : decode cL_runs 249 = .ok (.iload 13, 2) := by decide +kernel
theorem dL_runs_251 : decode cL_runs 251 = .ok (.bipush (-4), 2) := by decide +kernel
theorem dL_runs_253 : decode cL_runs 253 = .ok (.if_icmp .eq 55, 3) := by decide +kernel
theorem dL_runs_256 : decode cL_runs 256 = .ok (.iload 13, 2) := by decide +kernel
theorem dL_runs_258 : decode cL_runs 258 = .ok (.bipush (-2), 2) := by decide +kernel
theorem dL_runs_260 : decode cL_runs 260 = .ok (.if_icmp .eq 16, 3) := by decide +kernel
theorem dL_runs_263 : decode cL_runs 263 = .ok (.iload 13, 2) := by decide +kernel
theorem dL_runs_265 : decode cL_runs 265 = .ok (.iconst 1, 1) := by decide +kernel
theorem dL_runs_266 : decode cL_runs 266 = .ok (.if_icmp .lt 46, 3) := by decide +kernel
theorem dL_runs_269 : decode cL_runs 269 = .ok (.iload 13, 2) := by decide +kernel
theorem dL_runs_271 : decode cL_runs 271 = .ok (.bipush 9, 2) := by decide +kernel
theorem dL_runs_273 : decode cL_runs 273 = .ok (.if_icmp .gt 39, 3) := by decide +kernel
theorem dL_runs_276 : decode cL_runs 276 = .ok (.aload_n 0, 1) := by decide +kernel
theorem dL_runs_277 : decode cL_runs 277 = .ok (.iconst 1, 1) := by decide +kernel
theorem dL_runs_278 : decode cL_runs 278 = .ok (.invokevirtual 85, 3) := by decide +kernel
theorem dL_runs_281 : decode cL_runs 281 = .ok (.iload 10, 2) := by decide +kernel
theorem dL_runs_283 : decode cL_runs 283 = .ok (.if_icmp .ne 29, 3) := by decide +kernel
theorem dL_runs_286 : decode cL_runs 286 = .ok (.aload_n 0, 1) := by decide +kernel
theorem dL_runs_287 : decode cL_runs 287 = .ok (.iconst 2, 1) := by decide +kernel
theorem dL_runs_288 : decode cL_runs 288 = .ok (.invokevirtual 85, 3) := by decide +kernel
theorem dL_runs_291 : decode cL_runs 291 = .ok (.iconst 2, 1) := by decide +kernel
theorem dL_runs_292 : decode cL_runs 292 = .ok (.iload 10, 2) := by decide +kernel
theorem dL_runs_294 : decode cL_runs 294 = .ok (.imul, 1) := by decide +kernel
theorem dL_runs_295 : decode cL_runs 295 = .ok (.if_icmp .lt 17, 3) := by decide +kernel
theorem dL_runs_298 : decode cL_runs 298 = .ok (.aload_n 0, 1) := by decide +kernel
theorem dL_runs_299 : decode cL_runs 299 = .ok (.iconst 2, 1) := by decide +kernel
theorem dL_runs_300 : decode cL_runs 300 = .ok (.invokevirtual 85, 3) := by decide +kernel
theorem dL_runs_303 : decode cL_runs 303 = .ok (.iload 8, 2) := by decide +kernel
theorem dL_runs_305 : decode cL_runs 305 = .ok (.if_icmp .ge 7, 3) := by decide +kernel
theorem dL_runs_308 : decode cL_runs 308 = .ok (.iconst 1, 1) := by decide +kernel
theorem dL_runs_309 : decode cL_runs 309 = .ok (.goto 4, 3) := by decide +kernel
theorem dL_runs_312 : decode cL_runs 312 = .ok (.iconst 0, 1) := by decide +kernel
theorem dL_runs_313 : decode cL_runs 313 = .ok (.ireturn, 1) := by decide +kernel
theorem dL_deeds_0 : decode cL_deeds 0 = .ok (.iload_n 2, 1) := by decide +kernel
theorem dL_deeds_1 : decode cL_deeds 1 = .ok (.iload_n 2, 1) := by decide +kernel
theorem dL_deeds_2 : decode cL_deeds 2 = .ok (.bipush 15, 2) := by decide +kernel
theorem dL_deeds_4 : decode cL_deeds 4 = .ok (.ishr, 1) := by decide +kernel
theorem dL_deeds_5 : decode cL_deeds 5 = .ok (.bipush 7, 2) := by decide +kernel
theorem dL_deeds_7 : decode cL_deeds 7 = .ok (.invokestatic 42, 3) := by decide +kernel
theorem dL_deeds_10 : decode cL_deeds 10 = .ok (.ifCond .ne 7, 3) := by decide +kernel
theorem dL_deeds_13 : decode cL_deeds 13 = .ok (.iconst 5, 1) := by decide +kernel
theorem dL_deeds_14 : decode cL_deeds 14 = .ok (.goto 4, 3) := by decide +kernel
theorem dL_deeds_17 : decode cL_deeds 17 = .ok (.iconst 4, 1) := by decide +kernel
theorem dL_deeds_18 : decode cL_deeds 18 = .ok (.invokestatic 42, 3) := by decide +kernel
theorem dL_deeds_21 : decode cL_deeds 21 = .ok (.istore_n 3, 1) := by decide +kernel
theorem dL_deeds_22 : decode cL_deeds 22 = .ok (.iload_n 2, 1) := by decide +kernel
theorem dL_deeds_23 : decode cL_deeds 23 = .ok (.iconst 3, 1) := by decide +kernel
theorem dL_deeds_24 : decode cL_deeds 24 = .ok (.ishr, 1) := by decide +kernel
theorem dL_deeds_25 : decode cL_deeds 25 = .ok (.bipush 24, 2) := by decide +kernel
theorem dL_deeds_27 : decode cL_deeds 27 = .ok (.invokestatic 42, 3) := by decide +kernel
theorem dL_deeds_30 : decode cL_deeds 30 = .ok (.istore 4, 2) := by decide +kernel
theorem dL_deeds_32 : decode cL_deeds 32 = .ok (.iload_n 2, 1) := by decide +kernel
theorem dL_deeds_33 : decode cL_deeds 33 = .ok (.bipush 14, 2) := by decide +kernel
theorem dL_deeds_35 : decode cL_deeds 35 = .ok (.ishr, 1) := by decide +kernel
theorem dL_deeds_36 : decode cL_deeds 36 = .ok (.bipush 9, 2) := by decide +kernel
theorem dL_deeds_38 : decode cL_deeds 38 = .ok (.invokestatic 42, 3) := by decide +kernel
theorem dL_deeds_41 : decode cL_deeds 41 = .ok (.ifCond .ne 8, 3) := by decide +kernel
theorem dL_deeds_44 : decode cL_deeds 44 = .ok (.bipush 28, 2) := by decide +kernel
theorem dL_deeds_46 : decode cL_deeds 46 = .ok (.goto 28, 3) := by decide +kernel
theorem dL_deeds_49 : decode cL_deeds 49 = .ok (.iload 4, 2) := by decide +kernel
theorem dL_deeds_51 : decode cL_deeds 51 = .ok (.bipush 12, 2) := by decide +kernel
theorem dL_deeds_53 : decode cL_deeds 53 = .ok (.if_icmp .ge 17, 3) := by decide +kernel
theorem dL_deeds_56 : decode cL_deeds 56 = .ok (.iload 4, 2) := by decide +kernel
theorem dL_deeds_58 : decode cL_deeds 58 = .ok (.iconst 3, 1) := by decide +kernel
theorem dL_deeds_59 : decode cL_deeds 59 = .ok (.idiv, 1) := by decide +kernel
theorem dL_deeds_60 : decode cL_deeds 60 = .ok (.iconst 4, 1) := by decide +kernel
theorem dL_deeds_61 : decode cL_deeds 61 = .ok (.imul, 1) := by decide +kernel
theorem dL_deeds_62 : decode cL_deeds 62 = .ok (.iload 4, 2) := by decide +kernel
theorem dL_deeds_64 : decode cL_deeds 64 = .ok (.iconst 3, 1) := by decide +kernel
theorem dL_deeds_65 : decode cL_deeds 65 = .ok (.irem, 1) := by decide +kernel
theorem dL_deeds_66 : decode cL_deeds 66 = .ok (.iadd, 1) := by decide +kernel
theorem dL_deeds_67 : decode cL_deeds 67 = .ok (.goto 7, 3) := by decide +kernel
theorem dL_deeds_70 : decode cL_deeds 70 = .ok (.iload 4, 2) := by decide +kernel
theorem dL_deeds_72 : decode cL_deeds 72 = .ok (.iconst 4, 1) := by decide +kernel
theorem dL_deeds_73 : decode cL_deeds 73 = .ok (.iadd, 1) := by decide +kernel
theorem dL_deeds_74 : decode cL_deeds 74 = .ok (.istore 4, 2) := by decide +kernel
theorem dL_deeds_76 : decode cL_deeds 76 = .ok (.iload_n 3, 1) := by decide +kernel
theorem dL_deeds_77 : decode cL_deeds 77 = .ok (.iconst 4, 1) := by decide +kernel
theorem dL_deeds_78 : decode cL_deeds 78 = .ok (.if_icmp .eq 10, 3) := by decide +kernel
theorem dL_deeds_81 : decode cL_deeds 81 = .ok (.iload 4, 2) := by decide +kernel
theorem dL_deeds_83 : decode cL_deeds 83 = .ok (.bipush 28, 2) := by decide +kernel
theorem dL_deeds_85 : decode cL_deeds 85 = .ok (.if_icmp .ne 7, 3) := by decide +kernel
theorem dL_deeds_88 : decode cL_deeds 88 = .ok (.iconst 1, 1) := by decide +kernel
theorem dL_deeds_89 : decode cL_deeds 89 = .ok (.goto 4, 3) := by decide +kernel
theorem dL_deeds_92 : decode cL_deeds 92 = .ok (.iconst 0, 1) := by decide +kernel
theorem dL_deeds_93 : decode cL_deeds 93 = .ok (.istore 5, 2) := by decide +kernel
theorem dL_deeds_95 : decode cL_deeds 95 = .ok (.aload_n 0, 1) := by decide +kernel
theorem dL_deeds_96 : decode cL_deeds 96 = .ok (.bipush 13, 2) := by decide +kernel
theorem dL_deeds_98 : decode cL_deeds 98 = .ok (.invokevirtual 13, 3) := by decide +kernel
theorem dL_deeds_101 : decode cL_deeds 101 = .ok (.istore 6, 2) := by decide +kernel
theorem dL_deeds_103 : decode cL_deeds 103 = .ok (.aload_n 0, 1) := by decide +kernel
theorem dL_deeds_104 : decode cL_deeds 104 = .ok (.iconst 5, 1) := by decide +kernel
theorem dL_deeds_105 : decode cL_deeds 105 = .ok (.invokevirtual 13, 3) := by decide +kernel
theorem dL_deeds_108 : decode cL_deeds 108 = .ok (.istore 7, 2) := by decide +kernel
theorem dL_deeds_110 : decode cL_deeds 110 = .ok (.iload 4, 2) := by decide +kernel
theorem dL_deeds_112 : decode cL_deeds 112 = .ok (.bipush 28, 2) := by decide +kernel
theorem dL_deeds_114 : decode cL_deeds 114 = .ok (.if_icmp .ne 8, 3) := by decide +kernel
theorem dL_deeds_117 : decode cL_deeds 117 = .ok (.bipush (-4), 2) := by decide +kernel
theorem dL_deeds_119 : decode cL_deeds 119 = .ok (.goto 10, 3) := by decide +kernel
theorem dL_deeds_122 : decode cL_deeds 122 = .ok (.aload_n 0, 1) := by decide +kernel
theorem dL_deeds_123 : decode cL_deeds 123 = .ok (.iload 4, 2) := by decide +kernel
theorem dL_deeds_125 : decode cL_deeds 125 = .ok (.iconst 3, 1) := by decide +kernel
theorem dL_deeds_126 : decode cL_deeds 126 = .ok (.invokevirtual 29, 3) := by decide +kernel
theorem dL_deeds_129 : decode cL_deeds 129 = .ok (.istore 8, 2) := by decide +kernel
theorem dL_deeds_131 : decode cL_deeds 131 = .ok (.iload_n 1, 1) := by decide +kernel
theorem dL_deeds_132 : decode cL_deeds 132 = .ok (.ifCond .ne 126, 3) := by decide +kernel
theorem dL_deeds_135 : decode cL_deeds 135 = .ok (.iload 5, 2) := by decide +kernel
theorem dL_deeds_137 : decode cL_deeds 137 = .ok (.ifCond .eq 7, 3) := by decide +kernel
theorem dL_deeds_140 : decode cL_deeds 140 = .ok (.iconst 0, 1) := by decide +kernel
theorem dL_deeds_141 : decode cL_deeds 141 = .ok (.goto 10, 3) := by decide +kernel
theorem dL_deeds_144 : decode cL_deeds 144 = .ok (.aload_n 0, 1) := by decide +kernel
theorem dL_deeds_145 : decode cL_deeds 145 = .ok (.iload_n 3, 1) := by decide +kernel
theorem dL_deeds_146 : decode cL_deeds 146 = .ok (.iload 4, 2) := by decide +kernel
theorem dL_deeds_148 : decode cL_deeds 148 = .ok (.invokevirtual 45, 3) := by decide +kernel
theorem dL_deeds_151 : decode cL_deeds 151 = .ok (.istore 9, 2) := by decide +kernel
theorem dL_deeds_153 : decode cL_deeds 153 = .ok (.aload_n 0, 1) := by decide +kernel
theorem dL_deeds_154 : decode cL_deeds 154 = .ok (.iload_n 3, 1) := by decide +kernel
theorem dL_deeds_155 : decode cL_deeds 155 = .ok (.iload 4, 2) := by decide +kernel
theorem dL_deeds_157 : decode cL_deeds 157 = .ok (.invokevirtual 88, 3) := by decide +kernel
theorem dL_deeds_160 : decode cL_deeds 160 = .ok (.istore 10, 2) := by decide +kernel
theorem dL_deeds_162 : decode cL_deeds 162 = .ok (.iload 10, 2) := by decide +kernel
