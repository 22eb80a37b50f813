theorem dL_deeds_164 : decode cL_deeds 164 = .ok (.iload 5, 2) := by decide +kernel
theorem dL_deeds_166 : decode cL_deeds 166 = .ok (.ifCond .eq 7, 3) := by decide +kernel
theorem dL_deeds_169 : decode cL_deeds 169 = .ok (.iconst (-1), 1) := by decide +kernel
theorem dL_deeds_170 : decode cL_deeds 170 = .ok (.goto 18, 3) := by decide +kernel
theorem dL_deeds_173 : decode cL_deeds 173 = .ok (.iload 9, 2) := by decide +kernel
theorem dL_deeds_175 : decode cL_deeds 175 = .ok (.ifCond .le 8, 3) := by decide +kernel
theorem dL_deeds_178 : decode cL_deeds 178 = .ok (.iload 9, 2) := by decide +kernel
theorem dL_deeds_180 : decode cL_deeds 180 = .ok (.goto 8, 3) := by decide +kernel
theorem dL_deeds_183 : decode cL_deeds 183 = .ok (.bipush 11, 2) := by decide +kernel
theorem dL_deeds_185 : decode cL_deeds 185 = .ok (.iload 7, 2) := by decide +kernel
theorem dL_deeds_187 : decode cL_deeds 187 = .ok (.iadd, 1) := by decide +kernel
theorem dL_deeds_188 : decode cL_deeds 188 = .ok (.if_icmp .ne 68, 3) := by decide +kernel
theorem dL_deeds_191 : decode cL_deeds 191 = .ok (.aload_n 0, 1) := by decide +kernel
theorem dL_deeds_192 : decode cL_deeds 192 = .ok (.bipush 13, 2) := by decide +kernel
theorem dL_deeds_194 : decode cL_deeds 194 = .ok (.invokevirtual 13, 3) := by decide +kernel
theorem dL_deeds_197 : decode cL_deeds 197 = .ok (.iload 6, 2) := by decide +kernel
theorem dL_deeds_199 : decode cL_deeds 199 = .ok (.iload 9, 2) := by decide +kernel
theorem dL_deeds_201 : decode cL_deeds 201 = .ok (.ifCond .le 7, 3) := by decide +kernel
theorem dL_deeds_204 : decode cL_deeds 204 = .ok (.iconst 1, 1) := by decide +kernel
theorem dL_deeds_205 : decode cL_deeds 205 = .ok (.goto 4, 3) := by decide +kernel
theorem dL_deeds_208 : decode cL_deeds 208 = .ok (.iconst 0, 1) := by decide +kernel
theorem dL_deeds_209 : decode cL_deeds 209 = .ok (.iadd, 1) := by decide +kernel
theorem dL_deeds_210 : decode cL_deeds 210 = .ok (.if_icmp .ne 46, 3) := by decide +kernel
theorem dL_deeds_213 : decode cL_deeds 213 = .ok (.iload 5, 2) := by decide +kernel
theorem dL_deeds_215 : decode cL_deeds 215 = .ok (.ifCond .ne 37, 3) := by decide +kernel
theorem dL_deeds_218 : decode cL_deeds 218 = .ok (.iload 9, 2) := by decide +kernel
theorem dL_deeds_220 : decode cL_deeds 220 = .ok (.ifCond .gt 32, 3) := by decide +kernel
theorem dL_deeds_223 : decode cL_deeds 223 = .ok (.aload_n 0, 1) := by decide +kernel
theorem dL_deeds_224 : decode cL_deeds 224 = .ok (.iload 4, 2) := by decide +kernel
theorem dL_deeds_226 : decode cL_deeds 226 = .ok (.iconst 3, 1) := by decide +kernel
theorem dL_deeds_227 : decode cL_deeds 227 = .ok (.invokevirtual 29, 3) := by decide +kernel
theorem dL_deeds_230 : decode cL_deeds 230 = .ok (.iload_n 3, 1) := by decide +kernel
theorem dL_deeds_231 : decode cL_deeds 231 = .ok (.if_icmp .ne 25, 3) := by decide +kernel
theorem dL_deeds_234 : decode cL_deeds 234 = .ok (.aload_n 0, 1) := by decide +kernel
theorem dL_deeds_235 : decode cL_deeds 235 = .ok (.iload 4, 2) := by decide +kernel
theorem dL_deeds_237 : decode cL_deeds 237 = .ok (.iconst 4, 1) := by decide +kernel
theorem dL_deeds_238 : decode cL_deeds 238 = .ok (.invokevirtual 29, 3) := by decide +kernel
theorem dL_deeds_241 : decode cL_deeds 241 = .ok (.aload_n 0, 1) := by decide +kernel
theorem dL_deeds_242 : decode cL_deeds 242 = .ok (.iload 4, 2) := by decide +kernel
theorem dL_deeds_244 : decode cL_deeds 244 = .ok (.iconst 5, 1) := by decide +kernel
theorem dL_deeds_245 : decode cL_deeds 245 = .ok (.invokevirtual 29, 3) := by decide +kernel
theorem dL_deeds_248 : decode cL_deeds 248 = .ok (.iadd, 1) := by decide +kernel
theorem dL_deeds_249 : decode cL_deeds 249 = .ok (.ifCond .ne 7, 3) := by decide +kernel
theorem dL_deeds_252 : decode cL_deeds 252 = .ok (.iconst 1, 1) := by decide +kernel
theorem dL_deeds_253 : decode cL_deeds 253 = .ok (.goto 4, 3) := by decide +kernel
theorem dL_deeds_256 : decode cL_deeds 256 = .ok (.iconst 0, 1) := by decide +kernel
theorem dL_deeds_257 : decode cL_deeds 257 = .ok (.ireturn, 1) := by decide +kernel
theorem dL_deeds_258 : decode cL_deeds 258 = .ok (.iload_n 1, 1) := by decide +kernel
theorem dL_deeds_259 : decode cL_deeds 259 = .ok (.iconst 1, 1) := by decide +kernel
theorem dL_deeds_260 : decode cL_deeds 260 = .ok (.if_icmp .ne 168, 3) := by decide +kernel
theorem dL_deeds_263 : decode cL_deeds 263 = .ok (.iload 5, 2) := by decide +kernel
theorem dL_deeds_265 : decode cL_deeds 265 = .ok (.ifCond .ne 13, 3) := by decide +kernel
theorem dL_deeds_268 : decode cL_deeds 268 = .ok (.iload 8, 2) := by decide +kernel
theorem dL_deeds_270 : decode cL_deeds 270 = .ok (.iload_n 3, 1) := by decide +kernel
theorem dL_deeds_271 : decode cL_deeds 271 = .ok (.if_icmp .ne 7, 3) := by decide +kernel
theorem dL_deeds_274 : decode cL_deeds 274 = .ok (.iconst 1, 1) := by decide +kernel
theorem dL_deeds_275 : decode cL_deeds 275 = .ok (.goto 4, 3) := by decide +kernel
theorem dL_deeds_278 : decode cL_deeds 278 = .ok (.iconst 0, 1) := by decide +kernel
theorem dL_deeds_279 : decode cL_deeds 279 = .ok (.istore 9, 2) := by decide +kernel
theorem dL_deeds_281 : decode cL_deeds 281 = .ok (.iload 9, 2) := by decide +kernel
theorem dL_deeds_283 : decode cL_deeds 283 = .ok (.ifCond .eq 21, 3) := by decide +kernel
theorem dL_deeds_286 : decode cL_deeds 286 = .ok (.aload_n 0, 1) := by decide +kernel
theorem dL_deeds_287 : decode cL_deeds 287 = .ok (.iload 4, 2) := by decide +kernel
theorem dL_deeds_289 : decode cL_deeds 289 = .ok (.iconst 4, 1) := by decide +kernel
theorem dL_deeds_290 : decode cL_deeds 290 = .ok (.invokevirtual 29, 3) := by decide +kernel
theorem dL_deeds_293 : decode cL_deeds 293 = .ok (.aload_n 0, 1) := by decide +kernel
theorem dL_deeds_294 : decode cL_deeds 294 = .ok (.iload 4, 2) := by decide +kernel
theorem dL_deeds_296 : decode cL_deeds 296 = .ok (.iconst 5, 1) := by decide +kernel
theorem dL_deeds_297 : decode cL_deeds 297 = .ok (.invokevirtual 29, 3) := by decide +kernel
theorem dL_deeds_300 : decode cL_deeds 300 = .ok (.iadd, 1) := by decide +kernel
theorem dL_deeds_301 : decode cL_deeds 301 = .ok (.goto 4, 3) := by decide +kernel
theorem dL_deeds_304 : decode cL_deeds 304 = .ok (.iconst 0, 1) := by decide +kernel
theorem dL_deeds_305 : decode cL_deeds 305 = .ok (.istore 10, 2) := by decide +kernel
theorem dL_deeds_307 : decode cL_deeds 307 = .ok (.aload_n 0, 1) := by decide +kernel
theorem dL_deeds_308 : decode cL_deeds 308 = .ok (.iload_n 3, 1) := by decide +kernel
theorem dL_deeds_309 : decode cL_deeds 309 = .ok (.iload 4, 2) := by decide +kernel
theorem dL_deeds_311 : decode cL_deeds 311 = .ok (.invokevirtual 91, 3) := by decide +kernel
theorem dL_deeds_314 : decode cL_deeds 314 = .ok (.istore 11, 2) := by decide +kernel
theorem dL_deeds_316 : decode cL_deeds 316 = .ok (.iload 11, 2) := by decide +kernel
theorem dL_deeds_318 : decode cL_deeds 318 = .ok (.iload 5, 2) := by decide +kernel
theorem dL_deeds_320 : decode cL_deeds 320 = .ok (.ifCond .eq 7, 3) := by decide +kernel
theorem dL_deeds_323 : decode cL_deeds 323 = .ok (.iconst (-1), 1) := by decide +kernel
theorem dL_deeds_324 : decode cL_deeds 324 = .ok (.goto 30, 3) := by decide +kernel
theorem dL_deeds_327 : decode cL_deeds 327 = .ok (.iload 9, 2) := by decide +kernel
theorem dL_deeds_329 : decode cL_deeds 329 = .ok (.ifCond .eq 11, 3) := by decide +kernel
theorem dL_deeds_332 : decode cL_deeds 332 = .ok (.bipush 10, 2) := by decide +kernel
theorem dL_deeds_334 : decode cL_deeds 334 = .ok (.iload 10, 2) := by decide +kernel
theorem dL_deeds_336 : decode cL_deeds 336 = .ok (.iadd, 1) := by decide +kernel
theorem dL_deeds_337 : decode cL_deeds 337 = .ok (.goto 17, 3) := by decide +kernel
theorem dL_deeds_340 : decode cL_deeds 340 = .ok (.iload 8, 2) := by decide +kernel
theorem dL_deeds_342 : decode cL_deeds 342 = .ok (.bipush (-4), 2) := by decide +kernel
theorem dL_deeds_344 : decode cL_deeds 344 = .ok (.if_icmp .ne 8, 3) := by decide +kernel
theorem dL_deeds_347 : decode cL_deeds 347 = .ok (.bipush 6, 2) := by decide +kernel
theorem dL_deeds_349 : decode cL_deeds 349 = .ok (.goto 5, 3) := by decide +kernel
theorem dL_deeds_352 : decode cL_deeds 352 = .ok (.bipush 7, 2) := by decide +kernel
theorem dL_deeds_354 : decode cL_deeds 354 = .ok (.if_icmp .ne 72, 3) := by decide +kernel
theorem dL_deeds_357 : decode cL_deeds 357 = .ok (.aload_n 0, 1) := by decide +kernel
theorem dL_deeds_358 : decode cL_deeds 358 = .ok (.bipush 13, 2) := by decide +kernel
theorem dL_deeds_360 : decode cL_deeds 360 = .ok (.invokevirtual 13, 3) := by decide +kernel
theorem dL_deeds_363 : decode cL_deeds 363 = .ok (.iload 6, 2) := by decide +kernel
theorem dL_deeds_365 : decode cL_deeds 365 = .ok (.iload 5, 2) := by decide +kernel
theorem dL_deeds_367 : decode cL_deeds 367 = .ok (.ifCond .ne 8, 3) := by decide +kernel
theorem dL_deeds_370 : decode cL_deeds 370 = .ok (.iload 9, 2) := by decide +kernel
theorem dL_deeds_372 : decode cL_deeds 372 = .ok (.ifCond .eq 7, 3) := by decide +kernel
theorem dL_deeds_375 : decode cL_deeds 375 = .ok (.iconst 0, 1) := by decide +kernel
theorem dL_deeds_376 : decode cL_deeds 376 = .ok (.goto 4, 3) := by decide +kernel
theorem dL_deeds_379 : decode cL_deeds 379 = .ok (.iconst 1, 1) := by decide +kernel
theorem dL_deeds_380 : decode cL_deeds 380 = .ok (.iadd, 1) := by decide +kernel
theorem dL_deeds_381 : decode cL_deeds 381 = .ok (.if_icmp .ne 45, 3) := by decide +kernel
theorem dL_deeds_384 : decode cL_deeds 384 = .ok (.aload_n 0, 1) := by decide +kernel
theorem dL_deeds_385 : decode cL_deeds 385 = .ok (.iconst 5, 1) := by decide +kernel
theorem dL_deeds_386 : decode cL_deeds 386 = .ok (.invokevirtual 13, 3) := by decide +kernel
theorem dL_deeds_389 : decode cL_deeds 389 = .ok (.iload 7, 2) := by decide +kernel
theorem dL_deeds_391 : decode cL_deeds 391 = .ok (.iload 9, 2) := by decide +kernel
theorem dL_deeds_393 : decode cL_deeds 393 = .ok (.ifCond .eq 7, 3) := by decide +kernel
theorem dL_deeds_396 : decode cL_deeds 396 = .ok (.iconst 1, 1) := by decide +kernel
theorem dL_deeds_397 : decode cL_deeds 397 = .ok (.goto 4, 3) := by decide +kernel
theorem dL_deeds_400 : decode cL_deeds 400 = .ok (.iconst 0, 1) := by decide +kernel
theorem dL_deeds_401 : decode cL_deeds 401 = .ok (.isub, 1) := by decide +kernel
theorem dL_deeds_402 : decode cL_deeds 402 = .ok (.if_icmp .ne 24, 3) := by decide +kernel
theorem dL_deeds_405 : decode cL_deeds 405 = .ok (.iload 9, 2) := by decide +kernel
theorem dL_deeds_407 : decode cL_deeds 407 = .ok (.ifCond .eq 15, 3) := by decide +kernel
theorem dL_deeds_410 : decode cL_deeds 410 = .ok (.aload_n 0, 1) := by decide +kernel
theorem dL_deeds_411 : decode cL_deeds 411 = .ok (.iload 4, 2) := by decide +kernel
theorem dL_deeds_413 : decode cL_deeds 413 = .ok (.iconst 3, 1) := by decide +kernel
theorem dL_deeds_414 : decode cL_deeds 414 = .ok (.invokevirtual 29, 3) := by decide +kernel
theorem dL_deeds_417 : decode cL_deeds 417 = .ok (.bipush (-4), 2) := by decide +kernel
theorem dL_deeds_419 : decode cL_deeds 419 = .ok (.if_icmp .ne 7, 3) := by decide +kernel
theorem dL_deeds_422 : decode cL_deeds 422 = .ok (.iconst 1, 1) := by decide +kernel
theorem dL_deeds_423 : decode cL_deeds 423 = .ok (.goto 4, 3) := by decide +kernel
theorem dL_deeds_426 : decode cL_deeds 426 = .ok (.iconst 0, 1) := by decide +kernel
theorem dL_deeds_427 : decode cL_deeds 427 = .ok (.ireturn, 1) := by decide +kernel
theorem dL_deeds_428 : decode cL_deeds 428 = .ok (.iload_n 3, 1) := by decide +kernel
theorem dL_deeds_429 : decode cL_deeds 429 = .ok (.iconst 4, 1) := by decide +kernel
theorem dL_deeds_430 : decode cL_deeds 430 = .ok (.if_icmp .ne 7, 3) := by decide +kernel
theorem dL_deeds_433 : decode cL_deeds 433 = .ok (.iconst 0, 1) := by decide +kernel
theorem dL_deeds_434 : decode cL_deeds 434 = .ok (.goto 9, 3) := by decide +kernel
theorem dL_deeds_437 : decode cL_deeds 437 = .ok (.aload_n 0, 1) := by decide +kernel
theorem dL_deeds_438 : decode cL_deeds 438 = .ok (.iload_n 3, 1) := by decide +kernel
theorem dL_deeds_439 : decode cL_deeds 439 = .ok (.iconst 3, 1) := by decide +kernel
theorem dL_deeds_440 : decode cL_deeds 440 = .ok (.invokevirtual 32, 3) := by decide +kernel
theorem dL_deeds_443 : decode cL_deeds 443 = .ok (.istore 9, 2) := by decide +kernel
theorem dL_deeds_445 : decode cL_deeds 445 = .ok (.iload 4, 2) := by decide +kernel
theorem dL_deeds_447 : decode cL_deeds 447 = .ok (.bipush 28, 2) := by decide +kernel
theorem dL_deeds_449 : decode cL_deeds 449 = .ok (.if_icmp .ne 7, 3) := by decide +kernel
theorem dL_deeds_452 : decode cL_deeds 452 = .ok (.iconst 0, 1) := by decide +kernel
theorem dL_deeds_453 : decode cL_deeds 453 = .ok (.goto 10, 3) := by decide +kernel
theorem dL_deeds_456 : decode cL_deeds 456 = .ok (.aload_n 0, 1) := by decide +kernel
theorem dL_deeds_457 : decode cL_deeds 457 = .ok (.iload 4, 2) := by decide +kernel
theorem dL_deeds_459 : decode cL_deeds 459 = .ok (.iconst 1, 1) := by decide +kernel
theorem dL_deeds_460 : decode cL_deeds 460 = .ok (.invokevirtual 29, 3) := by decide +kernel
theorem dL_deeds_463 : decode cL_deeds 463 = .ok (.istore 10, 2) := by decide +kernel
theorem dL_deeds_465 : decode cL_deeds 465 = .ok (.iload 4, 2) := by decide +kernel
theorem dL_deeds_467 : decode cL_deeds 467 = .ok (.bipush 28, 2) := by decide +kernel
theorem dL_deeds_469 : decode cL_deeds 469 = .ok (.if_icmp .ne 7, 3) := by decide +kernel
theorem dL_deeds_472 : decode cL_deeds 472 = .ok (.iconst 0, 1) := by decide +kernel
theorem dL_deeds_473 : decode cL_deeds 473 = .ok (.goto 10, 3) := by decide +kernel
theorem dL_deeds_476 : decode cL_deeds 476 = .ok (.aload_n 0, 1) := by decide +kernel
theorem dL_deeds_477 : decode cL_deeds 477 = .ok (.iload 4, 2) := by decide +kernel
theorem dL_deeds_479 : decode cL_deeds 479 = .ok (.iconst 2, 1) := by decide +kernel
theorem dL_deeds_480 : decode cL_deeds 480 = .ok (.invokevirtual 29, 3) := by decide +kernel
theorem dL_deeds_483 : decode cL_deeds 483 = .ok (.istore 11, 2) := by decide +kernel
theorem dL_deeds_485 : decode cL_deeds 485 = .ok (.iload 5, 2) := by decide +kernel
theorem dL_deeds_487 : decode cL_deeds 487 = .ok (.ifCond .ne 21, 3) := by decide +kernel
theorem dL_deeds_490 : decode cL_deeds 490 = .ok (.iload 9, 2) := by decide +kernel
theorem dL_deeds_492 : decode cL_deeds 492 = .ok (.iload 10, 2) := by decide +kernel
theorem dL_deeds_494 : decode cL_deeds 494 = .ok (.if_icmp .eq 14, 3) := by decide +kernel
theorem dL_deeds_497 : decode cL_deeds 497 = .ok (.iload 9, 2) := by decide +kernel
theorem dL_deeds_499 : decode cL_deeds 499 = .ok (.iload 11, 2) := by decide +kernel
theorem dL_deeds_501 : decode cL_deeds 501 = .ok (.if_icmp .eq 7, 3) := by decide +kernel
theorem dL_deeds_504 : decode cL_deeds 504 = .ok (.iconst 1, 1) := by decide +kernel
theorem dL_deeds_505 : decode cL_deeds 505 = .ok (.goto 4, 3) := by decide +kernel
theorem dL_deeds_508 : decode cL_deeds 508 = .ok (.iconst 0, 1) := by decide +kernel
theorem dL_deeds_509 : decode cL_deeds 509 = .ok (.istore 12, 2) := by decide +kernel
theorem dL_deeds_511 : decode cL_deeds 511 = .ok (.iload 10, 2) := by decide +kernel
theorem dL_deeds_513 : decode cL_deeds 513 = .ok (.iload 11, 2) := by decide +kernel
theorem dL_deeds_515 : decode cL_deeds 515 = .ok (.iadd, 1) := by decide +kernel
theorem dL_deeds_516 : decode cL_deeds 516 = .ok (.iload 9, 2) := by decide +kernel
theorem dL_deeds_518 : decode cL_deeds 518 = .ok (.isub, 1) := by decide +kernel
theorem dL_deeds_519 : decode cL_deeds 519 = .ok (.istore 13, 2) := by decide +kernel
theorem dL_deeds_521 : decode cL_deeds 521 = .ok (.iload_n 3, 1) := by decide +kernel
theorem dL_deeds_522 : decode cL_deeds 522 = .ok (.iconst 4, 1) := by decide +kernel
theorem dL_deeds_523 : decode cL_deeds 523 = .ok (.if_icmp .ne 7, 3) := by decide +kernel
theorem dL_deeds_526 : decode cL_deeds 526 = .ok (.iconst 0, 1) := by decide +kernel
theorem dL_deeds_527 : decode cL_deeds 527 = .ok (.goto 10, 3) := by decide +kernel
theorem dL_deeds_530 : decode cL_deeds 530 = .ok (.aload_n 0, 1) := by decide +kernel
theorem dL_deeds_531 : decode cL_deeds 531 = .ok (.iload_n 3, 1) := by decide +kernel
theorem dL_deeds_532 : decode cL_deeds 532 = .ok (.bipush 7, 2) := by decide +kernel
theorem dL_deeds_534 : decode cL_deeds 534 = .ok (.invokevirtual 32, 3) := by decide +kernel
theorem dL_deeds_537 : decode cL_deeds 537 = .ok (.istore 14, 2) := by decide +kernel
theorem dL_deeds_539 : decode cL_deeds 539 = .ok (.iload 5, 2) := by decide +kernel
theorem dL_deeds_541 : decode cL_deeds 541 = .ok (.ifCond .ne 8, 3) := by decide +kernel
theorem dL_deeds_544 : decode cL_deeds 544 = .ok (.iload 12, 2) := by decide +kernel
theorem dL_deeds_546 : decode cL_deeds 546 = .ok (.ifCond .eq 7, 3) := by decide +kernel
theorem dL_deeds_549 : decode cL_deeds 549 = .ok (.iconst 0, 1) := by decide +kernel
theorem dL_deeds_550 : decode cL_deeds 550 = .ok (.goto 76, 3) := by decide +kernel
theorem dL_deeds_553 : decode cL_deeds 553 = .ok (.aload_n 0, 1) := by decide +kernel
theorem dL_deeds_554 : decode cL_deeds 554 = .ok (.iload 4, 2) := by decide +kernel
theorem dL_deeds_556 : decode cL_deeds 556 = .ok (.iconst 0, 1) := by decide +kernel
theorem dL_deeds_557 : decode cL_deeds 557 = .ok (.invokevirtual 29, 3) := by decide +kernel
theorem dL_deeds_560 : decode cL_deeds 560 = .ok (.ifCond .ne 7, 3) := by decide +kernel
theorem dL_deeds_563 : decode cL_deeds 563 = .ok (.iconst 1, 1) := by decide +kernel
theorem dL_deeds_564 : decode cL_deeds 564 = .ok (.goto 62, 3) := by decide +kernel
theorem dL_deeds_567 : decode cL_deeds 567 = .ok (.aload_n 0, 1) := by decide +kernel
theorem dL_deeds_568 : decode cL_deeds 568 = .ok (.iload 4, 2) := by decide +kernel
theorem dL_deeds_570 : decode cL_deeds 570 = .ok (.iconst 0, 1) := by decide +kernel
theorem dL_deeds_571 : decode cL_deeds 571 = .ok (.invokevirtual 29, 3) := by decide +kernel
theorem dL_deeds_574 : decode cL_deeds 574 = .ok (.aload_n 0, 1) := by decide +kernel
theorem dL_deeds_575 : decode cL_deeds 575 = .ok (.iload_n 3, 1) := by decide +kernel
theorem dL_deeds_576 : decode cL_deeds 576 = .ok (.iconst 0, 1) := by decide +kernel
theorem dL_deeds_577 : decode cL_deeds 577 = .ok (.invokevirtual 32, 3) := by decide +kernel
theorem dL_deeds_580 : decode cL_deeds 580 = .ok (.if_icmp .ge 8, 3) := by decide +kernel
theorem dL_deeds_583 : decode cL_deeds 583 = .ok (.bipush 8, 2) := by decide +kernel
theorem dL_deeds_585 : decode cL_deeds 585 = .ok (.goto 41, 3) := by decide +kernel
theorem dL_deeds_588 : decode cL_deeds 588 = .ok (.iload 8, 2) := by decide +kernel
theorem dL_deeds_590 : decode cL_deeds 590 = .ok (.bipush (-4), 2) := by decide +kernel
theorem dL_deeds_592 : decode cL_deeds 592 = .ok (.if_icmp .eq 14, 3) := by decide +kernel
theorem dL_deeds_595 : decode cL_deeds 595 = .ok (.iload 8, 2) := by decide +kernel
theorem dL_deeds_597 : decode cL_deeds 597 = .ok (.iload_n 3, 1) := by decide +kernel
theorem dL_deeds_598 : decode cL_deeds 598 = .ok (.if_icmp .eq 8, 3) := by decide +kernel
theorem dL_deeds_601 : decode cL_deeds 601 = .ok (.bipush 9, 2) := by decide +kernel
theorem dL_deeds_603 : decode cL_deeds 603 = .ok (.goto 23, 3) := by decide +kernel
theorem dL_deeds_606 : decode cL_deeds 606 = .ok (.aload_n 0, 1) := by decide +kernel
theorem dL_deeds_607 : decode cL_deeds 607 = .ok (.iload_n 3, 1) := by decide +kernel
theorem dL_deeds_608 : decode cL_deeds 608 = .ok (.iconst 1, 1) := by decide +kernel
theorem dL_deeds_609 : decode cL_deeds 609 = .ok (.invokevirtual 32, 3) := by decide +kernel
theorem dL_deeds_612 : decode cL_deeds 612 = .ok (.iload 13, 2) := by decide +kernel
theorem dL_deeds_614 : decode cL_deeds 614 = .ok (.ishr, 1) := by decide +kernel
theorem dL_deeds_615 : decode cL_deeds 615 = .ok (.iconst 1, 1) := by decide +kernel
theorem dL_deeds_616 : decode cL_deeds 616 = .ok (.iand, 1) := by decide +kernel
theorem dL_deeds_617 : decode cL_deeds 617 = .ok (.iconst 1, 1) := by decide +kernel
theorem dL_deeds_618 : decode cL_deeds 618 = .ok (.if_icmp .ne 7, 3) := by decide +kernel
theorem dL_deeds_621 : decode cL_deeds 621 = .ok (.iconst 0, 1) := by decide +kernel
theorem dL_deeds_622 : decode cL_deeds 622 = .ok (.goto 4, 3) := by decide +kernel
theorem dL_deeds_625 : decode cL_deeds 625 = .ok (.iconst 3, 1) := by decide +kernel
theorem dL_deeds_626 : decode cL_deeds 626 = .ok (.istore 15, 2) := by decide +kernel
theorem dL_deeds_628 : decode cL_deeds 628 = .ok (.aload_n 0, 1) := by decide +kernel
theorem dL_deeds_629 : decode cL_deeds 629 = .ok (.iload_n 3, 1) := by decide +kernel
theorem dL_deeds_630 : decode cL_deeds 630 = .ok (.iload 4, 2) := by decide +kernel
theorem dL_deeds_632 : decode cL_deeds 632 = .ok (.invokevirtual 94, 3) := by decide +kernel
theorem dL_deeds_635 : decode cL_deeds 635 = .ok (.istore 16, 2) := by decide +kernel
theorem dL_deeds_637 : decode cL_deeds 637 = .ok (.iload 16, 2) := by decide +kernel
theorem dL_deeds_639 : decode cL_deeds 639 = .ok (.iload 5, 2) := by decide +kernel
theorem dL_deeds_641 : decode cL_deeds 641 = .ok (.ifCond .eq 7, 3) := by decide +kernel
theorem dL_deeds_644 : decode cL_deeds 644 = .ok (.iconst (-1), 1) := by decide +kernel
theorem dL_deeds_645 : decode cL_deeds 645 = .ok (.goto 28, 3) := by decide +kernel
theorem dL_deeds_648 : decode cL_deeds 648 = .ok (.iload 12, 2) := by decide +kernel
theorem dL_deeds_650 : decode cL_deeds 650 = .ok (.ifCond .eq 8, 3) := by decide +kernel
theorem dL_deeds_653 : decode cL_deeds 653 = .ok (.bipush (-2), 2) := by decide +kernel
theorem dL_deeds_655 : decode cL_deeds 655 = .ok (.goto 18, 3) := by decide +kernel
theorem dL_deeds_658 : decode cL_deeds 658 = .ok (.iload 15, 2) := by decide +kernel
theorem dL_deeds_660 : decode cL_deeds 660 = .ok (.ifCond .le 8, 3) := by decide +kernel
theorem dL_deeds_663 : decode cL_deeds 663 = .ok (.iload 15, 2) := by decide +kernel
theorem dL_deeds_665 : decode cL_deeds 665 = .ok (.goto 8, 3) := by decide +kernel
theorem dL_deeds_668 : decode cL_deeds 668 = .ok (.bipush 10, 2) := by decide +kernel
theorem dL_deeds_670 : decode cL_deeds 670 = .ok (.iload 13, 2) := by decide +kernel
theorem dL_deeds_672 : decode cL_deeds 672 = .ok (.iadd, 1) := by decide +kernel
theorem dL_deeds_673 : decode cL_deeds 673 = .ok (.if_icmp .ne 82, 3) := by decide +kernel
theorem dL_deeds_676 : decode cL_deeds 676 = .ok (.aload_n 0, 1) := by decide +kernel
theorem dL_deeds_677 : decode cL_deeds 677 = .ok (.bipush 13, 2) := by decide +kernel
theorem dL_deeds_679 : decode cL_deeds 679 = .ok (.invokevirtual 13, 3) := by decide +kernel
theorem dL_deeds_682 : decode cL_deeds 682 = .ok (.iload 6, 2) := by decide +kernel
theorem dL_deeds_684 : decode cL_deeds 684 = .ok (.iload 15, 2) := by decide +kernel
theorem dL_deeds_686 : decode cL_deeds 686 = .ok (.ifCond .le 7, 3) := by decide +kernel
theorem dL_deeds_689 : decode cL_deeds 689 = .ok (.iconst 1, 1) := by decide +kernel
theorem dL_deeds_690 : decode cL_deeds 690 = .ok (.goto 4, 3) := by decide +kernel
theorem dL_deeds_693 : decode cL_deeds 693 = .ok (.iconst 0, 1) := by decide +kernel
theorem dL_deeds_694 : decode cL_deeds 694 = .ok (.iadd, 1) := by decide +kernel
theorem dL_deeds_695 : decode cL_deeds 695 = .ok (.if_icmp .ne 60, 3) := by decide +kernel
theorem dL_deeds_698 : decode cL_deeds 698 = .ok (.iload_n 3, 1) := by decide +kernel
theorem dL_deeds_699 : decode cL_deeds 699 = .ok (.iconst 4, 1) := by decide +kernel
theorem dL_deeds_700 : decode cL_deeds 700 = .ok (.if_icmp .eq 51, 3) := by decide +kernel
theorem dL_deeds_703 : decode cL_deeds 703 = .ok (.aload_n 0, 1) := by decide +kernel
theorem dL_deeds_704 : decode cL_deeds 704 = .ok (.iload_n 3, 1) := by decide +kernel
theorem dL_deeds_705 : decode cL_deeds 705 = .ok (.iconst 3, 1) := by decide +kernel
theorem dL_deeds_706 : decode cL_deeds 706 = .ok (.invokevirtual 32, 3) := by decide +kernel
theorem dL_deeds_709 : decode cL_deeds 709 = .ok (.iload 16, 2) := by decide +kernel
theorem dL_deeds_711 : decode cL_deeds 711 = .ok (.bipush 10, 2) := by decide +kernel
theorem dL_deeds_713 : decode cL_deeds 713 = .ok (.if_icmp .lt 8, 3) := by decide +kernel
theorem dL_deeds_716 : decode cL_deeds 716 = .ok (.iload 13, 2) := by decide +kernel
theorem dL_deeds_718 : decode cL_deeds 718 = .ok (.goto 5, 3) := by decide +kernel
theorem dL_deeds_721 : decode cL_deeds 721 = .ok (.iload 9, 2) := by decide +kernel
theorem dL_deeds_723 : decode cL_deeds 723 = .ok (.if_icmp .ne 32, 3) := by decide +kernel
theorem dL_deeds_726 : decode cL_deeds 726 = .ok (.aload_n 0, 1) := by decide +kernel
theorem dL_deeds_727 : decode cL_deeds 727 = .ok (.iload_n 3, 1) := by decide +kernel
theorem dL_deeds_728 : decode cL_deeds 728 = .ok (.bipush 7, 2) := by decide +kernel
theorem dL_deeds_730 : decode cL_deeds 730 = .ok (.invokevirtual 32, 3) := by decide +kernel
theorem dL_deeds_733 : decode cL_deeds 733 = .ok (.iload 14, 2) := by decide +kernel
theorem dL_deeds_735 : decode cL_deeds 735 = .ok (.iload 16, 2) := by decide +kernel
theorem dL_deeds_737 : decode cL_deeds 737 = .ok (.bipush 10, 2) := by decide +kernel
theorem dL_deeds_739 : decode cL_deeds 739 = .ok (.if_icmp .lt 7, 3) := by decide +kernel
theorem dL_deeds_742 : decode cL_deeds 742 = .ok (.iconst 1, 1) := by decide +kernel
theorem dL_deeds_743 : decode cL_deeds 743 = .ok (.goto 4, 3) := by decide +kernel
theorem dL_deeds_746 : decode cL_deeds 746 = .ok (.iconst 0, 1) := by decide +kernel
theorem dL_deeds_747 : decode cL_deeds 747 = .ok (.iadd, 1) := by decide +kernel
theorem dL_deeds_748 : decode cL_deeds 748 = .ok (.if_icmp .ne 7, 3) := by decide +kernel
theorem dL_deeds_751 : decode cL_deeds 751 = .ok (.iconst 1, 1) := by decide +kernel
theorem dL_deeds_752 : decode cL_deeds 752 = .ok (.goto 4, 3) := by decide +kernel
theorem dL_deeds_755 : decode cL_deeds 755 = .ok (.iconst 0, 1) := by decide +kernel
theorem dL_deeds_756 : decode cL_deeds 756 = .ok (.ireturn, 1) := by decide +kernel
theorem dL_acts_0 : decode cL_acts 0 = .ok (.iload_n 1, 1) := by decide +kernel
theorem dL_acts_1 : decode cL_acts 1 = .ok (.bipush 32, 2) := by decide +kernel
theorem dL_acts_3 : decode cL_acts 3 = .ok (.invokestatic 42, 3) := by decide +kernel
theorem dL_acts_6 : decode cL_acts 6 = .ok (.istore_n 3, 1) := by decide +kernel
theorem dL_acts_7 : decode cL_acts 7 = .ok (.iload_n 3, 1) := by decide +kernel
theorem dL_acts_8 : decode cL_acts 8 = .ok (.bipush 16, 2) := by decide +kernel
theorem dL_acts_10 : decode cL_acts 10 = .ok (.if_icmp .ge 30, 3) := by decide +kernel
theorem dL_acts_13 : decode cL_acts 13 = .ok (.aload_n 0, 1) := by decide +kernel
theorem dL_acts_14 : decode cL_acts 14 = .ok (.iload_n 3, 1) := by decide +kernel
theorem dL_acts_15 : decode cL_acts 15 = .ok (.bipush 8, 2) := by decide +kernel
theorem dL_acts_17 : decode cL_acts 17 = .ok (.if_icmp .ge 7, 3) := by decide +kernel
theorem dL_acts_20 : decode cL_acts 20 = .ok (.iconst 0, 1) := by decide +kernel
theorem dL_acts_21 : decode cL_acts 21 = .ok (.goto 14, 3) := by decide +kernel
theorem dL_acts_24 : decode cL_acts 24 = .ok (.iload_n 3, 1) := by decide +kernel
theorem dL_acts_25 : decode cL_acts 25 = .ok (.bipush 10, 2) := by decide +kernel
theorem dL_acts_27 : decode cL_acts 27 = .ok (.if_icmp .ge 7, 3) := by decide +kernel
theorem dL_acts_30 : decode cL_acts 30 = .ok (.iconst 1, 1) := by decide +kernel
theorem dL_acts_31 : decode cL_acts 31 = .ok (.goto 4, 3) := by decide +kernel
theorem dL_acts_34 : decode cL_acts 34 = .ok (.iconst 2, 1) := by decide +kernel
theorem dL_acts_35 : decode cL_acts 35 = .ok (.iload_n 2, 1) := by decide +kernel
theorem dL_acts_36 : decode cL_acts 36 = .ok (.invokestatic 97, 3) := by decide +kernel
theorem dL_acts_39 : decode cL_acts 39 = .ok (.ireturn, 1) := by decide +kernel
theorem dL_acts_40 : decode cL_acts 40 = .ok (.iload_n 3, 1) := by decide +kernel
theorem dL_acts_41 : decode cL_acts 41 = .ok (.bipush 20, 2) := by decide +kernel
theorem dL_acts_43 : decode cL_acts 43 = .ok (.if_icmp .ge 93, 3) := by decide +kernel
theorem dL_acts_46 : decode cL_acts 46 = .ok (.aload_n 0, 1) := by decide +kernel
theorem dL_acts_47 : decode cL_acts 47 = .ok (.iconst 1, 1) := by decide +kernel
theorem dL_acts_48 : decode cL_acts 48 = .ok (.iconst 0, 1) := by decide +kernel
theorem dL_acts_49 : decode cL_acts 49 = .ok (.invokevirtual 62, 3) := by decide +kernel
theorem dL_acts_52 : decode cL_acts 52 = .ok (.istore 4, 2) := by decide +kernel
theorem dL_acts_54 : decode cL_acts 54 = .ok (.aload_n 0, 1) := by decide +kernel
theorem dL_acts_55 : decode cL_acts 55 = .ok (.iconst 1, 1) := by decide +kernel
theorem dL_acts_56 : decode cL_acts 56 = .ok (.iconst 1, 1) := by decide +kernel
theorem dL_acts_57 : decode cL_acts 57 = .ok (.invokevirtual 62, 3) := by decide +kernel
theorem dL_acts_60 : decode cL_acts 60 = .ok (.istore 5, 2) := by decide +kernel
theorem dL_acts_62 : decode cL_acts 62 = .ok (.aload_n 0, 1) := by decide +kernel
theorem dL_acts_63 : decode cL_acts 63 = .ok (.iconst 1, 1) := by decide +kernel
theorem dL_acts_64 : decode cL_acts 64 = .ok (.iconst 3, 1) := by decide +kernel
theorem dL_acts_65 : decode cL_acts 65 = .ok (.invokevirtual 62, 3) := by decide +kernel
theorem dL_acts_68 : decode cL_acts 68 = .ok (.istore 6, 2) := by decide +kernel
theorem dL_acts_70 : decode cL_acts 70 = .ok (.aload_n 0, 1) := by decide +kernel
theorem dL_acts_71 : decode cL_acts 71 = .ok (.iconst 0, 1) := by decide +kernel
theorem dL_acts_72 : decode cL_acts 72 = .ok (.invokevirtual 13, 3) := by decide +kernel
theorem dL_acts_75 : decode cL_acts 75 = .ok (.istore 7, 2) := by decide +kernel
theorem dL_acts_77 : decode cL_acts 77 = .ok (.aload_n 0, 1) := by decide +kernel
theorem dL_acts_78 : decode cL_acts 78 = .ok (.invokevirtual 101, 3) := by decide +kernel
theorem dL_acts_81 : decode cL_acts 81 = .ok (.iload 4, 2) := by decide +kernel
theorem dL_acts_83 : decode cL_acts 83 = .ok (.if_icmp .ne 51, 3) := by decide +kernel
theorem dL_acts_86 : decode cL_acts 86 = .ok (.aload_n 0, 1) := by decide +kernel
theorem dL_acts_87 : decode cL_acts 87 = .ok (.bipush 6, 2) := by decide +kernel
theorem dL_acts_89 : decode cL_acts 89 = .ok (.invokevirtual 13, 3) := by decide +kernel
theorem dL_acts_92 : decode cL_acts 92 = .ok (.iload 4, 2) := by decide +kernel
theorem dL_acts_94 : decode cL_acts 94 = .ok (.if_icmp .ne 40, 3) := by decide +kernel
theorem dL_acts_97 : decode cL_acts 97 = .ok (.aload_n 0, 1) := by decide +kernel
theorem dL_acts_98 : decode cL_acts 98 = .ok (.bipush 7, 2) := by decide +kernel
theorem dL_acts_100 : decode cL_acts 100 = .ok (.invokevirtual 13, 3) := by decide +kernel
theorem dL_acts_103 : decode cL_acts 103 = .ok (.iload 5, 2) := by decide +kernel
theorem dL_acts_105 : decode cL_acts 105 = .ok (.if_icmp .ne 29, 3) := by decide +kernel
theorem dL_acts_108 : decode cL_acts 108 = .ok (.aload_n 0, 1) := by decide +kernel
theorem dL_acts_109 : decode cL_acts 109 = .ok (.iconst 1, 1) := by decide +kernel
theorem dL_acts_110 : decode cL_acts 110 = .ok (.invokevirtual 13, 3) := by decide +kernel
theorem dL_acts_113 : decode cL_acts 113 = .ok (.iload 6, 2) := by decide +kernel
theorem dL_acts_115 : decode cL_acts 115 = .ok (.if_icmp .ne 19, 3) := by decide +kernel
theorem dL_acts_118 : decode cL_acts 118 = .ok (.aload_n 0, 1) := by decide +kernel
theorem dL_acts_119 : decode cL_acts 119 = .ok (.iconst 0, 1) := by decide +kernel
theorem dL_acts_120 : decode cL_acts 120 = .ok (.invokevirtual 13, 3) := by decide +kernel
theorem dL_acts_123 : decode cL_acts 123 = .ok (.iload 7, 2) := by decide +kernel
theorem dL_acts_125 : decode cL_acts 125 = .ok (.iconst 1, 1) := by decide +kernel
theorem dL_acts_126 : decode cL_acts 126 = .ok (.iadd, 1) := by decide +kernel
theorem dL_acts_127 : decode cL_acts 127 = .ok (.if_icmp .ne 7, 3) := by decide +kernel
theorem dL_acts_130 : decode cL_acts 130 = .ok (.iconst 1, 1) := by decide +kernel
theorem dL_acts_131 : decode cL_acts 131 = .ok (.goto 4, 3) := by decide +kernel
theorem dL_acts_134 : decode cL_acts 134 = .ok (.iconst 0, 1) := by decide +kernel
theorem dL_acts_135 : decode cL_acts 135 = .ok (.ireturn, 1) := by decide +kernel
theorem dL_acts_136 : decode cL_acts 136 = .ok (.iload_n 3, 1) := by decide +kernel
theorem dL_acts_137 : decode cL_acts 137 = .ok (.bipush 22, 2) := by decide +kernel
theorem dL_acts_139 : decode cL_acts 139 = .ok (.if_icmp .ge 181, 3) := by decide +kernel
theorem dL_acts_142 : decode cL_acts 142 = .ok (.iload_n 2, 1) := by decide +kernel
theorem dL_acts_143 : decode cL_acts 143 = .ok (.bipush 29, 2) := by decide +kernel
theorem dL_acts_145 : decode cL_acts 145 = .ok (.invokestatic 42, 3) := by decide +kernel
theorem dL_acts_148 : decode cL_acts 148 = .ok (.istore 4, 2) := by decide +kernel
theorem dL_acts_150 : decode cL_acts 150 = .ok (.iload_n 2, 1) := by decide +kernel
theorem dL_acts_151 : decode cL_acts 151 = .ok (.iconst 5, 1) := by decide +kernel
theorem dL_acts_152 : decode cL_acts 152 = .ok (.ishr, 1) := by decide +kernel
theorem dL_acts_153 : decode cL_acts 153 = .ok (.bipush 11, 2) := by decide +kernel
theorem dL_acts_155 : decode cL_acts 155 = .ok (.invokestatic 42, 3) := by decide +kernel
theorem dL_acts_158 : decode cL_acts 158 = .ok (.istore 5, 2) := by decide +kernel
theorem dL_acts_160 : decode cL_acts 160 = .ok (.iload 4, 2) := by decide +kernel
theorem dL_acts_162 : decode cL_acts 162 = .ok (.invokestatic 23, 3) := by decide +kernel
theorem dL_acts_165 : decode cL_acts 165 = .ok (.ifCond .eq 10, 3) := by decide +kernel
theorem dL_acts_168 : decode cL_acts 168 = .ok (.iload 5, 2) := by decide +kernel
theorem dL_acts_170 : decode cL_acts 170 = .ok (.bipush 10, 2) := by decide +kernel
theorem dL_acts_172 : decode cL_acts 172 = .ok (.if_icmp .ne 7, 3) := by decide +kernel
theorem dL_acts_175 : decode cL_acts 175 = .ok (.iconst 1, 1) := by decide +kernel
theorem dL_acts_176 : decode cL_acts 176 = .ok (.goto 4, 3) := by decide +kernel
theorem dL_acts_179 : decode cL_acts 179 = .ok (.iconst 0, 1) := by decide +kernel
theorem dL_acts_180 : decode cL_acts 180 = .ok (.istore 6, 2) := by decide +kernel
theorem dL_acts_182 : decode cL_acts 182 = .ok (.iload 4, 2) := by decide +kernel
theorem dL_acts_184 : decode cL_acts 184 = .ok (.invokestatic 23, 3) := by decide +kernel
theorem dL_acts_187 : decode cL_acts 187 = .ok (.ifCond .eq 13, 3) := by decide +kernel
theorem dL_acts_190 : decode cL_acts 190 = .ok (.aload_n 0, 1) := by decide +kernel
theorem dL_acts_191 : decode cL_acts 191 = .ok (.iload 4, 2) := by decide +kernel
theorem dL_acts_193 : decode cL_acts 193 = .ok (.iconst 0, 1) := by decide +kernel
theorem dL_acts_194 : decode cL_acts 194 = .ok (.invokevirtual 29, 3) := by decide +kernel
theorem dL_acts_197 : decode cL_acts 197 = .ok (.goto 4, 3) := by decide +kernel
theorem dL_acts_200 : decode cL_acts 200 = .ok (.iconst 0, 1) := by decide +kernel
theorem dL_acts_201 : decode cL_acts 201 = .ok (.istore 7, 2) := by decide +kernel
theorem dL_acts_203 : decode cL_acts 203 = .ok (.iload 6, 2) := by decide +kernel
theorem dL_acts_205 : decode cL_acts 205 = .ok (.ifCond .ne 24, 3) := by decide +kernel
theorem dL_acts_208 : decode cL_acts 208 = .ok (.iload 5, 2) := by decide +kernel
theorem dL_acts_210 : decode cL_acts 210 = .ok (.ifCond .ne 19, 3) := by decide +kernel
theorem dL_acts_213 : decode cL_acts 213 = .ok (.aload_n 0, 1) := by decide +kernel
theorem dL_acts_214 : decode cL_acts 214 = .ok (.iload 4, 2) := by decide +kernel
theorem dL_acts_216 : decode cL_acts 216 = .ok (.iconst 3, 1) := by decide +kernel
theorem dL_acts_217 : decode cL_acts 217 = .ok (.invokevirtual 29, 3) := by decide +kernel
theorem dL_acts_220 : decode cL_acts 220 = .ok (.bipush (-4), 2) := by decide +kernel
theorem dL_acts_222 : decode cL_acts 222 = .ok (.if_icmp .eq 7, 3) := by decide +kernel
theorem dL_acts_225 : decode cL_acts 225 = .ok (.iconst 1, 1) := by decide +kernel
theorem dL_acts_226 : decode cL_acts 226 = .ok (.goto 4, 3) := by decide +kernel
theorem dL_acts_229 : decode cL_acts 229 = .ok (.iconst 0, 1) := by decide +kernel
theorem dL_acts_230 : decode cL_acts 230 = .ok (.istore 8, 2) := by decide +kernel
theorem dL_acts_232 : decode cL_acts 232 = .ok (.aload_n 0, 1) := by decide +kernel
theorem dL_acts_233 : decode cL_acts 233 = .ok (.bipush 12, 2) := by decide +kernel
theorem dL_acts_235 : decode cL_acts 235 = .ok (.invokevirtual 13, 3) := by decide +kernel
theorem dL_acts_238 : decode cL_acts 238 = .ok (.istore 9, 2) := by decide +kernel
theorem dL_acts_240 : decode cL_acts 240 = .ok (.aload_n 0, 1) := by decide +kernel
theorem dL_acts_241 : decode cL_acts 241 = .ok (.iload 4, 2) := by decide +kernel
theorem dL_acts_243 : decode cL_acts 243 = .ok (.iload 5, 2) := by decide +kernel
theorem dL_acts_245 : decode cL_acts 245 = .ok (.invokevirtual 104, 3) := by decide +kernel
theorem dL_acts_248 : decode cL_acts 248 = .ok (.iload 6, 2) := by decide +kernel
theorem dL_acts_250 : decode cL_acts 250 = .ok (.ifCond .eq 7, 3) := by decide +kernel
theorem dL_acts_253 : decode cL_acts 253 = .ok (.iconst (-1), 1) := by decide +kernel
theorem dL_acts_254 : decode cL_acts 254 = .ok (.goto 5, 3) := by decide +kernel
theorem dL_acts_257 : decode cL_acts 257 = .ok (.iload 7, 2) := by decide +kernel
theorem dL_acts_259 : decode cL_acts 259 = .ok (.if_icmp .ne 59, 3) := by decide +kernel
theorem dL_acts_262 : decode cL_acts 262 = .ok (.aload_n 0, 1) := by decide +kernel
theorem dL_acts_263 : decode cL_acts 263 = .ok (.bipush 12, 2) := by decide +kernel
theorem dL_acts_265 : decode cL_acts 265 = .ok (.invokevirtual 13, 3) := by decide +kernel
theorem dL_acts_268 : decode cL_acts 268 = .ok (.iload 9, 2) := by decide +kernel
theorem dL_acts_270 : decode cL_acts 270 = .ok (.iload 8, 2) := by decide +kernel
theorem dL_acts_272 : decode cL_acts 272 = .ok (.ifCond .eq 7, 3) := by decide +kernel
theorem dL_acts_275 : decode cL_acts 275 = .ok (.iconst 1, 1) := by decide +kernel
theorem dL_acts_276 : decode cL_acts 276 = .ok (.goto 4, 3) := by decide +kernel
theorem dL_acts_279 : decode cL_acts 279 = .ok (.iconst 0, 1) := by decide +kernel
theorem dL_acts_280 : decode cL_acts 280 = .ok (.iadd, 1) := by decide +kernel
theorem dL_acts_281 : decode cL_acts 281 = .ok (.if_icmp .ne 37, 3) := by decide +kernel
theorem dL_acts_284 : decode cL_acts 284 = .ok (.iload 4, 2) := by decide +kernel
theorem dL_acts_286 : decode cL_acts 286 = .ok (.invokestatic 23, 3) := by decide +kernel
theorem dL_acts_289 : decode cL_acts 289 = .ok (.ifCond .eq 25, 3) := by decide +kernel
theorem dL_acts_292 : decode cL_acts 292 = .ok (.aload_n 0, 1) := by decide +kernel
theorem dL_acts_293 : decode cL_acts 293 = .ok (.iload 4, 2) := by decide +kernel
theorem dL_acts_295 : decode cL_acts 295 = .ok (.iconst 0, 1) := by decide +kernel
theorem dL_acts_296 : decode cL_acts 296 = .ok (.invokevirtual 29, 3) := by decide +kernel
theorem dL_acts_299 : decode cL_acts 299 = .ok (.iload 6, 2) := by decide +kernel
theorem dL_acts_301 : decode cL_acts 301 = .ok (.ifCond .eq 8, 3) := by decide +kernel
theorem dL_acts_304 : decode cL_acts 304 = .ok (.iload 7, 2) := by decide +kernel
theorem dL_acts_306 : decode cL_acts 306 = .ok (.goto 5, 3) := by decide +kernel
theorem dL_acts_309 : decode cL_acts 309 = .ok (.iload 5, 2) := by decide +kernel
theorem dL_acts_311 : decode cL_acts 311 = .ok (.if_icmp .ne 7, 3) := by decide +kernel
theorem dL_acts_314 : decode cL_acts 314 = .ok (.iconst 1, 1) := by decide +kernel
theorem dL_acts_315 : decode cL_acts 315 = .ok (.goto 4, 3) := by decide +kernel
theorem dL_acts_318 : decode cL_acts 318 = .ok (.iconst 0, 1) := by decide +kernel
theorem dL_acts_319 : decode cL_acts 319 = .ok (.ireturn, 1) := by decide +kernel
theorem dL_acts_320 : decode cL_acts 320 = .ok (.iload_n 3, 1) := by decide +kernel
theorem dL_acts_321 : decode cL_acts 321 = .ok (.bipush 24, 2) := by decide +kernel
theorem dL_acts_323 : decode cL_acts 323 = .ok (.if_icmp .ge 100, 3) := by decide +kernel
theorem dL_acts_326 : decode cL_acts 326 = .ok (.iload_n 2, 1) := by decide +kernel
theorem dL_acts_327 : decode cL_acts 327 = .ok (.iconst 5, 1) := by decide +kernel
theorem dL_acts_328 : decode cL_acts 328 = .ok (.invokestatic 42, 3) := by decide +kernel
theorem dL_acts_331 : decode cL_acts 331 = .ok (.istore 4, 2) := by decide +kernel
theorem dL_acts_333 : decode cL_acts 333 = .ok (.aload_n 0, 1) := by decide +kernel
theorem dL_acts_334 : decode cL_acts 334 = .ok (.iconst 1, 1) := by decide +kernel
theorem dL_acts_335 : decode cL_acts 335 = .ok (.invokevirtual 13, 3) := by decide +kernel
theorem dL_acts_338 : decode cL_acts 338 = .ok (.istore 5, 2) := by decide +kernel
theorem dL_acts_340 : decode cL_acts 340 = .ok (.iload 4, 2) := by decide +kernel
theorem dL_acts_342 : decode cL_acts 342 = .ok (.iconst 4, 1) := by decide +kernel
theorem dL_acts_343 : decode cL_acts 343 = .ok (.if_icmp .ne 7, 3) := by decide +kernel
theorem dL_acts_346 : decode cL_acts 346 = .ok (.iconst 0, 1) := by decide +kernel
theorem dL_acts_347 : decode cL_acts 347 = .ok (.goto 9, 3) := by decide +kernel
theorem dL_acts_350 : decode cL_acts 350 = .ok (.aload_n 0, 1) := by decide +kernel
