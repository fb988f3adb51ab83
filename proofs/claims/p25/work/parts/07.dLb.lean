theorem dL_fingers_267 : decode cL_fingers 267 = .ok (.aload_n 1, 1) := by decide +kernel
theorem dL_fingers_268 : decode cL_fingers 268 = .ok (.iload 4, 2) := by decide +kernel
theorem dL_fingers_270 : decode cL_fingers 270 = .ok (.iaload, 1) := by decide +kernel
theorem dL_fingers_271 : decode cL_fingers 271 = .ok (.if_icmp .ge 149, 3) := by decide +kernel
theorem dL_fingers_274 : decode cL_fingers 274 = .ok (.aload_n 0, 1) := by decide +kernel
theorem dL_fingers_275 : decode cL_fingers 275 = .ok (.iload 4, 2) := by decide +kernel
theorem dL_fingers_277 : decode cL_fingers 277 = .ok (.iload 14, 2) := by decide +kernel
theorem dL_fingers_279 : decode cL_fingers 279 = .ok (.iload 5, 2) := by decide +kernel
theorem dL_fingers_281 : decode cL_fingers 281 = .ok (.invokestatic 103, 3) := by decide +kernel
theorem dL_fingers_284 : decode cL_fingers 284 = .ok (.istore 15, 2) := by decide +kernel
theorem dL_fingers_286 : decode cL_fingers 286 = .ok (.aload_n 0, 1) := by decide +kernel
theorem dL_fingers_287 : decode cL_fingers 287 = .ok (.iload 4, 2) := by decide +kernel
theorem dL_fingers_289 : decode cL_fingers 289 = .ok (.iload 14, 2) := by decide +kernel
theorem dL_fingers_291 : decode cL_fingers 291 = .ok (.iload 5, 2) := by decide +kernel
theorem dL_fingers_293 : decode cL_fingers 293 = .ok (.invokestatic 106, 3) := by decide +kernel
theorem dL_fingers_296 : decode cL_fingers 296 = .ok (.istore 16, 2) := by decide +kernel
theorem dL_fingers_298 : decode cL_fingers 298 = .ok (.iload 9, 2) := by decide +kernel
theorem dL_fingers_300 : decode cL_fingers 300 = .ok (.sipush 9999, 3) := by decide +kernel
theorem dL_fingers_303 : decode cL_fingers 303 = .ok (.if_icmp .le 18, 3) := by decide +kernel
theorem dL_fingers_306 : decode cL_fingers 306 = .ok (.iload 15, 2) := by decide +kernel
theorem dL_fingers_308 : decode cL_fingers 308 = .ok (.iconst (-1), 1) := by decide +kernel
theorem dL_fingers_309 : decode cL_fingers 309 = .ok (.if_icmp .ne 52, 3) := by decide +kernel
theorem dL_fingers_312 : decode cL_fingers 312 = .ok (.iload 16, 2) := by decide +kernel
theorem dL_fingers_314 : decode cL_fingers 314 = .ok (.iconst (-1), 1) := by decide +kernel
theorem dL_fingers_315 : decode cL_fingers 315 = .ok (.if_icmp .eq 48, 3) := by decide +kernel
theorem dL_fingers_318 : decode cL_fingers 318 = .ok (.goto 43, 3) := by decide +kernel
theorem dL_fingers_321 : decode cL_fingers 321 = .ok (.iload 15, 2) := by decide +kernel
theorem dL_fingers_323 : decode cL_fingers 323 = .ok (.iconst 1, 1) := by decide +kernel
theorem dL_fingers_324 : decode cL_fingers 324 = .ok (.if_icmp .lt 37, 3) := by decide +kernel
theorem dL_fingers_327 : decode cL_fingers 327 = .ok (.iload 15, 2) := by decide +kernel
theorem dL_fingers_329 : decode cL_fingers 329 = .ok (.iload 8, 2) := by decide +kernel
theorem dL_fingers_331 : decode cL_fingers 331 = .ok (.if_icmp .gt 30, 3) := by decide +kernel
theorem dL_fingers_334 : decode cL_fingers 334 = .ok (.iload 16, 2) := by decide +kernel
theorem dL_fingers_336 : decode cL_fingers 336 = .ok (.ifCond .lt 25, 3) := by decide +kernel
theorem dL_fingers_339 : decode cL_fingers 339 = .ok (.iload 16, 2) := by decide +kernel
theorem dL_fingers_341 : decode cL_fingers 341 = .ok (.aload_n 2, 1) := by decide +kernel
theorem dL_fingers_342 : decode cL_fingers 342 = .ok (.aload_n 3, 1) := by decide +kernel
theorem dL_fingers_343 : decode cL_fingers 343 = .ok (.iload 5, 2) := by decide +kernel
theorem dL_fingers_345 : decode cL_fingers 345 = .ok (.aload_n 0, 1) := by decide +kernel
theorem dL_fingers_346 : decode cL_fingers 346 = .ok (.iload 4, 2) := by decide +kernel
theorem dL_fingers_348 : decode cL_fingers 348 = .ok (.iload 14, 2) := by decide +kernel
theorem dL_fingers_350 : decode cL_fingers 350 = .ok (.invokestatic 87, 3) := by decide +kernel
theorem dL_fingers_353 : decode cL_fingers 353 = .ok (.iload 15, 2) := by decide +kernel
theorem dL_fingers_355 : decode cL_fingers 355 = .ok (.invokestatic 95, 3) := by decide +kernel
theorem dL_fingers_358 : decode cL_fingers 358 = .ok (.if_icmp .eq 5, 3) := by decide +kernel
theorem dL_fingers_361 : decode cL_fingers 361 = .ok (.iconst 0, 1) := by decide +kernel
theorem dL_fingers_362 : decode cL_fingers 362 = .ok (.ireturn, 1) := by decide +kernel
theorem dL_fingers_363 : decode cL_fingers 363 = .ok (.iload 14, 2) := by decide +kernel
theorem dL_fingers_365 : decode cL_fingers 365 = .ok (.ifCond .ne 7, 3) := by decide +kernel
theorem dL_fingers_368 : decode cL_fingers 368 = .ok (.iconst 0, 1) := by decide +kernel
theorem dL_fingers_369 : decode cL_fingers 369 = .ok (.goto 20, 3) := by decide +kernel
theorem dL_fingers_372 : decode cL_fingers 372 = .ok (.iload 15, 2) := by decide +kernel
theorem dL_fingers_374 : decode cL_fingers 374 = .ok (.aload_n 0, 1) := by decide +kernel
theorem dL_fingers_375 : decode cL_fingers 375 = .ok (.iload 4, 2) := by decide +kernel
theorem dL_fingers_377 : decode cL_fingers 377 = .ok (.iload 14, 2) := by decide +kernel
theorem dL_fingers_379 : decode cL_fingers 379 = .ok (.iconst 1, 1) := by decide +kernel
theorem dL_fingers_380 : decode cL_fingers 380 = .ok (.isub, 1) := by decide +kernel
theorem dL_fingers_381 : decode cL_fingers 381 = .ok (.iload 5, 2) := by decide +kernel
theorem dL_fingers_383 : decode cL_fingers 383 = .ok (.invokestatic 103, 3) := by decide +kernel
theorem dL_fingers_386 : decode cL_fingers 386 = .ok (.invokestatic 92, 3) := by decide +kernel
theorem dL_fingers_389 : decode cL_fingers 389 = .ok (.istore 17, 2) := by decide +kernel
theorem dL_fingers_391 : decode cL_fingers 391 = .ok (.iload 12, 2) := by decide +kernel
theorem dL_fingers_393 : decode cL_fingers 393 = .ok (.iload 17, 2) := by decide +kernel
theorem dL_fingers_395 : decode cL_fingers 395 = .ok (.iadd, 1) := by decide +kernel
theorem dL_fingers_396 : decode cL_fingers 396 = .ok (.istore 12, 2) := by decide +kernel
theorem dL_fingers_398 : decode cL_fingers 398 = .ok (.iload 17, 2) := by decide +kernel
theorem dL_fingers_400 : decode cL_fingers 400 = .ok (.iload 13, 2) := by decide +kernel
theorem dL_fingers_402 : decode cL_fingers 402 = .ok (.if_icmp .le 8, 3) := by decide +kernel
theorem dL_fingers_405 : decode cL_fingers 405 = .ok (.iload 17, 2) := by decide +kernel
theorem dL_fingers_407 : decode cL_fingers 407 = .ok (.goto 5, 3) := by decide +kernel
theorem dL_fingers_410 : decode cL_fingers 410 = .ok (.iload 13, 2) := by decide +kernel
theorem dL_fingers_412 : decode cL_fingers 412 = .ok (.istore 13, 2) := by decide +kernel
theorem dL_fingers_414 : decode cL_fingers 414 = .ok (.iinc 14 1, 3) := by decide +kernel
theorem dL_fingers_417 : decode cL_fingers 417 = .ok (.goto (-152), 3) := by decide +kernel
theorem dL_fingers_420 : decode cL_fingers 420 = .ok (.iload 9, 2) := by decide +kernel
theorem dL_fingers_422 : decode cL_fingers 422 = .ok (.sipush 9999, 3) := by decide +kernel
theorem dL_fingers_425 : decode cL_fingers 425 = .ok (.if_icmp .le 23, 3) := by decide +kernel
theorem dL_fingers_428 : decode cL_fingers 428 = .ok (.iload 10, 2) := by decide +kernel
theorem dL_fingers_430 : decode cL_fingers 430 = .ok (.iconst (-1), 1) := by decide +kernel
theorem dL_fingers_431 : decode cL_fingers 431 = .ok (.if_icmp .ne 13, 3) := by decide +kernel
theorem dL_fingers_434 : decode cL_fingers 434 = .ok (.iload 11, 2) := by decide +kernel
theorem dL_fingers_436 : decode cL_fingers 436 = .ok (.iconst (-1), 1) := by decide +kernel
theorem dL_fingers_437 : decode cL_fingers 437 = .ok (.if_icmp .ne 7, 3) := by decide +kernel
theorem dL_fingers_440 : decode cL_fingers 440 = .ok (.iconst 1, 1) := by decide +kernel
theorem dL_fingers_441 : decode cL_fingers 441 = .ok (.goto 33, 3) := by decide +kernel
theorem dL_fingers_444 : decode cL_fingers 444 = .ok (.iconst 0, 1) := by decide +kernel
theorem dL_fingers_445 : decode cL_fingers 445 = .ok (.goto 29, 3) := by decide +kernel
theorem dL_fingers_448 : decode cL_fingers 448 = .ok (.iload 10, 2) := by decide +kernel
theorem dL_fingers_450 : decode cL_fingers 450 = .ok (.iload 9, 2) := by decide +kernel
theorem dL_fingers_452 : decode cL_fingers 452 = .ok (.if_icmp .ne 21, 3) := by decide +kernel
theorem dL_fingers_455 : decode cL_fingers 455 = .ok (.iload 12, 2) := by decide +kernel
theorem dL_fingers_457 : decode cL_fingers 457 = .ok (.iload 9, 2) := by decide +kernel
theorem dL_fingers_459 : decode cL_fingers 459 = .ok (.if_icmp .ne 14, 3) := by decide +kernel
theorem dL_fingers_462 : decode cL_fingers 462 = .ok (.iload 11, 2) := by decide +kernel
theorem dL_fingers_464 : decode cL_fingers 464 = .ok (.iload 13, 2) := by decide +kernel
theorem dL_fingers_466 : decode cL_fingers 466 = .ok (.if_icmp .ne 7, 3) := by decide +kernel
theorem dL_fingers_469 : decode cL_fingers 469 = .ok (.iconst 1, 1) := by decide +kernel
theorem dL_fingers_470 : decode cL_fingers 470 = .ok (.goto 4, 3) := by decide +kernel
theorem dL_fingers_473 : decode cL_fingers 473 = .ok (.iconst 0, 1) := by decide +kernel
theorem dL_fingers_474 : decode cL_fingers 474 = .ok (.istore 14, 2) := by decide +kernel
theorem dL_fingers_476 : decode cL_fingers 476 = .ok (.iload 14, 2) := by decide +kernel
theorem dL_fingers_478 : decode cL_fingers 478 = .ok (.ifCond .eq 33, 3) := by decide +kernel
theorem dL_fingers_481 : decode cL_fingers 481 = .ok (.aload_n 0, 1) := by decide +kernel
theorem dL_fingers_482 : decode cL_fingers 482 = .ok (.iload 4, 2) := by decide +kernel
theorem dL_fingers_484 : decode cL_fingers 484 = .ok (.iload 5, 2) := by decide +kernel
theorem dL_fingers_486 : decode cL_fingers 486 = .ok (.invokestatic 108, 3) := by decide +kernel
theorem dL_fingers_489 : decode cL_fingers 489 = .ok (.aload_n 1, 1) := by decide +kernel
theorem dL_fingers_490 : decode cL_fingers 490 = .ok (.iload 4, 2) := by decide +kernel
theorem dL_fingers_492 : decode cL_fingers 492 = .ok (.iaload, 1) := by decide +kernel
theorem dL_fingers_493 : decode cL_fingers 493 = .ok (.iconst 4, 1) := by decide +kernel
theorem dL_fingers_494 : decode cL_fingers 494 = .ok (.if_icmp .le 8, 3) := by decide +kernel
theorem dL_fingers_497 : decode cL_fingers 497 = .ok (.ldc 18, 2) := by decide +kernel
theorem dL_fingers_499 : decode cL_fingers 499 = .ok (.goto 5, 3) := by decide +kernel
theorem dL_fingers_502 : decode cL_fingers 502 = .ok (.iload 10, 2) := by decide +kernel
theorem dL_fingers_504 : decode cL_fingers 504 = .ok (.if_icmp .ne 7, 3) := by decide +kernel
theorem dL_fingers_507 : decode cL_fingers 507 = .ok (.iconst 1, 1) := by decide +kernel
theorem dL_fingers_508 : decode cL_fingers 508 = .ok (.goto 4, 3) := by decide +kernel
theorem dL_fingers_511 : decode cL_fingers 511 = .ok (.iconst 0, 1) := by decide +kernel
theorem dL_fingers_512 : decode cL_fingers 512 = .ok (.istore 14, 2) := by decide +kernel
theorem dL_fingers_514 : decode cL_fingers 514 = .ok (.iload 14, 2) := by decide +kernel
theorem dL_fingers_516 : decode cL_fingers 516 = .ok (.ifCond .eq 53, 3) := by decide +kernel
theorem dL_fingers_519 : decode cL_fingers 519 = .ok (.aload_n 0, 1) := by decide +kernel
theorem dL_fingers_520 : decode cL_fingers 520 = .ok (.iload 4, 2) := by decide +kernel
theorem dL_fingers_522 : decode cL_fingers 522 = .ok (.aload_n 1, 1) := by decide +kernel
theorem dL_fingers_523 : decode cL_fingers 523 = .ok (.iload 4, 2) := by decide +kernel
theorem dL_fingers_525 : decode cL_fingers 525 = .ok (.iaload, 1) := by decide +kernel
theorem dL_fingers_526 : decode cL_fingers 526 = .ok (.iload 5, 2) := by decide +kernel
theorem dL_fingers_528 : decode cL_fingers 528 = .ok (.invokestatic 103, 3) := by decide +kernel
theorem dL_fingers_531 : decode cL_fingers 531 = .ok (.ldc 25, 2) := by decide +kernel
theorem dL_fingers_533 : decode cL_fingers 533 = .ok (.if_icmp .ne 36, 3) := by decide +kernel
theorem dL_fingers_536 : decode cL_fingers 536 = .ok (.aload_n 0, 1) := by decide +kernel
theorem dL_fingers_537 : decode cL_fingers 537 = .ok (.iload 4, 2) := by decide +kernel
theorem dL_fingers_539 : decode cL_fingers 539 = .ok (.iconst (-1), 1) := by decide +kernel
theorem dL_fingers_540 : decode cL_fingers 540 = .ok (.iload 5, 2) := by decide +kernel
theorem dL_fingers_542 : decode cL_fingers 542 = .ok (.invokestatic 106, 3) := by decide +kernel
theorem dL_fingers_545 : decode cL_fingers 545 = .ok (.ldc 25, 2) := by decide +kernel
theorem dL_fingers_547 : decode cL_fingers 547 = .ok (.if_icmp .ne 22, 3) := by decide +kernel
theorem dL_fingers_550 : decode cL_fingers 550 = .ok (.aload_n 0, 1) := by decide +kernel
theorem dL_fingers_551 : decode cL_fingers 551 = .ok (.iload 4, 2) := by decide +kernel
theorem dL_fingers_553 : decode cL_fingers 553 = .ok (.aload_n 1, 1) := by decide +kernel
theorem dL_fingers_554 : decode cL_fingers 554 = .ok (.iload 4, 2) := by decide +kernel
theorem dL_fingers_556 : decode cL_fingers 556 = .ok (.iaload, 1) := by decide +kernel
theorem dL_fingers_557 : decode cL_fingers 557 = .ok (.invokestatic 87, 3) := by decide +kernel
theorem dL_fingers_560 : decode cL_fingers 560 = .ok (.ldc 25, 2) := by decide +kernel
theorem dL_fingers_562 : decode cL_fingers 562 = .ok (.if_icmp .ne 7, 3) := by decide +kernel
theorem dL_fingers_565 : decode cL_fingers 565 = .ok (.iconst 1, 1) := by decide +kernel
theorem dL_fingers_566 : decode cL_fingers 566 = .ok (.goto 4, 3) := by decide +kernel
theorem dL_fingers_569 : decode cL_fingers 569 = .ok (.iconst 0, 1) := by decide +kernel
theorem dL_fingers_570 : decode cL_fingers 570 = .ok (.ireturn, 1) := by decide +kernel
theorem dL_nexts_0 : decode cL_nexts 0 = .ok (.iconst (-1), 1) := by decide +kernel
theorem dL_nexts_1 : decode cL_nexts 1 = .ok (.istore 4, 2) := by decide +kernel
theorem dL_nexts_3 : decode cL_nexts 3 = .ok (.bipush 100, 2) := by decide +kernel
theorem dL_nexts_5 : decode cL_nexts 5 = .ok (.istore 5, 2) := by decide +kernel
theorem dL_nexts_7 : decode cL_nexts 7 = .ok (.iconst 0, 1) := by decide +kernel
theorem dL_nexts_8 : decode cL_nexts 8 = .ok (.istore 6, 2) := by decide +kernel
theorem dL_nexts_10 : decode cL_nexts 10 = .ok (.iload 6, 2) := by decide +kernel
theorem dL_nexts_12 : decode cL_nexts 12 = .ok (.aload_n 2, 1) := by decide +kernel
theorem dL_nexts_13 : decode cL_nexts 13 = .ok (.iconst 0, 1) := by decide +kernel
theorem dL_nexts_14 : decode cL_nexts 14 = .ok (.iaload, 1) := by decide +kernel
theorem dL_nexts_15 : decode cL_nexts 15 = .ok (.if_icmp .ge 90, 3) := by decide +kernel
theorem dL_nexts_18 : decode cL_nexts 18 = .ok (.iconst 0, 1) := by decide +kernel
theorem dL_nexts_19 : decode cL_nexts 19 = .ok (.istore 7, 2) := by decide +kernel
theorem dL_nexts_21 : decode cL_nexts 21 = .ok (.iload 7, 2) := by decide +kernel
theorem dL_nexts_23 : decode cL_nexts 23 = .ok (.aload_n 2, 1) := by decide +kernel
theorem dL_nexts_24 : decode cL_nexts 24 = .ok (.iconst 1, 1) := by decide +kernel
theorem dL_nexts_25 : decode cL_nexts 25 = .ok (.iaload, 1) := by decide +kernel
theorem dL_nexts_26 : decode cL_nexts 26 = .ok (.if_icmp .ge 73, 3) := by decide +kernel
theorem dL_nexts_29 : decode cL_nexts 29 = .ok (.aload_n 1, 1) := by decide +kernel
theorem dL_nexts_30 : decode cL_nexts 30 = .ok (.iload 7, 2) := by decide +kernel
theorem dL_nexts_32 : decode cL_nexts 32 = .ok (.iaload, 1) := by decide +kernel
theorem dL_nexts_33 : decode cL_nexts 33 = .ok (.bipush 32, 2) := by decide +kernel
theorem dL_nexts_35 : decode cL_nexts 35 = .ok (.idiv, 1) := by decide +kernel
theorem dL_nexts_36 : decode cL_nexts 36 = .ok (.iload_n 3, 1) := by decide +kernel
theorem dL_nexts_37 : decode cL_nexts 37 = .ok (.if_icmp .ne 56, 3) := by decide +kernel
theorem dL_nexts_40 : decode cL_nexts 40 = .ok (.aload_n 0, 1) := by decide +kernel
theorem dL_nexts_41 : decode cL_nexts 41 = .ok (.iload_n 3, 1) := by decide +kernel
theorem dL_nexts_42 : decode cL_nexts 42 = .ok (.invokestatic 110, 3) := by decide +kernel
theorem dL_nexts_45 : decode cL_nexts 45 = .ok (.iload 6, 2) := by decide +kernel
theorem dL_nexts_47 : decode cL_nexts 47 = .ok (.ishr, 1) := by decide +kernel
theorem dL_nexts_48 : decode cL_nexts 48 = .ok (.iconst 1, 1) := by decide +kernel
theorem dL_nexts_49 : decode cL_nexts 49 = .ok (.iand, 1) := by decide +kernel
theorem dL_nexts_50 : decode cL_nexts 50 = .ok (.ifCond .ne 43, 3) := by decide +kernel
theorem dL_nexts_53 : decode cL_nexts 53 = .ok (.aload_n 0, 1) := by decide +kernel
theorem dL_nexts_54 : decode cL_nexts 54 = .ok (.iload 6, 2) := by decide +kernel
theorem dL_nexts_56 : decode cL_nexts 56 = .ok (.iload 7, 2) := by decide +kernel
theorem dL_nexts_58 : decode cL_nexts 58 = .ok (.invokestatic 101, 3) := by decide +kernel
theorem dL_nexts_61 : decode cL_nexts 61 = .ok (.istore 8, 2) := by decide +kernel
theorem dL_nexts_63 : decode cL_nexts 63 = .ok (.iload 8, 2) := by decide +kernel
theorem dL_nexts_65 : decode cL_nexts 65 = .ok (.ifCond .lt 28, 3) := by decide +kernel
theorem dL_nexts_68 : decode cL_nexts 68 = .ok (.iload 8, 2) := by decide +kernel
theorem dL_nexts_70 : decode cL_nexts 70 = .ok (.aload_n 0, 1) := by decide +kernel
theorem dL_nexts_71 : decode cL_nexts 71 = .ok (.iload_n 3, 1) := by decide +kernel
theorem dL_nexts_72 : decode cL_nexts 72 = .ok (.invokestatic 113, 3) := by decide +kernel
theorem dL_nexts_75 : decode cL_nexts 75 = .ok (.if_icmp .gt 18, 3) := by decide +kernel
theorem dL_nexts_78 : decode cL_nexts 78 = .ok (.iload 8, 2) := by decide +kernel
theorem dL_nexts_80 : decode cL_nexts 80 = .ok (.iload 5, 2) := by decide +kernel
theorem dL_nexts_82 : decode cL_nexts 82 = .ok (.if_icmp .ge 11, 3) := by decide +kernel
theorem dL_nexts_85 : decode cL_nexts 85 = .ok (.iload 8, 2) := by decide +kernel
theorem dL_nexts_87 : decode cL_nexts 87 = .ok (.istore 5, 2) := by decide +kernel
theorem dL_nexts_89 : decode cL_nexts 89 = .ok (.iload 6, 2) := by decide +kernel
theorem dL_nexts_91 : decode cL_nexts 91 = .ok (.istore 4, 2) := by decide +kernel
theorem dL_nexts_93 : decode cL_nexts 93 = .ok (.iinc 7 1, 3) := by decide +kernel
theorem dL_nexts_96 : decode cL_nexts 96 = .ok (.goto (-75), 3) := by decide +kernel
theorem dL_nexts_99 : decode cL_nexts 99 = .ok (.iinc 6 1, 3) := by decide +kernel
theorem dL_nexts_102 : decode cL_nexts 102 = .ok (.goto (-92), 3) := by decide +kernel
theorem dL_nexts_105 : decode cL_nexts 105 = .ok (.aload_n 0, 1) := by decide +kernel
theorem dL_nexts_106 : decode cL_nexts 106 = .ok (.iload_n 3, 1) := by decide +kernel
theorem dL_nexts_107 : decode cL_nexts 107 = .ok (.invokestatic 115, 3) := by decide +kernel
theorem dL_nexts_110 : decode cL_nexts 110 = .ok (.iload 4, 2) := by decide +kernel
theorem dL_nexts_112 : decode cL_nexts 112 = .ok (.if_icmp .ne 99, 3) := by decide +kernel
theorem dL_nexts_115 : decode cL_nexts 115 = .ok (.aload_n 0, 1) := by decide +kernel
theorem dL_nexts_116 : decode cL_nexts 116 = .ok (.iconst 5, 1) := by decide +kernel
theorem dL_nexts_117 : decode cL_nexts 117 = .ok (.invokestatic 115, 3) := by decide +kernel
theorem dL_nexts_120 : decode cL_nexts 120 = .ok (.ldc 28, 2) := by decide +kernel
theorem dL_nexts_122 : decode cL_nexts 122 = .ok (.if_icmp .ne 89, 3) := by decide +kernel
theorem dL_nexts_125 : decode cL_nexts 125 = .ok (.aload_n 0, 1) := by decide +kernel
theorem dL_nexts_126 : decode cL_nexts 126 = .ok (.iconst (-1), 1) := by decide +kernel
theorem dL_nexts_127 : decode cL_nexts 127 = .ok (.invokestatic 113, 3) := by decide +kernel
theorem dL_nexts_130 : decode cL_nexts 130 = .ok (.ldc 28, 2) := by decide +kernel
theorem dL_nexts_132 : decode cL_nexts 132 = .ok (.if_icmp .ne 79, 3) := by decide +kernel
theorem dL_nexts_135 : decode cL_nexts 135 = .ok (.aload_n 0, 1) := by decide +kernel
theorem dL_nexts_136 : decode cL_nexts 136 = .ok (.iconst 5, 1) := by decide +kernel
theorem dL_nexts_137 : decode cL_nexts 137 = .ok (.invokestatic 110, 3) := by decide +kernel
theorem dL_nexts_140 : decode cL_nexts 140 = .ok (.ldc 28, 2) := by decide +kernel
theorem dL_nexts_142 : decode cL_nexts 142 = .ok (.if_icmp .ne 69, 3) := by decide +kernel
theorem dL_nexts_145 : decode cL_nexts 145 = .ok (.aload_n 0, 1) := by decide +kernel
theorem dL_nexts_146 : decode cL_nexts 146 = .ok (.iload_n 3, 1) := by decide +kernel
theorem dL_nexts_147 : decode cL_nexts 147 = .ok (.invokestatic 113, 3) := by decide +kernel
theorem dL_nexts_150 : decode cL_nexts 150 = .ok (.iconst 2, 1) := by decide +kernel
theorem dL_nexts_151 : decode cL_nexts 151 = .ok (.if_icmp .lt 60, 3) := by decide +kernel
theorem dL_nexts_154 : decode cL_nexts 154 = .ok (.aload_n 0, 1) := by decide +kernel
theorem dL_nexts_155 : decode cL_nexts 155 = .ok (.aload_n 2, 1) := by decide +kernel
theorem dL_nexts_156 : decode cL_nexts 156 = .ok (.iconst 0, 1) := by decide +kernel
theorem dL_nexts_157 : decode cL_nexts 157 = .ok (.iaload, 1) := by decide +kernel
theorem dL_nexts_158 : decode cL_nexts 158 = .ok (.iconst 0, 1) := by decide +kernel
theorem dL_nexts_159 : decode cL_nexts 159 = .ok (.invokestatic 99, 3) := by decide +kernel
theorem dL_nexts_162 : decode cL_nexts 162 = .ok (.ldc 25, 2) := by decide +kernel
theorem dL_nexts_164 : decode cL_nexts 164 = .ok (.if_icmp .ne 47, 3) := by decide +kernel
theorem dL_nexts_167 : decode cL_nexts 167 = .ok (.aload_n 0, 1) := by decide +kernel
theorem dL_nexts_168 : decode cL_nexts 168 = .ok (.iconst 0, 1) := by decide +kernel
theorem dL_nexts_169 : decode cL_nexts 169 = .ok (.aload_n 2, 1) := by decide +kernel
theorem dL_nexts_170 : decode cL_nexts 170 = .ok (.iconst 1, 1) := by decide +kernel
theorem dL_nexts_171 : decode cL_nexts 171 = .ok (.iaload, 1) := by decide +kernel
theorem dL_nexts_172 : decode cL_nexts 172 = .ok (.invokestatic 101, 3) := by decide +kernel
theorem dL_nexts_175 : decode cL_nexts 175 = .ok (.ldc 25, 2) := by decide +kernel
theorem dL_nexts_177 : decode cL_nexts 177 = .ok (.if_icmp .ne 34, 3) := by decide +kernel
theorem dL_nexts_180 : decode cL_nexts 180 = .ok (.aload_n 0, 1) := by decide +kernel
theorem dL_nexts_181 : decode cL_nexts 181 = .ok (.aload_n 2, 1) := by decide +kernel
theorem dL_nexts_182 : decode cL_nexts 182 = .ok (.iconst 0, 1) := by decide +kernel
theorem dL_nexts_183 : decode cL_nexts 183 = .ok (.iaload, 1) := by decide +kernel
theorem dL_nexts_184 : decode cL_nexts 184 = .ok (.aload_n 2, 1) := by decide +kernel
theorem dL_nexts_185 : decode cL_nexts 185 = .ok (.iconst 1, 1) := by decide +kernel
theorem dL_nexts_186 : decode cL_nexts 186 = .ok (.iaload, 1) := by decide +kernel
theorem dL_nexts_187 : decode cL_nexts 187 = .ok (.invokestatic 108, 3) := by decide +kernel
theorem dL_nexts_190 : decode cL_nexts 190 = .ok (.ldc 25, 2) := by decide +kernel
theorem dL_nexts_192 : decode cL_nexts 192 = .ok (.if_icmp .ne 19, 3) := by decide +kernel
theorem dL_nexts_195 : decode cL_nexts 195 = .ok (.aload_n 0, 1) := by decide +kernel
theorem dL_nexts_196 : decode cL_nexts 196 = .ok (.aload_n 2, 1) := by decide +kernel
theorem dL_nexts_197 : decode cL_nexts 197 = .ok (.iconst 1, 1) := by decide +kernel
theorem dL_nexts_198 : decode cL_nexts 198 = .ok (.iaload, 1) := by decide +kernel
theorem dL_nexts_199 : decode cL_nexts 199 = .ok (.invokestatic 117, 3) := by decide +kernel
theorem dL_nexts_202 : decode cL_nexts 202 = .ok (.ldc 25, 2) := by decide +kernel
theorem dL_nexts_204 : decode cL_nexts 204 = .ok (.if_icmp .ne 7, 3) := by decide +kernel
theorem dL_nexts_207 : decode cL_nexts 207 = .ok (.iconst 1, 1) := by decide +kernel
theorem dL_nexts_208 : decode cL_nexts 208 = .ok (.goto 4, 3) := by decide +kernel
theorem dL_nexts_211 : decode cL_nexts 211 = .ok (.iconst 0, 1) := by decide +kernel
theorem dL_nexts_212 : decode cL_nexts 212 = .ok (.ireturn, 1) := by decide +kernel
theorem dL_learns_0 : decode cL_learns 0 = .ok (.aload_n 0, 1) := by decide +kernel
theorem dL_learns_1 : decode cL_learns 1 = .ok (.iload 4, 2) := by decide +kernel
theorem dL_learns_3 : decode cL_learns 3 = .ok (.iload 5, 2) := by decide +kernel
theorem dL_learns_5 : decode cL_learns 5 = .ok (.invokestatic 101, 3) := by decide +kernel
theorem dL_learns_8 : decode cL_learns 8 = .ok (.istore 6, 2) := by decide +kernel
theorem dL_learns_10 : decode cL_learns 10 = .ok (.aload_n 0, 1) := by decide +kernel
theorem dL_learns_11 : decode cL_learns 11 = .ok (.iload_n 3, 1) := by decide +kernel
theorem dL_learns_12 : decode cL_learns 12 = .ok (.invokestatic 113, 3) := by decide +kernel
theorem dL_learns_15 : decode cL_learns 15 = .ok (.istore 7, 2) := by decide +kernel
theorem dL_learns_17 : decode cL_learns 17 = .ok (.aload_n 0, 1) := by decide +kernel
theorem dL_learns_18 : decode cL_learns 18 = .ok (.iload_n 3, 1) := by decide +kernel
theorem dL_learns_19 : decode cL_learns 19 = .ok (.invokestatic 110, 3) := by decide +kernel
theorem dL_learns_22 : decode cL_learns 22 = .ok (.istore 8, 2) := by decide +kernel
theorem dL_learns_24 : decode cL_learns 24 = .ok (.aload_n 1, 1) := by decide +kernel
theorem dL_learns_25 : decode cL_learns 25 = .ok (.iload 5, 2) := by decide +kernel
theorem dL_learns_27 : decode cL_learns 27 = .ok (.iaload, 1) := by decide +kernel
theorem dL_learns_28 : decode cL_learns 28 = .ok (.bipush 32, 2) := by decide +kernel
theorem dL_learns_30 : decode cL_learns 30 = .ok (.idiv, 1) := by decide +kernel
theorem dL_learns_31 : decode cL_learns 31 = .ok (.iload_n 3, 1) := by decide +kernel
theorem dL_learns_32 : decode cL_learns 32 = .ok (.if_icmp .ne 29, 3) := by decide +kernel
theorem dL_learns_35 : decode cL_learns 35 = .ok (.iload 8, 2) := by decide +kernel
theorem dL_learns_37 : decode cL_learns 37 = .ok (.iload 4, 2) := by decide +kernel
theorem dL_learns_39 : decode cL_learns 39 = .ok (.ishr, 1) := by decide +kernel
theorem dL_learns_40 : decode cL_learns 40 = .ok (.iconst 1, 1) := by decide +kernel
theorem dL_learns_41 : decode cL_learns 41 = .ok (.iand, 1) := by decide +kernel
theorem dL_learns_42 : decode cL_learns 42 = .ok (.ifCond .ne 19, 3) := by decide +kernel
theorem dL_learns_45 : decode cL_learns 45 = .ok (.iload 6, 2) := by decide +kernel
theorem dL_learns_47 : decode cL_learns 47 = .ok (.ifCond .lt 14, 3) := by decide +kernel
theorem dL_learns_50 : decode cL_learns 50 = .ok (.iload 6, 2) := by decide +kernel
theorem dL_learns_52 : decode cL_learns 52 = .ok (.iload 7, 2) := by decide +kernel
theorem dL_learns_54 : decode cL_learns 54 = .ok (.if_icmp .gt 7, 3) := by decide +kernel
theorem dL_learns_57 : decode cL_learns 57 = .ok (.iconst 1, 1) := by decide +kernel
theorem dL_learns_58 : decode cL_learns 58 = .ok (.goto 4, 3) := by decide +kernel
theorem dL_learns_61 : decode cL_learns 61 = .ok (.iconst 0, 1) := by decide +kernel
theorem dL_learns_62 : decode cL_learns 62 = .ok (.istore 9, 2) := by decide +kernel
theorem dL_learns_64 : decode cL_learns 64 = .ok (.iload 9, 2) := by decide +kernel
theorem dL_learns_66 : decode cL_learns 66 = .ok (.ifCond .ne 8, 3) := by decide +kernel
theorem dL_learns_69 : decode cL_learns 69 = .ok (.ldc 18, 2) := by decide +kernel
theorem dL_learns_71 : decode cL_learns 71 = .ok (.goto 19, 3) := by decide +kernel
theorem dL_learns_74 : decode cL_learns 74 = .ok (.iload 6, 2) := by decide +kernel
theorem dL_learns_76 : decode cL_learns 76 = .ok (.iload 7, 2) := by decide +kernel
theorem dL_learns_78 : decode cL_learns 78 = .ok (.if_icmp .ne 10, 3) := by decide +kernel
theorem dL_learns_81 : decode cL_learns 81 = .ok (.iload 7, 2) := by decide +kernel
theorem dL_learns_83 : decode cL_learns 83 = .ok (.iconst 1, 1) := by decide +kernel
theorem dL_learns_84 : decode cL_learns 84 = .ok (.iadd, 1) := by decide +kernel
theorem dL_learns_85 : decode cL_learns 85 = .ok (.goto 5, 3) := by decide +kernel
theorem dL_learns_88 : decode cL_learns 88 = .ok (.iload 7, 2) := by decide +kernel
theorem dL_learns_90 : decode cL_learns 90 = .ok (.istore 10, 2) := by decide +kernel
theorem dL_learns_92 : decode cL_learns 92 = .ok (.aload_n 0, 1) := by decide +kernel
theorem dL_learns_93 : decode cL_learns 93 = .ok (.iload_n 3, 1) := by decide +kernel
theorem dL_learns_94 : decode cL_learns 94 = .ok (.iload 4, 2) := by decide +kernel
theorem dL_learns_96 : decode cL_learns 96 = .ok (.iload 5, 2) := by decide +kernel
theorem dL_learns_98 : decode cL_learns 98 = .ok (.invokestatic 119, 3) := by decide +kernel
theorem dL_learns_101 : decode cL_learns 101 = .ok (.iload 10, 2) := by decide +kernel
theorem dL_learns_103 : decode cL_learns 103 = .ok (.if_icmp .ne 50, 3) := by decide +kernel
theorem dL_learns_106 : decode cL_learns 106 = .ok (.aload_n 0, 1) := by decide +kernel
theorem dL_learns_107 : decode cL_learns 107 = .ok (.iload_n 3, 1) := by decide +kernel
theorem dL_learns_108 : decode cL_learns 108 = .ok (.iload 4, 2) := by decide +kernel
theorem dL_learns_110 : decode cL_learns 110 = .ok (.iload 5, 2) := by decide +kernel
theorem dL_learns_112 : decode cL_learns 112 = .ok (.invokestatic 119, 3) := by decide +kernel
theorem dL_learns_115 : decode cL_learns 115 = .ok (.ldc 18, 2) := by decide +kernel
theorem dL_learns_117 : decode cL_learns 117 = .ok (.if_icmp .ne 36, 3) := by decide +kernel
theorem dL_learns_120 : decode cL_learns 120 = .ok (.aload_n 0, 1) := by decide +kernel
theorem dL_learns_121 : decode cL_learns 121 = .ok (.iconst 5, 1) := by decide +kernel
theorem dL_learns_122 : decode cL_learns 122 = .ok (.iload 4, 2) := by decide +kernel
theorem dL_learns_124 : decode cL_learns 124 = .ok (.iload 5, 2) := by decide +kernel
theorem dL_learns_126 : decode cL_learns 126 = .ok (.invokestatic 119, 3) := by decide +kernel
theorem dL_learns_129 : decode cL_learns 129 = .ok (.ldc 28, 2) := by decide +kernel
theorem dL_learns_131 : decode cL_learns 131 = .ok (.if_icmp .ne 22, 3) := by decide +kernel
theorem dL_learns_134 : decode cL_learns 134 = .ok (.aload_n 0, 1) := by decide +kernel
theorem dL_learns_135 : decode cL_learns 135 = .ok (.iconst 5, 1) := by decide +kernel
theorem dL_learns_136 : decode cL_learns 136 = .ok (.aload_n 2, 1) := by decide +kernel
theorem dL_learns_137 : decode cL_learns 137 = .ok (.iconst 0, 1) := by decide +kernel
theorem dL_learns_138 : decode cL_learns 138 = .ok (.iaload, 1) := by decide +kernel
theorem dL_learns_139 : decode cL_learns 139 = .ok (.iload 5, 2) := by decide +kernel
theorem dL_learns_141 : decode cL_learns 141 = .ok (.invokestatic 119, 3) := by decide +kernel
theorem dL_learns_144 : decode cL_learns 144 = .ok (.ldc 25, 2) := by decide +kernel
theorem dL_learns_146 : decode cL_learns 146 = .ok (.if_icmp .ne 7, 3) := by decide +kernel
theorem dL_learns_149 : decode cL_learns 149 = .ok (.iconst 1, 1) := by decide +kernel
theorem dL_learns_150 : decode cL_learns 150 = .ok (.goto 4, 3) := by decide +kernel
theorem dL_learns_153 : decode cL_learns 153 = .ok (.iconst 0, 1) := by decide +kernel
theorem dL_learns_154 : decode cL_learns 154 = .ok (.istore 11, 2) := by decide +kernel
theorem dL_learns_156 : decode cL_learns 156 = .ok (.iload 11, 2) := by decide +kernel
theorem dL_learns_158 : decode cL_learns 158 = .ok (.ifCond .eq 52, 3) := by decide +kernel
theorem dL_learns_161 : decode cL_learns 161 = .ok (.aload_n 0, 1) := by decide +kernel
theorem dL_learns_162 : decode cL_learns 162 = .ok (.iload_n 3, 1) := by decide +kernel
theorem dL_learns_163 : decode cL_learns 163 = .ok (.invokestatic 113, 3) := by decide +kernel
theorem dL_learns_166 : decode cL_learns 166 = .ok (.iload 9, 2) := by decide +kernel
theorem dL_learns_168 : decode cL_learns 168 = .ok (.ifCond .eq 8, 3) := by decide +kernel
theorem dL_learns_171 : decode cL_learns 171 = .ok (.iload 10, 2) := by decide +kernel
theorem dL_learns_173 : decode cL_learns 173 = .ok (.goto 5, 3) := by decide +kernel
theorem dL_learns_176 : decode cL_learns 176 = .ok (.iload 7, 2) := by decide +kernel
theorem dL_learns_178 : decode cL_learns 178 = .ok (.if_icmp .ne 32, 3) := by decide +kernel
theorem dL_learns_181 : decode cL_learns 181 = .ok (.aload_n 0, 1) := by decide +kernel
theorem dL_learns_182 : decode cL_learns 182 = .ok (.iload_n 3, 1) := by decide +kernel
theorem dL_learns_183 : decode cL_learns 183 = .ok (.invokestatic 110, 3) := by decide +kernel
theorem dL_learns_186 : decode cL_learns 186 = .ok (.iload 9, 2) := by decide +kernel
theorem dL_learns_188 : decode cL_learns 188 = .ok (.ifCond .eq 13, 3) := by decide +kernel
theorem dL_learns_191 : decode cL_learns 191 = .ok (.iload 8, 2) := by decide +kernel
theorem dL_learns_193 : decode cL_learns 193 = .ok (.iconst 1, 1) := by decide +kernel
theorem dL_learns_194 : decode cL_learns 194 = .ok (.iload 4, 2) := by decide +kernel
theorem dL_learns_196 : decode cL_learns 196 = .ok (.ishl, 1) := by decide +kernel
theorem dL_learns_197 : decode cL_learns 197 = .ok (.ior, 1) := by decide +kernel
theorem dL_learns_198 : decode cL_learns 198 = .ok (.goto 5, 3) := by decide +kernel
theorem dL_learns_201 : decode cL_learns 201 = .ok (.iload 8, 2) := by decide +kernel
theorem dL_learns_203 : decode cL_learns 203 = .ok (.if_icmp .ne 7, 3) := by decide +kernel
theorem dL_learns_206 : decode cL_learns 206 = .ok (.iconst 1, 1) := by decide +kernel
theorem dL_learns_207 : decode cL_learns 207 = .ok (.goto 4, 3) := by decide +kernel
theorem dL_learns_210 : decode cL_learns 210 = .ok (.iconst 0, 1) := by decide +kernel
theorem dL_learns_211 : decode cL_learns 211 = .ok (.ireturn, 1) := by decide +kernel
theorem dL_pieces_0 : decode cL_pieces 0 = .ok (.aload_n 2, 1) := by decide +kernel
theorem dL_pieces_1 : decode cL_pieces 1 = .ok (.iconst 0, 1) := by decide +kernel
theorem dL_pieces_2 : decode cL_pieces 2 = .ok (.iaload, 1) := by decide +kernel
theorem dL_pieces_3 : decode cL_pieces 3 = .ok (.iconst 2, 1) := by decide +kernel
theorem dL_pieces_4 : decode cL_pieces 4 = .ok (.if_icmp .lt 12, 3) := by decide +kernel
theorem dL_pieces_7 : decode cL_pieces 7 = .ok (.iload_n 3, 1) := by decide +kernel
theorem dL_pieces_8 : decode cL_pieces 8 = .ok (.bipush 8, 2) := by decide +kernel
theorem dL_pieces_10 : decode cL_pieces 10 = .ok (.invokestatic 121, 3) := by decide +kernel
theorem dL_pieces_13 : decode cL_pieces 13 = .ok (.ifCond .ne 69, 3) := by decide +kernel
theorem dL_pieces_16 : decode cL_pieces 16 = .ok (.aload_n 2, 1) := by decide +kernel
theorem dL_pieces_17 : decode cL_pieces 17 = .ok (.iconst 0, 1) := by decide +kernel
theorem dL_pieces_18 : decode cL_pieces 18 = .ok (.iaload, 1) := by decide +kernel
theorem dL_pieces_19 : decode cL_pieces 19 = .ok (.bipush 8, 2) := by decide +kernel
theorem dL_pieces_21 : decode cL_pieces 21 = .ok (.if_icmp .ge 9, 3) := by decide +kernel
theorem dL_pieces_24 : decode cL_pieces 24 = .ok (.aload_n 2, 1) := by decide +kernel
theorem dL_pieces_25 : decode cL_pieces 25 = .ok (.iconst 0, 1) := by decide +kernel
theorem dL_pieces_26 : decode cL_pieces 26 = .ok (.iaload, 1) := by decide +kernel
theorem dL_pieces_27 : decode cL_pieces 27 = .ok (.goto 5, 3) := by decide +kernel
theorem dL_pieces_30 : decode cL_pieces 30 = .ok (.ldc 18, 2) := by decide +kernel
theorem dL_pieces_32 : decode cL_pieces 32 = .ok (.istore 5, 2) := by decide +kernel
theorem dL_pieces_34 : decode cL_pieces 34 = .ok (.aload_n 2, 1) := by decide +kernel
theorem dL_pieces_35 : decode cL_pieces 35 = .ok (.iconst 0, 1) := by decide +kernel
theorem dL_pieces_36 : decode cL_pieces 36 = .ok (.dup2, 1) := by decide +kernel
