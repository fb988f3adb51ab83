theorem dL_acts_363 : decode cL_acts 363 = .ok (.bipush 8, 2) := by decide +kernel
theorem dL_acts_365 : decode cL_acts 365 = .ok (.ishr, 1) := by decide +kernel
theorem dL_acts_366 : decode cL_acts 366 = .ok (.bipush 61, 2) := by decide +kernel
theorem dL_acts_368 : decode cL_acts 368 = .ok (.invokestatic 121, 3) := by decide +kernel
theorem dL_acts_371 : decode cL_acts 371 = .ok (.istore 13, 2) := by decide +kernel
theorem dL_acts_373 : decode cL_acts 373 = .ok (.aload_n 2, 1) := by decide +kernel
theorem dL_acts_374 : decode cL_acts 374 = .ok (.iconst 4, 1) := by decide +kernel
theorem dL_acts_375 : decode cL_acts 375 = .ok (.iload 10, 2) := by decide +kernel
theorem dL_acts_377 : decode cL_acts 377 = .ok (.imul, 1) := by decide +kernel
theorem dL_acts_378 : decode cL_acts 378 = .ok (.iload 12, 2) := by decide +kernel
theorem dL_acts_380 : decode cL_acts 380 = .ok (.iadd, 1) := by decide +kernel
theorem dL_acts_381 : decode cL_acts 381 = .ok (.iaload, 1) := by decide +kernel
theorem dL_acts_382 : decode cL_acts 382 = .ok (.istore 14, 2) := by decide +kernel
theorem dL_acts_384 : decode cL_acts 384 = .ok (.aload_n 2, 1) := by decide +kernel
theorem dL_acts_385 : decode cL_acts 385 = .ok (.iconst 4, 1) := by decide +kernel
theorem dL_acts_386 : decode cL_acts 386 = .ok (.iload 10, 2) := by decide +kernel
theorem dL_acts_388 : decode cL_acts 388 = .ok (.imul, 1) := by decide +kernel
theorem dL_acts_389 : decode cL_acts 389 = .ok (.iload 12, 2) := by decide +kernel
theorem dL_acts_391 : decode cL_acts 391 = .ok (.iadd, 1) := by decide +kernel
theorem dL_acts_392 : decode cL_acts 392 = .ok (.iload 13, 2) := by decide +kernel
theorem dL_acts_394 : decode cL_acts 394 = .ok (.iastore, 1) := by decide +kernel
theorem dL_acts_395 : decode cL_acts 395 = .ok (.aload_n 0, 1) := by decide +kernel
theorem dL_acts_396 : decode cL_acts 396 = .ok (.iload 10, 2) := by decide +kernel
theorem dL_acts_398 : decode cL_acts 398 = .ok (.iload 12, 2) := by decide +kernel
theorem dL_acts_400 : decode cL_acts 400 = .ok (.iload 13, 2) := by decide +kernel
theorem dL_acts_402 : decode cL_acts 402 = .ok (.invokestatic 160, 3) := by decide +kernel
theorem dL_acts_405 : decode cL_acts 405 = .ok (.iload 14, 2) := by decide +kernel
theorem dL_acts_407 : decode cL_acts 407 = .ok (.if_icmp .ne 50, 3) := by decide +kernel
theorem dL_acts_410 : decode cL_acts 410 = .ok (.aload_n 0, 1) := by decide +kernel
theorem dL_acts_411 : decode cL_acts 411 = .ok (.iload 10, 2) := by decide +kernel
theorem dL_acts_413 : decode cL_acts 413 = .ok (.iconst 4, 1) := by decide +kernel
theorem dL_acts_414 : decode cL_acts 414 = .ok (.iconst 0, 1) := by decide +kernel
theorem dL_acts_415 : decode cL_acts 415 = .ok (.invokestatic 160, 3) := by decide +kernel
theorem dL_acts_418 : decode cL_acts 418 = .ok (.ldc 28, 2) := by decide +kernel
theorem dL_acts_420 : decode cL_acts 420 = .ok (.if_icmp .ne 37, 3) := by decide +kernel
theorem dL_acts_423 : decode cL_acts 423 = .ok (.aload_n 0, 1) := by decide +kernel
theorem dL_acts_424 : decode cL_acts 424 = .ok (.iload 10, 2) := by decide +kernel
theorem dL_acts_426 : decode cL_acts 426 = .ok (.iconst 0, 1) := by decide +kernel
theorem dL_acts_427 : decode cL_acts 427 = .ok (.bipush 61, 2) := by decide +kernel
theorem dL_acts_429 : decode cL_acts 429 = .ok (.invokestatic 160, 3) := by decide +kernel
theorem dL_acts_432 : decode cL_acts 432 = .ok (.ldc 28, 2) := by decide +kernel
theorem dL_acts_434 : decode cL_acts 434 = .ok (.if_icmp .ne 23, 3) := by decide +kernel
theorem dL_acts_437 : decode cL_acts 437 = .ok (.aload_n 0, 1) := by decide +kernel
theorem dL_acts_438 : decode cL_acts 438 = .ok (.aload 6, 2) := by decide +kernel
theorem dL_acts_440 : decode cL_acts 440 = .ok (.iconst 1, 1) := by decide +kernel
theorem dL_acts_441 : decode cL_acts 441 = .ok (.iaload, 1) := by decide +kernel
theorem dL_acts_442 : decode cL_acts 442 = .ok (.bipush 9, 2) := by decide +kernel
theorem dL_acts_444 : decode cL_acts 444 = .ok (.iconst 0, 1) := by decide +kernel
theorem dL_acts_445 : decode cL_acts 445 = .ok (.invokestatic 160, 3) := by decide +kernel
theorem dL_acts_448 : decode cL_acts 448 = .ok (.ldc 25, 2) := by decide +kernel
theorem dL_acts_450 : decode cL_acts 450 = .ok (.if_icmp .ne 7, 3) := by decide +kernel
theorem dL_acts_453 : decode cL_acts 453 = .ok (.iconst 1, 1) := by decide +kernel
theorem dL_acts_454 : decode cL_acts 454 = .ok (.goto 4, 3) := by decide +kernel
theorem dL_acts_457 : decode cL_acts 457 = .ok (.iconst 0, 1) := by decide +kernel
theorem dL_acts_458 : decode cL_acts 458 = .ok (.ireturn, 1) := by decide +kernel
theorem dL_acts_459 : decode cL_acts 459 = .ok (.iload 9, 2) := by decide +kernel
theorem dL_acts_461 : decode cL_acts 461 = .ok (.bipush 26, 2) := by decide +kernel
theorem dL_acts_463 : decode cL_acts 463 = .ok (.if_icmp .ge 70, 3) := by decide +kernel
theorem dL_acts_466 : decode cL_acts 466 = .ok (.iload 8, 2) := by decide +kernel
theorem dL_acts_468 : decode cL_acts 468 = .ok (.bipush 6, 2) := by decide +kernel
theorem dL_acts_470 : decode cL_acts 470 = .ok (.ishr, 1) := by decide +kernel
theorem dL_acts_471 : decode cL_acts 471 = .ok (.iconst 4, 1) := by decide +kernel
theorem dL_acts_472 : decode cL_acts 472 = .ok (.invokestatic 121, 3) := by decide +kernel
theorem dL_acts_475 : decode cL_acts 475 = .ok (.ifCond .ne 15, 3) := by decide +kernel
theorem dL_acts_478 : decode cL_acts 478 = .ok (.iload 8, 2) := by decide +kernel
theorem dL_acts_480 : decode cL_acts 480 = .ok (.bipush 8, 2) := by decide +kernel
theorem dL_acts_482 : decode cL_acts 482 = .ok (.ishr, 1) := by decide +kernel
theorem dL_acts_483 : decode cL_acts 483 = .ok (.iconst 5, 1) := by decide +kernel
theorem dL_acts_484 : decode cL_acts 484 = .ok (.invokestatic 121, 3) := by decide +kernel
theorem dL_acts_487 : decode cL_acts 487 = .ok (.goto 10, 3) := by decide +kernel
theorem dL_acts_490 : decode cL_acts 490 = .ok (.aload_n 3, 1) := by decide +kernel
theorem dL_acts_491 : decode cL_acts 491 = .ok (.iload 10, 2) := by decide +kernel
theorem dL_acts_493 : decode cL_acts 493 = .ok (.iaload, 1) := by decide +kernel
theorem dL_acts_494 : decode cL_acts 494 = .ok (.bipush 32, 2) := by decide +kernel
theorem dL_acts_496 : decode cL_acts 496 = .ok (.idiv, 1) := by decide +kernel
theorem dL_acts_497 : decode cL_acts 497 = .ok (.istore 12, 2) := by decide +kernel
theorem dL_acts_499 : decode cL_acts 499 = .ok (.aload_n 0, 1) := by decide +kernel
theorem dL_acts_500 : decode cL_acts 500 = .ok (.aload_n 3, 1) := by decide +kernel
theorem dL_acts_501 : decode cL_acts 501 = .ok (.aload 6, 2) := by decide +kernel
theorem dL_acts_503 : decode cL_acts 503 = .ok (.iload 12, 2) := by decide +kernel
theorem dL_acts_505 : decode cL_acts 505 = .ok (.iload 11, 2) := by decide +kernel
theorem dL_acts_507 : decode cL_acts 507 = .ok (.iload 10, 2) := by decide +kernel
theorem dL_acts_509 : decode cL_acts 509 = .ok (.invokestatic 166, 3) := by decide +kernel
theorem dL_acts_512 : decode cL_acts 512 = .ok (.ifCond .eq 19, 3) := by decide +kernel
theorem dL_acts_515 : decode cL_acts 515 = .ok (.aload_n 0, 1) := by decide +kernel
theorem dL_acts_516 : decode cL_acts 516 = .ok (.aload_n 3, 1) := by decide +kernel
theorem dL_acts_517 : decode cL_acts 517 = .ok (.aload 6, 2) := by decide +kernel
theorem dL_acts_519 : decode cL_acts 519 = .ok (.iload 12, 2) := by decide +kernel
theorem dL_acts_521 : decode cL_acts 521 = .ok (.invokestatic 162, 3) := by decide +kernel
theorem dL_acts_524 : decode cL_acts 524 = .ok (.ifCond .eq 7, 3) := by decide +kernel
theorem dL_acts_527 : decode cL_acts 527 = .ok (.iconst 1, 1) := by decide +kernel
theorem dL_acts_528 : decode cL_acts 528 = .ok (.goto 4, 3) := by decide +kernel
theorem dL_acts_531 : decode cL_acts 531 = .ok (.iconst 0, 1) := by decide +kernel
theorem dL_acts_532 : decode cL_acts 532 = .ok (.ireturn, 1) := by decide +kernel
theorem dL_acts_533 : decode cL_acts 533 = .ok (.aload_n 0, 1) := by decide +kernel
theorem dL_acts_534 : decode cL_acts 534 = .ok (.aload_n 1, 1) := by decide +kernel
theorem dL_acts_535 : decode cL_acts 535 = .ok (.aload_n 2, 1) := by decide +kernel
theorem dL_acts_536 : decode cL_acts 536 = .ok (.aload_n 3, 1) := by decide +kernel
theorem dL_acts_537 : decode cL_acts 537 = .ok (.iload 11, 2) := by decide +kernel
theorem dL_acts_539 : decode cL_acts 539 = .ok (.iload 10, 2) := by decide +kernel
theorem dL_acts_541 : decode cL_acts 541 = .ok (.invokestatic 170, 3) := by decide +kernel
theorem dL_acts_544 : decode cL_acts 544 = .ok (.ireturn, 1) := by decide +kernel
theorem dL_law_0 : decode cL_law 0 = .ok (.new 11, 3) := by decide +kernel
theorem dL_law_3 : decode cL_law 3 = .ok (.dup, 1) := by decide +kernel
theorem dL_law_4 : decode cL_law 4 = .ok (.invokespecial 173, 3) := by decide +kernel
theorem dL_law_7 : decode cL_law 7 = .ok (.astore_n 1, 1) := by decide +kernel
theorem dL_law_8 : decode cL_law 8 = .ok (.bipush 8, 2) := by decide +kernel
theorem dL_law_10 : decode cL_law 10 = .ok (.newarray .int, 2) := by decide +kernel
theorem dL_law_12 : decode cL_law 12 = .ok (.astore_n 2, 1) := by decide +kernel
theorem dL_law_13 : decode cL_law 13 = .ok (.bipush 32, 2) := by decide +kernel
theorem dL_law_15 : decode cL_law 15 = .ok (.newarray .int, 2) := by decide +kernel
theorem dL_law_17 : decode cL_law 17 = .ok (.astore_n 3, 1) := by decide +kernel
theorem dL_law_18 : decode cL_law 18 = .ok (.bipush 8, 2) := by decide +kernel
theorem dL_law_20 : decode cL_law 20 = .ok (.newarray .int, 2) := by decide +kernel
theorem dL_law_22 : decode cL_law 22 = .ok (.astore 4, 2) := by decide +kernel
theorem dL_law_24 : decode cL_law 24 = .ok (.bipush 20, 2) := by decide +kernel
theorem dL_law_26 : decode cL_law 26 = .ok (.newarray .int, 2) := by decide +kernel
theorem dL_law_28 : decode cL_law 28 = .ok (.astore 5, 2) := by decide +kernel
theorem dL_law_30 : decode cL_law 30 = .ok (.iconst 4, 1) := by decide +kernel
theorem dL_law_31 : decode cL_law 31 = .ok (.newarray .int, 2) := by decide +kernel
theorem dL_law_33 : decode cL_law 33 = .ok (.astore 6, 2) := by decide +kernel
theorem dL_law_35 : decode cL_law 35 = .ok (.iconst 4, 1) := by decide +kernel
theorem dL_law_36 : decode cL_law 36 = .ok (.newarray .int, 2) := by decide +kernel
theorem dL_law_38 : decode cL_law 38 = .ok (.astore 7, 2) := by decide +kernel
theorem dL_law_40 : decode cL_law 40 = .ok (.aload_n 1, 1) := by decide +kernel
theorem dL_law_41 : decode cL_law 41 = .ok (.invokevirtual 153, 3) := by decide +kernel
theorem dL_law_44 : decode cL_law 44 = .ok (.ifCond .ne 40, 3) := by decide +kernel
theorem dL_law_47 : decode cL_law 47 = .ok (.aload_n 1, 1) := by decide +kernel
theorem dL_law_48 : decode cL_law 48 = .ok (.invokevirtual 138, 3) := by decide +kernel
theorem dL_law_51 : decode cL_law 51 = .ok (.ifCond .ne 33, 3) := by decide +kernel
theorem dL_law_54 : decode cL_law 54 = .ok (.aload_n 1, 1) := by decide +kernel
theorem dL_law_55 : decode cL_law 55 = .ok (.iconst 4, 1) := by decide +kernel
theorem dL_law_56 : decode cL_law 56 = .ok (.invokestatic 113, 3) := by decide +kernel
theorem dL_law_59 : decode cL_law 59 = .ok (.iconst 2, 1) := by decide +kernel
theorem dL_law_60 : decode cL_law 60 = .ok (.if_icmp .ne 24, 3) := by decide +kernel
theorem dL_law_63 : decode cL_law 63 = .ok (.aload_n 1, 1) := by decide +kernel
theorem dL_law_64 : decode cL_law 64 = .ok (.iconst 0, 1) := by decide +kernel
theorem dL_law_65 : decode cL_law 65 = .ok (.invokestatic 110, 3) := by decide +kernel
theorem dL_law_68 : decode cL_law 68 = .ok (.ifCond .ne 16, 3) := by decide +kernel
theorem dL_law_71 : decode cL_law 71 = .ok (.aload_n 1, 1) := by decide +kernel
theorem dL_law_72 : decode cL_law 72 = .ok (.iconst 0, 1) := by decide +kernel
theorem dL_law_73 : decode cL_law 73 = .ok (.invokestatic 115, 3) := by decide +kernel
theorem dL_law_76 : decode cL_law 76 = .ok (.iconst (-1), 1) := by decide +kernel
theorem dL_law_77 : decode cL_law 77 = .ok (.if_icmp .ne 7, 3) := by decide +kernel
theorem dL_law_80 : decode cL_law 80 = .ok (.iconst 1, 1) := by decide +kernel
theorem dL_law_81 : decode cL_law 81 = .ok (.goto 4, 3) := by decide +kernel
theorem dL_law_84 : decode cL_law 84 = .ok (.iconst 0, 1) := by decide +kernel
theorem dL_law_85 : decode cL_law 85 = .ok (.istore 8, 2) := by decide +kernel
theorem dL_law_87 : decode cL_law 87 = .ok (.iconst 0, 1) := by decide +kernel
theorem dL_law_88 : decode cL_law 88 = .ok (.istore 9, 2) := by decide +kernel
theorem dL_law_90 : decode cL_law 90 = .ok (.iload 9, 2) := by decide +kernel
theorem dL_law_92 : decode cL_law 92 = .ok (.sipush 160, 3) := by decide +kernel
theorem dL_law_95 : decode cL_law 95 = .ok (.if_icmp .ge 48, 3) := by decide +kernel
theorem dL_law_98 : decode cL_law 98 = .ok (.iload 8, 2) := by decide +kernel
theorem dL_law_100 : decode cL_law 100 = .ok (.ifCond .eq 43, 3) := by decide +kernel
theorem dL_law_103 : decode cL_law 103 = .ok (.aload_n 1, 1) := by decide +kernel
theorem dL_law_104 : decode cL_law 104 = .ok (.aload_n 2, 1) := by decide +kernel
theorem dL_law_105 : decode cL_law 105 = .ok (.aload_n 3, 1) := by decide +kernel
theorem dL_law_106 : decode cL_law 106 = .ok (.aload 4, 2) := by decide +kernel
theorem dL_law_108 : decode cL_law 108 = .ok (.aload 5, 2) := by decide +kernel
theorem dL_law_110 : decode cL_law 110 = .ok (.aload 6, 2) := by decide +kernel
theorem dL_law_112 : decode cL_law 112 = .ok (.aload 7, 2) := by decide +kernel
theorem dL_law_114 : decode cL_law 114 = .ok (.aload_n 0, 1) := by decide +kernel
theorem dL_law_115 : decode cL_law 115 = .ok (.iconst 2, 1) := by decide +kernel
theorem dL_law_116 : decode cL_law 116 = .ok (.iload 9, 2) := by decide +kernel
theorem dL_law_118 : decode cL_law 118 = .ok (.imul, 1) := by decide +kernel
theorem dL_law_119 : decode cL_law 119 = .ok (.invokestatic 174, 3) := by decide +kernel
theorem dL_law_122 : decode cL_law 122 = .ok (.aload_n 0, 1) := by decide +kernel
theorem dL_law_123 : decode cL_law 123 = .ok (.iconst 2, 1) := by decide +kernel
theorem dL_law_124 : decode cL_law 124 = .ok (.iload 9, 2) := by decide +kernel
theorem dL_law_126 : decode cL_law 126 = .ok (.imul, 1) := by decide +kernel
theorem dL_law_127 : decode cL_law 127 = .ok (.iconst 1, 1) := by decide +kernel
theorem dL_law_128 : decode cL_law 128 = .ok (.iadd, 1) := by decide +kernel
theorem dL_law_129 : decode cL_law 129 = .ok (.invokestatic 174, 3) := by decide +kernel
theorem dL_law_132 : decode cL_law 132 = .ok (.invokestatic 178, 3) := by decide +kernel
theorem dL_law_135 : decode cL_law 135 = .ok (.istore 8, 2) := by decide +kernel
theorem dL_law_137 : decode cL_law 137 = .ok (.iinc 9 1, 3) := by decide +kernel
theorem dL_law_140 : decode cL_law 140 = .ok (.goto (-50), 3) := by decide +kernel
theorem dL_law_143 : decode cL_law 143 = .ok (.iconst 0, 1) := by decide +kernel
theorem dL_law_144 : decode cL_law 144 = .ok (.istore 9, 2) := by decide +kernel
theorem dL_law_146 : decode cL_law 146 = .ok (.iload 9, 2) := by decide +kernel
theorem dL_law_148 : decode cL_law 148 = .ok (.aload 7, 2) := by decide +kernel
theorem dL_law_150 : decode cL_law 150 = .ok (.iconst 1, 1) := by decide +kernel
theorem dL_law_151 : decode cL_law 151 = .ok (.iaload, 1) := by decide +kernel
theorem dL_law_152 : decode cL_law 152 = .ok (.if_icmp .ge 48, 3) := by decide +kernel
theorem dL_law_155 : decode cL_law 155 = .ok (.iload 8, 2) := by decide +kernel
theorem dL_law_157 : decode cL_law 157 = .ok (.ifCond .eq 43, 3) := by decide +kernel
theorem dL_law_160 : decode cL_law 160 = .ok (.aload 7, 2) := by decide +kernel
theorem dL_law_162 : decode cL_law 162 = .ok (.iconst 0, 1) := by decide +kernel
theorem dL_law_163 : decode cL_law 163 = .ok (.iaload, 1) := by decide +kernel
theorem dL_law_164 : decode cL_law 164 = .ok (.ifCond .eq 23, 3) := by decide +kernel
theorem dL_law_167 : decode cL_law 167 = .ok (.aload_n 1, 1) := by decide +kernel
theorem dL_law_168 : decode cL_law 168 = .ok (.aload_n 2, 1) := by decide +kernel
theorem dL_law_169 : decode cL_law 169 = .ok (.aload_n 3, 1) := by decide +kernel
theorem dL_law_170 : decode cL_law 170 = .ok (.aload 4, 2) := by decide +kernel
theorem dL_law_172 : decode cL_law 172 = .ok (.iload 9, 2) := by decide +kernel
theorem dL_law_174 : decode cL_law 174 = .ok (.aload 7, 2) := by decide +kernel
theorem dL_law_176 : decode cL_law 176 = .ok (.iconst 0, 1) := by decide +kernel
theorem dL_law_177 : decode cL_law 177 = .ok (.iaload, 1) := by decide +kernel
theorem dL_law_178 : decode cL_law 178 = .ok (.irem, 1) := by decide +kernel
theorem dL_law_179 : decode cL_law 179 = .ok (.iload 9, 2) := by decide +kernel
theorem dL_law_181 : decode cL_law 181 = .ok (.invokestatic 170, 3) := by decide +kernel
theorem dL_law_184 : decode cL_law 184 = .ok (.ifCond .eq 7, 3) := by decide +kernel
theorem dL_law_187 : decode cL_law 187 = .ok (.iconst 1, 1) := by decide +kernel
theorem dL_law_188 : decode cL_law 188 = .ok (.goto 4, 3) := by decide +kernel
theorem dL_law_191 : decode cL_law 191 = .ok (.iconst 0, 1) := by decide +kernel
theorem dL_law_192 : decode cL_law 192 = .ok (.istore 8, 2) := by decide +kernel
theorem dL_law_194 : decode cL_law 194 = .ok (.iinc 9 1, 3) := by decide +kernel
theorem dL_law_197 : decode cL_law 197 = .ok (.goto (-51), 3) := by decide +kernel
theorem dL_law_200 : decode cL_law 200 = .ok (.iload 8, 2) := by decide +kernel
theorem dL_law_202 : decode cL_law 202 = .ok (.ireturn, 1) := by decide +kernel
