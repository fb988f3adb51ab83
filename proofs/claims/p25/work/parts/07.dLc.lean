theorem dL_pieces_37 : decode cL_pieces 37 = .ok (.iaload, 1) := by decide +kernel
theorem dL_pieces_38 : decode cL_pieces 38 = .ok (.iload 5, 2) := by decide +kernel
theorem dL_pieces_40 : decode cL_pieces 40 = .ok (.ifCond .ge 7, 3) := by decide +kernel
theorem dL_pieces_43 : decode cL_pieces 43 = .ok (.iconst 0, 1) := by decide +kernel
theorem dL_pieces_44 : decode cL_pieces 44 = .ok (.goto 4, 3) := by decide +kernel
theorem dL_pieces_47 : decode cL_pieces 47 = .ok (.iconst 1, 1) := by decide +kernel
theorem dL_pieces_48 : decode cL_pieces 48 = .ok (.iadd, 1) := by decide +kernel
theorem dL_pieces_49 : decode cL_pieces 49 = .ok (.iastore, 1) := by decide +kernel
theorem dL_pieces_50 : decode cL_pieces 50 = .ok (.aload_n 0, 1) := by decide +kernel
theorem dL_pieces_51 : decode cL_pieces 51 = .ok (.invokestatic 124, 3) := by decide +kernel
theorem dL_pieces_54 : decode cL_pieces 54 = .ok (.iload 5, 2) := by decide +kernel
theorem dL_pieces_56 : decode cL_pieces 56 = .ok (.if_icmp .ne 24, 3) := by decide +kernel
theorem dL_pieces_59 : decode cL_pieces 59 = .ok (.iload 5, 2) := by decide +kernel
theorem dL_pieces_61 : decode cL_pieces 61 = .ok (.ifCond .lt 15, 3) := by decide +kernel
theorem dL_pieces_64 : decode cL_pieces 64 = .ok (.aload_n 0, 1) := by decide +kernel
theorem dL_pieces_65 : decode cL_pieces 65 = .ok (.iload 5, 2) := by decide +kernel
theorem dL_pieces_67 : decode cL_pieces 67 = .ok (.iconst 0, 1) := by decide +kernel
theorem dL_pieces_68 : decode cL_pieces 68 = .ok (.invokestatic 87, 3) := by decide +kernel
theorem dL_pieces_71 : decode cL_pieces 71 = .ok (.ldc 25, 2) := by decide +kernel
theorem dL_pieces_73 : decode cL_pieces 73 = .ok (.if_icmp .ne 7, 3) := by decide +kernel
theorem dL_pieces_76 : decode cL_pieces 76 = .ok (.iconst 1, 1) := by decide +kernel
theorem dL_pieces_77 : decode cL_pieces 77 = .ok (.goto 4, 3) := by decide +kernel
theorem dL_pieces_80 : decode cL_pieces 80 = .ok (.iconst 0, 1) := by decide +kernel
theorem dL_pieces_81 : decode cL_pieces 81 = .ok (.ireturn, 1) := by decide +kernel
theorem dL_pieces_82 : decode cL_pieces 82 = .ok (.iload_n 3, 1) := by decide +kernel
theorem dL_pieces_83 : decode cL_pieces 83 = .ok (.iconst 3, 1) := by decide +kernel
theorem dL_pieces_84 : decode cL_pieces 84 = .ok (.ishr, 1) := by decide +kernel
theorem dL_pieces_85 : decode cL_pieces 85 = .ok (.aload_n 2, 1) := by decide +kernel
theorem dL_pieces_86 : decode cL_pieces 86 = .ok (.iconst 0, 1) := by decide +kernel
theorem dL_pieces_87 : decode cL_pieces 87 = .ok (.iaload, 1) := by decide +kernel
theorem dL_pieces_88 : decode cL_pieces 88 = .ok (.invokestatic 121, 3) := by decide +kernel
theorem dL_pieces_91 : decode cL_pieces 91 = .ok (.istore 5, 2) := by decide +kernel
theorem dL_pieces_93 : decode cL_pieces 93 = .ok (.iload_n 3, 1) := by decide +kernel
theorem dL_pieces_94 : decode cL_pieces 94 = .ok (.bipush 6, 2) := by decide +kernel
theorem dL_pieces_96 : decode cL_pieces 96 = .ok (.ishr, 1) := by decide +kernel
theorem dL_pieces_97 : decode cL_pieces 97 = .ok (.bipush 6, 2) := by decide +kernel
theorem dL_pieces_99 : decode cL_pieces 99 = .ok (.invokestatic 121, 3) := by decide +kernel
theorem dL_pieces_102 : decode cL_pieces 102 = .ok (.ifCond .le 146, 3) := by decide +kernel
theorem dL_pieces_105 : decode cL_pieces 105 = .ok (.iload 4, 2) := by decide +kernel
theorem dL_pieces_107 : decode cL_pieces 107 = .ok (.iload 4, 2) := by decide +kernel
theorem dL_pieces_109 : decode cL_pieces 109 = .ok (.bipush 8, 2) := by decide +kernel
theorem dL_pieces_111 : decode cL_pieces 111 = .ok (.ishr, 1) := by decide +kernel
theorem dL_pieces_112 : decode cL_pieces 112 = .ok (.iconst 4, 1) := by decide +kernel
theorem dL_pieces_113 : decode cL_pieces 113 = .ok (.invokestatic 121, 3) := by decide +kernel
theorem dL_pieces_116 : decode cL_pieces 116 = .ok (.ifCond .ne 8, 3) := by decide +kernel
theorem dL_pieces_119 : decode cL_pieces 119 = .ok (.bipush 81, 2) := by decide +kernel
theorem dL_pieces_121 : decode cL_pieces 121 = .ok (.goto 5, 3) := by decide +kernel
theorem dL_pieces_124 : decode cL_pieces 124 = .ok (.bipush 30, 2) := by decide +kernel
theorem dL_pieces_126 : decode cL_pieces 126 = .ok (.invokestatic 121, 3) := by decide +kernel
theorem dL_pieces_129 : decode cL_pieces 129 = .ok (.istore 6, 2) := by decide +kernel
theorem dL_pieces_131 : decode cL_pieces 131 = .ok (.aload_n 1, 1) := by decide +kernel
theorem dL_pieces_132 : decode cL_pieces 132 = .ok (.iload 5, 2) := by decide +kernel
theorem dL_pieces_134 : decode cL_pieces 134 = .ok (.iaload, 1) := by decide +kernel
theorem dL_pieces_135 : decode cL_pieces 135 = .ok (.bipush 16, 2) := by decide +kernel
theorem dL_pieces_137 : decode cL_pieces 137 = .ok (.if_icmp .ge 12, 3) := by decide +kernel
theorem dL_pieces_140 : decode cL_pieces 140 = .ok (.aload_n 1, 1) := by decide +kernel
theorem dL_pieces_141 : decode cL_pieces 141 = .ok (.iload 5, 2) := by decide +kernel
theorem dL_pieces_143 : decode cL_pieces 143 = .ok (.iaload, 1) := by decide +kernel
theorem dL_pieces_144 : decode cL_pieces 144 = .ok (.iconst 1, 1) := by decide +kernel
theorem dL_pieces_145 : decode cL_pieces 145 = .ok (.iadd, 1) := by decide +kernel
theorem dL_pieces_146 : decode cL_pieces 146 = .ok (.goto 5, 3) := by decide +kernel
theorem dL_pieces_149 : decode cL_pieces 149 = .ok (.ldc 18, 2) := by decide +kernel
theorem dL_pieces_151 : decode cL_pieces 151 = .ok (.istore 7, 2) := by decide +kernel
theorem dL_pieces_153 : decode cL_pieces 153 = .ok (.aload_n 1, 1) := by decide +kernel
theorem dL_pieces_154 : decode cL_pieces 154 = .ok (.iload 5, 2) := by decide +kernel
theorem dL_pieces_156 : decode cL_pieces 156 = .ok (.dup2, 1) := by decide +kernel
theorem dL_pieces_157 : decode cL_pieces 157 = .ok (.iaload, 1) := by decide +kernel
theorem dL_pieces_158 : decode cL_pieces 158 = .ok (.iload 7, 2) := by decide +kernel
theorem dL_pieces_160 : decode cL_pieces 160 = .ok (.ifCond .ge 7, 3) := by decide +kernel
theorem dL_pieces_163 : decode cL_pieces 163 = .ok (.iconst 0, 1) := by decide +kernel
theorem dL_pieces_164 : decode cL_pieces 164 = .ok (.goto 4, 3) := by decide +kernel
theorem dL_pieces_167 : decode cL_pieces 167 = .ok (.iconst 1, 1) := by decide +kernel
theorem dL_pieces_168 : decode cL_pieces 168 = .ok (.iadd, 1) := by decide +kernel
theorem dL_pieces_169 : decode cL_pieces 169 = .ok (.iastore, 1) := by decide +kernel
theorem dL_pieces_170 : decode cL_pieces 170 = .ok (.aload_n 0, 1) := by decide +kernel
theorem dL_pieces_171 : decode cL_pieces 171 = .ok (.iload 5, 2) := by decide +kernel
theorem dL_pieces_173 : decode cL_pieces 173 = .ok (.iload 6, 2) := by decide +kernel
theorem dL_pieces_175 : decode cL_pieces 175 = .ok (.invokestatic 127, 3) := by decide +kernel
theorem dL_pieces_178 : decode cL_pieces 178 = .ok (.iload 7, 2) := by decide +kernel
theorem dL_pieces_180 : decode cL_pieces 180 = .ok (.if_icmp .ne 66, 3) := by decide +kernel
theorem dL_pieces_183 : decode cL_pieces 183 = .ok (.aload_n 0, 1) := by decide +kernel
theorem dL_pieces_184 : decode cL_pieces 184 = .ok (.iload 5, 2) := by decide +kernel
theorem dL_pieces_186 : decode cL_pieces 186 = .ok (.bipush 81, 2) := by decide +kernel
theorem dL_pieces_188 : decode cL_pieces 188 = .ok (.invokestatic 127, 3) := by decide +kernel
theorem dL_pieces_191 : decode cL_pieces 191 = .ok (.ldc 28, 2) := by decide +kernel
theorem dL_pieces_193 : decode cL_pieces 193 = .ok (.if_icmp .ne 53, 3) := by decide +kernel
theorem dL_pieces_196 : decode cL_pieces 196 = .ok (.aload_n 0, 1) := by decide +kernel
theorem dL_pieces_197 : decode cL_pieces 197 = .ok (.iload 5, 2) := by decide +kernel
theorem dL_pieces_199 : decode cL_pieces 199 = .ok (.iconst (-1), 1) := by decide +kernel
theorem dL_pieces_200 : decode cL_pieces 200 = .ok (.invokestatic 127, 3) := by decide +kernel
theorem dL_pieces_203 : decode cL_pieces 203 = .ok (.ldc 28, 2) := by decide +kernel
theorem dL_pieces_205 : decode cL_pieces 205 = .ok (.if_icmp .ne 41, 3) := by decide +kernel
theorem dL_pieces_208 : decode cL_pieces 208 = .ok (.aload_n 0, 1) := by decide +kernel
theorem dL_pieces_209 : decode cL_pieces 209 = .ok (.aload_n 2, 1) := by decide +kernel
theorem dL_pieces_210 : decode cL_pieces 210 = .ok (.iconst 0, 1) := by decide +kernel
theorem dL_pieces_211 : decode cL_pieces 211 = .ok (.iaload, 1) := by decide +kernel
theorem dL_pieces_212 : decode cL_pieces 212 = .ok (.bipush 81, 2) := by decide +kernel
theorem dL_pieces_214 : decode cL_pieces 214 = .ok (.invokestatic 127, 3) := by decide +kernel
theorem dL_pieces_217 : decode cL_pieces 217 = .ok (.ldc 25, 2) := by decide +kernel
theorem dL_pieces_219 : decode cL_pieces 219 = .ok (.if_icmp .ne 27, 3) := by decide +kernel
theorem dL_pieces_222 : decode cL_pieces 222 = .ok (.iload 7, 2) := by decide +kernel
theorem dL_pieces_224 : decode cL_pieces 224 = .ok (.ifCond .lt 18, 3) := by decide +kernel
theorem dL_pieces_227 : decode cL_pieces 227 = .ok (.aload_n 0, 1) := by decide +kernel
theorem dL_pieces_228 : decode cL_pieces 228 = .ok (.iload 5, 2) := by decide +kernel
theorem dL_pieces_230 : decode cL_pieces 230 = .ok (.iload 7, 2) := by decide +kernel
theorem dL_pieces_232 : decode cL_pieces 232 = .ok (.iconst 1, 1) := by decide +kernel
theorem dL_pieces_233 : decode cL_pieces 233 = .ok (.isub, 1) := by decide +kernel
theorem dL_pieces_234 : decode cL_pieces 234 = .ok (.invokestatic 87, 3) := by decide +kernel
theorem dL_pieces_237 : decode cL_pieces 237 = .ok (.iload 6, 2) := by decide +kernel
theorem dL_pieces_239 : decode cL_pieces 239 = .ok (.if_icmp .ne 7, 3) := by decide +kernel
theorem dL_pieces_242 : decode cL_pieces 242 = .ok (.iconst 1, 1) := by decide +kernel
theorem dL_pieces_243 : decode cL_pieces 243 = .ok (.goto 4, 3) := by decide +kernel
theorem dL_pieces_246 : decode cL_pieces 246 = .ok (.iconst 0, 1) := by decide +kernel
theorem dL_pieces_247 : decode cL_pieces 247 = .ok (.ireturn, 1) := by decide +kernel
theorem dL_pieces_248 : decode cL_pieces 248 = .ok (.iload 4, 2) := by decide +kernel
theorem dL_pieces_250 : decode cL_pieces 250 = .ok (.iload 4, 2) := by decide +kernel
theorem dL_pieces_252 : decode cL_pieces 252 = .ok (.bipush 8, 2) := by decide +kernel
theorem dL_pieces_254 : decode cL_pieces 254 = .ok (.ishr, 1) := by decide +kernel
theorem dL_pieces_255 : decode cL_pieces 255 = .ok (.iconst 3, 1) := by decide +kernel
theorem dL_pieces_256 : decode cL_pieces 256 = .ok (.invokestatic 121, 3) := by decide +kernel
theorem dL_pieces_259 : decode cL_pieces 259 = .ok (.ifCond .ne 8, 3) := by decide +kernel
theorem dL_pieces_262 : decode cL_pieces 262 = .ok (.bipush 81, 2) := by decide +kernel
theorem dL_pieces_264 : decode cL_pieces 264 = .ok (.goto 5, 3) := by decide +kernel
theorem dL_pieces_267 : decode cL_pieces 267 = .ok (.bipush 9, 2) := by decide +kernel
theorem dL_pieces_269 : decode cL_pieces 269 = .ok (.invokestatic 121, 3) := by decide +kernel
theorem dL_pieces_272 : decode cL_pieces 272 = .ok (.iload 4, 2) := by decide +kernel
theorem dL_pieces_274 : decode cL_pieces 274 = .ok (.bipush 8, 2) := by decide +kernel
theorem dL_pieces_276 : decode cL_pieces 276 = .ok (.ishr, 1) := by decide +kernel
theorem dL_pieces_277 : decode cL_pieces 277 = .ok (.iconst 3, 1) := by decide +kernel
theorem dL_pieces_278 : decode cL_pieces 278 = .ok (.invokestatic 121, 3) := by decide +kernel
theorem dL_pieces_281 : decode cL_pieces 281 = .ok (.ifCond .ne 8, 3) := by decide +kernel
theorem dL_pieces_284 : decode cL_pieces 284 = .ok (.bipush 40, 2) := by decide +kernel
theorem dL_pieces_286 : decode cL_pieces 286 = .ok (.goto 4, 3) := by decide +kernel
theorem dL_pieces_289 : decode cL_pieces 289 = .ok (.iconst 4, 1) := by decide +kernel
theorem dL_pieces_290 : decode cL_pieces 290 = .ok (.isub, 1) := by decide +kernel
theorem dL_pieces_291 : decode cL_pieces 291 = .ok (.istore 6, 2) := by decide +kernel
theorem dL_pieces_293 : decode cL_pieces 293 = .ok (.iconst 1, 1) := by decide +kernel
theorem dL_pieces_294 : decode cL_pieces 294 = .ok (.istore 7, 2) := by decide +kernel
theorem dL_pieces_296 : decode cL_pieces 296 = .ok (.aload_n 1, 1) := by decide +kernel
theorem dL_pieces_297 : decode cL_pieces 297 = .ok (.iload 5, 2) := by decide +kernel
theorem dL_pieces_299 : decode cL_pieces 299 = .ok (.iaload, 1) := by decide +kernel
theorem dL_pieces_300 : decode cL_pieces 300 = .ok (.ifCond .ne 7, 3) := by decide +kernel
theorem dL_pieces_303 : decode cL_pieces 303 = .ok (.iconst 0, 1) := by decide +kernel
theorem dL_pieces_304 : decode cL_pieces 304 = .ok (.goto 10, 3) := by decide +kernel
theorem dL_pieces_307 : decode cL_pieces 307 = .ok (.aload_n 0, 1) := by decide +kernel
theorem dL_pieces_308 : decode cL_pieces 308 = .ok (.iload 5, 2) := by decide +kernel
theorem dL_pieces_310 : decode cL_pieces 310 = .ok (.iconst 0, 1) := by decide +kernel
theorem dL_pieces_311 : decode cL_pieces 311 = .ok (.invokestatic 87, 3) := by decide +kernel
theorem dL_pieces_314 : decode cL_pieces 314 = .ok (.istore 8, 2) := by decide +kernel
theorem dL_pieces_316 : decode cL_pieces 316 = .ok (.iconst 0, 1) := by decide +kernel
theorem dL_pieces_317 : decode cL_pieces 317 = .ok (.istore 9, 2) := by decide +kernel
theorem dL_pieces_319 : decode cL_pieces 319 = .ok (.iload 9, 2) := by decide +kernel
theorem dL_pieces_321 : decode cL_pieces 321 = .ok (.aload_n 1, 1) := by decide +kernel
theorem dL_pieces_322 : decode cL_pieces 322 = .ok (.iload 5, 2) := by decide +kernel
theorem dL_pieces_324 : decode cL_pieces 324 = .ok (.iaload, 1) := by decide +kernel
theorem dL_pieces_325 : decode cL_pieces 325 = .ok (.if_icmp .ge 51, 3) := by decide +kernel
theorem dL_pieces_328 : decode cL_pieces 328 = .ok (.iload 7, 2) := by decide +kernel
theorem dL_pieces_330 : decode cL_pieces 330 = .ok (.ifCond .eq 37, 3) := by decide +kernel
theorem dL_pieces_333 : decode cL_pieces 333 = .ok (.aload_n 0, 1) := by decide +kernel
theorem dL_pieces_334 : decode cL_pieces 334 = .ok (.iload 5, 2) := by decide +kernel
theorem dL_pieces_336 : decode cL_pieces 336 = .ok (.iload 9, 2) := by decide +kernel
theorem dL_pieces_338 : decode cL_pieces 338 = .ok (.invokestatic 87, 3) := by decide +kernel
theorem dL_pieces_341 : decode cL_pieces 341 = .ok (.iload 6, 2) := by decide +kernel
theorem dL_pieces_343 : decode cL_pieces 343 = .ok (.iadd, 1) := by decide +kernel
theorem dL_pieces_344 : decode cL_pieces 344 = .ok (.ifCond .lt 23, 3) := by decide +kernel
theorem dL_pieces_347 : decode cL_pieces 347 = .ok (.aload_n 0, 1) := by decide +kernel
theorem dL_pieces_348 : decode cL_pieces 348 = .ok (.iload 5, 2) := by decide +kernel
theorem dL_pieces_350 : decode cL_pieces 350 = .ok (.iload 9, 2) := by decide +kernel
theorem dL_pieces_352 : decode cL_pieces 352 = .ok (.invokestatic 87, 3) := by decide +kernel
theorem dL_pieces_355 : decode cL_pieces 355 = .ok (.iload 6, 2) := by decide +kernel
theorem dL_pieces_357 : decode cL_pieces 357 = .ok (.iadd, 1) := by decide +kernel
theorem dL_pieces_358 : decode cL_pieces 358 = .ok (.bipush 80, 2) := by decide +kernel
theorem dL_pieces_360 : decode cL_pieces 360 = .ok (.if_icmp .gt 7, 3) := by decide +kernel
theorem dL_pieces_363 : decode cL_pieces 363 = .ok (.iconst 1, 1) := by decide +kernel
theorem dL_pieces_364 : decode cL_pieces 364 = .ok (.goto 4, 3) := by decide +kernel
theorem dL_pieces_367 : decode cL_pieces 367 = .ok (.iconst 0, 1) := by decide +kernel
theorem dL_pieces_368 : decode cL_pieces 368 = .ok (.istore 7, 2) := by decide +kernel
theorem dL_pieces_370 : decode cL_pieces 370 = .ok (.iinc 9 1, 3) := by decide +kernel
theorem dL_pieces_373 : decode cL_pieces 373 = .ok (.goto (-54), 3) := by decide +kernel
theorem dL_pieces_376 : decode cL_pieces 376 = .ok (.aload_n 0, 1) := by decide +kernel
theorem dL_pieces_377 : decode cL_pieces 377 = .ok (.iload 5, 2) := by decide +kernel
theorem dL_pieces_379 : decode cL_pieces 379 = .ok (.iload 6, 2) := by decide +kernel
theorem dL_pieces_381 : decode cL_pieces 381 = .ok (.invokestatic 129, 3) := by decide +kernel
theorem dL_pieces_384 : decode cL_pieces 384 = .ok (.iload 7, 2) := by decide +kernel
theorem dL_pieces_386 : decode cL_pieces 386 = .ok (.ifCond .eq 7, 3) := by decide +kernel
theorem dL_pieces_389 : decode cL_pieces 389 = .ok (.iconst 0, 1) := by decide +kernel
theorem dL_pieces_390 : decode cL_pieces 390 = .ok (.goto 5, 3) := by decide +kernel
theorem dL_pieces_393 : decode cL_pieces 393 = .ok (.ldc 18, 2) := by decide +kernel
theorem dL_pieces_395 : decode cL_pieces 395 = .ok (.if_icmp .ne 79, 3) := by decide +kernel
theorem dL_pieces_398 : decode cL_pieces 398 = .ok (.aload_n 1, 1) := by decide +kernel
theorem dL_pieces_399 : decode cL_pieces 399 = .ok (.iload 5, 2) := by decide +kernel
theorem dL_pieces_401 : decode cL_pieces 401 = .ok (.iaload, 1) := by decide +kernel
theorem dL_pieces_402 : decode cL_pieces 402 = .ok (.ifCond .eq 28, 3) := by decide +kernel
theorem dL_pieces_405 : decode cL_pieces 405 = .ok (.aload_n 0, 1) := by decide +kernel
theorem dL_pieces_406 : decode cL_pieces 406 = .ok (.iload 5, 2) := by decide +kernel
theorem dL_pieces_408 : decode cL_pieces 408 = .ok (.iconst 0, 1) := by decide +kernel
theorem dL_pieces_409 : decode cL_pieces 409 = .ok (.invokestatic 87, 3) := by decide +kernel
theorem dL_pieces_412 : decode cL_pieces 412 = .ok (.iload 7, 2) := by decide +kernel
theorem dL_pieces_414 : decode cL_pieces 414 = .ok (.ifCond .eq 11, 3) := by decide +kernel
theorem dL_pieces_417 : decode cL_pieces 417 = .ok (.iload 8, 2) := by decide +kernel
theorem dL_pieces_419 : decode cL_pieces 419 = .ok (.iload 6, 2) := by decide +kernel
theorem dL_pieces_421 : decode cL_pieces 421 = .ok (.iadd, 1) := by decide +kernel
theorem dL_pieces_422 : decode cL_pieces 422 = .ok (.goto 5, 3) := by decide +kernel
theorem dL_pieces_425 : decode cL_pieces 425 = .ok (.iload 8, 2) := by decide +kernel
theorem dL_pieces_427 : decode cL_pieces 427 = .ok (.if_icmp .ne 47, 3) := by decide +kernel
theorem dL_pieces_430 : decode cL_pieces 430 = .ok (.aload_n 0, 1) := by decide +kernel
theorem dL_pieces_431 : decode cL_pieces 431 = .ok (.iload 5, 2) := by decide +kernel
theorem dL_pieces_433 : decode cL_pieces 433 = .ok (.bipush 41, 2) := by decide +kernel
theorem dL_pieces_435 : decode cL_pieces 435 = .ok (.invokestatic 129, 3) := by decide +kernel
theorem dL_pieces_438 : decode cL_pieces 438 = .ok (.ldc 28, 2) := by decide +kernel
theorem dL_pieces_440 : decode cL_pieces 440 = .ok (.if_icmp .ne 34, 3) := by decide +kernel
theorem dL_pieces_443 : decode cL_pieces 443 = .ok (.aload_n 0, 1) := by decide +kernel
theorem dL_pieces_444 : decode cL_pieces 444 = .ok (.iload 5, 2) := by decide +kernel
theorem dL_pieces_446 : decode cL_pieces 446 = .ok (.bipush (-41), 2) := by decide +kernel
theorem dL_pieces_448 : decode cL_pieces 448 = .ok (.invokestatic 129, 3) := by decide +kernel
theorem dL_pieces_451 : decode cL_pieces 451 = .ok (.ldc 28, 2) := by decide +kernel
theorem dL_pieces_453 : decode cL_pieces 453 = .ok (.if_icmp .ne 21, 3) := by decide +kernel
theorem dL_pieces_456 : decode cL_pieces 456 = .ok (.aload_n 0, 1) := by decide +kernel
theorem dL_pieces_457 : decode cL_pieces 457 = .ok (.aload_n 2, 1) := by decide +kernel
theorem dL_pieces_458 : decode cL_pieces 458 = .ok (.iconst 0, 1) := by decide +kernel
theorem dL_pieces_459 : decode cL_pieces 459 = .ok (.iaload, 1) := by decide +kernel
theorem dL_pieces_460 : decode cL_pieces 460 = .ok (.bipush 41, 2) := by decide +kernel
theorem dL_pieces_462 : decode cL_pieces 462 = .ok (.invokestatic 129, 3) := by decide +kernel
theorem dL_pieces_465 : decode cL_pieces 465 = .ok (.ldc 25, 2) := by decide +kernel
theorem dL_pieces_467 : decode cL_pieces 467 = .ok (.if_icmp .ne 7, 3) := by decide +kernel
theorem dL_pieces_470 : decode cL_pieces 470 = .ok (.iconst 1, 1) := by decide +kernel
theorem dL_pieces_471 : decode cL_pieces 471 = .ok (.goto 4, 3) := by decide +kernel
theorem dL_pieces_474 : decode cL_pieces 474 = .ok (.iconst 0, 1) := by decide +kernel
theorem dL_pieces_475 : decode cL_pieces 475 = .ok (.ireturn, 1) := by decide +kernel
theorem dL_orders_0 : decode cL_orders 0 = .ok (.iload 5, 2) := by decide +kernel
theorem dL_orders_2 : decode cL_orders 2 = .ok (.iconst 3, 1) := by decide +kernel
theorem dL_orders_3 : decode cL_orders 3 = .ok (.invokestatic 121, 3) := by decide +kernel
theorem dL_orders_6 : decode cL_orders 6 = .ok (.istore 6, 2) := by decide +kernel
theorem dL_orders_8 : decode cL_orders 8 = .ok (.iload 5, 2) := by decide +kernel
theorem dL_orders_10 : decode cL_orders 10 = .ok (.iconst 2, 1) := by decide +kernel
theorem dL_orders_11 : decode cL_orders 11 = .ok (.ishr, 1) := by decide +kernel
theorem dL_orders_12 : decode cL_orders 12 = .ok (.iconst 4, 1) := by decide +kernel
theorem dL_orders_13 : decode cL_orders 13 = .ok (.invokestatic 121, 3) := by decide +kernel
theorem dL_orders_16 : decode cL_orders 16 = .ok (.istore 7, 2) := by decide +kernel
theorem dL_orders_18 : decode cL_orders 18 = .ok (.iconst 4, 1) := by decide +kernel
theorem dL_orders_19 : decode cL_orders 19 = .ok (.iload 5, 2) := by decide +kernel
theorem dL_orders_21 : decode cL_orders 21 = .ok (.iconst 4, 1) := by decide +kernel
theorem dL_orders_22 : decode cL_orders 22 = .ok (.ishr, 1) := by decide +kernel
theorem dL_orders_23 : decode cL_orders 23 = .ok (.bipush 13, 2) := by decide +kernel
theorem dL_orders_25 : decode cL_orders 25 = .ok (.invokestatic 121, 3) := by decide +kernel
theorem dL_orders_28 : decode cL_orders 28 = .ok (.iadd, 1) := by decide +kernel
theorem dL_orders_29 : decode cL_orders 29 = .ok (.istore 8, 2) := by decide +kernel
theorem dL_orders_31 : decode cL_orders 31 = .ok (.iconst 0, 1) := by decide +kernel
theorem dL_orders_32 : decode cL_orders 32 = .ok (.istore 9, 2) := by decide +kernel
theorem dL_orders_34 : decode cL_orders 34 = .ok (.iconst 0, 1) := by decide +kernel
theorem dL_orders_35 : decode cL_orders 35 = .ok (.istore 10, 2) := by decide +kernel
theorem dL_orders_37 : decode cL_orders 37 = .ok (.iload 10, 2) := by decide +kernel
theorem dL_orders_39 : decode cL_orders 39 = .ok (.aload_n 3, 1) := by decide +kernel
theorem dL_orders_40 : decode cL_orders 40 = .ok (.iconst 2, 1) := by decide +kernel
theorem dL_orders_41 : decode cL_orders 41 = .ok (.iaload, 1) := by decide +kernel
theorem dL_orders_42 : decode cL_orders 42 = .ok (.if_icmp .ge 41, 3) := by decide +kernel
theorem dL_orders_45 : decode cL_orders 45 = .ok (.iload 9, 2) := by decide +kernel
theorem dL_orders_47 : decode cL_orders 47 = .ok (.aload_n 1, 1) := by decide +kernel
theorem dL_orders_48 : decode cL_orders 48 = .ok (.iload 10, 2) := by decide +kernel
theorem dL_orders_50 : decode cL_orders 50 = .ok (.iaload, 1) := by decide +kernel
theorem dL_orders_51 : decode cL_orders 51 = .ok (.sipush 256, 3) := by decide +kernel
theorem dL_orders_54 : decode cL_orders 54 = .ok (.if_icmp .ge 19, 3) := by decide +kernel
theorem dL_orders_57 : decode cL_orders 57 = .ok (.aload_n 0, 1) := by decide +kernel
theorem dL_orders_58 : decode cL_orders 58 = .ok (.iload 10, 2) := by decide +kernel
theorem dL_orders_60 : decode cL_orders 60 = .ok (.invokestatic 131, 3) := by decide +kernel
theorem dL_orders_63 : decode cL_orders 63 = .ok (.aload_n 3, 1) := by decide +kernel
theorem dL_orders_64 : decode cL_orders 64 = .ok (.iconst 3, 1) := by decide +kernel
theorem dL_orders_65 : decode cL_orders 65 = .ok (.iaload, 1) := by decide +kernel
theorem dL_orders_66 : decode cL_orders 66 = .ok (.if_icmp .le 7, 3) := by decide +kernel
theorem dL_orders_69 : decode cL_orders 69 = .ok (.iconst 1, 1) := by decide +kernel
theorem dL_orders_70 : decode cL_orders 70 = .ok (.goto 4, 3) := by decide +kernel
theorem dL_orders_73 : decode cL_orders 73 = .ok (.iconst 0, 1) := by decide +kernel
theorem dL_orders_74 : decode cL_orders 74 = .ok (.iadd, 1) := by decide +kernel
theorem dL_orders_75 : decode cL_orders 75 = .ok (.istore 9, 2) := by decide +kernel
theorem dL_orders_77 : decode cL_orders 77 = .ok (.iinc 10 1, 3) := by decide +kernel
theorem dL_orders_80 : decode cL_orders 80 = .ok (.goto (-43), 3) := by decide +kernel
theorem dL_orders_83 : decode cL_orders 83 = .ok (.aload_n 2, 1) := by decide +kernel
theorem dL_orders_84 : decode cL_orders 84 = .ok (.iload 7, 2) := by decide +kernel
theorem dL_orders_86 : decode cL_orders 86 = .ok (.iaload, 1) := by decide +kernel
theorem dL_orders_87 : decode cL_orders 87 = .ok (.iconst 2, 1) := by decide +kernel
theorem dL_orders_88 : decode cL_orders 88 = .ok (.if_icmp .le 21, 3) := by decide +kernel
theorem dL_orders_91 : decode cL_orders 91 = .ok (.iload 9, 2) := by decide +kernel
theorem dL_orders_93 : decode cL_orders 93 = .ok (.iconst 2, 1) := by decide +kernel
theorem dL_orders_94 : decode cL_orders 94 = .ok (.if_icmp .ge 15, 3) := by decide +kernel
theorem dL_orders_97 : decode cL_orders 97 = .ok (.aload_n 3, 1) := by decide +kernel
theorem dL_orders_98 : decode cL_orders 98 = .ok (.iconst 2, 1) := by decide +kernel
theorem dL_orders_99 : decode cL_orders 99 = .ok (.iaload, 1) := by decide +kernel
theorem dL_orders_100 : decode cL_orders 100 = .ok (.bipush 20, 2) := by decide +kernel
theorem dL_orders_102 : decode cL_orders 102 = .ok (.if_icmp .ge 7, 3) := by decide +kernel
theorem dL_orders_105 : decode cL_orders 105 = .ok (.iconst 1, 1) := by decide +kernel
theorem dL_orders_106 : decode cL_orders 106 = .ok (.goto 4, 3) := by decide +kernel
theorem dL_orders_109 : decode cL_orders 109 = .ok (.iconst 0, 1) := by decide +kernel
theorem dL_orders_110 : decode cL_orders 110 = .ok (.istore 10, 2) := by decide +kernel
theorem dL_orders_112 : decode cL_orders 112 = .ok (.iload 10, 2) := by decide +kernel
theorem dL_orders_114 : decode cL_orders 114 = .ok (.ifCond .eq 9, 3) := by decide +kernel
theorem dL_orders_117 : decode cL_orders 117 = .ok (.aload_n 3, 1) := by decide +kernel
theorem dL_orders_118 : decode cL_orders 118 = .ok (.iconst 2, 1) := by decide +kernel
theorem dL_orders_119 : decode cL_orders 119 = .ok (.iaload, 1) := by decide +kernel
theorem dL_orders_120 : decode cL_orders 120 = .ok (.goto 5, 3) := by decide +kernel
theorem dL_orders_123 : decode cL_orders 123 = .ok (.ldc 18, 2) := by decide +kernel
theorem dL_orders_125 : decode cL_orders 125 = .ok (.istore 11, 2) := by decide +kernel
theorem dL_orders_127 : decode cL_orders 127 = .ok (.iload 10, 2) := by decide +kernel
theorem dL_orders_129 : decode cL_orders 129 = .ok (.ifCond .eq 30, 3) := by decide +kernel
theorem dL_orders_132 : decode cL_orders 132 = .ok (.aload_n 2, 1) := by decide +kernel
theorem dL_orders_133 : decode cL_orders 133 = .ok (.iload 7, 2) := by decide +kernel
theorem dL_orders_135 : decode cL_orders 135 = .ok (.dup2, 1) := by decide +kernel
theorem dL_orders_136 : decode cL_orders 136 = .ok (.iaload, 1) := by decide +kernel
theorem dL_orders_137 : decode cL_orders 137 = .ok (.iconst 3, 1) := by decide +kernel
theorem dL_orders_138 : decode cL_orders 138 = .ok (.isub, 1) := by decide +kernel
theorem dL_orders_139 : decode cL_orders 139 = .ok (.iastore, 1) := by decide +kernel
theorem dL_orders_140 : decode cL_orders 140 = .ok (.aload_n 1, 1) := by decide +kernel
theorem dL_orders_141 : decode cL_orders 141 = .ok (.iload 11, 2) := by decide +kernel
theorem dL_orders_143 : decode cL_orders 143 = .ok (.iload 6, 2) := by decide +kernel
theorem dL_orders_145 : decode cL_orders 145 = .ok (.bipush 8, 2) := by decide +kernel
theorem dL_orders_147 : decode cL_orders 147 = .ok (.iload 8, 2) := by decide +kernel
theorem dL_orders_149 : decode cL_orders 149 = .ok (.imul, 1) := by decide +kernel
theorem dL_orders_150 : decode cL_orders 150 = .ok (.iadd, 1) := by decide +kernel
theorem dL_orders_151 : decode cL_orders 151 = .ok (.iastore, 1) := by decide +kernel
theorem dL_orders_152 : decode cL_orders 152 = .ok (.aload_n 3, 1) := by decide +kernel
theorem dL_orders_153 : decode cL_orders 153 = .ok (.iconst 2, 1) := by decide +kernel
theorem dL_orders_154 : decode cL_orders 154 = .ok (.dup2, 1) := by decide +kernel
theorem dL_orders_155 : decode cL_orders 155 = .ok (.iaload, 1) := by decide +kernel
theorem dL_orders_156 : decode cL_orders 156 = .ok (.iconst 1, 1) := by decide +kernel
theorem dL_orders_157 : decode cL_orders 157 = .ok (.iadd, 1) := by decide +kernel
theorem dL_orders_158 : decode cL_orders 158 = .ok (.iastore, 1) := by decide +kernel
theorem dL_orders_159 : decode cL_orders 159 = .ok (.aload_n 0, 1) := by decide +kernel
theorem dL_orders_160 : decode cL_orders 160 = .ok (.iload 6, 2) := by decide +kernel
theorem dL_orders_162 : decode cL_orders 162 = .ok (.iload 7, 2) := by decide +kernel
theorem dL_orders_164 : decode cL_orders 164 = .ok (.iload 8, 2) := by decide +kernel
theorem dL_orders_166 : decode cL_orders 166 = .ok (.invokestatic 133, 3) := by decide +kernel
theorem dL_orders_169 : decode cL_orders 169 = .ok (.iload 11, 2) := by decide +kernel
theorem dL_orders_171 : decode cL_orders 171 = .ok (.if_icmp .ne 82, 3) := by decide +kernel
theorem dL_orders_174 : decode cL_orders 174 = .ok (.aload_n 0, 1) := by decide +kernel
theorem dL_orders_175 : decode cL_orders 175 = .ok (.iload 6, 2) := by decide +kernel
theorem dL_orders_177 : decode cL_orders 177 = .ok (.iload 7, 2) := by decide +kernel
theorem dL_orders_179 : decode cL_orders 179 = .ok (.iconst 3, 1) := by decide +kernel
theorem dL_orders_180 : decode cL_orders 180 = .ok (.invokestatic 133, 3) := by decide +kernel
theorem dL_orders_183 : decode cL_orders 183 = .ok (.ldc 28, 2) := by decide +kernel
theorem dL_orders_185 : decode cL_orders 185 = .ok (.if_icmp .ne 68, 3) := by decide +kernel
theorem dL_orders_188 : decode cL_orders 188 = .ok (.aload_n 0, 1) := by decide +kernel
theorem dL_orders_189 : decode cL_orders 189 = .ok (.iload 6, 2) := by decide +kernel
theorem dL_orders_191 : decode cL_orders 191 = .ok (.iload 7, 2) := by decide +kernel
theorem dL_orders_193 : decode cL_orders 193 = .ok (.bipush 17, 2) := by decide +kernel
theorem dL_orders_195 : decode cL_orders 195 = .ok (.invokestatic 133, 3) := by decide +kernel
theorem dL_orders_198 : decode cL_orders 198 = .ok (.ldc 28, 2) := by decide +kernel
theorem dL_orders_200 : decode cL_orders 200 = .ok (.if_icmp .ne 53, 3) := by decide +kernel
theorem dL_orders_203 : decode cL_orders 203 = .ok (.aload_n 0, 1) := by decide +kernel
theorem dL_orders_204 : decode cL_orders 204 = .ok (.iconst 5, 1) := by decide +kernel
theorem dL_orders_205 : decode cL_orders 205 = .ok (.iconst 0, 1) := by decide +kernel
theorem dL_orders_206 : decode cL_orders 206 = .ok (.iconst 4, 1) := by decide +kernel
theorem dL_orders_207 : decode cL_orders 207 = .ok (.invokestatic 133, 3) := by decide +kernel
theorem dL_orders_210 : decode cL_orders 210 = .ok (.ldc 28, 2) := by decide +kernel
theorem dL_orders_212 : decode cL_orders 212 = .ok (.if_icmp .ne 41, 3) := by decide +kernel
theorem dL_orders_215 : decode cL_orders 215 = .ok (.aload_n 0, 1) := by decide +kernel
theorem dL_orders_216 : decode cL_orders 216 = .ok (.iconst 0, 1) := by decide +kernel
theorem dL_orders_217 : decode cL_orders 217 = .ok (.iconst 4, 1) := by decide +kernel
theorem dL_orders_218 : decode cL_orders 218 = .ok (.iconst 4, 1) := by decide +kernel
theorem dL_orders_219 : decode cL_orders 219 = .ok (.invokestatic 133, 3) := by decide +kernel
theorem dL_orders_222 : decode cL_orders 222 = .ok (.ldc 28, 2) := by decide +kernel
theorem dL_orders_224 : decode cL_orders 224 = .ok (.if_icmp .ne 29, 3) := by decide +kernel
theorem dL_orders_227 : decode cL_orders 227 = .ok (.iload 11, 2) := by decide +kernel
theorem dL_orders_229 : decode cL_orders 229 = .ok (.ifCond .lt 20, 3) := by decide +kernel
theorem dL_orders_232 : decode cL_orders 232 = .ok (.aload_n 0, 1) := by decide +kernel
theorem dL_orders_233 : decode cL_orders 233 = .ok (.iload 11, 2) := by decide +kernel
theorem dL_orders_235 : decode cL_orders 235 = .ok (.invokestatic 131, 3) := by decide +kernel
theorem dL_orders_238 : decode cL_orders 238 = .ok (.aload_n 3, 1) := by decide +kernel
theorem dL_orders_239 : decode cL_orders 239 = .ok (.iconst 3, 1) := by decide +kernel
theorem dL_orders_240 : decode cL_orders 240 = .ok (.iaload, 1) := by decide +kernel
theorem dL_orders_241 : decode cL_orders 241 = .ok (.iconst 2, 1) := by decide +kernel
theorem dL_orders_242 : decode cL_orders 242 = .ok (.iload 8, 2) := by decide +kernel
theorem dL_orders_244 : decode cL_orders 244 = .ok (.imul, 1) := by decide +kernel
theorem dL_orders_245 : decode cL_orders 245 = .ok (.iadd, 1) := by decide +kernel
theorem dL_orders_246 : decode cL_orders 246 = .ok (.if_icmp .ne 7, 3) := by decide +kernel
theorem dL_orders_249 : decode cL_orders 249 = .ok (.iconst 1, 1) := by decide +kernel
theorem dL_orders_250 : decode cL_orders 250 = .ok (.goto 4, 3) := by decide +kernel
theorem dL_orders_253 : decode cL_orders 253 = .ok (.iconst 0, 1) := by decide +kernel
theorem dL_orders_254 : decode cL_orders 254 = .ok (.ireturn, 1) := by decide +kernel
theorem dL_fetches_0 : decode cL_fetches 0 = .ok (.aload 4, 2) := by decide +kernel
theorem dL_fetches_2 : decode cL_fetches 2 = .ok (.iconst 2, 1) := by decide +kernel
theorem dL_fetches_3 : decode cL_fetches 3 = .ok (.iaload, 1) := by decide +kernel
theorem dL_fetches_4 : decode cL_fetches 4 = .ok (.ifCond .ne 34, 3) := by decide +kernel
theorem dL_fetches_7 : decode cL_fetches 7 = .ok (.aload_n 0, 1) := by decide +kernel
theorem dL_fetches_8 : decode cL_fetches 8 = .ok (.iconst 0, 1) := by decide +kernel
theorem dL_fetches_9 : decode cL_fetches 9 = .ok (.iconst 0, 1) := by decide +kernel
theorem dL_fetches_10 : decode cL_fetches 10 = .ok (.iconst 0, 1) := by decide +kernel
theorem dL_fetches_11 : decode cL_fetches 11 = .ok (.iconst 0, 1) := by decide +kernel
theorem dL_fetches_12 : decode cL_fetches 12 = .ok (.bipush 61, 2) := by decide +kernel
theorem dL_fetches_14 : decode cL_fetches 14 = .ok (.invokestatic 135, 3) := by decide +kernel
theorem dL_fetches_17 : decode cL_fetches 17 = .ok (.ldc 25, 2) := by decide +kernel
theorem dL_fetches_19 : decode cL_fetches 19 = .ok (.if_icmp .ne 17, 3) := by decide +kernel
theorem dL_fetches_22 : decode cL_fetches 22 = .ok (.aload_n 0, 1) := by decide +kernel
theorem dL_fetches_23 : decode cL_fetches 23 = .ok (.iconst 0, 1) := by decide +kernel
theorem dL_fetches_24 : decode cL_fetches 24 = .ok (.invokestatic 131, 3) := by decide +kernel
theorem dL_fetches_27 : decode cL_fetches 27 = .ok (.ldc 25, 2) := by decide +kernel
theorem dL_fetches_29 : decode cL_fetches 29 = .ok (.if_icmp .ne 7, 3) := by decide +kernel
theorem dL_fetches_32 : decode cL_fetches 32 = .ok (.iconst 1, 1) := by decide +kernel
theorem dL_fetches_33 : decode cL_fetches 33 = .ok (.goto 4, 3) := by decide +kernel
theorem dL_fetches_36 : decode cL_fetches 36 = .ok (.iconst 0, 1) := by decide +kernel
theorem dL_fetches_37 : decode cL_fetches 37 = .ok (.ireturn, 1) := by decide +kernel
theorem dL_fetches_38 : decode cL_fetches 38 = .ok (.iload 5, 2) := by decide +kernel
