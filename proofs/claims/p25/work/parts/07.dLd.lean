theorem dL_fetches_40 : decode cL_fetches 40 = .ok (.aload 4, 2) := by decide +kernel
theorem dL_fetches_42 : decode cL_fetches 42 = .ok (.iconst 2, 1) := by decide +kernel
theorem dL_fetches_43 : decode cL_fetches 43 = .ok (.iaload, 1) := by decide +kernel
theorem dL_fetches_44 : decode cL_fetches 44 = .ok (.invokestatic 121, 3) := by decide +kernel
theorem dL_fetches_47 : decode cL_fetches 47 = .ok (.istore 7, 2) := by decide +kernel
theorem dL_fetches_49 : decode cL_fetches 49 = .ok (.iconst 0, 1) := by decide +kernel
theorem dL_fetches_50 : decode cL_fetches 50 = .ok (.istore 8, 2) := by decide +kernel
theorem dL_fetches_52 : decode cL_fetches 52 = .ok (.iload 8, 2) := by decide +kernel
theorem dL_fetches_54 : decode cL_fetches 54 = .ok (.aload 4, 2) := by decide +kernel
theorem dL_fetches_56 : decode cL_fetches 56 = .ok (.iconst 2, 1) := by decide +kernel
theorem dL_fetches_57 : decode cL_fetches 57 = .ok (.iaload, 1) := by decide +kernel
theorem dL_fetches_58 : decode cL_fetches 58 = .ok (.if_icmp .ge 40, 3) := by decide +kernel
theorem dL_fetches_61 : decode cL_fetches 61 = .ok (.aload_n 3, 1) := by decide +kernel
theorem dL_fetches_62 : decode cL_fetches 62 = .ok (.iload 7, 2) := by decide +kernel
theorem dL_fetches_64 : decode cL_fetches 64 = .ok (.iaload, 1) := by decide +kernel
theorem dL_fetches_65 : decode cL_fetches 65 = .ok (.sipush 255, 3) := by decide +kernel
theorem dL_fetches_68 : decode cL_fetches 68 = .ok (.if_icmp .le 30, 3) := by decide +kernel
theorem dL_fetches_71 : decode cL_fetches 71 = .ok (.iload 7, 2) := by decide +kernel
theorem dL_fetches_73 : decode cL_fetches 73 = .ok (.iconst 1, 1) := by decide +kernel
theorem dL_fetches_74 : decode cL_fetches 74 = .ok (.iadd, 1) := by decide +kernel
theorem dL_fetches_75 : decode cL_fetches 75 = .ok (.aload 4, 2) := by decide +kernel
theorem dL_fetches_77 : decode cL_fetches 77 = .ok (.iconst 2, 1) := by decide +kernel
theorem dL_fetches_78 : decode cL_fetches 78 = .ok (.iaload, 1) := by decide +kernel
theorem dL_fetches_79 : decode cL_fetches 79 = .ok (.if_icmp .ne 7, 3) := by decide +kernel
theorem dL_fetches_82 : decode cL_fetches 82 = .ok (.iconst 0, 1) := by decide +kernel
theorem dL_fetches_83 : decode cL_fetches 83 = .ok (.goto 7, 3) := by decide +kernel
theorem dL_fetches_86 : decode cL_fetches 86 = .ok (.iload 7, 2) := by decide +kernel
theorem dL_fetches_88 : decode cL_fetches 88 = .ok (.iconst 1, 1) := by decide +kernel
theorem dL_fetches_89 : decode cL_fetches 89 = .ok (.iadd, 1) := by decide +kernel
theorem dL_fetches_90 : decode cL_fetches 90 = .ok (.istore 7, 2) := by decide +kernel
theorem dL_fetches_92 : decode cL_fetches 92 = .ok (.iinc 8 1, 3) := by decide +kernel
theorem dL_fetches_95 : decode cL_fetches 95 = .ok (.goto (-43), 3) := by decide +kernel
theorem dL_fetches_98 : decode cL_fetches 98 = .ok (.aload_n 3, 1) := by decide +kernel
theorem dL_fetches_99 : decode cL_fetches 99 = .ok (.iload 7, 2) := by decide +kernel
theorem dL_fetches_101 : decode cL_fetches 101 = .ok (.iaload, 1) := by decide +kernel
theorem dL_fetches_102 : decode cL_fetches 102 = .ok (.sipush 256, 3) := by decide +kernel
theorem dL_fetches_105 : decode cL_fetches 105 = .ok (.if_icmp .ge 29, 3) := by decide +kernel
theorem dL_fetches_108 : decode cL_fetches 108 = .ok (.aload_n 0, 1) := by decide +kernel
theorem dL_fetches_109 : decode cL_fetches 109 = .ok (.iload 7, 2) := by decide +kernel
theorem dL_fetches_111 : decode cL_fetches 111 = .ok (.invokestatic 131, 3) := by decide +kernel
theorem dL_fetches_114 : decode cL_fetches 114 = .ok (.aload 4, 2) := by decide +kernel
theorem dL_fetches_116 : decode cL_fetches 116 = .ok (.iconst 3, 1) := by decide +kernel
theorem dL_fetches_117 : decode cL_fetches 117 = .ok (.iaload, 1) := by decide +kernel
theorem dL_fetches_118 : decode cL_fetches 118 = .ok (.if_icmp .gt 16, 3) := by decide +kernel
theorem dL_fetches_121 : decode cL_fetches 121 = .ok (.aload 4, 2) := by decide +kernel
theorem dL_fetches_123 : decode cL_fetches 123 = .ok (.iconst 1, 1) := by decide +kernel
theorem dL_fetches_124 : decode cL_fetches 124 = .ok (.iaload, 1) := by decide +kernel
theorem dL_fetches_125 : decode cL_fetches 125 = .ok (.bipush 8, 2) := by decide +kernel
theorem dL_fetches_127 : decode cL_fetches 127 = .ok (.if_icmp .ge 7, 3) := by decide +kernel
theorem dL_fetches_130 : decode cL_fetches 130 = .ok (.iconst 1, 1) := by decide +kernel
theorem dL_fetches_131 : decode cL_fetches 131 = .ok (.goto 4, 3) := by decide +kernel
theorem dL_fetches_134 : decode cL_fetches 134 = .ok (.iconst 0, 1) := by decide +kernel
theorem dL_fetches_135 : decode cL_fetches 135 = .ok (.istore 8, 2) := by decide +kernel
theorem dL_fetches_137 : decode cL_fetches 137 = .ok (.iload 8, 2) := by decide +kernel
theorem dL_fetches_139 : decode cL_fetches 139 = .ok (.ifCond .eq 10, 3) := by decide +kernel
theorem dL_fetches_142 : decode cL_fetches 142 = .ok (.aload 4, 2) := by decide +kernel
theorem dL_fetches_144 : decode cL_fetches 144 = .ok (.iconst 1, 1) := by decide +kernel
theorem dL_fetches_145 : decode cL_fetches 145 = .ok (.iaload, 1) := by decide +kernel
theorem dL_fetches_146 : decode cL_fetches 146 = .ok (.goto 5, 3) := by decide +kernel
theorem dL_fetches_149 : decode cL_fetches 149 = .ok (.ldc 18, 2) := by decide +kernel
theorem dL_fetches_151 : decode cL_fetches 151 = .ok (.istore 9, 2) := by decide +kernel
theorem dL_fetches_153 : decode cL_fetches 153 = .ok (.iload 6, 2) := by decide +kernel
theorem dL_fetches_155 : decode cL_fetches 155 = .ok (.bipush 20, 2) := by decide +kernel
theorem dL_fetches_157 : decode cL_fetches 157 = .ok (.invokestatic 121, 3) := by decide +kernel
theorem dL_fetches_160 : decode cL_fetches 160 = .ok (.istore 10, 2) := by decide +kernel
theorem dL_fetches_162 : decode cL_fetches 162 = .ok (.iload 6, 2) := by decide +kernel
theorem dL_fetches_164 : decode cL_fetches 164 = .ok (.bipush 6, 2) := by decide +kernel
theorem dL_fetches_166 : decode cL_fetches 166 = .ok (.ishr, 1) := by decide +kernel
theorem dL_fetches_167 : decode cL_fetches 167 = .ok (.bipush 8, 2) := by decide +kernel
theorem dL_fetches_169 : decode cL_fetches 169 = .ok (.invokestatic 121, 3) := by decide +kernel
theorem dL_fetches_172 : decode cL_fetches 172 = .ok (.istore 11, 2) := by decide +kernel
theorem dL_fetches_174 : decode cL_fetches 174 = .ok (.iload 8, 2) := by decide +kernel
theorem dL_fetches_176 : decode cL_fetches 176 = .ok (.ifCond .eq 75, 3) := by decide +kernel
theorem dL_fetches_179 : decode cL_fetches 179 = .ok (.iconst 0, 1) := by decide +kernel
theorem dL_fetches_180 : decode cL_fetches 180 = .ok (.istore 12, 2) := by decide +kernel
theorem dL_fetches_182 : decode cL_fetches 182 = .ok (.iload 12, 2) := by decide +kernel
theorem dL_fetches_184 : decode cL_fetches 184 = .ok (.iconst 4, 1) := by decide +kernel
theorem dL_fetches_185 : decode cL_fetches 185 = .ok (.if_icmp .ge 26, 3) := by decide +kernel
theorem dL_fetches_188 : decode cL_fetches 188 = .ok (.aload_n 1, 1) := by decide +kernel
theorem dL_fetches_189 : decode cL_fetches 189 = .ok (.iconst 4, 1) := by decide +kernel
theorem dL_fetches_190 : decode cL_fetches 190 = .ok (.iload 9, 2) := by decide +kernel
theorem dL_fetches_192 : decode cL_fetches 192 = .ok (.imul, 1) := by decide +kernel
theorem dL_fetches_193 : decode cL_fetches 193 = .ok (.iload 12, 2) := by decide +kernel
theorem dL_fetches_195 : decode cL_fetches 195 = .ok (.iadd, 1) := by decide +kernel
theorem dL_fetches_196 : decode cL_fetches 196 = .ok (.iload 10, 2) := by decide +kernel
theorem dL_fetches_198 : decode cL_fetches 198 = .ok (.iload 12, 2) := by decide +kernel
theorem dL_fetches_200 : decode cL_fetches 200 = .ok (.iload 11, 2) := by decide +kernel
theorem dL_fetches_202 : decode cL_fetches 202 = .ok (.imul, 1) := by decide +kernel
theorem dL_fetches_203 : decode cL_fetches 203 = .ok (.iadd, 1) := by decide +kernel
theorem dL_fetches_204 : decode cL_fetches 204 = .ok (.iastore, 1) := by decide +kernel
theorem dL_fetches_205 : decode cL_fetches 205 = .ok (.iinc 12 1, 3) := by decide +kernel
theorem dL_fetches_208 : decode cL_fetches 208 = .ok (.goto (-26), 3) := by decide +kernel
theorem dL_fetches_211 : decode cL_fetches 211 = .ok (.aload_n 2, 1) := by decide +kernel
theorem dL_fetches_212 : decode cL_fetches 212 = .ok (.iload 9, 2) := by decide +kernel
theorem dL_fetches_214 : decode cL_fetches 214 = .ok (.aload_n 3, 1) := by decide +kernel
theorem dL_fetches_215 : decode cL_fetches 215 = .ok (.iload 7, 2) := by decide +kernel
theorem dL_fetches_217 : decode cL_fetches 217 = .ok (.iaload, 1) := by decide +kernel
theorem dL_fetches_218 : decode cL_fetches 218 = .ok (.bipush 8, 2) := by decide +kernel
theorem dL_fetches_220 : decode cL_fetches 220 = .ok (.idiv, 1) := by decide +kernel
theorem dL_fetches_221 : decode cL_fetches 221 = .ok (.bipush 32, 2) := by decide +kernel
theorem dL_fetches_223 : decode cL_fetches 223 = .ok (.aload_n 3, 1) := by decide +kernel
theorem dL_fetches_224 : decode cL_fetches 224 = .ok (.iload 7, 2) := by decide +kernel
theorem dL_fetches_226 : decode cL_fetches 226 = .ok (.iaload, 1) := by decide +kernel
theorem dL_fetches_227 : decode cL_fetches 227 = .ok (.bipush 8, 2) := by decide +kernel
theorem dL_fetches_229 : decode cL_fetches 229 = .ok (.irem, 1) := by decide +kernel
theorem dL_fetches_230 : decode cL_fetches 230 = .ok (.imul, 1) := by decide +kernel
theorem dL_fetches_231 : decode cL_fetches 231 = .ok (.iadd, 1) := by decide +kernel
theorem dL_fetches_232 : decode cL_fetches 232 = .ok (.iastore, 1) := by decide +kernel
theorem dL_fetches_233 : decode cL_fetches 233 = .ok (.aload_n 3, 1) := by decide +kernel
theorem dL_fetches_234 : decode cL_fetches 234 = .ok (.iload 7, 2) := by decide +kernel
theorem dL_fetches_236 : decode cL_fetches 236 = .ok (.dup2, 1) := by decide +kernel
theorem dL_fetches_237 : decode cL_fetches 237 = .ok (.iaload, 1) := by decide +kernel
theorem dL_fetches_238 : decode cL_fetches 238 = .ok (.sipush 256, 3) := by decide +kernel
theorem dL_fetches_241 : decode cL_fetches 241 = .ok (.iadd, 1) := by decide +kernel
theorem dL_fetches_242 : decode cL_fetches 242 = .ok (.iastore, 1) := by decide +kernel
theorem dL_fetches_243 : decode cL_fetches 243 = .ok (.aload 4, 2) := by decide +kernel
theorem dL_fetches_245 : decode cL_fetches 245 = .ok (.iconst 1, 1) := by decide +kernel
theorem dL_fetches_246 : decode cL_fetches 246 = .ok (.dup2, 1) := by decide +kernel
theorem dL_fetches_247 : decode cL_fetches 247 = .ok (.iaload, 1) := by decide +kernel
theorem dL_fetches_248 : decode cL_fetches 248 = .ok (.iconst 1, 1) := by decide +kernel
theorem dL_fetches_249 : decode cL_fetches 249 = .ok (.iadd, 1) := by decide +kernel
theorem dL_fetches_250 : decode cL_fetches 250 = .ok (.iastore, 1) := by decide +kernel
theorem dL_fetches_251 : decode cL_fetches 251 = .ok (.aload_n 0, 1) := by decide +kernel
theorem dL_fetches_252 : decode cL_fetches 252 = .ok (.iload 7, 2) := by decide +kernel
theorem dL_fetches_254 : decode cL_fetches 254 = .ok (.iload 10, 2) := by decide +kernel
theorem dL_fetches_256 : decode cL_fetches 256 = .ok (.iload 10, 2) := by decide +kernel
theorem dL_fetches_258 : decode cL_fetches 258 = .ok (.iload 11, 2) := by decide +kernel
theorem dL_fetches_260 : decode cL_fetches 260 = .ok (.iadd, 1) := by decide +kernel
theorem dL_fetches_261 : decode cL_fetches 261 = .ok (.iload 10, 2) := by decide +kernel
theorem dL_fetches_263 : decode cL_fetches 263 = .ok (.iconst 2, 1) := by decide +kernel
theorem dL_fetches_264 : decode cL_fetches 264 = .ok (.iload 11, 2) := by decide +kernel
theorem dL_fetches_266 : decode cL_fetches 266 = .ok (.imul, 1) := by decide +kernel
theorem dL_fetches_267 : decode cL_fetches 267 = .ok (.iadd, 1) := by decide +kernel
theorem dL_fetches_268 : decode cL_fetches 268 = .ok (.iload 10, 2) := by decide +kernel
theorem dL_fetches_270 : decode cL_fetches 270 = .ok (.iconst 3, 1) := by decide +kernel
theorem dL_fetches_271 : decode cL_fetches 271 = .ok (.iload 11, 2) := by decide +kernel
theorem dL_fetches_273 : decode cL_fetches 273 = .ok (.imul, 1) := by decide +kernel
theorem dL_fetches_274 : decode cL_fetches 274 = .ok (.iadd, 1) := by decide +kernel
theorem dL_fetches_275 : decode cL_fetches 275 = .ok (.invokestatic 135, 3) := by decide +kernel
theorem dL_fetches_278 : decode cL_fetches 278 = .ok (.iload 9, 2) := by decide +kernel
theorem dL_fetches_280 : decode cL_fetches 280 = .ok (.if_icmp .ne 103, 3) := by decide +kernel
theorem dL_fetches_283 : decode cL_fetches 283 = .ok (.aload_n 0, 1) := by decide +kernel
theorem dL_fetches_284 : decode cL_fetches 284 = .ok (.iload 7, 2) := by decide +kernel
theorem dL_fetches_286 : decode cL_fetches 286 = .ok (.iconst 0, 1) := by decide +kernel
theorem dL_fetches_287 : decode cL_fetches 287 = .ok (.iconst 0, 1) := by decide +kernel
theorem dL_fetches_288 : decode cL_fetches 288 = .ok (.iconst (-1), 1) := by decide +kernel
theorem dL_fetches_289 : decode cL_fetches 289 = .ok (.iconst 0, 1) := by decide +kernel
theorem dL_fetches_290 : decode cL_fetches 290 = .ok (.invokestatic 135, 3) := by decide +kernel
theorem dL_fetches_293 : decode cL_fetches 293 = .ok (.ldc 28, 2) := by decide +kernel
theorem dL_fetches_295 : decode cL_fetches 295 = .ok (.if_icmp .ne 88, 3) := by decide +kernel
theorem dL_fetches_298 : decode cL_fetches 298 = .ok (.aload_n 0, 1) := by decide +kernel
theorem dL_fetches_299 : decode cL_fetches 299 = .ok (.iload 7, 2) := by decide +kernel
theorem dL_fetches_301 : decode cL_fetches 301 = .ok (.bipush 61, 2) := by decide +kernel
theorem dL_fetches_303 : decode cL_fetches 303 = .ok (.iconst 0, 1) := by decide +kernel
theorem dL_fetches_304 : decode cL_fetches 304 = .ok (.iconst 0, 1) := by decide +kernel
theorem dL_fetches_305 : decode cL_fetches 305 = .ok (.iconst 0, 1) := by decide +kernel
theorem dL_fetches_306 : decode cL_fetches 306 = .ok (.invokestatic 135, 3) := by decide +kernel
theorem dL_fetches_309 : decode cL_fetches 309 = .ok (.ldc 28, 2) := by decide +kernel
theorem dL_fetches_311 : decode cL_fetches 311 = .ok (.if_icmp .ne 72, 3) := by decide +kernel
theorem dL_fetches_314 : decode cL_fetches 314 = .ok (.aload_n 0, 1) := by decide +kernel
theorem dL_fetches_315 : decode cL_fetches 315 = .ok (.aload 4, 2) := by decide +kernel
theorem dL_fetches_317 : decode cL_fetches 317 = .ok (.iconst 2, 1) := by decide +kernel
theorem dL_fetches_318 : decode cL_fetches 318 = .ok (.iaload, 1) := by decide +kernel
theorem dL_fetches_319 : decode cL_fetches 319 = .ok (.iconst 0, 1) := by decide +kernel
theorem dL_fetches_320 : decode cL_fetches 320 = .ok (.iconst 0, 1) := by decide +kernel
theorem dL_fetches_321 : decode cL_fetches 321 = .ok (.iconst 0, 1) := by decide +kernel
theorem dL_fetches_322 : decode cL_fetches 322 = .ok (.bipush 61, 2) := by decide +kernel
theorem dL_fetches_324 : decode cL_fetches 324 = .ok (.invokestatic 135, 3) := by decide +kernel
theorem dL_fetches_327 : decode cL_fetches 327 = .ok (.ldc 25, 2) := by decide +kernel
theorem dL_fetches_329 : decode cL_fetches 329 = .ok (.if_icmp .ne 54, 3) := by decide +kernel
theorem dL_fetches_332 : decode cL_fetches 332 = .ok (.aload_n 0, 1) := by decide +kernel
theorem dL_fetches_333 : decode cL_fetches 333 = .ok (.iload 7, 2) := by decide +kernel
theorem dL_fetches_335 : decode cL_fetches 335 = .ok (.iconst 0, 1) := by decide +kernel
theorem dL_fetches_336 : decode cL_fetches 336 = .ok (.iconst 0, 1) := by decide +kernel
theorem dL_fetches_337 : decode cL_fetches 337 = .ok (.iconst 0, 1) := by decide +kernel
theorem dL_fetches_338 : decode cL_fetches 338 = .ok (.iconst 0, 1) := by decide +kernel
theorem dL_fetches_339 : decode cL_fetches 339 = .ok (.invokestatic 135, 3) := by decide +kernel
theorem dL_fetches_342 : decode cL_fetches 342 = .ok (.ldc 18, 2) := by decide +kernel
theorem dL_fetches_344 : decode cL_fetches 344 = .ok (.if_icmp .ne 39, 3) := by decide +kernel
theorem dL_fetches_347 : decode cL_fetches 347 = .ok (.aload_n 0, 1) := by decide +kernel
theorem dL_fetches_348 : decode cL_fetches 348 = .ok (.invokevirtual 138, 3) := by decide +kernel
theorem dL_fetches_351 : decode cL_fetches 351 = .ok (.aload 4, 2) := by decide +kernel
theorem dL_fetches_353 : decode cL_fetches 353 = .ok (.iconst 1, 1) := by decide +kernel
theorem dL_fetches_354 : decode cL_fetches 354 = .ok (.iaload, 1) := by decide +kernel
theorem dL_fetches_355 : decode cL_fetches 355 = .ok (.if_icmp .ne 28, 3) := by decide +kernel
theorem dL_fetches_358 : decode cL_fetches 358 = .ok (.iload 9, 2) := by decide +kernel
theorem dL_fetches_360 : decode cL_fetches 360 = .ok (.ifCond .lt 19, 3) := by decide +kernel
theorem dL_fetches_363 : decode cL_fetches 363 = .ok (.aload_n 0, 1) := by decide +kernel
theorem dL_fetches_364 : decode cL_fetches 364 = .ok (.iload 9, 2) := by decide +kernel
theorem dL_fetches_366 : decode cL_fetches 366 = .ok (.invokestatic 117, 3) := by decide +kernel
theorem dL_fetches_369 : decode cL_fetches 369 = .ok (.aload_n 2, 1) := by decide +kernel
theorem dL_fetches_370 : decode cL_fetches 370 = .ok (.iload 9, 2) := by decide +kernel
theorem dL_fetches_372 : decode cL_fetches 372 = .ok (.iaload, 1) := by decide +kernel
theorem dL_fetches_373 : decode cL_fetches 373 = .ok (.bipush 32, 2) := by decide +kernel
theorem dL_fetches_375 : decode cL_fetches 375 = .ok (.idiv, 1) := by decide +kernel
theorem dL_fetches_376 : decode cL_fetches 376 = .ok (.if_icmp .ne 7, 3) := by decide +kernel
theorem dL_fetches_379 : decode cL_fetches 379 = .ok (.iconst 1, 1) := by decide +kernel
theorem dL_fetches_380 : decode cL_fetches 380 = .ok (.goto 4, 3) := by decide +kernel
theorem dL_fetches_383 : decode cL_fetches 383 = .ok (.iconst 0, 1) := by decide +kernel
theorem dL_fetches_384 : decode cL_fetches 384 = .ok (.ireturn, 1) := by decide +kernel
theorem dL_acts_0 : decode cL_acts 0 = .ok (.iload 7, 2) := by decide +kernel
theorem dL_acts_2 : decode cL_acts 2 = .ok (.bipush 30, 2) := by decide +kernel
theorem dL_acts_4 : decode cL_acts 4 = .ok (.invokestatic 121, 3) := by decide +kernel
theorem dL_acts_7 : decode cL_acts 7 = .ok (.istore 9, 2) := by decide +kernel
theorem dL_acts_9 : decode cL_acts 9 = .ok (.iload 9, 2) := by decide +kernel
theorem dL_acts_11 : decode cL_acts 11 = .ok (.bipush 12, 2) := by decide +kernel
theorem dL_acts_13 : decode cL_acts 13 = .ok (.if_icmp .ge 17, 3) := by decide +kernel
theorem dL_acts_16 : decode cL_acts 16 = .ok (.aload_n 0, 1) := by decide +kernel
theorem dL_acts_17 : decode cL_acts 17 = .ok (.aload_n 1, 1) := by decide +kernel
theorem dL_acts_18 : decode cL_acts 18 = .ok (.aload 6, 2) := by decide +kernel
theorem dL_acts_20 : decode cL_acts 20 = .ok (.iload 7, 2) := by decide +kernel
theorem dL_acts_22 : decode cL_acts 22 = .ok (.iconst 5, 1) := by decide +kernel
theorem dL_acts_23 : decode cL_acts 23 = .ok (.ishr, 1) := by decide +kernel
theorem dL_acts_24 : decode cL_acts 24 = .ok (.iload 8, 2) := by decide +kernel
theorem dL_acts_26 : decode cL_acts 26 = .ok (.invokestatic 141, 3) := by decide +kernel
theorem dL_acts_29 : decode cL_acts 29 = .ok (.ireturn, 1) := by decide +kernel
theorem dL_acts_30 : decode cL_acts 30 = .ok (.iload 9, 2) := by decide +kernel
theorem dL_acts_32 : decode cL_acts 32 = .ok (.bipush 14, 2) := by decide +kernel
theorem dL_acts_34 : decode cL_acts 34 = .ok (.if_icmp .ge 92, 3) := by decide +kernel
theorem dL_acts_37 : decode cL_acts 37 = .ok (.iload 8, 2) := by decide +kernel
theorem dL_acts_39 : decode cL_acts 39 = .ok (.iconst 4, 1) := by decide +kernel
theorem dL_acts_40 : decode cL_acts 40 = .ok (.invokestatic 121, 3) := by decide +kernel
theorem dL_acts_43 : decode cL_acts 43 = .ok (.istore 10, 2) := by decide +kernel
theorem dL_acts_45 : decode cL_acts 45 = .ok (.iconst 1, 1) := by decide +kernel
theorem dL_acts_46 : decode cL_acts 46 = .ok (.iload 8, 2) := by decide +kernel
theorem dL_acts_48 : decode cL_acts 48 = .ok (.iconst 2, 1) := by decide +kernel
theorem dL_acts_49 : decode cL_acts 49 = .ok (.ishr, 1) := by decide +kernel
theorem dL_acts_50 : decode cL_acts 50 = .ok (.bipush 20, 2) := by decide +kernel
theorem dL_acts_52 : decode cL_acts 52 = .ok (.invokestatic 121, 3) := by decide +kernel
theorem dL_acts_55 : decode cL_acts 55 = .ok (.iadd, 1) := by decide +kernel
theorem dL_acts_56 : decode cL_acts 56 = .ok (.istore 11, 2) := by decide +kernel
theorem dL_acts_58 : decode cL_acts 58 = .ok (.aload 5, 2) := by decide +kernel
theorem dL_acts_60 : decode cL_acts 60 = .ok (.iload 10, 2) := by decide +kernel
theorem dL_acts_62 : decode cL_acts 62 = .ok (.dup2, 1) := by decide +kernel
theorem dL_acts_63 : decode cL_acts 63 = .ok (.iaload, 1) := by decide +kernel
theorem dL_acts_64 : decode cL_acts 64 = .ok (.iload 11, 2) := by decide +kernel
theorem dL_acts_66 : decode cL_acts 66 = .ok (.iadd, 1) := by decide +kernel
theorem dL_acts_67 : decode cL_acts 67 = .ok (.iastore, 1) := by decide +kernel
theorem dL_acts_68 : decode cL_acts 68 = .ok (.aload_n 0, 1) := by decide +kernel
theorem dL_acts_69 : decode cL_acts 69 = .ok (.iload 10, 2) := by decide +kernel
theorem dL_acts_71 : decode cL_acts 71 = .ok (.iload 11, 2) := by decide +kernel
theorem dL_acts_73 : decode cL_acts 73 = .ok (.invokestatic 145, 3) := by decide +kernel
theorem dL_acts_76 : decode cL_acts 76 = .ok (.aload 5, 2) := by decide +kernel
theorem dL_acts_78 : decode cL_acts 78 = .ok (.iload 10, 2) := by decide +kernel
theorem dL_acts_80 : decode cL_acts 80 = .ok (.iaload, 1) := by decide +kernel
theorem dL_acts_81 : decode cL_acts 81 = .ok (.if_icmp .ne 43, 3) := by decide +kernel
theorem dL_acts_84 : decode cL_acts 84 = .ok (.aload_n 0, 1) := by decide +kernel
theorem dL_acts_85 : decode cL_acts 85 = .ok (.iconst 4, 1) := by decide +kernel
theorem dL_acts_86 : decode cL_acts 86 = .ok (.iconst 1, 1) := by decide +kernel
theorem dL_acts_87 : decode cL_acts 87 = .ok (.invokestatic 145, 3) := by decide +kernel
theorem dL_acts_90 : decode cL_acts 90 = .ok (.ldc 28, 2) := by decide +kernel
theorem dL_acts_92 : decode cL_acts 92 = .ok (.if_icmp .ne 32, 3) := by decide +kernel
theorem dL_acts_95 : decode cL_acts 95 = .ok (.aload_n 0, 1) := by decide +kernel
theorem dL_acts_96 : decode cL_acts 96 = .ok (.iload 10, 2) := by decide +kernel
theorem dL_acts_98 : decode cL_acts 98 = .ok (.iconst 0, 1) := by decide +kernel
theorem dL_acts_99 : decode cL_acts 99 = .ok (.invokestatic 145, 3) := by decide +kernel
theorem dL_acts_102 : decode cL_acts 102 = .ok (.ldc 28, 2) := by decide +kernel
theorem dL_acts_104 : decode cL_acts 104 = .ok (.if_icmp .ne 20, 3) := by decide +kernel
theorem dL_acts_107 : decode cL_acts 107 = .ok (.aload_n 0, 1) := by decide +kernel
theorem dL_acts_108 : decode cL_acts 108 = .ok (.iload 10, 2) := by decide +kernel
theorem dL_acts_110 : decode cL_acts 110 = .ok (.bipush 21, 2) := by decide +kernel
theorem dL_acts_112 : decode cL_acts 112 = .ok (.invokestatic 145, 3) := by decide +kernel
theorem dL_acts_115 : decode cL_acts 115 = .ok (.ldc 28, 2) := by decide +kernel
theorem dL_acts_117 : decode cL_acts 117 = .ok (.if_icmp .ne 7, 3) := by decide +kernel
theorem dL_acts_120 : decode cL_acts 120 = .ok (.iconst 1, 1) := by decide +kernel
theorem dL_acts_121 : decode cL_acts 121 = .ok (.goto 4, 3) := by decide +kernel
theorem dL_acts_124 : decode cL_acts 124 = .ok (.iconst 0, 1) := by decide +kernel
theorem dL_acts_125 : decode cL_acts 125 = .ok (.ireturn, 1) := by decide +kernel
theorem dL_acts_126 : decode cL_acts 126 = .ok (.iload 9, 2) := by decide +kernel
theorem dL_acts_128 : decode cL_acts 128 = .ok (.bipush 17, 2) := by decide +kernel
theorem dL_acts_130 : decode cL_acts 130 = .ok (.if_icmp .ge 20, 3) := by decide +kernel
theorem dL_acts_133 : decode cL_acts 133 = .ok (.aload_n 0, 1) := by decide +kernel
theorem dL_acts_134 : decode cL_acts 134 = .ok (.aload 4, 2) := by decide +kernel
theorem dL_acts_136 : decode cL_acts 136 = .ok (.aload 5, 2) := by decide +kernel
theorem dL_acts_138 : decode cL_acts 138 = .ok (.aload 6, 2) := by decide +kernel
theorem dL_acts_140 : decode cL_acts 140 = .ok (.iload 7, 2) := by decide +kernel
theorem dL_acts_142 : decode cL_acts 142 = .ok (.iconst 5, 1) := by decide +kernel
theorem dL_acts_143 : decode cL_acts 143 = .ok (.ishr, 1) := by decide +kernel
theorem dL_acts_144 : decode cL_acts 144 = .ok (.iload 8, 2) := by decide +kernel
theorem dL_acts_146 : decode cL_acts 146 = .ok (.invokestatic 147, 3) := by decide +kernel
theorem dL_acts_149 : decode cL_acts 149 = .ok (.ireturn, 1) := by decide +kernel
theorem dL_acts_150 : decode cL_acts 150 = .ok (.iload 9, 2) := by decide +kernel
theorem dL_acts_152 : decode cL_acts 152 = .ok (.bipush 20, 2) := by decide +kernel
theorem dL_acts_154 : decode cL_acts 154 = .ok (.if_icmp .ge 74, 3) := by decide +kernel
theorem dL_acts_157 : decode cL_acts 157 = .ok (.iconst 1, 1) := by decide +kernel
theorem dL_acts_158 : decode cL_acts 158 = .ok (.iload 8, 2) := by decide +kernel
theorem dL_acts_160 : decode cL_acts 160 = .ok (.bipush 20, 2) := by decide +kernel
theorem dL_acts_162 : decode cL_acts 162 = .ok (.invokestatic 121, 3) := by decide +kernel
theorem dL_acts_165 : decode cL_acts 165 = .ok (.iadd, 1) := by decide +kernel
theorem dL_acts_166 : decode cL_acts 166 = .ok (.istore 10, 2) := by decide +kernel
theorem dL_acts_168 : decode cL_acts 168 = .ok (.aload 6, 2) := by decide +kernel
theorem dL_acts_170 : decode cL_acts 170 = .ok (.iconst 3, 1) := by decide +kernel
theorem dL_acts_171 : decode cL_acts 171 = .ok (.dup2, 1) := by decide +kernel
theorem dL_acts_172 : decode cL_acts 172 = .ok (.iaload, 1) := by decide +kernel
theorem dL_acts_173 : decode cL_acts 173 = .ok (.iload 10, 2) := by decide +kernel
theorem dL_acts_175 : decode cL_acts 175 = .ok (.iadd, 1) := by decide +kernel
theorem dL_acts_176 : decode cL_acts 176 = .ok (.iastore, 1) := by decide +kernel
theorem dL_acts_177 : decode cL_acts 177 = .ok (.aload_n 0, 1) := by decide +kernel
theorem dL_acts_178 : decode cL_acts 178 = .ok (.iload 10, 2) := by decide +kernel
theorem dL_acts_180 : decode cL_acts 180 = .ok (.invokestatic 151, 3) := by decide +kernel
theorem dL_acts_183 : decode cL_acts 183 = .ok (.aload 6, 2) := by decide +kernel
theorem dL_acts_185 : decode cL_acts 185 = .ok (.iconst 3, 1) := by decide +kernel
theorem dL_acts_186 : decode cL_acts 186 = .ok (.iaload, 1) := by decide +kernel
theorem dL_acts_187 : decode cL_acts 187 = .ok (.if_icmp .ne 39, 3) := by decide +kernel
theorem dL_acts_190 : decode cL_acts 190 = .ok (.aload_n 0, 1) := by decide +kernel
theorem dL_acts_191 : decode cL_acts 191 = .ok (.invokevirtual 153, 3) := by decide +kernel
theorem dL_acts_194 : decode cL_acts 194 = .ok (.aload 6, 2) := by decide +kernel
theorem dL_acts_196 : decode cL_acts 196 = .ok (.iconst 3, 1) := by decide +kernel
theorem dL_acts_197 : decode cL_acts 197 = .ok (.iaload, 1) := by decide +kernel
theorem dL_acts_198 : decode cL_acts 198 = .ok (.if_icmp .ne 28, 3) := by decide +kernel
theorem dL_acts_201 : decode cL_acts 201 = .ok (.aload_n 0, 1) := by decide +kernel
theorem dL_acts_202 : decode cL_acts 202 = .ok (.iconst 0, 1) := by decide +kernel
theorem dL_acts_203 : decode cL_acts 203 = .ok (.invokestatic 151, 3) := by decide +kernel
theorem dL_acts_206 : decode cL_acts 206 = .ok (.ldc 28, 2) := by decide +kernel
theorem dL_acts_208 : decode cL_acts 208 = .ok (.if_icmp .ne 18, 3) := by decide +kernel
theorem dL_acts_211 : decode cL_acts 211 = .ok (.aload_n 0, 1) := by decide +kernel
theorem dL_acts_212 : decode cL_acts 212 = .ok (.bipush 101, 2) := by decide +kernel
theorem dL_acts_214 : decode cL_acts 214 = .ok (.invokestatic 151, 3) := by decide +kernel
theorem dL_acts_217 : decode cL_acts 217 = .ok (.ldc 28, 2) := by decide +kernel
theorem dL_acts_219 : decode cL_acts 219 = .ok (.if_icmp .ne 7, 3) := by decide +kernel
theorem dL_acts_222 : decode cL_acts 222 = .ok (.iconst 1, 1) := by decide +kernel
theorem dL_acts_223 : decode cL_acts 223 = .ok (.goto 4, 3) := by decide +kernel
theorem dL_acts_226 : decode cL_acts 226 = .ok (.iconst 0, 1) := by decide +kernel
theorem dL_acts_227 : decode cL_acts 227 = .ok (.ireturn, 1) := by decide +kernel
theorem dL_acts_228 : decode cL_acts 228 = .ok (.iload 9, 2) := by decide +kernel
theorem dL_acts_230 : decode cL_acts 230 = .ok (.bipush 23, 2) := by decide +kernel
theorem dL_acts_232 : decode cL_acts 232 = .ok (.if_icmp .ge 20, 3) := by decide +kernel
theorem dL_acts_235 : decode cL_acts 235 = .ok (.aload_n 0, 1) := by decide +kernel
theorem dL_acts_236 : decode cL_acts 236 = .ok (.aload_n 2, 1) := by decide +kernel
theorem dL_acts_237 : decode cL_acts 237 = .ok (.aload_n 3, 1) := by decide +kernel
theorem dL_acts_238 : decode cL_acts 238 = .ok (.aload 4, 2) := by decide +kernel
theorem dL_acts_240 : decode cL_acts 240 = .ok (.aload 6, 2) := by decide +kernel
theorem dL_acts_242 : decode cL_acts 242 = .ok (.iload 7, 2) := by decide +kernel
theorem dL_acts_244 : decode cL_acts 244 = .ok (.iconst 5, 1) := by decide +kernel
theorem dL_acts_245 : decode cL_acts 245 = .ok (.ishr, 1) := by decide +kernel
theorem dL_acts_246 : decode cL_acts 246 = .ok (.iload 8, 2) := by decide +kernel
theorem dL_acts_248 : decode cL_acts 248 = .ok (.invokestatic 156, 3) := by decide +kernel
theorem dL_acts_251 : decode cL_acts 251 = .ok (.ireturn, 1) := by decide +kernel
theorem dL_acts_252 : decode cL_acts 252 = .ok (.aload 6, 2) := by decide +kernel
theorem dL_acts_254 : decode cL_acts 254 = .ok (.iconst 1, 1) := by decide +kernel
theorem dL_acts_255 : decode cL_acts 255 = .ok (.iaload, 1) := by decide +kernel
theorem dL_acts_256 : decode cL_acts 256 = .ok (.ifCond .eq 10, 3) := by decide +kernel
theorem dL_acts_259 : decode cL_acts 259 = .ok (.aload 6, 2) := by decide +kernel
theorem dL_acts_261 : decode cL_acts 261 = .ok (.iconst 0, 1) := by decide +kernel
theorem dL_acts_262 : decode cL_acts 262 = .ok (.iaload, 1) := by decide +kernel
theorem dL_acts_263 : decode cL_acts 263 = .ok (.ifCond .ne 56, 3) := by decide +kernel
theorem dL_acts_266 : decode cL_acts 266 = .ok (.aload_n 0, 1) := by decide +kernel
theorem dL_acts_267 : decode cL_acts 267 = .ok (.aload 6, 2) := by decide +kernel
theorem dL_acts_269 : decode cL_acts 269 = .ok (.iconst 1, 1) := by decide +kernel
theorem dL_acts_270 : decode cL_acts 270 = .ok (.iaload, 1) := by decide +kernel
theorem dL_acts_271 : decode cL_acts 271 = .ok (.bipush 9, 2) := by decide +kernel
theorem dL_acts_273 : decode cL_acts 273 = .ok (.iconst 0, 1) := by decide +kernel
theorem dL_acts_274 : decode cL_acts 274 = .ok (.invokestatic 160, 3) := by decide +kernel
theorem dL_acts_277 : decode cL_acts 277 = .ok (.ldc 25, 2) := by decide +kernel
theorem dL_acts_279 : decode cL_acts 279 = .ok (.if_icmp .ne 38, 3) := by decide +kernel
theorem dL_acts_282 : decode cL_acts 282 = .ok (.aload_n 0, 1) := by decide +kernel
theorem dL_acts_283 : decode cL_acts 283 = .ok (.iconst 0, 1) := by decide +kernel
theorem dL_acts_284 : decode cL_acts 284 = .ok (.iconst 0, 1) := by decide +kernel
theorem dL_acts_285 : decode cL_acts 285 = .ok (.aload 6, 2) := by decide +kernel
theorem dL_acts_287 : decode cL_acts 287 = .ok (.iconst 1, 1) := by decide +kernel
theorem dL_acts_288 : decode cL_acts 288 = .ok (.iaload, 1) := by decide +kernel
theorem dL_acts_289 : decode cL_acts 289 = .ok (.invokestatic 119, 3) := by decide +kernel
theorem dL_acts_292 : decode cL_acts 292 = .ok (.ldc 25, 2) := by decide +kernel
theorem dL_acts_294 : decode cL_acts 294 = .ok (.if_icmp .ne 23, 3) := by decide +kernel
theorem dL_acts_297 : decode cL_acts 297 = .ok (.aload_n 0, 1) := by decide +kernel
theorem dL_acts_298 : decode cL_acts 298 = .ok (.aload_n 3, 1) := by decide +kernel
theorem dL_acts_299 : decode cL_acts 299 = .ok (.aload 6, 2) := by decide +kernel
theorem dL_acts_301 : decode cL_acts 301 = .ok (.iload 8, 2) := by decide +kernel
theorem dL_acts_303 : decode cL_acts 303 = .ok (.iconst 5, 1) := by decide +kernel
theorem dL_acts_304 : decode cL_acts 304 = .ok (.invokestatic 121, 3) := by decide +kernel
theorem dL_acts_307 : decode cL_acts 307 = .ok (.invokestatic 162, 3) := by decide +kernel
theorem dL_acts_310 : decode cL_acts 310 = .ok (.ifCond .eq 7, 3) := by decide +kernel
theorem dL_acts_313 : decode cL_acts 313 = .ok (.iconst 1, 1) := by decide +kernel
theorem dL_acts_314 : decode cL_acts 314 = .ok (.goto 4, 3) := by decide +kernel
theorem dL_acts_317 : decode cL_acts 317 = .ok (.iconst 0, 1) := by decide +kernel
theorem dL_acts_318 : decode cL_acts 318 = .ok (.ireturn, 1) := by decide +kernel
theorem dL_acts_319 : decode cL_acts 319 = .ok (.iload 8, 2) := by decide +kernel
theorem dL_acts_321 : decode cL_acts 321 = .ok (.aload 6, 2) := by decide +kernel
theorem dL_acts_323 : decode cL_acts 323 = .ok (.iconst 1, 1) := by decide +kernel
theorem dL_acts_324 : decode cL_acts 324 = .ok (.iaload, 1) := by decide +kernel
theorem dL_acts_325 : decode cL_acts 325 = .ok (.invokestatic 121, 3) := by decide +kernel
theorem dL_acts_328 : decode cL_acts 328 = .ok (.istore 10, 2) := by decide +kernel
theorem dL_acts_330 : decode cL_acts 330 = .ok (.iload 8, 2) := by decide +kernel
theorem dL_acts_332 : decode cL_acts 332 = .ok (.iconst 3, 1) := by decide +kernel
theorem dL_acts_333 : decode cL_acts 333 = .ok (.ishr, 1) := by decide +kernel
theorem dL_acts_334 : decode cL_acts 334 = .ok (.aload 6, 2) := by decide +kernel
theorem dL_acts_336 : decode cL_acts 336 = .ok (.iconst 0, 1) := by decide +kernel
theorem dL_acts_337 : decode cL_acts 337 = .ok (.iaload, 1) := by decide +kernel
theorem dL_acts_338 : decode cL_acts 338 = .ok (.invokestatic 121, 3) := by decide +kernel
theorem dL_acts_341 : decode cL_acts 341 = .ok (.istore 11, 2) := by decide +kernel
theorem dL_acts_343 : decode cL_acts 343 = .ok (.iload 9, 2) := by decide +kernel
theorem dL_acts_345 : decode cL_acts 345 = .ok (.bipush 23, 2) := by decide +kernel
theorem dL_acts_347 : decode cL_acts 347 = .ok (.if_icmp .ne 112, 3) := by decide +kernel
theorem dL_acts_350 : decode cL_acts 350 = .ok (.iload 8, 2) := by decide +kernel
theorem dL_acts_352 : decode cL_acts 352 = .ok (.bipush 6, 2) := by decide +kernel
theorem dL_acts_354 : decode cL_acts 354 = .ok (.ishr, 1) := by decide +kernel
theorem dL_acts_355 : decode cL_acts 355 = .ok (.iconst 4, 1) := by decide +kernel
theorem dL_acts_356 : decode cL_acts 356 = .ok (.invokestatic 121, 3) := by decide +kernel
theorem dL_acts_359 : decode cL_acts 359 = .ok (.istore 12, 2) := by decide +kernel
theorem dL_acts_361 : decode cL_acts 361 = .ok (.iload 8, 2) := by decide +kernel
