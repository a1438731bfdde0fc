theorem dL_blocks_169 : decode cL_blocks 169 = .ok (.iadd, 1) := by decide +kernel
theorem dL_blocks_170 : decode cL_blocks 170 = .ok (.istore 13, 2) := by decide +kernel
theorem dL_blocks_172 : decode cL_blocks 172 = .ok (.iinc 14 1, 3) := by decide +kernel
theorem dL_blocks_175 : decode cL_blocks 175 = .ok (.goto (-25), 3) := by decide +kernel
theorem dL_blocks_178 : decode cL_blocks 178 = .ok (.iload_n 1, 1) := by decide +kernel
theorem dL_blocks_179 : decode cL_blocks 179 = .ok (.iload 12, 2) := by decide +kernel
theorem dL_blocks_181 : decode cL_blocks 181 = .ok (.ifCond .ne 7, 3) := by decide +kernel
theorem dL_blocks_184 : decode cL_blocks 184 = .ok (.iconst 1, 1) := by decide +kernel
theorem dL_blocks_185 : decode cL_blocks 185 = .ok (.goto 4, 3) := by decide +kernel
theorem dL_blocks_188 : decode cL_blocks 188 = .ok (.iconst 0, 1) := by decide +kernel
theorem dL_blocks_189 : decode cL_blocks 189 = .ok (.iadd, 1) := by decide +kernel
theorem dL_blocks_190 : decode cL_blocks 190 = .ok (.istore_n 1, 1) := by decide +kernel
theorem dL_blocks_191 : decode cL_blocks 191 = .ok (.iload_n 2, 1) := by decide +kernel
theorem dL_blocks_192 : decode cL_blocks 192 = .ok (.aload_n 0, 1) := by decide +kernel
theorem dL_blocks_193 : decode cL_blocks 193 = .ok (.iload 9, 2) := by decide +kernel
theorem dL_blocks_195 : decode cL_blocks 195 = .ok (.invokestatic 149, 3) := by decide +kernel
theorem dL_blocks_198 : decode cL_blocks 198 = .ok (.ifCond .eq 7, 3) := by decide +kernel
theorem dL_blocks_201 : decode cL_blocks 201 = .ok (.iconst 0, 1) := by decide +kernel
theorem dL_blocks_202 : decode cL_blocks 202 = .ok (.goto 4, 3) := by decide +kernel
theorem dL_blocks_205 : decode cL_blocks 205 = .ok (.iconst 1, 1) := by decide +kernel
theorem dL_blocks_206 : decode cL_blocks 206 = .ok (.iadd, 1) := by decide +kernel
theorem dL_blocks_207 : decode cL_blocks 207 = .ok (.istore_n 2, 1) := by decide +kernel
theorem dL_blocks_208 : decode cL_blocks 208 = .ok (.iload_n 3, 1) := by decide +kernel
theorem dL_blocks_209 : decode cL_blocks 209 = .ok (.ifCond .lt 17, 3) := by decide +kernel
theorem dL_blocks_212 : decode cL_blocks 212 = .ok (.aload_n 0, 1) := by decide +kernel
theorem dL_blocks_213 : decode cL_blocks 213 = .ok (.iload 9, 2) := by decide +kernel
theorem dL_blocks_215 : decode cL_blocks 215 = .ok (.invokevirtual 106, 3) := by decide +kernel
theorem dL_blocks_218 : decode cL_blocks 218 = .ok (.aload_n 0, 1) := by decide +kernel
theorem dL_blocks_219 : decode cL_blocks 219 = .ok (.iload_n 3, 1) := by decide +kernel
theorem dL_blocks_220 : decode cL_blocks 220 = .ok (.invokevirtual 106, 3) := by decide +kernel
theorem dL_blocks_223 : decode cL_blocks 223 = .ok (.if_icmp .le 8, 3) := by decide +kernel
theorem dL_blocks_226 : decode cL_blocks 226 = .ok (.iload 9, 2) := by decide +kernel
theorem dL_blocks_228 : decode cL_blocks 228 = .ok (.goto 4, 3) := by decide +kernel
theorem dL_blocks_231 : decode cL_blocks 231 = .ok (.iload_n 3, 1) := by decide +kernel
theorem dL_blocks_232 : decode cL_blocks 232 = .ok (.istore_n 3, 1) := by decide +kernel
theorem dL_blocks_233 : decode cL_blocks 233 = .ok (.iload 4, 2) := by decide +kernel
theorem dL_blocks_235 : decode cL_blocks 235 = .ok (.aload_n 0, 1) := by decide +kernel
theorem dL_blocks_236 : decode cL_blocks 236 = .ok (.iload 9, 2) := by decide +kernel
theorem dL_blocks_238 : decode cL_blocks 238 = .ok (.invokevirtual 106, 3) := by decide +kernel
theorem dL_blocks_241 : decode cL_blocks 241 = .ok (.iadd, 1) := by decide +kernel
theorem dL_blocks_242 : decode cL_blocks 242 = .ok (.istore 4, 2) := by decide +kernel
theorem dL_blocks_244 : decode cL_blocks 244 = .ok (.iload 6, 2) := by decide +kernel
theorem dL_blocks_246 : decode cL_blocks 246 = .ok (.iconst 1, 1) := by decide +kernel
theorem dL_blocks_247 : decode cL_blocks 247 = .ok (.aload_n 0, 1) := by decide +kernel
theorem dL_blocks_248 : decode cL_blocks 248 = .ok (.iload 9, 2) := by decide +kernel
theorem dL_blocks_250 : decode cL_blocks 250 = .ok (.invokevirtual 106, 3) := by decide +kernel
theorem dL_blocks_253 : decode cL_blocks 253 = .ok (.ishl, 1) := by decide +kernel
theorem dL_blocks_254 : decode cL_blocks 254 = .ok (.ior, 1) := by decide +kernel
theorem dL_blocks_255 : decode cL_blocks 255 = .ok (.istore 6, 2) := by decide +kernel
theorem dL_blocks_257 : decode cL_blocks 257 = .ok (.iload 5, 2) := by decide +kernel
theorem dL_blocks_259 : decode cL_blocks 259 = .ok (.aload_n 0, 1) := by decide +kernel
theorem dL_blocks_260 : decode cL_blocks 260 = .ok (.iload 9, 2) := by decide +kernel
theorem dL_blocks_262 : decode cL_blocks 262 = .ok (.invokevirtual 113, 3) := by decide +kernel
theorem dL_blocks_265 : decode cL_blocks 265 = .ok (.iadd, 1) := by decide +kernel
theorem dL_blocks_266 : decode cL_blocks 266 = .ok (.istore 5, 2) := by decide +kernel
theorem dL_blocks_268 : decode cL_blocks 268 = .ok (.aload_n 0, 1) := by decide +kernel
theorem dL_blocks_269 : decode cL_blocks 269 = .ok (.iload 9, 2) := by decide +kernel
theorem dL_blocks_271 : decode cL_blocks 271 = .ok (.invokevirtual 153, 3) := by decide +kernel
theorem dL_blocks_274 : decode cL_blocks 274 = .ok (.iload 12, 2) := by decide +kernel
theorem dL_blocks_276 : decode cL_blocks 276 = .ok (.if_icmp .ne 73, 3) := by decide +kernel
theorem dL_blocks_279 : decode cL_blocks 279 = .ok (.aload_n 0, 1) := by decide +kernel
theorem dL_blocks_280 : decode cL_blocks 280 = .ok (.iload 9, 2) := by decide +kernel
theorem dL_blocks_282 : decode cL_blocks 282 = .ok (.invokevirtual 156, 3) := by decide +kernel
theorem dL_blocks_285 : decode cL_blocks 285 = .ok (.iload 13, 2) := by decide +kernel
theorem dL_blocks_287 : decode cL_blocks 287 = .ok (.if_icmp .ne 62, 3) := by decide +kernel
theorem dL_blocks_290 : decode cL_blocks 290 = .ok (.iload 10, 2) := by decide +kernel
theorem dL_blocks_292 : decode cL_blocks 292 = .ok (.ifCond .lt 14, 3) := by decide +kernel
theorem dL_blocks_295 : decode cL_blocks 295 = .ok (.aload_n 0, 1) := by decide +kernel
theorem dL_blocks_296 : decode cL_blocks 296 = .ok (.iload 10, 2) := by decide +kernel
theorem dL_blocks_298 : decode cL_blocks 298 = .ok (.invokevirtual 119, 3) := by decide +kernel
theorem dL_blocks_301 : decode cL_blocks 301 = .ok (.iload 9, 2) := by decide +kernel
theorem dL_blocks_303 : decode cL_blocks 303 = .ok (.if_icmp .ne 46, 3) := by decide +kernel
theorem dL_blocks_306 : decode cL_blocks 306 = .ok (.aload_n 0, 1) := by decide +kernel
theorem dL_blocks_307 : decode cL_blocks 307 = .ok (.iload 9, 2) := by decide +kernel
theorem dL_blocks_309 : decode cL_blocks 309 = .ok (.invokevirtual 106, 3) := by decide +kernel
theorem dL_blocks_312 : decode cL_blocks 312 = .ok (.ifCond .lt 37, 3) := by decide +kernel
theorem dL_blocks_315 : decode cL_blocks 315 = .ok (.aload_n 0, 1) := by decide +kernel
theorem dL_blocks_316 : decode cL_blocks 316 = .ok (.iload 9, 2) := by decide +kernel
theorem dL_blocks_318 : decode cL_blocks 318 = .ok (.invokevirtual 106, 3) := by decide +kernel
theorem dL_blocks_321 : decode cL_blocks 321 = .ok (.bipush 9, 2) := by decide +kernel
theorem dL_blocks_323 : decode cL_blocks 323 = .ok (.if_icmp .gt 26, 3) := by decide +kernel
theorem dL_blocks_326 : decode cL_blocks 326 = .ok (.aload_n 0, 1) := by decide +kernel
theorem dL_blocks_327 : decode cL_blocks 327 = .ok (.iload 9, 2) := by decide +kernel
theorem dL_blocks_329 : decode cL_blocks 329 = .ok (.invokevirtual 146, 3) := by decide +kernel
theorem dL_blocks_332 : decode cL_blocks 332 = .ok (.ifCond .ne 13, 3) := by decide +kernel
theorem dL_blocks_335 : decode cL_blocks 335 = .ok (.aload_n 0, 1) := by decide +kernel
theorem dL_blocks_336 : decode cL_blocks 336 = .ok (.iload 9, 2) := by decide +kernel
theorem dL_blocks_338 : decode cL_blocks 338 = .ok (.invokevirtual 159, 3) := by decide +kernel
theorem dL_blocks_341 : decode cL_blocks 341 = .ok (.iconst 5, 1) := by decide +kernel
theorem dL_blocks_342 : decode cL_blocks 342 = .ok (.if_icmp .ne 7, 3) := by decide +kernel
theorem dL_blocks_345 : decode cL_blocks 345 = .ok (.iconst 1, 1) := by decide +kernel
theorem dL_blocks_346 : decode cL_blocks 346 = .ok (.goto 4, 3) := by decide +kernel
theorem dL_blocks_349 : decode cL_blocks 349 = .ok (.iconst 0, 1) := by decide +kernel
theorem dL_blocks_350 : decode cL_blocks 350 = .ok (.istore 8, 2) := by decide +kernel
theorem dL_blocks_352 : decode cL_blocks 352 = .ok (.iinc 9 1, 3) := by decide +kernel
theorem dL_blocks_355 : decode cL_blocks 355 = .ok (.goto (-310), 3) := by decide +kernel
theorem dL_blocks_358 : decode cL_blocks 358 = .ok (.iload 8, 2) := by decide +kernel
theorem dL_blocks_360 : decode cL_blocks 360 = .ok (.ifCond .eq 76, 3) := by decide +kernel
theorem dL_blocks_363 : decode cL_blocks 363 = .ok (.aload_n 0, 1) := by decide +kernel
theorem dL_blocks_364 : decode cL_blocks 364 = .ok (.invokevirtual 162, 3) := by decide +kernel
theorem dL_blocks_367 : decode cL_blocks 367 = .ok (.iload_n 1, 1) := by decide +kernel
theorem dL_blocks_368 : decode cL_blocks 368 = .ok (.if_icmp .ne 68, 3) := by decide +kernel
theorem dL_blocks_371 : decode cL_blocks 371 = .ok (.aload_n 0, 1) := by decide +kernel
theorem dL_blocks_372 : decode cL_blocks 372 = .ok (.invokevirtual 165, 3) := by decide +kernel
theorem dL_blocks_375 : decode cL_blocks 375 = .ok (.iload_n 2, 1) := by decide +kernel
theorem dL_blocks_376 : decode cL_blocks 376 = .ok (.if_icmp .ne 60, 3) := by decide +kernel
theorem dL_blocks_379 : decode cL_blocks 379 = .ok (.aload_n 0, 1) := by decide +kernel
theorem dL_blocks_380 : decode cL_blocks 380 = .ok (.invokevirtual 168, 3) := by decide +kernel
theorem dL_blocks_383 : decode cL_blocks 383 = .ok (.iload_n 3, 1) := by decide +kernel
theorem dL_blocks_384 : decode cL_blocks 384 = .ok (.if_icmp .ne 52, 3) := by decide +kernel
theorem dL_blocks_387 : decode cL_blocks 387 = .ok (.aload_n 0, 1) := by decide +kernel
theorem dL_blocks_388 : decode cL_blocks 388 = .ok (.invokevirtual 171, 3) := by decide +kernel
theorem dL_blocks_391 : decode cL_blocks 391 = .ok (.iload 6, 2) := by decide +kernel
theorem dL_blocks_393 : decode cL_blocks 393 = .ok (.invokestatic 174, 3) := by decide +kernel
theorem dL_blocks_396 : decode cL_blocks 396 = .ok (.if_icmp .ne 40, 3) := by decide +kernel
theorem dL_blocks_399 : decode cL_blocks 399 = .ok (.aload_n 0, 1) := by decide +kernel
theorem dL_blocks_400 : decode cL_blocks 400 = .ok (.invokevirtual 179, 3) := by decide +kernel
theorem dL_blocks_403 : decode cL_blocks 403 = .ok (.iload 5, 2) := by decide +kernel
theorem dL_blocks_405 : decode cL_blocks 405 = .ok (.if_icmp .ne 31, 3) := by decide +kernel
theorem dL_blocks_408 : decode cL_blocks 408 = .ok (.aload_n 0, 1) := by decide +kernel
theorem dL_blocks_409 : decode cL_blocks 409 = .ok (.invokevirtual 182, 3) := by decide +kernel
theorem dL_blocks_412 : decode cL_blocks 412 = .ok (.iload 7, 2) := by decide +kernel
theorem dL_blocks_414 : decode cL_blocks 414 = .ok (.ifCond .ne 7, 3) := by decide +kernel
theorem dL_blocks_417 : decode cL_blocks 417 = .ok (.dconst 0, 1) := by decide +kernel
theorem dL_blocks_418 : decode cL_blocks 418 = .ok (.goto 10, 3) := by decide +kernel
theorem dL_blocks_421 : decode cL_blocks 421 = .ok (.iload 4, 2) := by decide +kernel
theorem dL_blocks_423 : decode cL_blocks 423 = .ok (.i2d, 1) := by decide +kernel
theorem dL_blocks_424 : decode cL_blocks 424 = .ok (.iload 7, 2) := by decide +kernel
theorem dL_blocks_426 : decode cL_blocks 426 = .ok (.i2d, 1) := by decide +kernel
theorem dL_blocks_427 : decode cL_blocks 427 = .ok (.ddiv, 1) := by decide +kernel
theorem dL_blocks_428 : decode cL_blocks 428 = .ok (.dcmp .l, 1) := by decide +kernel
theorem dL_blocks_429 : decode cL_blocks 429 = .ok (.ifCond .ne 7, 3) := by decide +kernel
theorem dL_blocks_432 : decode cL_blocks 432 = .ok (.iconst 1, 1) := by decide +kernel
theorem dL_blocks_433 : decode cL_blocks 433 = .ok (.goto 4, 3) := by decide +kernel
theorem dL_blocks_436 : decode cL_blocks 436 = .ok (.iconst 0, 1) := by decide +kernel
theorem dL_blocks_437 : decode cL_blocks 437 = .ok (.ireturn, 1) := by decide +kernel
theorem dL_trains_0 : decode cL_trains 0 = .ok (.iconst 0, 1) := by decide +kernel
theorem dL_trains_1 : decode cL_trains 1 = .ok (.istore_n 1, 1) := by decide +kernel
theorem dL_trains_2 : decode cL_trains 2 = .ok (.iconst 0, 1) := by decide +kernel
theorem dL_trains_3 : decode cL_trains 3 = .ok (.istore_n 2, 1) := by decide +kernel
theorem dL_trains_4 : decode cL_trains 4 = .ok (.iconst 0, 1) := by decide +kernel
theorem dL_trains_5 : decode cL_trains 5 = .ok (.istore_n 3, 1) := by decide +kernel
theorem dL_trains_6 : decode cL_trains 6 = .ok (.aload_n 0, 1) := by decide +kernel
theorem dL_trains_7 : decode cL_trains 7 = .ok (.invokevirtual 103, 3) := by decide +kernel
theorem dL_trains_10 : decode cL_trains 10 = .ok (.istore 4, 2) := by decide +kernel
theorem dL_trains_12 : decode cL_trains 12 = .ok (.iconst 1, 1) := by decide +kernel
theorem dL_trains_13 : decode cL_trains 13 = .ok (.istore 5, 2) := by decide +kernel
theorem dL_trains_15 : decode cL_trains 15 = .ok (.iconst 0, 1) := by decide +kernel
theorem dL_trains_16 : decode cL_trains 16 = .ok (.istore 6, 2) := by decide +kernel
theorem dL_trains_18 : decode cL_trains 18 = .ok (.iload 6, 2) := by decide +kernel
theorem dL_trains_20 : decode cL_trains 20 = .ok (.aload_n 0, 1) := by decide +kernel
theorem dL_trains_21 : decode cL_trains 21 = .ok (.invokevirtual 116, 3) := by decide +kernel
theorem dL_trains_24 : decode cL_trains 24 = .ok (.if_icmp .ge 360, 3) := by decide +kernel
theorem dL_trains_27 : decode cL_trains 27 = .ok (.iload 5, 2) := by decide +kernel
theorem dL_trains_29 : decode cL_trains 29 = .ok (.ifCond .eq 355, 3) := by decide +kernel
theorem dL_trains_32 : decode cL_trains 32 = .ok (.aload_n 0, 1) := by decide +kernel
theorem dL_trains_33 : decode cL_trains 33 = .ok (.iload 6, 2) := by decide +kernel
theorem dL_trains_35 : decode cL_trains 35 = .ok (.invokevirtual 119, 3) := by decide +kernel
theorem dL_trains_38 : decode cL_trains 38 = .ok (.istore 7, 2) := by decide +kernel
theorem dL_trains_40 : decode cL_trains 40 = .ok (.iload 7, 2) := by decide +kernel
theorem dL_trains_42 : decode cL_trains 42 = .ok (.iconst 1, 1) := by decide +kernel
theorem dL_trains_43 : decode cL_trains 43 = .ok (.iadd, 1) := by decide +kernel
theorem dL_trains_44 : decode cL_trains 44 = .ok (.iload 4, 2) := by decide +kernel
theorem dL_trains_46 : decode cL_trains 46 = .ok (.if_icmp .ne 7, 3) := by decide +kernel
theorem dL_trains_49 : decode cL_trains 49 = .ok (.iconst 0, 1) := by decide +kernel
theorem dL_trains_50 : decode cL_trains 50 = .ok (.goto 7, 3) := by decide +kernel
theorem dL_trains_53 : decode cL_trains 53 = .ok (.iload 7, 2) := by decide +kernel
theorem dL_trains_55 : decode cL_trains 55 = .ok (.iconst 1, 1) := by decide +kernel
theorem dL_trains_56 : decode cL_trains 56 = .ok (.iadd, 1) := by decide +kernel
theorem dL_trains_57 : decode cL_trains 57 = .ok (.istore 8, 2) := by decide +kernel
theorem dL_trains_59 : decode cL_trains 59 = .ok (.aload_n 0, 1) := by decide +kernel
theorem dL_trains_60 : decode cL_trains 60 = .ok (.iload 6, 2) := by decide +kernel
theorem dL_trains_62 : decode cL_trains 62 = .ok (.invokevirtual 128, 3) := by decide +kernel
theorem dL_trains_65 : decode cL_trains 65 = .ok (.aload_n 0, 1) := by decide +kernel
theorem dL_trains_66 : decode cL_trains 66 = .ok (.iload 7, 2) := by decide +kernel
theorem dL_trains_68 : decode cL_trains 68 = .ok (.invokevirtual 159, 3) := by decide +kernel
theorem dL_trains_71 : decode cL_trains 71 = .ok (.invokestatic 186, 3) := by decide +kernel
theorem dL_trains_74 : decode cL_trains 74 = .ok (.istore 9, 2) := by decide +kernel
theorem dL_trains_76 : decode cL_trains 76 = .ok (.aload_n 0, 1) := by decide +kernel
theorem dL_trains_77 : decode cL_trains 77 = .ok (.iload 7, 2) := by decide +kernel
theorem dL_trains_79 : decode cL_trains 79 = .ok (.invokevirtual 191, 3) := by decide +kernel
theorem dL_trains_82 : decode cL_trains 82 = .ok (.aload_n 0, 1) := by decide +kernel
theorem dL_trains_83 : decode cL_trains 83 = .ok (.iload 6, 2) := by decide +kernel
theorem dL_trains_85 : decode cL_trains 85 = .ok (.invokevirtual 122, 3) := by decide +kernel
theorem dL_trains_88 : decode cL_trains 88 = .ok (.isub, 1) := by decide +kernel
theorem dL_trains_89 : decode cL_trains 89 = .ok (.istore 10, 2) := by decide +kernel
theorem dL_trains_91 : decode cL_trains 91 = .ok (.iconst 0, 1) := by decide +kernel
theorem dL_trains_92 : decode cL_trains 92 = .ok (.istore 11, 2) := by decide +kernel
theorem dL_trains_94 : decode cL_trains 94 = .ok (.iconst (-1), 1) := by decide +kernel
theorem dL_trains_95 : decode cL_trains 95 = .ok (.istore 12, 2) := by decide +kernel
theorem dL_trains_97 : decode cL_trains 97 = .ok (.iconst 1, 1) := by decide +kernel
theorem dL_trains_98 : decode cL_trains 98 = .ok (.istore 13, 2) := by decide +kernel
theorem dL_trains_100 : decode cL_trains 100 = .ok (.iload 13, 2) := by decide +kernel
theorem dL_trains_102 : decode cL_trains 102 = .ok (.iload 4, 2) := by decide +kernel
theorem dL_trains_104 : decode cL_trains 104 = .ok (.if_icmp .ge 65, 3) := by decide +kernel
theorem dL_trains_107 : decode cL_trains 107 = .ok (.iload 7, 2) := by decide +kernel
theorem dL_trains_109 : decode cL_trains 109 = .ok (.iload 13, 2) := by decide +kernel
theorem dL_trains_111 : decode cL_trains 111 = .ok (.iadd, 1) := by decide +kernel
theorem dL_trains_112 : decode cL_trains 112 = .ok (.iload 4, 2) := by decide +kernel
theorem dL_trains_114 : decode cL_trains 114 = .ok (.irem, 1) := by decide +kernel
theorem dL_trains_115 : decode cL_trains 115 = .ok (.istore 14, 2) := by decide +kernel
theorem dL_trains_117 : decode cL_trains 117 = .ok (.iload 11, 2) := by decide +kernel
theorem dL_trains_119 : decode cL_trains 119 = .ok (.iload 11, 2) := by decide +kernel
theorem dL_trains_121 : decode cL_trains 121 = .ok (.iload 13, 2) := by decide +kernel
theorem dL_trains_123 : decode cL_trains 123 = .ok (.iconst 1, 1) := by decide +kernel
theorem dL_trains_124 : decode cL_trains 124 = .ok (.isub, 1) := by decide +kernel
theorem dL_trains_125 : decode cL_trains 125 = .ok (.if_icmp .ne 16, 3) := by decide +kernel
theorem dL_trains_128 : decode cL_trains 128 = .ok (.aload_n 0, 1) := by decide +kernel
theorem dL_trains_129 : decode cL_trains 129 = .ok (.iload 14, 2) := by decide +kernel
theorem dL_trains_131 : decode cL_trains 131 = .ok (.invokestatic 149, 3) := by decide +kernel
theorem dL_trains_134 : decode cL_trains 134 = .ok (.ifCond .ne 7, 3) := by decide +kernel
theorem dL_trains_137 : decode cL_trains 137 = .ok (.iconst 1, 1) := by decide +kernel
theorem dL_trains_138 : decode cL_trains 138 = .ok (.goto 4, 3) := by decide +kernel
theorem dL_trains_141 : decode cL_trains 141 = .ok (.iconst 0, 1) := by decide +kernel
theorem dL_trains_142 : decode cL_trains 142 = .ok (.iadd, 1) := by decide +kernel
theorem dL_trains_143 : decode cL_trains 143 = .ok (.istore 11, 2) := by decide +kernel
theorem dL_trains_145 : decode cL_trains 145 = .ok (.iload 12, 2) := by decide +kernel
theorem dL_trains_147 : decode cL_trains 147 = .ok (.ifCond .ge 12, 3) := by decide +kernel
theorem dL_trains_150 : decode cL_trains 150 = .ok (.aload_n 0, 1) := by decide +kernel
theorem dL_trains_151 : decode cL_trains 151 = .ok (.iload 14, 2) := by decide +kernel
theorem dL_trains_153 : decode cL_trains 153 = .ok (.invokevirtual 137, 3) := by decide +kernel
theorem dL_trains_156 : decode cL_trains 156 = .ok (.goto 5, 3) := by decide +kernel
theorem dL_trains_159 : decode cL_trains 159 = .ok (.iload 12, 2) := by decide +kernel
theorem dL_trains_161 : decode cL_trains 161 = .ok (.istore 12, 2) := by decide +kernel
theorem dL_trains_163 : decode cL_trains 163 = .ok (.iinc 13 1, 3) := by decide +kernel
theorem dL_trains_166 : decode cL_trains 166 = .ok (.goto (-66), 3) := by decide +kernel
theorem dL_trains_169 : decode cL_trains 169 = .ok (.iconst 0, 1) := by decide +kernel
theorem dL_trains_170 : decode cL_trains 170 = .ok (.istore 13, 2) := by decide +kernel
theorem dL_trains_172 : decode cL_trains 172 = .ok (.iload 13, 2) := by decide +kernel
theorem dL_trains_174 : decode cL_trains 174 = .ok (.iload 4, 2) := by decide +kernel
theorem dL_trains_176 : decode cL_trains 176 = .ok (.if_icmp .ge 28, 3) := by decide +kernel
theorem dL_trains_179 : decode cL_trains 179 = .ok (.iload_n 3, 1) := by decide +kernel
theorem dL_trains_180 : decode cL_trains 180 = .ok (.aload_n 0, 1) := by decide +kernel
theorem dL_trains_181 : decode cL_trains 181 = .ok (.iload 6, 2) := by decide +kernel
theorem dL_trains_183 : decode cL_trains 183 = .ok (.iload 13, 2) := by decide +kernel
theorem dL_trains_185 : decode cL_trains 185 = .ok (.invokevirtual 134, 3) := by decide +kernel
theorem dL_trains_188 : decode cL_trains 188 = .ok (.ifCond .le 7, 3) := by decide +kernel
theorem dL_trains_191 : decode cL_trains 191 = .ok (.iconst 1, 1) := by decide +kernel
theorem dL_trains_192 : decode cL_trains 192 = .ok (.goto 4, 3) := by decide +kernel
theorem dL_trains_195 : decode cL_trains 195 = .ok (.iconst 0, 1) := by decide +kernel
theorem dL_trains_196 : decode cL_trains 196 = .ok (.iadd, 1) := by decide +kernel
theorem dL_trains_197 : decode cL_trains 197 = .ok (.istore_n 3, 1) := by decide +kernel
theorem dL_trains_198 : decode cL_trains 198 = .ok (.iinc 13 1, 3) := by decide +kernel
theorem dL_trains_201 : decode cL_trains 201 = .ok (.goto (-29), 3) := by decide +kernel
theorem dL_trains_204 : decode cL_trains 204 = .ok (.iload_n 1, 1) := by decide +kernel
theorem dL_trains_205 : decode cL_trains 205 = .ok (.aload_n 0, 1) := by decide +kernel
theorem dL_trains_206 : decode cL_trains 206 = .ok (.iload 6, 2) := by decide +kernel
theorem dL_trains_208 : decode cL_trains 208 = .ok (.invokevirtual 125, 3) := by decide +kernel
theorem dL_trains_211 : decode cL_trains 211 = .ok (.iadd, 1) := by decide +kernel
theorem dL_trains_212 : decode cL_trains 212 = .ok (.istore_n 1, 1) := by decide +kernel
theorem dL_trains_213 : decode cL_trains 213 = .ok (.iload_n 2, 1) := by decide +kernel
theorem dL_trains_214 : decode cL_trains 214 = .ok (.aload_n 0, 1) := by decide +kernel
theorem dL_trains_215 : decode cL_trains 215 = .ok (.iload 6, 2) := by decide +kernel
theorem dL_trains_217 : decode cL_trains 217 = .ok (.invokevirtual 131, 3) := by decide +kernel
theorem dL_trains_220 : decode cL_trains 220 = .ok (.iadd, 1) := by decide +kernel
theorem dL_trains_221 : decode cL_trains 221 = .ok (.istore_n 2, 1) := by decide +kernel
theorem dL_trains_222 : decode cL_trains 222 = .ok (.aload_n 0, 1) := by decide +kernel
theorem dL_trains_223 : decode cL_trains 223 = .ok (.iload 6, 2) := by decide +kernel
theorem dL_trains_225 : decode cL_trains 225 = .ok (.invokevirtual 194, 3) := by decide +kernel
theorem dL_trains_228 : decode cL_trains 228 = .ok (.istore 13, 2) := by decide +kernel
theorem dL_trains_230 : decode cL_trains 230 = .ok (.aload_n 0, 1) := by decide +kernel
theorem dL_trains_231 : decode cL_trains 231 = .ok (.iload 7, 2) := by decide +kernel
theorem dL_trains_233 : decode cL_trains 233 = .ok (.invokevirtual 137, 3) := by decide +kernel
theorem dL_trains_236 : decode cL_trains 236 = .ok (.iload 6, 2) := by decide +kernel
theorem dL_trains_238 : decode cL_trains 238 = .ok (.if_icmp .ne 137, 3) := by decide +kernel
theorem dL_trains_241 : decode cL_trains 241 = .ok (.aload_n 0, 1) := by decide +kernel
theorem dL_trains_242 : decode cL_trains 242 = .ok (.iload 6, 2) := by decide +kernel
theorem dL_trains_244 : decode cL_trains 244 = .ok (.invokevirtual 197, 3) := by decide +kernel
theorem dL_trains_247 : decode cL_trains 247 = .ok (.iload 9, 2) := by decide +kernel
theorem dL_trains_249 : decode cL_trains 249 = .ok (.if_icmp .ne 126, 3) := by decide +kernel
theorem dL_trains_252 : decode cL_trains 252 = .ok (.iload 10, 2) := by decide +kernel
theorem dL_trains_254 : decode cL_trains 254 = .ok (.ifCond .lt 121, 3) := by decide +kernel
theorem dL_trains_257 : decode cL_trains 257 = .ok (.iload 13, 2) := by decide +kernel
theorem dL_trains_259 : decode cL_trains 259 = .ok (.iload 9, 2) := by decide +kernel
theorem dL_trains_261 : decode cL_trains 261 = .ok (.imul, 1) := by decide +kernel
theorem dL_trains_262 : decode cL_trains 262 = .ok (.iload 10, 2) := by decide +kernel
theorem dL_trains_264 : decode cL_trains 264 = .ok (.if_icmp .lt 111, 3) := by decide +kernel
theorem dL_trains_267 : decode cL_trains 267 = .ok (.iload 13, 2) := by decide +kernel
theorem dL_trains_269 : decode cL_trains 269 = .ok (.ifCond .eq 15, 3) := by decide +kernel
theorem dL_trains_272 : decode cL_trains 272 = .ok (.iload 13, 2) := by decide +kernel
theorem dL_trains_274 : decode cL_trains 274 = .ok (.iconst 1, 1) := by decide +kernel
theorem dL_trains_275 : decode cL_trains 275 = .ok (.isub, 1) := by decide +kernel
theorem dL_trains_276 : decode cL_trains 276 = .ok (.iload 9, 2) := by decide +kernel
theorem dL_trains_278 : decode cL_trains 278 = .ok (.imul, 1) := by decide +kernel
theorem dL_trains_279 : decode cL_trains 279 = .ok (.iload 10, 2) := by decide +kernel
theorem dL_trains_281 : decode cL_trains 281 = .ok (.if_icmp .ge 94, 3) := by decide +kernel
theorem dL_trains_284 : decode cL_trains 284 = .ok (.aload_n 0, 1) := by decide +kernel
theorem dL_trains_285 : decode cL_trains 285 = .ok (.iload 6, 2) := by decide +kernel
theorem dL_trains_287 : decode cL_trains 287 = .ok (.invokevirtual 200, 3) := by decide +kernel
theorem dL_trains_290 : decode cL_trains 290 = .ok (.iload 12, 2) := by decide +kernel
theorem dL_trains_292 : decode cL_trains 292 = .ok (.if_icmp .ne 83, 3) := by decide +kernel
theorem dL_trains_295 : decode cL_trains 295 = .ok (.aload_n 0, 1) := by decide +kernel
theorem dL_trains_296 : decode cL_trains 296 = .ok (.iload 6, 2) := by decide +kernel
theorem dL_trains_298 : decode cL_trains 298 = .ok (.invokevirtual 203, 3) := by decide +kernel
theorem dL_trains_301 : decode cL_trains 301 = .ok (.iload 11, 2) := by decide +kernel
theorem dL_trains_303 : decode cL_trains 303 = .ok (.if_icmp .ne 72, 3) := by decide +kernel
theorem dL_trains_306 : decode cL_trains 306 = .ok (.aload_n 0, 1) := by decide +kernel
theorem dL_trains_307 : decode cL_trains 307 = .ok (.iload 6, 2) := by decide +kernel
theorem dL_trains_309 : decode cL_trains 309 = .ok (.invokevirtual 206, 3) := by decide +kernel
theorem dL_trains_312 : decode cL_trains 312 = .ok (.aload_n 0, 1) := by decide +kernel
theorem dL_trains_313 : decode cL_trains 313 = .ok (.iload 8, 2) := by decide +kernel
theorem dL_trains_315 : decode cL_trains 315 = .ok (.invokevirtual 109, 3) := by decide +kernel
theorem dL_trains_318 : decode cL_trains 318 = .ok (.ifCond .eq 16, 3) := by decide +kernel
theorem dL_trains_321 : decode cL_trains 321 = .ok (.aload_n 0, 1) := by decide +kernel
theorem dL_trains_322 : decode cL_trains 322 = .ok (.iload 8, 2) := by decide +kernel
theorem dL_trains_324 : decode cL_trains 324 = .ok (.invokestatic 149, 3) := by decide +kernel
theorem dL_trains_327 : decode cL_trains 327 = .ok (.ifCond .ne 7, 3) := by decide +kernel
theorem dL_trains_330 : decode cL_trains 330 = .ok (.iconst 1, 1) := by decide +kernel
theorem dL_trains_331 : decode cL_trains 331 = .ok (.goto 4, 3) := by decide +kernel
theorem dL_trains_334 : decode cL_trains 334 = .ok (.iconst 0, 1) := by decide +kernel
theorem dL_trains_335 : decode cL_trains 335 = .ok (.if_icmp .ne 40, 3) := by decide +kernel
theorem dL_trains_338 : decode cL_trains 338 = .ok (.aload_n 0, 1) := by decide +kernel
theorem dL_trains_339 : decode cL_trains 339 = .ok (.iload 6, 2) := by decide +kernel
theorem dL_trains_341 : decode cL_trains 341 = .ok (.iconst 0, 1) := by decide +kernel
theorem dL_trains_342 : decode cL_trains 342 = .ok (.invokevirtual 209, 3) := by decide +kernel
theorem dL_trains_345 : decode cL_trains 345 = .ok (.iload 7, 2) := by decide +kernel
theorem dL_trains_347 : decode cL_trains 347 = .ok (.if_icmp .ne 28, 3) := by decide +kernel
theorem dL_trains_350 : decode cL_trains 350 = .ok (.aload_n 0, 1) := by decide +kernel
theorem dL_trains_351 : decode cL_trains 351 = .ok (.iload 6, 2) := by decide +kernel
theorem dL_trains_353 : decode cL_trains 353 = .ok (.invokevirtual 125, 3) := by decide +kernel
theorem dL_trains_356 : decode cL_trains 356 = .ok (.iconst 1, 1) := by decide +kernel
theorem dL_trains_357 : decode cL_trains 357 = .ok (.if_icmp .lt 18, 3) := by decide +kernel
theorem dL_trains_360 : decode cL_trains 360 = .ok (.aload_n 0, 1) := by decide +kernel
theorem dL_trains_361 : decode cL_trains 361 = .ok (.iload 6, 2) := by decide +kernel
theorem dL_trains_363 : decode cL_trains 363 = .ok (.invokevirtual 125, 3) := by decide +kernel
theorem dL_trains_366 : decode cL_trains 366 = .ok (.bipush 12, 2) := by decide +kernel
theorem dL_trains_368 : decode cL_trains 368 = .ok (.if_icmp .gt 7, 3) := by decide +kernel
theorem dL_trains_371 : decode cL_trains 371 = .ok (.iconst 1, 1) := by decide +kernel
theorem dL_trains_372 : decode cL_trains 372 = .ok (.goto 4, 3) := by decide +kernel
theorem dL_trains_375 : decode cL_trains 375 = .ok (.iconst 0, 1) := by decide +kernel
theorem dL_trains_376 : decode cL_trains 376 = .ok (.istore 5, 2) := by decide +kernel
theorem dL_trains_378 : decode cL_trains 378 = .ok (.iinc 6 1, 3) := by decide +kernel
theorem dL_trains_381 : decode cL_trains 381 = .ok (.goto (-363), 3) := by decide +kernel
theorem dL_trains_384 : decode cL_trains 384 = .ok (.aload_n 0, 1) := by decide +kernel
theorem dL_trains_385 : decode cL_trains 385 = .ok (.invokevirtual 97, 3) := by decide +kernel
theorem dL_trains_388 : decode cL_trains 388 = .ok (.aload_n 0, 1) := by decide +kernel
theorem dL_trains_389 : decode cL_trains 389 = .ok (.invokevirtual 116, 3) := by decide +kernel
theorem dL_trains_392 : decode cL_trains 392 = .ok (.imul, 1) := by decide +kernel
theorem dL_trains_393 : decode cL_trains 393 = .ok (.istore 6, 2) := by decide +kernel
theorem dL_trains_395 : decode cL_trains 395 = .ok (.iload 5, 2) := by decide +kernel
theorem dL_trains_397 : decode cL_trains 397 = .ok (.ifCond .eq 46, 3) := by decide +kernel
theorem dL_trains_400 : decode cL_trains 400 = .ok (.aload_n 0, 1) := by decide +kernel
theorem dL_trains_401 : decode cL_trains 401 = .ok (.invokevirtual 212, 3) := by decide +kernel
theorem dL_trains_404 : decode cL_trains 404 = .ok (.iload_n 1, 1) := by decide +kernel
theorem dL_trains_405 : decode cL_trains 405 = .ok (.if_icmp .ne 38, 3) := by decide +kernel
theorem dL_trains_408 : decode cL_trains 408 = .ok (.aload_n 0, 1) := by decide +kernel
theorem dL_trains_409 : decode cL_trains 409 = .ok (.invokevirtual 215, 3) := by decide +kernel
theorem dL_trains_412 : decode cL_trains 412 = .ok (.iload_n 3, 1) := by decide +kernel
theorem dL_trains_413 : decode cL_trains 413 = .ok (.if_icmp .ne 30, 3) := by decide +kernel
theorem dL_trains_416 : decode cL_trains 416 = .ok (.aload_n 0, 1) := by decide +kernel
theorem dL_trains_417 : decode cL_trains 417 = .ok (.invokevirtual 218, 3) := by decide +kernel
theorem dL_trains_420 : decode cL_trains 420 = .ok (.iload 6, 2) := by decide +kernel
theorem dL_trains_422 : decode cL_trains 422 = .ok (.ifCond .ne 7, 3) := by decide +kernel
theorem dL_trains_425 : decode cL_trains 425 = .ok (.fconst 0, 1) := by decide +kernel
theorem dL_trains_426 : decode cL_trains 426 = .ok (.goto 9, 3) := by decide +kernel
theorem dL_trains_429 : decode cL_trains 429 = .ok (.iload_n 2, 1) := by decide +kernel
theorem dL_trains_430 : decode cL_trains 430 = .ok (.i2f, 1) := by decide +kernel
theorem dL_trains_431 : decode cL_trains 431 = .ok (.iload 6, 2) := by decide +kernel
theorem dL_trains_433 : decode cL_trains 433 = .ok (.i2f, 1) := by decide +kernel
theorem dL_trains_434 : decode cL_trains 434 = .ok (.fdiv, 1) := by decide +kernel
theorem dL_trains_435 : decode cL_trains 435 = .ok (.fcmp .l, 1) := by decide +kernel
theorem dL_trains_436 : decode cL_trains 436 = .ok (.ifCond .ne 7, 3) := by decide +kernel
theorem dL_trains_439 : decode cL_trains 439 = .ok (.iconst 1, 1) := by decide +kernel
theorem dL_trains_440 : decode cL_trains 440 = .ok (.goto 4, 3) := by decide +kernel
theorem dL_trains_443 : decode cL_trains 443 = .ok (.iconst 0, 1) := by decide +kernel
theorem dL_trains_444 : decode cL_trains 444 = .ok (.ireturn, 1) := by decide +kernel
theorem dL_act_0 : decode cL_act 0 = .ok (.aload_n 0, 1) := by decide +kernel
theorem dL_act_1 : decode cL_act 1 = .ok (.invokevirtual 103, 3) := by decide +kernel
theorem dL_act_4 : decode cL_act 4 = .ok (.istore_n 2, 1) := by decide +kernel
theorem dL_act_5 : decode cL_act 5 = .ok (.aload_n 0, 1) := by decide +kernel
theorem dL_act_6 : decode cL_act 6 = .ok (.invokevirtual 116, 3) := by decide +kernel
theorem dL_act_9 : decode cL_act 9 = .ok (.istore_n 3, 1) := by decide +kernel
theorem dL_act_10 : decode cL_act 10 = .ok (.iload_n 2, 1) := by decide +kernel
theorem dL_act_11 : decode cL_act 11 = .ok (.ifCond .ne 7, 3) := by decide +kernel
theorem dL_act_14 : decode cL_act 14 = .ok (.iconst 0, 1) := by decide +kernel
theorem dL_act_15 : decode cL_act 15 = .ok (.goto 9, 3) := by decide +kernel
theorem dL_act_18 : decode cL_act 18 = .ok (.aload_n 1, 1) := by decide +kernel
theorem dL_act_19 : decode cL_act 19 = .ok (.invokestatic 77, 3) := by decide +kernel
theorem dL_act_22 : decode cL_act 22 = .ok (.iload_n 2, 1) := by decide +kernel
theorem dL_act_23 : decode cL_act 23 = .ok (.irem, 1) := by decide +kernel
theorem dL_act_24 : decode cL_act 24 = .ok (.istore 4, 2) := by decide +kernel
theorem dL_act_26 : decode cL_act 26 = .ok (.iload_n 3, 1) := by decide +kernel
theorem dL_act_27 : decode cL_act 27 = .ok (.ifCond .ne 7, 3) := by decide +kernel
theorem dL_act_30 : decode cL_act 30 = .ok (.iconst 0, 1) := by decide +kernel
theorem dL_act_31 : decode cL_act 31 = .ok (.goto 9, 3) := by decide +kernel
theorem dL_act_34 : decode cL_act 34 = .ok (.aload_n 1, 1) := by decide +kernel
theorem dL_act_35 : decode cL_act 35 = .ok (.invokestatic 77, 3) := by decide +kernel
theorem dL_act_38 : decode cL_act 38 = .ok (.iload_n 3, 1) := by decide +kernel
theorem dL_act_39 : decode cL_act 39 = .ok (.irem, 1) := by decide +kernel
theorem dL_act_40 : decode cL_act 40 = .ok (.istore 5, 2) := by decide +kernel
theorem dL_act_42 : decode cL_act 42 = .ok (.aload_n 1, 1) := by decide +kernel
theorem dL_act_43 : decode cL_act 43 = .ok (.invokestatic 77, 3) := by decide +kernel
theorem dL_act_46 : decode cL_act 46 = .ok (.bipush 10, 2) := by decide +kernel
theorem dL_act_48 : decode cL_act 48 = .ok (.irem, 1) := by decide +kernel
theorem dL_act_49 : decode cL_act 49 = .ok (.tableswitch 580 0 8 #[51, 51, 51, 240, 240, 240, 343, 433, 533], 51) := by decide +kernel
theorem dL_act_100 : decode cL_act 100 = .ok (.iconst 1, 1) := by decide +kernel
theorem dL_act_101 : decode cL_act 101 = .ok (.aload_n 1, 1) := by decide +kernel
theorem dL_act_102 : decode cL_act 102 = .ok (.invokestatic 77, 3) := by decide +kernel
theorem dL_act_105 : decode cL_act 105 = .ok (.bipush 12, 2) := by decide +kernel
theorem dL_act_107 : decode cL_act 107 = .ok (.irem, 1) := by decide +kernel
theorem dL_act_108 : decode cL_act 108 = .ok (.iadd, 1) := by decide +kernel
theorem dL_act_109 : decode cL_act 109 = .ok (.istore 6, 2) := by decide +kernel
theorem dL_act_111 : decode cL_act 111 = .ok (.iload_n 3, 1) := by decide +kernel
theorem dL_act_112 : decode cL_act 112 = .ok (.ifCond .ne 7, 3) := by decide +kernel
theorem dL_act_115 : decode cL_act 115 = .ok (.iconst 0, 1) := by decide +kernel
theorem dL_act_116 : decode cL_act 116 = .ok (.goto 11, 3) := by decide +kernel
theorem dL_act_119 : decode cL_act 119 = .ok (.aload_n 0, 1) := by decide +kernel
theorem dL_act_120 : decode cL_act 120 = .ok (.iload 5, 2) := by decide +kernel
theorem dL_act_122 : decode cL_act 122 = .ok (.iload 6, 2) := by decide +kernel
theorem dL_act_124 : decode cL_act 124 = .ok (.invokevirtual 209, 3) := by decide +kernel
theorem dL_act_127 : decode cL_act 127 = .ok (.istore 7, 2) := by decide +kernel
theorem dL_act_129 : decode cL_act 129 = .ok (.iload_n 3, 1) := by decide +kernel
theorem dL_act_130 : decode cL_act 130 = .ok (.ifCond .ne 7, 3) := by decide +kernel
theorem dL_act_133 : decode cL_act 133 = .ok (.iconst 0, 1) := by decide +kernel
theorem dL_act_134 : decode cL_act 134 = .ok (.goto 9, 3) := by decide +kernel
theorem dL_act_137 : decode cL_act 137 = .ok (.aload_n 0, 1) := by decide +kernel
theorem dL_act_138 : decode cL_act 138 = .ok (.iload 5, 2) := by decide +kernel
theorem dL_act_140 : decode cL_act 140 = .ok (.invokevirtual 222, 3) := by decide +kernel
theorem dL_act_143 : decode cL_act 143 = .ok (.istore 8, 2) := by decide +kernel
theorem dL_act_145 : decode cL_act 145 = .ok (.iload_n 3, 1) := by decide +kernel
theorem dL_act_146 : decode cL_act 146 = .ok (.ifCond .ne 7, 3) := by decide +kernel
theorem dL_act_149 : decode cL_act 149 = .ok (.iconst 0, 1) := by decide +kernel
theorem dL_act_150 : decode cL_act 150 = .ok (.goto 9, 3) := by decide +kernel
theorem dL_act_153 : decode cL_act 153 = .ok (.aload_n 0, 1) := by decide +kernel
theorem dL_act_154 : decode cL_act 154 = .ok (.iload 5, 2) := by decide +kernel
theorem dL_act_156 : decode cL_act 156 = .ok (.invokevirtual 131, 3) := by decide +kernel
theorem dL_act_159 : decode cL_act 159 = .ok (.istore 9, 2) := by decide +kernel
theorem dL_act_161 : decode cL_act 161 = .ok (.iconst 0, 1) := by decide +kernel
theorem dL_act_162 : decode cL_act 162 = .ok (.istore 10, 2) := by decide +kernel
theorem dL_act_164 : decode cL_act 164 = .ok (.iconst 0, 1) := by decide +kernel
theorem dL_act_165 : decode cL_act 165 = .ok (.istore 11, 2) := by decide +kernel
theorem dL_act_167 : decode cL_act 167 = .ok (.iload 11, 2) := by decide +kernel
theorem dL_act_169 : decode cL_act 169 = .ok (.iload_n 2, 1) := by decide +kernel
theorem dL_act_170 : decode cL_act 170 = .ok (.if_icmp .ge 20, 3) := by decide +kernel
theorem dL_act_173 : decode cL_act 173 = .ok (.iload 10, 2) := by decide +kernel
theorem dL_act_175 : decode cL_act 175 = .ok (.aload_n 0, 1) := by decide +kernel
theorem dL_act_176 : decode cL_act 176 = .ok (.iload 11, 2) := by decide +kernel
theorem dL_act_178 : decode cL_act 178 = .ok (.invokevirtual 156, 3) := by decide +kernel
theorem dL_act_181 : decode cL_act 181 = .ok (.iadd, 1) := by decide +kernel
theorem dL_act_182 : decode cL_act 182 = .ok (.istore 10, 2) := by decide +kernel
theorem dL_act_184 : decode cL_act 184 = .ok (.iinc 11 1, 3) := by decide +kernel
theorem dL_act_187 : decode cL_act 187 = .ok (.goto (-20), 3) := by decide +kernel
theorem dL_act_190 : decode cL_act 190 = .ok (.aload_n 0, 1) := by decide +kernel
theorem dL_act_191 : decode cL_act 191 = .ok (.iload 6, 2) := by decide +kernel
theorem dL_act_193 : decode cL_act 193 = .ok (.invokestatic 225, 3) := by decide +kernel
theorem dL_act_196 : decode cL_act 196 = .ok (.istore 11, 2) := by decide +kernel
theorem dL_act_198 : decode cL_act 198 = .ok (.iconst 0, 1) := by decide +kernel
theorem dL_act_199 : decode cL_act 199 = .ok (.istore 12, 2) := by decide +kernel
theorem dL_act_201 : decode cL_act 201 = .ok (.iload 12, 2) := by decide +kernel
theorem dL_act_203 : decode cL_act 203 = .ok (.iload_n 2, 1) := by decide +kernel
theorem dL_act_204 : decode cL_act 204 = .ok (.if_icmp .ge 20, 3) := by decide +kernel
theorem dL_act_207 : decode cL_act 207 = .ok (.iload 10, 2) := by decide +kernel
theorem dL_act_209 : decode cL_act 209 = .ok (.aload_n 0, 1) := by decide +kernel
theorem dL_act_210 : decode cL_act 210 = .ok (.iload 12, 2) := by decide +kernel
theorem dL_act_212 : decode cL_act 212 = .ok (.invokevirtual 156, 3) := by decide +kernel
theorem dL_act_215 : decode cL_act 215 = .ok (.isub, 1) := by decide +kernel
theorem dL_act_216 : decode cL_act 216 = .ok (.istore 10, 2) := by decide +kernel
theorem dL_act_218 : decode cL_act 218 = .ok (.iinc 12 1, 3) := by decide +kernel
theorem dL_act_221 : decode cL_act 221 = .ok (.goto (-20), 3) := by decide +kernel
theorem dL_act_224 : decode cL_act 224 = .ok (.iload 11, 2) := by decide +kernel
theorem dL_act_226 : decode cL_act 226 = .ok (.iload 10, 2) := by decide +kernel
theorem dL_act_228 : decode cL_act 228 = .ok (.ineg, 1) := by decide +kernel
theorem dL_act_229 : decode cL_act 229 = .ok (.if_icmp .ne 58, 3) := by decide +kernel
theorem dL_act_232 : decode cL_act 232 = .ok (.iload_n 3, 1) := by decide +kernel
theorem dL_act_233 : decode cL_act 233 = .ok (.ifCond .eq 50, 3) := by decide +kernel
theorem dL_act_236 : decode cL_act 236 = .ok (.aload_n 0, 1) := by decide +kernel
theorem dL_act_237 : decode cL_act 237 = .ok (.iload 5, 2) := by decide +kernel
theorem dL_act_239 : decode cL_act 239 = .ok (.invokevirtual 119, 3) := by decide +kernel
theorem dL_act_242 : decode cL_act 242 = .ok (.iload 7, 2) := by decide +kernel
theorem dL_act_244 : decode cL_act 244 = .ok (.if_icmp .ne 43, 3) := by decide +kernel
theorem dL_act_247 : decode cL_act 247 = .ok (.aload_n 0, 1) := by decide +kernel
theorem dL_act_248 : decode cL_act 248 = .ok (.iload 5, 2) := by decide +kernel
theorem dL_act_250 : decode cL_act 250 = .ok (.invokevirtual 131, 3) := by decide +kernel
theorem dL_act_253 : decode cL_act 253 = .ok (.iload 9, 2) := by decide +kernel
theorem dL_act_255 : decode cL_act 255 = .ok (.if_icmp .le 7, 3) := by decide +kernel
theorem dL_act_258 : decode cL_act 258 = .ok (.iconst 1, 1) := by decide +kernel
theorem dL_act_259 : decode cL_act 259 = .ok (.goto 4, 3) := by decide +kernel
theorem dL_act_262 : decode cL_act 262 = .ok (.iconst 0, 1) := by decide +kernel
theorem dL_act_263 : decode cL_act 263 = .ok (.iload 8, 2) := by decide +kernel
theorem dL_act_265 : decode cL_act 265 = .ok (.ifCond .le 14, 3) := by decide +kernel
