theorem at_146_0 : ab_at 146 0 = some (.new 10, 3) := by decide +kernel
theorem at_146_3 : ab_at 146 3 = some (.dup, 1) := by decide +kernel
theorem at_146_4 : ab_at 146 4 = some (.invokespecial 133, 3) := by decide +kernel
theorem at_146_7 : ab_at 146 7 = some (.astore_n 1, 1) := by decide +kernel
theorem at_146_8 : ab_at 146 8 = some (.iconst 2, 1) := by decide +kernel
theorem at_146_9 : ab_at 146 9 = some (.newarray .int, 2) := by decide +kernel
theorem at_146_11 : ab_at 146 11 = some (.astore_n 2, 1) := by decide +kernel
theorem at_146_12 : ab_at 146 12 = some (.bipush 40, 2) := by decide +kernel
theorem at_146_14 : ab_at 146 14 = some (.newarray .int, 2) := by decide +kernel
theorem at_146_16 : ab_at 146 16 = some (.astore_n 3, 1) := by decide +kernel
theorem at_146_17 : ab_at 146 17 = some (.bipush 40, 2) := by decide +kernel
theorem at_146_19 : ab_at 146 19 = some (.newarray .int, 2) := by decide +kernel
theorem at_146_21 : ab_at 146 21 = some (.astore 4, 2) := by decide +kernel
theorem at_146_23 : ab_at 146 23 = some (.bipush 40, 2) := by decide +kernel
theorem at_146_25 : ab_at 146 25 = some (.newarray .int, 2) := by decide +kernel
theorem at_146_27 : ab_at 146 27 = some (.astore 5, 2) := by decide +kernel
theorem at_146_29 : ab_at 146 29 = some (.bipush 64, 2) := by decide +kernel
theorem at_146_31 : ab_at 146 31 = some (.newarray .int, 2) := by decide +kernel
theorem at_146_33 : ab_at 146 33 = some (.astore 6, 2) := by decide +kernel
theorem at_146_35 : ab_at 146 35 = some (.bipush 6, 2) := by decide +kernel
theorem at_146_37 : ab_at 146 37 = some (.newarray .int, 2) := by decide +kernel
theorem at_146_39 : ab_at 146 39 = some (.astore 7, 2) := by decide +kernel
theorem at_146_41 : ab_at 146 41 = some (.bipush 6, 2) := by decide +kernel
theorem at_146_43 : ab_at 146 43 = some (.newarray .int, 2) := by decide +kernel
theorem at_146_45 : ab_at 146 45 = some (.astore 8, 2) := by decide +kernel
theorem at_146_47 : ab_at 146 47 = some (.iconst 4, 1) := by decide +kernel
theorem at_146_48 : ab_at 146 48 = some (.newarray .int, 2) := by decide +kernel
theorem at_146_50 : ab_at 146 50 = some (.astore 9, 2) := by decide +kernel
theorem at_146_52 : ab_at 146 52 = some (.bipush 20, 2) := by decide +kernel
theorem at_146_54 : ab_at 146 54 = some (.newarray .long, 2) := by decide +kernel
theorem at_146_56 : ab_at 146 56 = some (.astore 10, 2) := by decide +kernel
theorem at_146_58 : ab_at 146 58 = some (.aload_n 1, 1) := by decide +kernel
theorem at_146_59 : ab_at 146 59 = some (.aload_n 0, 1) := by decide +kernel
theorem at_146_60 : ab_at 146 60 = some (.iconst 0, 1) := by decide +kernel
theorem at_146_61 : ab_at 146 61 = some (.aload_n 2, 1) := by decide +kernel
theorem at_146_62 : ab_at 146 62 = some (.aload_n 3, 1) := by decide +kernel
theorem at_146_63 : ab_at 146 63 = some (.aload 4, 2) := by decide +kernel
theorem at_146_65 : ab_at 146 65 = some (.aload 5, 2) := by decide +kernel
theorem at_146_67 : ab_at 146 67 = some (.aload 6, 2) := by decide +kernel
theorem at_146_69 : ab_at 146 69 = some (.aload 7, 2) := by decide +kernel
theorem at_146_71 : ab_at 146 71 = some (.invokestatic 134, 3) := by decide +kernel
theorem at_146_74 : ab_at 146 74 = some (.ifCond .ne 5, 3) := by decide +kernel
theorem at_146_77 : ab_at 146 77 = some (.iconst 0, 1) := by decide +kernel
theorem at_146_78 : ab_at 146 78 = some (.ireturn, 1) := by decide +kernel
theorem at_146_79 : ab_at 146 79 = some (.aload_n 1, 1) := by decide +kernel
theorem at_146_80 : ab_at 146 80 = some (.iconst 1, 1) := by decide +kernel
theorem at_146_81 : ab_at 146 81 = some (.invokevirtual 127, 3) := by decide +kernel
theorem at_146_84 : ab_at 146 84 = some (.istore 11, 2) := by decide +kernel
theorem at_146_86 : ab_at 146 86 = some (.iconst 0, 1) := by decide +kernel
theorem at_146_87 : ab_at 146 87 = some (.istore 12, 2) := by decide +kernel
theorem at_146_89 : ab_at 146 89 = some (.iload 12, 2) := by decide +kernel
theorem at_146_91 : ab_at 146 91 = some (.iconst 2, 1) := by decide +kernel
theorem at_146_92 : ab_at 146 92 = some (.if_icmp .ge 1519, 3) := by decide +kernel
theorem at_146_95 : ab_at 146 95 = some (.aload_n 1, 1) := by decide +kernel
theorem at_146_96 : ab_at 146 96 = some (.iconst 0, 1) := by decide +kernel
theorem at_146_97 : ab_at 146 97 = some (.invokevirtual 138, 3) := by decide +kernel
theorem at_146_100 : ab_at 146 100 = some (.ifCond .ge 5, 3) := by decide +kernel
theorem at_146_103 : ab_at 146 103 = some (.iconst 0, 1) := by decide +kernel
theorem at_146_104 : ab_at 146 104 = some (.ireturn, 1) := by decide +kernel
theorem at_146_105 : ab_at 146 105 = some (.aload_n 1, 1) := by decide +kernel
theorem at_146_106 : ab_at 146 106 = some (.iconst 1, 1) := by decide +kernel
theorem at_146_107 : ab_at 146 107 = some (.invokevirtual 141, 3) := by decide +kernel
theorem at_146_110 : ab_at 146 110 = some (.istore 13, 2) := by decide +kernel
theorem at_146_112 : ab_at 146 112 = some (.iconst 0, 1) := by decide +kernel
theorem at_146_113 : ab_at 146 113 = some (.istore 14, 2) := by decide +kernel
theorem at_146_115 : ab_at 146 115 = some (.iconst 0, 1) := by decide +kernel
theorem at_146_116 : ab_at 146 116 = some (.istore 15, 2) := by decide +kernel
theorem at_146_118 : ab_at 146 118 = some (.iload 15, 2) := by decide +kernel
theorem at_146_120 : ab_at 146 120 = some (.iload 11, 2) := by decide +kernel
theorem at_146_122 : ab_at 146 122 = some (.if_icmp .ge 586, 3) := by decide +kernel
theorem at_146_125 : ab_at 146 125 = some (.aload_n 1, 1) := by decide +kernel
theorem at_146_126 : ab_at 146 126 = some (.iload 15, 2) := by decide +kernel
theorem at_146_128 : ab_at 146 128 = some (.invokevirtual 144, 3) := by decide +kernel
theorem at_146_131 : ab_at 146 131 = some (.istore 16, 2) := by decide +kernel
theorem at_146_133 : ab_at 146 133 = some (.aload_n 1, 1) := by decide +kernel
theorem at_146_134 : ab_at 146 134 = some (.iload 15, 2) := by decide +kernel
theorem at_146_136 : ab_at 146 136 = some (.iconst 0, 1) := by decide +kernel
theorem at_146_137 : ab_at 146 137 = some (.invokevirtual 119, 3) := by decide +kernel
theorem at_146_140 : ab_at 146 140 = some (.istore 17, 2) := by decide +kernel
theorem at_146_142 : ab_at 146 142 = some (.iload 14, 2) := by decide +kernel
theorem at_146_144 : ab_at 146 144 = some (.iload 16, 2) := by decide +kernel
theorem at_146_146 : ab_at 146 146 = some (.iload 15, 2) := by decide +kernel
theorem at_146_148 : ab_at 146 148 = some (.if_icmp .ne 14, 3) := by decide +kernel
theorem at_146_151 : ab_at 146 151 = some (.iload 17, 2) := by decide +kernel
theorem at_146_153 : ab_at 146 153 = some (.bipush 8, 2) := by decide +kernel
theorem at_146_155 : ab_at 146 155 = some (.if_icmp .eq 7, 3) := by decide +kernel
theorem at_146_158 : ab_at 146 158 = some (.iconst 1, 1) := by decide +kernel
theorem at_146_159 : ab_at 146 159 = some (.goto 4, 3) := by decide +kernel
theorem at_146_162 : ab_at 146 162 = some (.iconst 0, 1) := by decide +kernel
theorem at_146_163 : ab_at 146 163 = some (.iadd, 1) := by decide +kernel
theorem at_146_164 : ab_at 146 164 = some (.istore 14, 2) := by decide +kernel
theorem at_146_166 : ab_at 146 166 = some (.iload 16, 2) := by decide +kernel
theorem at_146_168 : ab_at 146 168 = some (.iload 15, 2) := by decide +kernel
theorem at_146_170 : ab_at 146 170 = some (.if_icmp .gt 123, 3) := by decide +kernel
theorem at_146_173 : ab_at 146 173 = some (.aload_n 1, 1) := by decide +kernel
theorem at_146_174 : ab_at 146 174 = some (.iload 16, 2) := by decide +kernel
theorem at_146_176 : ab_at 146 176 = some (.invokevirtual 144, 3) := by decide +kernel
theorem at_146_179 : ab_at 146 179 = some (.iload 16, 2) := by decide +kernel
theorem at_146_181 : ab_at 146 181 = some (.if_icmp .ne 112, 3) := by decide +kernel
theorem at_146_184 : ab_at 146 184 = some (.aload_n 1, 1) := by decide +kernel
theorem at_146_185 : ab_at 146 185 = some (.iload 16, 2) := by decide +kernel
theorem at_146_187 : ab_at 146 187 = some (.iconst 0, 1) := by decide +kernel
theorem at_146_188 : ab_at 146 188 = some (.invokevirtual 119, 3) := by decide +kernel
theorem at_146_191 : ab_at 146 191 = some (.iload 17, 2) := by decide +kernel
theorem at_146_193 : ab_at 146 193 = some (.if_icmp .ne 100, 3) := by decide +kernel
theorem at_146_196 : ab_at 146 196 = some (.iload 17, 2) := by decide +kernel
theorem at_146_198 : ab_at 146 198 = some (.ifCond .ne 20, 3) := by decide +kernel
theorem at_146_201 : ab_at 146 201 = some (.aload_n 1, 1) := by decide +kernel
theorem at_146_202 : ab_at 146 202 = some (.iload 16, 2) := by decide +kernel
theorem at_146_204 : ab_at 146 204 = some (.iconst 3, 1) := by decide +kernel
theorem at_146_205 : ab_at 146 205 = some (.invokevirtual 119, 3) := by decide +kernel
theorem at_146_208 : ab_at 146 208 = some (.aload_n 1, 1) := by decide +kernel
theorem at_146_209 : ab_at 146 209 = some (.iload 15, 2) := by decide +kernel
theorem at_146_211 : ab_at 146 211 = some (.iconst 3, 1) := by decide +kernel
theorem at_146_212 : ab_at 146 212 = some (.invokevirtual 119, 3) := by decide +kernel
theorem at_146_215 : ab_at 146 215 = some (.if_icmp .ne 78, 3) := by decide +kernel
theorem at_146_218 : ab_at 146 218 = some (.iload 17, 2) := by decide +kernel
theorem at_146_220 : ab_at 146 220 = some (.iconst 1, 1) := by decide +kernel
theorem at_146_221 : ab_at 146 221 = some (.if_icmp .ne 20, 3) := by decide +kernel
theorem at_146_224 : ab_at 146 224 = some (.aload_n 1, 1) := by decide +kernel
theorem at_146_225 : ab_at 146 225 = some (.iload 16, 2) := by decide +kernel
theorem at_146_227 : ab_at 146 227 = some (.iconst 3, 1) := by decide +kernel
theorem at_146_228 : ab_at 146 228 = some (.invokevirtual 119, 3) := by decide +kernel
theorem at_146_231 : ab_at 146 231 = some (.aload_n 1, 1) := by decide +kernel
theorem at_146_232 : ab_at 146 232 = some (.iload 15, 2) := by decide +kernel
theorem at_146_234 : ab_at 146 234 = some (.iconst 3, 1) := by decide +kernel
theorem at_146_235 : ab_at 146 235 = some (.invokevirtual 119, 3) := by decide +kernel
theorem at_146_238 : ab_at 146 238 = some (.if_icmp .ne 55, 3) := by decide +kernel
theorem at_146_241 : ab_at 146 241 = some (.iload 17, 2) := by decide +kernel
theorem at_146_243 : ab_at 146 243 = some (.bipush 7, 2) := by decide +kernel
theorem at_146_245 : ab_at 146 245 = some (.if_icmp .ne 20, 3) := by decide +kernel
theorem at_146_248 : ab_at 146 248 = some (.aload_n 1, 1) := by decide +kernel
theorem at_146_249 : ab_at 146 249 = some (.iload 16, 2) := by decide +kernel
theorem at_146_251 : ab_at 146 251 = some (.iconst 1, 1) := by decide +kernel
theorem at_146_252 : ab_at 146 252 = some (.invokevirtual 119, 3) := by decide +kernel
theorem at_146_255 : ab_at 146 255 = some (.aload_n 1, 1) := by decide +kernel
theorem at_146_256 : ab_at 146 256 = some (.iload 15, 2) := by decide +kernel
theorem at_146_258 : ab_at 146 258 = some (.iconst 1, 1) := by decide +kernel
theorem at_146_259 : ab_at 146 259 = some (.invokevirtual 119, 3) := by decide +kernel
theorem at_146_262 : ab_at 146 262 = some (.if_icmp .ne 31, 3) := by decide +kernel
theorem at_146_265 : ab_at 146 265 = some (.aload_n 1, 1) := by decide +kernel
theorem at_146_266 : ab_at 146 266 = some (.iload 15, 2) := by decide +kernel
theorem at_146_268 : ab_at 146 268 = some (.iload 13, 2) := by decide +kernel
theorem at_146_270 : ab_at 146 270 = some (.invokevirtual 146, 3) := by decide +kernel
theorem at_146_273 : ab_at 146 273 = some (.iload 16, 2) := by decide +kernel
theorem at_146_275 : ab_at 146 275 = some (.if_icmp .ne 18, 3) := by decide +kernel
theorem at_146_278 : ab_at 146 278 = some (.aload_n 1, 1) := by decide +kernel
theorem at_146_279 : ab_at 146 279 = some (.iload 15, 2) := by decide +kernel
theorem at_146_281 : ab_at 146 281 = some (.iload 13, 2) := by decide +kernel
theorem at_146_283 : ab_at 146 283 = some (.iconst 1, 1) := by decide +kernel
theorem at_146_284 : ab_at 146 284 = some (.iadd, 1) := by decide +kernel
theorem at_146_285 : ab_at 146 285 = some (.invokevirtual 146, 3) := by decide +kernel
theorem at_146_288 : ab_at 146 288 = some (.iload 16, 2) := by decide +kernel
theorem at_146_290 : ab_at 146 290 = some (.if_icmp .eq 5, 3) := by decide +kernel
theorem at_146_293 : ab_at 146 293 = some (.iconst 0, 1) := by decide +kernel
theorem at_146_294 : ab_at 146 294 = some (.ireturn, 1) := by decide +kernel
theorem at_146_295 : ab_at 146 295 = some (.aload_n 1, 1) := by decide +kernel
theorem at_146_296 : ab_at 146 296 = some (.iload 15, 2) := by decide +kernel
theorem at_146_298 : ab_at 146 298 = some (.iconst 2, 1) := by decide +kernel
theorem at_146_299 : ab_at 146 299 = some (.invokevirtual 119, 3) := by decide +kernel
theorem at_146_302 : ab_at 146 302 = some (.ifCond .le 17, 3) := by decide +kernel
theorem at_146_305 : ab_at 146 305 = some (.aload_n 1, 1) := by decide +kernel
theorem at_146_306 : ab_at 146 306 = some (.aload_n 1, 1) := by decide +kernel
theorem at_146_307 : ab_at 146 307 = some (.iload 15, 2) := by decide +kernel
theorem at_146_309 : ab_at 146 309 = some (.iconst 0, 1) := by decide +kernel
theorem at_146_310 : ab_at 146 310 = some (.invokevirtual 121, 3) := by decide +kernel
theorem at_146_313 : ab_at 146 313 = some (.invokevirtual 144, 3) := by decide +kernel
theorem at_146_316 : ab_at 146 316 = some (.goto 5, 3) := by decide +kernel
theorem at_146_319 : ab_at 146 319 = some (.bipush (-9), 2) := by decide +kernel
theorem at_146_321 : ab_at 146 321 = some (.istore 18, 2) := by decide +kernel
theorem at_146_323 : ab_at 146 323 = some (.aload_n 1, 1) := by decide +kernel
theorem at_146_324 : ab_at 146 324 = some (.iload 15, 2) := by decide +kernel
theorem at_146_326 : ab_at 146 326 = some (.iconst 2, 1) := by decide +kernel
theorem at_146_327 : ab_at 146 327 = some (.invokevirtual 119, 3) := by decide +kernel
theorem at_146_330 : ab_at 146 330 = some (.iconst 1, 1) := by decide +kernel
theorem at_146_331 : ab_at 146 331 = some (.if_icmp .le 17, 3) := by decide +kernel
theorem at_146_334 : ab_at 146 334 = some (.aload_n 1, 1) := by decide +kernel
theorem at_146_335 : ab_at 146 335 = some (.aload_n 1, 1) := by decide +kernel
theorem at_146_336 : ab_at 146 336 = some (.iload 15, 2) := by decide +kernel
theorem at_146_338 : ab_at 146 338 = some (.iconst 1, 1) := by decide +kernel
theorem at_146_339 : ab_at 146 339 = some (.invokevirtual 121, 3) := by decide +kernel
theorem at_146_342 : ab_at 146 342 = some (.invokevirtual 144, 3) := by decide +kernel
theorem at_146_345 : ab_at 146 345 = some (.goto 5, 3) := by decide +kernel
theorem at_146_348 : ab_at 146 348 = some (.bipush (-9), 2) := by decide +kernel
theorem at_146_350 : ab_at 146 350 = some (.istore 19, 2) := by decide +kernel
theorem at_146_352 : ab_at 146 352 = some (.aload_n 1, 1) := by decide +kernel
theorem at_146_353 : ab_at 146 353 = some (.iload 16, 2) := by decide +kernel
theorem at_146_355 : ab_at 146 355 = some (.iconst 2, 1) := by decide +kernel
theorem at_146_356 : ab_at 146 356 = some (.invokevirtual 119, 3) := by decide +kernel
theorem at_146_359 : ab_at 146 359 = some (.ifCond .le 17, 3) := by decide +kernel
theorem at_146_362 : ab_at 146 362 = some (.aload_n 1, 1) := by decide +kernel
theorem at_146_363 : ab_at 146 363 = some (.aload_n 1, 1) := by decide +kernel
theorem at_146_364 : ab_at 146 364 = some (.iload 16, 2) := by decide +kernel
theorem at_146_366 : ab_at 146 366 = some (.iconst 0, 1) := by decide +kernel
theorem at_146_367 : ab_at 146 367 = some (.invokevirtual 121, 3) := by decide +kernel
theorem at_146_370 : ab_at 146 370 = some (.invokevirtual 144, 3) := by decide +kernel
theorem at_146_373 : ab_at 146 373 = some (.goto 5, 3) := by decide +kernel
theorem at_146_376 : ab_at 146 376 = some (.bipush (-9), 2) := by decide +kernel
theorem at_146_378 : ab_at 146 378 = some (.istore 20, 2) := by decide +kernel
theorem at_146_380 : ab_at 146 380 = some (.aload_n 1, 1) := by decide +kernel
theorem at_146_381 : ab_at 146 381 = some (.iload 16, 2) := by decide +kernel
theorem at_146_383 : ab_at 146 383 = some (.iconst 2, 1) := by decide +kernel
theorem at_146_384 : ab_at 146 384 = some (.invokevirtual 119, 3) := by decide +kernel
theorem at_146_387 : ab_at 146 387 = some (.iconst 1, 1) := by decide +kernel
theorem at_146_388 : ab_at 146 388 = some (.if_icmp .le 17, 3) := by decide +kernel
theorem at_146_391 : ab_at 146 391 = some (.aload_n 1, 1) := by decide +kernel
theorem at_146_392 : ab_at 146 392 = some (.aload_n 1, 1) := by decide +kernel
theorem at_146_393 : ab_at 146 393 = some (.iload 16, 2) := by decide +kernel
theorem at_146_395 : ab_at 146 395 = some (.iconst 1, 1) := by decide +kernel
theorem at_146_396 : ab_at 146 396 = some (.invokevirtual 121, 3) := by decide +kernel
theorem at_146_399 : ab_at 146 399 = some (.invokevirtual 144, 3) := by decide +kernel
theorem at_146_402 : ab_at 146 402 = some (.goto 5, 3) := by decide +kernel
theorem at_146_405 : ab_at 146 405 = some (.bipush (-9), 2) := by decide +kernel
theorem at_146_407 : ab_at 146 407 = some (.istore 21, 2) := by decide +kernel
theorem at_146_409 : ab_at 146 409 = some (.iload 18, 2) := by decide +kernel
theorem at_146_411 : ab_at 146 411 = some (.iload 20, 2) := by decide +kernel
theorem at_146_413 : ab_at 146 413 = some (.if_icmp .ne 10, 3) := by decide +kernel
theorem at_146_416 : ab_at 146 416 = some (.iload 19, 2) := by decide +kernel
theorem at_146_418 : ab_at 146 418 = some (.iload 21, 2) := by decide +kernel
theorem at_146_420 : ab_at 146 420 = some (.if_icmp .eq 31, 3) := by decide +kernel
theorem at_146_423 : ab_at 146 423 = some (.iload 17, 2) := by decide +kernel
theorem at_146_425 : ab_at 146 425 = some (.iconst 2, 1) := by decide +kernel
theorem at_146_426 : ab_at 146 426 = some (.if_icmp .eq 9, 3) := by decide +kernel
theorem at_146_429 : ab_at 146 429 = some (.iload 17, 2) := by decide +kernel
theorem at_146_431 : ab_at 146 431 = some (.iconst 3, 1) := by decide +kernel
theorem at_146_432 : ab_at 146 432 = some (.if_icmp .ne 17, 3) := by decide +kernel
theorem at_146_435 : ab_at 146 435 = some (.iload 18, 2) := by decide +kernel
theorem at_146_437 : ab_at 146 437 = some (.iload 21, 2) := by decide +kernel
theorem at_146_439 : ab_at 146 439 = some (.if_icmp .ne 10, 3) := by decide +kernel
theorem at_146_442 : ab_at 146 442 = some (.iload 19, 2) := by decide +kernel
theorem at_146_444 : ab_at 146 444 = some (.iload 20, 2) := by decide +kernel
theorem at_146_446 : ab_at 146 446 = some (.if_icmp .eq 5, 3) := by decide +kernel
theorem at_146_449 : ab_at 146 449 = some (.iconst 0, 1) := by decide +kernel
theorem at_146_450 : ab_at 146 450 = some (.ireturn, 1) := by decide +kernel
theorem at_146_451 : ab_at 146 451 = some (.iconst 0, 1) := by decide +kernel
theorem at_146_452 : ab_at 146 452 = some (.istore 22, 2) := by decide +kernel
theorem at_146_454 : ab_at 146 454 = some (.iload 22, 2) := by decide +kernel
theorem at_146_456 : ab_at 146 456 = some (.iload 13, 2) := by decide +kernel
theorem at_146_458 : ab_at 146 458 = some (.if_icmp .ge 69, 3) := by decide +kernel
theorem at_146_461 : ab_at 146 461 = some (.iconst 0, 1) := by decide +kernel
theorem at_146_462 : ab_at 146 462 = some (.istore 23, 2) := by decide +kernel
theorem at_146_464 : ab_at 146 464 = some (.iload 23, 2) := by decide +kernel
theorem at_146_466 : ab_at 146 466 = some (.iload 15, 2) := by decide +kernel
theorem at_146_468 : ab_at 146 468 = some (.if_icmp .ge 53, 3) := by decide +kernel
theorem at_146_471 : ab_at 146 471 = some (.aload_n 1, 1) := by decide +kernel
theorem at_146_472 : ab_at 146 472 = some (.iload 15, 2) := by decide +kernel
theorem at_146_474 : ab_at 146 474 = some (.iload 22, 2) := by decide +kernel
theorem at_146_476 : ab_at 146 476 = some (.iconst 1, 1) := by decide +kernel
theorem at_146_477 : ab_at 146 477 = some (.iadd, 1) := by decide +kernel
theorem at_146_478 : ab_at 146 478 = some (.invokevirtual 146, 3) := by decide +kernel
theorem at_146_481 : ab_at 146 481 = some (.aload_n 1, 1) := by decide +kernel
theorem at_146_482 : ab_at 146 482 = some (.iload 23, 2) := by decide +kernel
theorem at_146_484 : ab_at 146 484 = some (.iload 22, 2) := by decide +kernel
theorem at_146_486 : ab_at 146 486 = some (.iconst 1, 1) := by decide +kernel
theorem at_146_487 : ab_at 146 487 = some (.iadd, 1) := by decide +kernel
theorem at_146_488 : ab_at 146 488 = some (.invokevirtual 146, 3) := by decide +kernel
theorem at_146_491 : ab_at 146 491 = some (.if_icmp .ne 24, 3) := by decide +kernel
theorem at_146_494 : ab_at 146 494 = some (.aload_n 1, 1) := by decide +kernel
theorem at_146_495 : ab_at 146 495 = some (.iload 15, 2) := by decide +kernel
theorem at_146_497 : ab_at 146 497 = some (.iload 22, 2) := by decide +kernel
theorem at_146_499 : ab_at 146 499 = some (.invokevirtual 146, 3) := by decide +kernel
theorem at_146_502 : ab_at 146 502 = some (.aload_n 1, 1) := by decide +kernel
theorem at_146_503 : ab_at 146 503 = some (.iload 23, 2) := by decide +kernel
theorem at_146_505 : ab_at 146 505 = some (.iload 22, 2) := by decide +kernel
theorem at_146_507 : ab_at 146 507 = some (.invokevirtual 146, 3) := by decide +kernel
theorem at_146_510 : ab_at 146 510 = some (.if_icmp .eq 5, 3) := by decide +kernel
theorem at_146_513 : ab_at 146 513 = some (.iconst 0, 1) := by decide +kernel
theorem at_146_514 : ab_at 146 514 = some (.ireturn, 1) := by decide +kernel
theorem at_146_515 : ab_at 146 515 = some (.iinc 23 1, 3) := by decide +kernel
theorem at_146_518 : ab_at 146 518 = some (.goto (-54), 3) := by decide +kernel
theorem at_146_521 : ab_at 146 521 = some (.iinc 22 1, 3) := by decide +kernel
theorem at_146_524 : ab_at 146 524 = some (.goto (-70), 3) := by decide +kernel
theorem at_146_527 : ab_at 146 527 = some (.aload_n 1, 1) := by decide +kernel
theorem at_146_528 : ab_at 146 528 = some (.iload 15, 2) := by decide +kernel
theorem at_146_530 : ab_at 146 530 = some (.invokevirtual 149, 3) := by decide +kernel
theorem at_146_533 : ab_at 146 533 = some (.istore 22, 2) := by decide +kernel
theorem at_146_535 : ab_at 146 535 = some (.aload_n 1, 1) := by decide +kernel
theorem at_146_536 : ab_at 146 536 = some (.iload 22, 2) := by decide +kernel
theorem at_146_538 : ab_at 146 538 = some (.invokevirtual 144, 3) := by decide +kernel
theorem at_146_541 : ab_at 146 541 = some (.iload 16, 2) := by decide +kernel
theorem at_146_543 : ab_at 146 543 = some (.if_icmp .ne 33, 3) := by decide +kernel
theorem at_146_546 : ab_at 146 546 = some (.iload 22, 2) := by decide +kernel
theorem at_146_548 : ab_at 146 548 = some (.iload 15, 2) := by decide +kernel
theorem at_146_550 : ab_at 146 550 = some (.if_icmp .eq 15, 3) := by decide +kernel
theorem at_146_553 : ab_at 146 553 = some (.aload_n 1, 1) := by decide +kernel
theorem at_146_554 : ab_at 146 554 = some (.iload 22, 2) := by decide +kernel
theorem at_146_556 : ab_at 146 556 = some (.iload 15, 2) := by decide +kernel
theorem at_146_558 : ab_at 146 558 = some (.invokevirtual 152, 3) := by decide +kernel
theorem at_146_561 : ab_at 146 561 = some (.iconst 1, 1) := by decide +kernel
theorem at_146_562 : ab_at 146 562 = some (.if_icmp .ne 14, 3) := by decide +kernel
theorem at_146_565 : ab_at 146 565 = some (.aload_n 1, 1) := by decide +kernel
theorem at_146_566 : ab_at 146 566 = some (.iload 22, 2) := by decide +kernel
theorem at_146_568 : ab_at 146 568 = some (.invokevirtual 149, 3) := by decide +kernel
theorem at_146_571 : ab_at 146 571 = some (.iload 22, 2) := by decide +kernel
theorem at_146_573 : ab_at 146 573 = some (.if_icmp .eq 5, 3) := by decide +kernel
theorem at_146_576 : ab_at 146 576 = some (.iconst 0, 1) := by decide +kernel
theorem at_146_577 : ab_at 146 577 = some (.ireturn, 1) := by decide +kernel
theorem at_146_578 : ab_at 146 578 = some (.iconst 0, 1) := by decide +kernel
theorem at_146_579 : ab_at 146 579 = some (.istore 23, 2) := by decide +kernel
theorem at_146_581 : ab_at 146 581 = some (.iload 23, 2) := by decide +kernel
theorem at_146_583 : ab_at 146 583 = some (.iload 11, 2) := by decide +kernel
theorem at_146_585 : ab_at 146 585 = some (.if_icmp .ge 53, 3) := by decide +kernel
theorem at_146_588 : ab_at 146 588 = some (.aload_n 1, 1) := by decide +kernel
theorem at_146_589 : ab_at 146 589 = some (.iload 23, 2) := by decide +kernel
theorem at_146_591 : ab_at 146 591 = some (.invokevirtual 144, 3) := by decide +kernel
theorem at_146_594 : ab_at 146 594 = some (.iload 16, 2) := by decide +kernel
theorem at_146_596 : ab_at 146 596 = some (.if_icmp .ne 36, 3) := by decide +kernel
theorem at_146_599 : ab_at 146 599 = some (.aload_n 1, 1) := by decide +kernel
theorem at_146_600 : ab_at 146 600 = some (.iload 23, 2) := by decide +kernel
theorem at_146_602 : ab_at 146 602 = some (.iload 15, 2) := by decide +kernel
theorem at_146_604 : ab_at 146 604 = some (.invokevirtual 152, 3) := by decide +kernel
theorem at_146_607 : ab_at 146 607 = some (.iconst 1, 1) := by decide +kernel
theorem at_146_608 : ab_at 146 608 = some (.if_icmp .ne 24, 3) := by decide +kernel
theorem at_146_611 : ab_at 146 611 = some (.iload 23, 2) := by decide +kernel
theorem at_146_613 : ab_at 146 613 = some (.iload 22, 2) := by decide +kernel
theorem at_146_615 : ab_at 146 615 = some (.if_icmp .eq 17, 3) := by decide +kernel
theorem at_146_618 : ab_at 146 618 = some (.aload_n 1, 1) := by decide +kernel
theorem at_146_619 : ab_at 146 619 = some (.iload 22, 2) := by decide +kernel
theorem at_146_621 : ab_at 146 621 = some (.iload 23, 2) := by decide +kernel
theorem at_146_623 : ab_at 146 623 = some (.invokevirtual 152, 3) := by decide +kernel
theorem at_146_626 : ab_at 146 626 = some (.iconst 1, 1) := by decide +kernel
theorem at_146_627 : ab_at 146 627 = some (.if_icmp .eq 5, 3) := by decide +kernel
theorem at_146_630 : ab_at 146 630 = some (.iconst 0, 1) := by decide +kernel
theorem at_146_631 : ab_at 146 631 = some (.ireturn, 1) := by decide +kernel
theorem at_146_632 : ab_at 146 632 = some (.iinc 23 1, 3) := by decide +kernel
theorem at_146_635 : ab_at 146 635 = some (.goto (-54), 3) := by decide +kernel
theorem at_146_638 : ab_at 146 638 = some (.aload_n 1, 1) := by decide +kernel
theorem at_146_639 : ab_at 146 639 = some (.iload 15, 2) := by decide +kernel
theorem at_146_641 : ab_at 146 641 = some (.invokevirtual 154, 3) := by decide +kernel
theorem at_146_644 : ab_at 146 644 = some (.istore 23, 2) := by decide +kernel
theorem at_146_646 : ab_at 146 646 = some (.iload 23, 2) := by decide +kernel
theorem at_146_648 : ab_at 146 648 = some (.ifCond .ge 7, 3) := by decide +kernel
theorem at_146_651 : ab_at 146 651 = some (.iconst 1, 1) := by decide +kernel
theorem at_146_652 : ab_at 146 652 = some (.goto 4, 3) := by decide +kernel
theorem at_146_655 : ab_at 146 655 = some (.iconst 0, 1) := by decide +kernel
theorem at_146_656 : ab_at 146 656 = some (.aload_n 1, 1) := by decide +kernel
theorem at_146_657 : ab_at 146 657 = some (.iload 15, 2) := by decide +kernel
theorem at_146_659 : ab_at 146 659 = some (.invokevirtual 157, 3) := by decide +kernel
theorem at_146_662 : ab_at 146 662 = some (.ldc2_w 100, 3) := by decide +kernel
theorem at_146_665 : ab_at 146 665 = some (.lcmp, 1) := by decide +kernel
theorem at_146_666 : ab_at 146 666 = some (.ifCond .ne 7, 3) := by decide +kernel
theorem at_146_669 : ab_at 146 669 = some (.iconst 1, 1) := by decide +kernel
theorem at_146_670 : ab_at 146 670 = some (.goto 4, 3) := by decide +kernel
theorem at_146_673 : ab_at 146 673 = some (.iconst 0, 1) := by decide +kernel
theorem at_146_674 : ab_at 146 674 = some (.if_icmp .eq 26, 3) := by decide +kernel
theorem at_146_677 : ab_at 146 677 = some (.iload 23, 2) := by decide +kernel
theorem at_146_679 : ab_at 146 679 = some (.iload 15, 2) := by decide +kernel
theorem at_146_681 : ab_at 146 681 = some (.if_icmp .gt 19, 3) := by decide +kernel
theorem at_146_684 : ab_at 146 684 = some (.iload 23, 2) := by decide +kernel
theorem at_146_686 : ab_at 146 686 = some (.ifCond .lt 16, 3) := by decide +kernel
theorem at_146_689 : ab_at 146 689 = some (.aload_n 1, 1) := by decide +kernel
theorem at_146_690 : ab_at 146 690 = some (.iload 23, 2) := by decide +kernel
theorem at_146_692 : ab_at 146 692 = some (.invokevirtual 154, 3) := by decide +kernel
theorem at_146_695 : ab_at 146 695 = some (.iload 23, 2) := by decide +kernel
theorem at_146_697 : ab_at 146 697 = some (.if_icmp .eq 5, 3) := by decide +kernel
theorem at_146_700 : ab_at 146 700 = some (.iconst 0, 1) := by decide +kernel
theorem at_146_701 : ab_at 146 701 = some (.ireturn, 1) := by decide +kernel
theorem at_146_702 : ab_at 146 702 = some (.iinc 15 1, 3) := by decide +kernel
theorem at_146_705 : ab_at 146 705 = some (.goto (-587), 3) := by decide +kernel
theorem at_146_708 : ab_at 146 708 = some (.aload_n 1, 1) := by decide +kernel
theorem at_146_709 : ab_at 146 709 = some (.iconst 0, 1) := by decide +kernel
theorem at_146_710 : ab_at 146 710 = some (.invokevirtual 141, 3) := by decide +kernel
theorem at_146_713 : ab_at 146 713 = some (.iload 14, 2) := by decide +kernel
theorem at_146_715 : ab_at 146 715 = some (.if_icmp .ne 13, 3) := by decide +kernel
theorem at_146_718 : ab_at 146 718 = some (.iload 13, 2) := by decide +kernel
theorem at_146_720 : ab_at 146 720 = some (.ifCond .le 10, 3) := by decide +kernel
theorem at_146_723 : ab_at 146 723 = some (.iload 14, 2) := by decide +kernel
theorem at_146_725 : ab_at 146 725 = some (.ifCond .gt 5, 3) := by decide +kernel
theorem at_146_728 : ab_at 146 728 = some (.iconst 0, 1) := by decide +kernel
theorem at_146_729 : ab_at 146 729 = some (.ireturn, 1) := by decide +kernel
theorem at_146_730 : ab_at 146 730 = some (.aload_n 0, 1) := by decide +kernel
theorem at_146_731 : ab_at 146 731 = some (.bipush 33, 2) := by decide +kernel
theorem at_146_733 : ab_at 146 733 = some (.iload 12, 2) := by decide +kernel
theorem at_146_735 : ab_at 146 735 = some (.iadd, 1) := by decide +kernel
theorem at_146_736 : ab_at 146 736 = some (.invokestatic 73, 3) := by decide +kernel
theorem at_146_739 : ab_at 146 739 = some (.sipush 7919, 3) := by decide +kernel
theorem at_146_742 : ab_at 146 742 = some (.imul, 1) := by decide +kernel
theorem at_146_743 : ab_at 146 743 = some (.istore 15, 2) := by decide +kernel
theorem at_146_745 : ab_at 146 745 = some (.iconst 0, 1) := by decide +kernel
theorem at_146_746 : ab_at 146 746 = some (.istore 16, 2) := by decide +kernel
theorem at_146_748 : ab_at 146 748 = some (.iload 16, 2) := by decide +kernel
theorem at_146_750 : ab_at 146 750 = some (.iload 11, 2) := by decide +kernel
theorem at_146_752 : ab_at 146 752 = some (.if_icmp .ge 115, 3) := by decide +kernel
theorem at_146_755 : ab_at 146 755 = some (.aload_n 1, 1) := by decide +kernel
theorem at_146_756 : ab_at 146 756 = some (.iload 16, 2) := by decide +kernel
theorem at_146_758 : ab_at 146 758 = some (.invokevirtual 154, 3) := by decide +kernel
theorem at_146_761 : ab_at 146 761 = some (.istore 17, 2) := by decide +kernel
theorem at_146_763 : ab_at 146 763 = some (.iload 17, 2) := by decide +kernel
theorem at_146_765 : ab_at 146 765 = some (.ifCond .lt 33, 3) := by decide +kernel
theorem at_146_768 : ab_at 146 768 = some (.aload_n 1, 1) := by decide +kernel
theorem at_146_769 : ab_at 146 769 = some (.iload 17, 2) := by decide +kernel
theorem at_146_771 : ab_at 146 771 = some (.iload 16, 2) := by decide +kernel
theorem at_146_773 : ab_at 146 773 = some (.invokevirtual 152, 3) := by decide +kernel
theorem at_146_776 : ab_at 146 776 = some (.iconst 1, 1) := by decide +kernel
theorem at_146_777 : ab_at 146 777 = some (.if_icmp .ne 21, 3) := by decide +kernel
theorem at_146_780 : ab_at 146 780 = some (.aload_n 1, 1) := by decide +kernel
theorem at_146_781 : ab_at 146 781 = some (.iload 15, 2) := by decide +kernel
theorem at_146_783 : ab_at 146 783 = some (.bipush 9, 2) := by decide +kernel
theorem at_146_785 : ab_at 146 785 = some (.iload 17, 2) := by decide +kernel
theorem at_146_787 : ab_at 146 787 = some (.iload 16, 2) := by decide +kernel
theorem at_146_789 : ab_at 146 789 = some (.iconst 0, 1) := by decide +kernel
theorem at_146_790 : ab_at 146 790 = some (.invokevirtual 160, 3) := by decide +kernel
theorem at_146_793 : ab_at 146 793 = some (.ifCond .eq 5, 3) := by decide +kernel
theorem at_146_796 : ab_at 146 796 = some (.iconst 0, 1) := by decide +kernel
theorem at_146_797 : ab_at 146 797 = some (.ireturn, 1) := by decide +kernel
theorem at_146_798 : ab_at 146 798 = some (.iconst 0, 1) := by decide +kernel
theorem at_146_799 : ab_at 146 799 = some (.istore 18, 2) := by decide +kernel
theorem at_146_801 : ab_at 146 801 = some (.iload 18, 2) := by decide +kernel
theorem at_146_803 : ab_at 146 803 = some (.iload 11, 2) := by decide +kernel
theorem at_146_805 : ab_at 146 805 = some (.if_icmp .ge 56, 3) := by decide +kernel
theorem at_146_808 : ab_at 146 808 = some (.aload_n 1, 1) := by decide +kernel
theorem at_146_809 : ab_at 146 809 = some (.iload 18, 2) := by decide +kernel
theorem at_146_811 : ab_at 146 811 = some (.invokevirtual 144, 3) := by decide +kernel
theorem at_146_814 : ab_at 146 814 = some (.aload_n 1, 1) := by decide +kernel
theorem at_146_815 : ab_at 146 815 = some (.iload 16, 2) := by decide +kernel
theorem at_146_817 : ab_at 146 817 = some (.invokevirtual 144, 3) := by decide +kernel
theorem at_146_820 : ab_at 146 820 = some (.if_icmp .ne 35, 3) := by decide +kernel
theorem at_146_823 : ab_at 146 823 = some (.aload_n 1, 1) := by decide +kernel
theorem at_146_824 : ab_at 146 824 = some (.iload 18, 2) := by decide +kernel
theorem at_146_826 : ab_at 146 826 = some (.iload 16, 2) := by decide +kernel
theorem at_146_828 : ab_at 146 828 = some (.invokevirtual 152, 3) := by decide +kernel
theorem at_146_831 : ab_at 146 831 = some (.iconst 1, 1) := by decide +kernel
theorem at_146_832 : ab_at 146 832 = some (.if_icmp .ne 23, 3) := by decide +kernel
theorem at_146_835 : ab_at 146 835 = some (.aload_n 1, 1) := by decide +kernel
theorem at_146_836 : ab_at 146 836 = some (.iload 15, 2) := by decide +kernel
theorem at_146_838 : ab_at 146 838 = some (.iload 18, 2) := by decide +kernel
theorem at_146_840 : ab_at 146 840 = some (.iadd, 1) := by decide +kernel
theorem at_146_841 : ab_at 146 841 = some (.iconst 5, 1) := by decide +kernel
theorem at_146_842 : ab_at 146 842 = some (.iload 18, 2) := by decide +kernel
theorem at_146_844 : ab_at 146 844 = some (.iload 16, 2) := by decide +kernel
