theorem jd_law_0 : decode code 0 = .ok (.new 9, 3) := by decide +kernel
theorem jd_law_3 : decode code 3 = .ok (.dup, 1) := by decide +kernel
theorem jd_law_4 : decode code 4 = .ok (.invokespecial 11, 3) := by decide +kernel
theorem jd_law_7 : decode code 7 = .ok (.astore_n 1, 1) := by decide +kernel
theorem jd_law_8 : decode code 8 = .ok (.iconst 1, 1) := by decide +kernel
theorem jd_law_9 : decode code 9 = .ok (.istore_n 2, 1) := by decide +kernel
theorem jd_law_10 : decode code 10 = .ok (.iconst 0, 1) := by decide +kernel
theorem jd_law_11 : decode code 11 = .ok (.istore_n 3, 1) := by decide +kernel
theorem jd_law_12 : decode code 12 = .ok (.iconst 0, 1) := by decide +kernel
theorem jd_law_13 : decode code 13 = .ok (.istore 4, 2) := by decide +kernel
theorem jd_law_15 : decode code 15 = .ok (.iload 4, 2) := by decide +kernel
theorem jd_law_17 : decode code 17 = .ok (.bipush 30, 2) := by decide +kernel
theorem jd_law_19 : decode code 19 = .ok (.if_icmp .ge 598, 3) := by decide +kernel
theorem jd_law_22 : decode code 22 = .ok (.aload_n 0, 1) := by decide +kernel
theorem jd_law_23 : decode code 23 = .ok (.iload 4, 2) := by decide +kernel
theorem jd_law_25 : decode code 25 = .ok (.bipush 16, 2) := by decide +kernel
theorem jd_law_27 : decode code 27 = .ok (.irem, 1) := by decide +kernel
theorem jd_law_28 : decode code 28 = .ok (.invokestatic 12, 3) := by decide +kernel
theorem jd_law_31 : decode code 31 = .ok (.iload 4, 2) := by decide +kernel
theorem jd_law_33 : decode code 33 = .ok (.bipush 16, 2) := by decide +kernel
theorem jd_law_35 : decode code 35 = .ok (.idiv, 1) := by decide +kernel
theorem jd_law_36 : decode code 36 = .ok (.iconst 3, 1) := by decide +kernel
theorem jd_law_37 : decode code 37 = .ok (.imul, 1) := by decide +kernel
theorem jd_law_38 : decode code 38 = .ok (.ishr, 1) := by decide +kernel
theorem jd_law_39 : decode code 39 = .ok (.bipush 7, 2) := by decide +kernel
theorem jd_law_41 : decode code 41 = .ok (.iload 4, 2) := by decide +kernel
theorem jd_law_43 : decode code 43 = .ok (.imul, 1) := by decide +kernel
theorem jd_law_44 : decode code 44 = .ok (.iadd, 1) := by decide +kernel
theorem jd_law_45 : decode code 45 = .ok (.istore 5, 2) := by decide +kernel
theorem jd_law_47 : decode code 47 = .ok (.iload 5, 2) := by decide +kernel
theorem jd_law_49 : decode code 49 = .ok (.iconst 2, 1) := by decide +kernel
theorem jd_law_50 : decode code 50 = .ok (.ishr, 1) := by decide +kernel
theorem jd_law_51 : decode code 51 = .ok (.iconst 4, 1) := by decide +kernel
theorem jd_law_52 : decode code 52 = .ok (.invokestatic 18, 3) := by decide +kernel
theorem jd_law_55 : decode code 55 = .ok (.istore 6, 2) := by decide +kernel
theorem jd_law_57 : decode code 57 = .ok (.aload_n 1, 1) := by decide +kernel
theorem jd_law_58 : decode code 58 = .ok (.iconst (-1), 1) := by decide +kernel
theorem jd_law_59 : decode code 59 = .ok (.iload 6, 2) := by decide +kernel
theorem jd_law_61 : decode code 61 = .ok (.invokevirtual 22, 3) := by decide +kernel
theorem jd_law_64 : decode code 64 = .ok (.istore 7, 2) := by decide +kernel
theorem jd_law_66 : decode code 66 = .ok (.iload 5, 2) := by decide +kernel
theorem jd_law_68 : decode code 68 = .ok (.bipush 9, 2) := by decide +kernel
theorem jd_law_70 : decode code 70 = .ok (.invokestatic 18, 3) := by decide +kernel
theorem jd_law_73 : decode code 73 = .ok (.istore 8, 2) := by decide +kernel
theorem jd_law_75 : decode code 75 = .ok (.iload 8, 2) := by decide +kernel
theorem jd_law_77 : decode code 77 = .ok (.iconst 4, 1) := by decide +kernel
theorem jd_law_78 : decode code 78 = .ok (.if_icmp .ge 53, 3) := by decide +kernel
theorem jd_law_81 : decode code 81 = .ok (.iload 7, 2) := by decide +kernel
theorem jd_law_83 : decode code 83 = .ok (.bipush 10, 2) := by decide +kernel
theorem jd_law_85 : decode code 85 = .ok (.if_icmp .ge 46, 3) := by decide +kernel
theorem jd_law_88 : decode code 88 = .ok (.aload_n 1, 1) := by decide +kernel
theorem jd_law_89 : decode code 89 = .ok (.iload 6, 2) := by decide +kernel
theorem jd_law_91 : decode code 91 = .ok (.iload 5, 2) := by decide +kernel
theorem jd_law_93 : decode code 93 = .ok (.iconst 3, 1) := by decide +kernel
theorem jd_law_94 : decode code 94 = .ok (.ishr, 1) := by decide +kernel
theorem jd_law_95 : decode code 95 = .ok (.iconst 0, 1) := by decide +kernel
theorem jd_law_96 : decode code 96 = .ok (.iload 7, 2) := by decide +kernel
theorem jd_law_98 : decode code 98 = .ok (.invokestatic 25, 3) := by decide +kernel
theorem jd_law_101 : decode code 101 = .ok (.iconst 1, 1) := by decide +kernel
theorem jd_law_102 : decode code 102 = .ok (.iadd, 1) := by decide +kernel
theorem jd_law_103 : decode code 103 = .ok (.invokestatic 18, 3) := by decide +kernel
theorem jd_law_106 : decode code 106 = .ok (.iload 5, 2) := by decide +kernel
theorem jd_law_108 : decode code 108 = .ok (.iconst 5, 1) := by decide +kernel
theorem jd_law_109 : decode code 109 = .ok (.ishr, 1) := by decide +kernel
theorem jd_law_110 : decode code 110 = .ok (.bipush 6, 2) := by decide +kernel
theorem jd_law_112 : decode code 112 = .ok (.invokestatic 18, 3) := by decide +kernel
theorem jd_law_115 : decode code 115 = .ok (.invokevirtual 30, 3) := by decide +kernel
theorem jd_law_118 : decode code 118 = .ok (.iconst 0, 1) := by decide +kernel
theorem jd_law_119 : decode code 119 = .ok (.iload 7, 2) := by decide +kernel
theorem jd_law_121 : decode code 121 = .ok (.invokestatic 25, 3) := by decide +kernel
theorem jd_law_124 : decode code 124 = .ok (.iconst 1, 1) := by decide +kernel
theorem jd_law_125 : decode code 125 = .ok (.iadd, 1) := by decide +kernel
theorem jd_law_126 : decode code 126 = .ok (.if_icmp .eq 485, 3) := by decide +kernel
theorem jd_law_129 : decode code 129 = .ok (.iconst 0, 1) := by decide +kernel
theorem jd_law_130 : decode code 130 = .ok (.ireturn, 1) := by decide +kernel
theorem jd_law_131 : decode code 131 = .ok (.iload 8, 2) := by decide +kernel
theorem jd_law_133 : decode code 133 = .ok (.iconst 4, 1) := by decide +kernel
theorem jd_law_134 : decode code 134 = .ok (.if_icmp .ne 62, 3) := by decide +kernel
theorem jd_law_137 : decode code 137 = .ok (.iload 7, 2) := by decide +kernel
theorem jd_law_139 : decode code 139 = .ok (.ifCond .lt 57, 3) := by decide +kernel
theorem jd_law_142 : decode code 142 = .ok (.aload_n 1, 1) := by decide +kernel
theorem jd_law_143 : decode code 143 = .ok (.iconst (-1), 1) := by decide +kernel
theorem jd_law_144 : decode code 144 = .ok (.iload 6, 2) := by decide +kernel
theorem jd_law_146 : decode code 146 = .ok (.iconst 4, 1) := by decide +kernel
theorem jd_law_147 : decode code 147 = .ok (.iadd, 1) := by decide +kernel
theorem jd_law_148 : decode code 148 = .ok (.invokevirtual 22, 3) := by decide +kernel
theorem jd_law_151 : decode code 151 = .ok (.ifCond .ge 45, 3) := by decide +kernel
theorem jd_law_154 : decode code 154 = .ok (.aload_n 1, 1) := by decide +kernel
theorem jd_law_155 : decode code 155 = .ok (.iload 6, 2) := by decide +kernel
theorem jd_law_157 : decode code 157 = .ok (.iload 6, 2) := by decide +kernel
theorem jd_law_159 : decode code 159 = .ok (.iconst 4, 1) := by decide +kernel
theorem jd_law_160 : decode code 160 = .ok (.iadd, 1) := by decide +kernel
theorem jd_law_161 : decode code 161 = .ok (.invokevirtual 34, 3) := by decide +kernel
theorem jd_law_164 : decode code 164 = .ok (.iload 7, 2) := by decide +kernel
theorem jd_law_166 : decode code 166 = .ok (.if_icmp .ne 28, 3) := by decide +kernel
theorem jd_law_169 : decode code 169 = .ok (.aload_n 1, 1) := by decide +kernel
theorem jd_law_170 : decode code 170 = .ok (.iconst (-1), 1) := by decide +kernel
theorem jd_law_171 : decode code 171 = .ok (.iload 6, 2) := by decide +kernel
theorem jd_law_173 : decode code 173 = .ok (.invokevirtual 22, 3) := by decide +kernel
theorem jd_law_176 : decode code 176 = .ok (.iconst (-1), 1) := by decide +kernel
theorem jd_law_177 : decode code 177 = .ok (.if_icmp .ne 17, 3) := by decide +kernel
theorem jd_law_180 : decode code 180 = .ok (.aload_n 1, 1) := by decide +kernel
theorem jd_law_181 : decode code 181 = .ok (.iconst (-1), 1) := by decide +kernel
theorem jd_law_182 : decode code 182 = .ok (.iload 6, 2) := by decide +kernel
theorem jd_law_184 : decode code 184 = .ok (.iconst 4, 1) := by decide +kernel
theorem jd_law_185 : decode code 185 = .ok (.iadd, 1) := by decide +kernel
theorem jd_law_186 : decode code 186 = .ok (.invokevirtual 22, 3) := by decide +kernel
theorem jd_law_189 : decode code 189 = .ok (.iload 7, 2) := by decide +kernel
theorem jd_law_191 : decode code 191 = .ok (.if_icmp .eq 420, 3) := by decide +kernel
theorem jd_law_194 : decode code 194 = .ok (.iconst 0, 1) := by decide +kernel
theorem jd_law_195 : decode code 195 = .ok (.ireturn, 1) := by decide +kernel
theorem jd_law_196 : decode code 196 = .ok (.iload 8, 2) := by decide +kernel
theorem jd_law_198 : decode code 198 = .ok (.bipush 7, 2) := by decide +kernel
theorem jd_law_200 : decode code 200 = .ok (.if_icmp .ge 74, 3) := by decide +kernel
theorem jd_law_203 : decode code 203 = .ok (.aload_n 1, 1) := by decide +kernel
theorem jd_law_204 : decode code 204 = .ok (.invokestatic 37, 3) := by decide +kernel
theorem jd_law_207 : decode code 207 = .ok (.ifCond .ne 67, 3) := by decide +kernel
theorem jd_law_210 : decode code 210 = .ok (.aload_n 1, 1) := by decide +kernel
theorem jd_law_211 : decode code 211 = .ok (.iconst 3, 1) := by decide +kernel
theorem jd_law_212 : decode code 212 = .ok (.invokevirtual 41, 3) := by decide +kernel
theorem jd_law_215 : decode code 215 = .ok (.ifCond .ne 59, 3) := by decide +kernel
theorem jd_law_218 : decode code 218 = .ok (.iload_n 3, 1) := by decide +kernel
theorem jd_law_219 : decode code 219 = .ok (.bipush 30, 2) := by decide +kernel
theorem jd_law_221 : decode code 221 = .ok (.if_icmp .ge 53, 3) := by decide +kernel
theorem jd_law_224 : decode code 224 = .ok (.aload_n 1, 1) := by decide +kernel
theorem jd_law_225 : decode code 225 = .ok (.iload 4, 2) := by decide +kernel
theorem jd_law_227 : decode code 227 = .ok (.invokevirtual 45, 3) := by decide +kernel
theorem jd_law_230 : decode code 230 = .ok (.iload_n 3, 1) := by decide +kernel
theorem jd_law_231 : decode code 231 = .ok (.if_icmp .ne 23, 3) := by decide +kernel
theorem jd_law_234 : decode code 234 = .ok (.aload_n 1, 1) := by decide +kernel
theorem jd_law_235 : decode code 235 = .ok (.invokestatic 37, 3) := by decide +kernel
theorem jd_law_238 : decode code 238 = .ok (.ifCond .eq 16, 3) := by decide +kernel
theorem jd_law_241 : decode code 241 = .ok (.aload_n 1, 1) := by decide +kernel
theorem jd_law_242 : decode code 242 = .ok (.aload_n 1, 1) := by decide +kernel
theorem jd_law_243 : decode code 243 = .ok (.iconst 0, 1) := by decide +kernel
theorem jd_law_244 : decode code 244 = .ok (.invokevirtual 48, 3) := by decide +kernel
theorem jd_law_247 : decode code 247 = .ok (.invokevirtual 51, 3) := by decide +kernel
theorem jd_law_250 : decode code 250 = .ok (.iload_n 3, 1) := by decide +kernel
theorem jd_law_251 : decode code 251 = .ok (.if_icmp .eq 5, 3) := by decide +kernel
theorem jd_law_254 : decode code 254 = .ok (.iconst 0, 1) := by decide +kernel
theorem jd_law_255 : decode code 255 = .ok (.ireturn, 1) := by decide +kernel
theorem jd_law_256 : decode code 256 = .ok (.iinc 3 1, 3) := by decide +kernel
theorem jd_law_259 : decode code 259 = .ok (.iload_n 2, 1) := by decide +kernel
theorem jd_law_260 : decode code 260 = .ok (.iconst 3, 1) := by decide +kernel
theorem jd_law_261 : decode code 261 = .ok (.if_icmp .ge 350, 3) := by decide +kernel
theorem jd_law_264 : decode code 264 = .ok (.aload_n 1, 1) := by decide +kernel
theorem jd_law_265 : decode code 265 = .ok (.invokevirtual 54, 3) := by decide +kernel
theorem jd_law_268 : decode code 268 = .ok (.iconst 1, 1) := by decide +kernel
theorem jd_law_269 : decode code 269 = .ok (.iadd, 1) := by decide +kernel
theorem jd_law_270 : decode code 270 = .ok (.istore_n 2, 1) := by decide +kernel
theorem jd_law_271 : decode code 271 = .ok (.goto 340, 3) := by decide +kernel
theorem jd_law_274 : decode code 274 = .ok (.iload 8, 2) := by decide +kernel
theorem jd_law_276 : decode code 276 = .ok (.bipush 7, 2) := by decide +kernel
theorem jd_law_278 : decode code 278 = .ok (.if_icmp .ne 54, 3) := by decide +kernel
theorem jd_law_281 : decode code 281 = .ok (.aload_n 1, 1) := by decide +kernel
theorem jd_law_282 : decode code 282 = .ok (.invokestatic 37, 3) := by decide +kernel
theorem jd_law_285 : decode code 285 = .ok (.ifCond .eq 47, 3) := by decide +kernel
theorem jd_law_288 : decode code 288 = .ok (.aload_n 1, 1) := by decide +kernel
theorem jd_law_289 : decode code 289 = .ok (.iconst 2, 1) := by decide +kernel
theorem jd_law_290 : decode code 290 = .ok (.invokevirtual 48, 3) := by decide +kernel
theorem jd_law_293 : decode code 293 = .ok (.ifCond .ge 39, 3) := by decide +kernel
theorem jd_law_296 : decode code 296 = .ok (.aload_n 1, 1) := by decide +kernel
theorem jd_law_297 : decode code 297 = .ok (.iconst 0, 1) := by decide +kernel
theorem jd_law_298 : decode code 298 = .ok (.invokevirtual 48, 3) := by decide +kernel
theorem jd_law_301 : decode code 301 = .ok (.istore 9, 2) := by decide +kernel
theorem jd_law_303 : decode code 303 = .ok (.aload_n 1, 1) := by decide +kernel
theorem jd_law_304 : decode code 304 = .ok (.iload 5, 2) := by decide +kernel
theorem jd_law_306 : decode code 306 = .ok (.iconst 4, 1) := by decide +kernel
theorem jd_law_307 : decode code 307 = .ok (.ishr, 1) := by decide +kernel
theorem jd_law_308 : decode code 308 = .ok (.iload_n 2, 1) := by decide +kernel
theorem jd_law_309 : decode code 309 = .ok (.invokestatic 18, 3) := by decide +kernel
theorem jd_law_312 : decode code 312 = .ok (.invokevirtual 58, 3) := by decide +kernel
theorem jd_law_315 : decode code 315 = .ok (.iload 9, 2) := by decide +kernel
theorem jd_law_317 : decode code 317 = .ok (.if_icmp .ne 10, 3) := by decide +kernel
theorem jd_law_320 : decode code 320 = .ok (.aload_n 1, 1) := by decide +kernel
theorem jd_law_321 : decode code 321 = .ok (.invokestatic 37, 3) := by decide +kernel
theorem jd_law_324 : decode code 324 = .ok (.ifCond .ne 5, 3) := by decide +kernel
theorem jd_law_327 : decode code 327 = .ok (.iconst 0, 1) := by decide +kernel
theorem jd_law_328 : decode code 328 = .ok (.ireturn, 1) := by decide +kernel
theorem jd_law_329 : decode code 329 = .ok (.goto 282, 3) := by decide +kernel
theorem jd_law_332 : decode code 332 = .ok (.iload 8, 2) := by decide +kernel
theorem jd_law_334 : decode code 334 = .ok (.bipush 8, 2) := by decide +kernel
theorem jd_law_336 : decode code 336 = .ok (.if_icmp .ne 275, 3) := by decide +kernel
theorem jd_law_339 : decode code 339 = .ok (.iload_n 3, 1) := by decide +kernel
theorem jd_law_340 : decode code 340 = .ok (.ifCond .le 271, 3) := by decide +kernel
theorem jd_law_343 : decode code 343 = .ok (.aload_n 1, 1) := by decide +kernel
theorem jd_law_344 : decode code 344 = .ok (.invokestatic 37, 3) := by decide +kernel
theorem jd_law_347 : decode code 347 = .ok (.ifCond .eq 264, 3) := by decide +kernel
theorem jd_law_350 : decode code 350 = .ok (.aload_n 1, 1) := by decide +kernel
theorem jd_law_351 : decode code 351 = .ok (.iconst 2, 1) := by decide +kernel
theorem jd_law_352 : decode code 352 = .ok (.invokevirtual 48, 3) := by decide +kernel
theorem jd_law_355 : decode code 355 = .ok (.ifCond .ge 256, 3) := by decide +kernel
theorem jd_law_358 : decode code 358 = .ok (.aload_n 1, 1) := by decide +kernel
theorem jd_law_359 : decode code 359 = .ok (.iconst 1, 1) := by decide +kernel
theorem jd_law_360 : decode code 360 = .ok (.invokevirtual 48, 3) := by decide +kernel
theorem jd_law_363 : decode code 363 = .ok (.ifCond .lt 248, 3) := by decide +kernel
theorem jd_law_366 : decode code 366 = .ok (.iload 5, 2) := by decide +kernel
theorem jd_law_368 : decode code 368 = .ok (.iconst 4, 1) := by decide +kernel
theorem jd_law_369 : decode code 369 = .ok (.ishr, 1) := by decide +kernel
theorem jd_law_370 : decode code 370 = .ok (.iload_n 2, 1) := by decide +kernel
theorem jd_law_371 : decode code 371 = .ok (.invokestatic 18, 3) := by decide +kernel
theorem jd_law_374 : decode code 374 = .ok (.istore 9, 2) := by decide +kernel
theorem jd_law_376 : decode code 376 = .ok (.aload_n 1, 1) := by decide +kernel
theorem jd_law_377 : decode code 377 = .ok (.iconst 1, 1) := by decide +kernel
theorem jd_law_378 : decode code 378 = .ok (.invokevirtual 48, 3) := by decide +kernel
theorem jd_law_381 : decode code 381 = .ok (.istore 10, 2) := by decide +kernel
theorem jd_law_383 : decode code 383 = .ok (.aload_n 1, 1) := by decide +kernel
theorem jd_law_384 : decode code 384 = .ok (.iload 10, 2) := by decide +kernel
theorem jd_law_386 : decode code 386 = .ok (.aload_n 1, 1) := by decide +kernel
theorem jd_law_387 : decode code 387 = .ok (.iload 9, 2) := by decide +kernel
theorem jd_law_389 : decode code 389 = .ok (.invokevirtual 51, 3) := by decide +kernel
theorem jd_law_392 : decode code 392 = .ok (.invokevirtual 61, 3) := by decide +kernel
theorem jd_law_395 : decode code 395 = .ok (.istore 11, 2) := by decide +kernel
theorem jd_law_397 : decode code 397 = .ok (.aload_n 1, 1) := by decide +kernel
theorem jd_law_398 : decode code 398 = .ok (.iload 10, 2) := by decide +kernel
theorem jd_law_400 : decode code 400 = .ok (.aload_n 1, 1) := by decide +kernel
theorem jd_law_401 : decode code 401 = .ok (.iload 9, 2) := by decide +kernel
theorem jd_law_403 : decode code 403 = .ok (.invokevirtual 51, 3) := by decide +kernel
theorem jd_law_406 : decode code 406 = .ok (.invokevirtual 64, 3) := by decide +kernel
theorem jd_law_409 : decode code 409 = .ok (.istore 12, 2) := by decide +kernel
theorem jd_law_411 : decode code 411 = .ok (.aload_n 1, 1) := by decide +kernel
theorem jd_law_412 : decode code 412 = .ok (.iload 9, 2) := by decide +kernel
theorem jd_law_414 : decode code 414 = .ok (.invokevirtual 67, 3) := by decide +kernel
theorem jd_law_417 : decode code 417 = .ok (.istore 13, 2) := by decide +kernel
theorem jd_law_419 : decode code 419 = .ok (.iload 13, 2) := by decide +kernel
theorem jd_law_421 : decode code 421 = .ok (.iconst (-1), 1) := by decide +kernel
theorem jd_law_422 : decode code 422 = .ok (.if_icmp .ne 7, 3) := by decide +kernel
theorem jd_law_425 : decode code 425 = .ok (.iconst 1, 1) := by decide +kernel
theorem jd_law_426 : decode code 426 = .ok (.goto 4, 3) := by decide +kernel
theorem jd_law_429 : decode code 429 = .ok (.iconst 0, 1) := by decide +kernel
theorem jd_law_430 : decode code 430 = .ok (.iload 12, 2) := by decide +kernel
theorem jd_law_432 : decode code 432 = .ok (.aload_n 1, 1) := by decide +kernel
theorem jd_law_433 : decode code 433 = .ok (.iload 9, 2) := by decide +kernel
theorem jd_law_435 : decode code 435 = .ok (.invokevirtual 51, 3) := by decide +kernel
theorem jd_law_438 : decode code 438 = .ok (.if_icmp .ne 7, 3) := by decide +kernel
theorem jd_law_441 : decode code 441 = .ok (.iconst 1, 1) := by decide +kernel
theorem jd_law_442 : decode code 442 = .ok (.goto 4, 3) := by decide +kernel
theorem jd_law_445 : decode code 445 = .ok (.iconst 0, 1) := by decide +kernel
theorem jd_law_446 : decode code 446 = .ok (.if_icmp .ne 88, 3) := by decide +kernel
theorem jd_law_449 : decode code 449 = .ok (.iload 13, 2) := by decide +kernel
theorem jd_law_451 : decode code 451 = .ok (.bipush (-2), 2) := by decide +kernel
theorem jd_law_453 : decode code 453 = .ok (.if_icmp .ne 7, 3) := by decide +kernel
theorem jd_law_456 : decode code 456 = .ok (.iconst 1, 1) := by decide +kernel
theorem jd_law_457 : decode code 457 = .ok (.goto 4, 3) := by decide +kernel
theorem jd_law_460 : decode code 460 = .ok (.iconst 0, 1) := by decide +kernel
theorem jd_law_461 : decode code 461 = .ok (.iload 12, 2) := by decide +kernel
theorem jd_law_463 : decode code 463 = .ok (.iload 10, 2) := by decide +kernel
theorem jd_law_465 : decode code 465 = .ok (.if_icmp .ne 18, 3) := by decide +kernel
theorem jd_law_468 : decode code 468 = .ok (.iload 12, 2) := by decide +kernel
theorem jd_law_470 : decode code 470 = .ok (.aload_n 1, 1) := by decide +kernel
theorem jd_law_471 : decode code 471 = .ok (.iload 9, 2) := by decide +kernel
theorem jd_law_473 : decode code 473 = .ok (.invokevirtual 51, 3) := by decide +kernel
theorem jd_law_476 : decode code 476 = .ok (.if_icmp .eq 7, 3) := by decide +kernel
theorem jd_law_479 : decode code 479 = .ok (.iconst 1, 1) := by decide +kernel
theorem jd_law_480 : decode code 480 = .ok (.goto 4, 3) := by decide +kernel
theorem jd_law_483 : decode code 483 = .ok (.iconst 0, 1) := by decide +kernel
theorem jd_law_484 : decode code 484 = .ok (.if_icmp .ne 50, 3) := by decide +kernel
theorem jd_law_487 : decode code 487 = .ok (.iload 13, 2) := by decide +kernel
theorem jd_law_489 : decode code 489 = .ok (.ifCond .lt 24, 3) := by decide +kernel
theorem jd_law_492 : decode code 492 = .ok (.iload 13, 2) := by decide +kernel
theorem jd_law_494 : decode code 494 = .ok (.iload 11, 2) := by decide +kernel
theorem jd_law_496 : decode code 496 = .ok (.if_icmp .ne 38, 3) := by decide +kernel
theorem jd_law_499 : decode code 499 = .ok (.aload_n 1, 1) := by decide +kernel
theorem jd_law_500 : decode code 500 = .ok (.iconst 2, 1) := by decide +kernel
theorem jd_law_501 : decode code 501 = .ok (.invokevirtual 48, 3) := by decide +kernel
theorem jd_law_504 : decode code 504 = .ok (.aload_n 1, 1) := by decide +kernel
theorem jd_law_505 : decode code 505 = .ok (.iload 9, 2) := by decide +kernel
theorem jd_law_507 : decode code 507 = .ok (.invokevirtual 51, 3) := by decide +kernel
theorem jd_law_510 : decode code 510 = .ok (.if_icmp .ne 24, 3) := by decide +kernel
theorem jd_law_513 : decode code 513 = .ok (.iload 13, 2) := by decide +kernel
theorem jd_law_515 : decode code 515 = .ok (.bipush (-2), 2) := by decide +kernel
theorem jd_law_517 : decode code 517 = .ok (.if_icmp .ne 19, 3) := by decide +kernel
theorem jd_law_520 : decode code 520 = .ok (.aload_n 1, 1) := by decide +kernel
theorem jd_law_521 : decode code 521 = .ok (.iconst 1, 1) := by decide +kernel
theorem jd_law_522 : decode code 522 = .ok (.invokevirtual 48, 3) := by decide +kernel
theorem jd_law_525 : decode code 525 = .ok (.aload_n 1, 1) := by decide +kernel
theorem jd_law_526 : decode code 526 = .ok (.iload 9, 2) := by decide +kernel
theorem jd_law_528 : decode code 528 = .ok (.invokevirtual 51, 3) := by decide +kernel
theorem jd_law_531 : decode code 531 = .ok (.if_icmp .eq 5, 3) := by decide +kernel
theorem jd_law_534 : decode code 534 = .ok (.iconst 0, 1) := by decide +kernel
theorem jd_law_535 : decode code 535 = .ok (.ireturn, 1) := by decide +kernel
theorem jd_law_536 : decode code 536 = .ok (.iconst 0, 1) := by decide +kernel
theorem jd_law_537 : decode code 537 = .ok (.istore 14, 2) := by decide +kernel
theorem jd_law_539 : decode code 539 = .ok (.iload 14, 2) := by decide +kernel
theorem jd_law_541 : decode code 541 = .ok (.aload_n 1, 1) := by decide +kernel
theorem jd_law_542 : decode code 542 = .ok (.iconst 3, 1) := by decide +kernel
theorem jd_law_543 : decode code 543 = .ok (.invokevirtual 41, 3) := by decide +kernel
theorem jd_law_546 : decode code 546 = .ok (.if_icmp .ge 48, 3) := by decide +kernel
theorem jd_law_549 : decode code 549 = .ok (.aload_n 1, 1) := by decide +kernel
theorem jd_law_550 : decode code 550 = .ok (.iload 14, 2) := by decide +kernel
theorem jd_law_552 : decode code 552 = .ok (.iconst 0, 1) := by decide +kernel
theorem jd_law_553 : decode code 553 = .ok (.invokevirtual 70, 3) := by decide +kernel
theorem jd_law_556 : decode code 556 = .ok (.iconst 1, 1) := by decide +kernel
theorem jd_law_557 : decode code 557 = .ok (.if_icmp .lt 29, 3) := by decide +kernel
theorem jd_law_560 : decode code 560 = .ok (.aload_n 1, 1) := by decide +kernel
theorem jd_law_561 : decode code 561 = .ok (.iload 14, 2) := by decide +kernel
theorem jd_law_563 : decode code 563 = .ok (.iconst 0, 1) := by decide +kernel
theorem jd_law_564 : decode code 564 = .ok (.invokevirtual 70, 3) := by decide +kernel
theorem jd_law_567 : decode code 567 = .ok (.iconst 5, 1) := by decide +kernel
theorem jd_law_568 : decode code 568 = .ok (.if_icmp .gt 18, 3) := by decide +kernel
theorem jd_law_571 : decode code 571 = .ok (.aload_n 1, 1) := by decide +kernel
theorem jd_law_572 : decode code 572 = .ok (.iconst (-1), 1) := by decide +kernel
theorem jd_law_573 : decode code 573 = .ok (.aload_n 1, 1) := by decide +kernel
theorem jd_law_574 : decode code 574 = .ok (.iload 14, 2) := by decide +kernel
theorem jd_law_576 : decode code 576 = .ok (.iconst 1, 1) := by decide +kernel
theorem jd_law_577 : decode code 577 = .ok (.invokevirtual 70, 3) := by decide +kernel
theorem jd_law_580 : decode code 580 = .ok (.invokevirtual 22, 3) := by decide +kernel
theorem jd_law_583 : decode code 583 = .ok (.ifCond .ge 5, 3) := by decide +kernel
theorem jd_law_586 : decode code 586 = .ok (.iconst 0, 1) := by decide +kernel
theorem jd_law_587 : decode code 587 = .ok (.ireturn, 1) := by decide +kernel
theorem jd_law_588 : decode code 588 = .ok (.iinc 14 1, 3) := by decide +kernel
theorem jd_law_591 : decode code 591 = .ok (.goto (-52), 3) := by decide +kernel
theorem jd_law_594 : decode code 594 = .ok (.aload_n 1, 1) := by decide +kernel
theorem jd_law_595 : decode code 595 = .ok (.iconst 3, 1) := by decide +kernel
theorem jd_law_596 : decode code 596 = .ok (.invokevirtual 41, 3) := by decide +kernel
theorem jd_law_599 : decode code 599 = .ok (.ifCond .le 12, 3) := by decide +kernel
theorem jd_law_602 : decode code 602 = .ok (.aload_n 1, 1) := by decide +kernel
theorem jd_law_603 : decode code 603 = .ok (.iconst 0, 1) := by decide +kernel
theorem jd_law_604 : decode code 604 = .ok (.invokevirtual 73, 3) := by decide +kernel
theorem jd_law_607 : decode code 607 = .ok (.pop, 1) := by decide +kernel
theorem jd_law_608 : decode code 608 = .ok (.goto (-14), 3) := by decide +kernel
theorem jd_law_611 : decode code 611 = .ok (.iinc 4 1, 3) := by decide +kernel
theorem jd_law_614 : decode code 614 = .ok (.goto (-599), 3) := by decide +kernel
theorem jd_law_617 : decode code 617 = .ok (.aload_n 1, 1) := by decide +kernel
theorem jd_law_618 : decode code 618 = .ok (.invokevirtual 76, 3) := by decide +kernel
theorem jd_law_621 : decode code 621 = .ok (.lstore 4, 2) := by decide +kernel
theorem jd_law_623 : decode code 623 = .ok (.iconst 0, 1) := by decide +kernel
theorem jd_law_624 : decode code 624 = .ok (.istore 6, 2) := by decide +kernel
theorem jd_law_626 : decode code 626 = .ok (.iload 6, 2) := by decide +kernel
theorem jd_law_628 : decode code 628 = .ok (.iload_n 3, 1) := by decide +kernel
theorem jd_law_629 : decode code 629 = .ok (.if_icmp .ge 389, 3) := by decide +kernel
theorem jd_law_632 : decode code 632 = .ok (.aload_n 1, 1) := by decide +kernel
theorem jd_law_633 : decode code 633 = .ok (.iload 6, 2) := by decide +kernel
theorem jd_law_635 : decode code 635 = .ok (.iconst 0, 1) := by decide +kernel
theorem jd_law_636 : decode code 636 = .ok (.invokevirtual 80, 3) := by decide +kernel
theorem jd_law_639 : decode code 639 = .ok (.istore 7, 2) := by decide +kernel
theorem jd_law_641 : decode code 641 = .ok (.aload_n 1, 1) := by decide +kernel
theorem jd_law_642 : decode code 642 = .ok (.iload 6, 2) := by decide +kernel
theorem jd_law_644 : decode code 644 = .ok (.iconst 1, 1) := by decide +kernel
theorem jd_law_645 : decode code 645 = .ok (.invokevirtual 80, 3) := by decide +kernel
theorem jd_law_648 : decode code 648 = .ok (.istore 8, 2) := by decide +kernel
theorem jd_law_650 : decode code 650 = .ok (.iload 7, 2) := by decide +kernel
theorem jd_law_652 : decode code 652 = .ok (.iload 6, 2) := by decide +kernel
theorem jd_law_654 : decode code 654 = .ok (.if_icmp .ge 88, 3) := by decide +kernel
theorem jd_law_657 : decode code 657 = .ok (.iload 8, 2) := by decide +kernel
theorem jd_law_659 : decode code 659 = .ok (.iload 6, 2) := by decide +kernel
theorem jd_law_661 : decode code 661 = .ok (.if_icmp .ge 81, 3) := by decide +kernel
theorem jd_law_664 : decode code 664 = .ok (.aload_n 1, 1) := by decide +kernel
theorem jd_law_665 : decode code 665 = .ok (.iload 6, 2) := by decide +kernel
theorem jd_law_667 : decode code 667 = .ok (.iconst 4, 1) := by decide +kernel
theorem jd_law_668 : decode code 668 = .ok (.invokevirtual 80, 3) := by decide +kernel
theorem jd_law_671 : decode code 671 = .ok (.iconst 1, 1) := by decide +kernel
theorem jd_law_672 : decode code 672 = .ok (.if_icmp .lt 70, 3) := by decide +kernel
theorem jd_law_675 : decode code 675 = .ok (.aload_n 1, 1) := by decide +kernel
theorem jd_law_676 : decode code 676 = .ok (.iload 6, 2) := by decide +kernel
theorem jd_law_678 : decode code 678 = .ok (.iconst 4, 1) := by decide +kernel
theorem jd_law_679 : decode code 679 = .ok (.invokevirtual 80, 3) := by decide +kernel
theorem jd_law_682 : decode code 682 = .ok (.iload 6, 2) := by decide +kernel
theorem jd_law_684 : decode code 684 = .ok (.iconst 1, 1) := by decide +kernel
theorem jd_law_685 : decode code 685 = .ok (.iadd, 1) := by decide +kernel
theorem jd_law_686 : decode code 686 = .ok (.if_icmp .gt 56, 3) := by decide +kernel
theorem jd_law_689 : decode code 689 = .ok (.aload_n 1, 1) := by decide +kernel
theorem jd_law_690 : decode code 690 = .ok (.iload 6, 2) := by decide +kernel
theorem jd_law_692 : decode code 692 = .ok (.iload 6, 2) := by decide +kernel
theorem jd_law_694 : decode code 694 = .ok (.invokevirtual 64, 3) := by decide +kernel
theorem jd_law_697 : decode code 697 = .ok (.iload 6, 2) := by decide +kernel
theorem jd_law_699 : decode code 699 = .ok (.if_icmp .ne 43, 3) := by decide +kernel
theorem jd_law_702 : decode code 702 = .ok (.iload 7, 2) := by decide +kernel
theorem jd_law_704 : decode code 704 = .ok (.ifCond .lt 27, 3) := by decide +kernel
theorem jd_law_707 : decode code 707 = .ok (.aload_n 1, 1) := by decide +kernel
theorem jd_law_708 : decode code 708 = .ok (.iload 7, 2) := by decide +kernel
theorem jd_law_710 : decode code 710 = .ok (.iload 6, 2) := by decide +kernel
theorem jd_law_712 : decode code 712 = .ok (.invokevirtual 64, 3) := by decide +kernel
theorem jd_law_715 : decode code 715 = .ok (.iload 7, 2) := by decide +kernel
theorem jd_law_717 : decode code 717 = .ok (.if_icmp .ne 25, 3) := by decide +kernel
theorem jd_law_720 : decode code 720 = .ok (.aload_n 1, 1) := by decide +kernel
theorem jd_law_721 : decode code 721 = .ok (.iload 7, 2) := by decide +kernel
theorem jd_law_723 : decode code 723 = .ok (.iload 6, 2) := by decide +kernel
theorem jd_law_725 : decode code 725 = .ok (.invokevirtual 61, 3) := by decide +kernel
theorem jd_law_728 : decode code 728 = .ok (.ifCond .lt 14, 3) := by decide +kernel
theorem jd_law_731 : decode code 731 = .ok (.aload_n 1, 1) := by decide +kernel
theorem jd_law_732 : decode code 732 = .ok (.iload 6, 2) := by decide +kernel
theorem jd_law_734 : decode code 734 = .ok (.iload 6, 2) := by decide +kernel
theorem jd_law_736 : decode code 736 = .ok (.invokevirtual 61, 3) := by decide +kernel
theorem jd_law_739 : decode code 739 = .ok (.ifCond .eq 5, 3) := by decide +kernel
theorem jd_law_742 : decode code 742 = .ok (.iconst 0, 1) := by decide +kernel
theorem jd_law_743 : decode code 743 = .ok (.ireturn, 1) := by decide +kernel
theorem jd_law_744 : decode code 744 = .ok (.iconst 0, 1) := by decide +kernel
theorem jd_law_745 : decode code 745 = .ok (.istore 9, 2) := by decide +kernel
theorem jd_law_747 : decode code 747 = .ok (.iload 9, 2) := by decide +kernel
theorem jd_law_749 : decode code 749 = .ok (.bipush 12, 2) := by decide +kernel
theorem jd_law_751 : decode code 751 = .ok (.if_icmp .ge 187, 3) := by decide +kernel
theorem jd_law_754 : decode code 754 = .ok (.aload_n 1, 1) := by decide +kernel
theorem jd_law_755 : decode code 755 = .ok (.iload 6, 2) := by decide +kernel
theorem jd_law_757 : decode code 757 = .ok (.iload 9, 2) := by decide +kernel
theorem jd_law_759 : decode code 759 = .ok (.invokevirtual 22, 3) := by decide +kernel
theorem jd_law_762 : decode code 762 = .ok (.istore 10, 2) := by decide +kernel
theorem jd_law_764 : decode code 764 = .ok (.iload 10, 2) := by decide +kernel
theorem jd_law_766 : decode code 766 = .ok (.ifCond .ge 6, 3) := by decide +kernel
theorem jd_law_769 : decode code 769 = .ok (.goto 163, 3) := by decide +kernel
theorem jd_law_772 : decode code 772 = .ok (.aload_n 1, 1) := by decide +kernel
theorem jd_law_773 : decode code 773 = .ok (.iload 6, 2) := by decide +kernel
theorem jd_law_775 : decode code 775 = .ok (.iload 6, 2) := by decide +kernel
theorem jd_law_777 : decode code 777 = .ok (.iload 9, 2) := by decide +kernel
theorem jd_law_779 : decode code 779 = .ok (.invokevirtual 83, 3) := by decide +kernel
theorem jd_law_782 : decode code 782 = .ok (.iload 9, 2) := by decide +kernel
theorem jd_law_784 : decode code 784 = .ok (.if_icmp .ne 20, 3) := by decide +kernel
theorem jd_law_787 : decode code 787 = .ok (.aload_n 1, 1) := by decide +kernel
theorem jd_law_788 : decode code 788 = .ok (.iload 6, 2) := by decide +kernel
theorem jd_law_790 : decode code 790 = .ok (.iload 9, 2) := by decide +kernel
theorem jd_law_792 : decode code 792 = .ok (.iload 6, 2) := by decide +kernel
theorem jd_law_794 : decode code 794 = .ok (.iload 9, 2) := by decide +kernel
theorem jd_law_796 : decode code 796 = .ok (.invokevirtual 86, 3) := by decide +kernel
theorem jd_law_799 : decode code 799 = .ok (.bipush 100, 2) := by decide +kernel
theorem jd_law_801 : decode code 801 = .ok (.if_icmp .eq 5, 3) := by decide +kernel
theorem jd_law_804 : decode code 804 = .ok (.iconst 0, 1) := by decide +kernel
theorem jd_law_805 : decode code 805 = .ok (.ireturn, 1) := by decide +kernel
theorem jd_law_806 : decode code 806 = .ok (.iconst 0, 1) := by decide +kernel
theorem jd_law_807 : decode code 807 = .ok (.istore 11, 2) := by decide +kernel
theorem jd_law_809 : decode code 809 = .ok (.iload 11, 2) := by decide +kernel
theorem jd_law_811 : decode code 811 = .ok (.iload 10, 2) := by decide +kernel
theorem jd_law_813 : decode code 813 = .ok (.if_icmp .ge 43, 3) := by decide +kernel
theorem jd_law_816 : decode code 816 = .ok (.aload_n 1, 1) := by decide +kernel
theorem jd_law_817 : decode code 817 = .ok (.iload 6, 2) := by decide +kernel
theorem jd_law_819 : decode code 819 = .ok (.iload 9, 2) := by decide +kernel
theorem jd_law_821 : decode code 821 = .ok (.iload 11, 2) := by decide +kernel
theorem jd_law_823 : decode code 823 = .ok (.invokevirtual 90, 3) := by decide +kernel
theorem jd_law_826 : decode code 826 = .ok (.istore 12, 2) := by decide +kernel
theorem jd_law_828 : decode code 828 = .ok (.iload 12, 2) := by decide +kernel
theorem jd_law_830 : decode code 830 = .ok (.iload 6, 2) := by decide +kernel
theorem jd_law_832 : decode code 832 = .ok (.if_icmp .gt 16, 3) := by decide +kernel
theorem jd_law_835 : decode code 835 = .ok (.aload_n 1, 1) := by decide +kernel
theorem jd_law_836 : decode code 836 = .ok (.iload 12, 2) := by decide +kernel
theorem jd_law_838 : decode code 838 = .ok (.iload 6, 2) := by decide +kernel
theorem jd_law_840 : decode code 840 = .ok (.invokevirtual 64, 3) := by decide +kernel
theorem jd_law_843 : decode code 843 = .ok (.iload 12, 2) := by decide +kernel
theorem jd_law_845 : decode code 845 = .ok (.if_icmp .eq 5, 3) := by decide +kernel
theorem jd_law_848 : decode code 848 = .ok (.iconst 0, 1) := by decide +kernel
theorem jd_law_849 : decode code 849 = .ok (.ireturn, 1) := by decide +kernel
theorem jd_law_850 : decode code 850 = .ok (.iinc 11 1, 3) := by decide +kernel
theorem jd_law_853 : decode code 853 = .ok (.goto (-44), 3) := by decide +kernel
theorem jd_law_856 : decode code 856 = .ok (.iload 7, 2) := by decide +kernel
theorem jd_law_858 : decode code 858 = .ok (.ifCond .ge 8, 3) := by decide +kernel
theorem jd_law_861 : decode code 861 = .ok (.bipush (-2), 2) := by decide +kernel
theorem jd_law_863 : decode code 863 = .ok (.goto 13, 3) := by decide +kernel
theorem jd_law_866 : decode code 866 = .ok (.aload_n 1, 1) := by decide +kernel
theorem jd_law_867 : decode code 867 = .ok (.iload 7, 2) := by decide +kernel
theorem jd_law_869 : decode code 869 = .ok (.iload 6, 2) := by decide +kernel
theorem jd_law_871 : decode code 871 = .ok (.iload 9, 2) := by decide +kernel
theorem jd_law_873 : decode code 873 = .ok (.invokevirtual 83, 3) := by decide +kernel
theorem jd_law_876 : decode code 876 = .ok (.istore 11, 2) := by decide +kernel
theorem jd_law_878 : decode code 878 = .ok (.iload 11, 2) := by decide +kernel
theorem jd_law_880 : decode code 880 = .ok (.ifCond .lt 14, 3) := by decide +kernel
theorem jd_law_883 : decode code 883 = .ok (.aload_n 1, 1) := by decide +kernel
theorem jd_law_884 : decode code 884 = .ok (.iload 6, 2) := by decide +kernel
theorem jd_law_886 : decode code 886 = .ok (.iload 11, 2) := by decide +kernel
theorem jd_law_888 : decode code 888 = .ok (.invokevirtual 22, 3) := by decide +kernel
theorem jd_law_891 : decode code 891 = .ok (.ifCond .lt 39, 3) := by decide +kernel
theorem jd_law_894 : decode code 894 = .ok (.iload 7, 2) := by decide +kernel
theorem jd_law_896 : decode code 896 = .ok (.ifCond .lt 36, 3) := by decide +kernel
theorem jd_law_899 : decode code 899 = .ok (.iload 11, 2) := by decide +kernel
theorem jd_law_901 : decode code 901 = .ok (.bipush (-2), 2) := by decide +kernel
theorem jd_law_903 : decode code 903 = .ok (.if_icmp .ne 7, 3) := by decide +kernel
theorem jd_law_906 : decode code 906 = .ok (.iconst 1, 1) := by decide +kernel
theorem jd_law_907 : decode code 907 = .ok (.goto 4, 3) := by decide +kernel
theorem jd_law_910 : decode code 910 = .ok (.iconst 0, 1) := by decide +kernel
theorem jd_law_911 : decode code 911 = .ok (.aload_n 1, 1) := by decide +kernel
theorem jd_law_912 : decode code 912 = .ok (.iload 7, 2) := by decide +kernel
theorem jd_law_914 : decode code 914 = .ok (.iload 9, 2) := by decide +kernel
theorem jd_law_916 : decode code 916 = .ok (.invokevirtual 22, 3) := by decide +kernel
theorem jd_law_919 : decode code 919 = .ok (.ifCond .ge 7, 3) := by decide +kernel
theorem jd_law_922 : decode code 922 = .ok (.iconst 1, 1) := by decide +kernel
theorem jd_law_923 : decode code 923 = .ok (.goto 4, 3) := by decide +kernel
theorem jd_law_926 : decode code 926 = .ok (.iconst 0, 1) := by decide +kernel
theorem jd_law_927 : decode code 927 = .ok (.if_icmp .eq 5, 3) := by decide +kernel
theorem jd_law_930 : decode code 930 = .ok (.iconst 0, 1) := by decide +kernel
theorem jd_law_931 : decode code 931 = .ok (.ireturn, 1) := by decide +kernel
theorem jd_law_932 : decode code 932 = .ok (.iinc 9 1, 3) := by decide +kernel
theorem jd_law_935 : decode code 935 = .ok (.goto (-188), 3) := by decide +kernel
theorem jd_law_938 : decode code 938 = .ok (.iconst 0, 1) := by decide +kernel
theorem jd_law_939 : decode code 939 = .ok (.istore 9, 2) := by decide +kernel
theorem jd_law_941 : decode code 941 = .ok (.iload 9, 2) := by decide +kernel
theorem jd_law_943 : decode code 943 = .ok (.iload_n 3, 1) := by decide +kernel
theorem jd_law_944 : decode code 944 = .ok (.if_icmp .ge 68, 3) := by decide +kernel
theorem jd_law_947 : decode code 947 = .ok (.aload_n 1, 1) := by decide +kernel
theorem jd_law_948 : decode code 948 = .ok (.iload 6, 2) := by decide +kernel
theorem jd_law_950 : decode code 950 = .ok (.iload 9, 2) := by decide +kernel
theorem jd_law_952 : decode code 952 = .ok (.invokevirtual 64, 3) := by decide +kernel
theorem jd_law_955 : decode code 955 = .ok (.aload_n 1, 1) := by decide +kernel
theorem jd_law_956 : decode code 956 = .ok (.iload 9, 2) := by decide +kernel
theorem jd_law_958 : decode code 958 = .ok (.iload 6, 2) := by decide +kernel
theorem jd_law_960 : decode code 960 = .ok (.invokevirtual 64, 3) := by decide +kernel
theorem jd_law_963 : decode code 963 = .ok (.if_icmp .ne 41, 3) := by decide +kernel
theorem jd_law_966 : decode code 966 = .ok (.aload_n 1, 1) := by decide +kernel
theorem jd_law_967 : decode code 967 = .ok (.iload 6, 2) := by decide +kernel
theorem jd_law_969 : decode code 969 = .ok (.iload 9, 2) := by decide +kernel
theorem jd_law_971 : decode code 971 = .ok (.invokevirtual 64, 3) := by decide +kernel
theorem jd_law_974 : decode code 974 = .ok (.iload 6, 2) := by decide +kernel
theorem jd_law_976 : decode code 976 = .ok (.iload 9, 2) := by decide +kernel
theorem jd_law_978 : decode code 978 = .ok (.invokestatic 93, 3) := by decide +kernel
theorem jd_law_981 : decode code 981 = .ok (.if_icmp .gt 23, 3) := by decide +kernel
theorem jd_law_984 : decode code 984 = .ok (.aload_n 1, 1) := by decide +kernel
theorem jd_law_985 : decode code 985 = .ok (.iload 6, 2) := by decide +kernel
theorem jd_law_987 : decode code 987 = .ok (.iload 9, 2) := by decide +kernel
theorem jd_law_989 : decode code 989 = .ok (.iconst 2, 1) := by decide +kernel
theorem jd_law_990 : decode code 990 = .ok (.invokevirtual 96, 3) := by decide +kernel
theorem jd_law_993 : decode code 993 = .ok (.aload_n 1, 1) := by decide +kernel
theorem jd_law_994 : decode code 994 = .ok (.iload 6, 2) := by decide +kernel
theorem jd_law_996 : decode code 996 = .ok (.iload 9, 2) := by decide +kernel
theorem jd_law_998 : decode code 998 = .ok (.invokestatic 99, 3) := by decide +kernel
theorem jd_law_1001 : decode code 1001 = .ok (.if_icmp .eq 5, 3) := by decide +kernel
theorem jd_law_1004 : decode code 1004 = .ok (.iconst 0, 1) := by decide +kernel
theorem jd_law_1005 : decode code 1005 = .ok (.ireturn, 1) := by decide +kernel
theorem jd_law_1006 : decode code 1006 = .ok (.iinc 9 1, 3) := by decide +kernel
theorem jd_law_1009 : decode code 1009 = .ok (.goto (-68), 3) := by decide +kernel
theorem jd_law_1012 : decode code 1012 = .ok (.iinc 6 1, 3) := by decide +kernel
theorem jd_law_1015 : decode code 1015 = .ok (.goto (-389), 3) := by decide +kernel
theorem jd_law_1018 : decode code 1018 = .ok (.aload_n 1, 1) := by decide +kernel
theorem jd_law_1019 : decode code 1019 = .ok (.invokevirtual 103, 3) := by decide +kernel
theorem jd_law_1022 : decode code 1022 = .ok (.istore 6, 2) := by decide +kernel
theorem jd_law_1024 : decode code 1024 = .ok (.aload_n 1, 1) := by decide +kernel
theorem jd_law_1025 : decode code 1025 = .ok (.iconst 0, 1) := by decide +kernel
theorem jd_law_1026 : decode code 1026 = .ok (.invokevirtual 41, 3) := by decide +kernel
theorem jd_law_1029 : decode code 1029 = .ok (.aload_n 1, 1) := by decide +kernel
theorem jd_law_1030 : decode code 1030 = .ok (.iconst 4, 1) := by decide +kernel
theorem jd_law_1031 : decode code 1031 = .ok (.invokevirtual 41, 3) := by decide +kernel
theorem jd_law_1034 : decode code 1034 = .ok (.iadd, 1) := by decide +kernel
theorem jd_law_1035 : decode code 1035 = .ok (.aload_n 1, 1) := by decide +kernel
theorem jd_law_1036 : decode code 1036 = .ok (.iconst 5, 1) := by decide +kernel
theorem jd_law_1037 : decode code 1037 = .ok (.invokevirtual 41, 3) := by decide +kernel
theorem jd_law_1040 : decode code 1040 = .ok (.iadd, 1) := by decide +kernel
theorem jd_law_1041 : decode code 1041 = .ok (.istore 7, 2) := by decide +kernel
theorem jd_law_1043 : decode code 1043 = .ok (.aload_n 1, 1) := by decide +kernel
theorem jd_law_1044 : decode code 1044 = .ok (.invokevirtual 76, 3) := by decide +kernel
theorem jd_law_1047 : decode code 1047 = .ok (.lload 4, 2) := by decide +kernel
theorem jd_law_1049 : decode code 1049 = .ok (.lcmp, 1) := by decide +kernel
theorem jd_law_1050 : decode code 1050 = .ok (.ifCond .ne 53, 3) := by decide +kernel
theorem jd_law_1053 : decode code 1053 = .ok (.iload 6, 2) := by decide +kernel
theorem jd_law_1055 : decode code 1055 = .ok (.ifCond .lt 48, 3) := by decide +kernel
theorem jd_law_1058 : decode code 1058 = .ok (.aload_n 1, 1) := by decide +kernel
theorem jd_law_1059 : decode code 1059 = .ok (.invokevirtual 106, 3) := by decide +kernel
theorem jd_law_1062 : decode code 1062 = .ok (.iload 6, 2) := by decide +kernel
theorem jd_law_1064 : decode code 1064 = .ok (.if_icmp .ne 39, 3) := by decide +kernel
theorem jd_law_1067 : decode code 1067 = .ok (.aload_n 1, 1) := by decide +kernel
theorem jd_law_1068 : decode code 1068 = .ok (.iconst 0, 1) := by decide +kernel
theorem jd_law_1069 : decode code 1069 = .ok (.invokevirtual 41, 3) := by decide +kernel
theorem jd_law_1072 : decode code 1072 = .ok (.aload_n 1, 1) := by decide +kernel
theorem jd_law_1073 : decode code 1073 = .ok (.iconst 4, 1) := by decide +kernel
theorem jd_law_1074 : decode code 1074 = .ok (.invokevirtual 41, 3) := by decide +kernel
theorem jd_law_1077 : decode code 1077 = .ok (.iadd, 1) := by decide +kernel
theorem jd_law_1078 : decode code 1078 = .ok (.aload_n 1, 1) := by decide +kernel
theorem jd_law_1079 : decode code 1079 = .ok (.iconst 5, 1) := by decide +kernel
theorem jd_law_1080 : decode code 1080 = .ok (.invokevirtual 41, 3) := by decide +kernel
theorem jd_law_1083 : decode code 1083 = .ok (.iadd, 1) := by decide +kernel
theorem jd_law_1084 : decode code 1084 = .ok (.iload 7, 2) := by decide +kernel
theorem jd_law_1086 : decode code 1086 = .ok (.iload 6, 2) := by decide +kernel
theorem jd_law_1088 : decode code 1088 = .ok (.isub, 1) := by decide +kernel
theorem jd_law_1089 : decode code 1089 = .ok (.if_icmp .ne 14, 3) := by decide +kernel
theorem jd_law_1092 : decode code 1092 = .ok (.aload_n 1, 1) := by decide +kernel
theorem jd_law_1093 : decode code 1093 = .ok (.invokevirtual 103, 3) := by decide +kernel
theorem jd_law_1096 : decode code 1096 = .ok (.ifCond .ne 7, 3) := by decide +kernel
theorem jd_law_1099 : decode code 1099 = .ok (.iconst 1, 1) := by decide +kernel
theorem jd_law_1100 : decode code 1100 = .ok (.goto 4, 3) := by decide +kernel
theorem jd_law_1103 : decode code 1103 = .ok (.iconst 0, 1) := by decide +kernel
theorem jd_law_1104 : decode code 1104 = .ok (.ireturn, 1) := by decide +kernel
/-! the law: its end, over any store that its first half has made -/
def mi_lawN (nm : String) : jw_M := (⟨"BranchworkLaw", nm, "([I)Z"⟩, code, 15, ret)
section
variable {o : jw_O} {σ : zS} {w : zT} {Ts : Nat → zT} {f g t c : Nat → Int} {n kp : Nat} {l : zK} {tp : Nat → Int} {br cu : Nat} {mg : Int}
variable {k : jw_K} {kc ks hs : Nat} {nm : String}
theorem law_1018 (hR : jw_Rm k 10 604185 7289070) (hkc : kc ≤ 604185) (hks : ks ≤ 7289070) (hEnd : ∀ lc μ, jw_X (mi_lawN nm) o k kc ks 1099 lc [] μ hs) (h : GS o σ w Ts f g t c n kp l tp br cu mg) (hv : GV f g n kp tp br cu mg) (hl : l.1 = 0) (hk : ∀ j, kp.testBit j = decide (j < n)) (s0 : zS) (E0 : zE o σ s0) : jw_X (mi_lawN nm) o k kc ks 1018 [(1, .ref (zb o)), (4, .long (dgF w Ts f g t c kp l tp br cu mg (fun i => iv σ (zb o + 59) i)))] [] (mm o s0) hs := by
  have q1 := obF_rng t c kp
  have q2 := obF_rng t c (rchF f g tp mg)
  have hle : obF t c (rchF f g tp mg) ≤ obF t c kp := obF_le fun j _ hj => by rw [hk, decide_eq_true_eq]; exact rchF_n hv j hj
  have hkr : kp &&& rchF f g tp mg = rchF f g tp mg := by
    apply Nat.eq_of_testBit_eq
    intro j
    rw [Nat.testBit_and]
    cases hj : (rchF f g tp mg).testBit j
    · simp
    · have := rchF_n hv j hj
      rw [hk]; simp [this]
  have nt : ∀ s, zE o σ s → (fun i => iv s (zb o + 59) i) = (fun i => iv σ (zb o + 59) i) := fun s E => funext fun i => iv_cell (E _ (by omega) (by omega) (by omega) (by omega)) i
  refine jw_aload_n (pc' := 1019) jd_law_1018 rfl rfl rfl ?_
  refine zy_callV (pc' := 1022) hR hkc hks (f_garbage (h.e E0)) jm_Branchwork_garbage jq_846 jc_Branchwork jd_law_1019 (mc_Branchwork _) rfl rfl (Nat.le_of_ble_eq_true rfl) (by omega) (by decide) rfl (fun v9 s1 q9 => ?_)
  obtain ⟨rfl, E1⟩ := q9
  have F1 := E0.trans E1
  refine jw_istore (pc' := 1024) (lc' := [(1, _), (4, _), (6, _)]) jd_law_1022 (Nat.le_of_ble_eq_true rfl) ⟨rfl, rfl, rfl, trivial⟩ rfl ?_
  refine jw_aload_n (pc' := 1025) jd_law_1024 rfl rfl rfl ?_
  refine zx_iconst (pc' := 1026) (n := 0) jd_law_1025 rfl ?_
  refine zy_callV (pc' := 1029) hR hkc hks (f_many (h.e F1) 0 (by omega)) jm_Branchwork_many jq_727 jc_Branchwork jd_law_1026 (mc_Branchwork _) rfl rfl (Nat.le_of_ble_eq_true rfl) (by omega) (by decide) rfl (fun v9 s2 q9 => ?_)
  obtain ⟨rfl, E2⟩ := q9
  have F2 := F1.trans E2
  refine jw_aload_n (pc' := 1030) jd_law_1029 rfl rfl rfl ?_
  refine zx_iconst (pc' := 1031) (n := 4) jd_law_1030 rfl ?_
  refine zy_callV (pc' := 1034) hR hkc hks (f_many (h.e F2) 4 (by omega)) jm_Branchwork_many jq_727 jc_Branchwork jd_law_1031 (mc_Branchwork _) rfl rfl (Nat.le_of_ble_eq_true rfl) (by omega) (by decide) rfl (fun v9 s3 q9 => ?_)
  obtain ⟨rfl, E3⟩ := q9
  have F3 := F2.trans E3
  refine zx_iadd (pc' := 1035) jd_law_1034 rfl ?_
  refine jw_aload_n (pc' := 1036) jd_law_1035 rfl rfl rfl ?_
  refine zx_iconst (pc' := 1037) (n := 5) jd_law_1036 rfl ?_
  refine zy_callV (pc' := 1040) hR hkc hks (f_many (h.e F3) 5 (by omega)) jm_Branchwork_many jq_727 jc_Branchwork jd_law_1037 (mc_Branchwork _) rfl rfl (Nat.le_of_ble_eq_true rfl) (by omega) (by decide) rfl (fun v9 s4 q9 => ?_)
  obtain ⟨rfl, E4⟩ := q9
  have F4 := F3.trans E4
  refine zx_iadd (pc' := 1041) jd_law_1040 rfl ?_
  refine jw_istore (pc' := 1043) (lc' := [(1, _), (4, _), (6, _), (7, _)]) jd_law_1041 (Nat.le_of_ble_eq_true rfl) ⟨rfl, rfl, rfl, rfl, trivial⟩ rfl ?_
  refine jw_aload_n (pc' := 1044) jd_law_1043 rfl rfl rfl ?_
  refine zy_callV (pc' := 1047) hR hkc hks (f_digest (h.e F4) hv hl) jm_Branchwork_digest jq_847 jc_Branchwork jd_law_1044 (mc_Branchwork _) rfl rfl (Nat.le_of_ble_eq_true rfl) (by omega) (by decide) rfl (fun v9 s5 q9 => ?_)
  obtain ⟨rfl, E5⟩ := q9
  rw [nt s4 F4]
  have F5 := F4.trans E5
  refine jw_lload (pc' := 1049) jd_law_1047 rfl rfl ?_
  refine jw_lcmp (pc' := 1050) jd_law_1049 (v := iI 0) (by rw [← iI_0]; exact (lg_cmp_eq _ _).mpr rfl) rfl ?_
  refine zx_if_ne (tgt := 1103) (pc' := 1053) (by first | exact rg_iv _ _ _ | omega) jd_law_1050 (by decide) rfl (fun p1 => ?_) (fun p1 => ?_)
  · exfalso; omega
  refine jw_iload (pc' := 1055) jd_law_1053 rfl rfl ?_
  refine zx_if_lt (tgt := 1103) (pc' := 1058) (by first | exact rg_iv _ _ _ | omega) jd_law_1055 (by decide) rfl (fun p2 => ?_) (fun p2 => ?_)
  · exfalso; omega
  refine jw_aload_n (pc' := 1059) jd_law_1058 rfl rfl rfl ?_
  refine zy_callV (pc' := 1062) hR hkc hks (f_collect (h.e F5)) jm_Branchwork_collect jq_682 jc_Branchwork jd_law_1059 (mc_Branchwork _) rfl rfl (Nat.le_of_ble_eq_true rfl) (by omega) (by decide) rfl (fun v9 s6 q9 => ?_)
  obtain ⟨rfl, H6⟩ := q9
  rw [hkr] at H6
  refine jw_iload (pc' := 1064) jd_law_1062 rfl rfl ?_
  refine zx_icmp_ne (tgt := 1103) (pc' := 1067) (by first | exact rg_iv _ _ _ | omega) (by first | exact rg_iv _ _ _ | omega) jd_law_1064 (by decide) rfl (fun p3 => ?_) (fun p3 => ?_)
  · exfalso; omega
  refine jw_aload_n (pc' := 1068) jd_law_1067 rfl rfl rfl ?_
  refine zx_iconst (pc' := 1069) (n := 0) jd_law_1068 rfl ?_
  refine zy_callV (pc' := 1072) hR hkc hks (f_many H6 0 (by omega)) jm_Branchwork_many jq_727 jc_Branchwork jd_law_1069 (mc_Branchwork _) rfl rfl (Nat.le_of_ble_eq_true rfl) (by omega) (by decide) rfl (fun v9 s7 q9 => ?_)
  obtain ⟨rfl, G7⟩ := q9
  have H7 := H6.e G7
  refine jw_aload_n (pc' := 1073) jd_law_1072 rfl rfl rfl ?_
  refine zx_iconst (pc' := 1074) (n := 4) jd_law_1073 rfl ?_
  refine zy_callV (pc' := 1077) hR hkc hks (f_many H7 4 (by omega)) jm_Branchwork_many jq_727 jc_Branchwork jd_law_1074 (mc_Branchwork _) rfl rfl (Nat.le_of_ble_eq_true rfl) (by omega) (by decide) rfl (fun v9 s8 q9 => ?_)
  obtain ⟨rfl, G8⟩ := q9
  have H8 := H7.e G8
  refine zx_iadd (pc' := 1078) jd_law_1077 rfl ?_
  refine jw_aload_n (pc' := 1079) jd_law_1078 rfl rfl rfl ?_
  refine zx_iconst (pc' := 1080) (n := 5) jd_law_1079 rfl ?_
  refine zy_callV (pc' := 1083) hR hkc hks (f_many H8 5 (by omega)) jm_Branchwork_many jq_727 jc_Branchwork jd_law_1080 (mc_Branchwork _) rfl rfl (Nat.le_of_ble_eq_true rfl) (by omega) (by decide) rfl (fun v9 s9 q9 => ?_)
  obtain ⟨rfl, G9⟩ := q9
  have H9 := H8.e G9
  have a1 : mnF w t c kp l br 0 + mnF w t c kp l br 4 + mnF w t c kp l br 5 = obF t c kp := rfl
  have a2 : mnF w t c (rchF f g tp mg) l br 0 + mnF w t c (rchF f g tp mg) l br 4 + mnF w t c (rchF f g tp mg) l br 5 = obF t c (rchF f g tp mg) := rfl
  refine zx_iadd (pc' := 1084) jd_law_1083 rfl ?_
  refine jw_iload (pc' := 1086) jd_law_1084 rfl rfl ?_
  refine jw_iload (pc' := 1088) jd_law_1086 rfl rfl ?_
  refine zx_isub (pc' := 1089) jd_law_1088 rfl ?_
  refine zx_icmp_ne (tgt := 1103) (pc' := 1092) (by first | exact rg_iv _ _ _ | omega) (by first | exact rg_iv _ _ _ | omega) jd_law_1089 (by decide) rfl (fun p4 => ?_) (fun p4 => ?_)
  · exfalso; omega
  refine jw_aload_n (pc' := 1093) jd_law_1092 rfl rfl rfl ?_
  refine zy_callV (pc' := 1096) hR hkc hks (f_garbage H9) jm_Branchwork_garbage jq_846 jc_Branchwork jd_law_1093 (mc_Branchwork _) rfl rfl (Nat.le_of_ble_eq_true rfl) (by omega) (by decide) rfl (fun v9 s10 q9 => ?_)
  obtain ⟨rfl, G10⟩ := q9
  refine zx_if_ne (tgt := 1103) (pc' := 1099) (by first | exact rg_iv _ _ _ | omega) jd_law_1096 (by decide) rfl (fun p5 => ?_) (fun p5 => ?_)
  · exfalso; omega
  exact hEnd _ _
/-- a commit by itself, its files, its neighbours -/
theorem law_617 (hR : jw_Rm k 10 604185 7289070) (hkc : kc ≤ 604185) (hks : ks ≤ 7289070) (hEnd : ∀ lc μ, jw_X (mi_lawN nm) o k kc ks 1099 lc [] μ hs) (h : GS o σ w Ts f g t c n kp l tp br cu mg) (hv : GV f g n kp tp br cu mg) (hl : l.1 = 0) (hk : ∀ j, kp.testBit j = decide (j < n)) : jw_X (mi_lawN nm) o k kc ks 617 [(1, .ref (zb o)), (3, .int (iI n))] [] (mm o σ) hs := by
  have PP := hv.1
  have hn := hv.2.2.2.2.2.2.2.2
  have kt : ∀ j, j < n → kp.testBit j = true := fun j hj => by rw [hk, decide_eq_true_eq]; exact hj
  have okT : ∀ i, i < 30 → ∀ p, p < 12 → okV (Ts i p) := fun i hi p hp => ((h.2.2.1 i hi).2 p hp).2.1
  refine jw_aload_n (pc' := 618) jd_law_617 rfl rfl rfl ?_
  refine zy_callV (pc' := 621) hR hkc hks (f_digest h hv hl) jm_Branchwork_digest jq_847 jc_Branchwork jd_law_618 (mc_Branchwork _) rfl rfl (Nat.le_of_ble_eq_true rfl) (by omega) (by decide) rfl (fun v9 s1 q9 => ?_)
  obtain ⟨rfl, E1⟩ := q9
  refine jw_lstore (pc' := 623) (lc' := [(1, _), (3, _), (4, _)]) jd_law_621 (Nat.le_of_ble_eq_true rfl) ⟨rfl, rfl, rfl, trivial⟩ rfl ?_
  refine zx_iconst (pc' := 624) (n := 0) jd_law_623 rfl ?_
  refine jw_istore (pc' := 626) (lc' := [(1, _), (3, _), (4, _), (6, _)]) jd_law_624 (Nat.le_of_ble_eq_true rfl) ⟨rfl, rfl, rfl, rfl, trivial⟩ rfl ?_
  obtain ⟨D, hD⟩ : ∃ z, z = dgF w Ts f g t c kp l tp br cu mg (fun i => iv σ (zb o + 59) i) := ⟨_, rfl⟩
  rw [← hD]
  have loop : ∀ (d i : Nat) (s : zS), i + d = n → zE o σ s → jw_X (mi_lawN nm) o k kc ks 626 [(1, .ref (zb o)), (3, .int (iI n)), (4, .long D), (6, .int (iI i))] [] (mm o s) hs := by
    intro d
    induction d with
    | zero =>
      intro i s hi E
      refine jw_iload (pc' := 628) jd_law_626 rfl rfl ?_
      refine jw_iload_n (pc' := 629) jd_law_628 rfl rfl rfl ?_
      refine zx_icmp_ge (tgt := 1018) (pc' := 632) (by first | exact rg_iv _ _ _ | omega) (by first | exact rg_iv _ _ _ | omega) jd_law_629 (by decide) rfl (fun q => ?_) (fun q => ?_)
      rotate_left
      · exfalso; omega
      refine jw_sub (lc' := [(1, _), (4, _)]) ⟨rfl, rfl, trivial⟩ ?_
      rw [hD]
      exact law_1018 hR hkc hks hEnd h hv hl hk s E
    | succ d ih =>
      intro i s hi E
      have hin : i < n := by omega
      have hi30 : i < 30 := by omega
      have hki := kt i hin
      have po := PP i hin
      have anc1 := anc_self PP hin hn
      have ancl := anc_le PP hin
      have pc1 := pcN_up (m := ancF f g i) hi30 ancl anc1
      have cs := ca_anc PP hn hin anc1
      have g1 := h.e E
      -- the neighbours
      have nb : ∀ (d2 j : Nat) (s : zS), j + d2 = n → zE o σ s → jw_X (mi_lawN nm) o k kc ks 941 [(1, .ref (zb o)), (3, .int (iI n)), (4, .long D), (6, .int (iI i)), (9, .int (iI j))] [] (mm o s) hs := by
        intro d2
        induction d2 with
        | zero =>
          intro j s hj E
          refine jw_iload (pc' := 943) jd_law_941 rfl rfl ?_
          refine jw_iload_n (pc' := 944) jd_law_943 rfl rfl rfl ?_
          refine zx_icmp_ge (tgt := 1012) (pc' := 947) (by first | exact rg_iv _ _ _ | omega) (by first | exact rg_iv _ _ _ | omega) jd_law_944 (by decide) rfl (fun q => ?_) (fun q => ?_)
          rotate_left
          · exfalso; omega
          refine zx_iinc (pc' := 1015) (lc' := [(1, _), (3, _), (4, _), (6, _)]) jd_law_1012 rfl (Nat.le_of_ble_eq_true rfl) ⟨rfl, rfl, rfl, rfl, trivial⟩ rfl ?_
          refine jw_goto (tgt := 626) jd_law_1015 (by decide) ?_
          exact ih (i + 1) s (by omega) E
        | succ d2 jh =>
          intro j s hj E
          have hjn : j < n := by omega
          have hkj := kt j hjn
          have g2 := h.e E
          have cl := ca_le PP hin hjn
          have cr := ca_rng f g i j
          have cc := ca_comm f g j i
          refine jw_iload (pc' := 943) jd_law_941 rfl rfl ?_
          refine jw_iload_n (pc' := 944) jd_law_943 rfl rfl rfl ?_
          refine zx_icmp_ge (tgt := 1012) (pc' := 947) (by first | exact rg_iv _ _ _ | omega) (by first | exact rg_iv _ _ _ | omega) jd_law_944 (by decide) rfl (fun q => ?_) (fun q => ?_)
          · exfalso; omega
          refine jw_aload_n (pc' := 948) jd_law_947 rfl rfl rfl ?_
          refine jw_iload (pc' := 950) jd_law_948 rfl rfl ?_
          refine jw_iload (pc' := 952) jd_law_950 rfl rfl ?_
          refine zy_callV0 (pc' := 955) hR hkc hks (f_base g2 i j hi30 (by omega) hki hkj) jm_Branchwork_base jq_792 jc_Branchwork jd_law_952 (mc_Branchwork _) rfl rfl (Nat.le_of_ble_eq_true rfl) (by omega) (by decide) rfl rfl ?_
          refine jw_aload_n (pc' := 956) jd_law_955 rfl rfl rfl ?_
          refine jw_iload (pc' := 958) jd_law_956 rfl rfl ?_
          refine jw_iload (pc' := 960) jd_law_958 rfl rfl ?_
          refine zy_callV0 (pc' := 963) hR hkc hks (f_base g2 j i (by omega) hi30 hkj hki) jm_Branchwork_base jq_792 jc_Branchwork jd_law_960 (mc_Branchwork _) rfl rfl (Nat.le_of_ble_eq_true rfl) (by omega) (by decide) rfl rfl ?_
          rw [cc]
          refine zx_icmp_ne (tgt := 1004) (pc' := 966) (by first | exact rg_iv _ _ _ | omega) (by first | exact rg_iv _ _ _ | omega) jd_law_963 (by decide) rfl (fun q2 => ?_) (fun q2 => ?_)
          · exfalso; omega
          refine jw_aload_n (pc' := 967) jd_law_966 rfl rfl rfl ?_
          refine jw_iload (pc' := 969) jd_law_967 rfl rfl ?_
          refine jw_iload (pc' := 971) jd_law_969 rfl rfl ?_
          refine zy_callV0 (pc' := 974) hR hkc hks (f_base g2 i j hi30 (by omega) hki hkj) jm_Branchwork_base jq_792 jc_Branchwork jd_law_971 (mc_Branchwork _) rfl rfl (Nat.le_of_ble_eq_true rfl) (by omega) (by decide) rfl rfl ?_
          refine jw_iload (pc' := 976) jd_law_974 rfl rfl ?_
          refine jw_iload (pc' := 978) jd_law_976 rfl rfl ?_
          refine zx_mmin (pc' := 981) (by first | exact rg_iv _ _ _ | omega) (by first | exact rg_iv _ _ _ | omega) hR jq_888 jd_law_978 (Nat.le_of_ble_eq_true rfl) (by omega) hkc hks rfl ?_
          refine zx_icmp_gt (tgt := 1004) (pc' := 984) (by first | exact rg_iv _ _ _ | omega) (by first | exact rg_iv _ _ _ | omega) jd_law_981 (by decide) rfl (fun q3 => ?_) (fun q3 => ?_)
          · exfalso; omega
          refine jw_aload_n (pc' := 985) jd_law_984 rfl rfl rfl ?_
          refine jw_iload (pc' := 987) jd_law_985 rfl rfl ?_
          refine jw_iload (pc' := 989) jd_law_987 rfl rfl ?_
          refine zx_iconst (pc' := 990) (n := 2) jd_law_989 rfl ?_
          refine zy_callV (pc' := 993) hR hkc hks (f_changes g2 i j hi30 (by omega) hki hkj) jm_Branchwork_changes jq_802 jc_Branchwork jd_law_990 (mc_Branchwork _) rfl rfl (Nat.le_of_ble_eq_true rfl) (by omega) (by decide) rfl (fun v9 s3 q9 => ?_)
          obtain ⟨rfl, E3⟩ := q9
          refine jw_aload_n (pc' := 994) jd_law_993 rfl rfl rfl ?_
          refine jw_iload (pc' := 996) jd_law_994 rfl rfl ?_
          refine jw_iload (pc' := 998) jd_law_996 rfl rfl ?_
          refine zy_callS (pc' := 1001) hR hkc hks (q_count (h.e (E.trans E3)) i j hi30 (by omega) hki hkj) jm_BranchworkLaw_countRenamed jq_880 jd_law_998 rfl rfl (Nat.le_of_ble_eq_true rfl) (by omega) (by decide) rfl (fun v9 s4 q9 => ?_)
          obtain ⟨rfl, E4⟩ := q9
          have tr := trF_P (okT i hi30) (okT j (by omega))
          have tr1 := tr.2.2.1
          have tr2 := tr.2.2.2.1
          refine zx_icmp_eq (tgt := 1006) (pc' := 1004) (by first | exact rg_iv _ _ _ | omega) (by first | exact rg_iv _ _ _ | omega) jd_law_1001 (by decide) rfl (fun q4 => ?_) (fun q4 => ?_)
          rotate_left
          · exfalso; omega
          refine zx_iinc (pc' := 1009) (lc' := [(1, _), (3, _), (4, _), (6, _), (9, _)]) jd_law_1006 rfl (Nat.le_of_ble_eq_true rfl) ⟨rfl, rfl, rfl, rfl, rfl, trivial⟩ rfl ?_
          refine jw_goto (tgt := 941) jd_law_1009 (by decide) ?_
          exact jh (j + 1) s4 (by omega) ((E.trans E3).trans E4)
      -- the files
      have fl : ∀ (d2 p : Nat) (s : zS), p + d2 = 12 → zE o σ s → jw_X (mi_lawN nm) o k kc ks 747 [(1, .ref (zb o)), (3, .int (iI n)), (4, .long D), (6, .int (iI i)), (7, .int (iI (f i))), (9, .int (iI p))] [] (mm o s) hs := by
        intro d2
        induction d2 with
        | zero =>
          intro p s hp E
          refine jw_iload (pc' := 749) jd_law_747 rfl rfl ?_
          refine zx_bipush (pc' := 751) (n := 12) jd_law_749 (by decide +kernel) rfl ?_
          refine zx_icmp_ge (tgt := 938) (pc' := 754) (by first | exact rg_iv _ _ _ | omega) (by first | exact rg_iv _ _ _ | omega) jd_law_751 (by decide) rfl (fun q => ?_) (fun q => ?_)
          rotate_left
          · exfalso; omega
          refine zx_iconst (pc' := 939) (n := 0) jd_law_938 rfl ?_
          refine jw_istore (pc' := 941) (lc' := [(1, _), (3, _), (4, _), (6, _), (9, _)]) jd_law_939 (Nat.le_of_ble_eq_true rfl) ⟨rfl, rfl, rfl, rfl, rfl, trivial⟩ rfl ?_
          exact nb n 0 s (by omega) E
        | succ d2 jh =>
          intro p s hp E
          have hp12 : p < 12 := by omega
          have ok1 := okT i hi30 p hp12
          have okn := ok1.n
          have okp := ok1.p
          have sz : (szF (Ts i p) = -1 ∧ (Ts i p).1 = 0) ∨ (szF (Ts i p) = (Ts i p).2.1 ∧ ¬ (Ts i p).1 = 0) := by
            unfold szF
            by_cases z : (Ts i p).1 = 0
            · rw [if_pos z]; exact Or.inl ⟨rfl, z⟩
            · rw [if_neg z]; exact Or.inr ⟨rfl, z⟩
          refine jw_iload (pc' := 749) jd_law_747 rfl rfl ?_
          refine zx_bipush (pc' := 751) (n := 12) jd_law_749 (by decide +kernel) rfl ?_
          refine zx_icmp_ge (tgt := 938) (pc' := 754) (by first | exact rg_iv _ _ _ | omega) (by first | exact rg_iv _ _ _ | omega) jd_law_751 (by decide) rfl (fun q => ?_) (fun q => ?_)
          · exfalso; omega
          refine jw_aload_n (pc' := 755) jd_law_754 rfl rfl rfl ?_
          refine jw_iload (pc' := 757) jd_law_755 rfl rfl ?_
          refine jw_iload (pc' := 759) jd_law_757 rfl rfl ?_
          refine zy_callV0 (pc' := 762) hR hkc hks (f_size (h.e E) i p hi30 hki hp12) jm_Branchwork_size jq_776 jc_Branchwork jd_law_759 (mc_Branchwork _) rfl rfl (Nat.le_of_ble_eq_true rfl) (by omega) (by decide) rfl rfl ?_
          refine jw_istore (pc' := 764) (lc' := [(1, _), (3, _), (4, _), (6, _), (7, _), (9, _), (10, _)]) jd_law_762 (Nat.le_of_ble_eq_true rfl) ⟨rfl, rfl, rfl, rfl, rfl, rfl, rfl, trivial⟩ rfl ?_
          refine jw_iload (pc' := 766) jd_law_764 rfl rfl ?_
          refine zx_if_ge (tgt := 772) (pc' := 769) (by first | exact rg_iv _ _ _ | omega) jd_law_766 (by decide) rfl (fun q2 => ?_) (fun q2 => ?_)
          rotate_left
          · refine jw_goto (tgt := 932) jd_law_769 (by decide) ?_
            refine zx_iinc (pc' := 935) (lc' := [(1, _), (3, _), (4, _), (6, _), (7, _), (9, _)]) jd_law_932 rfl (Nat.le_of_ble_eq_true rfl) ⟨rfl, rfl, rfl, rfl, rfl, rfl, trivial⟩ rfl ?_
            refine jw_goto (tgt := 747) jd_law_935 (by decide) ?_
            exact jh (p + 1) s (by omega) E
          have h0 : ¬ (Ts i p).1 = 0 := by omega
          have ws := we_self (okT i hi30) hp12 h0
          refine jw_aload_n (pc' := 773) jd_law_772 rfl rfl rfl ?_
          refine jw_iload (pc' := 775) jd_law_773 rfl rfl ?_
          refine jw_iload (pc' := 777) jd_law_775 rfl rfl ?_
          refine jw_iload (pc' := 779) jd_law_777 rfl rfl ?_
          refine zy_callV (pc' := 782) hR hkc hks (f_went (h.e E) i i p hi30 hi30 hp12 hki hki) jm_Branchwork_went jq_796 jc_Branchwork jd_law_779 (mc_Branchwork _) rfl rfl (Nat.le_of_ble_eq_true rfl) (by omega) (by decide) rfl (fun v9 s2 q9 => ?_)
          obtain ⟨rfl, E2⟩ := q9
          rw [ws]
          have E2 := E.trans E2
          refine jw_iload (pc' := 784) jd_law_782 rfl rfl ?_
          refine zx_icmp_ne (tgt := 804) (pc' := 787) (by first | exact rg_iv _ _ _ | omega) (by first | exact rg_iv _ _ _ | omega) jd_law_784 (by decide) rfl (fun q3 => ?_) (fun q3 => ?_)
          · exfalso; omega
          refine jw_aload_n (pc' := 788) jd_law_787 rfl rfl rfl ?_
          refine jw_iload (pc' := 790) jd_law_788 rfl rfl ?_
          refine jw_iload (pc' := 792) jd_law_790 rfl rfl ?_
          refine jw_iload (pc' := 794) jd_law_792 rfl rfl ?_
          refine jw_iload (pc' := 796) jd_law_794 rfl rfl ?_
          refine zy_callV (pc' := 799) hR hkc hks (f_near (h.e E2) i p hi30 hp12 hki h0) jm_Branchwork_nearness jq_817 jc_Branchwork jd_law_796 (mc_Branchwork _) rfl rfl (Nat.le_of_ble_eq_true rfl) (by omega) (by decide) rfl (fun v9 s3 q9 => ?_)
          obtain ⟨rfl, E3⟩ := q9
          rw [near_self ok1]
          have E3 := E2.trans E3
          refine zx_bipush (pc' := 801) (n := 100) jd_law_799 (by decide +kernel) rfl ?_
          refine zx_icmp_eq (tgt := 806) (pc' := 804) (by first | exact rg_iv _ _ _ | omega) (by first | exact rg_iv _ _ _ | omega) jd_law_801 (by decide) rfl (fun q4 => ?_) (fun q4 => ?_)
          rotate_left
          · exfalso; omega
          refine zx_iconst (pc' := 807) (n := 0) jd_law_806 rfl ?_
          refine jw_istore (pc' := 809) (lc' := [(1, _), (3, _), (4, _), (6, _), (7, _), (9, _), (10, _), (11, _)]) jd_law_807 (Nat.le_of_ble_eq_true rfl) ⟨rfl, rfl, rfl, rfl, rfl, rfl, rfl, rfl, trivial⟩ rfl ?_
          have ln : ∀ (d3 j : Nat) (s : zS), j + d3 = (Ts i p).2.1 → zE o σ s → jw_X (mi_lawN nm) o k kc ks 809 [(1, .ref (zb o)), (3, .int (iI n)), (4, .long D), (6, .int (iI i)), (7, .int (iI (f i))), (9, .int (iI p)), (10, .int (iI (szF (Ts i p)))), (11, .int (iI j))] [] (mm o s) hs := by
            intro d3
            induction d3 with
            | zero =>
              intro j s hj E
              have okq := okT i hi30
              have p932 : ∀ s : zS, zE o σ s → jw_X (mi_lawN nm) o k kc ks 932 [(1, .ref (zb o)), (3, .int (iI n)), (4, .long D), (6, .int (iI i)), (7, .int (iI (f i))), (9, .int (iI p))] [] (mm o s) hs := by
                intro s E
                refine zx_iinc (pc' := 935) (lc' := [(1, _), (3, _), (4, _), (6, _), (7, _), (9, _)]) jd_law_932 rfl (Nat.le_of_ble_eq_true rfl) ⟨rfl, rfl, rfl, rfl, rfl, rfl, trivial⟩ rfl ?_
                refine jw_goto (tgt := 747) jd_law_935 (by decide) ?_
                exact jh (p + 1) s (by omega) E
              refine jw_iload (pc' := 811) jd_law_809 rfl rfl ?_
              refine jw_iload (pc' := 813) jd_law_811 rfl rfl ?_
              refine zx_icmp_ge (tgt := 856) (pc' := 816) (by first | exact rg_iv _ _ _ | omega) (by first | exact rg_iv _ _ _ | omega) jd_law_813 (by decide) rfl (fun q5 => ?_) (fun q5 => ?_)
              rotate_left
              · exfalso; omega
              refine jw_iload (pc' := 858) jd_law_856 rfl rfl ?_
              refine zx_if_ge (tgt := 866) (pc' := 861) (by first | exact rg_iv _ _ _ | omega) jd_law_858 (by decide) rfl (fun q6 => ?_) (fun q6 => ?_)
              · obtain ⟨pr, hpr⟩ : ∃ m : Nat, f i = m := ⟨(f i).toNat, by omega⟩
                have hprn : pr < n := by omega
                have hkp := kt pr hprn
                have okpr := okT pr (by omega)
                have wr := we_rng okpr okq p
                have wo := we_out okpr okq p
                rw [hpr]
                refine jw_aload_n (pc' := 867) jd_law_866 rfl rfl rfl ?_
                refine jw_iload (pc' := 869) jd_law_867 rfl rfl ?_
                refine jw_iload (pc' := 871) jd_law_869 rfl rfl ?_
                refine jw_iload (pc' := 873) jd_law_871 rfl rfl ?_
                refine zy_callV (pc' := 876) hR hkc hks (f_went (h.e E) pr i p (by omega) hi30 hp12 hkp hki) jm_Branchwork_went jq_796 jc_Branchwork jd_law_873 (mc_Branchwork _) rfl rfl (Nat.le_of_ble_eq_true rfl) (by omega) (by decide) rfl (fun v9 s5 q9 => ?_)
                obtain ⟨rfl, E5⟩ := q9
                have E5 := E.trans E5
                have szp : (szF (Ts pr p) = -1 ∧ (Ts pr p).1 = 0) ∨ (0 ≤ szF (Ts pr p) ∧ szF (Ts pr p) ≤ 10 ∧ ¬ (Ts pr p).1 = 0) := by
                  have := (okpr p hp12).n
                  unfold szF
                  by_cases z : (Ts pr p).1 = 0
                  · rw [if_pos z]; exact Or.inl ⟨rfl, z⟩
                  · rw [if_neg z]; exact Or.inr ⟨by omega, by omega, z⟩
                have p894 : jw_X (mi_lawN nm) o k kc ks 894 [(1, .ref (zb o)), (3, .int (iI n)), (4, .long D), (6, .int (iI i)), (7, .int (iI (pr : Int))), (9, .int (iI p)), (11, .int (iI (weF (Ts pr) (Ts i) p)))] [] (mm o s5) hs := by
                  refine jw_iload (pc' := 896) jd_law_894 rfl rfl ?_
                  refine zx_if_lt (tgt := 932) (pc' := 899) (by first | exact rg_iv _ _ _ | omega) jd_law_896 (by decide) rfl (fun q7 => ?_) (fun q7 => ?_)
                  · exfalso; omega
                  refine jw_iload (pc' := 901) jd_law_899 rfl rfl ?_
                  refine zx_bipush (pc' := 903) (n := -2) jd_law_901 (by decide +kernel) rfl ?_
                  refine zx_icmp_ne (tgt := 910) (pc' := 906) (by first | exact rg_iv _ _ _ | omega) (by first | exact rg_iv _ _ _ | omega) jd_law_903 (by decide) rfl (fun q8 => ?_) (fun q8 => ?_)
                  · refine zx_iconst (pc' := 911) (n := 0) jd_law_910 rfl ?_
                    refine jw_aload_n (pc' := 912) jd_law_911 rfl rfl rfl ?_
                    refine jw_iload (pc' := 914) jd_law_912 rfl rfl ?_
                    refine jw_iload (pc' := 916) jd_law_914 rfl rfl ?_
                    refine zy_callV0 (pc' := 919) hR hkc hks (f_size (h.e E5) pr p (by omega) hkp hp12) jm_Branchwork_size jq_776 jc_Branchwork jd_law_916 (mc_Branchwork _) rfl rfl (Nat.le_of_ble_eq_true rfl) (by omega) (by decide) rfl rfl ?_
                    refine zx_if_ge (tgt := 926) (pc' := 922) (by first | exact rg_iv _ _ _ | omega) jd_law_919 (by decide) rfl (fun q9 => ?_) (fun q9 => ?_)
                    · refine zx_iconst (pc' := 927) (n := 0) jd_law_926 rfl ?_
                      refine zx_icmp_eq (tgt := 932) (pc' := 930) (by first | exact rg_iv _ _ _ | omega) (by first | exact rg_iv _ _ _ | omega) jd_law_927 (by decide) rfl (fun q10 => ?_) (fun q10 => ?_)
                      rotate_left
                      · exfalso; omega
                      rw [← hpr]
                      refine jw_sub (lc' := [(1, _), (3, _), (4, _), (6, _), (7, _), (9, _)]) ⟨rfl, rfl, rfl, rfl, rfl, rfl, trivial⟩ ?_
                      exact p932 s5 E5
                    · exfalso
                      rcases szp with ⟨z1, z2⟩ | ⟨z1, z2, z3⟩
                      · exact q8 (wo.mpr z2)
                      · omega
                  · refine zx_iconst (pc' := 907) (n := 1) jd_law_906 rfl ?_
                    refine jw_goto (tgt := 911) jd_law_907 (by decide) ?_
                    refine jw_aload_n (pc' := 912) jd_law_911 rfl rfl rfl ?_
                    refine jw_iload (pc' := 914) jd_law_912 rfl rfl ?_
                    refine jw_iload (pc' := 916) jd_law_914 rfl rfl ?_
                    refine zy_callV0 (pc' := 919) hR hkc hks (f_size (h.e E5) pr p (by omega) hkp hp12) jm_Branchwork_size jq_776 jc_Branchwork jd_law_916 (mc_Branchwork _) rfl rfl (Nat.le_of_ble_eq_true rfl) (by omega) (by decide) rfl rfl ?_
                    refine zx_if_ge (tgt := 926) (pc' := 922) (by first | exact rg_iv _ _ _ | omega) jd_law_919 (by decide) rfl (fun q9 => ?_) (fun q9 => ?_)
                    · exfalso
                      rcases szp with ⟨z1, z2⟩ | ⟨z1, z2, z3⟩
                      · omega
                      · exact z3 (wo.mp q8)
                    · refine zx_iconst (pc' := 923) (n := 1) jd_law_922 rfl ?_
                      refine jw_goto (tgt := 927) jd_law_923 (by decide) ?_
                      refine zx_icmp_eq (tgt := 932) (pc' := 930) (by first | exact rg_iv _ _ _ | omega) (by first | exact rg_iv _ _ _ | omega) jd_law_927 (by decide) rfl (fun q10 => ?_) (fun q10 => ?_)
                      rotate_left
                      · exfalso; omega
                      rw [← hpr]
                      refine jw_sub (lc' := [(1, _), (3, _), (4, _), (6, _), (7, _), (9, _)]) ⟨rfl, rfl, rfl, rfl, rfl, rfl, trivial⟩ ?_
                      exact p932 s5 E5
                refine jw_istore (pc' := 878) (lc' := [(1, _), (3, _), (4, _), (6, _), (7, _), (9, _), (11, _)]) jd_law_876 (Nat.le_of_ble_eq_true rfl) ⟨rfl, rfl, rfl, rfl, rfl, rfl, rfl, trivial⟩ rfl ?_
                refine jw_iload (pc' := 880) jd_law_878 rfl rfl ?_
                refine zx_if_lt (tgt := 894) (pc' := 883) (by first | exact rg_iv _ _ _ | omega) jd_law_880 (by decide) rfl (fun q7 => ?_) (fun q7 => ?_)
                · skip
                  exact p894
                obtain ⟨to, hto⟩ : ∃ m : Nat, weF (Ts pr) (Ts i) p = m := ⟨(weF (Ts pr) (Ts i) p).toNat, by omega⟩
                have th := we_there okpr okq hp12 hto
                have tn := (okq to th.1).n
                have ts : 0 ≤ szF (Ts i to) ∧ szF (Ts i to) ≤ 10 := by unfold szF; rw [if_neg th.2]; omega
                rw [hto]
                refine jw_aload_n (pc' := 884) jd_law_883 rfl rfl rfl ?_
                refine jw_iload (pc' := 886) jd_law_884 rfl rfl ?_
                refine jw_iload (pc' := 888) jd_law_886 rfl rfl ?_
                refine zy_callV0 (pc' := 891) hR hkc hks (f_size (h.e E5) i to hi30 hki th.1) jm_Branchwork_size jq_776 jc_Branchwork jd_law_888 (mc_Branchwork _) rfl rfl (Nat.le_of_ble_eq_true rfl) (by omega) (by decide) rfl rfl ?_
                refine zx_if_lt (tgt := 930) (pc' := 894) (by first | exact rg_iv _ _ _ | omega) jd_law_891 (by decide) rfl (fun q8 => ?_) (fun q8 => ?_)
                · exfalso; omega
                rw [hto] at p894
                exact p894
              · refine zx_bipush (pc' := 863) (n := -2) jd_law_861 (by decide +kernel) rfl ?_
                refine jw_goto (tgt := 876) jd_law_863 (by decide) ?_
                refine jw_istore (pc' := 878) (lc' := [(1, _), (3, _), (4, _), (6, _), (7, _), (9, _), (11, _)]) jd_law_876 (Nat.le_of_ble_eq_true rfl) ⟨rfl, rfl, rfl, rfl, rfl, rfl, rfl, trivial⟩ rfl ?_
                refine jw_iload (pc' := 880) jd_law_878 rfl rfl ?_
                refine zx_if_lt (tgt := 894) (pc' := 883) (by first | exact rg_iv _ _ _ | omega) jd_law_880 (by decide) rfl (fun q7 => ?_) (fun q7 => ?_)
                rotate_left
                · exfalso; omega
                refine jw_iload (pc' := 896) jd_law_894 rfl rfl ?_
                refine zx_if_lt (tgt := 932) (pc' := 899) (by first | exact rg_iv _ _ _ | omega) jd_law_896 (by decide) rfl (fun q8 => ?_) (fun q8 => ?_)
                rotate_left
                · exfalso; omega
                refine jw_sub (lc' := [(1, _), (3, _), (4, _), (6, _), (7, _), (9, _)]) ⟨rfl, rfl, rfl, rfl, rfl, rfl, trivial⟩ ?_
                exact p932 s E
            | succ d3 kh =>
              intro j s hj E
              refine jw_iload (pc' := 811) jd_law_809 rfl rfl ?_
              refine jw_iload (pc' := 813) jd_law_811 rfl rfl ?_
              refine zx_icmp_ge (tgt := 856) (pc' := 816) (by first | exact rg_iv _ _ _ | omega) (by first | exact rg_iv _ _ _ | omega) jd_law_813 (by decide) rfl (fun q5 => ?_) (fun q5 => ?_)
              · exfalso; omega
              refine jw_aload_n (pc' := 817) jd_law_816 rfl rfl rfl ?_
              refine jw_iload (pc' := 819) jd_law_817 rfl rfl ?_
              refine jw_iload (pc' := 821) jd_law_819 rfl rfl ?_
              refine jw_iload (pc' := 823) jd_law_821 rfl rfl ?_
              refine zy_callV (pc' := 826) hR hkc hks (f_origin (h.e E) hv i p j hin hp12 hki h0 (by omega)) jm_Branchwork_origin jq_822 jc_Branchwork jd_law_823 (mc_Branchwork _) rfl rfl (Nat.le_of_ble_eq_true rfl) (by omega) (by decide) rfl (fun v9 s5 q9 => ?_)
              obtain ⟨⟨qo, rfl, hqo⟩, E5⟩ := q9
              have E5 := E.trans E5
              have ol := ancl qo hqo
              have oc := ca_anc PP hn (show qo < n by omega) hqo
              refine jw_istore (pc' := 828) (lc' := [(1, _), (3, _), (4, _), (6, _), (7, _), (9, _), (10, _), (11, _), (12, _)]) jd_law_826 (Nat.le_of_ble_eq_true rfl) ⟨rfl, rfl, rfl, rfl, rfl, rfl, rfl, rfl, rfl, trivial⟩ rfl ?_
              refine jw_iload (pc' := 830) jd_law_828 rfl rfl ?_
              refine jw_iload (pc' := 832) jd_law_830 rfl rfl ?_
              refine zx_icmp_gt (tgt := 848) (pc' := 835) (by first | exact rg_iv _ _ _ | omega) (by first | exact rg_iv _ _ _ | omega) jd_law_832 (by decide) rfl (fun q6 => ?_) (fun q6 => ?_)
              · exfalso; omega
              refine jw_aload_n (pc' := 836) jd_law_835 rfl rfl rfl ?_
              refine jw_iload (pc' := 838) jd_law_836 rfl rfl ?_
              refine jw_iload (pc' := 840) jd_law_838 rfl rfl ?_
              refine zy_callV0 (pc' := 843) hR hkc hks (f_base (h.e E5) qo i (by omega) hi30 (kt qo (by omega)) hki) jm_Branchwork_base jq_792 jc_Branchwork jd_law_840 (mc_Branchwork _) rfl rfl (Nat.le_of_ble_eq_true rfl) (by omega) (by decide) rfl rfl ?_
              rw [oc]
              refine jw_iload (pc' := 845) jd_law_843 rfl rfl ?_
              refine zx_icmp_eq (tgt := 850) (pc' := 848) (by first | exact rg_iv _ _ _ | omega) (by first | exact rg_iv _ _ _ | omega) jd_law_845 (by decide) rfl (fun q7 => ?_) (fun q7 => ?_)
              rotate_left
              · exfalso; omega
              refine zx_iinc (pc' := 853) (lc' := [(1, _), (3, _), (4, _), (6, _), (7, _), (9, _), (10, _), (11, _)]) jd_law_850 rfl (Nat.le_of_ble_eq_true rfl) ⟨rfl, rfl, rfl, rfl, rfl, rfl, rfl, rfl, trivial⟩ rfl ?_
              refine jw_goto (tgt := 809) jd_law_853 (by decide) ?_
              exact kh (j + 1) s5 (by omega) E5
          exact ln (Ts i p).2.1 0 s3 (by omega) E3
      have p731 : ∀ s : zS, zE o σ s → jw_X (mi_lawN nm) o k kc ks 731 [(1, .ref (zb o)), (3, .int (iI n)), (4, .long D), (6, .int (iI i)), (7, .int (iI (f i)))] [] (mm o s) hs := by
        intro s E
        refine jw_aload_n (pc' := 732) jd_law_731 rfl rfl rfl ?_
        refine jw_iload (pc' := 734) jd_law_732 rfl rfl ?_
        refine jw_iload (pc' := 736) jd_law_734 rfl rfl ?_
        refine zy_callV (pc' := 739) hR hkc hks (f_conflictsOf (h.e E) i i hi30 hi30 hki hki) jm_Branchwork_conflictsOf jq_842 jc_Branchwork jd_law_736 (mc_Branchwork _) rfl rfl (Nat.le_of_ble_eq_true rfl) (by omega) (by decide) rfl (fun v9 s2 q9 => ?_)
        obtain ⟨rfl, -, E2⟩ := q9
        rw [cs, trV_i Ts hi30, mgF_self (okT i hi30)]
        refine zx_if_eq (tgt := 744) (pc' := 742) (by first | exact rg_iv _ _ _ | omega) jd_law_739 (by decide) rfl (fun q2 => ?_) (fun q2 => ?_)
        rotate_left
        · exfalso; omega
        refine zx_iconst (pc' := 745) (n := 0) jd_law_744 rfl ?_
        refine jw_istore (pc' := 747) (lc' := [(1, _), (3, _), (4, _), (6, _), (7, _), (9, _)]) jd_law_745 (Nat.le_of_ble_eq_true rfl) ⟨rfl, rfl, rfl, rfl, rfl, rfl, trivial⟩ rfl ?_
        exact fl 12 0 s2 (by omega) (E.trans E2)
      refine jw_iload (pc' := 628) jd_law_626 rfl rfl ?_
      refine jw_iload_n (pc' := 629) jd_law_628 rfl rfl rfl ?_
      refine zx_icmp_ge (tgt := 1018) (pc' := 632) (by first | exact rg_iv _ _ _ | omega) (by first | exact rg_iv _ _ _ | omega) jd_law_629 (by decide) rfl (fun q => ?_) (fun q => ?_)
      · exfalso; omega
      refine jw_aload_n (pc' := 633) jd_law_632 rfl rfl rfl ?_
      refine jw_iload (pc' := 635) jd_law_633 rfl rfl ?_
      refine zx_iconst (pc' := 636) (n := 0) jd_law_635 rfl ?_
      refine zy_callV0 (pc' := 639) hR hkc hks (f_of g1 i hi30 hki 0 (by omega)) jm_Branchwork_ofCommit jq_749 jc_Branchwork jd_law_636 (mc_Branchwork _) rfl rfl (Nat.le_of_ble_eq_true rfl) (by omega) (by decide) rfl rfl ?_
      refine jw_istore (pc' := 641) (lc' := [(1, _), (3, _), (4, _), (6, _), (7, _)]) jd_law_639 (Nat.le_of_ble_eq_true rfl) ⟨rfl, rfl, rfl, rfl, rfl, trivial⟩ rfl ?_
      refine jw_aload_n (pc' := 642) jd_law_641 rfl rfl rfl ?_
      refine jw_iload (pc' := 644) jd_law_642 rfl rfl ?_
      refine zx_iconst (pc' := 645) (n := 1) jd_law_644 rfl ?_
      refine zy_callV0 (pc' := 648) hR hkc hks (f_of g1 i hi30 hki 1 (by omega)) jm_Branchwork_ofCommit jq_749 jc_Branchwork jd_law_645 (mc_Branchwork _) rfl rfl (Nat.le_of_ble_eq_true rfl) (by omega) (by decide) rfl rfl ?_
      rw [show ofF Ts f g tp mg (iv s (zb o + 59) i) i 0 = f i from rfl, show ofF Ts f g tp mg (iv s (zb o + 59) i) i 1 = g i from rfl]
      refine jw_istore (pc' := 650) (lc' := [(1, _), (3, _), (4, _), (6, _), (7, _), (8, _)]) jd_law_648 (Nat.le_of_ble_eq_true rfl) ⟨rfl, rfl, rfl, rfl, rfl, rfl, trivial⟩ rfl ?_
      refine jw_iload (pc' := 652) jd_law_650 rfl rfl ?_
      refine jw_iload (pc' := 654) jd_law_652 rfl rfl ?_
      refine zx_icmp_ge (tgt := 742) (pc' := 657) (by first | exact rg_iv _ _ _ | omega) (by first | exact rg_iv _ _ _ | omega) jd_law_654 (by decide) rfl (fun q1 => ?_) (fun q1 => ?_)
      · exfalso; omega
      refine jw_iload (pc' := 659) jd_law_657 rfl rfl ?_
      refine jw_iload (pc' := 661) jd_law_659 rfl rfl ?_
      refine zx_icmp_ge (tgt := 742) (pc' := 664) (by first | exact rg_iv _ _ _ | omega) (by first | exact rg_iv _ _ _ | omega) jd_law_661 (by decide) rfl (fun q2 => ?_) (fun q2 => ?_)
      · exfalso; omega
      refine jw_aload_n (pc' := 665) jd_law_664 rfl rfl rfl ?_
      refine jw_iload (pc' := 667) jd_law_665 rfl rfl ?_
      refine zx_iconst (pc' := 668) (n := 4) jd_law_667 rfl ?_
      refine zy_callV0 (pc' := 671) hR hkc hks (f_of g1 i hi30 hki 4 (by omega)) jm_Branchwork_ofCommit jq_749 jc_Branchwork jd_law_668 (mc_Branchwork _) rfl rfl (Nat.le_of_ble_eq_true rfl) (by omega) (by decide) rfl rfl ?_
      rw [show ofF Ts f g tp mg (iv s (zb o + 59) i) i 4 = pcN (ancF f g i) from rfl]
      refine zx_iconst (pc' := 672) (n := 1) jd_law_671 rfl ?_
      refine zx_icmp_lt (tgt := 742) (pc' := 675) (by first | exact rg_iv _ _ _ | omega) (by first | exact rg_iv _ _ _ | omega) jd_law_672 (by decide) rfl (fun q3 => ?_) (fun q3 => ?_)
      · exfalso; omega
      refine jw_aload_n (pc' := 676) jd_law_675 rfl rfl rfl ?_
      refine jw_iload (pc' := 678) jd_law_676 rfl rfl ?_
      refine zx_iconst (pc' := 679) (n := 4) jd_law_678 rfl ?_
      refine zy_callV0 (pc' := 682) hR hkc hks (f_of g1 i hi30 hki 4 (by omega)) jm_Branchwork_ofCommit jq_749 jc_Branchwork jd_law_679 (mc_Branchwork _) rfl rfl (Nat.le_of_ble_eq_true rfl) (by omega) (by decide) rfl rfl ?_
      rw [show ofF Ts f g tp mg (iv s (zb o + 59) i) i 4 = pcN (ancF f g i) from rfl]
      refine jw_iload (pc' := 684) jd_law_682 rfl rfl ?_
      refine zx_iconst (pc' := 685) (n := 1) jd_law_684 rfl ?_
      refine zx_iadd (pc' := 686) jd_law_685 rfl ?_
      refine zx_icmp_gt (tgt := 742) (pc' := 689) (by first | exact rg_iv _ _ _ | omega) (by first | exact rg_iv _ _ _ | omega) jd_law_686 (by decide) rfl (fun q4 => ?_) (fun q4 => ?_)
      · exfalso; omega
      refine jw_aload_n (pc' := 690) jd_law_689 rfl rfl rfl ?_
      refine jw_iload (pc' := 692) jd_law_690 rfl rfl ?_
      refine jw_iload (pc' := 694) jd_law_692 rfl rfl ?_
      refine zy_callV0 (pc' := 697) hR hkc hks (f_base g1 i i hi30 hi30 hki hki) jm_Branchwork_base jq_792 jc_Branchwork jd_law_694 (mc_Branchwork _) rfl rfl (Nat.le_of_ble_eq_true rfl) (by omega) (by decide) rfl rfl ?_
      rw [cs]
      refine jw_iload (pc' := 699) jd_law_697 rfl rfl ?_
      refine zx_icmp_ne (tgt := 742) (pc' := 702) (by first | exact rg_iv _ _ _ | omega) (by first | exact rg_iv _ _ _ | omega) jd_law_699 (by decide) rfl (fun q5 => ?_) (fun q5 => ?_)
      · exfalso; omega
      refine jw_iload (pc' := 704) jd_law_702 rfl rfl ?_
      refine zx_if_lt (tgt := 731) (pc' := 707) (by first | exact rg_iv _ _ _ | omega) jd_law_704 (by decide) rfl (fun q6 => ?_) (fun q6 => ?_)
      · refine jw_sub (lc' := [(1, _), (3, _), (4, _), (6, _), (7, _)]) ⟨rfl, rfl, rfl, rfl, rfl, trivial⟩ ?_
        exact p731 s E
      obtain ⟨pr, hpr⟩ : ∃ m : Nat, f i = m := ⟨(f i).toNat, by omega⟩
      have hprn : pr < n := by omega
      have hkp := kt pr hprn
      have pa := ca_anc PP hn hprn (anc_par PP hin hn i anc1 pr (Or.inl hpr))
      rw [hpr]
      refine jw_aload_n (pc' := 708) jd_law_707 rfl rfl rfl ?_
      refine jw_iload (pc' := 710) jd_law_708 rfl rfl ?_
      refine jw_iload (pc' := 712) jd_law_710 rfl rfl ?_
      refine zy_callV0 (pc' := 715) hR hkc hks (f_base g1 pr i (by omega) hi30 hkp hki) jm_Branchwork_base jq_792 jc_Branchwork jd_law_712 (mc_Branchwork _) rfl rfl (Nat.le_of_ble_eq_true rfl) (by omega) (by decide) rfl rfl ?_
      rw [pa]
      refine jw_iload (pc' := 717) jd_law_715 rfl rfl ?_
      refine zx_icmp_ne (tgt := 742) (pc' := 720) (by first | exact rg_iv _ _ _ | omega) (by first | exact rg_iv _ _ _ | omega) jd_law_717 (by decide) rfl (fun q7 => ?_) (fun q7 => ?_)
      · exfalso; omega
      refine jw_aload_n (pc' := 721) jd_law_720 rfl rfl rfl ?_
      refine jw_iload (pc' := 723) jd_law_721 rfl rfl ?_
      refine jw_iload (pc' := 725) jd_law_723 rfl rfl ?_
      refine zy_callV (pc' := 728) hR hkc hks (f_conflictsOf g1 pr i (by omega) hi30 hkp hki) jm_Branchwork_conflictsOf jq_842 jc_Branchwork jd_law_725 (mc_Branchwork _) rfl rfl (Nat.le_of_ble_eq_true rfl) (by omega) (by decide) rfl (fun v9 s2 q9 => ?_)
      obtain ⟨rfl, le24, E2⟩ := q9
      have E2 := E.trans E2
      refine zx_if_lt (tgt := 742) (pc' := 731) (by first | exact rg_iv _ _ _ | omega) jd_law_728 (by decide) rfl (fun q8 => ?_) (fun q8 => ?_)
      · exfalso; omega
      rw [← hpr]
      refine jw_sub (lc' := [(1, _), (3, _), (4, _), (6, _), (7, _)]) ⟨rfl, rfl, rfl, rfl, rfl, trivial⟩ ?_
      exact p731 s2 E2
  exact loop n 0 s1 (by omega) E1
end
