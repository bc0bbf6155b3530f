theorem jd_law_0 : decode code 0 = .ok (.new 8, 3) := by decide +kernel
theorem jd_law_3 : decode code 3 = .ok (.dup, 1) := by decide +kernel
theorem jd_law_4 : decode code 4 = .ok (.invokespecial 92, 3) := by decide +kernel
theorem jd_law_7 : decode code 7 = .ok (.astore_n 1, 1) := by decide +kernel
theorem jd_law_8 : decode code 8 = .ok (.new 93, 3) := by decide +kernel
theorem jd_law_11 : decode code 11 = .ok (.dup, 1) := by decide +kernel
theorem jd_law_12 : decode code 12 = .ok (.invokespecial 95, 3) := by decide +kernel
theorem jd_law_15 : decode code 15 = .ok (.astore_n 2, 1) := by decide +kernel
theorem jd_law_16 : decode code 16 = .ok (.iconst 1, 1) := by decide +kernel
theorem jd_law_17 : decode code 17 = .ok (.newarray .long, 2) := by decide +kernel
theorem jd_law_19 : decode code 19 = .ok (.astore_n 3, 1) := by decide +kernel
theorem jd_law_20 : decode code 20 = .ok (.iconst 0, 1) := by decide +kernel
theorem jd_law_21 : decode code 21 = .ok (.istore 4, 2) := by decide +kernel
theorem jd_law_23 : decode code 23 = .ok (.iload 4, 2) := by decide +kernel
theorem jd_law_25 : decode code 25 = .ok (.aload_n 0, 1) := by decide +kernel
theorem jd_law_26 : decode code 26 = .ok (.arraylength, 1) := by decide +kernel
theorem jd_law_27 : decode code 27 = .ok (.iconst 5, 1) := by decide +kernel
theorem jd_law_28 : decode code 28 = .ok (.isub, 1) := by decide +kernel
theorem jd_law_29 : decode code 29 = .ok (.if_icmp .gt 1794, 3) := by decide +kernel
theorem jd_law_32 : decode code 32 = .ok (.aload_n 0, 1) := by decide +kernel
theorem jd_law_33 : decode code 33 = .ok (.iload 4, 2) := by decide +kernel
theorem jd_law_35 : decode code 35 = .ok (.iaload, 1) := by decide +kernel
theorem jd_law_36 : decode code 36 = .ok (.bipush 31, 2) := by decide +kernel
theorem jd_law_38 : decode code 38 = .ok (.iand, 1) := by decide +kernel
theorem jd_law_39 : decode code 39 = .ok (.tableswitch 1778 0 27 #[125, 205, 273, 341, 397, 453, 509, 553, 609, 665, 721, 777, 790, 846, 902, 958, 1026, 1106, 1174, 1242, 1310, 1390, 1470, 1562, 1642, 1710, 1723, 1764], 125) := by decide +kernel
theorem jd_law_164 : decode code 164 = .ok (.aload_n 1, 1) := by decide +kernel
theorem jd_law_165 : decode code 165 = .ok (.aload_n 0, 1) := by decide +kernel
theorem jd_law_166 : decode code 166 = .ok (.iload 4, 2) := by decide +kernel
theorem jd_law_168 : decode code 168 = .ok (.iconst 1, 1) := by decide +kernel
theorem jd_law_169 : decode code 169 = .ok (.iadd, 1) := by decide +kernel
theorem jd_law_170 : decode code 170 = .ok (.iaload, 1) := by decide +kernel
theorem jd_law_171 : decode code 171 = .ok (.aload_n 0, 1) := by decide +kernel
theorem jd_law_172 : decode code 172 = .ok (.iload 4, 2) := by decide +kernel
theorem jd_law_174 : decode code 174 = .ok (.iconst 2, 1) := by decide +kernel
theorem jd_law_175 : decode code 175 = .ok (.iadd, 1) := by decide +kernel
theorem jd_law_176 : decode code 176 = .ok (.iaload, 1) := by decide +kernel
theorem jd_law_177 : decode code 177 = .ok (.aload_n 0, 1) := by decide +kernel
theorem jd_law_178 : decode code 178 = .ok (.iload 4, 2) := by decide +kernel
theorem jd_law_180 : decode code 180 = .ok (.iconst 3, 1) := by decide +kernel
theorem jd_law_181 : decode code 181 = .ok (.iadd, 1) := by decide +kernel
theorem jd_law_182 : decode code 182 = .ok (.iaload, 1) := by decide +kernel
theorem jd_law_183 : decode code 183 = .ok (.aload_n 3, 1) := by decide +kernel
theorem jd_law_184 : decode code 184 = .ok (.invokestatic 96, 3) := by decide +kernel
theorem jd_law_187 : decode code 187 = .ok (.istore 5, 2) := by decide +kernel
theorem jd_law_189 : decode code 189 = .ok (.aload_n 2, 1) := by decide +kernel
theorem jd_law_190 : decode code 190 = .ok (.aload_n 0, 1) := by decide +kernel
theorem jd_law_191 : decode code 191 = .ok (.iload 4, 2) := by decide +kernel
theorem jd_law_193 : decode code 193 = .ok (.iconst 1, 1) := by decide +kernel
theorem jd_law_194 : decode code 194 = .ok (.iadd, 1) := by decide +kernel
theorem jd_law_195 : decode code 195 = .ok (.iaload, 1) := by decide +kernel
theorem jd_law_196 : decode code 196 = .ok (.aload_n 0, 1) := by decide +kernel
theorem jd_law_197 : decode code 197 = .ok (.iload 4, 2) := by decide +kernel
theorem jd_law_199 : decode code 199 = .ok (.iconst 2, 1) := by decide +kernel
theorem jd_law_200 : decode code 200 = .ok (.iadd, 1) := by decide +kernel
theorem jd_law_201 : decode code 201 = .ok (.iaload, 1) := by decide +kernel
theorem jd_law_202 : decode code 202 = .ok (.aload_n 0, 1) := by decide +kernel
theorem jd_law_203 : decode code 203 = .ok (.iload 4, 2) := by decide +kernel
theorem jd_law_205 : decode code 205 = .ok (.iconst 3, 1) := by decide +kernel
theorem jd_law_206 : decode code 206 = .ok (.iadd, 1) := by decide +kernel
theorem jd_law_207 : decode code 207 = .ok (.iaload, 1) := by decide +kernel
theorem jd_law_208 : decode code 208 = .ok (.invokevirtual 101, 3) := by decide +kernel
theorem jd_law_211 : decode code 211 = .ok (.istore 6, 2) := by decide +kernel
theorem jd_law_213 : decode code 213 = .ok (.aload_n 2, 1) := by decide +kernel
theorem jd_law_214 : decode code 214 = .ok (.invokevirtual 102, 3) := by decide +kernel
theorem jd_law_217 : decode code 217 = .ok (.iload 5, 2) := by decide +kernel
theorem jd_law_219 : decode code 219 = .ok (.if_icmp .eq 5, 3) := by decide +kernel
theorem jd_law_222 : decode code 222 = .ok (.iconst 0, 1) := by decide +kernel
theorem jd_law_223 : decode code 223 = .ok (.ireturn, 1) := by decide +kernel
theorem jd_law_224 : decode code 224 = .ok (.iload 5, 2) := by decide +kernel
theorem jd_law_226 : decode code 226 = .ok (.ifCond .ne 15, 3) := by decide +kernel
theorem jd_law_229 : decode code 229 = .ok (.aload_n 3, 1) := by decide +kernel
theorem jd_law_230 : decode code 230 = .ok (.iconst 0, 1) := by decide +kernel
theorem jd_law_231 : decode code 231 = .ok (.laload, 1) := by decide +kernel
theorem jd_law_232 : decode code 232 = .ok (.iload 6, 2) := by decide +kernel
theorem jd_law_234 : decode code 234 = .ok (.i2l, 1) := by decide +kernel
theorem jd_law_235 : decode code 235 = .ok (.lcmp, 1) := by decide +kernel
theorem jd_law_236 : decode code 236 = .ok (.ifCond .eq 5, 3) := by decide +kernel
theorem jd_law_239 : decode code 239 = .ok (.iconst 0, 1) := by decide +kernel
theorem jd_law_240 : decode code 240 = .ok (.ireturn, 1) := by decide +kernel
theorem jd_law_241 : decode code 241 = .ok (.goto 1576, 3) := by decide +kernel
theorem jd_law_244 : decode code 244 = .ok (.aload_n 1, 1) := by decide +kernel
theorem jd_law_245 : decode code 245 = .ok (.aload_n 0, 1) := by decide +kernel
theorem jd_law_246 : decode code 246 = .ok (.iload 4, 2) := by decide +kernel
theorem jd_law_248 : decode code 248 = .ok (.iconst 1, 1) := by decide +kernel
theorem jd_law_249 : decode code 249 = .ok (.iadd, 1) := by decide +kernel
theorem jd_law_250 : decode code 250 = .ok (.iaload, 1) := by decide +kernel
theorem jd_law_251 : decode code 251 = .ok (.aload_n 0, 1) := by decide +kernel
theorem jd_law_252 : decode code 252 = .ok (.iload 4, 2) := by decide +kernel
theorem jd_law_254 : decode code 254 = .ok (.iconst 2, 1) := by decide +kernel
theorem jd_law_255 : decode code 255 = .ok (.iadd, 1) := by decide +kernel
theorem jd_law_256 : decode code 256 = .ok (.iaload, 1) := by decide +kernel
theorem jd_law_257 : decode code 257 = .ok (.aload_n 3, 1) := by decide +kernel
theorem jd_law_258 : decode code 258 = .ok (.invokestatic 105, 3) := by decide +kernel
theorem jd_law_261 : decode code 261 = .ok (.istore 5, 2) := by decide +kernel
theorem jd_law_263 : decode code 263 = .ok (.aload_n 2, 1) := by decide +kernel
theorem jd_law_264 : decode code 264 = .ok (.aload_n 0, 1) := by decide +kernel
theorem jd_law_265 : decode code 265 = .ok (.iload 4, 2) := by decide +kernel
theorem jd_law_267 : decode code 267 = .ok (.iconst 1, 1) := by decide +kernel
theorem jd_law_268 : decode code 268 = .ok (.iadd, 1) := by decide +kernel
theorem jd_law_269 : decode code 269 = .ok (.iaload, 1) := by decide +kernel
theorem jd_law_270 : decode code 270 = .ok (.aload_n 0, 1) := by decide +kernel
theorem jd_law_271 : decode code 271 = .ok (.iload 4, 2) := by decide +kernel
theorem jd_law_273 : decode code 273 = .ok (.iconst 2, 1) := by decide +kernel
theorem jd_law_274 : decode code 274 = .ok (.iadd, 1) := by decide +kernel
theorem jd_law_275 : decode code 275 = .ok (.iaload, 1) := by decide +kernel
theorem jd_law_276 : decode code 276 = .ok (.invokevirtual 108, 3) := by decide +kernel
theorem jd_law_279 : decode code 279 = .ok (.istore 6, 2) := by decide +kernel
theorem jd_law_281 : decode code 281 = .ok (.aload_n 2, 1) := by decide +kernel
theorem jd_law_282 : decode code 282 = .ok (.invokevirtual 102, 3) := by decide +kernel
theorem jd_law_285 : decode code 285 = .ok (.iload 5, 2) := by decide +kernel
theorem jd_law_287 : decode code 287 = .ok (.if_icmp .eq 5, 3) := by decide +kernel
theorem jd_law_290 : decode code 290 = .ok (.iconst 0, 1) := by decide +kernel
theorem jd_law_291 : decode code 291 = .ok (.ireturn, 1) := by decide +kernel
theorem jd_law_292 : decode code 292 = .ok (.iload 5, 2) := by decide +kernel
theorem jd_law_294 : decode code 294 = .ok (.ifCond .ne 15, 3) := by decide +kernel
theorem jd_law_297 : decode code 297 = .ok (.aload_n 3, 1) := by decide +kernel
theorem jd_law_298 : decode code 298 = .ok (.iconst 0, 1) := by decide +kernel
theorem jd_law_299 : decode code 299 = .ok (.laload, 1) := by decide +kernel
theorem jd_law_300 : decode code 300 = .ok (.iload 6, 2) := by decide +kernel
theorem jd_law_302 : decode code 302 = .ok (.i2l, 1) := by decide +kernel
theorem jd_law_303 : decode code 303 = .ok (.lcmp, 1) := by decide +kernel
theorem jd_law_304 : decode code 304 = .ok (.ifCond .eq 5, 3) := by decide +kernel
theorem jd_law_307 : decode code 307 = .ok (.iconst 0, 1) := by decide +kernel
theorem jd_law_308 : decode code 308 = .ok (.ireturn, 1) := by decide +kernel
theorem jd_law_309 : decode code 309 = .ok (.goto 1508, 3) := by decide +kernel
theorem jd_law_312 : decode code 312 = .ok (.aload_n 1, 1) := by decide +kernel
theorem jd_law_313 : decode code 313 = .ok (.aload_n 0, 1) := by decide +kernel
theorem jd_law_314 : decode code 314 = .ok (.iload 4, 2) := by decide +kernel
theorem jd_law_316 : decode code 316 = .ok (.iconst 1, 1) := by decide +kernel
theorem jd_law_317 : decode code 317 = .ok (.iadd, 1) := by decide +kernel
theorem jd_law_318 : decode code 318 = .ok (.iaload, 1) := by decide +kernel
theorem jd_law_319 : decode code 319 = .ok (.aload_n 0, 1) := by decide +kernel
theorem jd_law_320 : decode code 320 = .ok (.iload 4, 2) := by decide +kernel
theorem jd_law_322 : decode code 322 = .ok (.iconst 2, 1) := by decide +kernel
theorem jd_law_323 : decode code 323 = .ok (.iadd, 1) := by decide +kernel
theorem jd_law_324 : decode code 324 = .ok (.iaload, 1) := by decide +kernel
theorem jd_law_325 : decode code 325 = .ok (.aload_n 3, 1) := by decide +kernel
theorem jd_law_326 : decode code 326 = .ok (.invokestatic 109, 3) := by decide +kernel
theorem jd_law_329 : decode code 329 = .ok (.istore 5, 2) := by decide +kernel
theorem jd_law_331 : decode code 331 = .ok (.aload_n 2, 1) := by decide +kernel
theorem jd_law_332 : decode code 332 = .ok (.aload_n 0, 1) := by decide +kernel
theorem jd_law_333 : decode code 333 = .ok (.iload 4, 2) := by decide +kernel
theorem jd_law_335 : decode code 335 = .ok (.iconst 1, 1) := by decide +kernel
theorem jd_law_336 : decode code 336 = .ok (.iadd, 1) := by decide +kernel
theorem jd_law_337 : decode code 337 = .ok (.iaload, 1) := by decide +kernel
theorem jd_law_338 : decode code 338 = .ok (.aload_n 0, 1) := by decide +kernel
theorem jd_law_339 : decode code 339 = .ok (.iload 4, 2) := by decide +kernel
theorem jd_law_341 : decode code 341 = .ok (.iconst 2, 1) := by decide +kernel
theorem jd_law_342 : decode code 342 = .ok (.iadd, 1) := by decide +kernel
theorem jd_law_343 : decode code 343 = .ok (.iaload, 1) := by decide +kernel
theorem jd_law_344 : decode code 344 = .ok (.invokevirtual 111, 3) := by decide +kernel
theorem jd_law_347 : decode code 347 = .ok (.istore 6, 2) := by decide +kernel
theorem jd_law_349 : decode code 349 = .ok (.aload_n 2, 1) := by decide +kernel
theorem jd_law_350 : decode code 350 = .ok (.invokevirtual 102, 3) := by decide +kernel
theorem jd_law_353 : decode code 353 = .ok (.iload 5, 2) := by decide +kernel
theorem jd_law_355 : decode code 355 = .ok (.if_icmp .eq 5, 3) := by decide +kernel
theorem jd_law_358 : decode code 358 = .ok (.iconst 0, 1) := by decide +kernel
theorem jd_law_359 : decode code 359 = .ok (.ireturn, 1) := by decide +kernel
theorem jd_law_360 : decode code 360 = .ok (.iload 5, 2) := by decide +kernel
theorem jd_law_362 : decode code 362 = .ok (.ifCond .ne 15, 3) := by decide +kernel
theorem jd_law_365 : decode code 365 = .ok (.aload_n 3, 1) := by decide +kernel
theorem jd_law_366 : decode code 366 = .ok (.iconst 0, 1) := by decide +kernel
theorem jd_law_367 : decode code 367 = .ok (.laload, 1) := by decide +kernel
theorem jd_law_368 : decode code 368 = .ok (.iload 6, 2) := by decide +kernel
theorem jd_law_370 : decode code 370 = .ok (.i2l, 1) := by decide +kernel
theorem jd_law_371 : decode code 371 = .ok (.lcmp, 1) := by decide +kernel
theorem jd_law_372 : decode code 372 = .ok (.ifCond .eq 5, 3) := by decide +kernel
theorem jd_law_375 : decode code 375 = .ok (.iconst 0, 1) := by decide +kernel
theorem jd_law_376 : decode code 376 = .ok (.ireturn, 1) := by decide +kernel
theorem jd_law_377 : decode code 377 = .ok (.goto 1440, 3) := by decide +kernel
theorem jd_law_380 : decode code 380 = .ok (.aload_n 1, 1) := by decide +kernel
theorem jd_law_381 : decode code 381 = .ok (.aload_n 0, 1) := by decide +kernel
theorem jd_law_382 : decode code 382 = .ok (.iload 4, 2) := by decide +kernel
theorem jd_law_384 : decode code 384 = .ok (.iconst 1, 1) := by decide +kernel
theorem jd_law_385 : decode code 385 = .ok (.iadd, 1) := by decide +kernel
theorem jd_law_386 : decode code 386 = .ok (.iaload, 1) := by decide +kernel
theorem jd_law_387 : decode code 387 = .ok (.aload_n 3, 1) := by decide +kernel
theorem jd_law_388 : decode code 388 = .ok (.invokestatic 112, 3) := by decide +kernel
theorem jd_law_391 : decode code 391 = .ok (.istore 5, 2) := by decide +kernel
theorem jd_law_393 : decode code 393 = .ok (.aload_n 2, 1) := by decide +kernel
theorem jd_law_394 : decode code 394 = .ok (.aload_n 0, 1) := by decide +kernel
theorem jd_law_395 : decode code 395 = .ok (.iload 4, 2) := by decide +kernel
theorem jd_law_397 : decode code 397 = .ok (.iconst 1, 1) := by decide +kernel
theorem jd_law_398 : decode code 398 = .ok (.iadd, 1) := by decide +kernel
theorem jd_law_399 : decode code 399 = .ok (.iaload, 1) := by decide +kernel
theorem jd_law_400 : decode code 400 = .ok (.invokevirtual 115, 3) := by decide +kernel
theorem jd_law_403 : decode code 403 = .ok (.istore 6, 2) := by decide +kernel
theorem jd_law_405 : decode code 405 = .ok (.aload_n 2, 1) := by decide +kernel
theorem jd_law_406 : decode code 406 = .ok (.invokevirtual 102, 3) := by decide +kernel
theorem jd_law_409 : decode code 409 = .ok (.iload 5, 2) := by decide +kernel
theorem jd_law_411 : decode code 411 = .ok (.if_icmp .eq 5, 3) := by decide +kernel
theorem jd_law_414 : decode code 414 = .ok (.iconst 0, 1) := by decide +kernel
theorem jd_law_415 : decode code 415 = .ok (.ireturn, 1) := by decide +kernel
theorem jd_law_416 : decode code 416 = .ok (.iload 5, 2) := by decide +kernel
theorem jd_law_418 : decode code 418 = .ok (.ifCond .ne 15, 3) := by decide +kernel
theorem jd_law_421 : decode code 421 = .ok (.aload_n 3, 1) := by decide +kernel
theorem jd_law_422 : decode code 422 = .ok (.iconst 0, 1) := by decide +kernel
theorem jd_law_423 : decode code 423 = .ok (.laload, 1) := by decide +kernel
theorem jd_law_424 : decode code 424 = .ok (.iload 6, 2) := by decide +kernel
theorem jd_law_426 : decode code 426 = .ok (.i2l, 1) := by decide +kernel
theorem jd_law_427 : decode code 427 = .ok (.lcmp, 1) := by decide +kernel
theorem jd_law_428 : decode code 428 = .ok (.ifCond .eq 5, 3) := by decide +kernel
theorem jd_law_431 : decode code 431 = .ok (.iconst 0, 1) := by decide +kernel
theorem jd_law_432 : decode code 432 = .ok (.ireturn, 1) := by decide +kernel
theorem jd_law_433 : decode code 433 = .ok (.goto 1384, 3) := by decide +kernel
theorem jd_law_436 : decode code 436 = .ok (.aload_n 1, 1) := by decide +kernel
theorem jd_law_437 : decode code 437 = .ok (.aload_n 0, 1) := by decide +kernel
theorem jd_law_438 : decode code 438 = .ok (.iload 4, 2) := by decide +kernel
theorem jd_law_440 : decode code 440 = .ok (.iconst 1, 1) := by decide +kernel
theorem jd_law_441 : decode code 441 = .ok (.iadd, 1) := by decide +kernel
theorem jd_law_442 : decode code 442 = .ok (.iaload, 1) := by decide +kernel
theorem jd_law_443 : decode code 443 = .ok (.aload_n 3, 1) := by decide +kernel
theorem jd_law_444 : decode code 444 = .ok (.invokestatic 116, 3) := by decide +kernel
theorem jd_law_447 : decode code 447 = .ok (.istore 5, 2) := by decide +kernel
theorem jd_law_449 : decode code 449 = .ok (.aload_n 2, 1) := by decide +kernel
theorem jd_law_450 : decode code 450 = .ok (.aload_n 0, 1) := by decide +kernel
theorem jd_law_451 : decode code 451 = .ok (.iload 4, 2) := by decide +kernel
theorem jd_law_453 : decode code 453 = .ok (.iconst 1, 1) := by decide +kernel
theorem jd_law_454 : decode code 454 = .ok (.iadd, 1) := by decide +kernel
theorem jd_law_455 : decode code 455 = .ok (.iaload, 1) := by decide +kernel
theorem jd_law_456 : decode code 456 = .ok (.invokevirtual 118, 3) := by decide +kernel
theorem jd_law_459 : decode code 459 = .ok (.istore 6, 2) := by decide +kernel
theorem jd_law_461 : decode code 461 = .ok (.aload_n 2, 1) := by decide +kernel
theorem jd_law_462 : decode code 462 = .ok (.invokevirtual 102, 3) := by decide +kernel
theorem jd_law_465 : decode code 465 = .ok (.iload 5, 2) := by decide +kernel
theorem jd_law_467 : decode code 467 = .ok (.if_icmp .eq 5, 3) := by decide +kernel
theorem jd_law_470 : decode code 470 = .ok (.iconst 0, 1) := by decide +kernel
theorem jd_law_471 : decode code 471 = .ok (.ireturn, 1) := by decide +kernel
theorem jd_law_472 : decode code 472 = .ok (.iload 5, 2) := by decide +kernel
theorem jd_law_474 : decode code 474 = .ok (.ifCond .ne 15, 3) := by decide +kernel
theorem jd_law_477 : decode code 477 = .ok (.aload_n 3, 1) := by decide +kernel
theorem jd_law_478 : decode code 478 = .ok (.iconst 0, 1) := by decide +kernel
theorem jd_law_479 : decode code 479 = .ok (.laload, 1) := by decide +kernel
theorem jd_law_480 : decode code 480 = .ok (.iload 6, 2) := by decide +kernel
theorem jd_law_482 : decode code 482 = .ok (.i2l, 1) := by decide +kernel
theorem jd_law_483 : decode code 483 = .ok (.lcmp, 1) := by decide +kernel
theorem jd_law_484 : decode code 484 = .ok (.ifCond .eq 5, 3) := by decide +kernel
theorem jd_law_487 : decode code 487 = .ok (.iconst 0, 1) := by decide +kernel
theorem jd_law_488 : decode code 488 = .ok (.ireturn, 1) := by decide +kernel
theorem jd_law_489 : decode code 489 = .ok (.goto 1328, 3) := by decide +kernel
theorem jd_law_492 : decode code 492 = .ok (.aload_n 1, 1) := by decide +kernel
theorem jd_law_493 : decode code 493 = .ok (.aload_n 0, 1) := by decide +kernel
theorem jd_law_494 : decode code 494 = .ok (.iload 4, 2) := by decide +kernel
theorem jd_law_496 : decode code 496 = .ok (.iconst 1, 1) := by decide +kernel
theorem jd_law_497 : decode code 497 = .ok (.iadd, 1) := by decide +kernel
theorem jd_law_498 : decode code 498 = .ok (.iaload, 1) := by decide +kernel
theorem jd_law_499 : decode code 499 = .ok (.aload_n 3, 1) := by decide +kernel
theorem jd_law_500 : decode code 500 = .ok (.invokestatic 119, 3) := by decide +kernel
theorem jd_law_503 : decode code 503 = .ok (.istore 5, 2) := by decide +kernel
theorem jd_law_505 : decode code 505 = .ok (.aload_n 2, 1) := by decide +kernel
theorem jd_law_506 : decode code 506 = .ok (.aload_n 0, 1) := by decide +kernel
theorem jd_law_507 : decode code 507 = .ok (.iload 4, 2) := by decide +kernel
theorem jd_law_509 : decode code 509 = .ok (.iconst 1, 1) := by decide +kernel
theorem jd_law_510 : decode code 510 = .ok (.iadd, 1) := by decide +kernel
theorem jd_law_511 : decode code 511 = .ok (.iaload, 1) := by decide +kernel
theorem jd_law_512 : decode code 512 = .ok (.invokevirtual 121, 3) := by decide +kernel
theorem jd_law_515 : decode code 515 = .ok (.istore 6, 2) := by decide +kernel
theorem jd_law_517 : decode code 517 = .ok (.aload_n 2, 1) := by decide +kernel
theorem jd_law_518 : decode code 518 = .ok (.invokevirtual 102, 3) := by decide +kernel
theorem jd_law_521 : decode code 521 = .ok (.iload 5, 2) := by decide +kernel
theorem jd_law_523 : decode code 523 = .ok (.if_icmp .eq 5, 3) := by decide +kernel
theorem jd_law_526 : decode code 526 = .ok (.iconst 0, 1) := by decide +kernel
theorem jd_law_527 : decode code 527 = .ok (.ireturn, 1) := by decide +kernel
theorem jd_law_528 : decode code 528 = .ok (.iload 5, 2) := by decide +kernel
theorem jd_law_530 : decode code 530 = .ok (.ifCond .ne 15, 3) := by decide +kernel
theorem jd_law_533 : decode code 533 = .ok (.aload_n 3, 1) := by decide +kernel
theorem jd_law_534 : decode code 534 = .ok (.iconst 0, 1) := by decide +kernel
theorem jd_law_535 : decode code 535 = .ok (.laload, 1) := by decide +kernel
theorem jd_law_536 : decode code 536 = .ok (.iload 6, 2) := by decide +kernel
theorem jd_law_538 : decode code 538 = .ok (.i2l, 1) := by decide +kernel
theorem jd_law_539 : decode code 539 = .ok (.lcmp, 1) := by decide +kernel
theorem jd_law_540 : decode code 540 = .ok (.ifCond .eq 5, 3) := by decide +kernel
theorem jd_law_543 : decode code 543 = .ok (.iconst 0, 1) := by decide +kernel
theorem jd_law_544 : decode code 544 = .ok (.ireturn, 1) := by decide +kernel
theorem jd_law_545 : decode code 545 = .ok (.goto 1272, 3) := by decide +kernel
theorem jd_law_548 : decode code 548 = .ok (.aload_n 1, 1) := by decide +kernel
theorem jd_law_549 : decode code 549 = .ok (.aload_n 3, 1) := by decide +kernel
theorem jd_law_550 : decode code 550 = .ok (.invokestatic 122, 3) := by decide +kernel
theorem jd_law_553 : decode code 553 = .ok (.istore 5, 2) := by decide +kernel
theorem jd_law_555 : decode code 555 = .ok (.aload_n 2, 1) := by decide +kernel
theorem jd_law_556 : decode code 556 = .ok (.invokevirtual 125, 3) := by decide +kernel
theorem jd_law_559 : decode code 559 = .ok (.istore 6, 2) := by decide +kernel
theorem jd_law_561 : decode code 561 = .ok (.aload_n 2, 1) := by decide +kernel
theorem jd_law_562 : decode code 562 = .ok (.invokevirtual 102, 3) := by decide +kernel
theorem jd_law_565 : decode code 565 = .ok (.iload 5, 2) := by decide +kernel
theorem jd_law_567 : decode code 567 = .ok (.if_icmp .eq 5, 3) := by decide +kernel
theorem jd_law_570 : decode code 570 = .ok (.iconst 0, 1) := by decide +kernel
theorem jd_law_571 : decode code 571 = .ok (.ireturn, 1) := by decide +kernel
theorem jd_law_572 : decode code 572 = .ok (.iload 5, 2) := by decide +kernel
theorem jd_law_574 : decode code 574 = .ok (.ifCond .ne 15, 3) := by decide +kernel
theorem jd_law_577 : decode code 577 = .ok (.aload_n 3, 1) := by decide +kernel
theorem jd_law_578 : decode code 578 = .ok (.iconst 0, 1) := by decide +kernel
theorem jd_law_579 : decode code 579 = .ok (.laload, 1) := by decide +kernel
theorem jd_law_580 : decode code 580 = .ok (.iload 6, 2) := by decide +kernel
theorem jd_law_582 : decode code 582 = .ok (.i2l, 1) := by decide +kernel
theorem jd_law_583 : decode code 583 = .ok (.lcmp, 1) := by decide +kernel
theorem jd_law_584 : decode code 584 = .ok (.ifCond .eq 5, 3) := by decide +kernel
theorem jd_law_587 : decode code 587 = .ok (.iconst 0, 1) := by decide +kernel
theorem jd_law_588 : decode code 588 = .ok (.ireturn, 1) := by decide +kernel
theorem jd_law_589 : decode code 589 = .ok (.goto 1228, 3) := by decide +kernel
theorem jd_law_592 : decode code 592 = .ok (.aload_n 1, 1) := by decide +kernel
theorem jd_law_593 : decode code 593 = .ok (.aload_n 0, 1) := by decide +kernel
theorem jd_law_594 : decode code 594 = .ok (.iload 4, 2) := by decide +kernel
theorem jd_law_596 : decode code 596 = .ok (.iconst 1, 1) := by decide +kernel
theorem jd_law_597 : decode code 597 = .ok (.iadd, 1) := by decide +kernel
theorem jd_law_598 : decode code 598 = .ok (.iaload, 1) := by decide +kernel
theorem jd_law_599 : decode code 599 = .ok (.aload_n 3, 1) := by decide +kernel
theorem jd_law_600 : decode code 600 = .ok (.invokestatic 126, 3) := by decide +kernel
theorem jd_law_603 : decode code 603 = .ok (.istore 5, 2) := by decide +kernel
theorem jd_law_605 : decode code 605 = .ok (.aload_n 2, 1) := by decide +kernel
theorem jd_law_606 : decode code 606 = .ok (.aload_n 0, 1) := by decide +kernel
theorem jd_law_607 : decode code 607 = .ok (.iload 4, 2) := by decide +kernel
theorem jd_law_609 : decode code 609 = .ok (.iconst 1, 1) := by decide +kernel
theorem jd_law_610 : decode code 610 = .ok (.iadd, 1) := by decide +kernel
theorem jd_law_611 : decode code 611 = .ok (.iaload, 1) := by decide +kernel
theorem jd_law_612 : decode code 612 = .ok (.invokevirtual 128, 3) := by decide +kernel
theorem jd_law_615 : decode code 615 = .ok (.istore 6, 2) := by decide +kernel
theorem jd_law_617 : decode code 617 = .ok (.aload_n 2, 1) := by decide +kernel
theorem jd_law_618 : decode code 618 = .ok (.invokevirtual 102, 3) := by decide +kernel
theorem jd_law_621 : decode code 621 = .ok (.iload 5, 2) := by decide +kernel
theorem jd_law_623 : decode code 623 = .ok (.if_icmp .eq 5, 3) := by decide +kernel
theorem jd_law_626 : decode code 626 = .ok (.iconst 0, 1) := by decide +kernel
theorem jd_law_627 : decode code 627 = .ok (.ireturn, 1) := by decide +kernel
theorem jd_law_628 : decode code 628 = .ok (.iload 5, 2) := by decide +kernel
theorem jd_law_630 : decode code 630 = .ok (.ifCond .ne 15, 3) := by decide +kernel
theorem jd_law_633 : decode code 633 = .ok (.aload_n 3, 1) := by decide +kernel
theorem jd_law_634 : decode code 634 = .ok (.iconst 0, 1) := by decide +kernel
theorem jd_law_635 : decode code 635 = .ok (.laload, 1) := by decide +kernel
theorem jd_law_636 : decode code 636 = .ok (.iload 6, 2) := by decide +kernel
theorem jd_law_638 : decode code 638 = .ok (.i2l, 1) := by decide +kernel
theorem jd_law_639 : decode code 639 = .ok (.lcmp, 1) := by decide +kernel
theorem jd_law_640 : decode code 640 = .ok (.ifCond .eq 5, 3) := by decide +kernel
theorem jd_law_643 : decode code 643 = .ok (.iconst 0, 1) := by decide +kernel
theorem jd_law_644 : decode code 644 = .ok (.ireturn, 1) := by decide +kernel
theorem jd_law_645 : decode code 645 = .ok (.goto 1172, 3) := by decide +kernel
theorem jd_law_648 : decode code 648 = .ok (.aload_n 1, 1) := by decide +kernel
theorem jd_law_649 : decode code 649 = .ok (.aload_n 0, 1) := by decide +kernel
theorem jd_law_650 : decode code 650 = .ok (.iload 4, 2) := by decide +kernel
theorem jd_law_652 : decode code 652 = .ok (.iconst 1, 1) := by decide +kernel
theorem jd_law_653 : decode code 653 = .ok (.iadd, 1) := by decide +kernel
theorem jd_law_654 : decode code 654 = .ok (.iaload, 1) := by decide +kernel
theorem jd_law_655 : decode code 655 = .ok (.aload_n 3, 1) := by decide +kernel
theorem jd_law_656 : decode code 656 = .ok (.invokestatic 129, 3) := by decide +kernel
theorem jd_law_659 : decode code 659 = .ok (.istore 5, 2) := by decide +kernel
theorem jd_law_661 : decode code 661 = .ok (.aload_n 2, 1) := by decide +kernel
theorem jd_law_662 : decode code 662 = .ok (.aload_n 0, 1) := by decide +kernel
theorem jd_law_663 : decode code 663 = .ok (.iload 4, 2) := by decide +kernel
theorem jd_law_665 : decode code 665 = .ok (.iconst 1, 1) := by decide +kernel
theorem jd_law_666 : decode code 666 = .ok (.iadd, 1) := by decide +kernel
theorem jd_law_667 : decode code 667 = .ok (.iaload, 1) := by decide +kernel
theorem jd_law_668 : decode code 668 = .ok (.invokevirtual 131, 3) := by decide +kernel
theorem jd_law_671 : decode code 671 = .ok (.istore 6, 2) := by decide +kernel
theorem jd_law_673 : decode code 673 = .ok (.aload_n 2, 1) := by decide +kernel
theorem jd_law_674 : decode code 674 = .ok (.invokevirtual 102, 3) := by decide +kernel
theorem jd_law_677 : decode code 677 = .ok (.iload 5, 2) := by decide +kernel
theorem jd_law_679 : decode code 679 = .ok (.if_icmp .eq 5, 3) := by decide +kernel
theorem jd_law_682 : decode code 682 = .ok (.iconst 0, 1) := by decide +kernel
theorem jd_law_683 : decode code 683 = .ok (.ireturn, 1) := by decide +kernel
theorem jd_law_684 : decode code 684 = .ok (.iload 5, 2) := by decide +kernel
theorem jd_law_686 : decode code 686 = .ok (.ifCond .ne 15, 3) := by decide +kernel
theorem jd_law_689 : decode code 689 = .ok (.aload_n 3, 1) := by decide +kernel
theorem jd_law_690 : decode code 690 = .ok (.iconst 0, 1) := by decide +kernel
theorem jd_law_691 : decode code 691 = .ok (.laload, 1) := by decide +kernel
theorem jd_law_692 : decode code 692 = .ok (.iload 6, 2) := by decide +kernel
theorem jd_law_694 : decode code 694 = .ok (.i2l, 1) := by decide +kernel
theorem jd_law_695 : decode code 695 = .ok (.lcmp, 1) := by decide +kernel
theorem jd_law_696 : decode code 696 = .ok (.ifCond .eq 5, 3) := by decide +kernel
theorem jd_law_699 : decode code 699 = .ok (.iconst 0, 1) := by decide +kernel
theorem jd_law_700 : decode code 700 = .ok (.ireturn, 1) := by decide +kernel
theorem jd_law_701 : decode code 701 = .ok (.goto 1116, 3) := by decide +kernel
theorem jd_law_704 : decode code 704 = .ok (.aload_n 1, 1) := by decide +kernel
theorem jd_law_705 : decode code 705 = .ok (.aload_n 0, 1) := by decide +kernel
theorem jd_law_706 : decode code 706 = .ok (.iload 4, 2) := by decide +kernel
theorem jd_law_708 : decode code 708 = .ok (.iconst 1, 1) := by decide +kernel
theorem jd_law_709 : decode code 709 = .ok (.iadd, 1) := by decide +kernel
theorem jd_law_710 : decode code 710 = .ok (.iaload, 1) := by decide +kernel
theorem jd_law_711 : decode code 711 = .ok (.aload_n 3, 1) := by decide +kernel
theorem jd_law_712 : decode code 712 = .ok (.invokestatic 132, 3) := by decide +kernel
theorem jd_law_715 : decode code 715 = .ok (.istore 5, 2) := by decide +kernel
theorem jd_law_717 : decode code 717 = .ok (.aload_n 2, 1) := by decide +kernel
theorem jd_law_718 : decode code 718 = .ok (.aload_n 0, 1) := by decide +kernel
theorem jd_law_719 : decode code 719 = .ok (.iload 4, 2) := by decide +kernel
theorem jd_law_721 : decode code 721 = .ok (.iconst 1, 1) := by decide +kernel
theorem jd_law_722 : decode code 722 = .ok (.iadd, 1) := by decide +kernel
theorem jd_law_723 : decode code 723 = .ok (.iaload, 1) := by decide +kernel
theorem jd_law_724 : decode code 724 = .ok (.invokevirtual 134, 3) := by decide +kernel
theorem jd_law_727 : decode code 727 = .ok (.istore 6, 2) := by decide +kernel
theorem jd_law_729 : decode code 729 = .ok (.aload_n 2, 1) := by decide +kernel
theorem jd_law_730 : decode code 730 = .ok (.invokevirtual 102, 3) := by decide +kernel
theorem jd_law_733 : decode code 733 = .ok (.iload 5, 2) := by decide +kernel
theorem jd_law_735 : decode code 735 = .ok (.if_icmp .eq 5, 3) := by decide +kernel
theorem jd_law_738 : decode code 738 = .ok (.iconst 0, 1) := by decide +kernel
theorem jd_law_739 : decode code 739 = .ok (.ireturn, 1) := by decide +kernel
theorem jd_law_740 : decode code 740 = .ok (.iload 5, 2) := by decide +kernel
theorem jd_law_742 : decode code 742 = .ok (.ifCond .ne 15, 3) := by decide +kernel
theorem jd_law_745 : decode code 745 = .ok (.aload_n 3, 1) := by decide +kernel
theorem jd_law_746 : decode code 746 = .ok (.iconst 0, 1) := by decide +kernel
theorem jd_law_747 : decode code 747 = .ok (.laload, 1) := by decide +kernel
theorem jd_law_748 : decode code 748 = .ok (.iload 6, 2) := by decide +kernel
theorem jd_law_750 : decode code 750 = .ok (.i2l, 1) := by decide +kernel
theorem jd_law_751 : decode code 751 = .ok (.lcmp, 1) := by decide +kernel
theorem jd_law_752 : decode code 752 = .ok (.ifCond .eq 5, 3) := by decide +kernel
theorem jd_law_755 : decode code 755 = .ok (.iconst 0, 1) := by decide +kernel
theorem jd_law_756 : decode code 756 = .ok (.ireturn, 1) := by decide +kernel
theorem jd_law_757 : decode code 757 = .ok (.goto 1060, 3) := by decide +kernel
theorem jd_law_760 : decode code 760 = .ok (.aload_n 1, 1) := by decide +kernel
theorem jd_law_761 : decode code 761 = .ok (.aload_n 0, 1) := by decide +kernel
theorem jd_law_762 : decode code 762 = .ok (.iload 4, 2) := by decide +kernel
theorem jd_law_764 : decode code 764 = .ok (.iconst 1, 1) := by decide +kernel
theorem jd_law_765 : decode code 765 = .ok (.iadd, 1) := by decide +kernel
theorem jd_law_766 : decode code 766 = .ok (.iaload, 1) := by decide +kernel
theorem jd_law_767 : decode code 767 = .ok (.aload_n 3, 1) := by decide +kernel
theorem jd_law_768 : decode code 768 = .ok (.invokestatic 135, 3) := by decide +kernel
theorem jd_law_771 : decode code 771 = .ok (.istore 5, 2) := by decide +kernel
theorem jd_law_773 : decode code 773 = .ok (.aload_n 2, 1) := by decide +kernel
theorem jd_law_774 : decode code 774 = .ok (.aload_n 0, 1) := by decide +kernel
theorem jd_law_775 : decode code 775 = .ok (.iload 4, 2) := by decide +kernel
theorem jd_law_777 : decode code 777 = .ok (.iconst 1, 1) := by decide +kernel
theorem jd_law_778 : decode code 778 = .ok (.iadd, 1) := by decide +kernel
theorem jd_law_779 : decode code 779 = .ok (.iaload, 1) := by decide +kernel
theorem jd_law_780 : decode code 780 = .ok (.invokevirtual 137, 3) := by decide +kernel
theorem jd_law_783 : decode code 783 = .ok (.istore 6, 2) := by decide +kernel
theorem jd_law_785 : decode code 785 = .ok (.aload_n 2, 1) := by decide +kernel
theorem jd_law_786 : decode code 786 = .ok (.invokevirtual 102, 3) := by decide +kernel
theorem jd_law_789 : decode code 789 = .ok (.iload 5, 2) := by decide +kernel
theorem jd_law_791 : decode code 791 = .ok (.if_icmp .eq 5, 3) := by decide +kernel
theorem jd_law_794 : decode code 794 = .ok (.iconst 0, 1) := by decide +kernel
theorem jd_law_795 : decode code 795 = .ok (.ireturn, 1) := by decide +kernel
theorem jd_law_796 : decode code 796 = .ok (.iload 5, 2) := by decide +kernel
theorem jd_law_798 : decode code 798 = .ok (.ifCond .ne 15, 3) := by decide +kernel
theorem jd_law_801 : decode code 801 = .ok (.aload_n 3, 1) := by decide +kernel
theorem jd_law_802 : decode code 802 = .ok (.iconst 0, 1) := by decide +kernel
theorem jd_law_803 : decode code 803 = .ok (.laload, 1) := by decide +kernel
theorem jd_law_804 : decode code 804 = .ok (.iload 6, 2) := by decide +kernel
theorem jd_law_806 : decode code 806 = .ok (.i2l, 1) := by decide +kernel
theorem jd_law_807 : decode code 807 = .ok (.lcmp, 1) := by decide +kernel
theorem jd_law_808 : decode code 808 = .ok (.ifCond .eq 5, 3) := by decide +kernel
theorem jd_law_811 : decode code 811 = .ok (.iconst 0, 1) := by decide +kernel
theorem jd_law_812 : decode code 812 = .ok (.ireturn, 1) := by decide +kernel
theorem jd_law_813 : decode code 813 = .ok (.goto 1004, 3) := by decide +kernel
theorem jd_law_816 : decode code 816 = .ok (.aload_n 1, 1) := by decide +kernel
theorem jd_law_817 : decode code 817 = .ok (.invokevirtual 138, 3) := by decide +kernel
theorem jd_law_820 : decode code 820 = .ok (.aload_n 2, 1) := by decide +kernel
theorem jd_law_821 : decode code 821 = .ok (.invokevirtual 141, 3) := by decide +kernel
theorem jd_law_824 : decode code 824 = .ok (.if_icmp .eq 993, 3) := by decide +kernel
theorem jd_law_827 : decode code 827 = .ok (.iconst 0, 1) := by decide +kernel
theorem jd_law_828 : decode code 828 = .ok (.ireturn, 1) := by decide +kernel
theorem jd_law_829 : decode code 829 = .ok (.aload_n 1, 1) := by decide +kernel
theorem jd_law_830 : decode code 830 = .ok (.aload_n 0, 1) := by decide +kernel
theorem jd_law_831 : decode code 831 = .ok (.iload 4, 2) := by decide +kernel
theorem jd_law_833 : decode code 833 = .ok (.iconst 1, 1) := by decide +kernel
theorem jd_law_834 : decode code 834 = .ok (.iadd, 1) := by decide +kernel
theorem jd_law_835 : decode code 835 = .ok (.iaload, 1) := by decide +kernel
theorem jd_law_836 : decode code 836 = .ok (.aload_n 3, 1) := by decide +kernel
theorem jd_law_837 : decode code 837 = .ok (.invokestatic 142, 3) := by decide +kernel
theorem jd_law_840 : decode code 840 = .ok (.istore 5, 2) := by decide +kernel
theorem jd_law_842 : decode code 842 = .ok (.aload_n 2, 1) := by decide +kernel
theorem jd_law_843 : decode code 843 = .ok (.aload_n 0, 1) := by decide +kernel
theorem jd_law_844 : decode code 844 = .ok (.iload 4, 2) := by decide +kernel
theorem jd_law_846 : decode code 846 = .ok (.iconst 1, 1) := by decide +kernel
theorem jd_law_847 : decode code 847 = .ok (.iadd, 1) := by decide +kernel
theorem jd_law_848 : decode code 848 = .ok (.iaload, 1) := by decide +kernel
theorem jd_law_849 : decode code 849 = .ok (.invokevirtual 144, 3) := by decide +kernel
theorem jd_law_852 : decode code 852 = .ok (.istore 6, 2) := by decide +kernel
theorem jd_law_854 : decode code 854 = .ok (.aload_n 2, 1) := by decide +kernel
theorem jd_law_855 : decode code 855 = .ok (.invokevirtual 102, 3) := by decide +kernel
theorem jd_law_858 : decode code 858 = .ok (.iload 5, 2) := by decide +kernel
theorem jd_law_860 : decode code 860 = .ok (.if_icmp .eq 5, 3) := by decide +kernel
theorem jd_law_863 : decode code 863 = .ok (.iconst 0, 1) := by decide +kernel
theorem jd_law_864 : decode code 864 = .ok (.ireturn, 1) := by decide +kernel
theorem jd_law_865 : decode code 865 = .ok (.iload 5, 2) := by decide +kernel
theorem jd_law_867 : decode code 867 = .ok (.ifCond .ne 15, 3) := by decide +kernel
theorem jd_law_870 : decode code 870 = .ok (.aload_n 3, 1) := by decide +kernel
theorem jd_law_871 : decode code 871 = .ok (.iconst 0, 1) := by decide +kernel
theorem jd_law_872 : decode code 872 = .ok (.laload, 1) := by decide +kernel
theorem jd_law_873 : decode code 873 = .ok (.iload 6, 2) := by decide +kernel
theorem jd_law_875 : decode code 875 = .ok (.i2l, 1) := by decide +kernel
theorem jd_law_876 : decode code 876 = .ok (.lcmp, 1) := by decide +kernel
theorem jd_law_877 : decode code 877 = .ok (.ifCond .eq 5, 3) := by decide +kernel
theorem jd_law_880 : decode code 880 = .ok (.iconst 0, 1) := by decide +kernel
theorem jd_law_881 : decode code 881 = .ok (.ireturn, 1) := by decide +kernel
theorem jd_law_882 : decode code 882 = .ok (.goto 935, 3) := by decide +kernel
theorem jd_law_885 : decode code 885 = .ok (.aload_n 1, 1) := by decide +kernel
theorem jd_law_886 : decode code 886 = .ok (.aload_n 0, 1) := by decide +kernel
theorem jd_law_887 : decode code 887 = .ok (.iload 4, 2) := by decide +kernel
theorem jd_law_889 : decode code 889 = .ok (.iconst 1, 1) := by decide +kernel
theorem jd_law_890 : decode code 890 = .ok (.iadd, 1) := by decide +kernel
theorem jd_law_891 : decode code 891 = .ok (.iaload, 1) := by decide +kernel
theorem jd_law_892 : decode code 892 = .ok (.aload_n 3, 1) := by decide +kernel
theorem jd_law_893 : decode code 893 = .ok (.invokestatic 145, 3) := by decide +kernel
theorem jd_law_896 : decode code 896 = .ok (.istore 5, 2) := by decide +kernel
theorem jd_law_898 : decode code 898 = .ok (.aload_n 2, 1) := by decide +kernel
theorem jd_law_899 : decode code 899 = .ok (.aload_n 0, 1) := by decide +kernel
theorem jd_law_900 : decode code 900 = .ok (.iload 4, 2) := by decide +kernel
theorem jd_law_902 : decode code 902 = .ok (.iconst 1, 1) := by decide +kernel
theorem jd_law_903 : decode code 903 = .ok (.iadd, 1) := by decide +kernel
theorem jd_law_904 : decode code 904 = .ok (.iaload, 1) := by decide +kernel
theorem jd_law_905 : decode code 905 = .ok (.invokevirtual 147, 3) := by decide +kernel
theorem jd_law_908 : decode code 908 = .ok (.istore 6, 2) := by decide +kernel
theorem jd_law_910 : decode code 910 = .ok (.aload_n 2, 1) := by decide +kernel
theorem jd_law_911 : decode code 911 = .ok (.invokevirtual 102, 3) := by decide +kernel
theorem jd_law_914 : decode code 914 = .ok (.iload 5, 2) := by decide +kernel
theorem jd_law_916 : decode code 916 = .ok (.if_icmp .eq 5, 3) := by decide +kernel
theorem jd_law_919 : decode code 919 = .ok (.iconst 0, 1) := by decide +kernel
theorem jd_law_920 : decode code 920 = .ok (.ireturn, 1) := by decide +kernel
theorem jd_law_921 : decode code 921 = .ok (.iload 5, 2) := by decide +kernel
theorem jd_law_923 : decode code 923 = .ok (.ifCond .ne 15, 3) := by decide +kernel
theorem jd_law_926 : decode code 926 = .ok (.aload_n 3, 1) := by decide +kernel
theorem jd_law_927 : decode code 927 = .ok (.iconst 0, 1) := by decide +kernel
theorem jd_law_928 : decode code 928 = .ok (.laload, 1) := by decide +kernel
theorem jd_law_929 : decode code 929 = .ok (.iload 6, 2) := by decide +kernel
theorem jd_law_931 : decode code 931 = .ok (.i2l, 1) := by decide +kernel
theorem jd_law_932 : decode code 932 = .ok (.lcmp, 1) := by decide +kernel
theorem jd_law_933 : decode code 933 = .ok (.ifCond .eq 5, 3) := by decide +kernel
theorem jd_law_936 : decode code 936 = .ok (.iconst 0, 1) := by decide +kernel
theorem jd_law_937 : decode code 937 = .ok (.ireturn, 1) := by decide +kernel
theorem jd_law_938 : decode code 938 = .ok (.goto 879, 3) := by decide +kernel
theorem jd_law_941 : decode code 941 = .ok (.aload_n 1, 1) := by decide +kernel
theorem jd_law_942 : decode code 942 = .ok (.aload_n 0, 1) := by decide +kernel
theorem jd_law_943 : decode code 943 = .ok (.iload 4, 2) := by decide +kernel
theorem jd_law_945 : decode code 945 = .ok (.iconst 1, 1) := by decide +kernel
theorem jd_law_946 : decode code 946 = .ok (.iadd, 1) := by decide +kernel
theorem jd_law_947 : decode code 947 = .ok (.iaload, 1) := by decide +kernel
theorem jd_law_948 : decode code 948 = .ok (.aload_n 3, 1) := by decide +kernel
theorem jd_law_949 : decode code 949 = .ok (.invokestatic 148, 3) := by decide +kernel
theorem jd_law_952 : decode code 952 = .ok (.istore 5, 2) := by decide +kernel
theorem jd_law_954 : decode code 954 = .ok (.aload_n 2, 1) := by decide +kernel
theorem jd_law_955 : decode code 955 = .ok (.aload_n 0, 1) := by decide +kernel
theorem jd_law_956 : decode code 956 = .ok (.iload 4, 2) := by decide +kernel
theorem jd_law_958 : decode code 958 = .ok (.iconst 1, 1) := by decide +kernel
theorem jd_law_959 : decode code 959 = .ok (.iadd, 1) := by decide +kernel
theorem jd_law_960 : decode code 960 = .ok (.iaload, 1) := by decide +kernel
theorem jd_law_961 : decode code 961 = .ok (.invokevirtual 150, 3) := by decide +kernel
theorem jd_law_964 : decode code 964 = .ok (.istore 6, 2) := by decide +kernel
theorem jd_law_966 : decode code 966 = .ok (.aload_n 2, 1) := by decide +kernel
theorem jd_law_967 : decode code 967 = .ok (.invokevirtual 102, 3) := by decide +kernel
theorem jd_law_970 : decode code 970 = .ok (.iload 5, 2) := by decide +kernel
theorem jd_law_972 : decode code 972 = .ok (.if_icmp .eq 5, 3) := by decide +kernel
theorem jd_law_975 : decode code 975 = .ok (.iconst 0, 1) := by decide +kernel
theorem jd_law_976 : decode code 976 = .ok (.ireturn, 1) := by decide +kernel
theorem jd_law_977 : decode code 977 = .ok (.iload 5, 2) := by decide +kernel
theorem jd_law_979 : decode code 979 = .ok (.ifCond .ne 15, 3) := by decide +kernel
theorem jd_law_982 : decode code 982 = .ok (.aload_n 3, 1) := by decide +kernel
theorem jd_law_983 : decode code 983 = .ok (.iconst 0, 1) := by decide +kernel
theorem jd_law_984 : decode code 984 = .ok (.laload, 1) := by decide +kernel
theorem jd_law_985 : decode code 985 = .ok (.iload 6, 2) := by decide +kernel
theorem jd_law_987 : decode code 987 = .ok (.i2l, 1) := by decide +kernel
theorem jd_law_988 : decode code 988 = .ok (.lcmp, 1) := by decide +kernel
theorem jd_law_989 : decode code 989 = .ok (.ifCond .eq 5, 3) := by decide +kernel
theorem jd_law_992 : decode code 992 = .ok (.iconst 0, 1) := by decide +kernel
theorem jd_law_993 : decode code 993 = .ok (.ireturn, 1) := by decide +kernel
theorem jd_law_994 : decode code 994 = .ok (.goto 823, 3) := by decide +kernel
theorem jd_law_997 : decode code 997 = .ok (.aload_n 1, 1) := by decide +kernel
theorem jd_law_998 : decode code 998 = .ok (.aload_n 0, 1) := by decide +kernel
theorem jd_law_999 : decode code 999 = .ok (.iload 4, 2) := by decide +kernel
theorem jd_law_1001 : decode code 1001 = .ok (.iconst 1, 1) := by decide +kernel
theorem jd_law_1002 : decode code 1002 = .ok (.iadd, 1) := by decide +kernel
theorem jd_law_1003 : decode code 1003 = .ok (.iaload, 1) := by decide +kernel
theorem jd_law_1004 : decode code 1004 = .ok (.aload_n 0, 1) := by decide +kernel
theorem jd_law_1005 : decode code 1005 = .ok (.iload 4, 2) := by decide +kernel
theorem jd_law_1007 : decode code 1007 = .ok (.iconst 2, 1) := by decide +kernel
theorem jd_law_1008 : decode code 1008 = .ok (.iadd, 1) := by decide +kernel
theorem jd_law_1009 : decode code 1009 = .ok (.iaload, 1) := by decide +kernel
theorem jd_law_1010 : decode code 1010 = .ok (.aload_n 3, 1) := by decide +kernel
theorem jd_law_1011 : decode code 1011 = .ok (.invokestatic 151, 3) := by decide +kernel
theorem jd_law_1014 : decode code 1014 = .ok (.istore 5, 2) := by decide +kernel
theorem jd_law_1016 : decode code 1016 = .ok (.aload_n 2, 1) := by decide +kernel
theorem jd_law_1017 : decode code 1017 = .ok (.aload_n 0, 1) := by decide +kernel
theorem jd_law_1018 : decode code 1018 = .ok (.iload 4, 2) := by decide +kernel
theorem jd_law_1020 : decode code 1020 = .ok (.iconst 1, 1) := by decide +kernel
theorem jd_law_1021 : decode code 1021 = .ok (.iadd, 1) := by decide +kernel
theorem jd_law_1022 : decode code 1022 = .ok (.iaload, 1) := by decide +kernel
theorem jd_law_1023 : decode code 1023 = .ok (.aload_n 0, 1) := by decide +kernel
theorem jd_law_1024 : decode code 1024 = .ok (.iload 4, 2) := by decide +kernel
theorem jd_law_1026 : decode code 1026 = .ok (.iconst 2, 1) := by decide +kernel
theorem jd_law_1027 : decode code 1027 = .ok (.iadd, 1) := by decide +kernel
theorem jd_law_1028 : decode code 1028 = .ok (.iaload, 1) := by decide +kernel
theorem jd_law_1029 : decode code 1029 = .ok (.invokevirtual 153, 3) := by decide +kernel
theorem jd_law_1032 : decode code 1032 = .ok (.istore 6, 2) := by decide +kernel
theorem jd_law_1034 : decode code 1034 = .ok (.aload_n 2, 1) := by decide +kernel
theorem jd_law_1035 : decode code 1035 = .ok (.invokevirtual 102, 3) := by decide +kernel
theorem jd_law_1038 : decode code 1038 = .ok (.iload 5, 2) := by decide +kernel
theorem jd_law_1040 : decode code 1040 = .ok (.if_icmp .eq 5, 3) := by decide +kernel
theorem jd_law_1043 : decode code 1043 = .ok (.iconst 0, 1) := by decide +kernel
theorem jd_law_1044 : decode code 1044 = .ok (.ireturn, 1) := by decide +kernel
theorem jd_law_1045 : decode code 1045 = .ok (.iload 5, 2) := by decide +kernel
theorem jd_law_1047 : decode code 1047 = .ok (.ifCond .ne 15, 3) := by decide +kernel
theorem jd_law_1050 : decode code 1050 = .ok (.aload_n 3, 1) := by decide +kernel
theorem jd_law_1051 : decode code 1051 = .ok (.iconst 0, 1) := by decide +kernel
theorem jd_law_1052 : decode code 1052 = .ok (.laload, 1) := by decide +kernel
theorem jd_law_1053 : decode code 1053 = .ok (.iload 6, 2) := by decide +kernel
theorem jd_law_1055 : decode code 1055 = .ok (.i2l, 1) := by decide +kernel
theorem jd_law_1056 : decode code 1056 = .ok (.lcmp, 1) := by decide +kernel
theorem jd_law_1057 : decode code 1057 = .ok (.ifCond .eq 5, 3) := by decide +kernel
theorem jd_law_1060 : decode code 1060 = .ok (.iconst 0, 1) := by decide +kernel
theorem jd_law_1061 : decode code 1061 = .ok (.ireturn, 1) := by decide +kernel
theorem jd_law_1062 : decode code 1062 = .ok (.goto 755, 3) := by decide +kernel
theorem jd_law_1065 : decode code 1065 = .ok (.aload_n 1, 1) := by decide +kernel
theorem jd_law_1066 : decode code 1066 = .ok (.aload_n 0, 1) := by decide +kernel
theorem jd_law_1067 : decode code 1067 = .ok (.iload 4, 2) := by decide +kernel
theorem jd_law_1069 : decode code 1069 = .ok (.iconst 1, 1) := by decide +kernel
theorem jd_law_1070 : decode code 1070 = .ok (.iadd, 1) := by decide +kernel
theorem jd_law_1071 : decode code 1071 = .ok (.iaload, 1) := by decide +kernel
theorem jd_law_1072 : decode code 1072 = .ok (.aload_n 0, 1) := by decide +kernel
theorem jd_law_1073 : decode code 1073 = .ok (.iload 4, 2) := by decide +kernel
theorem jd_law_1075 : decode code 1075 = .ok (.iconst 2, 1) := by decide +kernel
theorem jd_law_1076 : decode code 1076 = .ok (.iadd, 1) := by decide +kernel
theorem jd_law_1077 : decode code 1077 = .ok (.iaload, 1) := by decide +kernel
theorem jd_law_1078 : decode code 1078 = .ok (.aload_n 0, 1) := by decide +kernel
theorem jd_law_1079 : decode code 1079 = .ok (.iload 4, 2) := by decide +kernel
theorem jd_law_1081 : decode code 1081 = .ok (.iconst 3, 1) := by decide +kernel
theorem jd_law_1082 : decode code 1082 = .ok (.iadd, 1) := by decide +kernel
theorem jd_law_1083 : decode code 1083 = .ok (.iaload, 1) := by decide +kernel
theorem jd_law_1084 : decode code 1084 = .ok (.aload_n 3, 1) := by decide +kernel
theorem jd_law_1085 : decode code 1085 = .ok (.invokestatic 154, 3) := by decide +kernel
theorem jd_law_1088 : decode code 1088 = .ok (.istore 5, 2) := by decide +kernel
theorem jd_law_1090 : decode code 1090 = .ok (.aload_n 2, 1) := by decide +kernel
theorem jd_law_1091 : decode code 1091 = .ok (.aload_n 0, 1) := by decide +kernel
theorem jd_law_1092 : decode code 1092 = .ok (.iload 4, 2) := by decide +kernel
theorem jd_law_1094 : decode code 1094 = .ok (.iconst 1, 1) := by decide +kernel
theorem jd_law_1095 : decode code 1095 = .ok (.iadd, 1) := by decide +kernel
theorem jd_law_1096 : decode code 1096 = .ok (.iaload, 1) := by decide +kernel
theorem jd_law_1097 : decode code 1097 = .ok (.aload_n 0, 1) := by decide +kernel
theorem jd_law_1098 : decode code 1098 = .ok (.iload 4, 2) := by decide +kernel
theorem jd_law_1100 : decode code 1100 = .ok (.iconst 2, 1) := by decide +kernel
theorem jd_law_1101 : decode code 1101 = .ok (.iadd, 1) := by decide +kernel
theorem jd_law_1102 : decode code 1102 = .ok (.iaload, 1) := by decide +kernel
theorem jd_law_1103 : decode code 1103 = .ok (.aload_n 0, 1) := by decide +kernel
theorem jd_law_1104 : decode code 1104 = .ok (.iload 4, 2) := by decide +kernel
theorem jd_law_1106 : decode code 1106 = .ok (.iconst 3, 1) := by decide +kernel
theorem jd_law_1107 : decode code 1107 = .ok (.iadd, 1) := by decide +kernel
theorem jd_law_1108 : decode code 1108 = .ok (.iaload, 1) := by decide +kernel
theorem jd_law_1109 : decode code 1109 = .ok (.invokevirtual 156, 3) := by decide +kernel
theorem jd_law_1112 : decode code 1112 = .ok (.istore 6, 2) := by decide +kernel
theorem jd_law_1114 : decode code 1114 = .ok (.aload_n 2, 1) := by decide +kernel
theorem jd_law_1115 : decode code 1115 = .ok (.invokevirtual 102, 3) := by decide +kernel
theorem jd_law_1118 : decode code 1118 = .ok (.iload 5, 2) := by decide +kernel
theorem jd_law_1120 : decode code 1120 = .ok (.if_icmp .eq 5, 3) := by decide +kernel
theorem jd_law_1123 : decode code 1123 = .ok (.iconst 0, 1) := by decide +kernel
theorem jd_law_1124 : decode code 1124 = .ok (.ireturn, 1) := by decide +kernel
theorem jd_law_1125 : decode code 1125 = .ok (.iload 5, 2) := by decide +kernel
theorem jd_law_1127 : decode code 1127 = .ok (.ifCond .ne 15, 3) := by decide +kernel
theorem jd_law_1130 : decode code 1130 = .ok (.aload_n 3, 1) := by decide +kernel
theorem jd_law_1131 : decode code 1131 = .ok (.iconst 0, 1) := by decide +kernel
theorem jd_law_1132 : decode code 1132 = .ok (.laload, 1) := by decide +kernel
theorem jd_law_1133 : decode code 1133 = .ok (.iload 6, 2) := by decide +kernel
theorem jd_law_1135 : decode code 1135 = .ok (.i2l, 1) := by decide +kernel
theorem jd_law_1136 : decode code 1136 = .ok (.lcmp, 1) := by decide +kernel
theorem jd_law_1137 : decode code 1137 = .ok (.ifCond .eq 5, 3) := by decide +kernel
theorem jd_law_1140 : decode code 1140 = .ok (.iconst 0, 1) := by decide +kernel
theorem jd_law_1141 : decode code 1141 = .ok (.ireturn, 1) := by decide +kernel
theorem jd_law_1142 : decode code 1142 = .ok (.goto 675, 3) := by decide +kernel
theorem jd_law_1145 : decode code 1145 = .ok (.aload_n 1, 1) := by decide +kernel
theorem jd_law_1146 : decode code 1146 = .ok (.aload_n 0, 1) := by decide +kernel
theorem jd_law_1147 : decode code 1147 = .ok (.iload 4, 2) := by decide +kernel
theorem jd_law_1149 : decode code 1149 = .ok (.iconst 1, 1) := by decide +kernel
theorem jd_law_1150 : decode code 1150 = .ok (.iadd, 1) := by decide +kernel
theorem jd_law_1151 : decode code 1151 = .ok (.iaload, 1) := by decide +kernel
theorem jd_law_1152 : decode code 1152 = .ok (.aload_n 0, 1) := by decide +kernel
theorem jd_law_1153 : decode code 1153 = .ok (.iload 4, 2) := by decide +kernel
theorem jd_law_1155 : decode code 1155 = .ok (.iconst 2, 1) := by decide +kernel
theorem jd_law_1156 : decode code 1156 = .ok (.iadd, 1) := by decide +kernel
theorem jd_law_1157 : decode code 1157 = .ok (.iaload, 1) := by decide +kernel
theorem jd_law_1158 : decode code 1158 = .ok (.aload_n 3, 1) := by decide +kernel
theorem jd_law_1159 : decode code 1159 = .ok (.invokestatic 157, 3) := by decide +kernel
theorem jd_law_1162 : decode code 1162 = .ok (.istore 5, 2) := by decide +kernel
theorem jd_law_1164 : decode code 1164 = .ok (.aload_n 2, 1) := by decide +kernel
theorem jd_law_1165 : decode code 1165 = .ok (.aload_n 0, 1) := by decide +kernel
theorem jd_law_1166 : decode code 1166 = .ok (.iload 4, 2) := by decide +kernel
theorem jd_law_1168 : decode code 1168 = .ok (.iconst 1, 1) := by decide +kernel
theorem jd_law_1169 : decode code 1169 = .ok (.iadd, 1) := by decide +kernel
theorem jd_law_1170 : decode code 1170 = .ok (.iaload, 1) := by decide +kernel
theorem jd_law_1171 : decode code 1171 = .ok (.aload_n 0, 1) := by decide +kernel
theorem jd_law_1172 : decode code 1172 = .ok (.iload 4, 2) := by decide +kernel
theorem jd_law_1174 : decode code 1174 = .ok (.iconst 2, 1) := by decide +kernel
theorem jd_law_1175 : decode code 1175 = .ok (.iadd, 1) := by decide +kernel
theorem jd_law_1176 : decode code 1176 = .ok (.iaload, 1) := by decide +kernel
theorem jd_law_1177 : decode code 1177 = .ok (.invokevirtual 159, 3) := by decide +kernel
theorem jd_law_1180 : decode code 1180 = .ok (.istore 6, 2) := by decide +kernel
theorem jd_law_1182 : decode code 1182 = .ok (.aload_n 2, 1) := by decide +kernel
theorem jd_law_1183 : decode code 1183 = .ok (.invokevirtual 102, 3) := by decide +kernel
theorem jd_law_1186 : decode code 1186 = .ok (.iload 5, 2) := by decide +kernel
theorem jd_law_1188 : decode code 1188 = .ok (.if_icmp .eq 5, 3) := by decide +kernel
theorem jd_law_1191 : decode code 1191 = .ok (.iconst 0, 1) := by decide +kernel
theorem jd_law_1192 : decode code 1192 = .ok (.ireturn, 1) := by decide +kernel
theorem jd_law_1193 : decode code 1193 = .ok (.iload 5, 2) := by decide +kernel
theorem jd_law_1195 : decode code 1195 = .ok (.ifCond .ne 15, 3) := by decide +kernel
theorem jd_law_1198 : decode code 1198 = .ok (.aload_n 3, 1) := by decide +kernel
theorem jd_law_1199 : decode code 1199 = .ok (.iconst 0, 1) := by decide +kernel
theorem jd_law_1200 : decode code 1200 = .ok (.laload, 1) := by decide +kernel
theorem jd_law_1201 : decode code 1201 = .ok (.iload 6, 2) := by decide +kernel
theorem jd_law_1203 : decode code 1203 = .ok (.i2l, 1) := by decide +kernel
theorem jd_law_1204 : decode code 1204 = .ok (.lcmp, 1) := by decide +kernel
theorem jd_law_1205 : decode code 1205 = .ok (.ifCond .eq 5, 3) := by decide +kernel
theorem jd_law_1208 : decode code 1208 = .ok (.iconst 0, 1) := by decide +kernel
theorem jd_law_1209 : decode code 1209 = .ok (.ireturn, 1) := by decide +kernel
theorem jd_law_1210 : decode code 1210 = .ok (.goto 607, 3) := by decide +kernel
theorem jd_law_1213 : decode code 1213 = .ok (.aload_n 1, 1) := by decide +kernel
theorem jd_law_1214 : decode code 1214 = .ok (.aload_n 0, 1) := by decide +kernel
theorem jd_law_1215 : decode code 1215 = .ok (.iload 4, 2) := by decide +kernel
theorem jd_law_1217 : decode code 1217 = .ok (.iconst 1, 1) := by decide +kernel
theorem jd_law_1218 : decode code 1218 = .ok (.iadd, 1) := by decide +kernel
theorem jd_law_1219 : decode code 1219 = .ok (.iaload, 1) := by decide +kernel
theorem jd_law_1220 : decode code 1220 = .ok (.aload_n 0, 1) := by decide +kernel
theorem jd_law_1221 : decode code 1221 = .ok (.iload 4, 2) := by decide +kernel
theorem jd_law_1223 : decode code 1223 = .ok (.iconst 2, 1) := by decide +kernel
theorem jd_law_1224 : decode code 1224 = .ok (.iadd, 1) := by decide +kernel
theorem jd_law_1225 : decode code 1225 = .ok (.iaload, 1) := by decide +kernel
theorem jd_law_1226 : decode code 1226 = .ok (.aload_n 3, 1) := by decide +kernel
theorem jd_law_1227 : decode code 1227 = .ok (.invokestatic 160, 3) := by decide +kernel
theorem jd_law_1230 : decode code 1230 = .ok (.istore 5, 2) := by decide +kernel
theorem jd_law_1232 : decode code 1232 = .ok (.aload_n 2, 1) := by decide +kernel
theorem jd_law_1233 : decode code 1233 = .ok (.aload_n 0, 1) := by decide +kernel
theorem jd_law_1234 : decode code 1234 = .ok (.iload 4, 2) := by decide +kernel
theorem jd_law_1236 : decode code 1236 = .ok (.iconst 1, 1) := by decide +kernel
theorem jd_law_1237 : decode code 1237 = .ok (.iadd, 1) := by decide +kernel
theorem jd_law_1238 : decode code 1238 = .ok (.iaload, 1) := by decide +kernel
theorem jd_law_1239 : decode code 1239 = .ok (.aload_n 0, 1) := by decide +kernel
theorem jd_law_1240 : decode code 1240 = .ok (.iload 4, 2) := by decide +kernel
theorem jd_law_1242 : decode code 1242 = .ok (.iconst 2, 1) := by decide +kernel
theorem jd_law_1243 : decode code 1243 = .ok (.iadd, 1) := by decide +kernel
theorem jd_law_1244 : decode code 1244 = .ok (.iaload, 1) := by decide +kernel
theorem jd_law_1245 : decode code 1245 = .ok (.invokevirtual 162, 3) := by decide +kernel
theorem jd_law_1248 : decode code 1248 = .ok (.istore 6, 2) := by decide +kernel
theorem jd_law_1250 : decode code 1250 = .ok (.aload_n 2, 1) := by decide +kernel
theorem jd_law_1251 : decode code 1251 = .ok (.invokevirtual 102, 3) := by decide +kernel
theorem jd_law_1254 : decode code 1254 = .ok (.iload 5, 2) := by decide +kernel
theorem jd_law_1256 : decode code 1256 = .ok (.if_icmp .eq 5, 3) := by decide +kernel
theorem jd_law_1259 : decode code 1259 = .ok (.iconst 0, 1) := by decide +kernel
theorem jd_law_1260 : decode code 1260 = .ok (.ireturn, 1) := by decide +kernel
theorem jd_law_1261 : decode code 1261 = .ok (.iload 5, 2) := by decide +kernel
theorem jd_law_1263 : decode code 1263 = .ok (.ifCond .ne 15, 3) := by decide +kernel
theorem jd_law_1266 : decode code 1266 = .ok (.aload_n 3, 1) := by decide +kernel
theorem jd_law_1267 : decode code 1267 = .ok (.iconst 0, 1) := by decide +kernel
theorem jd_law_1268 : decode code 1268 = .ok (.laload, 1) := by decide +kernel
theorem jd_law_1269 : decode code 1269 = .ok (.iload 6, 2) := by decide +kernel
theorem jd_law_1271 : decode code 1271 = .ok (.i2l, 1) := by decide +kernel
theorem jd_law_1272 : decode code 1272 = .ok (.lcmp, 1) := by decide +kernel
theorem jd_law_1273 : decode code 1273 = .ok (.ifCond .eq 5, 3) := by decide +kernel
theorem jd_law_1276 : decode code 1276 = .ok (.iconst 0, 1) := by decide +kernel
theorem jd_law_1277 : decode code 1277 = .ok (.ireturn, 1) := by decide +kernel
theorem jd_law_1278 : decode code 1278 = .ok (.goto 539, 3) := by decide +kernel
theorem jd_law_1281 : decode code 1281 = .ok (.aload_n 1, 1) := by decide +kernel
theorem jd_law_1282 : decode code 1282 = .ok (.aload_n 0, 1) := by decide +kernel
theorem jd_law_1283 : decode code 1283 = .ok (.iload 4, 2) := by decide +kernel
theorem jd_law_1285 : decode code 1285 = .ok (.iconst 1, 1) := by decide +kernel
theorem jd_law_1286 : decode code 1286 = .ok (.iadd, 1) := by decide +kernel
theorem jd_law_1287 : decode code 1287 = .ok (.iaload, 1) := by decide +kernel
theorem jd_law_1288 : decode code 1288 = .ok (.aload_n 0, 1) := by decide +kernel
theorem jd_law_1289 : decode code 1289 = .ok (.iload 4, 2) := by decide +kernel
theorem jd_law_1291 : decode code 1291 = .ok (.iconst 2, 1) := by decide +kernel
theorem jd_law_1292 : decode code 1292 = .ok (.iadd, 1) := by decide +kernel
theorem jd_law_1293 : decode code 1293 = .ok (.iaload, 1) := by decide +kernel
theorem jd_law_1294 : decode code 1294 = .ok (.aload_n 3, 1) := by decide +kernel
theorem jd_law_1295 : decode code 1295 = .ok (.invokestatic 163, 3) := by decide +kernel
theorem jd_law_1298 : decode code 1298 = .ok (.istore 5, 2) := by decide +kernel
theorem jd_law_1300 : decode code 1300 = .ok (.aload_n 2, 1) := by decide +kernel
theorem jd_law_1301 : decode code 1301 = .ok (.aload_n 0, 1) := by decide +kernel
theorem jd_law_1302 : decode code 1302 = .ok (.iload 4, 2) := by decide +kernel
theorem jd_law_1304 : decode code 1304 = .ok (.iconst 1, 1) := by decide +kernel
theorem jd_law_1305 : decode code 1305 = .ok (.iadd, 1) := by decide +kernel
theorem jd_law_1306 : decode code 1306 = .ok (.iaload, 1) := by decide +kernel
theorem jd_law_1307 : decode code 1307 = .ok (.aload_n 0, 1) := by decide +kernel
theorem jd_law_1308 : decode code 1308 = .ok (.iload 4, 2) := by decide +kernel
theorem jd_law_1310 : decode code 1310 = .ok (.iconst 2, 1) := by decide +kernel
theorem jd_law_1311 : decode code 1311 = .ok (.iadd, 1) := by decide +kernel
theorem jd_law_1312 : decode code 1312 = .ok (.iaload, 1) := by decide +kernel
theorem jd_law_1313 : decode code 1313 = .ok (.invokevirtual 165, 3) := by decide +kernel
theorem jd_law_1316 : decode code 1316 = .ok (.istore 6, 2) := by decide +kernel
theorem jd_law_1318 : decode code 1318 = .ok (.aload_n 2, 1) := by decide +kernel
theorem jd_law_1319 : decode code 1319 = .ok (.invokevirtual 102, 3) := by decide +kernel
theorem jd_law_1322 : decode code 1322 = .ok (.iload 5, 2) := by decide +kernel
theorem jd_law_1324 : decode code 1324 = .ok (.if_icmp .eq 5, 3) := by decide +kernel
theorem jd_law_1327 : decode code 1327 = .ok (.iconst 0, 1) := by decide +kernel
theorem jd_law_1328 : decode code 1328 = .ok (.ireturn, 1) := by decide +kernel
theorem jd_law_1329 : decode code 1329 = .ok (.iload 5, 2) := by decide +kernel
theorem jd_law_1331 : decode code 1331 = .ok (.ifCond .ne 15, 3) := by decide +kernel
theorem jd_law_1334 : decode code 1334 = .ok (.aload_n 3, 1) := by decide +kernel
theorem jd_law_1335 : decode code 1335 = .ok (.iconst 0, 1) := by decide +kernel
theorem jd_law_1336 : decode code 1336 = .ok (.laload, 1) := by decide +kernel
theorem jd_law_1337 : decode code 1337 = .ok (.iload 6, 2) := by decide +kernel
theorem jd_law_1339 : decode code 1339 = .ok (.i2l, 1) := by decide +kernel
theorem jd_law_1340 : decode code 1340 = .ok (.lcmp, 1) := by decide +kernel
theorem jd_law_1341 : decode code 1341 = .ok (.ifCond .eq 5, 3) := by decide +kernel
theorem jd_law_1344 : decode code 1344 = .ok (.iconst 0, 1) := by decide +kernel
theorem jd_law_1345 : decode code 1345 = .ok (.ireturn, 1) := by decide +kernel
theorem jd_law_1346 : decode code 1346 = .ok (.goto 471, 3) := by decide +kernel
theorem jd_law_1349 : decode code 1349 = .ok (.aload_n 1, 1) := by decide +kernel
theorem jd_law_1350 : decode code 1350 = .ok (.aload_n 0, 1) := by decide +kernel
theorem jd_law_1351 : decode code 1351 = .ok (.iload 4, 2) := by decide +kernel
theorem jd_law_1353 : decode code 1353 = .ok (.iconst 1, 1) := by decide +kernel
theorem jd_law_1354 : decode code 1354 = .ok (.iadd, 1) := by decide +kernel
theorem jd_law_1355 : decode code 1355 = .ok (.iaload, 1) := by decide +kernel
theorem jd_law_1356 : decode code 1356 = .ok (.aload_n 0, 1) := by decide +kernel
theorem jd_law_1357 : decode code 1357 = .ok (.iload 4, 2) := by decide +kernel
theorem jd_law_1359 : decode code 1359 = .ok (.iconst 2, 1) := by decide +kernel
theorem jd_law_1360 : decode code 1360 = .ok (.iadd, 1) := by decide +kernel
theorem jd_law_1361 : decode code 1361 = .ok (.iaload, 1) := by decide +kernel
theorem jd_law_1362 : decode code 1362 = .ok (.aload_n 0, 1) := by decide +kernel
theorem jd_law_1363 : decode code 1363 = .ok (.iload 4, 2) := by decide +kernel
theorem jd_law_1365 : decode code 1365 = .ok (.iconst 3, 1) := by decide +kernel
theorem jd_law_1366 : decode code 1366 = .ok (.iadd, 1) := by decide +kernel
theorem jd_law_1367 : decode code 1367 = .ok (.iaload, 1) := by decide +kernel
theorem jd_law_1368 : decode code 1368 = .ok (.aload_n 3, 1) := by decide +kernel
theorem jd_law_1369 : decode code 1369 = .ok (.invokestatic 166, 3) := by decide +kernel
theorem jd_law_1372 : decode code 1372 = .ok (.istore 5, 2) := by decide +kernel
theorem jd_law_1374 : decode code 1374 = .ok (.aload_n 2, 1) := by decide +kernel
theorem jd_law_1375 : decode code 1375 = .ok (.aload_n 0, 1) := by decide +kernel
theorem jd_law_1376 : decode code 1376 = .ok (.iload 4, 2) := by decide +kernel
theorem jd_law_1378 : decode code 1378 = .ok (.iconst 1, 1) := by decide +kernel
theorem jd_law_1379 : decode code 1379 = .ok (.iadd, 1) := by decide +kernel
theorem jd_law_1380 : decode code 1380 = .ok (.iaload, 1) := by decide +kernel
theorem jd_law_1381 : decode code 1381 = .ok (.aload_n 0, 1) := by decide +kernel
theorem jd_law_1382 : decode code 1382 = .ok (.iload 4, 2) := by decide +kernel
theorem jd_law_1384 : decode code 1384 = .ok (.iconst 2, 1) := by decide +kernel
theorem jd_law_1385 : decode code 1385 = .ok (.iadd, 1) := by decide +kernel
theorem jd_law_1386 : decode code 1386 = .ok (.iaload, 1) := by decide +kernel
theorem jd_law_1387 : decode code 1387 = .ok (.aload_n 0, 1) := by decide +kernel
theorem jd_law_1388 : decode code 1388 = .ok (.iload 4, 2) := by decide +kernel
theorem jd_law_1390 : decode code 1390 = .ok (.iconst 3, 1) := by decide +kernel
theorem jd_law_1391 : decode code 1391 = .ok (.iadd, 1) := by decide +kernel
theorem jd_law_1392 : decode code 1392 = .ok (.iaload, 1) := by decide +kernel
theorem jd_law_1393 : decode code 1393 = .ok (.invokevirtual 168, 3) := by decide +kernel
theorem jd_law_1396 : decode code 1396 = .ok (.istore 6, 2) := by decide +kernel
theorem jd_law_1398 : decode code 1398 = .ok (.aload_n 2, 1) := by decide +kernel
theorem jd_law_1399 : decode code 1399 = .ok (.invokevirtual 102, 3) := by decide +kernel
theorem jd_law_1402 : decode code 1402 = .ok (.iload 5, 2) := by decide +kernel
theorem jd_law_1404 : decode code 1404 = .ok (.if_icmp .eq 5, 3) := by decide +kernel
theorem jd_law_1407 : decode code 1407 = .ok (.iconst 0, 1) := by decide +kernel
theorem jd_law_1408 : decode code 1408 = .ok (.ireturn, 1) := by decide +kernel
theorem jd_law_1409 : decode code 1409 = .ok (.iload 5, 2) := by decide +kernel
theorem jd_law_1411 : decode code 1411 = .ok (.ifCond .ne 15, 3) := by decide +kernel
theorem jd_law_1414 : decode code 1414 = .ok (.aload_n 3, 1) := by decide +kernel
theorem jd_law_1415 : decode code 1415 = .ok (.iconst 0, 1) := by decide +kernel
theorem jd_law_1416 : decode code 1416 = .ok (.laload, 1) := by decide +kernel
theorem jd_law_1417 : decode code 1417 = .ok (.iload 6, 2) := by decide +kernel
theorem jd_law_1419 : decode code 1419 = .ok (.i2l, 1) := by decide +kernel
theorem jd_law_1420 : decode code 1420 = .ok (.lcmp, 1) := by decide +kernel
theorem jd_law_1421 : decode code 1421 = .ok (.ifCond .eq 5, 3) := by decide +kernel
theorem jd_law_1424 : decode code 1424 = .ok (.iconst 0, 1) := by decide +kernel
theorem jd_law_1425 : decode code 1425 = .ok (.ireturn, 1) := by decide +kernel
theorem jd_law_1426 : decode code 1426 = .ok (.goto 391, 3) := by decide +kernel
theorem jd_law_1429 : decode code 1429 = .ok (.aload_n 1, 1) := by decide +kernel
theorem jd_law_1430 : decode code 1430 = .ok (.aload_n 0, 1) := by decide +kernel
theorem jd_law_1431 : decode code 1431 = .ok (.iload 4, 2) := by decide +kernel
theorem jd_law_1433 : decode code 1433 = .ok (.iconst 1, 1) := by decide +kernel
theorem jd_law_1434 : decode code 1434 = .ok (.iadd, 1) := by decide +kernel
theorem jd_law_1435 : decode code 1435 = .ok (.iaload, 1) := by decide +kernel
theorem jd_law_1436 : decode code 1436 = .ok (.aload_n 0, 1) := by decide +kernel
theorem jd_law_1437 : decode code 1437 = .ok (.iload 4, 2) := by decide +kernel
theorem jd_law_1439 : decode code 1439 = .ok (.iconst 2, 1) := by decide +kernel
theorem jd_law_1440 : decode code 1440 = .ok (.iadd, 1) := by decide +kernel
theorem jd_law_1441 : decode code 1441 = .ok (.iaload, 1) := by decide +kernel
theorem jd_law_1442 : decode code 1442 = .ok (.aload_n 0, 1) := by decide +kernel
theorem jd_law_1443 : decode code 1443 = .ok (.iload 4, 2) := by decide +kernel
theorem jd_law_1445 : decode code 1445 = .ok (.iconst 3, 1) := by decide +kernel
theorem jd_law_1446 : decode code 1446 = .ok (.iadd, 1) := by decide +kernel
theorem jd_law_1447 : decode code 1447 = .ok (.iaload, 1) := by decide +kernel
theorem jd_law_1448 : decode code 1448 = .ok (.aload_n 3, 1) := by decide +kernel
theorem jd_law_1449 : decode code 1449 = .ok (.invokestatic 169, 3) := by decide +kernel
theorem jd_law_1452 : decode code 1452 = .ok (.istore 5, 2) := by decide +kernel
theorem jd_law_1454 : decode code 1454 = .ok (.aload_n 2, 1) := by decide +kernel
theorem jd_law_1455 : decode code 1455 = .ok (.aload_n 0, 1) := by decide +kernel
theorem jd_law_1456 : decode code 1456 = .ok (.iload 4, 2) := by decide +kernel
theorem jd_law_1458 : decode code 1458 = .ok (.iconst 1, 1) := by decide +kernel
theorem jd_law_1459 : decode code 1459 = .ok (.iadd, 1) := by decide +kernel
theorem jd_law_1460 : decode code 1460 = .ok (.iaload, 1) := by decide +kernel
theorem jd_law_1461 : decode code 1461 = .ok (.aload_n 0, 1) := by decide +kernel
theorem jd_law_1462 : decode code 1462 = .ok (.iload 4, 2) := by decide +kernel
theorem jd_law_1464 : decode code 1464 = .ok (.iconst 2, 1) := by decide +kernel
theorem jd_law_1465 : decode code 1465 = .ok (.iadd, 1) := by decide +kernel
theorem jd_law_1466 : decode code 1466 = .ok (.iaload, 1) := by decide +kernel
theorem jd_law_1467 : decode code 1467 = .ok (.aload_n 0, 1) := by decide +kernel
theorem jd_law_1468 : decode code 1468 = .ok (.iload 4, 2) := by decide +kernel
theorem jd_law_1470 : decode code 1470 = .ok (.iconst 3, 1) := by decide +kernel
theorem jd_law_1471 : decode code 1471 = .ok (.iadd, 1) := by decide +kernel
theorem jd_law_1472 : decode code 1472 = .ok (.iaload, 1) := by decide +kernel
theorem jd_law_1473 : decode code 1473 = .ok (.invokevirtual 171, 3) := by decide +kernel
theorem jd_law_1476 : decode code 1476 = .ok (.istore 6, 2) := by decide +kernel
theorem jd_law_1478 : decode code 1478 = .ok (.aload_n 2, 1) := by decide +kernel
theorem jd_law_1479 : decode code 1479 = .ok (.invokevirtual 102, 3) := by decide +kernel
theorem jd_law_1482 : decode code 1482 = .ok (.iload 5, 2) := by decide +kernel
theorem jd_law_1484 : decode code 1484 = .ok (.if_icmp .eq 5, 3) := by decide +kernel
theorem jd_law_1487 : decode code 1487 = .ok (.iconst 0, 1) := by decide +kernel
theorem jd_law_1488 : decode code 1488 = .ok (.ireturn, 1) := by decide +kernel
theorem jd_law_1489 : decode code 1489 = .ok (.iload 5, 2) := by decide +kernel
theorem jd_law_1491 : decode code 1491 = .ok (.ifCond .ne 15, 3) := by decide +kernel
theorem jd_law_1494 : decode code 1494 = .ok (.aload_n 3, 1) := by decide +kernel
theorem jd_law_1495 : decode code 1495 = .ok (.iconst 0, 1) := by decide +kernel
theorem jd_law_1496 : decode code 1496 = .ok (.laload, 1) := by decide +kernel
theorem jd_law_1497 : decode code 1497 = .ok (.iload 6, 2) := by decide +kernel
theorem jd_law_1499 : decode code 1499 = .ok (.i2l, 1) := by decide +kernel
theorem jd_law_1500 : decode code 1500 = .ok (.lcmp, 1) := by decide +kernel
theorem jd_law_1501 : decode code 1501 = .ok (.ifCond .eq 5, 3) := by decide +kernel
theorem jd_law_1504 : decode code 1504 = .ok (.iconst 0, 1) := by decide +kernel
theorem jd_law_1505 : decode code 1505 = .ok (.ireturn, 1) := by decide +kernel
theorem jd_law_1506 : decode code 1506 = .ok (.goto 311, 3) := by decide +kernel
theorem jd_law_1509 : decode code 1509 = .ok (.aload_n 1, 1) := by decide +kernel
theorem jd_law_1510 : decode code 1510 = .ok (.aload_n 0, 1) := by decide +kernel
theorem jd_law_1511 : decode code 1511 = .ok (.iload 4, 2) := by decide +kernel
theorem jd_law_1513 : decode code 1513 = .ok (.iconst 1, 1) := by decide +kernel
theorem jd_law_1514 : decode code 1514 = .ok (.iadd, 1) := by decide +kernel
theorem jd_law_1515 : decode code 1515 = .ok (.iaload, 1) := by decide +kernel
theorem jd_law_1516 : decode code 1516 = .ok (.aload_n 0, 1) := by decide +kernel
theorem jd_law_1517 : decode code 1517 = .ok (.iload 4, 2) := by decide +kernel
theorem jd_law_1519 : decode code 1519 = .ok (.iconst 2, 1) := by decide +kernel
theorem jd_law_1520 : decode code 1520 = .ok (.iadd, 1) := by decide +kernel
theorem jd_law_1521 : decode code 1521 = .ok (.iaload, 1) := by decide +kernel
theorem jd_law_1522 : decode code 1522 = .ok (.aload_n 0, 1) := by decide +kernel
theorem jd_law_1523 : decode code 1523 = .ok (.iload 4, 2) := by decide +kernel
theorem jd_law_1525 : decode code 1525 = .ok (.iconst 3, 1) := by decide +kernel
theorem jd_law_1526 : decode code 1526 = .ok (.iadd, 1) := by decide +kernel
theorem jd_law_1527 : decode code 1527 = .ok (.iaload, 1) := by decide +kernel
theorem jd_law_1528 : decode code 1528 = .ok (.aload_n 0, 1) := by decide +kernel
theorem jd_law_1529 : decode code 1529 = .ok (.iload 4, 2) := by decide +kernel
theorem jd_law_1531 : decode code 1531 = .ok (.iconst 4, 1) := by decide +kernel
theorem jd_law_1532 : decode code 1532 = .ok (.iadd, 1) := by decide +kernel
theorem jd_law_1533 : decode code 1533 = .ok (.iaload, 1) := by decide +kernel
theorem jd_law_1534 : decode code 1534 = .ok (.aload_n 3, 1) := by decide +kernel
theorem jd_law_1535 : decode code 1535 = .ok (.invokestatic 172, 3) := by decide +kernel
theorem jd_law_1538 : decode code 1538 = .ok (.istore 5, 2) := by decide +kernel
theorem jd_law_1540 : decode code 1540 = .ok (.aload_n 2, 1) := by decide +kernel
theorem jd_law_1541 : decode code 1541 = .ok (.aload_n 0, 1) := by decide +kernel
theorem jd_law_1542 : decode code 1542 = .ok (.iload 4, 2) := by decide +kernel
theorem jd_law_1544 : decode code 1544 = .ok (.iconst 1, 1) := by decide +kernel
theorem jd_law_1545 : decode code 1545 = .ok (.iadd, 1) := by decide +kernel
theorem jd_law_1546 : decode code 1546 = .ok (.iaload, 1) := by decide +kernel
theorem jd_law_1547 : decode code 1547 = .ok (.aload_n 0, 1) := by decide +kernel
theorem jd_law_1548 : decode code 1548 = .ok (.iload 4, 2) := by decide +kernel
theorem jd_law_1550 : decode code 1550 = .ok (.iconst 2, 1) := by decide +kernel
theorem jd_law_1551 : decode code 1551 = .ok (.iadd, 1) := by decide +kernel
theorem jd_law_1552 : decode code 1552 = .ok (.iaload, 1) := by decide +kernel
theorem jd_law_1553 : decode code 1553 = .ok (.aload_n 0, 1) := by decide +kernel
theorem jd_law_1554 : decode code 1554 = .ok (.iload 4, 2) := by decide +kernel
theorem jd_law_1556 : decode code 1556 = .ok (.iconst 3, 1) := by decide +kernel
theorem jd_law_1557 : decode code 1557 = .ok (.iadd, 1) := by decide +kernel
theorem jd_law_1558 : decode code 1558 = .ok (.iaload, 1) := by decide +kernel
theorem jd_law_1559 : decode code 1559 = .ok (.aload_n 0, 1) := by decide +kernel
theorem jd_law_1560 : decode code 1560 = .ok (.iload 4, 2) := by decide +kernel
theorem jd_law_1562 : decode code 1562 = .ok (.iconst 4, 1) := by decide +kernel
theorem jd_law_1563 : decode code 1563 = .ok (.iadd, 1) := by decide +kernel
theorem jd_law_1564 : decode code 1564 = .ok (.iaload, 1) := by decide +kernel
theorem jd_law_1565 : decode code 1565 = .ok (.invokevirtual 175, 3) := by decide +kernel
theorem jd_law_1568 : decode code 1568 = .ok (.istore 6, 2) := by decide +kernel
theorem jd_law_1570 : decode code 1570 = .ok (.aload_n 2, 1) := by decide +kernel
theorem jd_law_1571 : decode code 1571 = .ok (.invokevirtual 102, 3) := by decide +kernel
theorem jd_law_1574 : decode code 1574 = .ok (.iload 5, 2) := by decide +kernel
theorem jd_law_1576 : decode code 1576 = .ok (.if_icmp .eq 5, 3) := by decide +kernel
theorem jd_law_1579 : decode code 1579 = .ok (.iconst 0, 1) := by decide +kernel
theorem jd_law_1580 : decode code 1580 = .ok (.ireturn, 1) := by decide +kernel
theorem jd_law_1581 : decode code 1581 = .ok (.iload 5, 2) := by decide +kernel
theorem jd_law_1583 : decode code 1583 = .ok (.ifCond .ne 15, 3) := by decide +kernel
theorem jd_law_1586 : decode code 1586 = .ok (.aload_n 3, 1) := by decide +kernel
theorem jd_law_1587 : decode code 1587 = .ok (.iconst 0, 1) := by decide +kernel
theorem jd_law_1588 : decode code 1588 = .ok (.laload, 1) := by decide +kernel
theorem jd_law_1589 : decode code 1589 = .ok (.iload 6, 2) := by decide +kernel
theorem jd_law_1591 : decode code 1591 = .ok (.i2l, 1) := by decide +kernel
theorem jd_law_1592 : decode code 1592 = .ok (.lcmp, 1) := by decide +kernel
theorem jd_law_1593 : decode code 1593 = .ok (.ifCond .eq 5, 3) := by decide +kernel
theorem jd_law_1596 : decode code 1596 = .ok (.iconst 0, 1) := by decide +kernel
theorem jd_law_1597 : decode code 1597 = .ok (.ireturn, 1) := by decide +kernel
theorem jd_law_1598 : decode code 1598 = .ok (.goto 219, 3) := by decide +kernel
theorem jd_law_1601 : decode code 1601 = .ok (.aload_n 1, 1) := by decide +kernel
theorem jd_law_1602 : decode code 1602 = .ok (.aload_n 0, 1) := by decide +kernel
theorem jd_law_1603 : decode code 1603 = .ok (.iload 4, 2) := by decide +kernel
theorem jd_law_1605 : decode code 1605 = .ok (.iconst 1, 1) := by decide +kernel
theorem jd_law_1606 : decode code 1606 = .ok (.iadd, 1) := by decide +kernel
theorem jd_law_1607 : decode code 1607 = .ok (.iaload, 1) := by decide +kernel
theorem jd_law_1608 : decode code 1608 = .ok (.aload_n 0, 1) := by decide +kernel
theorem jd_law_1609 : decode code 1609 = .ok (.iload 4, 2) := by decide +kernel
theorem jd_law_1611 : decode code 1611 = .ok (.iconst 2, 1) := by decide +kernel
theorem jd_law_1612 : decode code 1612 = .ok (.iadd, 1) := by decide +kernel
theorem jd_law_1613 : decode code 1613 = .ok (.iaload, 1) := by decide +kernel
theorem jd_law_1614 : decode code 1614 = .ok (.aload_n 0, 1) := by decide +kernel
theorem jd_law_1615 : decode code 1615 = .ok (.iload 4, 2) := by decide +kernel
theorem jd_law_1617 : decode code 1617 = .ok (.iconst 3, 1) := by decide +kernel
theorem jd_law_1618 : decode code 1618 = .ok (.iadd, 1) := by decide +kernel
theorem jd_law_1619 : decode code 1619 = .ok (.iaload, 1) := by decide +kernel
theorem jd_law_1620 : decode code 1620 = .ok (.aload_n 3, 1) := by decide +kernel
theorem jd_law_1621 : decode code 1621 = .ok (.invokestatic 176, 3) := by decide +kernel
theorem jd_law_1624 : decode code 1624 = .ok (.istore 5, 2) := by decide +kernel
theorem jd_law_1626 : decode code 1626 = .ok (.aload_n 2, 1) := by decide +kernel
theorem jd_law_1627 : decode code 1627 = .ok (.aload_n 0, 1) := by decide +kernel
theorem jd_law_1628 : decode code 1628 = .ok (.iload 4, 2) := by decide +kernel
theorem jd_law_1630 : decode code 1630 = .ok (.iconst 1, 1) := by decide +kernel
theorem jd_law_1631 : decode code 1631 = .ok (.iadd, 1) := by decide +kernel
theorem jd_law_1632 : decode code 1632 = .ok (.iaload, 1) := by decide +kernel
theorem jd_law_1633 : decode code 1633 = .ok (.aload_n 0, 1) := by decide +kernel
theorem jd_law_1634 : decode code 1634 = .ok (.iload 4, 2) := by decide +kernel
theorem jd_law_1636 : decode code 1636 = .ok (.iconst 2, 1) := by decide +kernel
theorem jd_law_1637 : decode code 1637 = .ok (.iadd, 1) := by decide +kernel
theorem jd_law_1638 : decode code 1638 = .ok (.iaload, 1) := by decide +kernel
theorem jd_law_1639 : decode code 1639 = .ok (.aload_n 0, 1) := by decide +kernel
theorem jd_law_1640 : decode code 1640 = .ok (.iload 4, 2) := by decide +kernel
theorem jd_law_1642 : decode code 1642 = .ok (.iconst 3, 1) := by decide +kernel
theorem jd_law_1643 : decode code 1643 = .ok (.iadd, 1) := by decide +kernel
theorem jd_law_1644 : decode code 1644 = .ok (.iaload, 1) := by decide +kernel
theorem jd_law_1645 : decode code 1645 = .ok (.invokevirtual 178, 3) := by decide +kernel
theorem jd_law_1648 : decode code 1648 = .ok (.istore 6, 2) := by decide +kernel
theorem jd_law_1650 : decode code 1650 = .ok (.aload_n 2, 1) := by decide +kernel
theorem jd_law_1651 : decode code 1651 = .ok (.invokevirtual 102, 3) := by decide +kernel
theorem jd_law_1654 : decode code 1654 = .ok (.iload 5, 2) := by decide +kernel
theorem jd_law_1656 : decode code 1656 = .ok (.if_icmp .eq 5, 3) := by decide +kernel
theorem jd_law_1659 : decode code 1659 = .ok (.iconst 0, 1) := by decide +kernel
theorem jd_law_1660 : decode code 1660 = .ok (.ireturn, 1) := by decide +kernel
theorem jd_law_1661 : decode code 1661 = .ok (.iload 5, 2) := by decide +kernel
theorem jd_law_1663 : decode code 1663 = .ok (.ifCond .ne 15, 3) := by decide +kernel
theorem jd_law_1666 : decode code 1666 = .ok (.aload_n 3, 1) := by decide +kernel
theorem jd_law_1667 : decode code 1667 = .ok (.iconst 0, 1) := by decide +kernel
theorem jd_law_1668 : decode code 1668 = .ok (.laload, 1) := by decide +kernel
theorem jd_law_1669 : decode code 1669 = .ok (.iload 6, 2) := by decide +kernel
theorem jd_law_1671 : decode code 1671 = .ok (.i2l, 1) := by decide +kernel
theorem jd_law_1672 : decode code 1672 = .ok (.lcmp, 1) := by decide +kernel
theorem jd_law_1673 : decode code 1673 = .ok (.ifCond .eq 5, 3) := by decide +kernel
theorem jd_law_1676 : decode code 1676 = .ok (.iconst 0, 1) := by decide +kernel
theorem jd_law_1677 : decode code 1677 = .ok (.ireturn, 1) := by decide +kernel
theorem jd_law_1678 : decode code 1678 = .ok (.goto 139, 3) := by decide +kernel
theorem jd_law_1681 : decode code 1681 = .ok (.aload_n 1, 1) := by decide +kernel
theorem jd_law_1682 : decode code 1682 = .ok (.aload_n 0, 1) := by decide +kernel
theorem jd_law_1683 : decode code 1683 = .ok (.iload 4, 2) := by decide +kernel
theorem jd_law_1685 : decode code 1685 = .ok (.iconst 1, 1) := by decide +kernel
theorem jd_law_1686 : decode code 1686 = .ok (.iadd, 1) := by decide +kernel
theorem jd_law_1687 : decode code 1687 = .ok (.iaload, 1) := by decide +kernel
theorem jd_law_1688 : decode code 1688 = .ok (.aload_n 0, 1) := by decide +kernel
theorem jd_law_1689 : decode code 1689 = .ok (.iload 4, 2) := by decide +kernel
theorem jd_law_1691 : decode code 1691 = .ok (.iconst 2, 1) := by decide +kernel
theorem jd_law_1692 : decode code 1692 = .ok (.iadd, 1) := by decide +kernel
theorem jd_law_1693 : decode code 1693 = .ok (.iaload, 1) := by decide +kernel
theorem jd_law_1694 : decode code 1694 = .ok (.aload_n 3, 1) := by decide +kernel
theorem jd_law_1695 : decode code 1695 = .ok (.invokestatic 179, 3) := by decide +kernel
theorem jd_law_1698 : decode code 1698 = .ok (.istore 5, 2) := by decide +kernel
theorem jd_law_1700 : decode code 1700 = .ok (.aload_n 2, 1) := by decide +kernel
theorem jd_law_1701 : decode code 1701 = .ok (.aload_n 0, 1) := by decide +kernel
theorem jd_law_1702 : decode code 1702 = .ok (.iload 4, 2) := by decide +kernel
theorem jd_law_1704 : decode code 1704 = .ok (.iconst 1, 1) := by decide +kernel
theorem jd_law_1705 : decode code 1705 = .ok (.iadd, 1) := by decide +kernel
theorem jd_law_1706 : decode code 1706 = .ok (.iaload, 1) := by decide +kernel
theorem jd_law_1707 : decode code 1707 = .ok (.aload_n 0, 1) := by decide +kernel
theorem jd_law_1708 : decode code 1708 = .ok (.iload 4, 2) := by decide +kernel
theorem jd_law_1710 : decode code 1710 = .ok (.iconst 2, 1) := by decide +kernel
theorem jd_law_1711 : decode code 1711 = .ok (.iadd, 1) := by decide +kernel
theorem jd_law_1712 : decode code 1712 = .ok (.iaload, 1) := by decide +kernel
theorem jd_law_1713 : decode code 1713 = .ok (.invokevirtual 181, 3) := by decide +kernel
theorem jd_law_1716 : decode code 1716 = .ok (.istore 6, 2) := by decide +kernel
theorem jd_law_1718 : decode code 1718 = .ok (.aload_n 2, 1) := by decide +kernel
theorem jd_law_1719 : decode code 1719 = .ok (.invokevirtual 102, 3) := by decide +kernel
theorem jd_law_1722 : decode code 1722 = .ok (.iload 5, 2) := by decide +kernel
theorem jd_law_1724 : decode code 1724 = .ok (.if_icmp .eq 5, 3) := by decide +kernel
theorem jd_law_1727 : decode code 1727 = .ok (.iconst 0, 1) := by decide +kernel
theorem jd_law_1728 : decode code 1728 = .ok (.ireturn, 1) := by decide +kernel
theorem jd_law_1729 : decode code 1729 = .ok (.iload 5, 2) := by decide +kernel
theorem jd_law_1731 : decode code 1731 = .ok (.ifCond .ne 15, 3) := by decide +kernel
theorem jd_law_1734 : decode code 1734 = .ok (.aload_n 3, 1) := by decide +kernel
theorem jd_law_1735 : decode code 1735 = .ok (.iconst 0, 1) := by decide +kernel
theorem jd_law_1736 : decode code 1736 = .ok (.laload, 1) := by decide +kernel
theorem jd_law_1737 : decode code 1737 = .ok (.iload 6, 2) := by decide +kernel
theorem jd_law_1739 : decode code 1739 = .ok (.i2l, 1) := by decide +kernel
theorem jd_law_1740 : decode code 1740 = .ok (.lcmp, 1) := by decide +kernel
theorem jd_law_1741 : decode code 1741 = .ok (.ifCond .eq 5, 3) := by decide +kernel
theorem jd_law_1744 : decode code 1744 = .ok (.iconst 0, 1) := by decide +kernel
theorem jd_law_1745 : decode code 1745 = .ok (.ireturn, 1) := by decide +kernel
theorem jd_law_1746 : decode code 1746 = .ok (.goto 71, 3) := by decide +kernel
theorem jd_law_1749 : decode code 1749 = .ok (.aload_n 1, 1) := by decide +kernel
theorem jd_law_1750 : decode code 1750 = .ok (.invokevirtual 182, 3) := by decide +kernel
theorem jd_law_1753 : decode code 1753 = .ok (.aload_n 2, 1) := by decide +kernel
theorem jd_law_1754 : decode code 1754 = .ok (.invokevirtual 185, 3) := by decide +kernel
theorem jd_law_1757 : decode code 1757 = .ok (.if_icmp .eq 60, 3) := by decide +kernel
theorem jd_law_1760 : decode code 1760 = .ok (.iconst 0, 1) := by decide +kernel
theorem jd_law_1761 : decode code 1761 = .ok (.ireturn, 1) := by decide +kernel
theorem jd_law_1762 : decode code 1762 = .ok (.aload_n 1, 1) := by decide +kernel
theorem jd_law_1763 : decode code 1763 = .ok (.invokevirtual 186, 3) := by decide +kernel
theorem jd_law_1766 : decode code 1766 = .ok (.dstore 5, 2) := by decide +kernel
theorem jd_law_1768 : decode code 1768 = .ok (.aload_n 2, 1) := by decide +kernel
theorem jd_law_1769 : decode code 1769 = .ok (.invokevirtual 190, 3) := by decide +kernel
theorem jd_law_1772 : decode code 1772 = .ok (.dstore 7, 2) := by decide +kernel
theorem jd_law_1774 : decode code 1774 = .ok (.dload 5, 2) := by decide +kernel
theorem jd_law_1776 : decode code 1776 = .ok (.dload 7, 2) := by decide +kernel
theorem jd_law_1778 : decode code 1778 = .ok (.dcmp .l, 1) := by decide +kernel
theorem jd_law_1779 : decode code 1779 = .ok (.ifCond .eq 21, 3) := by decide +kernel
theorem jd_law_1782 : decode code 1782 = .ok (.dload 5, 2) := by decide +kernel
theorem jd_law_1784 : decode code 1784 = .ok (.dload 5, 2) := by decide +kernel
theorem jd_law_1786 : decode code 1786 = .ok (.dcmp .l, 1) := by decide +kernel
theorem jd_law_1787 : decode code 1787 = .ok (.ifCond .eq 11, 3) := by decide +kernel
theorem jd_law_1790 : decode code 1790 = .ok (.dload 7, 2) := by decide +kernel
theorem jd_law_1792 : decode code 1792 = .ok (.dload 7, 2) := by decide +kernel
theorem jd_law_1794 : decode code 1794 = .ok (.dcmp .l, 1) := by decide +kernel
theorem jd_law_1795 : decode code 1795 = .ok (.ifCond .ne 5, 3) := by decide +kernel
theorem jd_law_1798 : decode code 1798 = .ok (.iconst 0, 1) := by decide +kernel
theorem jd_law_1799 : decode code 1799 = .ok (.ireturn, 1) := by decide +kernel
theorem jd_law_1800 : decode code 1800 = .ok (.goto 17, 3) := by decide +kernel
theorem jd_law_1803 : decode code 1803 = .ok (.aload_n 1, 1) := by decide +kernel
theorem jd_law_1804 : decode code 1804 = .ok (.invokevirtual 191, 3) := by decide +kernel
theorem jd_law_1807 : decode code 1807 = .ok (.aload_n 2, 1) := by decide +kernel
theorem jd_law_1808 : decode code 1808 = .ok (.invokevirtual 195, 3) := by decide +kernel
theorem jd_law_1811 : decode code 1811 = .ok (.lcmp, 1) := by decide +kernel
theorem jd_law_1812 : decode code 1812 = .ok (.ifCond .eq 5, 3) := by decide +kernel
theorem jd_law_1815 : decode code 1815 = .ok (.iconst 0, 1) := by decide +kernel
theorem jd_law_1816 : decode code 1816 = .ok (.ireturn, 1) := by decide +kernel
theorem jd_law_1817 : decode code 1817 = .ok (.iinc 4 5, 3) := by decide +kernel
theorem jd_law_1820 : decode code 1820 = .ok (.goto (-1797), 3) := by decide +kernel
theorem jd_law_1823 : decode code 1823 = .ok (.iconst 1, 1) := by decide +kernel
theorem jd_law_1824 : decode code 1824 = .ok (.ireturn, 1) := by decide +kernel
