theorem dL_law_0 : decode cL_law 0 = .ok (.new 8, 3) := by decide +kernel
theorem dL_law_3 : decode cL_law 3 = .ok (.dup, 1) := by decide +kernel
theorem dL_law_4 : decode cL_law 4 = .ok (.invokespecial 132, 3) := by decide +kernel
theorem dL_law_7 : decode cL_law 7 = .ok (.astore_n 1, 1) := by decide +kernel
theorem dL_law_8 : decode cL_law 8 = .ok (.new 133, 3) := by decide +kernel
theorem dL_law_11 : decode cL_law 11 = .ok (.dup, 1) := by decide +kernel
theorem dL_law_12 : decode cL_law 12 = .ok (.invokespecial 135, 3) := by decide +kernel
theorem dL_law_15 : decode cL_law 15 = .ok (.astore_n 2, 1) := by decide +kernel
theorem dL_law_16 : decode cL_law 16 = .ok (.iconst 1, 1) := by decide +kernel
theorem dL_law_17 : decode cL_law 17 = .ok (.newarray .long, 2) := by decide +kernel
theorem dL_law_19 : decode cL_law 19 = .ok (.astore_n 3, 1) := by decide +kernel
theorem dL_law_20 : decode cL_law 20 = .ok (.iconst 0, 1) := by decide +kernel
theorem dL_law_21 : decode cL_law 21 = .ok (.istore 4, 2) := by decide +kernel
theorem dL_law_23 : decode cL_law 23 = .ok (.iload 4, 2) := by decide +kernel
theorem dL_law_25 : decode cL_law 25 = .ok (.aload_n 0, 1) := by decide +kernel
theorem dL_law_26 : decode cL_law 26 = .ok (.arraylength, 1) := by decide +kernel
theorem dL_law_27 : decode cL_law 27 = .ok (.iconst 5, 1) := by decide +kernel
theorem dL_law_28 : decode cL_law 28 = .ok (.isub, 1) := by decide +kernel
theorem dL_law_29 : decode cL_law 29 = .ok (.if_icmp .gt 2772, 3) := by decide +kernel
theorem dL_law_32 : decode cL_law 32 = .ok (.aload_n 0, 1) := by decide +kernel
theorem dL_law_33 : decode cL_law 33 = .ok (.iload 4, 2) := by decide +kernel
theorem dL_law_35 : decode cL_law 35 = .ok (.iaload, 1) := by decide +kernel
theorem dL_law_36 : decode cL_law 36 = .ok (.bipush 63, 2) := by decide +kernel
theorem dL_law_38 : decode cL_law 38 = .ok (.iand, 1) := by decide +kernel
theorem dL_law_39 : decode cL_law 39 = .ok (.tableswitch 2756 0 38 #[169, 225, 328, 403, 471, 539, 607, 663, 719, 810, 878, 926, 1001, 1069, 1113, 1169, 1237, 1340, 1408, 1511, 1567, 1580, 1664, 1764, 1777, 1790, 1874, 1942, 2034, 2090, 2103, 2194, 2274, 2349, 2417, 2485, 2541, 2644, 2700], 169) := by decide +kernel
theorem dL_law_208 : decode cL_law 208 = .ok (.aload_n 1, 1) := by decide +kernel
theorem dL_law_209 : decode cL_law 209 = .ok (.aload_n 0, 1) := by decide +kernel
theorem dL_law_210 : decode cL_law 210 = .ok (.iload 4, 2) := by decide +kernel
theorem dL_law_212 : decode cL_law 212 = .ok (.iconst 1, 1) := by decide +kernel
theorem dL_law_213 : decode cL_law 213 = .ok (.iadd, 1) := by decide +kernel
theorem dL_law_214 : decode cL_law 214 = .ok (.iaload, 1) := by decide +kernel
theorem dL_law_215 : decode cL_law 215 = .ok (.aload_n 3, 1) := by decide +kernel
theorem dL_law_216 : decode cL_law 216 = .ok (.invokestatic 136, 3) := by decide +kernel
theorem dL_law_219 : decode cL_law 219 = .ok (.istore 5, 2) := by decide +kernel
theorem dL_law_221 : decode cL_law 221 = .ok (.aload_n 2, 1) := by decide +kernel
theorem dL_law_222 : decode cL_law 222 = .ok (.aload_n 0, 1) := by decide +kernel
theorem dL_law_223 : decode cL_law 223 = .ok (.iload 4, 2) := by decide +kernel
theorem dL_law_225 : decode cL_law 225 = .ok (.iconst 1, 1) := by decide +kernel
theorem dL_law_226 : decode cL_law 226 = .ok (.iadd, 1) := by decide +kernel
theorem dL_law_227 : decode cL_law 227 = .ok (.iaload, 1) := by decide +kernel
theorem dL_law_228 : decode cL_law 228 = .ok (.invokevirtual 141, 3) := by decide +kernel
theorem dL_law_231 : decode cL_law 231 = .ok (.istore 6, 2) := by decide +kernel
theorem dL_law_233 : decode cL_law 233 = .ok (.aload_n 2, 1) := by decide +kernel
theorem dL_law_234 : decode cL_law 234 = .ok (.invokevirtual 142, 3) := by decide +kernel
theorem dL_law_237 : decode cL_law 237 = .ok (.iload 5, 2) := by decide +kernel
theorem dL_law_239 : decode cL_law 239 = .ok (.if_icmp .eq 5, 3) := by decide +kernel
theorem dL_law_242 : decode cL_law 242 = .ok (.iconst 0, 1) := by decide +kernel
theorem dL_law_243 : decode cL_law 243 = .ok (.ireturn, 1) := by decide +kernel
theorem dL_law_244 : decode cL_law 244 = .ok (.iload 5, 2) := by decide +kernel
theorem dL_law_246 : decode cL_law 246 = .ok (.ifCond .ne 15, 3) := by decide +kernel
theorem dL_law_249 : decode cL_law 249 = .ok (.aload_n 3, 1) := by decide +kernel
theorem dL_law_250 : decode cL_law 250 = .ok (.iconst 0, 1) := by decide +kernel
theorem dL_law_251 : decode cL_law 251 = .ok (.laload, 1) := by decide +kernel
theorem dL_law_252 : decode cL_law 252 = .ok (.iload 6, 2) := by decide +kernel
theorem dL_law_254 : decode cL_law 254 = .ok (.i2l, 1) := by decide +kernel
theorem dL_law_255 : decode cL_law 255 = .ok (.lcmp, 1) := by decide +kernel
theorem dL_law_256 : decode cL_law 256 = .ok (.ifCond .eq 5, 3) := by decide +kernel
theorem dL_law_259 : decode cL_law 259 = .ok (.iconst 0, 1) := by decide +kernel
theorem dL_law_260 : decode cL_law 260 = .ok (.ireturn, 1) := by decide +kernel
theorem dL_law_261 : decode cL_law 261 = .ok (.goto 2534, 3) := by decide +kernel
theorem dL_law_264 : decode cL_law 264 = .ok (.aload_n 1, 1) := by decide +kernel
theorem dL_law_265 : decode cL_law 265 = .ok (.aload_n 0, 1) := by decide +kernel
theorem dL_law_266 : decode cL_law 266 = .ok (.iload 4, 2) := by decide +kernel
theorem dL_law_268 : decode cL_law 268 = .ok (.iconst 1, 1) := by decide +kernel
theorem dL_law_269 : decode cL_law 269 = .ok (.iadd, 1) := by decide +kernel
theorem dL_law_270 : decode cL_law 270 = .ok (.iaload, 1) := by decide +kernel
theorem dL_law_271 : decode cL_law 271 = .ok (.aload_n 0, 1) := by decide +kernel
theorem dL_law_272 : decode cL_law 272 = .ok (.iload 4, 2) := by decide +kernel
theorem dL_law_274 : decode cL_law 274 = .ok (.iconst 2, 1) := by decide +kernel
theorem dL_law_275 : decode cL_law 275 = .ok (.iadd, 1) := by decide +kernel
theorem dL_law_276 : decode cL_law 276 = .ok (.iaload, 1) := by decide +kernel
theorem dL_law_277 : decode cL_law 277 = .ok (.aload_n 0, 1) := by decide +kernel
theorem dL_law_278 : decode cL_law 278 = .ok (.iload 4, 2) := by decide +kernel
theorem dL_law_280 : decode cL_law 280 = .ok (.iconst 3, 1) := by decide +kernel
theorem dL_law_281 : decode cL_law 281 = .ok (.iadd, 1) := by decide +kernel
theorem dL_law_282 : decode cL_law 282 = .ok (.iaload, 1) := by decide +kernel
theorem dL_law_283 : decode cL_law 283 = .ok (.ifCond .eq 7, 3) := by decide +kernel
theorem dL_law_286 : decode cL_law 286 = .ok (.iconst 1, 1) := by decide +kernel
theorem dL_law_287 : decode cL_law 287 = .ok (.goto 4, 3) := by decide +kernel
theorem dL_law_290 : decode cL_law 290 = .ok (.iconst 0, 1) := by decide +kernel
theorem dL_law_291 : decode cL_law 291 = .ok (.aload_n 3, 1) := by decide +kernel
theorem dL_law_292 : decode cL_law 292 = .ok (.invokestatic 145, 3) := by decide +kernel
theorem dL_law_295 : decode cL_law 295 = .ok (.istore 5, 2) := by decide +kernel
theorem dL_law_297 : decode cL_law 297 = .ok (.aload_n 2, 1) := by decide +kernel
theorem dL_law_298 : decode cL_law 298 = .ok (.aload_n 0, 1) := by decide +kernel
theorem dL_law_299 : decode cL_law 299 = .ok (.iload 4, 2) := by decide +kernel
theorem dL_law_301 : decode cL_law 301 = .ok (.iconst 1, 1) := by decide +kernel
theorem dL_law_302 : decode cL_law 302 = .ok (.iadd, 1) := by decide +kernel
theorem dL_law_303 : decode cL_law 303 = .ok (.iaload, 1) := by decide +kernel
theorem dL_law_304 : decode cL_law 304 = .ok (.aload_n 0, 1) := by decide +kernel
theorem dL_law_305 : decode cL_law 305 = .ok (.iload 4, 2) := by decide +kernel
theorem dL_law_307 : decode cL_law 307 = .ok (.iconst 2, 1) := by decide +kernel
theorem dL_law_308 : decode cL_law 308 = .ok (.iadd, 1) := by decide +kernel
theorem dL_law_309 : decode cL_law 309 = .ok (.iaload, 1) := by decide +kernel
theorem dL_law_310 : decode cL_law 310 = .ok (.aload_n 0, 1) := by decide +kernel
theorem dL_law_311 : decode cL_law 311 = .ok (.iload 4, 2) := by decide +kernel
theorem dL_law_313 : decode cL_law 313 = .ok (.iconst 3, 1) := by decide +kernel
theorem dL_law_314 : decode cL_law 314 = .ok (.iadd, 1) := by decide +kernel
theorem dL_law_315 : decode cL_law 315 = .ok (.iaload, 1) := by decide +kernel
theorem dL_law_316 : decode cL_law 316 = .ok (.ifCond .eq 7, 3) := by decide +kernel
theorem dL_law_319 : decode cL_law 319 = .ok (.iconst 1, 1) := by decide +kernel
theorem dL_law_320 : decode cL_law 320 = .ok (.goto 4, 3) := by decide +kernel
theorem dL_law_323 : decode cL_law 323 = .ok (.iconst 0, 1) := by decide +kernel
theorem dL_law_324 : decode cL_law 324 = .ok (.invokevirtual 148, 3) := by decide +kernel
theorem dL_law_327 : decode cL_law 327 = .ok (.istore 6, 2) := by decide +kernel
theorem dL_law_329 : decode cL_law 329 = .ok (.aload_n 2, 1) := by decide +kernel
theorem dL_law_330 : decode cL_law 330 = .ok (.invokevirtual 142, 3) := by decide +kernel
theorem dL_law_333 : decode cL_law 333 = .ok (.iload 5, 2) := by decide +kernel
theorem dL_law_335 : decode cL_law 335 = .ok (.if_icmp .eq 5, 3) := by decide +kernel
theorem dL_law_338 : decode cL_law 338 = .ok (.iconst 0, 1) := by decide +kernel
theorem dL_law_339 : decode cL_law 339 = .ok (.ireturn, 1) := by decide +kernel
theorem dL_law_340 : decode cL_law 340 = .ok (.iload 5, 2) := by decide +kernel
theorem dL_law_342 : decode cL_law 342 = .ok (.ifCond .ne 22, 3) := by decide +kernel
theorem dL_law_345 : decode cL_law 345 = .ok (.aload_n 3, 1) := by decide +kernel
theorem dL_law_346 : decode cL_law 346 = .ok (.iconst 0, 1) := by decide +kernel
theorem dL_law_347 : decode cL_law 347 = .ok (.laload, 1) := by decide +kernel
theorem dL_law_348 : decode cL_law 348 = .ok (.iload 6, 2) := by decide +kernel
theorem dL_law_350 : decode cL_law 350 = .ok (.ifCond .eq 7, 3) := by decide +kernel
theorem dL_law_353 : decode cL_law 353 = .ok (.lconst 1, 1) := by decide +kernel
theorem dL_law_354 : decode cL_law 354 = .ok (.goto 4, 3) := by decide +kernel
theorem dL_law_357 : decode cL_law 357 = .ok (.lconst 0, 1) := by decide +kernel
theorem dL_law_358 : decode cL_law 358 = .ok (.lcmp, 1) := by decide +kernel
theorem dL_law_359 : decode cL_law 359 = .ok (.ifCond .eq 5, 3) := by decide +kernel
theorem dL_law_362 : decode cL_law 362 = .ok (.iconst 0, 1) := by decide +kernel
theorem dL_law_363 : decode cL_law 363 = .ok (.ireturn, 1) := by decide +kernel
theorem dL_law_364 : decode cL_law 364 = .ok (.goto 2431, 3) := by decide +kernel
theorem dL_law_367 : decode cL_law 367 = .ok (.aload_n 1, 1) := by decide +kernel
theorem dL_law_368 : decode cL_law 368 = .ok (.aload_n 0, 1) := by decide +kernel
theorem dL_law_369 : decode cL_law 369 = .ok (.iload 4, 2) := by decide +kernel
theorem dL_law_371 : decode cL_law 371 = .ok (.iconst 1, 1) := by decide +kernel
theorem dL_law_372 : decode cL_law 372 = .ok (.iadd, 1) := by decide +kernel
theorem dL_law_373 : decode cL_law 373 = .ok (.iaload, 1) := by decide +kernel
theorem dL_law_374 : decode cL_law 374 = .ok (.aload_n 0, 1) := by decide +kernel
theorem dL_law_375 : decode cL_law 375 = .ok (.iload 4, 2) := by decide +kernel
theorem dL_law_377 : decode cL_law 377 = .ok (.iconst 2, 1) := by decide +kernel
theorem dL_law_378 : decode cL_law 378 = .ok (.iadd, 1) := by decide +kernel
theorem dL_law_379 : decode cL_law 379 = .ok (.iaload, 1) := by decide +kernel
theorem dL_law_380 : decode cL_law 380 = .ok (.aload_n 3, 1) := by decide +kernel
theorem dL_law_381 : decode cL_law 381 = .ok (.invokestatic 149, 3) := by decide +kernel
theorem dL_law_384 : decode cL_law 384 = .ok (.istore 5, 2) := by decide +kernel
theorem dL_law_386 : decode cL_law 386 = .ok (.aload_n 2, 1) := by decide +kernel
theorem dL_law_387 : decode cL_law 387 = .ok (.aload_n 0, 1) := by decide +kernel
theorem dL_law_388 : decode cL_law 388 = .ok (.iload 4, 2) := by decide +kernel
theorem dL_law_390 : decode cL_law 390 = .ok (.iconst 1, 1) := by decide +kernel
theorem dL_law_391 : decode cL_law 391 = .ok (.iadd, 1) := by decide +kernel
theorem dL_law_392 : decode cL_law 392 = .ok (.iaload, 1) := by decide +kernel
theorem dL_law_393 : decode cL_law 393 = .ok (.aload_n 0, 1) := by decide +kernel
theorem dL_law_394 : decode cL_law 394 = .ok (.iload 4, 2) := by decide +kernel
theorem dL_law_396 : decode cL_law 396 = .ok (.iconst 2, 1) := by decide +kernel
theorem dL_law_397 : decode cL_law 397 = .ok (.iadd, 1) := by decide +kernel
theorem dL_law_398 : decode cL_law 398 = .ok (.iaload, 1) := by decide +kernel
theorem dL_law_399 : decode cL_law 399 = .ok (.invokevirtual 152, 3) := by decide +kernel
theorem dL_law_402 : decode cL_law 402 = .ok (.istore 6, 2) := by decide +kernel
theorem dL_law_404 : decode cL_law 404 = .ok (.aload_n 2, 1) := by decide +kernel
theorem dL_law_405 : decode cL_law 405 = .ok (.invokevirtual 142, 3) := by decide +kernel
theorem dL_law_408 : decode cL_law 408 = .ok (.iload 5, 2) := by decide +kernel
theorem dL_law_410 : decode cL_law 410 = .ok (.if_icmp .eq 5, 3) := by decide +kernel
theorem dL_law_413 : decode cL_law 413 = .ok (.iconst 0, 1) := by decide +kernel
theorem dL_law_414 : decode cL_law 414 = .ok (.ireturn, 1) := by decide +kernel
theorem dL_law_415 : decode cL_law 415 = .ok (.iload 5, 2) := by decide +kernel
theorem dL_law_417 : decode cL_law 417 = .ok (.ifCond .ne 22, 3) := by decide +kernel
theorem dL_law_420 : decode cL_law 420 = .ok (.aload_n 3, 1) := by decide +kernel
theorem dL_law_421 : decode cL_law 421 = .ok (.iconst 0, 1) := by decide +kernel
theorem dL_law_422 : decode cL_law 422 = .ok (.laload, 1) := by decide +kernel
theorem dL_law_423 : decode cL_law 423 = .ok (.iload 6, 2) := by decide +kernel
theorem dL_law_425 : decode cL_law 425 = .ok (.ifCond .eq 7, 3) := by decide +kernel
theorem dL_law_428 : decode cL_law 428 = .ok (.lconst 1, 1) := by decide +kernel
theorem dL_law_429 : decode cL_law 429 = .ok (.goto 4, 3) := by decide +kernel
theorem dL_law_432 : decode cL_law 432 = .ok (.lconst 0, 1) := by decide +kernel
theorem dL_law_433 : decode cL_law 433 = .ok (.lcmp, 1) := by decide +kernel
theorem dL_law_434 : decode cL_law 434 = .ok (.ifCond .eq 5, 3) := by decide +kernel
theorem dL_law_437 : decode cL_law 437 = .ok (.iconst 0, 1) := by decide +kernel
theorem dL_law_438 : decode cL_law 438 = .ok (.ireturn, 1) := by decide +kernel
theorem dL_law_439 : decode cL_law 439 = .ok (.goto 2356, 3) := by decide +kernel
theorem dL_law_442 : decode cL_law 442 = .ok (.aload_n 1, 1) := by decide +kernel
theorem dL_law_443 : decode cL_law 443 = .ok (.aload_n 0, 1) := by decide +kernel
theorem dL_law_444 : decode cL_law 444 = .ok (.iload 4, 2) := by decide +kernel
theorem dL_law_446 : decode cL_law 446 = .ok (.iconst 1, 1) := by decide +kernel
theorem dL_law_447 : decode cL_law 447 = .ok (.iadd, 1) := by decide +kernel
theorem dL_law_448 : decode cL_law 448 = .ok (.iaload, 1) := by decide +kernel
theorem dL_law_449 : decode cL_law 449 = .ok (.aload_n 0, 1) := by decide +kernel
theorem dL_law_450 : decode cL_law 450 = .ok (.iload 4, 2) := by decide +kernel
theorem dL_law_452 : decode cL_law 452 = .ok (.iconst 2, 1) := by decide +kernel
theorem dL_law_453 : decode cL_law 453 = .ok (.iadd, 1) := by decide +kernel
theorem dL_law_454 : decode cL_law 454 = .ok (.iaload, 1) := by decide +kernel
theorem dL_law_455 : decode cL_law 455 = .ok (.aload_n 3, 1) := by decide +kernel
theorem dL_law_456 : decode cL_law 456 = .ok (.invokestatic 153, 3) := by decide +kernel
theorem dL_law_459 : decode cL_law 459 = .ok (.istore 5, 2) := by decide +kernel
theorem dL_law_461 : decode cL_law 461 = .ok (.aload_n 2, 1) := by decide +kernel
theorem dL_law_462 : decode cL_law 462 = .ok (.aload_n 0, 1) := by decide +kernel
theorem dL_law_463 : decode cL_law 463 = .ok (.iload 4, 2) := by decide +kernel
theorem dL_law_465 : decode cL_law 465 = .ok (.iconst 1, 1) := by decide +kernel
theorem dL_law_466 : decode cL_law 466 = .ok (.iadd, 1) := by decide +kernel
theorem dL_law_467 : decode cL_law 467 = .ok (.iaload, 1) := by decide +kernel
theorem dL_law_468 : decode cL_law 468 = .ok (.aload_n 0, 1) := by decide +kernel
theorem dL_law_469 : decode cL_law 469 = .ok (.iload 4, 2) := by decide +kernel
theorem dL_law_471 : decode cL_law 471 = .ok (.iconst 2, 1) := by decide +kernel
theorem dL_law_472 : decode cL_law 472 = .ok (.iadd, 1) := by decide +kernel
theorem dL_law_473 : decode cL_law 473 = .ok (.iaload, 1) := by decide +kernel
theorem dL_law_474 : decode cL_law 474 = .ok (.invokevirtual 155, 3) := by decide +kernel
theorem dL_law_477 : decode cL_law 477 = .ok (.istore 6, 2) := by decide +kernel
theorem dL_law_479 : decode cL_law 479 = .ok (.aload_n 2, 1) := by decide +kernel
theorem dL_law_480 : decode cL_law 480 = .ok (.invokevirtual 142, 3) := by decide +kernel
theorem dL_law_483 : decode cL_law 483 = .ok (.iload 5, 2) := by decide +kernel
theorem dL_law_485 : decode cL_law 485 = .ok (.if_icmp .eq 5, 3) := by decide +kernel
theorem dL_law_488 : decode cL_law 488 = .ok (.iconst 0, 1) := by decide +kernel
theorem dL_law_489 : decode cL_law 489 = .ok (.ireturn, 1) := by decide +kernel
theorem dL_law_490 : decode cL_law 490 = .ok (.iload 5, 2) := by decide +kernel
theorem dL_law_492 : decode cL_law 492 = .ok (.ifCond .ne 15, 3) := by decide +kernel
theorem dL_law_495 : decode cL_law 495 = .ok (.aload_n 3, 1) := by decide +kernel
theorem dL_law_496 : decode cL_law 496 = .ok (.iconst 0, 1) := by decide +kernel
theorem dL_law_497 : decode cL_law 497 = .ok (.laload, 1) := by decide +kernel
theorem dL_law_498 : decode cL_law 498 = .ok (.iload 6, 2) := by decide +kernel
theorem dL_law_500 : decode cL_law 500 = .ok (.i2l, 1) := by decide +kernel
theorem dL_law_501 : decode cL_law 501 = .ok (.lcmp, 1) := by decide +kernel
theorem dL_law_502 : decode cL_law 502 = .ok (.ifCond .eq 5, 3) := by decide +kernel
theorem dL_law_505 : decode cL_law 505 = .ok (.iconst 0, 1) := by decide +kernel
theorem dL_law_506 : decode cL_law 506 = .ok (.ireturn, 1) := by decide +kernel
theorem dL_law_507 : decode cL_law 507 = .ok (.goto 2288, 3) := by decide +kernel
theorem dL_law_510 : decode cL_law 510 = .ok (.aload_n 1, 1) := by decide +kernel
theorem dL_law_511 : decode cL_law 511 = .ok (.aload_n 0, 1) := by decide +kernel
theorem dL_law_512 : decode cL_law 512 = .ok (.iload 4, 2) := by decide +kernel
theorem dL_law_514 : decode cL_law 514 = .ok (.iconst 1, 1) := by decide +kernel
theorem dL_law_515 : decode cL_law 515 = .ok (.iadd, 1) := by decide +kernel
theorem dL_law_516 : decode cL_law 516 = .ok (.iaload, 1) := by decide +kernel
theorem dL_law_517 : decode cL_law 517 = .ok (.aload_n 0, 1) := by decide +kernel
theorem dL_law_518 : decode cL_law 518 = .ok (.iload 4, 2) := by decide +kernel
theorem dL_law_520 : decode cL_law 520 = .ok (.iconst 2, 1) := by decide +kernel
theorem dL_law_521 : decode cL_law 521 = .ok (.iadd, 1) := by decide +kernel
theorem dL_law_522 : decode cL_law 522 = .ok (.iaload, 1) := by decide +kernel
theorem dL_law_523 : decode cL_law 523 = .ok (.aload_n 3, 1) := by decide +kernel
theorem dL_law_524 : decode cL_law 524 = .ok (.invokestatic 156, 3) := by decide +kernel
theorem dL_law_527 : decode cL_law 527 = .ok (.istore 5, 2) := by decide +kernel
theorem dL_law_529 : decode cL_law 529 = .ok (.aload_n 2, 1) := by decide +kernel
theorem dL_law_530 : decode cL_law 530 = .ok (.aload_n 0, 1) := by decide +kernel
theorem dL_law_531 : decode cL_law 531 = .ok (.iload 4, 2) := by decide +kernel
theorem dL_law_533 : decode cL_law 533 = .ok (.iconst 1, 1) := by decide +kernel
theorem dL_law_534 : decode cL_law 534 = .ok (.iadd, 1) := by decide +kernel
theorem dL_law_535 : decode cL_law 535 = .ok (.iaload, 1) := by decide +kernel
theorem dL_law_536 : decode cL_law 536 = .ok (.aload_n 0, 1) := by decide +kernel
theorem dL_law_537 : decode cL_law 537 = .ok (.iload 4, 2) := by decide +kernel
theorem dL_law_539 : decode cL_law 539 = .ok (.iconst 2, 1) := by decide +kernel
theorem dL_law_540 : decode cL_law 540 = .ok (.iadd, 1) := by decide +kernel
theorem dL_law_541 : decode cL_law 541 = .ok (.iaload, 1) := by decide +kernel
theorem dL_law_542 : decode cL_law 542 = .ok (.invokevirtual 158, 3) := by decide +kernel
theorem dL_law_545 : decode cL_law 545 = .ok (.istore 6, 2) := by decide +kernel
theorem dL_law_547 : decode cL_law 547 = .ok (.aload_n 2, 1) := by decide +kernel
theorem dL_law_548 : decode cL_law 548 = .ok (.invokevirtual 142, 3) := by decide +kernel
theorem dL_law_551 : decode cL_law 551 = .ok (.iload 5, 2) := by decide +kernel
theorem dL_law_553 : decode cL_law 553 = .ok (.if_icmp .eq 5, 3) := by decide +kernel
theorem dL_law_556 : decode cL_law 556 = .ok (.iconst 0, 1) := by decide +kernel
theorem dL_law_557 : decode cL_law 557 = .ok (.ireturn, 1) := by decide +kernel
theorem dL_law_558 : decode cL_law 558 = .ok (.iload 5, 2) := by decide +kernel
theorem dL_law_560 : decode cL_law 560 = .ok (.ifCond .ne 15, 3) := by decide +kernel
theorem dL_law_563 : decode cL_law 563 = .ok (.aload_n 3, 1) := by decide +kernel
theorem dL_law_564 : decode cL_law 564 = .ok (.iconst 0, 1) := by decide +kernel
theorem dL_law_565 : decode cL_law 565 = .ok (.laload, 1) := by decide +kernel
theorem dL_law_566 : decode cL_law 566 = .ok (.iload 6, 2) := by decide +kernel
theorem dL_law_568 : decode cL_law 568 = .ok (.i2l, 1) := by decide +kernel
theorem dL_law_569 : decode cL_law 569 = .ok (.lcmp, 1) := by decide +kernel
theorem dL_law_570 : decode cL_law 570 = .ok (.ifCond .eq 5, 3) := by decide +kernel
theorem dL_law_573 : decode cL_law 573 = .ok (.iconst 0, 1) := by decide +kernel
theorem dL_law_574 : decode cL_law 574 = .ok (.ireturn, 1) := by decide +kernel
theorem dL_law_575 : decode cL_law 575 = .ok (.goto 2220, 3) := by decide +kernel
theorem dL_law_578 : decode cL_law 578 = .ok (.aload_n 1, 1) := by decide +kernel
theorem dL_law_579 : decode cL_law 579 = .ok (.aload_n 0, 1) := by decide +kernel
theorem dL_law_580 : decode cL_law 580 = .ok (.iload 4, 2) := by decide +kernel
theorem dL_law_582 : decode cL_law 582 = .ok (.iconst 1, 1) := by decide +kernel
theorem dL_law_583 : decode cL_law 583 = .ok (.iadd, 1) := by decide +kernel
theorem dL_law_584 : decode cL_law 584 = .ok (.iaload, 1) := by decide +kernel
theorem dL_law_585 : decode cL_law 585 = .ok (.aload_n 0, 1) := by decide +kernel
theorem dL_law_586 : decode cL_law 586 = .ok (.iload 4, 2) := by decide +kernel
theorem dL_law_588 : decode cL_law 588 = .ok (.iconst 2, 1) := by decide +kernel
theorem dL_law_589 : decode cL_law 589 = .ok (.iadd, 1) := by decide +kernel
theorem dL_law_590 : decode cL_law 590 = .ok (.iaload, 1) := by decide +kernel
theorem dL_law_591 : decode cL_law 591 = .ok (.aload_n 3, 1) := by decide +kernel
theorem dL_law_592 : decode cL_law 592 = .ok (.invokestatic 159, 3) := by decide +kernel
theorem dL_law_595 : decode cL_law 595 = .ok (.istore 5, 2) := by decide +kernel
theorem dL_law_597 : decode cL_law 597 = .ok (.aload_n 2, 1) := by decide +kernel
theorem dL_law_598 : decode cL_law 598 = .ok (.aload_n 0, 1) := by decide +kernel
theorem dL_law_599 : decode cL_law 599 = .ok (.iload 4, 2) := by decide +kernel
theorem dL_law_601 : decode cL_law 601 = .ok (.iconst 1, 1) := by decide +kernel
theorem dL_law_602 : decode cL_law 602 = .ok (.iadd, 1) := by decide +kernel
theorem dL_law_603 : decode cL_law 603 = .ok (.iaload, 1) := by decide +kernel
theorem dL_law_604 : decode cL_law 604 = .ok (.aload_n 0, 1) := by decide +kernel
theorem dL_law_605 : decode cL_law 605 = .ok (.iload 4, 2) := by decide +kernel
theorem dL_law_607 : decode cL_law 607 = .ok (.iconst 2, 1) := by decide +kernel
theorem dL_law_608 : decode cL_law 608 = .ok (.iadd, 1) := by decide +kernel
theorem dL_law_609 : decode cL_law 609 = .ok (.iaload, 1) := by decide +kernel
theorem dL_law_610 : decode cL_law 610 = .ok (.invokevirtual 161, 3) := by decide +kernel
theorem dL_law_613 : decode cL_law 613 = .ok (.istore 6, 2) := by decide +kernel
theorem dL_law_615 : decode cL_law 615 = .ok (.aload_n 2, 1) := by decide +kernel
theorem dL_law_616 : decode cL_law 616 = .ok (.invokevirtual 142, 3) := by decide +kernel
theorem dL_law_619 : decode cL_law 619 = .ok (.iload 5, 2) := by decide +kernel
theorem dL_law_621 : decode cL_law 621 = .ok (.if_icmp .eq 5, 3) := by decide +kernel
theorem dL_law_624 : decode cL_law 624 = .ok (.iconst 0, 1) := by decide +kernel
theorem dL_law_625 : decode cL_law 625 = .ok (.ireturn, 1) := by decide +kernel
theorem dL_law_626 : decode cL_law 626 = .ok (.iload 5, 2) := by decide +kernel
theorem dL_law_628 : decode cL_law 628 = .ok (.ifCond .ne 15, 3) := by decide +kernel
theorem dL_law_631 : decode cL_law 631 = .ok (.aload_n 3, 1) := by decide +kernel
theorem dL_law_632 : decode cL_law 632 = .ok (.iconst 0, 1) := by decide +kernel
theorem dL_law_633 : decode cL_law 633 = .ok (.laload, 1) := by decide +kernel
theorem dL_law_634 : decode cL_law 634 = .ok (.iload 6, 2) := by decide +kernel
theorem dL_law_636 : decode cL_law 636 = .ok (.i2l, 1) := by decide +kernel
theorem dL_law_637 : decode cL_law 637 = .ok (.lcmp, 1) := by decide +kernel
theorem dL_law_638 : decode cL_law 638 = .ok (.ifCond .eq 5, 3) := by decide +kernel
theorem dL_law_641 : decode cL_law 641 = .ok (.iconst 0, 1) := by decide +kernel
theorem dL_law_642 : decode cL_law 642 = .ok (.ireturn, 1) := by decide +kernel
theorem dL_law_643 : decode cL_law 643 = .ok (.goto 2152, 3) := by decide +kernel
theorem dL_law_646 : decode cL_law 646 = .ok (.aload_n 1, 1) := by decide +kernel
theorem dL_law_647 : decode cL_law 647 = .ok (.aload_n 0, 1) := by decide +kernel
theorem dL_law_648 : decode cL_law 648 = .ok (.iload 4, 2) := by decide +kernel
theorem dL_law_650 : decode cL_law 650 = .ok (.iconst 1, 1) := by decide +kernel
theorem dL_law_651 : decode cL_law 651 = .ok (.iadd, 1) := by decide +kernel
theorem dL_law_652 : decode cL_law 652 = .ok (.iaload, 1) := by decide +kernel
theorem dL_law_653 : decode cL_law 653 = .ok (.aload_n 3, 1) := by decide +kernel
theorem dL_law_654 : decode cL_law 654 = .ok (.invokestatic 162, 3) := by decide +kernel
theorem dL_law_657 : decode cL_law 657 = .ok (.istore 5, 2) := by decide +kernel
theorem dL_law_659 : decode cL_law 659 = .ok (.aload_n 2, 1) := by decide +kernel
theorem dL_law_660 : decode cL_law 660 = .ok (.aload_n 0, 1) := by decide +kernel
theorem dL_law_661 : decode cL_law 661 = .ok (.iload 4, 2) := by decide +kernel
theorem dL_law_663 : decode cL_law 663 = .ok (.iconst 1, 1) := by decide +kernel
theorem dL_law_664 : decode cL_law 664 = .ok (.iadd, 1) := by decide +kernel
theorem dL_law_665 : decode cL_law 665 = .ok (.iaload, 1) := by decide +kernel
theorem dL_law_666 : decode cL_law 666 = .ok (.invokevirtual 164, 3) := by decide +kernel
theorem dL_law_669 : decode cL_law 669 = .ok (.istore 6, 2) := by decide +kernel
theorem dL_law_671 : decode cL_law 671 = .ok (.aload_n 2, 1) := by decide +kernel
theorem dL_law_672 : decode cL_law 672 = .ok (.invokevirtual 142, 3) := by decide +kernel
theorem dL_law_675 : decode cL_law 675 = .ok (.iload 5, 2) := by decide +kernel
theorem dL_law_677 : decode cL_law 677 = .ok (.if_icmp .eq 5, 3) := by decide +kernel
theorem dL_law_680 : decode cL_law 680 = .ok (.iconst 0, 1) := by decide +kernel
theorem dL_law_681 : decode cL_law 681 = .ok (.ireturn, 1) := by decide +kernel
theorem dL_law_682 : decode cL_law 682 = .ok (.iload 5, 2) := by decide +kernel
theorem dL_law_684 : decode cL_law 684 = .ok (.ifCond .ne 15, 3) := by decide +kernel
theorem dL_law_687 : decode cL_law 687 = .ok (.aload_n 3, 1) := by decide +kernel
theorem dL_law_688 : decode cL_law 688 = .ok (.iconst 0, 1) := by decide +kernel
theorem dL_law_689 : decode cL_law 689 = .ok (.laload, 1) := by decide +kernel
theorem dL_law_690 : decode cL_law 690 = .ok (.iload 6, 2) := by decide +kernel
theorem dL_law_692 : decode cL_law 692 = .ok (.i2l, 1) := by decide +kernel
theorem dL_law_693 : decode cL_law 693 = .ok (.lcmp, 1) := by decide +kernel
theorem dL_law_694 : decode cL_law 694 = .ok (.ifCond .eq 5, 3) := by decide +kernel
theorem dL_law_697 : decode cL_law 697 = .ok (.iconst 0, 1) := by decide +kernel
theorem dL_law_698 : decode cL_law 698 = .ok (.ireturn, 1) := by decide +kernel
theorem dL_law_699 : decode cL_law 699 = .ok (.goto 2096, 3) := by decide +kernel
theorem dL_law_702 : decode cL_law 702 = .ok (.aload_n 1, 1) := by decide +kernel
theorem dL_law_703 : decode cL_law 703 = .ok (.aload_n 0, 1) := by decide +kernel
theorem dL_law_704 : decode cL_law 704 = .ok (.iload 4, 2) := by decide +kernel
theorem dL_law_706 : decode cL_law 706 = .ok (.iconst 1, 1) := by decide +kernel
theorem dL_law_707 : decode cL_law 707 = .ok (.iadd, 1) := by decide +kernel
theorem dL_law_708 : decode cL_law 708 = .ok (.iaload, 1) := by decide +kernel
theorem dL_law_709 : decode cL_law 709 = .ok (.aload_n 3, 1) := by decide +kernel
theorem dL_law_710 : decode cL_law 710 = .ok (.invokestatic 165, 3) := by decide +kernel
theorem dL_law_713 : decode cL_law 713 = .ok (.istore 5, 2) := by decide +kernel
theorem dL_law_715 : decode cL_law 715 = .ok (.aload_n 2, 1) := by decide +kernel
theorem dL_law_716 : decode cL_law 716 = .ok (.aload_n 0, 1) := by decide +kernel
theorem dL_law_717 : decode cL_law 717 = .ok (.iload 4, 2) := by decide +kernel
theorem dL_law_719 : decode cL_law 719 = .ok (.iconst 1, 1) := by decide +kernel
theorem dL_law_720 : decode cL_law 720 = .ok (.iadd, 1) := by decide +kernel
theorem dL_law_721 : decode cL_law 721 = .ok (.iaload, 1) := by decide +kernel
theorem dL_law_722 : decode cL_law 722 = .ok (.invokevirtual 167, 3) := by decide +kernel
theorem dL_law_725 : decode cL_law 725 = .ok (.istore 6, 2) := by decide +kernel
theorem dL_law_727 : decode cL_law 727 = .ok (.aload_n 2, 1) := by decide +kernel
theorem dL_law_728 : decode cL_law 728 = .ok (.invokevirtual 142, 3) := by decide +kernel
theorem dL_law_731 : decode cL_law 731 = .ok (.iload 5, 2) := by decide +kernel
theorem dL_law_733 : decode cL_law 733 = .ok (.if_icmp .eq 5, 3) := by decide +kernel
theorem dL_law_736 : decode cL_law 736 = .ok (.iconst 0, 1) := by decide +kernel
theorem dL_law_737 : decode cL_law 737 = .ok (.ireturn, 1) := by decide +kernel
theorem dL_law_738 : decode cL_law 738 = .ok (.iload 5, 2) := by decide +kernel
theorem dL_law_740 : decode cL_law 740 = .ok (.ifCond .ne 15, 3) := by decide +kernel
theorem dL_law_743 : decode cL_law 743 = .ok (.aload_n 3, 1) := by decide +kernel
theorem dL_law_744 : decode cL_law 744 = .ok (.iconst 0, 1) := by decide +kernel
theorem dL_law_745 : decode cL_law 745 = .ok (.laload, 1) := by decide +kernel
theorem dL_law_746 : decode cL_law 746 = .ok (.iload 6, 2) := by decide +kernel
theorem dL_law_748 : decode cL_law 748 = .ok (.i2l, 1) := by decide +kernel
theorem dL_law_749 : decode cL_law 749 = .ok (.lcmp, 1) := by decide +kernel
theorem dL_law_750 : decode cL_law 750 = .ok (.ifCond .eq 5, 3) := by decide +kernel
theorem dL_law_753 : decode cL_law 753 = .ok (.iconst 0, 1) := by decide +kernel
theorem dL_law_754 : decode cL_law 754 = .ok (.ireturn, 1) := by decide +kernel
theorem dL_law_755 : decode cL_law 755 = .ok (.goto 2040, 3) := by decide +kernel
theorem dL_law_758 : decode cL_law 758 = .ok (.aload_n 1, 1) := by decide +kernel
theorem dL_law_759 : decode cL_law 759 = .ok (.aload_n 0, 1) := by decide +kernel
theorem dL_law_760 : decode cL_law 760 = .ok (.iload 4, 2) := by decide +kernel
theorem dL_law_762 : decode cL_law 762 = .ok (.iconst 1, 1) := by decide +kernel
theorem dL_law_763 : decode cL_law 763 = .ok (.iadd, 1) := by decide +kernel
theorem dL_law_764 : decode cL_law 764 = .ok (.iaload, 1) := by decide +kernel
theorem dL_law_765 : decode cL_law 765 = .ok (.aload_n 0, 1) := by decide +kernel
theorem dL_law_766 : decode cL_law 766 = .ok (.iload 4, 2) := by decide +kernel
theorem dL_law_768 : decode cL_law 768 = .ok (.iconst 2, 1) := by decide +kernel
theorem dL_law_769 : decode cL_law 769 = .ok (.iadd, 1) := by decide +kernel
theorem dL_law_770 : decode cL_law 770 = .ok (.iaload, 1) := by decide +kernel
theorem dL_law_771 : decode cL_law 771 = .ok (.ifCond .eq 7, 3) := by decide +kernel
theorem dL_law_774 : decode cL_law 774 = .ok (.iconst 1, 1) := by decide +kernel
theorem dL_law_775 : decode cL_law 775 = .ok (.goto 4, 3) := by decide +kernel
theorem dL_law_778 : decode cL_law 778 = .ok (.iconst 0, 1) := by decide +kernel
theorem dL_law_779 : decode cL_law 779 = .ok (.aload_n 3, 1) := by decide +kernel
theorem dL_law_780 : decode cL_law 780 = .ok (.invokestatic 168, 3) := by decide +kernel
theorem dL_law_783 : decode cL_law 783 = .ok (.istore 5, 2) := by decide +kernel
theorem dL_law_785 : decode cL_law 785 = .ok (.aload_n 2, 1) := by decide +kernel
theorem dL_law_786 : decode cL_law 786 = .ok (.aload_n 0, 1) := by decide +kernel
theorem dL_law_787 : decode cL_law 787 = .ok (.iload 4, 2) := by decide +kernel
theorem dL_law_789 : decode cL_law 789 = .ok (.iconst 1, 1) := by decide +kernel
theorem dL_law_790 : decode cL_law 790 = .ok (.iadd, 1) := by decide +kernel
theorem dL_law_791 : decode cL_law 791 = .ok (.iaload, 1) := by decide +kernel
theorem dL_law_792 : decode cL_law 792 = .ok (.aload_n 0, 1) := by decide +kernel
theorem dL_law_793 : decode cL_law 793 = .ok (.iload 4, 2) := by decide +kernel
theorem dL_law_795 : decode cL_law 795 = .ok (.iconst 2, 1) := by decide +kernel
theorem dL_law_796 : decode cL_law 796 = .ok (.iadd, 1) := by decide +kernel
theorem dL_law_797 : decode cL_law 797 = .ok (.iaload, 1) := by decide +kernel
theorem dL_law_798 : decode cL_law 798 = .ok (.ifCond .eq 7, 3) := by decide +kernel
theorem dL_law_801 : decode cL_law 801 = .ok (.iconst 1, 1) := by decide +kernel
theorem dL_law_802 : decode cL_law 802 = .ok (.goto 4, 3) := by decide +kernel
theorem dL_law_805 : decode cL_law 805 = .ok (.iconst 0, 1) := by decide +kernel
theorem dL_law_806 : decode cL_law 806 = .ok (.invokevirtual 171, 3) := by decide +kernel
theorem dL_law_809 : decode cL_law 809 = .ok (.istore 6, 2) := by decide +kernel
theorem dL_law_811 : decode cL_law 811 = .ok (.aload_n 2, 1) := by decide +kernel
theorem dL_law_812 : decode cL_law 812 = .ok (.invokevirtual 142, 3) := by decide +kernel
theorem dL_law_815 : decode cL_law 815 = .ok (.iload 5, 2) := by decide +kernel
theorem dL_law_817 : decode cL_law 817 = .ok (.if_icmp .eq 5, 3) := by decide +kernel
theorem dL_law_820 : decode cL_law 820 = .ok (.iconst 0, 1) := by decide +kernel
theorem dL_law_821 : decode cL_law 821 = .ok (.ireturn, 1) := by decide +kernel
theorem dL_law_822 : decode cL_law 822 = .ok (.iload 5, 2) := by decide +kernel
theorem dL_law_824 : decode cL_law 824 = .ok (.ifCond .ne 22, 3) := by decide +kernel
theorem dL_law_827 : decode cL_law 827 = .ok (.aload_n 3, 1) := by decide +kernel
theorem dL_law_828 : decode cL_law 828 = .ok (.iconst 0, 1) := by decide +kernel
theorem dL_law_829 : decode cL_law 829 = .ok (.laload, 1) := by decide +kernel
theorem dL_law_830 : decode cL_law 830 = .ok (.iload 6, 2) := by decide +kernel
theorem dL_law_832 : decode cL_law 832 = .ok (.ifCond .eq 7, 3) := by decide +kernel
theorem dL_law_835 : decode cL_law 835 = .ok (.lconst 1, 1) := by decide +kernel
theorem dL_law_836 : decode cL_law 836 = .ok (.goto 4, 3) := by decide +kernel
theorem dL_law_839 : decode cL_law 839 = .ok (.lconst 0, 1) := by decide +kernel
theorem dL_law_840 : decode cL_law 840 = .ok (.lcmp, 1) := by decide +kernel
theorem dL_law_841 : decode cL_law 841 = .ok (.ifCond .eq 5, 3) := by decide +kernel
theorem dL_law_844 : decode cL_law 844 = .ok (.iconst 0, 1) := by decide +kernel
theorem dL_law_845 : decode cL_law 845 = .ok (.ireturn, 1) := by decide +kernel
theorem dL_law_846 : decode cL_law 846 = .ok (.goto 1949, 3) := by decide +kernel
theorem dL_law_849 : decode cL_law 849 = .ok (.aload_n 1, 1) := by decide +kernel
theorem dL_law_850 : decode cL_law 850 = .ok (.aload_n 0, 1) := by decide +kernel
theorem dL_law_851 : decode cL_law 851 = .ok (.iload 4, 2) := by decide +kernel
theorem dL_law_853 : decode cL_law 853 = .ok (.iconst 1, 1) := by decide +kernel
theorem dL_law_854 : decode cL_law 854 = .ok (.iadd, 1) := by decide +kernel
theorem dL_law_855 : decode cL_law 855 = .ok (.iaload, 1) := by decide +kernel
theorem dL_law_856 : decode cL_law 856 = .ok (.aload_n 0, 1) := by decide +kernel
theorem dL_law_857 : decode cL_law 857 = .ok (.iload 4, 2) := by decide +kernel
theorem dL_law_859 : decode cL_law 859 = .ok (.iconst 2, 1) := by decide +kernel
theorem dL_law_860 : decode cL_law 860 = .ok (.iadd, 1) := by decide +kernel
theorem dL_law_861 : decode cL_law 861 = .ok (.iaload, 1) := by decide +kernel
theorem dL_law_862 : decode cL_law 862 = .ok (.aload_n 3, 1) := by decide +kernel
theorem dL_law_863 : decode cL_law 863 = .ok (.invokestatic 172, 3) := by decide +kernel
theorem dL_law_866 : decode cL_law 866 = .ok (.istore 5, 2) := by decide +kernel
theorem dL_law_868 : decode cL_law 868 = .ok (.aload_n 2, 1) := by decide +kernel
theorem dL_law_869 : decode cL_law 869 = .ok (.aload_n 0, 1) := by decide +kernel
theorem dL_law_870 : decode cL_law 870 = .ok (.iload 4, 2) := by decide +kernel
theorem dL_law_872 : decode cL_law 872 = .ok (.iconst 1, 1) := by decide +kernel
theorem dL_law_873 : decode cL_law 873 = .ok (.iadd, 1) := by decide +kernel
theorem dL_law_874 : decode cL_law 874 = .ok (.iaload, 1) := by decide +kernel
theorem dL_law_875 : decode cL_law 875 = .ok (.aload_n 0, 1) := by decide +kernel
theorem dL_law_876 : decode cL_law 876 = .ok (.iload 4, 2) := by decide +kernel
theorem dL_law_878 : decode cL_law 878 = .ok (.iconst 2, 1) := by decide +kernel
theorem dL_law_879 : decode cL_law 879 = .ok (.iadd, 1) := by decide +kernel
theorem dL_law_880 : decode cL_law 880 = .ok (.iaload, 1) := by decide +kernel
theorem dL_law_881 : decode cL_law 881 = .ok (.invokevirtual 174, 3) := by decide +kernel
theorem dL_law_884 : decode cL_law 884 = .ok (.istore 6, 2) := by decide +kernel
theorem dL_law_886 : decode cL_law 886 = .ok (.aload_n 2, 1) := by decide +kernel
theorem dL_law_887 : decode cL_law 887 = .ok (.invokevirtual 142, 3) := by decide +kernel
theorem dL_law_890 : decode cL_law 890 = .ok (.iload 5, 2) := by decide +kernel
theorem dL_law_892 : decode cL_law 892 = .ok (.if_icmp .eq 5, 3) := by decide +kernel
theorem dL_law_895 : decode cL_law 895 = .ok (.iconst 0, 1) := by decide +kernel
theorem dL_law_896 : decode cL_law 896 = .ok (.ireturn, 1) := by decide +kernel
theorem dL_law_897 : decode cL_law 897 = .ok (.iload 5, 2) := by decide +kernel
theorem dL_law_899 : decode cL_law 899 = .ok (.ifCond .ne 15, 3) := by decide +kernel
theorem dL_law_902 : decode cL_law 902 = .ok (.aload_n 3, 1) := by decide +kernel
theorem dL_law_903 : decode cL_law 903 = .ok (.iconst 0, 1) := by decide +kernel
theorem dL_law_904 : decode cL_law 904 = .ok (.laload, 1) := by decide +kernel
theorem dL_law_905 : decode cL_law 905 = .ok (.iload 6, 2) := by decide +kernel
theorem dL_law_907 : decode cL_law 907 = .ok (.i2l, 1) := by decide +kernel
theorem dL_law_908 : decode cL_law 908 = .ok (.lcmp, 1) := by decide +kernel
theorem dL_law_909 : decode cL_law 909 = .ok (.ifCond .eq 5, 3) := by decide +kernel
theorem dL_law_912 : decode cL_law 912 = .ok (.iconst 0, 1) := by decide +kernel
theorem dL_law_913 : decode cL_law 913 = .ok (.ireturn, 1) := by decide +kernel
theorem dL_law_914 : decode cL_law 914 = .ok (.goto 1881, 3) := by decide +kernel
theorem dL_law_917 : decode cL_law 917 = .ok (.aload_n 1, 1) := by decide +kernel
theorem dL_law_918 : decode cL_law 918 = .ok (.aload_n 0, 1) := by decide +kernel
theorem dL_law_919 : decode cL_law 919 = .ok (.iload 4, 2) := by decide +kernel
theorem dL_law_921 : decode cL_law 921 = .ok (.iconst 1, 1) := by decide +kernel
theorem dL_law_922 : decode cL_law 922 = .ok (.iadd, 1) := by decide +kernel
theorem dL_law_923 : decode cL_law 923 = .ok (.iaload, 1) := by decide +kernel
theorem dL_law_924 : decode cL_law 924 = .ok (.aload_n 0, 1) := by decide +kernel
theorem dL_law_925 : decode cL_law 925 = .ok (.iload 4, 2) := by decide +kernel
theorem dL_law_927 : decode cL_law 927 = .ok (.iconst 2, 1) := by decide +kernel
theorem dL_law_928 : decode cL_law 928 = .ok (.iadd, 1) := by decide +kernel
theorem dL_law_929 : decode cL_law 929 = .ok (.iaload, 1) := by decide +kernel
theorem dL_law_930 : decode cL_law 930 = .ok (.invokestatic 175, 3) := by decide +kernel
theorem dL_law_933 : decode cL_law 933 = .ok (.istore 5, 2) := by decide +kernel
theorem dL_law_935 : decode cL_law 935 = .ok (.aload_n 2, 1) := by decide +kernel
theorem dL_law_936 : decode cL_law 936 = .ok (.aload_n 0, 1) := by decide +kernel
theorem dL_law_937 : decode cL_law 937 = .ok (.iload 4, 2) := by decide +kernel
theorem dL_law_939 : decode cL_law 939 = .ok (.iconst 1, 1) := by decide +kernel
theorem dL_law_940 : decode cL_law 940 = .ok (.iadd, 1) := by decide +kernel
theorem dL_law_941 : decode cL_law 941 = .ok (.iaload, 1) := by decide +kernel
theorem dL_law_942 : decode cL_law 942 = .ok (.aload_n 0, 1) := by decide +kernel
theorem dL_law_943 : decode cL_law 943 = .ok (.iload 4, 2) := by decide +kernel
theorem dL_law_945 : decode cL_law 945 = .ok (.iconst 2, 1) := by decide +kernel
theorem dL_law_946 : decode cL_law 946 = .ok (.iadd, 1) := by decide +kernel
theorem dL_law_947 : decode cL_law 947 = .ok (.iaload, 1) := by decide +kernel
theorem dL_law_948 : decode cL_law 948 = .ok (.invokevirtual 178, 3) := by decide +kernel
theorem dL_law_951 : decode cL_law 951 = .ok (.aload_n 2, 1) := by decide +kernel
theorem dL_law_952 : decode cL_law 952 = .ok (.invokevirtual 142, 3) := by decide +kernel
theorem dL_law_955 : decode cL_law 955 = .ok (.iload 5, 2) := by decide +kernel
theorem dL_law_957 : decode cL_law 957 = .ok (.if_icmp .eq 5, 3) := by decide +kernel
theorem dL_law_960 : decode cL_law 960 = .ok (.iconst 0, 1) := by decide +kernel
theorem dL_law_961 : decode cL_law 961 = .ok (.ireturn, 1) := by decide +kernel
theorem dL_law_962 : decode cL_law 962 = .ok (.goto 1833, 3) := by decide +kernel
theorem dL_law_965 : decode cL_law 965 = .ok (.aload_n 1, 1) := by decide +kernel
theorem dL_law_966 : decode cL_law 966 = .ok (.aload_n 0, 1) := by decide +kernel
theorem dL_law_967 : decode cL_law 967 = .ok (.iload 4, 2) := by decide +kernel
theorem dL_law_969 : decode cL_law 969 = .ok (.iconst 1, 1) := by decide +kernel
theorem dL_law_970 : decode cL_law 970 = .ok (.iadd, 1) := by decide +kernel
theorem dL_law_971 : decode cL_law 971 = .ok (.iaload, 1) := by decide +kernel
theorem dL_law_972 : decode cL_law 972 = .ok (.aload_n 0, 1) := by decide +kernel
theorem dL_law_973 : decode cL_law 973 = .ok (.iload 4, 2) := by decide +kernel
theorem dL_law_975 : decode cL_law 975 = .ok (.iconst 2, 1) := by decide +kernel
theorem dL_law_976 : decode cL_law 976 = .ok (.iadd, 1) := by decide +kernel
theorem dL_law_977 : decode cL_law 977 = .ok (.iaload, 1) := by decide +kernel
theorem dL_law_978 : decode cL_law 978 = .ok (.aload_n 3, 1) := by decide +kernel
theorem dL_law_979 : decode cL_law 979 = .ok (.invokestatic 179, 3) := by decide +kernel
theorem dL_law_982 : decode cL_law 982 = .ok (.istore 5, 2) := by decide +kernel
theorem dL_law_984 : decode cL_law 984 = .ok (.aload_n 2, 1) := by decide +kernel
theorem dL_law_985 : decode cL_law 985 = .ok (.aload_n 0, 1) := by decide +kernel
theorem dL_law_986 : decode cL_law 986 = .ok (.iload 4, 2) := by decide +kernel
theorem dL_law_988 : decode cL_law 988 = .ok (.iconst 1, 1) := by decide +kernel
theorem dL_law_989 : decode cL_law 989 = .ok (.iadd, 1) := by decide +kernel
theorem dL_law_990 : decode cL_law 990 = .ok (.iaload, 1) := by decide +kernel
theorem dL_law_991 : decode cL_law 991 = .ok (.aload_n 0, 1) := by decide +kernel
theorem dL_law_992 : decode cL_law 992 = .ok (.iload 4, 2) := by decide +kernel
theorem dL_law_994 : decode cL_law 994 = .ok (.iconst 2, 1) := by decide +kernel
theorem dL_law_995 : decode cL_law 995 = .ok (.iadd, 1) := by decide +kernel
theorem dL_law_996 : decode cL_law 996 = .ok (.iaload, 1) := by decide +kernel
theorem dL_law_997 : decode cL_law 997 = .ok (.invokevirtual 181, 3) := by decide +kernel
theorem dL_law_1000 : decode cL_law 1000 = .ok (.istore 6, 2) := by decide +kernel
theorem dL_law_1002 : decode cL_law 1002 = .ok (.aload_n 2, 1) := by decide +kernel
theorem dL_law_1003 : decode cL_law 1003 = .ok (.invokevirtual 142, 3) := by decide +kernel
theorem dL_law_1006 : decode cL_law 1006 = .ok (.iload 5, 2) := by decide +kernel
theorem dL_law_1008 : decode cL_law 1008 = .ok (.if_icmp .eq 5, 3) := by decide +kernel
theorem dL_law_1011 : decode cL_law 1011 = .ok (.iconst 0, 1) := by decide +kernel
theorem dL_law_1012 : decode cL_law 1012 = .ok (.ireturn, 1) := by decide +kernel
theorem dL_law_1013 : decode cL_law 1013 = .ok (.iload 5, 2) := by decide +kernel
theorem dL_law_1015 : decode cL_law 1015 = .ok (.ifCond .ne 22, 3) := by decide +kernel
theorem dL_law_1018 : decode cL_law 1018 = .ok (.aload_n 3, 1) := by decide +kernel
theorem dL_law_1019 : decode cL_law 1019 = .ok (.iconst 0, 1) := by decide +kernel
theorem dL_law_1020 : decode cL_law 1020 = .ok (.laload, 1) := by decide +kernel
theorem dL_law_1021 : decode cL_law 1021 = .ok (.iload 6, 2) := by decide +kernel
theorem dL_law_1023 : decode cL_law 1023 = .ok (.ifCond .eq 7, 3) := by decide +kernel
theorem dL_law_1026 : decode cL_law 1026 = .ok (.lconst 1, 1) := by decide +kernel
theorem dL_law_1027 : decode cL_law 1027 = .ok (.goto 4, 3) := by decide +kernel
theorem dL_law_1030 : decode cL_law 1030 = .ok (.lconst 0, 1) := by decide +kernel
theorem dL_law_1031 : decode cL_law 1031 = .ok (.lcmp, 1) := by decide +kernel
theorem dL_law_1032 : decode cL_law 1032 = .ok (.ifCond .eq 5, 3) := by decide +kernel
theorem dL_law_1035 : decode cL_law 1035 = .ok (.iconst 0, 1) := by decide +kernel
theorem dL_law_1036 : decode cL_law 1036 = .ok (.ireturn, 1) := by decide +kernel
theorem dL_law_1037 : decode cL_law 1037 = .ok (.goto 1758, 3) := by decide +kernel
theorem dL_law_1040 : decode cL_law 1040 = .ok (.aload_n 1, 1) := by decide +kernel
theorem dL_law_1041 : decode cL_law 1041 = .ok (.aload_n 0, 1) := by decide +kernel
theorem dL_law_1042 : decode cL_law 1042 = .ok (.iload 4, 2) := by decide +kernel
theorem dL_law_1044 : decode cL_law 1044 = .ok (.iconst 1, 1) := by decide +kernel
theorem dL_law_1045 : decode cL_law 1045 = .ok (.iadd, 1) := by decide +kernel
theorem dL_law_1046 : decode cL_law 1046 = .ok (.iaload, 1) := by decide +kernel
theorem dL_law_1047 : decode cL_law 1047 = .ok (.aload_n 0, 1) := by decide +kernel
theorem dL_law_1048 : decode cL_law 1048 = .ok (.iload 4, 2) := by decide +kernel
theorem dL_law_1050 : decode cL_law 1050 = .ok (.iconst 2, 1) := by decide +kernel
theorem dL_law_1051 : decode cL_law 1051 = .ok (.iadd, 1) := by decide +kernel
theorem dL_law_1052 : decode cL_law 1052 = .ok (.iaload, 1) := by decide +kernel
theorem dL_law_1053 : decode cL_law 1053 = .ok (.aload_n 3, 1) := by decide +kernel
theorem dL_law_1054 : decode cL_law 1054 = .ok (.invokestatic 182, 3) := by decide +kernel
theorem dL_law_1057 : decode cL_law 1057 = .ok (.istore 5, 2) := by decide +kernel
theorem dL_law_1059 : decode cL_law 1059 = .ok (.aload_n 2, 1) := by decide +kernel
theorem dL_law_1060 : decode cL_law 1060 = .ok (.aload_n 0, 1) := by decide +kernel
theorem dL_law_1061 : decode cL_law 1061 = .ok (.iload 4, 2) := by decide +kernel
theorem dL_law_1063 : decode cL_law 1063 = .ok (.iconst 1, 1) := by decide +kernel
theorem dL_law_1064 : decode cL_law 1064 = .ok (.iadd, 1) := by decide +kernel
theorem dL_law_1065 : decode cL_law 1065 = .ok (.iaload, 1) := by decide +kernel
theorem dL_law_1066 : decode cL_law 1066 = .ok (.aload_n 0, 1) := by decide +kernel
theorem dL_law_1067 : decode cL_law 1067 = .ok (.iload 4, 2) := by decide +kernel
theorem dL_law_1069 : decode cL_law 1069 = .ok (.iconst 2, 1) := by decide +kernel
theorem dL_law_1070 : decode cL_law 1070 = .ok (.iadd, 1) := by decide +kernel
theorem dL_law_1071 : decode cL_law 1071 = .ok (.iaload, 1) := by decide +kernel
theorem dL_law_1072 : decode cL_law 1072 = .ok (.invokevirtual 184, 3) := by decide +kernel
theorem dL_law_1075 : decode cL_law 1075 = .ok (.istore 6, 2) := by decide +kernel
theorem dL_law_1077 : decode cL_law 1077 = .ok (.aload_n 2, 1) := by decide +kernel
theorem dL_law_1078 : decode cL_law 1078 = .ok (.invokevirtual 142, 3) := by decide +kernel
theorem dL_law_1081 : decode cL_law 1081 = .ok (.iload 5, 2) := by decide +kernel
theorem dL_law_1083 : decode cL_law 1083 = .ok (.if_icmp .eq 5, 3) := by decide +kernel
theorem dL_law_1086 : decode cL_law 1086 = .ok (.iconst 0, 1) := by decide +kernel
theorem dL_law_1087 : decode cL_law 1087 = .ok (.ireturn, 1) := by decide +kernel
theorem dL_law_1088 : decode cL_law 1088 = .ok (.iload 5, 2) := by decide +kernel
theorem dL_law_1090 : decode cL_law 1090 = .ok (.ifCond .ne 15, 3) := by decide +kernel
theorem dL_law_1093 : decode cL_law 1093 = .ok (.aload_n 3, 1) := by decide +kernel
theorem dL_law_1094 : decode cL_law 1094 = .ok (.iconst 0, 1) := by decide +kernel
theorem dL_law_1095 : decode cL_law 1095 = .ok (.laload, 1) := by decide +kernel
theorem dL_law_1096 : decode cL_law 1096 = .ok (.iload 6, 2) := by decide +kernel
theorem dL_law_1098 : decode cL_law 1098 = .ok (.i2l, 1) := by decide +kernel
theorem dL_law_1099 : decode cL_law 1099 = .ok (.lcmp, 1) := by decide +kernel
theorem dL_law_1100 : decode cL_law 1100 = .ok (.ifCond .eq 5, 3) := by decide +kernel
theorem dL_law_1103 : decode cL_law 1103 = .ok (.iconst 0, 1) := by decide +kernel
theorem dL_law_1104 : decode cL_law 1104 = .ok (.ireturn, 1) := by decide +kernel
theorem dL_law_1105 : decode cL_law 1105 = .ok (.goto 1690, 3) := by decide +kernel
theorem dL_law_1108 : decode cL_law 1108 = .ok (.aload_n 1, 1) := by decide +kernel
theorem dL_law_1109 : decode cL_law 1109 = .ok (.aload_n 3, 1) := by decide +kernel
theorem dL_law_1110 : decode cL_law 1110 = .ok (.invokestatic 185, 3) := by decide +kernel
theorem dL_law_1113 : decode cL_law 1113 = .ok (.istore 5, 2) := by decide +kernel
theorem dL_law_1115 : decode cL_law 1115 = .ok (.aload_n 2, 1) := by decide +kernel
theorem dL_law_1116 : decode cL_law 1116 = .ok (.invokevirtual 188, 3) := by decide +kernel
theorem dL_law_1119 : decode cL_law 1119 = .ok (.istore 6, 2) := by decide +kernel
theorem dL_law_1121 : decode cL_law 1121 = .ok (.aload_n 2, 1) := by decide +kernel
theorem dL_law_1122 : decode cL_law 1122 = .ok (.invokevirtual 142, 3) := by decide +kernel
theorem dL_law_1125 : decode cL_law 1125 = .ok (.iload 5, 2) := by decide +kernel
theorem dL_law_1127 : decode cL_law 1127 = .ok (.if_icmp .eq 5, 3) := by decide +kernel
theorem dL_law_1130 : decode cL_law 1130 = .ok (.iconst 0, 1) := by decide +kernel
theorem dL_law_1131 : decode cL_law 1131 = .ok (.ireturn, 1) := by decide +kernel
theorem dL_law_1132 : decode cL_law 1132 = .ok (.iload 5, 2) := by decide +kernel
theorem dL_law_1134 : decode cL_law 1134 = .ok (.ifCond .ne 15, 3) := by decide +kernel
theorem dL_law_1137 : decode cL_law 1137 = .ok (.aload_n 3, 1) := by decide +kernel
theorem dL_law_1138 : decode cL_law 1138 = .ok (.iconst 0, 1) := by decide +kernel
theorem dL_law_1139 : decode cL_law 1139 = .ok (.laload, 1) := by decide +kernel
theorem dL_law_1140 : decode cL_law 1140 = .ok (.iload 6, 2) := by decide +kernel
theorem dL_law_1142 : decode cL_law 1142 = .ok (.i2l, 1) := by decide +kernel
theorem dL_law_1143 : decode cL_law 1143 = .ok (.lcmp, 1) := by decide +kernel
theorem dL_law_1144 : decode cL_law 1144 = .ok (.ifCond .eq 5, 3) := by decide +kernel
theorem dL_law_1147 : decode cL_law 1147 = .ok (.iconst 0, 1) := by decide +kernel
theorem dL_law_1148 : decode cL_law 1148 = .ok (.ireturn, 1) := by decide +kernel
theorem dL_law_1149 : decode cL_law 1149 = .ok (.goto 1646, 3) := by decide +kernel
theorem dL_law_1152 : decode cL_law 1152 = .ok (.aload_n 1, 1) := by decide +kernel
theorem dL_law_1153 : decode cL_law 1153 = .ok (.aload_n 0, 1) := by decide +kernel
theorem dL_law_1154 : decode cL_law 1154 = .ok (.iload 4, 2) := by decide +kernel
theorem dL_law_1156 : decode cL_law 1156 = .ok (.iconst 1, 1) := by decide +kernel
theorem dL_law_1157 : decode cL_law 1157 = .ok (.iadd, 1) := by decide +kernel
theorem dL_law_1158 : decode cL_law 1158 = .ok (.iaload, 1) := by decide +kernel
theorem dL_law_1159 : decode cL_law 1159 = .ok (.aload_n 3, 1) := by decide +kernel
theorem dL_law_1160 : decode cL_law 1160 = .ok (.invokestatic 189, 3) := by decide +kernel
theorem dL_law_1163 : decode cL_law 1163 = .ok (.istore 5, 2) := by decide +kernel
theorem dL_law_1165 : decode cL_law 1165 = .ok (.aload_n 2, 1) := by decide +kernel
theorem dL_law_1166 : decode cL_law 1166 = .ok (.aload_n 0, 1) := by decide +kernel
theorem dL_law_1167 : decode cL_law 1167 = .ok (.iload 4, 2) := by decide +kernel
theorem dL_law_1169 : decode cL_law 1169 = .ok (.iconst 1, 1) := by decide +kernel
theorem dL_law_1170 : decode cL_law 1170 = .ok (.iadd, 1) := by decide +kernel
theorem dL_law_1171 : decode cL_law 1171 = .ok (.iaload, 1) := by decide +kernel
theorem dL_law_1172 : decode cL_law 1172 = .ok (.invokevirtual 191, 3) := by decide +kernel
theorem dL_law_1175 : decode cL_law 1175 = .ok (.istore 6, 2) := by decide +kernel
theorem dL_law_1177 : decode cL_law 1177 = .ok (.aload_n 2, 1) := by decide +kernel
theorem dL_law_1178 : decode cL_law 1178 = .ok (.invokevirtual 142, 3) := by decide +kernel
theorem dL_law_1181 : decode cL_law 1181 = .ok (.iload 5, 2) := by decide +kernel
theorem dL_law_1183 : decode cL_law 1183 = .ok (.if_icmp .eq 5, 3) := by decide +kernel
theorem dL_law_1186 : decode cL_law 1186 = .ok (.iconst 0, 1) := by decide +kernel
theorem dL_law_1187 : decode cL_law 1187 = .ok (.ireturn, 1) := by decide +kernel
theorem dL_law_1188 : decode cL_law 1188 = .ok (.iload 5, 2) := by decide +kernel
theorem dL_law_1190 : decode cL_law 1190 = .ok (.ifCond .ne 15, 3) := by decide +kernel
theorem dL_law_1193 : decode cL_law 1193 = .ok (.aload_n 3, 1) := by decide +kernel
theorem dL_law_1194 : decode cL_law 1194 = .ok (.iconst 0, 1) := by decide +kernel
theorem dL_law_1195 : decode cL_law 1195 = .ok (.laload, 1) := by decide +kernel
theorem dL_law_1196 : decode cL_law 1196 = .ok (.iload 6, 2) := by decide +kernel
theorem dL_law_1198 : decode cL_law 1198 = .ok (.i2l, 1) := by decide +kernel
theorem dL_law_1199 : decode cL_law 1199 = .ok (.lcmp, 1) := by decide +kernel
theorem dL_law_1200 : decode cL_law 1200 = .ok (.ifCond .eq 5, 3) := by decide +kernel
theorem dL_law_1203 : decode cL_law 1203 = .ok (.iconst 0, 1) := by decide +kernel
theorem dL_law_1204 : decode cL_law 1204 = .ok (.ireturn, 1) := by decide +kernel
theorem dL_law_1205 : decode cL_law 1205 = .ok (.goto 1590, 3) := by decide +kernel
theorem dL_law_1208 : decode cL_law 1208 = .ok (.aload_n 1, 1) := by decide +kernel
theorem dL_law_1209 : decode cL_law 1209 = .ok (.aload_n 0, 1) := by decide +kernel
theorem dL_law_1210 : decode cL_law 1210 = .ok (.iload 4, 2) := by decide +kernel
theorem dL_law_1212 : decode cL_law 1212 = .ok (.iconst 1, 1) := by decide +kernel
theorem dL_law_1213 : decode cL_law 1213 = .ok (.iadd, 1) := by decide +kernel
theorem dL_law_1214 : decode cL_law 1214 = .ok (.iaload, 1) := by decide +kernel
theorem dL_law_1215 : decode cL_law 1215 = .ok (.aload_n 0, 1) := by decide +kernel
theorem dL_law_1216 : decode cL_law 1216 = .ok (.iload 4, 2) := by decide +kernel
theorem dL_law_1218 : decode cL_law 1218 = .ok (.iconst 2, 1) := by decide +kernel
theorem dL_law_1219 : decode cL_law 1219 = .ok (.iadd, 1) := by decide +kernel
theorem dL_law_1220 : decode cL_law 1220 = .ok (.iaload, 1) := by decide +kernel
theorem dL_law_1221 : decode cL_law 1221 = .ok (.aload_n 3, 1) := by decide +kernel
theorem dL_law_1222 : decode cL_law 1222 = .ok (.invokestatic 192, 3) := by decide +kernel
theorem dL_law_1225 : decode cL_law 1225 = .ok (.istore 5, 2) := by decide +kernel
theorem dL_law_1227 : decode cL_law 1227 = .ok (.aload_n 2, 1) := by decide +kernel
theorem dL_law_1228 : decode cL_law 1228 = .ok (.aload_n 0, 1) := by decide +kernel
theorem dL_law_1229 : decode cL_law 1229 = .ok (.iload 4, 2) := by decide +kernel
theorem dL_law_1231 : decode cL_law 1231 = .ok (.iconst 1, 1) := by decide +kernel
theorem dL_law_1232 : decode cL_law 1232 = .ok (.iadd, 1) := by decide +kernel
theorem dL_law_1233 : decode cL_law 1233 = .ok (.iaload, 1) := by decide +kernel
theorem dL_law_1234 : decode cL_law 1234 = .ok (.aload_n 0, 1) := by decide +kernel
theorem dL_law_1235 : decode cL_law 1235 = .ok (.iload 4, 2) := by decide +kernel
theorem dL_law_1237 : decode cL_law 1237 = .ok (.iconst 2, 1) := by decide +kernel
theorem dL_law_1238 : decode cL_law 1238 = .ok (.iadd, 1) := by decide +kernel
theorem dL_law_1239 : decode cL_law 1239 = .ok (.iaload, 1) := by decide +kernel
theorem dL_law_1240 : decode cL_law 1240 = .ok (.invokevirtual 194, 3) := by decide +kernel
theorem dL_law_1243 : decode cL_law 1243 = .ok (.istore 6, 2) := by decide +kernel
theorem dL_law_1245 : decode cL_law 1245 = .ok (.aload_n 2, 1) := by decide +kernel
theorem dL_law_1246 : decode cL_law 1246 = .ok (.invokevirtual 142, 3) := by decide +kernel
theorem dL_law_1249 : decode cL_law 1249 = .ok (.iload 5, 2) := by decide +kernel
theorem dL_law_1251 : decode cL_law 1251 = .ok (.if_icmp .eq 5, 3) := by decide +kernel
theorem dL_law_1254 : decode cL_law 1254 = .ok (.iconst 0, 1) := by decide +kernel
theorem dL_law_1255 : decode cL_law 1255 = .ok (.ireturn, 1) := by decide +kernel
theorem dL_law_1256 : decode cL_law 1256 = .ok (.iload 5, 2) := by decide +kernel
theorem dL_law_1258 : decode cL_law 1258 = .ok (.ifCond .ne 15, 3) := by decide +kernel
theorem dL_law_1261 : decode cL_law 1261 = .ok (.aload_n 3, 1) := by decide +kernel
theorem dL_law_1262 : decode cL_law 1262 = .ok (.iconst 0, 1) := by decide +kernel
theorem dL_law_1263 : decode cL_law 1263 = .ok (.laload, 1) := by decide +kernel
theorem dL_law_1264 : decode cL_law 1264 = .ok (.iload 6, 2) := by decide +kernel
theorem dL_law_1266 : decode cL_law 1266 = .ok (.i2l, 1) := by decide +kernel
theorem dL_law_1267 : decode cL_law 1267 = .ok (.lcmp, 1) := by decide +kernel
theorem dL_law_1268 : decode cL_law 1268 = .ok (.ifCond .eq 5, 3) := by decide +kernel
theorem dL_law_1271 : decode cL_law 1271 = .ok (.iconst 0, 1) := by decide +kernel
theorem dL_law_1272 : decode cL_law 1272 = .ok (.ireturn, 1) := by decide +kernel
theorem dL_law_1273 : decode cL_law 1273 = .ok (.goto 1522, 3) := by decide +kernel
theorem dL_law_1276 : decode cL_law 1276 = .ok (.aload_n 1, 1) := by decide +kernel
theorem dL_law_1277 : decode cL_law 1277 = .ok (.aload_n 0, 1) := by decide +kernel
theorem dL_law_1278 : decode cL_law 1278 = .ok (.iload 4, 2) := by decide +kernel
theorem dL_law_1280 : decode cL_law 1280 = .ok (.iconst 1, 1) := by decide +kernel
theorem dL_law_1281 : decode cL_law 1281 = .ok (.iadd, 1) := by decide +kernel
theorem dL_law_1282 : decode cL_law 1282 = .ok (.iaload, 1) := by decide +kernel
theorem dL_law_1283 : decode cL_law 1283 = .ok (.aload_n 0, 1) := by decide +kernel
theorem dL_law_1284 : decode cL_law 1284 = .ok (.iload 4, 2) := by decide +kernel
theorem dL_law_1286 : decode cL_law 1286 = .ok (.iconst 2, 1) := by decide +kernel
theorem dL_law_1287 : decode cL_law 1287 = .ok (.iadd, 1) := by decide +kernel
theorem dL_law_1288 : decode cL_law 1288 = .ok (.iaload, 1) := by decide +kernel
theorem dL_law_1289 : decode cL_law 1289 = .ok (.aload_n 0, 1) := by decide +kernel
theorem dL_law_1290 : decode cL_law 1290 = .ok (.iload 4, 2) := by decide +kernel
theorem dL_law_1292 : decode cL_law 1292 = .ok (.iconst 3, 1) := by decide +kernel
theorem dL_law_1293 : decode cL_law 1293 = .ok (.iadd, 1) := by decide +kernel
theorem dL_law_1294 : decode cL_law 1294 = .ok (.iaload, 1) := by decide +kernel
theorem dL_law_1295 : decode cL_law 1295 = .ok (.ifCond .eq 7, 3) := by decide +kernel
theorem dL_law_1298 : decode cL_law 1298 = .ok (.iconst 1, 1) := by decide +kernel
theorem dL_law_1299 : decode cL_law 1299 = .ok (.goto 4, 3) := by decide +kernel
theorem dL_law_1302 : decode cL_law 1302 = .ok (.iconst 0, 1) := by decide +kernel
theorem dL_law_1303 : decode cL_law 1303 = .ok (.aload_n 3, 1) := by decide +kernel
theorem dL_law_1304 : decode cL_law 1304 = .ok (.invokestatic 195, 3) := by decide +kernel
theorem dL_law_1307 : decode cL_law 1307 = .ok (.istore 5, 2) := by decide +kernel
theorem dL_law_1309 : decode cL_law 1309 = .ok (.aload_n 2, 1) := by decide +kernel
theorem dL_law_1310 : decode cL_law 1310 = .ok (.aload_n 0, 1) := by decide +kernel
theorem dL_law_1311 : decode cL_law 1311 = .ok (.iload 4, 2) := by decide +kernel
theorem dL_law_1313 : decode cL_law 1313 = .ok (.iconst 1, 1) := by decide +kernel
theorem dL_law_1314 : decode cL_law 1314 = .ok (.iadd, 1) := by decide +kernel
theorem dL_law_1315 : decode cL_law 1315 = .ok (.iaload, 1) := by decide +kernel
theorem dL_law_1316 : decode cL_law 1316 = .ok (.aload_n 0, 1) := by decide +kernel
theorem dL_law_1317 : decode cL_law 1317 = .ok (.iload 4, 2) := by decide +kernel
theorem dL_law_1319 : decode cL_law 1319 = .ok (.iconst 2, 1) := by decide +kernel
theorem dL_law_1320 : decode cL_law 1320 = .ok (.iadd, 1) := by decide +kernel
theorem dL_law_1321 : decode cL_law 1321 = .ok (.iaload, 1) := by decide +kernel
theorem dL_law_1322 : decode cL_law 1322 = .ok (.aload_n 0, 1) := by decide +kernel
theorem dL_law_1323 : decode cL_law 1323 = .ok (.iload 4, 2) := by decide +kernel
theorem dL_law_1325 : decode cL_law 1325 = .ok (.iconst 3, 1) := by decide +kernel
theorem dL_law_1326 : decode cL_law 1326 = .ok (.iadd, 1) := by decide +kernel
theorem dL_law_1327 : decode cL_law 1327 = .ok (.iaload, 1) := by decide +kernel
theorem dL_law_1328 : decode cL_law 1328 = .ok (.ifCond .eq 7, 3) := by decide +kernel
theorem dL_law_1331 : decode cL_law 1331 = .ok (.iconst 1, 1) := by decide +kernel
theorem dL_law_1332 : decode cL_law 1332 = .ok (.goto 4, 3) := by decide +kernel
theorem dL_law_1335 : decode cL_law 1335 = .ok (.iconst 0, 1) := by decide +kernel
theorem dL_law_1336 : decode cL_law 1336 = .ok (.invokevirtual 197, 3) := by decide +kernel
theorem dL_law_1339 : decode cL_law 1339 = .ok (.istore 6, 2) := by decide +kernel
theorem dL_law_1341 : decode cL_law 1341 = .ok (.aload_n 2, 1) := by decide +kernel
theorem dL_law_1342 : decode cL_law 1342 = .ok (.invokevirtual 142, 3) := by decide +kernel
theorem dL_law_1345 : decode cL_law 1345 = .ok (.iload 5, 2) := by decide +kernel
theorem dL_law_1347 : decode cL_law 1347 = .ok (.if_icmp .eq 5, 3) := by decide +kernel
theorem dL_law_1350 : decode cL_law 1350 = .ok (.iconst 0, 1) := by decide +kernel
theorem dL_law_1351 : decode cL_law 1351 = .ok (.ireturn, 1) := by decide +kernel
theorem dL_law_1352 : decode cL_law 1352 = .ok (.iload 5, 2) := by decide +kernel
theorem dL_law_1354 : decode cL_law 1354 = .ok (.ifCond .ne 22, 3) := by decide +kernel
theorem dL_law_1357 : decode cL_law 1357 = .ok (.aload_n 3, 1) := by decide +kernel
theorem dL_law_1358 : decode cL_law 1358 = .ok (.iconst 0, 1) := by decide +kernel
theorem dL_law_1359 : decode cL_law 1359 = .ok (.laload, 1) := by decide +kernel
theorem dL_law_1360 : decode cL_law 1360 = .ok (.iload 6, 2) := by decide +kernel
theorem dL_law_1362 : decode cL_law 1362 = .ok (.ifCond .eq 7, 3) := by decide +kernel
theorem dL_law_1365 : decode cL_law 1365 = .ok (.lconst 1, 1) := by decide +kernel
theorem dL_law_1366 : decode cL_law 1366 = .ok (.goto 4, 3) := by decide +kernel
theorem dL_law_1369 : decode cL_law 1369 = .ok (.lconst 0, 1) := by decide +kernel
theorem dL_law_1370 : decode cL_law 1370 = .ok (.lcmp, 1) := by decide +kernel
theorem dL_law_1371 : decode cL_law 1371 = .ok (.ifCond .eq 5, 3) := by decide +kernel
theorem dL_law_1374 : decode cL_law 1374 = .ok (.iconst 0, 1) := by decide +kernel
theorem dL_law_1375 : decode cL_law 1375 = .ok (.ireturn, 1) := by decide +kernel
theorem dL_law_1376 : decode cL_law 1376 = .ok (.goto 1419, 3) := by decide +kernel
theorem dL_law_1379 : decode cL_law 1379 = .ok (.aload_n 1, 1) := by decide +kernel
theorem dL_law_1380 : decode cL_law 1380 = .ok (.aload_n 0, 1) := by decide +kernel
theorem dL_law_1381 : decode cL_law 1381 = .ok (.iload 4, 2) := by decide +kernel
theorem dL_law_1383 : decode cL_law 1383 = .ok (.iconst 1, 1) := by decide +kernel
theorem dL_law_1384 : decode cL_law 1384 = .ok (.iadd, 1) := by decide +kernel
theorem dL_law_1385 : decode cL_law 1385 = .ok (.iaload, 1) := by decide +kernel
theorem dL_law_1386 : decode cL_law 1386 = .ok (.aload_n 0, 1) := by decide +kernel
theorem dL_law_1387 : decode cL_law 1387 = .ok (.iload 4, 2) := by decide +kernel
theorem dL_law_1389 : decode cL_law 1389 = .ok (.iconst 2, 1) := by decide +kernel
theorem dL_law_1390 : decode cL_law 1390 = .ok (.iadd, 1) := by decide +kernel
theorem dL_law_1391 : decode cL_law 1391 = .ok (.iaload, 1) := by decide +kernel
theorem dL_law_1392 : decode cL_law 1392 = .ok (.aload_n 3, 1) := by decide +kernel
theorem dL_law_1393 : decode cL_law 1393 = .ok (.invokestatic 198, 3) := by decide +kernel
theorem dL_law_1396 : decode cL_law 1396 = .ok (.istore 5, 2) := by decide +kernel
theorem dL_law_1398 : decode cL_law 1398 = .ok (.aload_n 2, 1) := by decide +kernel
theorem dL_law_1399 : decode cL_law 1399 = .ok (.aload_n 0, 1) := by decide +kernel
theorem dL_law_1400 : decode cL_law 1400 = .ok (.iload 4, 2) := by decide +kernel
theorem dL_law_1402 : decode cL_law 1402 = .ok (.iconst 1, 1) := by decide +kernel
theorem dL_law_1403 : decode cL_law 1403 = .ok (.iadd, 1) := by decide +kernel
theorem dL_law_1404 : decode cL_law 1404 = .ok (.iaload, 1) := by decide +kernel
theorem dL_law_1405 : decode cL_law 1405 = .ok (.aload_n 0, 1) := by decide +kernel
theorem dL_law_1406 : decode cL_law 1406 = .ok (.iload 4, 2) := by decide +kernel
theorem dL_law_1408 : decode cL_law 1408 = .ok (.iconst 2, 1) := by decide +kernel
theorem dL_law_1409 : decode cL_law 1409 = .ok (.iadd, 1) := by decide +kernel
theorem dL_law_1410 : decode cL_law 1410 = .ok (.iaload, 1) := by decide +kernel
theorem dL_law_1411 : decode cL_law 1411 = .ok (.invokevirtual 200, 3) := by decide +kernel
theorem dL_law_1414 : decode cL_law 1414 = .ok (.istore 6, 2) := by decide +kernel
theorem dL_law_1416 : decode cL_law 1416 = .ok (.aload_n 2, 1) := by decide +kernel
theorem dL_law_1417 : decode cL_law 1417 = .ok (.invokevirtual 142, 3) := by decide +kernel
theorem dL_law_1420 : decode cL_law 1420 = .ok (.iload 5, 2) := by decide +kernel
theorem dL_law_1422 : decode cL_law 1422 = .ok (.if_icmp .eq 5, 3) := by decide +kernel
theorem dL_law_1425 : decode cL_law 1425 = .ok (.iconst 0, 1) := by decide +kernel
theorem dL_law_1426 : decode cL_law 1426 = .ok (.ireturn, 1) := by decide +kernel
theorem dL_law_1427 : decode cL_law 1427 = .ok (.iload 5, 2) := by decide +kernel
theorem dL_law_1429 : decode cL_law 1429 = .ok (.ifCond .ne 15, 3) := by decide +kernel
theorem dL_law_1432 : decode cL_law 1432 = .ok (.aload_n 3, 1) := by decide +kernel
theorem dL_law_1433 : decode cL_law 1433 = .ok (.iconst 0, 1) := by decide +kernel
theorem dL_law_1434 : decode cL_law 1434 = .ok (.laload, 1) := by decide +kernel
theorem dL_law_1435 : decode cL_law 1435 = .ok (.iload 6, 2) := by decide +kernel
theorem dL_law_1437 : decode cL_law 1437 = .ok (.i2l, 1) := by decide +kernel
theorem dL_law_1438 : decode cL_law 1438 = .ok (.lcmp, 1) := by decide +kernel
theorem dL_law_1439 : decode cL_law 1439 = .ok (.ifCond .eq 5, 3) := by decide +kernel
theorem dL_law_1442 : decode cL_law 1442 = .ok (.iconst 0, 1) := by decide +kernel
theorem dL_law_1443 : decode cL_law 1443 = .ok (.ireturn, 1) := by decide +kernel
theorem dL_law_1444 : decode cL_law 1444 = .ok (.goto 1351, 3) := by decide +kernel
theorem dL_law_1447 : decode cL_law 1447 = .ok (.aload_n 1, 1) := by decide +kernel
theorem dL_law_1448 : decode cL_law 1448 = .ok (.aload_n 0, 1) := by decide +kernel
theorem dL_law_1449 : decode cL_law 1449 = .ok (.iload 4, 2) := by decide +kernel
theorem dL_law_1451 : decode cL_law 1451 = .ok (.iconst 1, 1) := by decide +kernel
theorem dL_law_1452 : decode cL_law 1452 = .ok (.iadd, 1) := by decide +kernel
theorem dL_law_1453 : decode cL_law 1453 = .ok (.iaload, 1) := by decide +kernel
theorem dL_law_1454 : decode cL_law 1454 = .ok (.aload_n 0, 1) := by decide +kernel
theorem dL_law_1455 : decode cL_law 1455 = .ok (.iload 4, 2) := by decide +kernel
theorem dL_law_1457 : decode cL_law 1457 = .ok (.iconst 2, 1) := by decide +kernel
theorem dL_law_1458 : decode cL_law 1458 = .ok (.iadd, 1) := by decide +kernel
theorem dL_law_1459 : decode cL_law 1459 = .ok (.iaload, 1) := by decide +kernel
theorem dL_law_1460 : decode cL_law 1460 = .ok (.aload_n 0, 1) := by decide +kernel
theorem dL_law_1461 : decode cL_law 1461 = .ok (.iload 4, 2) := by decide +kernel
theorem dL_law_1463 : decode cL_law 1463 = .ok (.iconst 3, 1) := by decide +kernel
theorem dL_law_1464 : decode cL_law 1464 = .ok (.iadd, 1) := by decide +kernel
theorem dL_law_1465 : decode cL_law 1465 = .ok (.iaload, 1) := by decide +kernel
theorem dL_law_1466 : decode cL_law 1466 = .ok (.ifCond .eq 7, 3) := by decide +kernel
theorem dL_law_1469 : decode cL_law 1469 = .ok (.iconst 1, 1) := by decide +kernel
theorem dL_law_1470 : decode cL_law 1470 = .ok (.goto 4, 3) := by decide +kernel
theorem dL_law_1473 : decode cL_law 1473 = .ok (.iconst 0, 1) := by decide +kernel
theorem dL_law_1474 : decode cL_law 1474 = .ok (.aload_n 3, 1) := by decide +kernel
theorem dL_law_1475 : decode cL_law 1475 = .ok (.invokestatic 201, 3) := by decide +kernel
theorem dL_law_1478 : decode cL_law 1478 = .ok (.istore 5, 2) := by decide +kernel
theorem dL_law_1480 : decode cL_law 1480 = .ok (.aload_n 2, 1) := by decide +kernel
theorem dL_law_1481 : decode cL_law 1481 = .ok (.aload_n 0, 1) := by decide +kernel
theorem dL_law_1482 : decode cL_law 1482 = .ok (.iload 4, 2) := by decide +kernel
theorem dL_law_1484 : decode cL_law 1484 = .ok (.iconst 1, 1) := by decide +kernel
theorem dL_law_1485 : decode cL_law 1485 = .ok (.iadd, 1) := by decide +kernel
theorem dL_law_1486 : decode cL_law 1486 = .ok (.iaload, 1) := by decide +kernel
theorem dL_law_1487 : decode cL_law 1487 = .ok (.aload_n 0, 1) := by decide +kernel
theorem dL_law_1488 : decode cL_law 1488 = .ok (.iload 4, 2) := by decide +kernel
theorem dL_law_1490 : decode cL_law 1490 = .ok (.iconst 2, 1) := by decide +kernel
theorem dL_law_1491 : decode cL_law 1491 = .ok (.iadd, 1) := by decide +kernel
theorem dL_law_1492 : decode cL_law 1492 = .ok (.iaload, 1) := by decide +kernel
theorem dL_law_1493 : decode cL_law 1493 = .ok (.aload_n 0, 1) := by decide +kernel
theorem dL_law_1494 : decode cL_law 1494 = .ok (.iload 4, 2) := by decide +kernel
theorem dL_law_1496 : decode cL_law 1496 = .ok (.iconst 3, 1) := by decide +kernel
theorem dL_law_1497 : decode cL_law 1497 = .ok (.iadd, 1) := by decide +kernel
theorem dL_law_1498 : decode cL_law 1498 = .ok (.iaload, 1) := by decide +kernel
theorem dL_law_1499 : decode cL_law 1499 = .ok (.ifCond .eq 7, 3) := by decide +kernel
theorem dL_law_1502 : decode cL_law 1502 = .ok (.iconst 1, 1) := by decide +kernel
theorem dL_law_1503 : decode cL_law 1503 = .ok (.goto 4, 3) := by decide +kernel
theorem dL_law_1506 : decode cL_law 1506 = .ok (.iconst 0, 1) := by decide +kernel
theorem dL_law_1507 : decode cL_law 1507 = .ok (.invokevirtual 203, 3) := by decide +kernel
theorem dL_law_1510 : decode cL_law 1510 = .ok (.istore 6, 2) := by decide +kernel
theorem dL_law_1512 : decode cL_law 1512 = .ok (.aload_n 2, 1) := by decide +kernel
theorem dL_law_1513 : decode cL_law 1513 = .ok (.invokevirtual 142, 3) := by decide +kernel
theorem dL_law_1516 : decode cL_law 1516 = .ok (.iload 5, 2) := by decide +kernel
theorem dL_law_1518 : decode cL_law 1518 = .ok (.if_icmp .eq 5, 3) := by decide +kernel
theorem dL_law_1521 : decode cL_law 1521 = .ok (.iconst 0, 1) := by decide +kernel
theorem dL_law_1522 : decode cL_law 1522 = .ok (.ireturn, 1) := by decide +kernel
theorem dL_law_1523 : decode cL_law 1523 = .ok (.iload 5, 2) := by decide +kernel
theorem dL_law_1525 : decode cL_law 1525 = .ok (.ifCond .ne 22, 3) := by decide +kernel
theorem dL_law_1528 : decode cL_law 1528 = .ok (.aload_n 3, 1) := by decide +kernel
theorem dL_law_1529 : decode cL_law 1529 = .ok (.iconst 0, 1) := by decide +kernel
theorem dL_law_1530 : decode cL_law 1530 = .ok (.laload, 1) := by decide +kernel
theorem dL_law_1531 : decode cL_law 1531 = .ok (.iload 6, 2) := by decide +kernel
theorem dL_law_1533 : decode cL_law 1533 = .ok (.ifCond .eq 7, 3) := by decide +kernel
theorem dL_law_1536 : decode cL_law 1536 = .ok (.lconst 1, 1) := by decide +kernel
theorem dL_law_1537 : decode cL_law 1537 = .ok (.goto 4, 3) := by decide +kernel
theorem dL_law_1540 : decode cL_law 1540 = .ok (.lconst 0, 1) := by decide +kernel
theorem dL_law_1541 : decode cL_law 1541 = .ok (.lcmp, 1) := by decide +kernel
theorem dL_law_1542 : decode cL_law 1542 = .ok (.ifCond .eq 5, 3) := by decide +kernel
theorem dL_law_1545 : decode cL_law 1545 = .ok (.iconst 0, 1) := by decide +kernel
theorem dL_law_1546 : decode cL_law 1546 = .ok (.ireturn, 1) := by decide +kernel
theorem dL_law_1547 : decode cL_law 1547 = .ok (.goto 1248, 3) := by decide +kernel
theorem dL_law_1550 : decode cL_law 1550 = .ok (.aload_n 1, 1) := by decide +kernel
theorem dL_law_1551 : decode cL_law 1551 = .ok (.aload_n 0, 1) := by decide +kernel
theorem dL_law_1552 : decode cL_law 1552 = .ok (.iload 4, 2) := by decide +kernel
theorem dL_law_1554 : decode cL_law 1554 = .ok (.iconst 1, 1) := by decide +kernel
theorem dL_law_1555 : decode cL_law 1555 = .ok (.iadd, 1) := by decide +kernel
theorem dL_law_1556 : decode cL_law 1556 = .ok (.iaload, 1) := by decide +kernel
theorem dL_law_1557 : decode cL_law 1557 = .ok (.aload_n 3, 1) := by decide +kernel
theorem dL_law_1558 : decode cL_law 1558 = .ok (.invokestatic 204, 3) := by decide +kernel
theorem dL_law_1561 : decode cL_law 1561 = .ok (.istore 5, 2) := by decide +kernel
theorem dL_law_1563 : decode cL_law 1563 = .ok (.aload_n 2, 1) := by decide +kernel
theorem dL_law_1564 : decode cL_law 1564 = .ok (.aload_n 0, 1) := by decide +kernel
theorem dL_law_1565 : decode cL_law 1565 = .ok (.iload 4, 2) := by decide +kernel
theorem dL_law_1567 : decode cL_law 1567 = .ok (.iconst 1, 1) := by decide +kernel
theorem dL_law_1568 : decode cL_law 1568 = .ok (.iadd, 1) := by decide +kernel
theorem dL_law_1569 : decode cL_law 1569 = .ok (.iaload, 1) := by decide +kernel
theorem dL_law_1570 : decode cL_law 1570 = .ok (.invokevirtual 206, 3) := by decide +kernel
theorem dL_law_1573 : decode cL_law 1573 = .ok (.istore 6, 2) := by decide +kernel
theorem dL_law_1575 : decode cL_law 1575 = .ok (.aload_n 2, 1) := by decide +kernel
theorem dL_law_1576 : decode cL_law 1576 = .ok (.invokevirtual 142, 3) := by decide +kernel
theorem dL_law_1579 : decode cL_law 1579 = .ok (.iload 5, 2) := by decide +kernel
theorem dL_law_1581 : decode cL_law 1581 = .ok (.if_icmp .eq 5, 3) := by decide +kernel
theorem dL_law_1584 : decode cL_law 1584 = .ok (.iconst 0, 1) := by decide +kernel
theorem dL_law_1585 : decode cL_law 1585 = .ok (.ireturn, 1) := by decide +kernel
theorem dL_law_1586 : decode cL_law 1586 = .ok (.iload 5, 2) := by decide +kernel
theorem dL_law_1588 : decode cL_law 1588 = .ok (.ifCond .ne 15, 3) := by decide +kernel
theorem dL_law_1591 : decode cL_law 1591 = .ok (.aload_n 3, 1) := by decide +kernel
theorem dL_law_1592 : decode cL_law 1592 = .ok (.iconst 0, 1) := by decide +kernel
theorem dL_law_1593 : decode cL_law 1593 = .ok (.laload, 1) := by decide +kernel
theorem dL_law_1594 : decode cL_law 1594 = .ok (.iload 6, 2) := by decide +kernel
theorem dL_law_1596 : decode cL_law 1596 = .ok (.i2l, 1) := by decide +kernel
theorem dL_law_1597 : decode cL_law 1597 = .ok (.lcmp, 1) := by decide +kernel
theorem dL_law_1598 : decode cL_law 1598 = .ok (.ifCond .eq 5, 3) := by decide +kernel
theorem dL_law_1601 : decode cL_law 1601 = .ok (.iconst 0, 1) := by decide +kernel
theorem dL_law_1602 : decode cL_law 1602 = .ok (.ireturn, 1) := by decide +kernel
theorem dL_law_1603 : decode cL_law 1603 = .ok (.goto 1192, 3) := by decide +kernel
theorem dL_law_1606 : decode cL_law 1606 = .ok (.aload_n 1, 1) := by decide +kernel
theorem dL_law_1607 : decode cL_law 1607 = .ok (.invokevirtual 207, 3) := by decide +kernel
theorem dL_law_1610 : decode cL_law 1610 = .ok (.aload_n 2, 1) := by decide +kernel
theorem dL_law_1611 : decode cL_law 1611 = .ok (.invokevirtual 210, 3) := by decide +kernel
theorem dL_law_1614 : decode cL_law 1614 = .ok (.if_icmp .eq 1181, 3) := by decide +kernel
theorem dL_law_1617 : decode cL_law 1617 = .ok (.iconst 0, 1) := by decide +kernel
theorem dL_law_1618 : decode cL_law 1618 = .ok (.ireturn, 1) := by decide +kernel
theorem dL_law_1619 : decode cL_law 1619 = .ok (.aload_n 1, 1) := by decide +kernel
theorem dL_law_1620 : decode cL_law 1620 = .ok (.aload_n 0, 1) := by decide +kernel
theorem dL_law_1621 : decode cL_law 1621 = .ok (.iload 4, 2) := by decide +kernel
theorem dL_law_1623 : decode cL_law 1623 = .ok (.iconst 1, 1) := by decide +kernel
theorem dL_law_1624 : decode cL_law 1624 = .ok (.iadd, 1) := by decide +kernel
theorem dL_law_1625 : decode cL_law 1625 = .ok (.iaload, 1) := by decide +kernel
theorem dL_law_1626 : decode cL_law 1626 = .ok (.aload_n 0, 1) := by decide +kernel
theorem dL_law_1627 : decode cL_law 1627 = .ok (.iload 4, 2) := by decide +kernel
theorem dL_law_1629 : decode cL_law 1629 = .ok (.iconst 2, 1) := by decide +kernel
theorem dL_law_1630 : decode cL_law 1630 = .ok (.iadd, 1) := by decide +kernel
theorem dL_law_1631 : decode cL_law 1631 = .ok (.iaload, 1) := by decide +kernel
theorem dL_law_1632 : decode cL_law 1632 = .ok (.ifCond .eq 7, 3) := by decide +kernel
theorem dL_law_1635 : decode cL_law 1635 = .ok (.iconst 1, 1) := by decide +kernel
theorem dL_law_1636 : decode cL_law 1636 = .ok (.goto 4, 3) := by decide +kernel
theorem dL_law_1639 : decode cL_law 1639 = .ok (.iconst 0, 1) := by decide +kernel
theorem dL_law_1640 : decode cL_law 1640 = .ok (.aload_n 3, 1) := by decide +kernel
theorem dL_law_1641 : decode cL_law 1641 = .ok (.invokestatic 211, 3) := by decide +kernel
theorem dL_law_1644 : decode cL_law 1644 = .ok (.istore 5, 2) := by decide +kernel
theorem dL_law_1646 : decode cL_law 1646 = .ok (.aload_n 2, 1) := by decide +kernel
theorem dL_law_1647 : decode cL_law 1647 = .ok (.aload_n 0, 1) := by decide +kernel
theorem dL_law_1648 : decode cL_law 1648 = .ok (.iload 4, 2) := by decide +kernel
theorem dL_law_1650 : decode cL_law 1650 = .ok (.iconst 1, 1) := by decide +kernel
theorem dL_law_1651 : decode cL_law 1651 = .ok (.iadd, 1) := by decide +kernel
theorem dL_law_1652 : decode cL_law 1652 = .ok (.iaload, 1) := by decide +kernel
theorem dL_law_1653 : decode cL_law 1653 = .ok (.aload_n 0, 1) := by decide +kernel
theorem dL_law_1654 : decode cL_law 1654 = .ok (.iload 4, 2) := by decide +kernel
theorem dL_law_1656 : decode cL_law 1656 = .ok (.iconst 2, 1) := by decide +kernel
theorem dL_law_1657 : decode cL_law 1657 = .ok (.iadd, 1) := by decide +kernel
theorem dL_law_1658 : decode cL_law 1658 = .ok (.iaload, 1) := by decide +kernel
theorem dL_law_1659 : decode cL_law 1659 = .ok (.ifCond .eq 7, 3) := by decide +kernel
theorem dL_law_1662 : decode cL_law 1662 = .ok (.iconst 1, 1) := by decide +kernel
theorem dL_law_1663 : decode cL_law 1663 = .ok (.goto 4, 3) := by decide +kernel
theorem dL_law_1666 : decode cL_law 1666 = .ok (.iconst 0, 1) := by decide +kernel
theorem dL_law_1667 : decode cL_law 1667 = .ok (.invokevirtual 213, 3) := by decide +kernel
theorem dL_law_1670 : decode cL_law 1670 = .ok (.istore 6, 2) := by decide +kernel
theorem dL_law_1672 : decode cL_law 1672 = .ok (.aload_n 2, 1) := by decide +kernel
theorem dL_law_1673 : decode cL_law 1673 = .ok (.invokevirtual 142, 3) := by decide +kernel
theorem dL_law_1676 : decode cL_law 1676 = .ok (.iload 5, 2) := by decide +kernel
theorem dL_law_1678 : decode cL_law 1678 = .ok (.if_icmp .eq 5, 3) := by decide +kernel
theorem dL_law_1681 : decode cL_law 1681 = .ok (.iconst 0, 1) := by decide +kernel
theorem dL_law_1682 : decode cL_law 1682 = .ok (.ireturn, 1) := by decide +kernel
theorem dL_law_1683 : decode cL_law 1683 = .ok (.iload 5, 2) := by decide +kernel
theorem dL_law_1685 : decode cL_law 1685 = .ok (.ifCond .ne 15, 3) := by decide +kernel
theorem dL_law_1688 : decode cL_law 1688 = .ok (.aload_n 3, 1) := by decide +kernel
theorem dL_law_1689 : decode cL_law 1689 = .ok (.iconst 0, 1) := by decide +kernel
theorem dL_law_1690 : decode cL_law 1690 = .ok (.laload, 1) := by decide +kernel
theorem dL_law_1691 : decode cL_law 1691 = .ok (.iload 6, 2) := by decide +kernel
theorem dL_law_1693 : decode cL_law 1693 = .ok (.i2l, 1) := by decide +kernel
theorem dL_law_1694 : decode cL_law 1694 = .ok (.lcmp, 1) := by decide +kernel
theorem dL_law_1695 : decode cL_law 1695 = .ok (.ifCond .eq 5, 3) := by decide +kernel
theorem dL_law_1698 : decode cL_law 1698 = .ok (.iconst 0, 1) := by decide +kernel
theorem dL_law_1699 : decode cL_law 1699 = .ok (.ireturn, 1) := by decide +kernel
theorem dL_law_1700 : decode cL_law 1700 = .ok (.goto 1095, 3) := by decide +kernel
theorem dL_law_1703 : decode cL_law 1703 = .ok (.aload_n 1, 1) := by decide +kernel
theorem dL_law_1704 : decode cL_law 1704 = .ok (.aload_n 0, 1) := by decide +kernel
theorem dL_law_1705 : decode cL_law 1705 = .ok (.iload 4, 2) := by decide +kernel
theorem dL_law_1707 : decode cL_law 1707 = .ok (.iconst 1, 1) := by decide +kernel
theorem dL_law_1708 : decode cL_law 1708 = .ok (.iadd, 1) := by decide +kernel
theorem dL_law_1709 : decode cL_law 1709 = .ok (.iaload, 1) := by decide +kernel
theorem dL_law_1710 : decode cL_law 1710 = .ok (.i2l, 1) := by decide +kernel
theorem dL_law_1711 : decode cL_law 1711 = .ok (.bipush 32, 2) := by decide +kernel
theorem dL_law_1713 : decode cL_law 1713 = .ok (.lshl, 1) := by decide +kernel
theorem dL_law_1714 : decode cL_law 1714 = .ok (.aload_n 0, 1) := by decide +kernel
theorem dL_law_1715 : decode cL_law 1715 = .ok (.iload 4, 2) := by decide +kernel
theorem dL_law_1717 : decode cL_law 1717 = .ok (.iconst 2, 1) := by decide +kernel
theorem dL_law_1718 : decode cL_law 1718 = .ok (.iadd, 1) := by decide +kernel
theorem dL_law_1719 : decode cL_law 1719 = .ok (.iaload, 1) := by decide +kernel
theorem dL_law_1720 : decode cL_law 1720 = .ok (.i2l, 1) := by decide +kernel
theorem dL_law_1721 : decode cL_law 1721 = .ok (.ldc2_w 214, 3) := by decide +kernel
theorem dL_law_1724 : decode cL_law 1724 = .ok (.land, 1) := by decide +kernel
theorem dL_law_1725 : decode cL_law 1725 = .ok (.lor, 1) := by decide +kernel
theorem dL_law_1726 : decode cL_law 1726 = .ok (.aload_n 0, 1) := by decide +kernel
theorem dL_law_1727 : decode cL_law 1727 = .ok (.iload 4, 2) := by decide +kernel
theorem dL_law_1729 : decode cL_law 1729 = .ok (.iconst 3, 1) := by decide +kernel
theorem dL_law_1730 : decode cL_law 1730 = .ok (.iadd, 1) := by decide +kernel
theorem dL_law_1731 : decode cL_law 1731 = .ok (.iaload, 1) := by decide +kernel
theorem dL_law_1732 : decode cL_law 1732 = .ok (.aload_n 3, 1) := by decide +kernel
theorem dL_law_1733 : decode cL_law 1733 = .ok (.invokestatic 216, 3) := by decide +kernel
theorem dL_law_1736 : decode cL_law 1736 = .ok (.istore 5, 2) := by decide +kernel
theorem dL_law_1738 : decode cL_law 1738 = .ok (.aload_n 2, 1) := by decide +kernel
theorem dL_law_1739 : decode cL_law 1739 = .ok (.aload_n 0, 1) := by decide +kernel
theorem dL_law_1740 : decode cL_law 1740 = .ok (.iload 4, 2) := by decide +kernel
theorem dL_law_1742 : decode cL_law 1742 = .ok (.iconst 1, 1) := by decide +kernel
theorem dL_law_1743 : decode cL_law 1743 = .ok (.iadd, 1) := by decide +kernel
theorem dL_law_1744 : decode cL_law 1744 = .ok (.iaload, 1) := by decide +kernel
theorem dL_law_1745 : decode cL_law 1745 = .ok (.i2l, 1) := by decide +kernel
theorem dL_law_1746 : decode cL_law 1746 = .ok (.bipush 32, 2) := by decide +kernel
theorem dL_law_1748 : decode cL_law 1748 = .ok (.lshl, 1) := by decide +kernel
theorem dL_law_1749 : decode cL_law 1749 = .ok (.aload_n 0, 1) := by decide +kernel
theorem dL_law_1750 : decode cL_law 1750 = .ok (.iload 4, 2) := by decide +kernel
theorem dL_law_1752 : decode cL_law 1752 = .ok (.iconst 2, 1) := by decide +kernel
theorem dL_law_1753 : decode cL_law 1753 = .ok (.iadd, 1) := by decide +kernel
theorem dL_law_1754 : decode cL_law 1754 = .ok (.iaload, 1) := by decide +kernel
theorem dL_law_1755 : decode cL_law 1755 = .ok (.i2l, 1) := by decide +kernel
theorem dL_law_1756 : decode cL_law 1756 = .ok (.ldc2_w 214, 3) := by decide +kernel
theorem dL_law_1759 : decode cL_law 1759 = .ok (.land, 1) := by decide +kernel
theorem dL_law_1760 : decode cL_law 1760 = .ok (.lor, 1) := by decide +kernel
theorem dL_law_1761 : decode cL_law 1761 = .ok (.aload_n 0, 1) := by decide +kernel
theorem dL_law_1762 : decode cL_law 1762 = .ok (.iload 4, 2) := by decide +kernel
theorem dL_law_1764 : decode cL_law 1764 = .ok (.iconst 3, 1) := by decide +kernel
theorem dL_law_1765 : decode cL_law 1765 = .ok (.iadd, 1) := by decide +kernel
theorem dL_law_1766 : decode cL_law 1766 = .ok (.iaload, 1) := by decide +kernel
theorem dL_law_1767 : decode cL_law 1767 = .ok (.invokevirtual 219, 3) := by decide +kernel
theorem dL_law_1770 : decode cL_law 1770 = .ok (.istore 6, 2) := by decide +kernel
theorem dL_law_1772 : decode cL_law 1772 = .ok (.aload_n 2, 1) := by decide +kernel
theorem dL_law_1773 : decode cL_law 1773 = .ok (.invokevirtual 142, 3) := by decide +kernel
theorem dL_law_1776 : decode cL_law 1776 = .ok (.iload 5, 2) := by decide +kernel
theorem dL_law_1778 : decode cL_law 1778 = .ok (.if_icmp .eq 5, 3) := by decide +kernel
theorem dL_law_1781 : decode cL_law 1781 = .ok (.iconst 0, 1) := by decide +kernel
theorem dL_law_1782 : decode cL_law 1782 = .ok (.ireturn, 1) := by decide +kernel
theorem dL_law_1783 : decode cL_law 1783 = .ok (.iload 5, 2) := by decide +kernel
theorem dL_law_1785 : decode cL_law 1785 = .ok (.ifCond .ne 15, 3) := by decide +kernel
theorem dL_law_1788 : decode cL_law 1788 = .ok (.aload_n 3, 1) := by decide +kernel
theorem dL_law_1789 : decode cL_law 1789 = .ok (.iconst 0, 1) := by decide +kernel
theorem dL_law_1790 : decode cL_law 1790 = .ok (.laload, 1) := by decide +kernel
theorem dL_law_1791 : decode cL_law 1791 = .ok (.iload 6, 2) := by decide +kernel
theorem dL_law_1793 : decode cL_law 1793 = .ok (.i2l, 1) := by decide +kernel
theorem dL_law_1794 : decode cL_law 1794 = .ok (.lcmp, 1) := by decide +kernel
theorem dL_law_1795 : decode cL_law 1795 = .ok (.ifCond .eq 5, 3) := by decide +kernel
theorem dL_law_1798 : decode cL_law 1798 = .ok (.iconst 0, 1) := by decide +kernel
theorem dL_law_1799 : decode cL_law 1799 = .ok (.ireturn, 1) := by decide +kernel
theorem dL_law_1800 : decode cL_law 1800 = .ok (.goto 995, 3) := by decide +kernel
theorem dL_law_1803 : decode cL_law 1803 = .ok (.aload_n 1, 1) := by decide +kernel
theorem dL_law_1804 : decode cL_law 1804 = .ok (.invokevirtual 220, 3) := by decide +kernel
theorem dL_law_1807 : decode cL_law 1807 = .ok (.aload_n 2, 1) := by decide +kernel
theorem dL_law_1808 : decode cL_law 1808 = .ok (.invokevirtual 223, 3) := by decide +kernel
theorem dL_law_1811 : decode cL_law 1811 = .ok (.if_icmp .eq 984, 3) := by decide +kernel
theorem dL_law_1814 : decode cL_law 1814 = .ok (.iconst 0, 1) := by decide +kernel
theorem dL_law_1815 : decode cL_law 1815 = .ok (.ireturn, 1) := by decide +kernel
theorem dL_law_1816 : decode cL_law 1816 = .ok (.aload_n 1, 1) := by decide +kernel
theorem dL_law_1817 : decode cL_law 1817 = .ok (.invokevirtual 224, 3) := by decide +kernel
theorem dL_law_1820 : decode cL_law 1820 = .ok (.aload_n 2, 1) := by decide +kernel
theorem dL_law_1821 : decode cL_law 1821 = .ok (.invokevirtual 227, 3) := by decide +kernel
theorem dL_law_1824 : decode cL_law 1824 = .ok (.if_icmp .eq 971, 3) := by decide +kernel
theorem dL_law_1827 : decode cL_law 1827 = .ok (.iconst 0, 1) := by decide +kernel
theorem dL_law_1828 : decode cL_law 1828 = .ok (.ireturn, 1) := by decide +kernel
theorem dL_law_1829 : decode cL_law 1829 = .ok (.aload_n 1, 1) := by decide +kernel
theorem dL_law_1830 : decode cL_law 1830 = .ok (.aload_n 0, 1) := by decide +kernel
theorem dL_law_1831 : decode cL_law 1831 = .ok (.iload 4, 2) := by decide +kernel
theorem dL_law_1833 : decode cL_law 1833 = .ok (.iconst 1, 1) := by decide +kernel
theorem dL_law_1834 : decode cL_law 1834 = .ok (.iadd, 1) := by decide +kernel
theorem dL_law_1835 : decode cL_law 1835 = .ok (.iaload, 1) := by decide +kernel
theorem dL_law_1836 : decode cL_law 1836 = .ok (.aload_n 0, 1) := by decide +kernel
theorem dL_law_1837 : decode cL_law 1837 = .ok (.iload 4, 2) := by decide +kernel
theorem dL_law_1839 : decode cL_law 1839 = .ok (.iconst 2, 1) := by decide +kernel
theorem dL_law_1840 : decode cL_law 1840 = .ok (.iadd, 1) := by decide +kernel
theorem dL_law_1841 : decode cL_law 1841 = .ok (.iaload, 1) := by decide +kernel
theorem dL_law_1842 : decode cL_law 1842 = .ok (.ifCond .eq 7, 3) := by decide +kernel
theorem dL_law_1845 : decode cL_law 1845 = .ok (.iconst 1, 1) := by decide +kernel
theorem dL_law_1846 : decode cL_law 1846 = .ok (.goto 4, 3) := by decide +kernel
theorem dL_law_1849 : decode cL_law 1849 = .ok (.iconst 0, 1) := by decide +kernel
theorem dL_law_1850 : decode cL_law 1850 = .ok (.aload_n 3, 1) := by decide +kernel
theorem dL_law_1851 : decode cL_law 1851 = .ok (.invokestatic 228, 3) := by decide +kernel
theorem dL_law_1854 : decode cL_law 1854 = .ok (.istore 5, 2) := by decide +kernel
theorem dL_law_1856 : decode cL_law 1856 = .ok (.aload_n 2, 1) := by decide +kernel
theorem dL_law_1857 : decode cL_law 1857 = .ok (.aload_n 0, 1) := by decide +kernel
theorem dL_law_1858 : decode cL_law 1858 = .ok (.iload 4, 2) := by decide +kernel
theorem dL_law_1860 : decode cL_law 1860 = .ok (.iconst 1, 1) := by decide +kernel
theorem dL_law_1861 : decode cL_law 1861 = .ok (.iadd, 1) := by decide +kernel
theorem dL_law_1862 : decode cL_law 1862 = .ok (.iaload, 1) := by decide +kernel
theorem dL_law_1863 : decode cL_law 1863 = .ok (.aload_n 0, 1) := by decide +kernel
theorem dL_law_1864 : decode cL_law 1864 = .ok (.iload 4, 2) := by decide +kernel
theorem dL_law_1866 : decode cL_law 1866 = .ok (.iconst 2, 1) := by decide +kernel
theorem dL_law_1867 : decode cL_law 1867 = .ok (.iadd, 1) := by decide +kernel
theorem dL_law_1868 : decode cL_law 1868 = .ok (.iaload, 1) := by decide +kernel
theorem dL_law_1869 : decode cL_law 1869 = .ok (.ifCond .eq 7, 3) := by decide +kernel
theorem dL_law_1872 : decode cL_law 1872 = .ok (.iconst 1, 1) := by decide +kernel
theorem dL_law_1873 : decode cL_law 1873 = .ok (.goto 4, 3) := by decide +kernel
theorem dL_law_1876 : decode cL_law 1876 = .ok (.iconst 0, 1) := by decide +kernel
theorem dL_law_1877 : decode cL_law 1877 = .ok (.invokevirtual 230, 3) := by decide +kernel
theorem dL_law_1880 : decode cL_law 1880 = .ok (.istore 6, 2) := by decide +kernel
theorem dL_law_1882 : decode cL_law 1882 = .ok (.aload_n 2, 1) := by decide +kernel
theorem dL_law_1883 : decode cL_law 1883 = .ok (.invokevirtual 142, 3) := by decide +kernel
theorem dL_law_1886 : decode cL_law 1886 = .ok (.iload 5, 2) := by decide +kernel
theorem dL_law_1888 : decode cL_law 1888 = .ok (.if_icmp .eq 5, 3) := by decide +kernel
theorem dL_law_1891 : decode cL_law 1891 = .ok (.iconst 0, 1) := by decide +kernel
theorem dL_law_1892 : decode cL_law 1892 = .ok (.ireturn, 1) := by decide +kernel
theorem dL_law_1893 : decode cL_law 1893 = .ok (.iload 5, 2) := by decide +kernel
theorem dL_law_1895 : decode cL_law 1895 = .ok (.ifCond .ne 15, 3) := by decide +kernel
theorem dL_law_1898 : decode cL_law 1898 = .ok (.aload_n 3, 1) := by decide +kernel
theorem dL_law_1899 : decode cL_law 1899 = .ok (.iconst 0, 1) := by decide +kernel
theorem dL_law_1900 : decode cL_law 1900 = .ok (.laload, 1) := by decide +kernel
theorem dL_law_1901 : decode cL_law 1901 = .ok (.iload 6, 2) := by decide +kernel
theorem dL_law_1903 : decode cL_law 1903 = .ok (.i2l, 1) := by decide +kernel
theorem dL_law_1904 : decode cL_law 1904 = .ok (.lcmp, 1) := by decide +kernel
theorem dL_law_1905 : decode cL_law 1905 = .ok (.ifCond .eq 5, 3) := by decide +kernel
theorem dL_law_1908 : decode cL_law 1908 = .ok (.iconst 0, 1) := by decide +kernel
theorem dL_law_1909 : decode cL_law 1909 = .ok (.ireturn, 1) := by decide +kernel
theorem dL_law_1910 : decode cL_law 1910 = .ok (.goto 885, 3) := by decide +kernel
theorem dL_law_1913 : decode cL_law 1913 = .ok (.aload_n 1, 1) := by decide +kernel
theorem dL_law_1914 : decode cL_law 1914 = .ok (.aload_n 0, 1) := by decide +kernel
theorem dL_law_1915 : decode cL_law 1915 = .ok (.iload 4, 2) := by decide +kernel
theorem dL_law_1917 : decode cL_law 1917 = .ok (.iconst 1, 1) := by decide +kernel
theorem dL_law_1918 : decode cL_law 1918 = .ok (.iadd, 1) := by decide +kernel
theorem dL_law_1919 : decode cL_law 1919 = .ok (.iaload, 1) := by decide +kernel
theorem dL_law_1920 : decode cL_law 1920 = .ok (.aload_n 0, 1) := by decide +kernel
theorem dL_law_1921 : decode cL_law 1921 = .ok (.iload 4, 2) := by decide +kernel
theorem dL_law_1923 : decode cL_law 1923 = .ok (.iconst 2, 1) := by decide +kernel
theorem dL_law_1924 : decode cL_law 1924 = .ok (.iadd, 1) := by decide +kernel
theorem dL_law_1925 : decode cL_law 1925 = .ok (.iaload, 1) := by decide +kernel
theorem dL_law_1926 : decode cL_law 1926 = .ok (.aload_n 3, 1) := by decide +kernel
theorem dL_law_1927 : decode cL_law 1927 = .ok (.invokestatic 231, 3) := by decide +kernel
theorem dL_law_1930 : decode cL_law 1930 = .ok (.istore 5, 2) := by decide +kernel
theorem dL_law_1932 : decode cL_law 1932 = .ok (.aload_n 2, 1) := by decide +kernel
theorem dL_law_1933 : decode cL_law 1933 = .ok (.aload_n 0, 1) := by decide +kernel
theorem dL_law_1934 : decode cL_law 1934 = .ok (.iload 4, 2) := by decide +kernel
theorem dL_law_1936 : decode cL_law 1936 = .ok (.iconst 1, 1) := by decide +kernel
theorem dL_law_1937 : decode cL_law 1937 = .ok (.iadd, 1) := by decide +kernel
theorem dL_law_1938 : decode cL_law 1938 = .ok (.iaload, 1) := by decide +kernel
theorem dL_law_1939 : decode cL_law 1939 = .ok (.aload_n 0, 1) := by decide +kernel
theorem dL_law_1940 : decode cL_law 1940 = .ok (.iload 4, 2) := by decide +kernel
theorem dL_law_1942 : decode cL_law 1942 = .ok (.iconst 2, 1) := by decide +kernel
theorem dL_law_1943 : decode cL_law 1943 = .ok (.iadd, 1) := by decide +kernel
theorem dL_law_1944 : decode cL_law 1944 = .ok (.iaload, 1) := by decide +kernel
theorem dL_law_1945 : decode cL_law 1945 = .ok (.invokevirtual 233, 3) := by decide +kernel
theorem dL_law_1948 : decode cL_law 1948 = .ok (.istore 6, 2) := by decide +kernel
theorem dL_law_1950 : decode cL_law 1950 = .ok (.aload_n 2, 1) := by decide +kernel
theorem dL_law_1951 : decode cL_law 1951 = .ok (.invokevirtual 142, 3) := by decide +kernel
theorem dL_law_1954 : decode cL_law 1954 = .ok (.iload 5, 2) := by decide +kernel
theorem dL_law_1956 : decode cL_law 1956 = .ok (.if_icmp .eq 5, 3) := by decide +kernel
theorem dL_law_1959 : decode cL_law 1959 = .ok (.iconst 0, 1) := by decide +kernel
theorem dL_law_1960 : decode cL_law 1960 = .ok (.ireturn, 1) := by decide +kernel
theorem dL_law_1961 : decode cL_law 1961 = .ok (.iload 5, 2) := by decide +kernel
theorem dL_law_1963 : decode cL_law 1963 = .ok (.ifCond .ne 15, 3) := by decide +kernel
theorem dL_law_1966 : decode cL_law 1966 = .ok (.aload_n 3, 1) := by decide +kernel
theorem dL_law_1967 : decode cL_law 1967 = .ok (.iconst 0, 1) := by decide +kernel
theorem dL_law_1968 : decode cL_law 1968 = .ok (.laload, 1) := by decide +kernel
theorem dL_law_1969 : decode cL_law 1969 = .ok (.iload 6, 2) := by decide +kernel
theorem dL_law_1971 : decode cL_law 1971 = .ok (.i2l, 1) := by decide +kernel
theorem dL_law_1972 : decode cL_law 1972 = .ok (.lcmp, 1) := by decide +kernel
theorem dL_law_1973 : decode cL_law 1973 = .ok (.ifCond .eq 5, 3) := by decide +kernel
theorem dL_law_1976 : decode cL_law 1976 = .ok (.iconst 0, 1) := by decide +kernel
theorem dL_law_1977 : decode cL_law 1977 = .ok (.ireturn, 1) := by decide +kernel
theorem dL_law_1978 : decode cL_law 1978 = .ok (.goto 817, 3) := by decide +kernel
theorem dL_law_1981 : decode cL_law 1981 = .ok (.aload_n 1, 1) := by decide +kernel
theorem dL_law_1982 : decode cL_law 1982 = .ok (.aload_n 0, 1) := by decide +kernel
theorem dL_law_1983 : decode cL_law 1983 = .ok (.iload 4, 2) := by decide +kernel
theorem dL_law_1985 : decode cL_law 1985 = .ok (.iconst 1, 1) := by decide +kernel
theorem dL_law_1986 : decode cL_law 1986 = .ok (.iadd, 1) := by decide +kernel
theorem dL_law_1987 : decode cL_law 1987 = .ok (.iaload, 1) := by decide +kernel
theorem dL_law_1988 : decode cL_law 1988 = .ok (.aload_n 0, 1) := by decide +kernel
theorem dL_law_1989 : decode cL_law 1989 = .ok (.iload 4, 2) := by decide +kernel
theorem dL_law_1991 : decode cL_law 1991 = .ok (.iconst 2, 1) := by decide +kernel
theorem dL_law_1992 : decode cL_law 1992 = .ok (.iadd, 1) := by decide +kernel
theorem dL_law_1993 : decode cL_law 1993 = .ok (.iaload, 1) := by decide +kernel
theorem dL_law_1994 : decode cL_law 1994 = .ok (.aload_n 0, 1) := by decide +kernel
theorem dL_law_1995 : decode cL_law 1995 = .ok (.iload 4, 2) := by decide +kernel
theorem dL_law_1997 : decode cL_law 1997 = .ok (.iconst 3, 1) := by decide +kernel
theorem dL_law_1998 : decode cL_law 1998 = .ok (.iadd, 1) := by decide +kernel
theorem dL_law_1999 : decode cL_law 1999 = .ok (.iaload, 1) := by decide +kernel
theorem dL_law_2000 : decode cL_law 2000 = .ok (.aload_n 0, 1) := by decide +kernel
theorem dL_law_2001 : decode cL_law 2001 = .ok (.iload 4, 2) := by decide +kernel
theorem dL_law_2003 : decode cL_law 2003 = .ok (.iconst 4, 1) := by decide +kernel
theorem dL_law_2004 : decode cL_law 2004 = .ok (.iadd, 1) := by decide +kernel
theorem dL_law_2005 : decode cL_law 2005 = .ok (.iaload, 1) := by decide +kernel
theorem dL_law_2006 : decode cL_law 2006 = .ok (.aload_n 3, 1) := by decide +kernel
theorem dL_law_2007 : decode cL_law 2007 = .ok (.invokestatic 234, 3) := by decide +kernel
theorem dL_law_2010 : decode cL_law 2010 = .ok (.istore 5, 2) := by decide +kernel
theorem dL_law_2012 : decode cL_law 2012 = .ok (.aload_n 2, 1) := by decide +kernel
theorem dL_law_2013 : decode cL_law 2013 = .ok (.aload_n 0, 1) := by decide +kernel
theorem dL_law_2014 : decode cL_law 2014 = .ok (.iload 4, 2) := by decide +kernel
theorem dL_law_2016 : decode cL_law 2016 = .ok (.iconst 1, 1) := by decide +kernel
theorem dL_law_2017 : decode cL_law 2017 = .ok (.iadd, 1) := by decide +kernel
theorem dL_law_2018 : decode cL_law 2018 = .ok (.iaload, 1) := by decide +kernel
theorem dL_law_2019 : decode cL_law 2019 = .ok (.aload_n 0, 1) := by decide +kernel
theorem dL_law_2020 : decode cL_law 2020 = .ok (.iload 4, 2) := by decide +kernel
theorem dL_law_2022 : decode cL_law 2022 = .ok (.iconst 2, 1) := by decide +kernel
theorem dL_law_2023 : decode cL_law 2023 = .ok (.iadd, 1) := by decide +kernel
theorem dL_law_2024 : decode cL_law 2024 = .ok (.iaload, 1) := by decide +kernel
theorem dL_law_2025 : decode cL_law 2025 = .ok (.aload_n 0, 1) := by decide +kernel
theorem dL_law_2026 : decode cL_law 2026 = .ok (.iload 4, 2) := by decide +kernel
theorem dL_law_2028 : decode cL_law 2028 = .ok (.iconst 3, 1) := by decide +kernel
theorem dL_law_2029 : decode cL_law 2029 = .ok (.iadd, 1) := by decide +kernel
theorem dL_law_2030 : decode cL_law 2030 = .ok (.iaload, 1) := by decide +kernel
theorem dL_law_2031 : decode cL_law 2031 = .ok (.aload_n 0, 1) := by decide +kernel
theorem dL_law_2032 : decode cL_law 2032 = .ok (.iload 4, 2) := by decide +kernel
theorem dL_law_2034 : decode cL_law 2034 = .ok (.iconst 4, 1) := by decide +kernel
theorem dL_law_2035 : decode cL_law 2035 = .ok (.iadd, 1) := by decide +kernel
theorem dL_law_2036 : decode cL_law 2036 = .ok (.iaload, 1) := by decide +kernel
theorem dL_law_2037 : decode cL_law 2037 = .ok (.invokevirtual 237, 3) := by decide +kernel
theorem dL_law_2040 : decode cL_law 2040 = .ok (.istore 6, 2) := by decide +kernel
theorem dL_law_2042 : decode cL_law 2042 = .ok (.aload_n 2, 1) := by decide +kernel
theorem dL_law_2043 : decode cL_law 2043 = .ok (.invokevirtual 142, 3) := by decide +kernel
theorem dL_law_2046 : decode cL_law 2046 = .ok (.iload 5, 2) := by decide +kernel
theorem dL_law_2048 : decode cL_law 2048 = .ok (.if_icmp .eq 5, 3) := by decide +kernel
theorem dL_law_2051 : decode cL_law 2051 = .ok (.iconst 0, 1) := by decide +kernel
theorem dL_law_2052 : decode cL_law 2052 = .ok (.ireturn, 1) := by decide +kernel
theorem dL_law_2053 : decode cL_law 2053 = .ok (.iload 5, 2) := by decide +kernel
theorem dL_law_2055 : decode cL_law 2055 = .ok (.ifCond .ne 15, 3) := by decide +kernel
theorem dL_law_2058 : decode cL_law 2058 = .ok (.aload_n 3, 1) := by decide +kernel
theorem dL_law_2059 : decode cL_law 2059 = .ok (.iconst 0, 1) := by decide +kernel
theorem dL_law_2060 : decode cL_law 2060 = .ok (.laload, 1) := by decide +kernel
theorem dL_law_2061 : decode cL_law 2061 = .ok (.iload 6, 2) := by decide +kernel
theorem dL_law_2063 : decode cL_law 2063 = .ok (.i2l, 1) := by decide +kernel
theorem dL_law_2064 : decode cL_law 2064 = .ok (.lcmp, 1) := by decide +kernel
theorem dL_law_2065 : decode cL_law 2065 = .ok (.ifCond .eq 5, 3) := by decide +kernel
theorem dL_law_2068 : decode cL_law 2068 = .ok (.iconst 0, 1) := by decide +kernel
theorem dL_law_2069 : decode cL_law 2069 = .ok (.ireturn, 1) := by decide +kernel
theorem dL_law_2070 : decode cL_law 2070 = .ok (.goto 725, 3) := by decide +kernel
theorem dL_law_2073 : decode cL_law 2073 = .ok (.aload_n 1, 1) := by decide +kernel
theorem dL_law_2074 : decode cL_law 2074 = .ok (.aload_n 0, 1) := by decide +kernel
theorem dL_law_2075 : decode cL_law 2075 = .ok (.iload 4, 2) := by decide +kernel
theorem dL_law_2077 : decode cL_law 2077 = .ok (.iconst 1, 1) := by decide +kernel
theorem dL_law_2078 : decode cL_law 2078 = .ok (.iadd, 1) := by decide +kernel
theorem dL_law_2079 : decode cL_law 2079 = .ok (.iaload, 1) := by decide +kernel
theorem dL_law_2080 : decode cL_law 2080 = .ok (.aload_n 3, 1) := by decide +kernel
theorem dL_law_2081 : decode cL_law 2081 = .ok (.invokestatic 238, 3) := by decide +kernel
theorem dL_law_2084 : decode cL_law 2084 = .ok (.istore 5, 2) := by decide +kernel
theorem dL_law_2086 : decode cL_law 2086 = .ok (.aload_n 2, 1) := by decide +kernel
theorem dL_law_2087 : decode cL_law 2087 = .ok (.aload_n 0, 1) := by decide +kernel
theorem dL_law_2088 : decode cL_law 2088 = .ok (.iload 4, 2) := by decide +kernel
theorem dL_law_2090 : decode cL_law 2090 = .ok (.iconst 1, 1) := by decide +kernel
theorem dL_law_2091 : decode cL_law 2091 = .ok (.iadd, 1) := by decide +kernel
theorem dL_law_2092 : decode cL_law 2092 = .ok (.iaload, 1) := by decide +kernel
theorem dL_law_2093 : decode cL_law 2093 = .ok (.invokevirtual 240, 3) := by decide +kernel
theorem dL_law_2096 : decode cL_law 2096 = .ok (.istore 6, 2) := by decide +kernel
theorem dL_law_2098 : decode cL_law 2098 = .ok (.aload_n 2, 1) := by decide +kernel
theorem dL_law_2099 : decode cL_law 2099 = .ok (.invokevirtual 142, 3) := by decide +kernel
theorem dL_law_2102 : decode cL_law 2102 = .ok (.iload 5, 2) := by decide +kernel
theorem dL_law_2104 : decode cL_law 2104 = .ok (.if_icmp .eq 5, 3) := by decide +kernel
theorem dL_law_2107 : decode cL_law 2107 = .ok (.iconst 0, 1) := by decide +kernel
theorem dL_law_2108 : decode cL_law 2108 = .ok (.ireturn, 1) := by decide +kernel
theorem dL_law_2109 : decode cL_law 2109 = .ok (.iload 5, 2) := by decide +kernel
theorem dL_law_2111 : decode cL_law 2111 = .ok (.ifCond .ne 15, 3) := by decide +kernel
theorem dL_law_2114 : decode cL_law 2114 = .ok (.aload_n 3, 1) := by decide +kernel
theorem dL_law_2115 : decode cL_law 2115 = .ok (.iconst 0, 1) := by decide +kernel
theorem dL_law_2116 : decode cL_law 2116 = .ok (.laload, 1) := by decide +kernel
theorem dL_law_2117 : decode cL_law 2117 = .ok (.iload 6, 2) := by decide +kernel
theorem dL_law_2119 : decode cL_law 2119 = .ok (.i2l, 1) := by decide +kernel
theorem dL_law_2120 : decode cL_law 2120 = .ok (.lcmp, 1) := by decide +kernel
theorem dL_law_2121 : decode cL_law 2121 = .ok (.ifCond .eq 5, 3) := by decide +kernel
theorem dL_law_2124 : decode cL_law 2124 = .ok (.iconst 0, 1) := by decide +kernel
theorem dL_law_2125 : decode cL_law 2125 = .ok (.ireturn, 1) := by decide +kernel
theorem dL_law_2126 : decode cL_law 2126 = .ok (.goto 669, 3) := by decide +kernel
theorem dL_law_2129 : decode cL_law 2129 = .ok (.aload_n 1, 1) := by decide +kernel
theorem dL_law_2130 : decode cL_law 2130 = .ok (.invokevirtual 241, 3) := by decide +kernel
theorem dL_law_2133 : decode cL_law 2133 = .ok (.aload_n 2, 1) := by decide +kernel
theorem dL_law_2134 : decode cL_law 2134 = .ok (.invokevirtual 244, 3) := by decide +kernel
theorem dL_law_2137 : decode cL_law 2137 = .ok (.if_icmp .eq 658, 3) := by decide +kernel
theorem dL_law_2140 : decode cL_law 2140 = .ok (.iconst 0, 1) := by decide +kernel
theorem dL_law_2141 : decode cL_law 2141 = .ok (.ireturn, 1) := by decide +kernel
theorem dL_law_2142 : decode cL_law 2142 = .ok (.aload_n 1, 1) := by decide +kernel
theorem dL_law_2143 : decode cL_law 2143 = .ok (.aload_n 0, 1) := by decide +kernel
theorem dL_law_2144 : decode cL_law 2144 = .ok (.iload 4, 2) := by decide +kernel
theorem dL_law_2146 : decode cL_law 2146 = .ok (.iconst 1, 1) := by decide +kernel
theorem dL_law_2147 : decode cL_law 2147 = .ok (.iadd, 1) := by decide +kernel
theorem dL_law_2148 : decode cL_law 2148 = .ok (.iaload, 1) := by decide +kernel
theorem dL_law_2149 : decode cL_law 2149 = .ok (.aload_n 0, 1) := by decide +kernel
theorem dL_law_2150 : decode cL_law 2150 = .ok (.iload 4, 2) := by decide +kernel
theorem dL_law_2152 : decode cL_law 2152 = .ok (.iconst 2, 1) := by decide +kernel
theorem dL_law_2153 : decode cL_law 2153 = .ok (.iadd, 1) := by decide +kernel
theorem dL_law_2154 : decode cL_law 2154 = .ok (.iaload, 1) := by decide +kernel
theorem dL_law_2155 : decode cL_law 2155 = .ok (.ifCond .eq 7, 3) := by decide +kernel
theorem dL_law_2158 : decode cL_law 2158 = .ok (.iconst 1, 1) := by decide +kernel
theorem dL_law_2159 : decode cL_law 2159 = .ok (.goto 4, 3) := by decide +kernel
theorem dL_law_2162 : decode cL_law 2162 = .ok (.iconst 0, 1) := by decide +kernel
theorem dL_law_2163 : decode cL_law 2163 = .ok (.aload_n 3, 1) := by decide +kernel
theorem dL_law_2164 : decode cL_law 2164 = .ok (.invokestatic 245, 3) := by decide +kernel
theorem dL_law_2167 : decode cL_law 2167 = .ok (.istore 5, 2) := by decide +kernel
theorem dL_law_2169 : decode cL_law 2169 = .ok (.aload_n 2, 1) := by decide +kernel
theorem dL_law_2170 : decode cL_law 2170 = .ok (.aload_n 0, 1) := by decide +kernel
theorem dL_law_2171 : decode cL_law 2171 = .ok (.iload 4, 2) := by decide +kernel
theorem dL_law_2173 : decode cL_law 2173 = .ok (.iconst 1, 1) := by decide +kernel
theorem dL_law_2174 : decode cL_law 2174 = .ok (.iadd, 1) := by decide +kernel
theorem dL_law_2175 : decode cL_law 2175 = .ok (.iaload, 1) := by decide +kernel
theorem dL_law_2176 : decode cL_law 2176 = .ok (.aload_n 0, 1) := by decide +kernel
theorem dL_law_2177 : decode cL_law 2177 = .ok (.iload 4, 2) := by decide +kernel
theorem dL_law_2179 : decode cL_law 2179 = .ok (.iconst 2, 1) := by decide +kernel
theorem dL_law_2180 : decode cL_law 2180 = .ok (.iadd, 1) := by decide +kernel
theorem dL_law_2181 : decode cL_law 2181 = .ok (.iaload, 1) := by decide +kernel
theorem dL_law_2182 : decode cL_law 2182 = .ok (.ifCond .eq 7, 3) := by decide +kernel
theorem dL_law_2185 : decode cL_law 2185 = .ok (.iconst 1, 1) := by decide +kernel
theorem dL_law_2186 : decode cL_law 2186 = .ok (.goto 4, 3) := by decide +kernel
theorem dL_law_2189 : decode cL_law 2189 = .ok (.iconst 0, 1) := by decide +kernel
theorem dL_law_2190 : decode cL_law 2190 = .ok (.invokevirtual 247, 3) := by decide +kernel
theorem dL_law_2193 : decode cL_law 2193 = .ok (.istore 6, 2) := by decide +kernel
theorem dL_law_2195 : decode cL_law 2195 = .ok (.aload_n 2, 1) := by decide +kernel
theorem dL_law_2196 : decode cL_law 2196 = .ok (.invokevirtual 142, 3) := by decide +kernel
theorem dL_law_2199 : decode cL_law 2199 = .ok (.iload 5, 2) := by decide +kernel
theorem dL_law_2201 : decode cL_law 2201 = .ok (.if_icmp .eq 5, 3) := by decide +kernel
theorem dL_law_2204 : decode cL_law 2204 = .ok (.iconst 0, 1) := by decide +kernel
theorem dL_law_2205 : decode cL_law 2205 = .ok (.ireturn, 1) := by decide +kernel
theorem dL_law_2206 : decode cL_law 2206 = .ok (.iload 5, 2) := by decide +kernel
theorem dL_law_2208 : decode cL_law 2208 = .ok (.ifCond .ne 22, 3) := by decide +kernel
theorem dL_law_2211 : decode cL_law 2211 = .ok (.aload_n 3, 1) := by decide +kernel
theorem dL_law_2212 : decode cL_law 2212 = .ok (.iconst 0, 1) := by decide +kernel
theorem dL_law_2213 : decode cL_law 2213 = .ok (.laload, 1) := by decide +kernel
theorem dL_law_2214 : decode cL_law 2214 = .ok (.iload 6, 2) := by decide +kernel
theorem dL_law_2216 : decode cL_law 2216 = .ok (.ifCond .eq 7, 3) := by decide +kernel
theorem dL_law_2219 : decode cL_law 2219 = .ok (.lconst 1, 1) := by decide +kernel
theorem dL_law_2220 : decode cL_law 2220 = .ok (.goto 4, 3) := by decide +kernel
theorem dL_law_2223 : decode cL_law 2223 = .ok (.lconst 0, 1) := by decide +kernel
theorem dL_law_2224 : decode cL_law 2224 = .ok (.lcmp, 1) := by decide +kernel
theorem dL_law_2225 : decode cL_law 2225 = .ok (.ifCond .eq 5, 3) := by decide +kernel
theorem dL_law_2228 : decode cL_law 2228 = .ok (.iconst 0, 1) := by decide +kernel
theorem dL_law_2229 : decode cL_law 2229 = .ok (.ireturn, 1) := by decide +kernel
theorem dL_law_2230 : decode cL_law 2230 = .ok (.goto 565, 3) := by decide +kernel
theorem dL_law_2233 : decode cL_law 2233 = .ok (.aload_n 1, 1) := by decide +kernel
theorem dL_law_2234 : decode cL_law 2234 = .ok (.aload_n 0, 1) := by decide +kernel
theorem dL_law_2235 : decode cL_law 2235 = .ok (.iload 4, 2) := by decide +kernel
theorem dL_law_2237 : decode cL_law 2237 = .ok (.iconst 1, 1) := by decide +kernel
theorem dL_law_2238 : decode cL_law 2238 = .ok (.iadd, 1) := by decide +kernel
theorem dL_law_2239 : decode cL_law 2239 = .ok (.iaload, 1) := by decide +kernel
theorem dL_law_2240 : decode cL_law 2240 = .ok (.aload_n 0, 1) := by decide +kernel
theorem dL_law_2241 : decode cL_law 2241 = .ok (.iload 4, 2) := by decide +kernel
theorem dL_law_2243 : decode cL_law 2243 = .ok (.iconst 2, 1) := by decide +kernel
theorem dL_law_2244 : decode cL_law 2244 = .ok (.iadd, 1) := by decide +kernel
theorem dL_law_2245 : decode cL_law 2245 = .ok (.iaload, 1) := by decide +kernel
theorem dL_law_2246 : decode cL_law 2246 = .ok (.aload_n 0, 1) := by decide +kernel
theorem dL_law_2247 : decode cL_law 2247 = .ok (.iload 4, 2) := by decide +kernel
theorem dL_law_2249 : decode cL_law 2249 = .ok (.iconst 3, 1) := by decide +kernel
theorem dL_law_2250 : decode cL_law 2250 = .ok (.iadd, 1) := by decide +kernel
theorem dL_law_2251 : decode cL_law 2251 = .ok (.iaload, 1) := by decide +kernel
theorem dL_law_2252 : decode cL_law 2252 = .ok (.aload_n 3, 1) := by decide +kernel
theorem dL_law_2253 : decode cL_law 2253 = .ok (.invokestatic 248, 3) := by decide +kernel
theorem dL_law_2256 : decode cL_law 2256 = .ok (.istore 5, 2) := by decide +kernel
theorem dL_law_2258 : decode cL_law 2258 = .ok (.aload_n 2, 1) := by decide +kernel
theorem dL_law_2259 : decode cL_law 2259 = .ok (.aload_n 0, 1) := by decide +kernel
theorem dL_law_2260 : decode cL_law 2260 = .ok (.iload 4, 2) := by decide +kernel
theorem dL_law_2262 : decode cL_law 2262 = .ok (.iconst 1, 1) := by decide +kernel
theorem dL_law_2263 : decode cL_law 2263 = .ok (.iadd, 1) := by decide +kernel
theorem dL_law_2264 : decode cL_law 2264 = .ok (.iaload, 1) := by decide +kernel
theorem dL_law_2265 : decode cL_law 2265 = .ok (.aload_n 0, 1) := by decide +kernel
theorem dL_law_2266 : decode cL_law 2266 = .ok (.iload 4, 2) := by decide +kernel
theorem dL_law_2268 : decode cL_law 2268 = .ok (.iconst 2, 1) := by decide +kernel
theorem dL_law_2269 : decode cL_law 2269 = .ok (.iadd, 1) := by decide +kernel
theorem dL_law_2270 : decode cL_law 2270 = .ok (.iaload, 1) := by decide +kernel
theorem dL_law_2271 : decode cL_law 2271 = .ok (.aload_n 0, 1) := by decide +kernel
theorem dL_law_2272 : decode cL_law 2272 = .ok (.iload 4, 2) := by decide +kernel
theorem dL_law_2274 : decode cL_law 2274 = .ok (.iconst 3, 1) := by decide +kernel
theorem dL_law_2275 : decode cL_law 2275 = .ok (.iadd, 1) := by decide +kernel
theorem dL_law_2276 : decode cL_law 2276 = .ok (.iaload, 1) := by decide +kernel
theorem dL_law_2277 : decode cL_law 2277 = .ok (.invokevirtual 251, 3) := by decide +kernel
theorem dL_law_2280 : decode cL_law 2280 = .ok (.istore 6, 2) := by decide +kernel
theorem dL_law_2282 : decode cL_law 2282 = .ok (.aload_n 2, 1) := by decide +kernel
theorem dL_law_2283 : decode cL_law 2283 = .ok (.invokevirtual 142, 3) := by decide +kernel
theorem dL_law_2286 : decode cL_law 2286 = .ok (.iload 5, 2) := by decide +kernel
theorem dL_law_2288 : decode cL_law 2288 = .ok (.if_icmp .eq 5, 3) := by decide +kernel
theorem dL_law_2291 : decode cL_law 2291 = .ok (.iconst 0, 1) := by decide +kernel
theorem dL_law_2292 : decode cL_law 2292 = .ok (.ireturn, 1) := by decide +kernel
theorem dL_law_2293 : decode cL_law 2293 = .ok (.iload 5, 2) := by decide +kernel
theorem dL_law_2295 : decode cL_law 2295 = .ok (.ifCond .ne 15, 3) := by decide +kernel
theorem dL_law_2298 : decode cL_law 2298 = .ok (.aload_n 3, 1) := by decide +kernel
theorem dL_law_2299 : decode cL_law 2299 = .ok (.iconst 0, 1) := by decide +kernel
theorem dL_law_2300 : decode cL_law 2300 = .ok (.laload, 1) := by decide +kernel
theorem dL_law_2301 : decode cL_law 2301 = .ok (.iload 6, 2) := by decide +kernel
theorem dL_law_2303 : decode cL_law 2303 = .ok (.i2l, 1) := by decide +kernel
theorem dL_law_2304 : decode cL_law 2304 = .ok (.lcmp, 1) := by decide +kernel
theorem dL_law_2305 : decode cL_law 2305 = .ok (.ifCond .eq 5, 3) := by decide +kernel
theorem dL_law_2308 : decode cL_law 2308 = .ok (.iconst 0, 1) := by decide +kernel
theorem dL_law_2309 : decode cL_law 2309 = .ok (.ireturn, 1) := by decide +kernel
theorem dL_law_2310 : decode cL_law 2310 = .ok (.goto 485, 3) := by decide +kernel
theorem dL_law_2313 : decode cL_law 2313 = .ok (.aload_n 1, 1) := by decide +kernel
theorem dL_law_2314 : decode cL_law 2314 = .ok (.aload_n 0, 1) := by decide +kernel
theorem dL_law_2315 : decode cL_law 2315 = .ok (.iload 4, 2) := by decide +kernel
theorem dL_law_2317 : decode cL_law 2317 = .ok (.iconst 1, 1) := by decide +kernel
theorem dL_law_2318 : decode cL_law 2318 = .ok (.iadd, 1) := by decide +kernel
theorem dL_law_2319 : decode cL_law 2319 = .ok (.iaload, 1) := by decide +kernel
theorem dL_law_2320 : decode cL_law 2320 = .ok (.aload_n 0, 1) := by decide +kernel
theorem dL_law_2321 : decode cL_law 2321 = .ok (.iload 4, 2) := by decide +kernel
theorem dL_law_2323 : decode cL_law 2323 = .ok (.iconst 2, 1) := by decide +kernel
theorem dL_law_2324 : decode cL_law 2324 = .ok (.iadd, 1) := by decide +kernel
theorem dL_law_2325 : decode cL_law 2325 = .ok (.iaload, 1) := by decide +kernel
theorem dL_law_2326 : decode cL_law 2326 = .ok (.aload_n 3, 1) := by decide +kernel
theorem dL_law_2327 : decode cL_law 2327 = .ok (.invokestatic 252, 3) := by decide +kernel
theorem dL_law_2330 : decode cL_law 2330 = .ok (.istore 5, 2) := by decide +kernel
theorem dL_law_2332 : decode cL_law 2332 = .ok (.aload_n 2, 1) := by decide +kernel
theorem dL_law_2333 : decode cL_law 2333 = .ok (.aload_n 0, 1) := by decide +kernel
theorem dL_law_2334 : decode cL_law 2334 = .ok (.iload 4, 2) := by decide +kernel
theorem dL_law_2336 : decode cL_law 2336 = .ok (.iconst 1, 1) := by decide +kernel
theorem dL_law_2337 : decode cL_law 2337 = .ok (.iadd, 1) := by decide +kernel
theorem dL_law_2338 : decode cL_law 2338 = .ok (.iaload, 1) := by decide +kernel
theorem dL_law_2339 : decode cL_law 2339 = .ok (.aload_n 0, 1) := by decide +kernel
theorem dL_law_2340 : decode cL_law 2340 = .ok (.iload 4, 2) := by decide +kernel
theorem dL_law_2342 : decode cL_law 2342 = .ok (.iconst 2, 1) := by decide +kernel
theorem dL_law_2343 : decode cL_law 2343 = .ok (.iadd, 1) := by decide +kernel
theorem dL_law_2344 : decode cL_law 2344 = .ok (.iaload, 1) := by decide +kernel
theorem dL_law_2345 : decode cL_law 2345 = .ok (.invokevirtual 254, 3) := by decide +kernel
theorem dL_law_2348 : decode cL_law 2348 = .ok (.istore 6, 2) := by decide +kernel
theorem dL_law_2350 : decode cL_law 2350 = .ok (.aload_n 2, 1) := by decide +kernel
theorem dL_law_2351 : decode cL_law 2351 = .ok (.invokevirtual 142, 3) := by decide +kernel
theorem dL_law_2354 : decode cL_law 2354 = .ok (.iload 5, 2) := by decide +kernel
theorem dL_law_2356 : decode cL_law 2356 = .ok (.if_icmp .eq 5, 3) := by decide +kernel
theorem dL_law_2359 : decode cL_law 2359 = .ok (.iconst 0, 1) := by decide +kernel
theorem dL_law_2360 : decode cL_law 2360 = .ok (.ireturn, 1) := by decide +kernel
theorem dL_law_2361 : decode cL_law 2361 = .ok (.iload 5, 2) := by decide +kernel
theorem dL_law_2363 : decode cL_law 2363 = .ok (.ifCond .ne 22, 3) := by decide +kernel
theorem dL_law_2366 : decode cL_law 2366 = .ok (.aload_n 3, 1) := by decide +kernel
theorem dL_law_2367 : decode cL_law 2367 = .ok (.iconst 0, 1) := by decide +kernel
theorem dL_law_2368 : decode cL_law 2368 = .ok (.laload, 1) := by decide +kernel
theorem dL_law_2369 : decode cL_law 2369 = .ok (.iload 6, 2) := by decide +kernel
theorem dL_law_2371 : decode cL_law 2371 = .ok (.ifCond .eq 7, 3) := by decide +kernel
theorem dL_law_2374 : decode cL_law 2374 = .ok (.lconst 1, 1) := by decide +kernel
theorem dL_law_2375 : decode cL_law 2375 = .ok (.goto 4, 3) := by decide +kernel
theorem dL_law_2378 : decode cL_law 2378 = .ok (.lconst 0, 1) := by decide +kernel
theorem dL_law_2379 : decode cL_law 2379 = .ok (.lcmp, 1) := by decide +kernel
theorem dL_law_2380 : decode cL_law 2380 = .ok (.ifCond .eq 5, 3) := by decide +kernel
theorem dL_law_2383 : decode cL_law 2383 = .ok (.iconst 0, 1) := by decide +kernel
theorem dL_law_2384 : decode cL_law 2384 = .ok (.ireturn, 1) := by decide +kernel
theorem dL_law_2385 : decode cL_law 2385 = .ok (.goto 410, 3) := by decide +kernel
theorem dL_law_2388 : decode cL_law 2388 = .ok (.aload_n 1, 1) := by decide +kernel
theorem dL_law_2389 : decode cL_law 2389 = .ok (.aload_n 0, 1) := by decide +kernel
theorem dL_law_2390 : decode cL_law 2390 = .ok (.iload 4, 2) := by decide +kernel
theorem dL_law_2392 : decode cL_law 2392 = .ok (.iconst 1, 1) := by decide +kernel
theorem dL_law_2393 : decode cL_law 2393 = .ok (.iadd, 1) := by decide +kernel
theorem dL_law_2394 : decode cL_law 2394 = .ok (.iaload, 1) := by decide +kernel
theorem dL_law_2395 : decode cL_law 2395 = .ok (.aload_n 0, 1) := by decide +kernel
theorem dL_law_2396 : decode cL_law 2396 = .ok (.iload 4, 2) := by decide +kernel
theorem dL_law_2398 : decode cL_law 2398 = .ok (.iconst 2, 1) := by decide +kernel
theorem dL_law_2399 : decode cL_law 2399 = .ok (.iadd, 1) := by decide +kernel
theorem dL_law_2400 : decode cL_law 2400 = .ok (.iaload, 1) := by decide +kernel
theorem dL_law_2401 : decode cL_law 2401 = .ok (.aload_n 3, 1) := by decide +kernel
theorem dL_law_2402 : decode cL_law 2402 = .ok (.invokestatic 255, 3) := by decide +kernel
theorem dL_law_2405 : decode cL_law 2405 = .ok (.istore 5, 2) := by decide +kernel
theorem dL_law_2407 : decode cL_law 2407 = .ok (.aload_n 2, 1) := by decide +kernel
theorem dL_law_2408 : decode cL_law 2408 = .ok (.aload_n 0, 1) := by decide +kernel
theorem dL_law_2409 : decode cL_law 2409 = .ok (.iload 4, 2) := by decide +kernel
theorem dL_law_2411 : decode cL_law 2411 = .ok (.iconst 1, 1) := by decide +kernel
theorem dL_law_2412 : decode cL_law 2412 = .ok (.iadd, 1) := by decide +kernel
theorem dL_law_2413 : decode cL_law 2413 = .ok (.iaload, 1) := by decide +kernel
theorem dL_law_2414 : decode cL_law 2414 = .ok (.aload_n 0, 1) := by decide +kernel
theorem dL_law_2415 : decode cL_law 2415 = .ok (.iload 4, 2) := by decide +kernel
theorem dL_law_2417 : decode cL_law 2417 = .ok (.iconst 2, 1) := by decide +kernel
theorem dL_law_2418 : decode cL_law 2418 = .ok (.iadd, 1) := by decide +kernel
theorem dL_law_2419 : decode cL_law 2419 = .ok (.iaload, 1) := by decide +kernel
theorem dL_law_2420 : decode cL_law 2420 = .ok (.invokevirtual 257, 3) := by decide +kernel
theorem dL_law_2423 : decode cL_law 2423 = .ok (.istore 6, 2) := by decide +kernel
theorem dL_law_2425 : decode cL_law 2425 = .ok (.aload_n 2, 1) := by decide +kernel
theorem dL_law_2426 : decode cL_law 2426 = .ok (.invokevirtual 142, 3) := by decide +kernel
theorem dL_law_2429 : decode cL_law 2429 = .ok (.iload 5, 2) := by decide +kernel
theorem dL_law_2431 : decode cL_law 2431 = .ok (.if_icmp .eq 5, 3) := by decide +kernel
theorem dL_law_2434 : decode cL_law 2434 = .ok (.iconst 0, 1) := by decide +kernel
theorem dL_law_2435 : decode cL_law 2435 = .ok (.ireturn, 1) := by decide +kernel
theorem dL_law_2436 : decode cL_law 2436 = .ok (.iload 5, 2) := by decide +kernel
theorem dL_law_2438 : decode cL_law 2438 = .ok (.ifCond .ne 15, 3) := by decide +kernel
theorem dL_law_2441 : decode cL_law 2441 = .ok (.aload_n 3, 1) := by decide +kernel
theorem dL_law_2442 : decode cL_law 2442 = .ok (.iconst 0, 1) := by decide +kernel
theorem dL_law_2443 : decode cL_law 2443 = .ok (.laload, 1) := by decide +kernel
theorem dL_law_2444 : decode cL_law 2444 = .ok (.iload 6, 2) := by decide +kernel
theorem dL_law_2446 : decode cL_law 2446 = .ok (.i2l, 1) := by decide +kernel
theorem dL_law_2447 : decode cL_law 2447 = .ok (.lcmp, 1) := by decide +kernel
theorem dL_law_2448 : decode cL_law 2448 = .ok (.ifCond .eq 5, 3) := by decide +kernel
theorem dL_law_2451 : decode cL_law 2451 = .ok (.iconst 0, 1) := by decide +kernel
theorem dL_law_2452 : decode cL_law 2452 = .ok (.ireturn, 1) := by decide +kernel
theorem dL_law_2453 : decode cL_law 2453 = .ok (.goto 342, 3) := by decide +kernel
theorem dL_law_2456 : decode cL_law 2456 = .ok (.aload_n 1, 1) := by decide +kernel
theorem dL_law_2457 : decode cL_law 2457 = .ok (.aload_n 0, 1) := by decide +kernel
theorem dL_law_2458 : decode cL_law 2458 = .ok (.iload 4, 2) := by decide +kernel
theorem dL_law_2460 : decode cL_law 2460 = .ok (.iconst 1, 1) := by decide +kernel
theorem dL_law_2461 : decode cL_law 2461 = .ok (.iadd, 1) := by decide +kernel
theorem dL_law_2462 : decode cL_law 2462 = .ok (.iaload, 1) := by decide +kernel
theorem dL_law_2463 : decode cL_law 2463 = .ok (.aload_n 0, 1) := by decide +kernel
theorem dL_law_2464 : decode cL_law 2464 = .ok (.iload 4, 2) := by decide +kernel
theorem dL_law_2466 : decode cL_law 2466 = .ok (.iconst 2, 1) := by decide +kernel
theorem dL_law_2467 : decode cL_law 2467 = .ok (.iadd, 1) := by decide +kernel
theorem dL_law_2468 : decode cL_law 2468 = .ok (.iaload, 1) := by decide +kernel
theorem dL_law_2469 : decode cL_law 2469 = .ok (.aload_n 3, 1) := by decide +kernel
theorem dL_law_2470 : decode cL_law 2470 = .ok (.invokestatic 258, 3) := by decide +kernel
theorem dL_law_2473 : decode cL_law 2473 = .ok (.istore 5, 2) := by decide +kernel
theorem dL_law_2475 : decode cL_law 2475 = .ok (.aload_n 2, 1) := by decide +kernel
theorem dL_law_2476 : decode cL_law 2476 = .ok (.aload_n 0, 1) := by decide +kernel
theorem dL_law_2477 : decode cL_law 2477 = .ok (.iload 4, 2) := by decide +kernel
theorem dL_law_2479 : decode cL_law 2479 = .ok (.iconst 1, 1) := by decide +kernel
theorem dL_law_2480 : decode cL_law 2480 = .ok (.iadd, 1) := by decide +kernel
theorem dL_law_2481 : decode cL_law 2481 = .ok (.iaload, 1) := by decide +kernel
theorem dL_law_2482 : decode cL_law 2482 = .ok (.aload_n 0, 1) := by decide +kernel
theorem dL_law_2483 : decode cL_law 2483 = .ok (.iload 4, 2) := by decide +kernel
theorem dL_law_2485 : decode cL_law 2485 = .ok (.iconst 2, 1) := by decide +kernel
theorem dL_law_2486 : decode cL_law 2486 = .ok (.iadd, 1) := by decide +kernel
theorem dL_law_2487 : decode cL_law 2487 = .ok (.iaload, 1) := by decide +kernel
theorem dL_law_2488 : decode cL_law 2488 = .ok (.invokevirtual 260, 3) := by decide +kernel
theorem dL_law_2491 : decode cL_law 2491 = .ok (.istore 6, 2) := by decide +kernel
theorem dL_law_2493 : decode cL_law 2493 = .ok (.aload_n 2, 1) := by decide +kernel
theorem dL_law_2494 : decode cL_law 2494 = .ok (.invokevirtual 142, 3) := by decide +kernel
theorem dL_law_2497 : decode cL_law 2497 = .ok (.iload 5, 2) := by decide +kernel
theorem dL_law_2499 : decode cL_law 2499 = .ok (.if_icmp .eq 5, 3) := by decide +kernel
theorem dL_law_2502 : decode cL_law 2502 = .ok (.iconst 0, 1) := by decide +kernel
theorem dL_law_2503 : decode cL_law 2503 = .ok (.ireturn, 1) := by decide +kernel
theorem dL_law_2504 : decode cL_law 2504 = .ok (.iload 5, 2) := by decide +kernel
theorem dL_law_2506 : decode cL_law 2506 = .ok (.ifCond .ne 15, 3) := by decide +kernel
theorem dL_law_2509 : decode cL_law 2509 = .ok (.aload_n 3, 1) := by decide +kernel
theorem dL_law_2510 : decode cL_law 2510 = .ok (.iconst 0, 1) := by decide +kernel
theorem dL_law_2511 : decode cL_law 2511 = .ok (.laload, 1) := by decide +kernel
theorem dL_law_2512 : decode cL_law 2512 = .ok (.iload 6, 2) := by decide +kernel
theorem dL_law_2514 : decode cL_law 2514 = .ok (.i2l, 1) := by decide +kernel
theorem dL_law_2515 : decode cL_law 2515 = .ok (.lcmp, 1) := by decide +kernel
theorem dL_law_2516 : decode cL_law 2516 = .ok (.ifCond .eq 5, 3) := by decide +kernel
theorem dL_law_2519 : decode cL_law 2519 = .ok (.iconst 0, 1) := by decide +kernel
theorem dL_law_2520 : decode cL_law 2520 = .ok (.ireturn, 1) := by decide +kernel
theorem dL_law_2521 : decode cL_law 2521 = .ok (.goto 274, 3) := by decide +kernel
theorem dL_law_2524 : decode cL_law 2524 = .ok (.aload_n 1, 1) := by decide +kernel
theorem dL_law_2525 : decode cL_law 2525 = .ok (.aload_n 0, 1) := by decide +kernel
theorem dL_law_2526 : decode cL_law 2526 = .ok (.iload 4, 2) := by decide +kernel
theorem dL_law_2528 : decode cL_law 2528 = .ok (.iconst 1, 1) := by decide +kernel
theorem dL_law_2529 : decode cL_law 2529 = .ok (.iadd, 1) := by decide +kernel
theorem dL_law_2530 : decode cL_law 2530 = .ok (.iaload, 1) := by decide +kernel
theorem dL_law_2531 : decode cL_law 2531 = .ok (.aload_n 3, 1) := by decide +kernel
theorem dL_law_2532 : decode cL_law 2532 = .ok (.invokestatic 261, 3) := by decide +kernel
theorem dL_law_2535 : decode cL_law 2535 = .ok (.istore 5, 2) := by decide +kernel
theorem dL_law_2537 : decode cL_law 2537 = .ok (.aload_n 2, 1) := by decide +kernel
theorem dL_law_2538 : decode cL_law 2538 = .ok (.aload_n 0, 1) := by decide +kernel
theorem dL_law_2539 : decode cL_law 2539 = .ok (.iload 4, 2) := by decide +kernel
theorem dL_law_2541 : decode cL_law 2541 = .ok (.iconst 1, 1) := by decide +kernel
theorem dL_law_2542 : decode cL_law 2542 = .ok (.iadd, 1) := by decide +kernel
theorem dL_law_2543 : decode cL_law 2543 = .ok (.iaload, 1) := by decide +kernel
theorem dL_law_2544 : decode cL_law 2544 = .ok (.invokevirtual 263, 3) := by decide +kernel
theorem dL_law_2547 : decode cL_law 2547 = .ok (.istore 6, 2) := by decide +kernel
theorem dL_law_2549 : decode cL_law 2549 = .ok (.aload_n 2, 1) := by decide +kernel
theorem dL_law_2550 : decode cL_law 2550 = .ok (.invokevirtual 142, 3) := by decide +kernel
theorem dL_law_2553 : decode cL_law 2553 = .ok (.iload 5, 2) := by decide +kernel
theorem dL_law_2555 : decode cL_law 2555 = .ok (.if_icmp .eq 5, 3) := by decide +kernel
theorem dL_law_2558 : decode cL_law 2558 = .ok (.iconst 0, 1) := by decide +kernel
theorem dL_law_2559 : decode cL_law 2559 = .ok (.ireturn, 1) := by decide +kernel
theorem dL_law_2560 : decode cL_law 2560 = .ok (.iload 5, 2) := by decide +kernel
theorem dL_law_2562 : decode cL_law 2562 = .ok (.ifCond .ne 15, 3) := by decide +kernel
theorem dL_law_2565 : decode cL_law 2565 = .ok (.aload_n 3, 1) := by decide +kernel
theorem dL_law_2566 : decode cL_law 2566 = .ok (.iconst 0, 1) := by decide +kernel
theorem dL_law_2567 : decode cL_law 2567 = .ok (.laload, 1) := by decide +kernel
theorem dL_law_2568 : decode cL_law 2568 = .ok (.iload 6, 2) := by decide +kernel
theorem dL_law_2570 : decode cL_law 2570 = .ok (.i2l, 1) := by decide +kernel
theorem dL_law_2571 : decode cL_law 2571 = .ok (.lcmp, 1) := by decide +kernel
theorem dL_law_2572 : decode cL_law 2572 = .ok (.ifCond .eq 5, 3) := by decide +kernel
theorem dL_law_2575 : decode cL_law 2575 = .ok (.iconst 0, 1) := by decide +kernel
theorem dL_law_2576 : decode cL_law 2576 = .ok (.ireturn, 1) := by decide +kernel
theorem dL_law_2577 : decode cL_law 2577 = .ok (.goto 218, 3) := by decide +kernel
theorem dL_law_2580 : decode cL_law 2580 = .ok (.aload_n 1, 1) := by decide +kernel
theorem dL_law_2581 : decode cL_law 2581 = .ok (.aload_n 0, 1) := by decide +kernel
theorem dL_law_2582 : decode cL_law 2582 = .ok (.iload 4, 2) := by decide +kernel
theorem dL_law_2584 : decode cL_law 2584 = .ok (.iconst 1, 1) := by decide +kernel
theorem dL_law_2585 : decode cL_law 2585 = .ok (.iadd, 1) := by decide +kernel
theorem dL_law_2586 : decode cL_law 2586 = .ok (.iaload, 1) := by decide +kernel
theorem dL_law_2587 : decode cL_law 2587 = .ok (.aload_n 0, 1) := by decide +kernel
theorem dL_law_2588 : decode cL_law 2588 = .ok (.iload 4, 2) := by decide +kernel
theorem dL_law_2590 : decode cL_law 2590 = .ok (.iconst 2, 1) := by decide +kernel
theorem dL_law_2591 : decode cL_law 2591 = .ok (.iadd, 1) := by decide +kernel
theorem dL_law_2592 : decode cL_law 2592 = .ok (.iaload, 1) := by decide +kernel
theorem dL_law_2593 : decode cL_law 2593 = .ok (.ifCond .eq 7, 3) := by decide +kernel
theorem dL_law_2596 : decode cL_law 2596 = .ok (.iconst 1, 1) := by decide +kernel
theorem dL_law_2597 : decode cL_law 2597 = .ok (.goto 4, 3) := by decide +kernel
theorem dL_law_2600 : decode cL_law 2600 = .ok (.iconst 0, 1) := by decide +kernel
theorem dL_law_2601 : decode cL_law 2601 = .ok (.aload_n 0, 1) := by decide +kernel
theorem dL_law_2602 : decode cL_law 2602 = .ok (.iload 4, 2) := by decide +kernel
theorem dL_law_2604 : decode cL_law 2604 = .ok (.iconst 3, 1) := by decide +kernel
theorem dL_law_2605 : decode cL_law 2605 = .ok (.iadd, 1) := by decide +kernel
theorem dL_law_2606 : decode cL_law 2606 = .ok (.iaload, 1) := by decide +kernel
theorem dL_law_2607 : decode cL_law 2607 = .ok (.aload_n 3, 1) := by decide +kernel
theorem dL_law_2608 : decode cL_law 2608 = .ok (.invokestatic 264, 3) := by decide +kernel
theorem dL_law_2611 : decode cL_law 2611 = .ok (.istore 5, 2) := by decide +kernel
theorem dL_law_2613 : decode cL_law 2613 = .ok (.aload_n 2, 1) := by decide +kernel
theorem dL_law_2614 : decode cL_law 2614 = .ok (.aload_n 0, 1) := by decide +kernel
theorem dL_law_2615 : decode cL_law 2615 = .ok (.iload 4, 2) := by decide +kernel
theorem dL_law_2617 : decode cL_law 2617 = .ok (.iconst 1, 1) := by decide +kernel
theorem dL_law_2618 : decode cL_law 2618 = .ok (.iadd, 1) := by decide +kernel
theorem dL_law_2619 : decode cL_law 2619 = .ok (.iaload, 1) := by decide +kernel
theorem dL_law_2620 : decode cL_law 2620 = .ok (.aload_n 0, 1) := by decide +kernel
theorem dL_law_2621 : decode cL_law 2621 = .ok (.iload 4, 2) := by decide +kernel
theorem dL_law_2623 : decode cL_law 2623 = .ok (.iconst 2, 1) := by decide +kernel
theorem dL_law_2624 : decode cL_law 2624 = .ok (.iadd, 1) := by decide +kernel
theorem dL_law_2625 : decode cL_law 2625 = .ok (.iaload, 1) := by decide +kernel
theorem dL_law_2626 : decode cL_law 2626 = .ok (.ifCond .eq 7, 3) := by decide +kernel
theorem dL_law_2629 : decode cL_law 2629 = .ok (.iconst 1, 1) := by decide +kernel
theorem dL_law_2630 : decode cL_law 2630 = .ok (.goto 4, 3) := by decide +kernel
theorem dL_law_2633 : decode cL_law 2633 = .ok (.iconst 0, 1) := by decide +kernel
theorem dL_law_2634 : decode cL_law 2634 = .ok (.aload_n 0, 1) := by decide +kernel
theorem dL_law_2635 : decode cL_law 2635 = .ok (.iload 4, 2) := by decide +kernel
theorem dL_law_2637 : decode cL_law 2637 = .ok (.iconst 3, 1) := by decide +kernel
theorem dL_law_2638 : decode cL_law 2638 = .ok (.iadd, 1) := by decide +kernel
theorem dL_law_2639 : decode cL_law 2639 = .ok (.iaload, 1) := by decide +kernel
theorem dL_law_2640 : decode cL_law 2640 = .ok (.invokevirtual 267, 3) := by decide +kernel
theorem dL_law_2643 : decode cL_law 2643 = .ok (.istore 6, 2) := by decide +kernel
theorem dL_law_2645 : decode cL_law 2645 = .ok (.aload_n 2, 1) := by decide +kernel
theorem dL_law_2646 : decode cL_law 2646 = .ok (.invokevirtual 142, 3) := by decide +kernel
theorem dL_law_2649 : decode cL_law 2649 = .ok (.iload 5, 2) := by decide +kernel
theorem dL_law_2651 : decode cL_law 2651 = .ok (.if_icmp .eq 5, 3) := by decide +kernel
theorem dL_law_2654 : decode cL_law 2654 = .ok (.iconst 0, 1) := by decide +kernel
theorem dL_law_2655 : decode cL_law 2655 = .ok (.ireturn, 1) := by decide +kernel
theorem dL_law_2656 : decode cL_law 2656 = .ok (.iload 5, 2) := by decide +kernel
theorem dL_law_2658 : decode cL_law 2658 = .ok (.ifCond .ne 22, 3) := by decide +kernel
theorem dL_law_2661 : decode cL_law 2661 = .ok (.aload_n 3, 1) := by decide +kernel
theorem dL_law_2662 : decode cL_law 2662 = .ok (.iconst 0, 1) := by decide +kernel
theorem dL_law_2663 : decode cL_law 2663 = .ok (.laload, 1) := by decide +kernel
theorem dL_law_2664 : decode cL_law 2664 = .ok (.iload 6, 2) := by decide +kernel
theorem dL_law_2666 : decode cL_law 2666 = .ok (.ifCond .eq 7, 3) := by decide +kernel
theorem dL_law_2669 : decode cL_law 2669 = .ok (.lconst 1, 1) := by decide +kernel
theorem dL_law_2670 : decode cL_law 2670 = .ok (.goto 4, 3) := by decide +kernel
theorem dL_law_2673 : decode cL_law 2673 = .ok (.lconst 0, 1) := by decide +kernel
theorem dL_law_2674 : decode cL_law 2674 = .ok (.lcmp, 1) := by decide +kernel
theorem dL_law_2675 : decode cL_law 2675 = .ok (.ifCond .eq 5, 3) := by decide +kernel
theorem dL_law_2678 : decode cL_law 2678 = .ok (.iconst 0, 1) := by decide +kernel
theorem dL_law_2679 : decode cL_law 2679 = .ok (.ireturn, 1) := by decide +kernel
theorem dL_law_2680 : decode cL_law 2680 = .ok (.goto 115, 3) := by decide +kernel
theorem dL_law_2683 : decode cL_law 2683 = .ok (.aload_n 1, 1) := by decide +kernel
theorem dL_law_2684 : decode cL_law 2684 = .ok (.aload_n 0, 1) := by decide +kernel
theorem dL_law_2685 : decode cL_law 2685 = .ok (.iload 4, 2) := by decide +kernel
theorem dL_law_2687 : decode cL_law 2687 = .ok (.iconst 1, 1) := by decide +kernel
theorem dL_law_2688 : decode cL_law 2688 = .ok (.iadd, 1) := by decide +kernel
theorem dL_law_2689 : decode cL_law 2689 = .ok (.iaload, 1) := by decide +kernel
theorem dL_law_2690 : decode cL_law 2690 = .ok (.aload_n 3, 1) := by decide +kernel
theorem dL_law_2691 : decode cL_law 2691 = .ok (.invokestatic 268, 3) := by decide +kernel
theorem dL_law_2694 : decode cL_law 2694 = .ok (.istore 5, 2) := by decide +kernel
theorem dL_law_2696 : decode cL_law 2696 = .ok (.aload_n 2, 1) := by decide +kernel
theorem dL_law_2697 : decode cL_law 2697 = .ok (.aload_n 0, 1) := by decide +kernel
theorem dL_law_2698 : decode cL_law 2698 = .ok (.iload 4, 2) := by decide +kernel
theorem dL_law_2700 : decode cL_law 2700 = .ok (.iconst 1, 1) := by decide +kernel
theorem dL_law_2701 : decode cL_law 2701 = .ok (.iadd, 1) := by decide +kernel
theorem dL_law_2702 : decode cL_law 2702 = .ok (.iaload, 1) := by decide +kernel
theorem dL_law_2703 : decode cL_law 2703 = .ok (.invokevirtual 270, 3) := by decide +kernel
theorem dL_law_2706 : decode cL_law 2706 = .ok (.istore 6, 2) := by decide +kernel
theorem dL_law_2708 : decode cL_law 2708 = .ok (.aload_n 2, 1) := by decide +kernel
theorem dL_law_2709 : decode cL_law 2709 = .ok (.invokevirtual 142, 3) := by decide +kernel
theorem dL_law_2712 : decode cL_law 2712 = .ok (.iload 5, 2) := by decide +kernel
theorem dL_law_2714 : decode cL_law 2714 = .ok (.if_icmp .eq 5, 3) := by decide +kernel
theorem dL_law_2717 : decode cL_law 2717 = .ok (.iconst 0, 1) := by decide +kernel
theorem dL_law_2718 : decode cL_law 2718 = .ok (.ireturn, 1) := by decide +kernel
theorem dL_law_2719 : decode cL_law 2719 = .ok (.iload 5, 2) := by decide +kernel
theorem dL_law_2721 : decode cL_law 2721 = .ok (.ifCond .ne 15, 3) := by decide +kernel
theorem dL_law_2724 : decode cL_law 2724 = .ok (.aload_n 3, 1) := by decide +kernel
theorem dL_law_2725 : decode cL_law 2725 = .ok (.iconst 0, 1) := by decide +kernel
theorem dL_law_2726 : decode cL_law 2726 = .ok (.laload, 1) := by decide +kernel
theorem dL_law_2727 : decode cL_law 2727 = .ok (.iload 6, 2) := by decide +kernel
theorem dL_law_2729 : decode cL_law 2729 = .ok (.i2l, 1) := by decide +kernel
theorem dL_law_2730 : decode cL_law 2730 = .ok (.lcmp, 1) := by decide +kernel
theorem dL_law_2731 : decode cL_law 2731 = .ok (.ifCond .eq 5, 3) := by decide +kernel
theorem dL_law_2734 : decode cL_law 2734 = .ok (.iconst 0, 1) := by decide +kernel
theorem dL_law_2735 : decode cL_law 2735 = .ok (.ireturn, 1) := by decide +kernel
theorem dL_law_2736 : decode cL_law 2736 = .ok (.goto 59, 3) := by decide +kernel
theorem dL_law_2739 : decode cL_law 2739 = .ok (.aload_n 1, 1) := by decide +kernel
theorem dL_law_2740 : decode cL_law 2740 = .ok (.aload_n 0, 1) := by decide +kernel
theorem dL_law_2741 : decode cL_law 2741 = .ok (.iload 4, 2) := by decide +kernel
theorem dL_law_2743 : decode cL_law 2743 = .ok (.iconst 1, 1) := by decide +kernel
theorem dL_law_2744 : decode cL_law 2744 = .ok (.iadd, 1) := by decide +kernel
theorem dL_law_2745 : decode cL_law 2745 = .ok (.iaload, 1) := by decide +kernel
theorem dL_law_2746 : decode cL_law 2746 = .ok (.aload_n 3, 1) := by decide +kernel
theorem dL_law_2747 : decode cL_law 2747 = .ok (.invokestatic 271, 3) := by decide +kernel
theorem dL_law_2750 : decode cL_law 2750 = .ok (.istore 5, 2) := by decide +kernel
theorem dL_law_2752 : decode cL_law 2752 = .ok (.aload_n 2, 1) := by decide +kernel
theorem dL_law_2753 : decode cL_law 2753 = .ok (.aload_n 0, 1) := by decide +kernel
theorem dL_law_2754 : decode cL_law 2754 = .ok (.iload 4, 2) := by decide +kernel
theorem dL_law_2756 : decode cL_law 2756 = .ok (.iconst 1, 1) := by decide +kernel
theorem dL_law_2757 : decode cL_law 2757 = .ok (.iadd, 1) := by decide +kernel
theorem dL_law_2758 : decode cL_law 2758 = .ok (.iaload, 1) := by decide +kernel
theorem dL_law_2759 : decode cL_law 2759 = .ok (.invokevirtual 273, 3) := by decide +kernel
theorem dL_law_2762 : decode cL_law 2762 = .ok (.istore 6, 2) := by decide +kernel
theorem dL_law_2764 : decode cL_law 2764 = .ok (.aload_n 2, 1) := by decide +kernel
theorem dL_law_2765 : decode cL_law 2765 = .ok (.invokevirtual 142, 3) := by decide +kernel
theorem dL_law_2768 : decode cL_law 2768 = .ok (.iload 5, 2) := by decide +kernel
theorem dL_law_2770 : decode cL_law 2770 = .ok (.if_icmp .eq 5, 3) := by decide +kernel
theorem dL_law_2773 : decode cL_law 2773 = .ok (.iconst 0, 1) := by decide +kernel
theorem dL_law_2774 : decode cL_law 2774 = .ok (.ireturn, 1) := by decide +kernel
theorem dL_law_2775 : decode cL_law 2775 = .ok (.iload 5, 2) := by decide +kernel
theorem dL_law_2777 : decode cL_law 2777 = .ok (.ifCond .ne 15, 3) := by decide +kernel
theorem dL_law_2780 : decode cL_law 2780 = .ok (.aload_n 3, 1) := by decide +kernel
theorem dL_law_2781 : decode cL_law 2781 = .ok (.iconst 0, 1) := by decide +kernel
theorem dL_law_2782 : decode cL_law 2782 = .ok (.laload, 1) := by decide +kernel
theorem dL_law_2783 : decode cL_law 2783 = .ok (.iload 6, 2) := by decide +kernel
theorem dL_law_2785 : decode cL_law 2785 = .ok (.i2l, 1) := by decide +kernel
theorem dL_law_2786 : decode cL_law 2786 = .ok (.lcmp, 1) := by decide +kernel
theorem dL_law_2787 : decode cL_law 2787 = .ok (.ifCond .eq 5, 3) := by decide +kernel
theorem dL_law_2790 : decode cL_law 2790 = .ok (.iconst 0, 1) := by decide +kernel
theorem dL_law_2791 : decode cL_law 2791 = .ok (.ireturn, 1) := by decide +kernel
theorem dL_law_2792 : decode cL_law 2792 = .ok (.goto 3, 3) := by decide +kernel
theorem dL_law_2795 : decode cL_law 2795 = .ok (.iinc 4 5, 3) := by decide +kernel
theorem dL_law_2798 : decode cL_law 2798 = .ok (.goto (-2775), 3) := by decide +kernel
theorem dL_law_2801 : decode cL_law 2801 = .ok (.iconst 1, 1) := by decide +kernel
theorem dL_law_2802 : decode cL_law 2802 = .ok (.ireturn, 1) := by decide +kernel
abbrev m_L_law : am_M := (yL_law, cL_law, 7, some .boolean, [])
def f_L_law_2795 (rc23 : Nat × Nat → Option (Nat × Nat) → Option (Nat × Nat) → Option (Nat × Nat) → Int32 → am_H → am_R) (_ : Nat × Nat) (x1 : Option (Nat × Nat)) (x2 : Option (Nat × Nat)) (x3 : Option (Nat × Nat)) (x4 : Int32) (h : am_H) : am_R := rc23 (1, 0) x1 x2 x3 (x4 + 5) h
theorem t_L_law_2795 (d : Nat) (hd : 10 ≤ d) (rc23 : Nat × Nat → Option (Nat × Nat) → Option (Nat × Nat) → Option (Nat × Nat) → Int32 → am_H → am_R) (hrc23 : ∀ x1 x2 x3 x4 h, Sim m_L_law d 23 [some (.inr (.inr (some (1, 0)))), some (.inr (.inr x1)), some (.inr (.inr x2)), some (.inr (.inr x3)), some (.inl x4), none, none] [] h (rc23 (1, 0) x1 x2 x3 x4 h)) (x1 : Option (Nat × Nat)) (x2 : Option (Nat × Nat)) (x3 : Option (Nat × Nat)) (x4 : Int32) (h : am_H) : Sim m_L_law d 2795 [some (.inr (.inr (some (1, 0)))), some (.inr (.inr x1)), some (.inr (.inr x2)), some (.inr (.inr x3)), some (.inl x4), none, none] [] h (f_L_law_2795 rc23 (1, 0) x1 x2 x3 x4 h) := by
  unfold f_L_law_2795
  refine sim_iinc (5) dL_law_2795 rfl (by decide +kernel) (Nat.le_of_ble_eq_true rfl) ?_
  refine sim_goto 23 dL_law_2798 (by decide) ?_
  exact sim_lv (am_leS (am_leS (am_leS (am_leS (am_leS (am_leN (am_leN am_leT))))))) (hrc23 _ _ _ _ _ _)
def f_L_law_2792 (rc23 : Nat × Nat → Option (Nat × Nat) → Option (Nat × Nat) → Option (Nat × Nat) → Int32 → am_H → am_R) (_ : Nat × Nat) (x1 : Option (Nat × Nat)) (x2 : Option (Nat × Nat)) (x3 : Option (Nat × Nat)) (x4 : Int32) (h : am_H) : am_R := f_L_law_2795 rc23 (1, 0) x1 x2 x3 x4 h
theorem t_L_law_2792 (d : Nat) (hd : 10 ≤ d) (rc23 : Nat × Nat → Option (Nat × Nat) → Option (Nat × Nat) → Option (Nat × Nat) → Int32 → am_H → am_R) (hrc23 : ∀ x1 x2 x3 x4 h, Sim m_L_law d 23 [some (.inr (.inr (some (1, 0)))), some (.inr (.inr x1)), some (.inr (.inr x2)), some (.inr (.inr x3)), some (.inl x4), none, none] [] h (rc23 (1, 0) x1 x2 x3 x4 h)) (x1 : Option (Nat × Nat)) (x2 : Option (Nat × Nat)) (x3 : Option (Nat × Nat)) (x4 : Int32) (h : am_H) : Sim m_L_law d 2792 [some (.inr (.inr (some (1, 0)))), some (.inr (.inr x1)), some (.inr (.inr x2)), some (.inr (.inr x3)), some (.inl x4), none, none] [] h (f_L_law_2792 rc23 (1, 0) x1 x2 x3 x4 h) := by
  unfold f_L_law_2792
  refine sim_goto 2795 dL_law_2792 (by decide) ?_
  exact sim_lv (am_leS (am_leS (am_leS (am_leS (am_leS (am_leN (am_leN am_leT))))))) (t_L_law_2795 d (by omega) _ hrc23 _ _ _ _ _ _)
def f_L_law_2736 (rc23 : Nat × Nat → Option (Nat × Nat) → Option (Nat × Nat) → Option (Nat × Nat) → Int32 → am_H → am_R) (_ : Nat × Nat) (x1 : Option (Nat × Nat)) (x2 : Option (Nat × Nat)) (x3 : Option (Nat × Nat)) (x4 : Int32) (h : am_H) : am_R := f_L_law_2795 rc23 (1, 0) x1 x2 x3 x4 h
theorem t_L_law_2736 (d : Nat) (hd : 10 ≤ d) (rc23 : Nat × Nat → Option (Nat × Nat) → Option (Nat × Nat) → Option (Nat × Nat) → Int32 → am_H → am_R) (hrc23 : ∀ x1 x2 x3 x4 h, Sim m_L_law d 23 [some (.inr (.inr (some (1, 0)))), some (.inr (.inr x1)), some (.inr (.inr x2)), some (.inr (.inr x3)), some (.inl x4), none, none] [] h (rc23 (1, 0) x1 x2 x3 x4 h)) (x1 : Option (Nat × Nat)) (x2 : Option (Nat × Nat)) (x3 : Option (Nat × Nat)) (x4 : Int32) (h : am_H) : Sim m_L_law d 2736 [some (.inr (.inr (some (1, 0)))), some (.inr (.inr x1)), some (.inr (.inr x2)), some (.inr (.inr x3)), some (.inl x4), none, none] [] h (f_L_law_2736 rc23 (1, 0) x1 x2 x3 x4 h) := by
  unfold f_L_law_2736
  refine sim_goto 2795 dL_law_2736 (by decide) ?_
  exact sim_lv (am_leS (am_leS (am_leS (am_leS (am_leS (am_leN (am_leN am_leT))))))) (t_L_law_2795 d (by omega) _ hrc23 _ _ _ _ _ _)
def f_L_law_2680 (rc23 : Nat × Nat → Option (Nat × Nat) → Option (Nat × Nat) → Option (Nat × Nat) → Int32 → am_H → am_R) (_ : Nat × Nat) (x1 : Option (Nat × Nat)) (x2 : Option (Nat × Nat)) (x3 : Option (Nat × Nat)) (x4 : Int32) (h : am_H) : am_R := f_L_law_2795 rc23 (1, 0) x1 x2 x3 x4 h
theorem t_L_law_2680 (d : Nat) (hd : 10 ≤ d) (rc23 : Nat × Nat → Option (Nat × Nat) → Option (Nat × Nat) → Option (Nat × Nat) → Int32 → am_H → am_R) (hrc23 : ∀ x1 x2 x3 x4 h, Sim m_L_law d 23 [some (.inr (.inr (some (1, 0)))), some (.inr (.inr x1)), some (.inr (.inr x2)), some (.inr (.inr x3)), some (.inl x4), none, none] [] h (rc23 (1, 0) x1 x2 x3 x4 h)) (x1 : Option (Nat × Nat)) (x2 : Option (Nat × Nat)) (x3 : Option (Nat × Nat)) (x4 : Int32) (h : am_H) : Sim m_L_law d 2680 [some (.inr (.inr (some (1, 0)))), some (.inr (.inr x1)), some (.inr (.inr x2)), some (.inr (.inr x3)), some (.inl x4), none, none] [] h (f_L_law_2680 rc23 (1, 0) x1 x2 x3 x4 h) := by
  unfold f_L_law_2680
  refine sim_goto 2795 dL_law_2680 (by decide) ?_
  exact sim_lv (am_leS (am_leS (am_leS (am_leS (am_leS (am_leN (am_leN am_leT))))))) (t_L_law_2795 d (by omega) _ hrc23 _ _ _ _ _ _)
def f_L_law_2674 (rc23 : Nat × Nat → Option (Nat × Nat) → Option (Nat × Nat) → Option (Nat × Nat) → Int32 → am_H → am_R) (_ : Nat × Nat) (x1 : Option (Nat × Nat)) (x2 : Option (Nat × Nat)) (x3 : Option (Nat × Nat)) (x4 : Int32) (s0 : Int64) (s1 : Int64) (h : am_H) : am_R := if (lg_cmp s1 s0) = 0 then (f_L_law_2680 rc23 (1, 0) x1 x2 x3 x4 h) else (m_rz h (0 : Int32))
theorem t_L_law_2674 (d : Nat) (hd : 10 ≤ d) (rc23 : Nat × Nat → Option (Nat × Nat) → Option (Nat × Nat) → Option (Nat × Nat) → Int32 → am_H → am_R) (hrc23 : ∀ x1 x2 x3 x4 h, Sim m_L_law d 23 [some (.inr (.inr (some (1, 0)))), some (.inr (.inr x1)), some (.inr (.inr x2)), some (.inr (.inr x3)), some (.inl x4), none, none] [] h (rc23 (1, 0) x1 x2 x3 x4 h)) (x1 : Option (Nat × Nat)) (x2 : Option (Nat × Nat)) (x3 : Option (Nat × Nat)) (x4 : Int32) (s0 : Int64) (s1 : Int64) (h : am_H) : Sim m_L_law d 2674 [some (.inr (.inr (some (1, 0)))), some (.inr (.inr x1)), some (.inr (.inr x2)), some (.inr (.inr x3)), some (.inl x4), none, none] [.inr (.inl s0), .inr (.inl s1)] h (f_L_law_2674 rc23 (1, 0) x1 x2 x3 x4 s0 s1 h) := by
  unfold f_L_law_2674
  refine sim_lcmp dL_law_2674 ?_
  refine sim_if_eq 2680 dL_law_2675 (by decide) (fun c => ?_) (fun c => ?_)
  · exact sim_lv (am_leS (am_leS (am_leS (am_leS (am_leS (am_leN (am_leN am_leT))))))) (t_L_law_2680 d (by omega) _ hrc23 _ _ _ _ _ _)
  · refine sim_iconst (0) dL_law_2678 (by decide +kernel) ?_
    exact sim_zret dL_law_2679 rfl
def f_L_law_2634 (rc23 : Nat × Nat → Option (Nat × Nat) → Option (Nat × Nat) → Option (Nat × Nat) → Int32 → am_H → am_R) (_ : Nat × Nat) (x1 : Option (Nat × Nat)) (x2 : Option (Nat × Nat)) (x3 : Option (Nat × Nat)) (x4 : Int32) (x5 : Int32) (s0 : Int32) (s1 : Int32) (s2 : Option (Nat × Nat)) (h : am_H) : am_R := m_scr (x4 + (3 : Int32)) h fun v397 => m_ao s2 11 fun a400 => m_bI (f_X11_subscribe a400 s1 s0 v397 h) fun h398 v399 => m_ao x2 11 fun a403 => m_bI (f_X11_thrown a403 h398) fun h401 v402 => if v402 = x5 then (if x5 = 0 then (m_aL x3 (0 : Int32) h401 fun v404 => if v399 = 0 then (f_L_law_2674 rc23 (1, 0) x1 x2 x3 x4 (0 : Int64) v404 h401) else (f_L_law_2674 rc23 (1, 0) x1 x2 x3 x4 (1 : Int64) v404 h401)) else (f_L_law_2680 rc23 (1, 0) x1 x2 x3 x4 h401)) else (m_rz h401 (0 : Int32))
theorem t_L_law_2634 (d : Nat) (hd : 10 ≤ d) (rc23 : Nat × Nat → Option (Nat × Nat) → Option (Nat × Nat) → Option (Nat × Nat) → Int32 → am_H → am_R) (hrc23 : ∀ x1 x2 x3 x4 h, Sim m_L_law d 23 [some (.inr (.inr (some (1, 0)))), some (.inr (.inr x1)), some (.inr (.inr x2)), some (.inr (.inr x3)), some (.inl x4), none, none] [] h (rc23 (1, 0) x1 x2 x3 x4 h)) (x1 : Option (Nat × Nat)) (x2 : Option (Nat × Nat)) (x3 : Option (Nat × Nat)) (x4 : Int32) (x5 : Int32) (s0 : Int32) (s1 : Int32) (s2 : Option (Nat × Nat)) (h : am_H) : Sim m_L_law d 2634 [some (.inr (.inr (some (1, 0)))), some (.inr (.inr x1)), some (.inr (.inr x2)), some (.inr (.inr x3)), some (.inl x4), some (.inl x5), none] [.inl s0, .inl s1, .inr (.inr s2)] h (f_L_law_2634 rc23 (1, 0) x1 x2 x3 x4 x5 s0 s1 s2 h) := by
  unfold f_L_law_2634
  refine sim_aload_n dL_law_2634 rfl ?_
  refine sim_iload dL_law_2635 rfl ?_
  refine sim_iconst (3) dL_law_2637 (by decide +kernel) ?_
  refine sim_iadd dL_law_2638 ?_
  refine sim_scr dL_law_2639 (fun v397 => ?_)
  refine sim_ao3 (fun a400 e => ?_)
  refine sim_virt (d - 1) e dL_law_2640 (k_X11_subscribe (d - 1) (by omega) _ _ _ _ _) q_X11_subscribe rfl rfl wm_RL_267 rfl rfl (by omega) (Nat.le_of_ble_eq_true rfl) am_nI (am_rI fun h398 v399 => ?_) am_eI
  refine sim_istore dL_law_2643 (Nat.le_of_ble_eq_true rfl) ?_
  refine sim_aload_n dL_law_2645 rfl ?_
  refine sim_ao0 (fun a403 e => ?_)
  refine sim_virt (d - 1) e dL_law_2646 (k_X11_thrown (d - 1) (by omega) _  _) q_X11_thrown rfl rfl wm_RL_142 rfl rfl (by omega) (Nat.le_of_ble_eq_true rfl) am_nI (am_rI fun h401 v402 => ?_) am_eI
  refine sim_iload dL_law_2649 rfl ?_
  refine sim_ic_eq 2656 dL_law_2651 (by decide) (fun c => ?_) (fun c => ?_)
  · refine sim_iload dL_law_2656 rfl ?_
    refine sim_if_ne 2680 dL_law_2658 (by decide) (fun c => ?_) (fun c => ?_)
    · exact sim_lv (am_leS (am_leS (am_leS (am_leS (am_leS (am_leN (am_leN am_leT))))))) (t_L_law_2680 d (by omega) _ hrc23 _ _ _ _ _ _)
    · refine sim_aload_n dL_law_2661 rfl ?_
      refine sim_iconst (0) dL_law_2662 (by decide +kernel) ?_
      refine sim_aL dL_law_2663 (fun v404 => ?_)
      refine sim_iload dL_law_2664 rfl ?_
      refine sim_if_eq 2673 dL_law_2666 (by decide) (fun c => ?_) (fun c => ?_)
      · refine sim_lconst (0) dL_law_2673 (by decide +kernel) ?_
        exact sim_lv (am_leS (am_leS (am_leS (am_leS (am_leS (am_leN (am_leN am_leT))))))) (t_L_law_2674 d (by omega) _ hrc23 _ _ _ _ _ _ _ _)
      · refine sim_lconst (1) dL_law_2669 (by decide +kernel) ?_
        refine sim_goto 2674 dL_law_2670 (by decide) ?_
        exact sim_lv (am_leS (am_leS (am_leS (am_leS (am_leS (am_leN (am_leN am_leT))))))) (t_L_law_2674 d (by omega) _ hrc23 _ _ _ _ _ _ _ _)
  · refine sim_iconst (0) dL_law_2654 (by decide +kernel) ?_
    exact sim_zret dL_law_2655 rfl
def f_L_law_2601 (rc23 : Nat × Nat → Option (Nat × Nat) → Option (Nat × Nat) → Option (Nat × Nat) → Int32 → am_H → am_R) (_ : Nat × Nat) (x1 : Option (Nat × Nat)) (x2 : Option (Nat × Nat)) (x3 : Option (Nat × Nat)) (x4 : Int32) (s0 : Int32) (s1 : Int32) (s2 : Option (Nat × Nat)) (h : am_H) : am_R := m_scr (x4 + (3 : Int32)) h fun v392 => m_bI (f_L_subscribe s2 s1 s0 v392 x3 h) fun h393 v394 => m_scr (x4 + (1 : Int32)) h393 fun v395 => m_scr (x4 + (2 : Int32)) h393 fun v396 => if v396 = 0 then (f_L_law_2634 rc23 (1, 0) x1 x2 x3 x4 v394 (0 : Int32) v395 x2 h393) else (f_L_law_2634 rc23 (1, 0) x1 x2 x3 x4 v394 (1 : Int32) v395 x2 h393)
theorem t_L_law_2601 (d : Nat) (hd : 10 ≤ d) (rc23 : Nat × Nat → Option (Nat × Nat) → Option (Nat × Nat) → Option (Nat × Nat) → Int32 → am_H → am_R) (hrc23 : ∀ x1 x2 x3 x4 h, Sim m_L_law d 23 [some (.inr (.inr (some (1, 0)))), some (.inr (.inr x1)), some (.inr (.inr x2)), some (.inr (.inr x3)), some (.inl x4), none, none] [] h (rc23 (1, 0) x1 x2 x3 x4 h)) (x1 : Option (Nat × Nat)) (x2 : Option (Nat × Nat)) (x3 : Option (Nat × Nat)) (x4 : Int32) (s0 : Int32) (s1 : Int32) (s2 : Option (Nat × Nat)) (h : am_H) : Sim m_L_law d 2601 [some (.inr (.inr (some (1, 0)))), some (.inr (.inr x1)), some (.inr (.inr x2)), some (.inr (.inr x3)), some (.inl x4), none, none] [.inl s0, .inl s1, .inr (.inr s2)] h (f_L_law_2601 rc23 (1, 0) x1 x2 x3 x4 s0 s1 s2 h) := by
  unfold f_L_law_2601
  refine sim_aload_n dL_law_2601 rfl ?_
  refine sim_iload dL_law_2602 rfl ?_
  refine sim_iconst (3) dL_law_2604 (by decide +kernel) ?_
  refine sim_iadd dL_law_2605 ?_
  refine sim_scr dL_law_2606 (fun v392 => ?_)
  refine sim_aload_n dL_law_2607 rfl ?_
  refine sim_staticX (d - 1) dL_law_2608 (k_L_subscribe (d - 1) (by omega) _ _ _ _ _ _) q_L_subscribe wm_RL_264 rfl rfl (by omega) (Nat.le_of_ble_eq_true rfl) am_nI (am_rI fun h393 v394 => ?_) am_eI
  refine sim_istore dL_law_2611 (Nat.le_of_ble_eq_true rfl) ?_
  refine sim_aload_n dL_law_2613 rfl ?_
  refine sim_aload_n dL_law_2614 rfl ?_
  refine sim_iload dL_law_2615 rfl ?_
  refine sim_iconst (1) dL_law_2617 (by decide +kernel) ?_
  refine sim_iadd dL_law_2618 ?_
  refine sim_scr dL_law_2619 (fun v395 => ?_)
  refine sim_aload_n dL_law_2620 rfl ?_
  refine sim_iload dL_law_2621 rfl ?_
  refine sim_iconst (2) dL_law_2623 (by decide +kernel) ?_
  refine sim_iadd dL_law_2624 ?_
  refine sim_scr dL_law_2625 (fun v396 => ?_)
  refine sim_if_eq 2633 dL_law_2626 (by decide) (fun c => ?_) (fun c => ?_)
  · refine sim_iconst (0) dL_law_2633 (by decide +kernel) ?_
    exact sim_lv (am_leS (am_leS (am_leS (am_leS (am_leS (am_leS (am_leN am_leT))))))) (t_L_law_2634 d (by omega) _ hrc23 _ _ _ _ _ _ _ _ _ _)
  · refine sim_iconst (1) dL_law_2629 (by decide +kernel) ?_
    refine sim_goto 2634 dL_law_2630 (by decide) ?_
    exact sim_lv (am_leS (am_leS (am_leS (am_leS (am_leS (am_leS (am_leN am_leT))))))) (t_L_law_2634 d (by omega) _ hrc23 _ _ _ _ _ _ _ _ _ _)
def f_L_law_2577 (rc23 : Nat × Nat → Option (Nat × Nat) → Option (Nat × Nat) → Option (Nat × Nat) → Int32 → am_H → am_R) (_ : Nat × Nat) (x1 : Option (Nat × Nat)) (x2 : Option (Nat × Nat)) (x3 : Option (Nat × Nat)) (x4 : Int32) (h : am_H) : am_R := f_L_law_2795 rc23 (1, 0) x1 x2 x3 x4 h
theorem t_L_law_2577 (d : Nat) (hd : 10 ≤ d) (rc23 : Nat × Nat → Option (Nat × Nat) → Option (Nat × Nat) → Option (Nat × Nat) → Int32 → am_H → am_R) (hrc23 : ∀ x1 x2 x3 x4 h, Sim m_L_law d 23 [some (.inr (.inr (some (1, 0)))), some (.inr (.inr x1)), some (.inr (.inr x2)), some (.inr (.inr x3)), some (.inl x4), none, none] [] h (rc23 (1, 0) x1 x2 x3 x4 h)) (x1 : Option (Nat × Nat)) (x2 : Option (Nat × Nat)) (x3 : Option (Nat × Nat)) (x4 : Int32) (h : am_H) : Sim m_L_law d 2577 [some (.inr (.inr (some (1, 0)))), some (.inr (.inr x1)), some (.inr (.inr x2)), some (.inr (.inr x3)), some (.inl x4), none, none] [] h (f_L_law_2577 rc23 (1, 0) x1 x2 x3 x4 h) := by
  unfold f_L_law_2577
  refine sim_goto 2795 dL_law_2577 (by decide) ?_
  exact sim_lv (am_leS (am_leS (am_leS (am_leS (am_leS (am_leN (am_leN am_leT))))))) (t_L_law_2795 d (by omega) _ hrc23 _ _ _ _ _ _)
def f_L_law_2521 (rc23 : Nat × Nat → Option (Nat × Nat) → Option (Nat × Nat) → Option (Nat × Nat) → Int32 → am_H → am_R) (_ : Nat × Nat) (x1 : Option (Nat × Nat)) (x2 : Option (Nat × Nat)) (x3 : Option (Nat × Nat)) (x4 : Int32) (h : am_H) : am_R := f_L_law_2795 rc23 (1, 0) x1 x2 x3 x4 h
theorem t_L_law_2521 (d : Nat) (hd : 10 ≤ d) (rc23 : Nat × Nat → Option (Nat × Nat) → Option (Nat × Nat) → Option (Nat × Nat) → Int32 → am_H → am_R) (hrc23 : ∀ x1 x2 x3 x4 h, Sim m_L_law d 23 [some (.inr (.inr (some (1, 0)))), some (.inr (.inr x1)), some (.inr (.inr x2)), some (.inr (.inr x3)), some (.inl x4), none, none] [] h (rc23 (1, 0) x1 x2 x3 x4 h)) (x1 : Option (Nat × Nat)) (x2 : Option (Nat × Nat)) (x3 : Option (Nat × Nat)) (x4 : Int32) (h : am_H) : Sim m_L_law d 2521 [some (.inr (.inr (some (1, 0)))), some (.inr (.inr x1)), some (.inr (.inr x2)), some (.inr (.inr x3)), some (.inl x4), none, none] [] h (f_L_law_2521 rc23 (1, 0) x1 x2 x3 x4 h) := by
  unfold f_L_law_2521
  refine sim_goto 2795 dL_law_2521 (by decide) ?_
  exact sim_lv (am_leS (am_leS (am_leS (am_leS (am_leS (am_leN (am_leN am_leT))))))) (t_L_law_2795 d (by omega) _ hrc23 _ _ _ _ _ _)
def f_L_law_2453 (rc23 : Nat × Nat → Option (Nat × Nat) → Option (Nat × Nat) → Option (Nat × Nat) → Int32 → am_H → am_R) (_ : Nat × Nat) (x1 : Option (Nat × Nat)) (x2 : Option (Nat × Nat)) (x3 : Option (Nat × Nat)) (x4 : Int32) (h : am_H) : am_R := f_L_law_2795 rc23 (1, 0) x1 x2 x3 x4 h
theorem t_L_law_2453 (d : Nat) (hd : 10 ≤ d) (rc23 : Nat × Nat → Option (Nat × Nat) → Option (Nat × Nat) → Option (Nat × Nat) → Int32 → am_H → am_R) (hrc23 : ∀ x1 x2 x3 x4 h, Sim m_L_law d 23 [some (.inr (.inr (some (1, 0)))), some (.inr (.inr x1)), some (.inr (.inr x2)), some (.inr (.inr x3)), some (.inl x4), none, none] [] h (rc23 (1, 0) x1 x2 x3 x4 h)) (x1 : Option (Nat × Nat)) (x2 : Option (Nat × Nat)) (x3 : Option (Nat × Nat)) (x4 : Int32) (h : am_H) : Sim m_L_law d 2453 [some (.inr (.inr (some (1, 0)))), some (.inr (.inr x1)), some (.inr (.inr x2)), some (.inr (.inr x3)), some (.inl x4), none, none] [] h (f_L_law_2453 rc23 (1, 0) x1 x2 x3 x4 h) := by
  unfold f_L_law_2453
  refine sim_goto 2795 dL_law_2453 (by decide) ?_
  exact sim_lv (am_leS (am_leS (am_leS (am_leS (am_leS (am_leN (am_leN am_leT))))))) (t_L_law_2795 d (by omega) _ hrc23 _ _ _ _ _ _)
def f_L_law_2385 (rc23 : Nat × Nat → Option (Nat × Nat) → Option (Nat × Nat) → Option (Nat × Nat) → Int32 → am_H → am_R) (_ : Nat × Nat) (x1 : Option (Nat × Nat)) (x2 : Option (Nat × Nat)) (x3 : Option (Nat × Nat)) (x4 : Int32) (h : am_H) : am_R := f_L_law_2795 rc23 (1, 0) x1 x2 x3 x4 h
theorem t_L_law_2385 (d : Nat) (hd : 10 ≤ d) (rc23 : Nat × Nat → Option (Nat × Nat) → Option (Nat × Nat) → Option (Nat × Nat) → Int32 → am_H → am_R) (hrc23 : ∀ x1 x2 x3 x4 h, Sim m_L_law d 23 [some (.inr (.inr (some (1, 0)))), some (.inr (.inr x1)), some (.inr (.inr x2)), some (.inr (.inr x3)), some (.inl x4), none, none] [] h (rc23 (1, 0) x1 x2 x3 x4 h)) (x1 : Option (Nat × Nat)) (x2 : Option (Nat × Nat)) (x3 : Option (Nat × Nat)) (x4 : Int32) (h : am_H) : Sim m_L_law d 2385 [some (.inr (.inr (some (1, 0)))), some (.inr (.inr x1)), some (.inr (.inr x2)), some (.inr (.inr x3)), some (.inl x4), none, none] [] h (f_L_law_2385 rc23 (1, 0) x1 x2 x3 x4 h) := by
  unfold f_L_law_2385
  refine sim_goto 2795 dL_law_2385 (by decide) ?_
  exact sim_lv (am_leS (am_leS (am_leS (am_leS (am_leS (am_leN (am_leN am_leT))))))) (t_L_law_2795 d (by omega) _ hrc23 _ _ _ _ _ _)
def f_L_law_2379 (rc23 : Nat × Nat → Option (Nat × Nat) → Option (Nat × Nat) → Option (Nat × Nat) → Int32 → am_H → am_R) (_ : Nat × Nat) (x1 : Option (Nat × Nat)) (x2 : Option (Nat × Nat)) (x3 : Option (Nat × Nat)) (x4 : Int32) (s0 : Int64) (s1 : Int64) (h : am_H) : am_R := if (lg_cmp s1 s0) = 0 then (f_L_law_2385 rc23 (1, 0) x1 x2 x3 x4 h) else (m_rz h (0 : Int32))
theorem t_L_law_2379 (d : Nat) (hd : 10 ≤ d) (rc23 : Nat × Nat → Option (Nat × Nat) → Option (Nat × Nat) → Option (Nat × Nat) → Int32 → am_H → am_R) (hrc23 : ∀ x1 x2 x3 x4 h, Sim m_L_law d 23 [some (.inr (.inr (some (1, 0)))), some (.inr (.inr x1)), some (.inr (.inr x2)), some (.inr (.inr x3)), some (.inl x4), none, none] [] h (rc23 (1, 0) x1 x2 x3 x4 h)) (x1 : Option (Nat × Nat)) (x2 : Option (Nat × Nat)) (x3 : Option (Nat × Nat)) (x4 : Int32) (s0 : Int64) (s1 : Int64) (h : am_H) : Sim m_L_law d 2379 [some (.inr (.inr (some (1, 0)))), some (.inr (.inr x1)), some (.inr (.inr x2)), some (.inr (.inr x3)), some (.inl x4), none, none] [.inr (.inl s0), .inr (.inl s1)] h (f_L_law_2379 rc23 (1, 0) x1 x2 x3 x4 s0 s1 h) := by
  unfold f_L_law_2379
  refine sim_lcmp dL_law_2379 ?_
  refine sim_if_eq 2385 dL_law_2380 (by decide) (fun c => ?_) (fun c => ?_)
  · exact sim_lv (am_leS (am_leS (am_leS (am_leS (am_leS (am_leN (am_leN am_leT))))))) (t_L_law_2385 d (by omega) _ hrc23 _ _ _ _ _ _)
  · refine sim_iconst (0) dL_law_2383 (by decide +kernel) ?_
    exact sim_zret dL_law_2384 rfl
def f_L_law_2310 (rc23 : Nat × Nat → Option (Nat × Nat) → Option (Nat × Nat) → Option (Nat × Nat) → Int32 → am_H → am_R) (_ : Nat × Nat) (x1 : Option (Nat × Nat)) (x2 : Option (Nat × Nat)) (x3 : Option (Nat × Nat)) (x4 : Int32) (h : am_H) : am_R := f_L_law_2795 rc23 (1, 0) x1 x2 x3 x4 h
theorem t_L_law_2310 (d : Nat) (hd : 10 ≤ d) (rc23 : Nat × Nat → Option (Nat × Nat) → Option (Nat × Nat) → Option (Nat × Nat) → Int32 → am_H → am_R) (hrc23 : ∀ x1 x2 x3 x4 h, Sim m_L_law d 23 [some (.inr (.inr (some (1, 0)))), some (.inr (.inr x1)), some (.inr (.inr x2)), some (.inr (.inr x3)), some (.inl x4), none, none] [] h (rc23 (1, 0) x1 x2 x3 x4 h)) (x1 : Option (Nat × Nat)) (x2 : Option (Nat × Nat)) (x3 : Option (Nat × Nat)) (x4 : Int32) (h : am_H) : Sim m_L_law d 2310 [some (.inr (.inr (some (1, 0)))), some (.inr (.inr x1)), some (.inr (.inr x2)), some (.inr (.inr x3)), some (.inl x4), none, none] [] h (f_L_law_2310 rc23 (1, 0) x1 x2 x3 x4 h) := by
  unfold f_L_law_2310
  refine sim_goto 2795 dL_law_2310 (by decide) ?_
  exact sim_lv (am_leS (am_leS (am_leS (am_leS (am_leS (am_leN (am_leN am_leT))))))) (t_L_law_2795 d (by omega) _ hrc23 _ _ _ _ _ _)
def f_L_law_2230 (rc23 : Nat × Nat → Option (Nat × Nat) → Option (Nat × Nat) → Option (Nat × Nat) → Int32 → am_H → am_R) (_ : Nat × Nat) (x1 : Option (Nat × Nat)) (x2 : Option (Nat × Nat)) (x3 : Option (Nat × Nat)) (x4 : Int32) (h : am_H) : am_R := f_L_law_2795 rc23 (1, 0) x1 x2 x3 x4 h
theorem t_L_law_2230 (d : Nat) (hd : 10 ≤ d) (rc23 : Nat × Nat → Option (Nat × Nat) → Option (Nat × Nat) → Option (Nat × Nat) → Int32 → am_H → am_R) (hrc23 : ∀ x1 x2 x3 x4 h, Sim m_L_law d 23 [some (.inr (.inr (some (1, 0)))), some (.inr (.inr x1)), some (.inr (.inr x2)), some (.inr (.inr x3)), some (.inl x4), none, none] [] h (rc23 (1, 0) x1 x2 x3 x4 h)) (x1 : Option (Nat × Nat)) (x2 : Option (Nat × Nat)) (x3 : Option (Nat × Nat)) (x4 : Int32) (h : am_H) : Sim m_L_law d 2230 [some (.inr (.inr (some (1, 0)))), some (.inr (.inr x1)), some (.inr (.inr x2)), some (.inr (.inr x3)), some (.inl x4), none, none] [] h (f_L_law_2230 rc23 (1, 0) x1 x2 x3 x4 h) := by
  unfold f_L_law_2230
  refine sim_goto 2795 dL_law_2230 (by decide) ?_
  exact sim_lv (am_leS (am_leS (am_leS (am_leS (am_leS (am_leN (am_leN am_leT))))))) (t_L_law_2795 d (by omega) _ hrc23 _ _ _ _ _ _)
def f_L_law_2224 (rc23 : Nat × Nat → Option (Nat × Nat) → Option (Nat × Nat) → Option (Nat × Nat) → Int32 → am_H → am_R) (_ : Nat × Nat) (x1 : Option (Nat × Nat)) (x2 : Option (Nat × Nat)) (x3 : Option (Nat × Nat)) (x4 : Int32) (s0 : Int64) (s1 : Int64) (h : am_H) : am_R := if (lg_cmp s1 s0) = 0 then (f_L_law_2230 rc23 (1, 0) x1 x2 x3 x4 h) else (m_rz h (0 : Int32))
theorem t_L_law_2224 (d : Nat) (hd : 10 ≤ d) (rc23 : Nat × Nat → Option (Nat × Nat) → Option (Nat × Nat) → Option (Nat × Nat) → Int32 → am_H → am_R) (hrc23 : ∀ x1 x2 x3 x4 h, Sim m_L_law d 23 [some (.inr (.inr (some (1, 0)))), some (.inr (.inr x1)), some (.inr (.inr x2)), some (.inr (.inr x3)), some (.inl x4), none, none] [] h (rc23 (1, 0) x1 x2 x3 x4 h)) (x1 : Option (Nat × Nat)) (x2 : Option (Nat × Nat)) (x3 : Option (Nat × Nat)) (x4 : Int32) (s0 : Int64) (s1 : Int64) (h : am_H) : Sim m_L_law d 2224 [some (.inr (.inr (some (1, 0)))), some (.inr (.inr x1)), some (.inr (.inr x2)), some (.inr (.inr x3)), some (.inl x4), none, none] [.inr (.inl s0), .inr (.inl s1)] h (f_L_law_2224 rc23 (1, 0) x1 x2 x3 x4 s0 s1 h) := by
  unfold f_L_law_2224
  refine sim_lcmp dL_law_2224 ?_
  refine sim_if_eq 2230 dL_law_2225 (by decide) (fun c => ?_) (fun c => ?_)
  · exact sim_lv (am_leS (am_leS (am_leS (am_leS (am_leS (am_leN (am_leN am_leT))))))) (t_L_law_2230 d (by omega) _ hrc23 _ _ _ _ _ _)
  · refine sim_iconst (0) dL_law_2228 (by decide +kernel) ?_
    exact sim_zret dL_law_2229 rfl
def f_L_law_2190 (rc23 : Nat × Nat → Option (Nat × Nat) → Option (Nat × Nat) → Option (Nat × Nat) → Int32 → am_H → am_R) (_ : Nat × Nat) (x1 : Option (Nat × Nat)) (x2 : Option (Nat × Nat)) (x3 : Option (Nat × Nat)) (x4 : Int32) (x5 : Int32) (s0 : Int32) (s1 : Int32) (s2 : Option (Nat × Nat)) (h : am_H) : am_R := m_ao s2 11 fun a411 => m_bI (f_X11_screen a411 s1 s0 h) fun h409 v410 => m_ao x2 11 fun a414 => m_bI (f_X11_thrown a414 h409) fun h412 v413 => if v413 = x5 then (if x5 = 0 then (m_aL x3 (0 : Int32) h412 fun v415 => if v410 = 0 then (f_L_law_2224 rc23 (1, 0) x1 x2 x3 x4 (0 : Int64) v415 h412) else (f_L_law_2224 rc23 (1, 0) x1 x2 x3 x4 (1 : Int64) v415 h412)) else (f_L_law_2230 rc23 (1, 0) x1 x2 x3 x4 h412)) else (m_rz h412 (0 : Int32))
theorem t_L_law_2190 (d : Nat) (hd : 10 ≤ d) (rc23 : Nat × Nat → Option (Nat × Nat) → Option (Nat × Nat) → Option (Nat × Nat) → Int32 → am_H → am_R) (hrc23 : ∀ x1 x2 x3 x4 h, Sim m_L_law d 23 [some (.inr (.inr (some (1, 0)))), some (.inr (.inr x1)), some (.inr (.inr x2)), some (.inr (.inr x3)), some (.inl x4), none, none] [] h (rc23 (1, 0) x1 x2 x3 x4 h)) (x1 : Option (Nat × Nat)) (x2 : Option (Nat × Nat)) (x3 : Option (Nat × Nat)) (x4 : Int32) (x5 : Int32) (s0 : Int32) (s1 : Int32) (s2 : Option (Nat × Nat)) (h : am_H) : Sim m_L_law d 2190 [some (.inr (.inr (some (1, 0)))), some (.inr (.inr x1)), some (.inr (.inr x2)), some (.inr (.inr x3)), some (.inl x4), some (.inl x5), none] [.inl s0, .inl s1, .inr (.inr s2)] h (f_L_law_2190 rc23 (1, 0) x1 x2 x3 x4 x5 s0 s1 s2 h) := by
  unfold f_L_law_2190
  refine sim_ao2 (fun a411 e => ?_)
  refine sim_virt (d - 1) e dL_law_2190 (k_X11_screen (d - 1) (by omega) _ _ _ _) q_X11_screen rfl rfl wm_RL_247 rfl rfl (by omega) (Nat.le_of_ble_eq_true rfl) am_nI (am_rI fun h409 v410 => ?_) am_eI
  refine sim_istore dL_law_2193 (Nat.le_of_ble_eq_true rfl) ?_
  refine sim_aload_n dL_law_2195 rfl ?_
  refine sim_ao0 (fun a414 e => ?_)
  refine sim_virt (d - 1) e dL_law_2196 (k_X11_thrown (d - 1) (by omega) _  _) q_X11_thrown rfl rfl wm_RL_142 rfl rfl (by omega) (Nat.le_of_ble_eq_true rfl) am_nI (am_rI fun h412 v413 => ?_) am_eI
  refine sim_iload dL_law_2199 rfl ?_
  refine sim_ic_eq 2206 dL_law_2201 (by decide) (fun c => ?_) (fun c => ?_)
  · refine sim_iload dL_law_2206 rfl ?_
    refine sim_if_ne 2230 dL_law_2208 (by decide) (fun c => ?_) (fun c => ?_)
    · exact sim_lv (am_leS (am_leS (am_leS (am_leS (am_leS (am_leN (am_leN am_leT))))))) (t_L_law_2230 d (by omega) _ hrc23 _ _ _ _ _ _)
    · refine sim_aload_n dL_law_2211 rfl ?_
      refine sim_iconst (0) dL_law_2212 (by decide +kernel) ?_
      refine sim_aL dL_law_2213 (fun v415 => ?_)
      refine sim_iload dL_law_2214 rfl ?_
      refine sim_if_eq 2223 dL_law_2216 (by decide) (fun c => ?_) (fun c => ?_)
      · refine sim_lconst (0) dL_law_2223 (by decide +kernel) ?_
        exact sim_lv (am_leS (am_leS (am_leS (am_leS (am_leS (am_leN (am_leN am_leT))))))) (t_L_law_2224 d (by omega) _ hrc23 _ _ _ _ _ _ _ _)
      · refine sim_lconst (1) dL_law_2219 (by decide +kernel) ?_
        refine sim_goto 2224 dL_law_2220 (by decide) ?_
        exact sim_lv (am_leS (am_leS (am_leS (am_leS (am_leS (am_leN (am_leN am_leT))))))) (t_L_law_2224 d (by omega) _ hrc23 _ _ _ _ _ _ _ _)
  · refine sim_iconst (0) dL_law_2204 (by decide +kernel) ?_
    exact sim_zret dL_law_2205 rfl
def f_L_law_2163 (rc23 : Nat × Nat → Option (Nat × Nat) → Option (Nat × Nat) → Option (Nat × Nat) → Int32 → am_H → am_R) (_ : Nat × Nat) (x1 : Option (Nat × Nat)) (x2 : Option (Nat × Nat)) (x3 : Option (Nat × Nat)) (x4 : Int32) (s0 : Int32) (s1 : Int32) (s2 : Option (Nat × Nat)) (h : am_H) : am_R := m_bI (f_L_screen s2 s1 s0 x3 h) fun h405 v406 => m_scr (x4 + (1 : Int32)) h405 fun v407 => m_scr (x4 + (2 : Int32)) h405 fun v408 => if v408 = 0 then (f_L_law_2190 rc23 (1, 0) x1 x2 x3 x4 v406 (0 : Int32) v407 x2 h405) else (f_L_law_2190 rc23 (1, 0) x1 x2 x3 x4 v406 (1 : Int32) v407 x2 h405)
theorem t_L_law_2163 (d : Nat) (hd : 10 ≤ d) (rc23 : Nat × Nat → Option (Nat × Nat) → Option (Nat × Nat) → Option (Nat × Nat) → Int32 → am_H → am_R) (hrc23 : ∀ x1 x2 x3 x4 h, Sim m_L_law d 23 [some (.inr (.inr (some (1, 0)))), some (.inr (.inr x1)), some (.inr (.inr x2)), some (.inr (.inr x3)), some (.inl x4), none, none] [] h (rc23 (1, 0) x1 x2 x3 x4 h)) (x1 : Option (Nat × Nat)) (x2 : Option (Nat × Nat)) (x3 : Option (Nat × Nat)) (x4 : Int32) (s0 : Int32) (s1 : Int32) (s2 : Option (Nat × Nat)) (h : am_H) : Sim m_L_law d 2163 [some (.inr (.inr (some (1, 0)))), some (.inr (.inr x1)), some (.inr (.inr x2)), some (.inr (.inr x3)), some (.inl x4), none, none] [.inl s0, .inl s1, .inr (.inr s2)] h (f_L_law_2163 rc23 (1, 0) x1 x2 x3 x4 s0 s1 s2 h) := by
  unfold f_L_law_2163
  refine sim_aload_n dL_law_2163 rfl ?_
  refine sim_staticX (d - 1) dL_law_2164 (k_L_screen (d - 1) (by omega) _ _ _ _ _) q_L_screen wm_RL_245 rfl rfl (by omega) (Nat.le_of_ble_eq_true rfl) am_nI (am_rI fun h405 v406 => ?_) am_eI
  refine sim_istore dL_law_2167 (Nat.le_of_ble_eq_true rfl) ?_
  refine sim_aload_n dL_law_2169 rfl ?_
  refine sim_aload_n dL_law_2170 rfl ?_
  refine sim_iload dL_law_2171 rfl ?_
  refine sim_iconst (1) dL_law_2173 (by decide +kernel) ?_
  refine sim_iadd dL_law_2174 ?_
  refine sim_scr dL_law_2175 (fun v407 => ?_)
  refine sim_aload_n dL_law_2176 rfl ?_
  refine sim_iload dL_law_2177 rfl ?_
  refine sim_iconst (2) dL_law_2179 (by decide +kernel) ?_
  refine sim_iadd dL_law_2180 ?_
  refine sim_scr dL_law_2181 (fun v408 => ?_)
  refine sim_if_eq 2189 dL_law_2182 (by decide) (fun c => ?_) (fun c => ?_)
  · refine sim_iconst (0) dL_law_2189 (by decide +kernel) ?_
    exact sim_lv (am_leS (am_leS (am_leS (am_leS (am_leS (am_leS (am_leN am_leT))))))) (t_L_law_2190 d (by omega) _ hrc23 _ _ _ _ _ _ _ _ _ _)
  · refine sim_iconst (1) dL_law_2185 (by decide +kernel) ?_
    refine sim_goto 2190 dL_law_2186 (by decide) ?_
    exact sim_lv (am_leS (am_leS (am_leS (am_leS (am_leS (am_leS (am_leN am_leT))))))) (t_L_law_2190 d (by omega) _ hrc23 _ _ _ _ _ _ _ _ _ _)
def f_L_law_2126 (rc23 : Nat × Nat → Option (Nat × Nat) → Option (Nat × Nat) → Option (Nat × Nat) → Int32 → am_H → am_R) (_ : Nat × Nat) (x1 : Option (Nat × Nat)) (x2 : Option (Nat × Nat)) (x3 : Option (Nat × Nat)) (x4 : Int32) (h : am_H) : am_R := f_L_law_2795 rc23 (1, 0) x1 x2 x3 x4 h
theorem t_L_law_2126 (d : Nat) (hd : 10 ≤ d) (rc23 : Nat × Nat → Option (Nat × Nat) → Option (Nat × Nat) → Option (Nat × Nat) → Int32 → am_H → am_R) (hrc23 : ∀ x1 x2 x3 x4 h, Sim m_L_law d 23 [some (.inr (.inr (some (1, 0)))), some (.inr (.inr x1)), some (.inr (.inr x2)), some (.inr (.inr x3)), some (.inl x4), none, none] [] h (rc23 (1, 0) x1 x2 x3 x4 h)) (x1 : Option (Nat × Nat)) (x2 : Option (Nat × Nat)) (x3 : Option (Nat × Nat)) (x4 : Int32) (h : am_H) : Sim m_L_law d 2126 [some (.inr (.inr (some (1, 0)))), some (.inr (.inr x1)), some (.inr (.inr x2)), some (.inr (.inr x3)), some (.inl x4), none, none] [] h (f_L_law_2126 rc23 (1, 0) x1 x2 x3 x4 h) := by
  unfold f_L_law_2126
  refine sim_goto 2795 dL_law_2126 (by decide) ?_
  exact sim_lv (am_leS (am_leS (am_leS (am_leS (am_leS (am_leN (am_leN am_leT))))))) (t_L_law_2795 d (by omega) _ hrc23 _ _ _ _ _ _)
def f_L_law_2070 (rc23 : Nat × Nat → Option (Nat × Nat) → Option (Nat × Nat) → Option (Nat × Nat) → Int32 → am_H → am_R) (_ : Nat × Nat) (x1 : Option (Nat × Nat)) (x2 : Option (Nat × Nat)) (x3 : Option (Nat × Nat)) (x4 : Int32) (h : am_H) : am_R := f_L_law_2795 rc23 (1, 0) x1 x2 x3 x4 h
theorem t_L_law_2070 (d : Nat) (hd : 10 ≤ d) (rc23 : Nat × Nat → Option (Nat × Nat) → Option (Nat × Nat) → Option (Nat × Nat) → Int32 → am_H → am_R) (hrc23 : ∀ x1 x2 x3 x4 h, Sim m_L_law d 23 [some (.inr (.inr (some (1, 0)))), some (.inr (.inr x1)), some (.inr (.inr x2)), some (.inr (.inr x3)), some (.inl x4), none, none] [] h (rc23 (1, 0) x1 x2 x3 x4 h)) (x1 : Option (Nat × Nat)) (x2 : Option (Nat × Nat)) (x3 : Option (Nat × Nat)) (x4 : Int32) (h : am_H) : Sim m_L_law d 2070 [some (.inr (.inr (some (1, 0)))), some (.inr (.inr x1)), some (.inr (.inr x2)), some (.inr (.inr x3)), some (.inl x4), none, none] [] h (f_L_law_2070 rc23 (1, 0) x1 x2 x3 x4 h) := by
  unfold f_L_law_2070
  refine sim_goto 2795 dL_law_2070 (by decide) ?_
  exact sim_lv (am_leS (am_leS (am_leS (am_leS (am_leS (am_leN (am_leN am_leT))))))) (t_L_law_2795 d (by omega) _ hrc23 _ _ _ _ _ _)
def f_L_law_1978 (rc23 : Nat × Nat → Option (Nat × Nat) → Option (Nat × Nat) → Option (Nat × Nat) → Int32 → am_H → am_R) (_ : Nat × Nat) (x1 : Option (Nat × Nat)) (x2 : Option (Nat × Nat)) (x3 : Option (Nat × Nat)) (x4 : Int32) (h : am_H) : am_R := f_L_law_2795 rc23 (1, 0) x1 x2 x3 x4 h
theorem t_L_law_1978 (d : Nat) (hd : 10 ≤ d) (rc23 : Nat × Nat → Option (Nat × Nat) → Option (Nat × Nat) → Option (Nat × Nat) → Int32 → am_H → am_R) (hrc23 : ∀ x1 x2 x3 x4 h, Sim m_L_law d 23 [some (.inr (.inr (some (1, 0)))), some (.inr (.inr x1)), some (.inr (.inr x2)), some (.inr (.inr x3)), some (.inl x4), none, none] [] h (rc23 (1, 0) x1 x2 x3 x4 h)) (x1 : Option (Nat × Nat)) (x2 : Option (Nat × Nat)) (x3 : Option (Nat × Nat)) (x4 : Int32) (h : am_H) : Sim m_L_law d 1978 [some (.inr (.inr (some (1, 0)))), some (.inr (.inr x1)), some (.inr (.inr x2)), some (.inr (.inr x3)), some (.inl x4), none, none] [] h (f_L_law_1978 rc23 (1, 0) x1 x2 x3 x4 h) := by
  unfold f_L_law_1978
  refine sim_goto 2795 dL_law_1978 (by decide) ?_
  exact sim_lv (am_leS (am_leS (am_leS (am_leS (am_leS (am_leN (am_leN am_leT))))))) (t_L_law_2795 d (by omega) _ hrc23 _ _ _ _ _ _)
def f_L_law_1910 (rc23 : Nat × Nat → Option (Nat × Nat) → Option (Nat × Nat) → Option (Nat × Nat) → Int32 → am_H → am_R) (_ : Nat × Nat) (x1 : Option (Nat × Nat)) (x2 : Option (Nat × Nat)) (x3 : Option (Nat × Nat)) (x4 : Int32) (h : am_H) : am_R := f_L_law_2795 rc23 (1, 0) x1 x2 x3 x4 h
theorem t_L_law_1910 (d : Nat) (hd : 10 ≤ d) (rc23 : Nat × Nat → Option (Nat × Nat) → Option (Nat × Nat) → Option (Nat × Nat) → Int32 → am_H → am_R) (hrc23 : ∀ x1 x2 x3 x4 h, Sim m_L_law d 23 [some (.inr (.inr (some (1, 0)))), some (.inr (.inr x1)), some (.inr (.inr x2)), some (.inr (.inr x3)), some (.inl x4), none, none] [] h (rc23 (1, 0) x1 x2 x3 x4 h)) (x1 : Option (Nat × Nat)) (x2 : Option (Nat × Nat)) (x3 : Option (Nat × Nat)) (x4 : Int32) (h : am_H) : Sim m_L_law d 1910 [some (.inr (.inr (some (1, 0)))), some (.inr (.inr x1)), some (.inr (.inr x2)), some (.inr (.inr x3)), some (.inl x4), none, none] [] h (f_L_law_1910 rc23 (1, 0) x1 x2 x3 x4 h) := by
  unfold f_L_law_1910
  refine sim_goto 2795 dL_law_1910 (by decide) ?_
  exact sim_lv (am_leS (am_leS (am_leS (am_leS (am_leS (am_leN (am_leN am_leT))))))) (t_L_law_2795 d (by omega) _ hrc23 _ _ _ _ _ _)
def f_L_law_1877 (rc23 : Nat × Nat → Option (Nat × Nat) → Option (Nat × Nat) → Option (Nat × Nat) → Int32 → am_H → am_R) (_ : Nat × Nat) (x1 : Option (Nat × Nat)) (x2 : Option (Nat × Nat)) (x3 : Option (Nat × Nat)) (x4 : Int32) (x5 : Int32) (s0 : Int32) (s1 : Int32) (s2 : Option (Nat × Nat)) (h : am_H) : am_R := m_ao s2 11 fun a422 => m_bI (f_X11_search a422 s1 s0 h) fun h420 v421 => m_ao x2 11 fun a425 => m_bI (f_X11_thrown a425 h420) fun h423 v424 => if v424 = x5 then (if x5 = 0 then (m_aL x3 (0 : Int32) h423 fun v426 => if (lg_cmp v426 (Int32.toInt64 v421)) = 0 then (f_L_law_1910 rc23 (1, 0) x1 x2 x3 x4 h423) else (m_rz h423 (0 : Int32))) else (f_L_law_1910 rc23 (1, 0) x1 x2 x3 x4 h423)) else (m_rz h423 (0 : Int32))
theorem t_L_law_1877 (d : Nat) (hd : 10 ≤ d) (rc23 : Nat × Nat → Option (Nat × Nat) → Option (Nat × Nat) → Option (Nat × Nat) → Int32 → am_H → am_R) (hrc23 : ∀ x1 x2 x3 x4 h, Sim m_L_law d 23 [some (.inr (.inr (some (1, 0)))), some (.inr (.inr x1)), some (.inr (.inr x2)), some (.inr (.inr x3)), some (.inl x4), none, none] [] h (rc23 (1, 0) x1 x2 x3 x4 h)) (x1 : Option (Nat × Nat)) (x2 : Option (Nat × Nat)) (x3 : Option (Nat × Nat)) (x4 : Int32) (x5 : Int32) (s0 : Int32) (s1 : Int32) (s2 : Option (Nat × Nat)) (h : am_H) : Sim m_L_law d 1877 [some (.inr (.inr (some (1, 0)))), some (.inr (.inr x1)), some (.inr (.inr x2)), some (.inr (.inr x3)), some (.inl x4), some (.inl x5), none] [.inl s0, .inl s1, .inr (.inr s2)] h (f_L_law_1877 rc23 (1, 0) x1 x2 x3 x4 x5 s0 s1 s2 h) := by
  unfold f_L_law_1877
  refine sim_ao2 (fun a422 e => ?_)
  refine sim_virt (d - 1) e dL_law_1877 (k_X11_search (d - 1) (by omega) _ _ _ _) q_X11_search rfl rfl wm_RL_230 rfl rfl (by omega) (Nat.le_of_ble_eq_true rfl) am_nI (am_rI fun h420 v421 => ?_) am_eI
  refine sim_istore dL_law_1880 (Nat.le_of_ble_eq_true rfl) ?_
  refine sim_aload_n dL_law_1882 rfl ?_
  refine sim_ao0 (fun a425 e => ?_)
  refine sim_virt (d - 1) e dL_law_1883 (k_X11_thrown (d - 1) (by omega) _  _) q_X11_thrown rfl rfl wm_RL_142 rfl rfl (by omega) (Nat.le_of_ble_eq_true rfl) am_nI (am_rI fun h423 v424 => ?_) am_eI
  refine sim_iload dL_law_1886 rfl ?_
  refine sim_ic_eq 1893 dL_law_1888 (by decide) (fun c => ?_) (fun c => ?_)
  · refine sim_iload dL_law_1893 rfl ?_
    refine sim_if_ne 1910 dL_law_1895 (by decide) (fun c => ?_) (fun c => ?_)
    · exact sim_lv (am_leS (am_leS (am_leS (am_leS (am_leS (am_leN (am_leN am_leT))))))) (t_L_law_1910 d (by omega) _ hrc23 _ _ _ _ _ _)
    · refine sim_aload_n dL_law_1898 rfl ?_
      refine sim_iconst (0) dL_law_1899 (by decide +kernel) ?_
      refine sim_aL dL_law_1900 (fun v426 => ?_)
      refine sim_iload dL_law_1901 rfl ?_
      refine sim_i2l dL_law_1903 ?_
      refine sim_lcmp dL_law_1904 ?_
      refine sim_if_eq 1910 dL_law_1905 (by decide) (fun c => ?_) (fun c => ?_)
      · exact sim_lv (am_leS (am_leS (am_leS (am_leS (am_leS (am_leN (am_leN am_leT))))))) (t_L_law_1910 d (by omega) _ hrc23 _ _ _ _ _ _)
      · refine sim_iconst (0) dL_law_1908 (by decide +kernel) ?_
        exact sim_zret dL_law_1909 rfl
  · refine sim_iconst (0) dL_law_1891 (by decide +kernel) ?_
    exact sim_zret dL_law_1892 rfl
def f_L_law_1850 (rc23 : Nat × Nat → Option (Nat × Nat) → Option (Nat × Nat) → Option (Nat × Nat) → Int32 → am_H → am_R) (_ : Nat × Nat) (x1 : Option (Nat × Nat)) (x2 : Option (Nat × Nat)) (x3 : Option (Nat × Nat)) (x4 : Int32) (s0 : Int32) (s1 : Int32) (s2 : Option (Nat × Nat)) (h : am_H) : am_R := m_bI (f_L_search s2 s1 s0 x3 h) fun h416 v417 => m_scr (x4 + (1 : Int32)) h416 fun v418 => m_scr (x4 + (2 : Int32)) h416 fun v419 => if v419 = 0 then (f_L_law_1877 rc23 (1, 0) x1 x2 x3 x4 v417 (0 : Int32) v418 x2 h416) else (f_L_law_1877 rc23 (1, 0) x1 x2 x3 x4 v417 (1 : Int32) v418 x2 h416)
theorem t_L_law_1850 (d : Nat) (hd : 10 ≤ d) (rc23 : Nat × Nat → Option (Nat × Nat) → Option (Nat × Nat) → Option (Nat × Nat) → Int32 → am_H → am_R) (hrc23 : ∀ x1 x2 x3 x4 h, Sim m_L_law d 23 [some (.inr (.inr (some (1, 0)))), some (.inr (.inr x1)), some (.inr (.inr x2)), some (.inr (.inr x3)), some (.inl x4), none, none] [] h (rc23 (1, 0) x1 x2 x3 x4 h)) (x1 : Option (Nat × Nat)) (x2 : Option (Nat × Nat)) (x3 : Option (Nat × Nat)) (x4 : Int32) (s0 : Int32) (s1 : Int32) (s2 : Option (Nat × Nat)) (h : am_H) : Sim m_L_law d 1850 [some (.inr (.inr (some (1, 0)))), some (.inr (.inr x1)), some (.inr (.inr x2)), some (.inr (.inr x3)), some (.inl x4), none, none] [.inl s0, .inl s1, .inr (.inr s2)] h (f_L_law_1850 rc23 (1, 0) x1 x2 x3 x4 s0 s1 s2 h) := by
  unfold f_L_law_1850
  refine sim_aload_n dL_law_1850 rfl ?_
  refine sim_staticX (d - 1) dL_law_1851 (k_L_search (d - 1) (by omega) _ _ _ _ _) q_L_search wm_RL_228 rfl rfl (by omega) (Nat.le_of_ble_eq_true rfl) am_nI (am_rI fun h416 v417 => ?_) am_eI
  refine sim_istore dL_law_1854 (Nat.le_of_ble_eq_true rfl) ?_
  refine sim_aload_n dL_law_1856 rfl ?_
  refine sim_aload_n dL_law_1857 rfl ?_
  refine sim_iload dL_law_1858 rfl ?_
  refine sim_iconst (1) dL_law_1860 (by decide +kernel) ?_
  refine sim_iadd dL_law_1861 ?_
  refine sim_scr dL_law_1862 (fun v418 => ?_)
  refine sim_aload_n dL_law_1863 rfl ?_
  refine sim_iload dL_law_1864 rfl ?_
  refine sim_iconst (2) dL_law_1866 (by decide +kernel) ?_
  refine sim_iadd dL_law_1867 ?_
  refine sim_scr dL_law_1868 (fun v419 => ?_)
  refine sim_if_eq 1876 dL_law_1869 (by decide) (fun c => ?_) (fun c => ?_)
  · refine sim_iconst (0) dL_law_1876 (by decide +kernel) ?_
    exact sim_lv (am_leS (am_leS (am_leS (am_leS (am_leS (am_leS (am_leN am_leT))))))) (t_L_law_1877 d (by omega) _ hrc23 _ _ _ _ _ _ _ _ _ _)
  · refine sim_iconst (1) dL_law_1872 (by decide +kernel) ?_
    refine sim_goto 1877 dL_law_1873 (by decide) ?_
    exact sim_lv (am_leS (am_leS (am_leS (am_leS (am_leS (am_leS (am_leN am_leT))))))) (t_L_law_1877 d (by omega) _ hrc23 _ _ _ _ _ _ _ _ _ _)
def f_L_law_1800 (rc23 : Nat × Nat → Option (Nat × Nat) → Option (Nat × Nat) → Option (Nat × Nat) → Int32 → am_H → am_R) (_ : Nat × Nat) (x1 : Option (Nat × Nat)) (x2 : Option (Nat × Nat)) (x3 : Option (Nat × Nat)) (x4 : Int32) (h : am_H) : am_R := f_L_law_2795 rc23 (1, 0) x1 x2 x3 x4 h
theorem t_L_law_1800 (d : Nat) (hd : 10 ≤ d) (rc23 : Nat × Nat → Option (Nat × Nat) → Option (Nat × Nat) → Option (Nat × Nat) → Int32 → am_H → am_R) (hrc23 : ∀ x1 x2 x3 x4 h, Sim m_L_law d 23 [some (.inr (.inr (some (1, 0)))), some (.inr (.inr x1)), some (.inr (.inr x2)), some (.inr (.inr x3)), some (.inl x4), none, none] [] h (rc23 (1, 0) x1 x2 x3 x4 h)) (x1 : Option (Nat × Nat)) (x2 : Option (Nat × Nat)) (x3 : Option (Nat × Nat)) (x4 : Int32) (h : am_H) : Sim m_L_law d 1800 [some (.inr (.inr (some (1, 0)))), some (.inr (.inr x1)), some (.inr (.inr x2)), some (.inr (.inr x3)), some (.inl x4), none, none] [] h (f_L_law_1800 rc23 (1, 0) x1 x2 x3 x4 h) := by
  unfold f_L_law_1800
  refine sim_goto 2795 dL_law_1800 (by decide) ?_
  exact sim_lv (am_leS (am_leS (am_leS (am_leS (am_leS (am_leN (am_leN am_leT))))))) (t_L_law_2795 d (by omega) _ hrc23 _ _ _ _ _ _)
def f_L_law_1700 (rc23 : Nat × Nat → Option (Nat × Nat) → Option (Nat × Nat) → Option (Nat × Nat) → Int32 → am_H → am_R) (_ : Nat × Nat) (x1 : Option (Nat × Nat)) (x2 : Option (Nat × Nat)) (x3 : Option (Nat × Nat)) (x4 : Int32) (h : am_H) : am_R := f_L_law_2795 rc23 (1, 0) x1 x2 x3 x4 h
theorem t_L_law_1700 (d : Nat) (hd : 10 ≤ d) (rc23 : Nat × Nat → Option (Nat × Nat) → Option (Nat × Nat) → Option (Nat × Nat) → Int32 → am_H → am_R) (hrc23 : ∀ x1 x2 x3 x4 h, Sim m_L_law d 23 [some (.inr (.inr (some (1, 0)))), some (.inr (.inr x1)), some (.inr (.inr x2)), some (.inr (.inr x3)), some (.inl x4), none, none] [] h (rc23 (1, 0) x1 x2 x3 x4 h)) (x1 : Option (Nat × Nat)) (x2 : Option (Nat × Nat)) (x3 : Option (Nat × Nat)) (x4 : Int32) (h : am_H) : Sim m_L_law d 1700 [some (.inr (.inr (some (1, 0)))), some (.inr (.inr x1)), some (.inr (.inr x2)), some (.inr (.inr x3)), some (.inl x4), none, none] [] h (f_L_law_1700 rc23 (1, 0) x1 x2 x3 x4 h) := by
  unfold f_L_law_1700
  refine sim_goto 2795 dL_law_1700 (by decide) ?_
  exact sim_lv (am_leS (am_leS (am_leS (am_leS (am_leS (am_leN (am_leN am_leT))))))) (t_L_law_2795 d (by omega) _ hrc23 _ _ _ _ _ _)
def f_L_law_1667 (rc23 : Nat × Nat → Option (Nat × Nat) → Option (Nat × Nat) → Option (Nat × Nat) → Int32 → am_H → am_R) (_ : Nat × Nat) (x1 : Option (Nat × Nat)) (x2 : Option (Nat × Nat)) (x3 : Option (Nat × Nat)) (x4 : Int32) (x5 : Int32) (s0 : Int32) (s1 : Int32) (s2 : Option (Nat × Nat)) (h : am_H) : am_R := m_ao s2 11 fun a433 => m_bI (f_X11_under a433 s1 s0 h) fun h431 v432 => m_ao x2 11 fun a436 => m_bI (f_X11_thrown a436 h431) fun h434 v435 => if v435 = x5 then (if x5 = 0 then (m_aL x3 (0 : Int32) h434 fun v437 => if (lg_cmp v437 (Int32.toInt64 v432)) = 0 then (f_L_law_1700 rc23 (1, 0) x1 x2 x3 x4 h434) else (m_rz h434 (0 : Int32))) else (f_L_law_1700 rc23 (1, 0) x1 x2 x3 x4 h434)) else (m_rz h434 (0 : Int32))
theorem t_L_law_1667 (d : Nat) (hd : 10 ≤ d) (rc23 : Nat × Nat → Option (Nat × Nat) → Option (Nat × Nat) → Option (Nat × Nat) → Int32 → am_H → am_R) (hrc23 : ∀ x1 x2 x3 x4 h, Sim m_L_law d 23 [some (.inr (.inr (some (1, 0)))), some (.inr (.inr x1)), some (.inr (.inr x2)), some (.inr (.inr x3)), some (.inl x4), none, none] [] h (rc23 (1, 0) x1 x2 x3 x4 h)) (x1 : Option (Nat × Nat)) (x2 : Option (Nat × Nat)) (x3 : Option (Nat × Nat)) (x4 : Int32) (x5 : Int32) (s0 : Int32) (s1 : Int32) (s2 : Option (Nat × Nat)) (h : am_H) : Sim m_L_law d 1667 [some (.inr (.inr (some (1, 0)))), some (.inr (.inr x1)), some (.inr (.inr x2)), some (.inr (.inr x3)), some (.inl x4), some (.inl x5), none] [.inl s0, .inl s1, .inr (.inr s2)] h (f_L_law_1667 rc23 (1, 0) x1 x2 x3 x4 x5 s0 s1 s2 h) := by
  unfold f_L_law_1667
  refine sim_ao2 (fun a433 e => ?_)
  refine sim_virt (d - 1) e dL_law_1667 (k_X11_under (d - 1) (by omega) _ _ _ _) q_X11_under rfl rfl wm_RL_213 rfl rfl (by omega) (Nat.le_of_ble_eq_true rfl) am_nI (am_rI fun h431 v432 => ?_) am_eI
  refine sim_istore dL_law_1670 (Nat.le_of_ble_eq_true rfl) ?_
  refine sim_aload_n dL_law_1672 rfl ?_
  refine sim_ao0 (fun a436 e => ?_)
  refine sim_virt (d - 1) e dL_law_1673 (k_X11_thrown (d - 1) (by omega) _  _) q_X11_thrown rfl rfl wm_RL_142 rfl rfl (by omega) (Nat.le_of_ble_eq_true rfl) am_nI (am_rI fun h434 v435 => ?_) am_eI
  refine sim_iload dL_law_1676 rfl ?_
  refine sim_ic_eq 1683 dL_law_1678 (by decide) (fun c => ?_) (fun c => ?_)
  · refine sim_iload dL_law_1683 rfl ?_
    refine sim_if_ne 1700 dL_law_1685 (by decide) (fun c => ?_) (fun c => ?_)
    · exact sim_lv (am_leS (am_leS (am_leS (am_leS (am_leS (am_leN (am_leN am_leT))))))) (t_L_law_1700 d (by omega) _ hrc23 _ _ _ _ _ _)
    · refine sim_aload_n dL_law_1688 rfl ?_
      refine sim_iconst (0) dL_law_1689 (by decide +kernel) ?_
      refine sim_aL dL_law_1690 (fun v437 => ?_)
      refine sim_iload dL_law_1691 rfl ?_
      refine sim_i2l dL_law_1693 ?_
      refine sim_lcmp dL_law_1694 ?_
      refine sim_if_eq 1700 dL_law_1695 (by decide) (fun c => ?_) (fun c => ?_)
      · exact sim_lv (am_leS (am_leS (am_leS (am_leS (am_leS (am_leN (am_leN am_leT))))))) (t_L_law_1700 d (by omega) _ hrc23 _ _ _ _ _ _)
      · refine sim_iconst (0) dL_law_1698 (by decide +kernel) ?_
        exact sim_zret dL_law_1699 rfl
  · refine sim_iconst (0) dL_law_1681 (by decide +kernel) ?_
    exact sim_zret dL_law_1682 rfl
def f_L_law_1640 (rc23 : Nat × Nat → Option (Nat × Nat) → Option (Nat × Nat) → Option (Nat × Nat) → Int32 → am_H → am_R) (_ : Nat × Nat) (x1 : Option (Nat × Nat)) (x2 : Option (Nat × Nat)) (x3 : Option (Nat × Nat)) (x4 : Int32) (s0 : Int32) (s1 : Int32) (s2 : Option (Nat × Nat)) (h : am_H) : am_R := m_bI (f_L_under s2 s1 s0 x3 h) fun h427 v428 => m_scr (x4 + (1 : Int32)) h427 fun v429 => m_scr (x4 + (2 : Int32)) h427 fun v430 => if v430 = 0 then (f_L_law_1667 rc23 (1, 0) x1 x2 x3 x4 v428 (0 : Int32) v429 x2 h427) else (f_L_law_1667 rc23 (1, 0) x1 x2 x3 x4 v428 (1 : Int32) v429 x2 h427)
theorem t_L_law_1640 (d : Nat) (hd : 10 ≤ d) (rc23 : Nat × Nat → Option (Nat × Nat) → Option (Nat × Nat) → Option (Nat × Nat) → Int32 → am_H → am_R) (hrc23 : ∀ x1 x2 x3 x4 h, Sim m_L_law d 23 [some (.inr (.inr (some (1, 0)))), some (.inr (.inr x1)), some (.inr (.inr x2)), some (.inr (.inr x3)), some (.inl x4), none, none] [] h (rc23 (1, 0) x1 x2 x3 x4 h)) (x1 : Option (Nat × Nat)) (x2 : Option (Nat × Nat)) (x3 : Option (Nat × Nat)) (x4 : Int32) (s0 : Int32) (s1 : Int32) (s2 : Option (Nat × Nat)) (h : am_H) : Sim m_L_law d 1640 [some (.inr (.inr (some (1, 0)))), some (.inr (.inr x1)), some (.inr (.inr x2)), some (.inr (.inr x3)), some (.inl x4), none, none] [.inl s0, .inl s1, .inr (.inr s2)] h (f_L_law_1640 rc23 (1, 0) x1 x2 x3 x4 s0 s1 s2 h) := by
  unfold f_L_law_1640
  refine sim_aload_n dL_law_1640 rfl ?_
  refine sim_staticX (d - 1) dL_law_1641 (k_L_under (d - 1) (by omega) _ _ _ _ _) q_L_under wm_RL_211 rfl rfl (by omega) (Nat.le_of_ble_eq_true rfl) am_nI (am_rI fun h427 v428 => ?_) am_eI
  refine sim_istore dL_law_1644 (Nat.le_of_ble_eq_true rfl) ?_
  refine sim_aload_n dL_law_1646 rfl ?_
  refine sim_aload_n dL_law_1647 rfl ?_
  refine sim_iload dL_law_1648 rfl ?_
  refine sim_iconst (1) dL_law_1650 (by decide +kernel) ?_
  refine sim_iadd dL_law_1651 ?_
  refine sim_scr dL_law_1652 (fun v429 => ?_)
  refine sim_aload_n dL_law_1653 rfl ?_
  refine sim_iload dL_law_1654 rfl ?_
  refine sim_iconst (2) dL_law_1656 (by decide +kernel) ?_
  refine sim_iadd dL_law_1657 ?_
  refine sim_scr dL_law_1658 (fun v430 => ?_)
  refine sim_if_eq 1666 dL_law_1659 (by decide) (fun c => ?_) (fun c => ?_)
  · refine sim_iconst (0) dL_law_1666 (by decide +kernel) ?_
    exact sim_lv (am_leS (am_leS (am_leS (am_leS (am_leS (am_leS (am_leN am_leT))))))) (t_L_law_1667 d (by omega) _ hrc23 _ _ _ _ _ _ _ _ _ _)
  · refine sim_iconst (1) dL_law_1662 (by decide +kernel) ?_
    refine sim_goto 1667 dL_law_1663 (by decide) ?_
    exact sim_lv (am_leS (am_leS (am_leS (am_leS (am_leS (am_leS (am_leN am_leT))))))) (t_L_law_1667 d (by omega) _ hrc23 _ _ _ _ _ _ _ _ _ _)
def f_L_law_1603 (rc23 : Nat × Nat → Option (Nat × Nat) → Option (Nat × Nat) → Option (Nat × Nat) → Int32 → am_H → am_R) (_ : Nat × Nat) (x1 : Option (Nat × Nat)) (x2 : Option (Nat × Nat)) (x3 : Option (Nat × Nat)) (x4 : Int32) (h : am_H) : am_R := f_L_law_2795 rc23 (1, 0) x1 x2 x3 x4 h
theorem t_L_law_1603 (d : Nat) (hd : 10 ≤ d) (rc23 : Nat × Nat → Option (Nat × Nat) → Option (Nat × Nat) → Option (Nat × Nat) → Int32 → am_H → am_R) (hrc23 : ∀ x1 x2 x3 x4 h, Sim m_L_law d 23 [some (.inr (.inr (some (1, 0)))), some (.inr (.inr x1)), some (.inr (.inr x2)), some (.inr (.inr x3)), some (.inl x4), none, none] [] h (rc23 (1, 0) x1 x2 x3 x4 h)) (x1 : Option (Nat × Nat)) (x2 : Option (Nat × Nat)) (x3 : Option (Nat × Nat)) (x4 : Int32) (h : am_H) : Sim m_L_law d 1603 [some (.inr (.inr (some (1, 0)))), some (.inr (.inr x1)), some (.inr (.inr x2)), some (.inr (.inr x3)), some (.inl x4), none, none] [] h (f_L_law_1603 rc23 (1, 0) x1 x2 x3 x4 h) := by
  unfold f_L_law_1603
  refine sim_goto 2795 dL_law_1603 (by decide) ?_
  exact sim_lv (am_leS (am_leS (am_leS (am_leS (am_leS (am_leN (am_leN am_leT))))))) (t_L_law_2795 d (by omega) _ hrc23 _ _ _ _ _ _)
def f_L_law_1547 (rc23 : Nat × Nat → Option (Nat × Nat) → Option (Nat × Nat) → Option (Nat × Nat) → Int32 → am_H → am_R) (_ : Nat × Nat) (x1 : Option (Nat × Nat)) (x2 : Option (Nat × Nat)) (x3 : Option (Nat × Nat)) (x4 : Int32) (h : am_H) : am_R := f_L_law_2795 rc23 (1, 0) x1 x2 x3 x4 h
theorem t_L_law_1547 (d : Nat) (hd : 10 ≤ d) (rc23 : Nat × Nat → Option (Nat × Nat) → Option (Nat × Nat) → Option (Nat × Nat) → Int32 → am_H → am_R) (hrc23 : ∀ x1 x2 x3 x4 h, Sim m_L_law d 23 [some (.inr (.inr (some (1, 0)))), some (.inr (.inr x1)), some (.inr (.inr x2)), some (.inr (.inr x3)), some (.inl x4), none, none] [] h (rc23 (1, 0) x1 x2 x3 x4 h)) (x1 : Option (Nat × Nat)) (x2 : Option (Nat × Nat)) (x3 : Option (Nat × Nat)) (x4 : Int32) (h : am_H) : Sim m_L_law d 1547 [some (.inr (.inr (some (1, 0)))), some (.inr (.inr x1)), some (.inr (.inr x2)), some (.inr (.inr x3)), some (.inl x4), none, none] [] h (f_L_law_1547 rc23 (1, 0) x1 x2 x3 x4 h) := by
  unfold f_L_law_1547
  refine sim_goto 2795 dL_law_1547 (by decide) ?_
  exact sim_lv (am_leS (am_leS (am_leS (am_leS (am_leS (am_leN (am_leN am_leT))))))) (t_L_law_2795 d (by omega) _ hrc23 _ _ _ _ _ _)
def f_L_law_1541 (rc23 : Nat × Nat → Option (Nat × Nat) → Option (Nat × Nat) → Option (Nat × Nat) → Int32 → am_H → am_R) (_ : Nat × Nat) (x1 : Option (Nat × Nat)) (x2 : Option (Nat × Nat)) (x3 : Option (Nat × Nat)) (x4 : Int32) (s0 : Int64) (s1 : Int64) (h : am_H) : am_R := if (lg_cmp s1 s0) = 0 then (f_L_law_1547 rc23 (1, 0) x1 x2 x3 x4 h) else (m_rz h (0 : Int32))
theorem t_L_law_1541 (d : Nat) (hd : 10 ≤ d) (rc23 : Nat × Nat → Option (Nat × Nat) → Option (Nat × Nat) → Option (Nat × Nat) → Int32 → am_H → am_R) (hrc23 : ∀ x1 x2 x3 x4 h, Sim m_L_law d 23 [some (.inr (.inr (some (1, 0)))), some (.inr (.inr x1)), some (.inr (.inr x2)), some (.inr (.inr x3)), some (.inl x4), none, none] [] h (rc23 (1, 0) x1 x2 x3 x4 h)) (x1 : Option (Nat × Nat)) (x2 : Option (Nat × Nat)) (x3 : Option (Nat × Nat)) (x4 : Int32) (s0 : Int64) (s1 : Int64) (h : am_H) : Sim m_L_law d 1541 [some (.inr (.inr (some (1, 0)))), some (.inr (.inr x1)), some (.inr (.inr x2)), some (.inr (.inr x3)), some (.inl x4), none, none] [.inr (.inl s0), .inr (.inl s1)] h (f_L_law_1541 rc23 (1, 0) x1 x2 x3 x4 s0 s1 h) := by
  unfold f_L_law_1541
  refine sim_lcmp dL_law_1541 ?_
  refine sim_if_eq 1547 dL_law_1542 (by decide) (fun c => ?_) (fun c => ?_)
  · exact sim_lv (am_leS (am_leS (am_leS (am_leS (am_leS (am_leN (am_leN am_leT))))))) (t_L_law_1547 d (by omega) _ hrc23 _ _ _ _ _ _)
  · refine sim_iconst (0) dL_law_1545 (by decide +kernel) ?_
    exact sim_zret dL_law_1546 rfl
def f_L_law_1507 (rc23 : Nat × Nat → Option (Nat × Nat) → Option (Nat × Nat) → Option (Nat × Nat) → Int32 → am_H → am_R) (_ : Nat × Nat) (x1 : Option (Nat × Nat)) (x2 : Option (Nat × Nat)) (x3 : Option (Nat × Nat)) (x4 : Int32) (x5 : Int32) (s0 : Int32) (s1 : Int32) (s2 : Int32) (s3 : Option (Nat × Nat)) (h : am_H) : am_R := m_ao s3 11 fun a445 => m_bI (f_X11_put a445 s2 s1 s0 h) fun h443 v444 => m_ao x2 11 fun a448 => m_bI (f_X11_thrown a448 h443) fun h446 v447 => if v447 = x5 then (if x5 = 0 then (m_aL x3 (0 : Int32) h446 fun v449 => if v444 = 0 then (f_L_law_1541 rc23 (1, 0) x1 x2 x3 x4 (0 : Int64) v449 h446) else (f_L_law_1541 rc23 (1, 0) x1 x2 x3 x4 (1 : Int64) v449 h446)) else (f_L_law_1547 rc23 (1, 0) x1 x2 x3 x4 h446)) else (m_rz h446 (0 : Int32))
theorem t_L_law_1507 (d : Nat) (hd : 10 ≤ d) (rc23 : Nat × Nat → Option (Nat × Nat) → Option (Nat × Nat) → Option (Nat × Nat) → Int32 → am_H → am_R) (hrc23 : ∀ x1 x2 x3 x4 h, Sim m_L_law d 23 [some (.inr (.inr (some (1, 0)))), some (.inr (.inr x1)), some (.inr (.inr x2)), some (.inr (.inr x3)), some (.inl x4), none, none] [] h (rc23 (1, 0) x1 x2 x3 x4 h)) (x1 : Option (Nat × Nat)) (x2 : Option (Nat × Nat)) (x3 : Option (Nat × Nat)) (x4 : Int32) (x5 : Int32) (s0 : Int32) (s1 : Int32) (s2 : Int32) (s3 : Option (Nat × Nat)) (h : am_H) : Sim m_L_law d 1507 [some (.inr (.inr (some (1, 0)))), some (.inr (.inr x1)), some (.inr (.inr x2)), some (.inr (.inr x3)), some (.inl x4), some (.inl x5), none] [.inl s0, .inl s1, .inl s2, .inr (.inr s3)] h (f_L_law_1507 rc23 (1, 0) x1 x2 x3 x4 x5 s0 s1 s2 s3 h) := by
  unfold f_L_law_1507
  refine sim_ao3 (fun a445 e => ?_)
  refine sim_virt (d - 1) e dL_law_1507 (k_X11_put (d - 1) (by omega) _ _ _ _ _) q_X11_put rfl rfl wm_RL_203 rfl rfl (by omega) (Nat.le_of_ble_eq_true rfl) am_nI (am_rI fun h443 v444 => ?_) am_eI
  refine sim_istore dL_law_1510 (Nat.le_of_ble_eq_true rfl) ?_
  refine sim_aload_n dL_law_1512 rfl ?_
  refine sim_ao0 (fun a448 e => ?_)
  refine sim_virt (d - 1) e dL_law_1513 (k_X11_thrown (d - 1) (by omega) _  _) q_X11_thrown rfl rfl wm_RL_142 rfl rfl (by omega) (Nat.le_of_ble_eq_true rfl) am_nI (am_rI fun h446 v447 => ?_) am_eI
  refine sim_iload dL_law_1516 rfl ?_
  refine sim_ic_eq 1523 dL_law_1518 (by decide) (fun c => ?_) (fun c => ?_)
  · refine sim_iload dL_law_1523 rfl ?_
    refine sim_if_ne 1547 dL_law_1525 (by decide) (fun c => ?_) (fun c => ?_)
    · exact sim_lv (am_leS (am_leS (am_leS (am_leS (am_leS (am_leN (am_leN am_leT))))))) (t_L_law_1547 d (by omega) _ hrc23 _ _ _ _ _ _)
    · refine sim_aload_n dL_law_1528 rfl ?_
      refine sim_iconst (0) dL_law_1529 (by decide +kernel) ?_
      refine sim_aL dL_law_1530 (fun v449 => ?_)
      refine sim_iload dL_law_1531 rfl ?_
      refine sim_if_eq 1540 dL_law_1533 (by decide) (fun c => ?_) (fun c => ?_)
      · refine sim_lconst (0) dL_law_1540 (by decide +kernel) ?_
        exact sim_lv (am_leS (am_leS (am_leS (am_leS (am_leS (am_leN (am_leN am_leT))))))) (t_L_law_1541 d (by omega) _ hrc23 _ _ _ _ _ _ _ _)
      · refine sim_lconst (1) dL_law_1536 (by decide +kernel) ?_
        refine sim_goto 1541 dL_law_1537 (by decide) ?_
        exact sim_lv (am_leS (am_leS (am_leS (am_leS (am_leS (am_leN (am_leN am_leT))))))) (t_L_law_1541 d (by omega) _ hrc23 _ _ _ _ _ _ _ _)
  · refine sim_iconst (0) dL_law_1521 (by decide +kernel) ?_
    exact sim_zret dL_law_1522 rfl
def f_L_law_1474 (rc23 : Nat × Nat → Option (Nat × Nat) → Option (Nat × Nat) → Option (Nat × Nat) → Int32 → am_H → am_R) (_ : Nat × Nat) (x1 : Option (Nat × Nat)) (x2 : Option (Nat × Nat)) (x3 : Option (Nat × Nat)) (x4 : Int32) (s0 : Int32) (s1 : Int32) (s2 : Int32) (s3 : Option (Nat × Nat)) (h : am_H) : am_R := m_bI (f_L_put s3 s2 s1 s0 x3 h) fun h438 v439 => m_scr (x4 + (1 : Int32)) h438 fun v440 => m_scr (x4 + (2 : Int32)) h438 fun v441 => m_scr (x4 + (3 : Int32)) h438 fun v442 => if v442 = 0 then (f_L_law_1507 rc23 (1, 0) x1 x2 x3 x4 v439 (0 : Int32) v441 v440 x2 h438) else (f_L_law_1507 rc23 (1, 0) x1 x2 x3 x4 v439 (1 : Int32) v441 v440 x2 h438)
theorem t_L_law_1474 (d : Nat) (hd : 10 ≤ d) (rc23 : Nat × Nat → Option (Nat × Nat) → Option (Nat × Nat) → Option (Nat × Nat) → Int32 → am_H → am_R) (hrc23 : ∀ x1 x2 x3 x4 h, Sim m_L_law d 23 [some (.inr (.inr (some (1, 0)))), some (.inr (.inr x1)), some (.inr (.inr x2)), some (.inr (.inr x3)), some (.inl x4), none, none] [] h (rc23 (1, 0) x1 x2 x3 x4 h)) (x1 : Option (Nat × Nat)) (x2 : Option (Nat × Nat)) (x3 : Option (Nat × Nat)) (x4 : Int32) (s0 : Int32) (s1 : Int32) (s2 : Int32) (s3 : Option (Nat × Nat)) (h : am_H) : Sim m_L_law d 1474 [some (.inr (.inr (some (1, 0)))), some (.inr (.inr x1)), some (.inr (.inr x2)), some (.inr (.inr x3)), some (.inl x4), none, none] [.inl s0, .inl s1, .inl s2, .inr (.inr s3)] h (f_L_law_1474 rc23 (1, 0) x1 x2 x3 x4 s0 s1 s2 s3 h) := by
  unfold f_L_law_1474
  refine sim_aload_n dL_law_1474 rfl ?_
  refine sim_staticX (d - 1) dL_law_1475 (k_L_put (d - 1) (by omega) _ _ _ _ _ _) q_L_put wm_RL_201 rfl rfl (by omega) (Nat.le_of_ble_eq_true rfl) am_nI (am_rI fun h438 v439 => ?_) am_eI
  refine sim_istore dL_law_1478 (Nat.le_of_ble_eq_true rfl) ?_
  refine sim_aload_n dL_law_1480 rfl ?_
  refine sim_aload_n dL_law_1481 rfl ?_
  refine sim_iload dL_law_1482 rfl ?_
  refine sim_iconst (1) dL_law_1484 (by decide +kernel) ?_
  refine sim_iadd dL_law_1485 ?_
  refine sim_scr dL_law_1486 (fun v440 => ?_)
  refine sim_aload_n dL_law_1487 rfl ?_
  refine sim_iload dL_law_1488 rfl ?_
  refine sim_iconst (2) dL_law_1490 (by decide +kernel) ?_
  refine sim_iadd dL_law_1491 ?_
  refine sim_scr dL_law_1492 (fun v441 => ?_)
  refine sim_aload_n dL_law_1493 rfl ?_
  refine sim_iload dL_law_1494 rfl ?_
  refine sim_iconst (3) dL_law_1496 (by decide +kernel) ?_
  refine sim_iadd dL_law_1497 ?_
  refine sim_scr dL_law_1498 (fun v442 => ?_)
  refine sim_if_eq 1506 dL_law_1499 (by decide) (fun c => ?_) (fun c => ?_)
  · refine sim_iconst (0) dL_law_1506 (by decide +kernel) ?_
    exact sim_lv (am_leS (am_leS (am_leS (am_leS (am_leS (am_leS (am_leN am_leT))))))) (t_L_law_1507 d (by omega) _ hrc23 _ _ _ _ _ _ _ _ _ _ _)
  · refine sim_iconst (1) dL_law_1502 (by decide +kernel) ?_
    refine sim_goto 1507 dL_law_1503 (by decide) ?_
    exact sim_lv (am_leS (am_leS (am_leS (am_leS (am_leS (am_leS (am_leN am_leT))))))) (t_L_law_1507 d (by omega) _ hrc23 _ _ _ _ _ _ _ _ _ _ _)
def f_L_law_1444 (rc23 : Nat × Nat → Option (Nat × Nat) → Option (Nat × Nat) → Option (Nat × Nat) → Int32 → am_H → am_R) (_ : Nat × Nat) (x1 : Option (Nat × Nat)) (x2 : Option (Nat × Nat)) (x3 : Option (Nat × Nat)) (x4 : Int32) (h : am_H) : am_R := f_L_law_2795 rc23 (1, 0) x1 x2 x3 x4 h
theorem t_L_law_1444 (d : Nat) (hd : 10 ≤ d) (rc23 : Nat × Nat → Option (Nat × Nat) → Option (Nat × Nat) → Option (Nat × Nat) → Int32 → am_H → am_R) (hrc23 : ∀ x1 x2 x3 x4 h, Sim m_L_law d 23 [some (.inr (.inr (some (1, 0)))), some (.inr (.inr x1)), some (.inr (.inr x2)), some (.inr (.inr x3)), some (.inl x4), none, none] [] h (rc23 (1, 0) x1 x2 x3 x4 h)) (x1 : Option (Nat × Nat)) (x2 : Option (Nat × Nat)) (x3 : Option (Nat × Nat)) (x4 : Int32) (h : am_H) : Sim m_L_law d 1444 [some (.inr (.inr (some (1, 0)))), some (.inr (.inr x1)), some (.inr (.inr x2)), some (.inr (.inr x3)), some (.inl x4), none, none] [] h (f_L_law_1444 rc23 (1, 0) x1 x2 x3 x4 h) := by
  unfold f_L_law_1444
  refine sim_goto 2795 dL_law_1444 (by decide) ?_
  exact sim_lv (am_leS (am_leS (am_leS (am_leS (am_leS (am_leN (am_leN am_leT))))))) (t_L_law_2795 d (by omega) _ hrc23 _ _ _ _ _ _)
def f_L_law_1376 (rc23 : Nat × Nat → Option (Nat × Nat) → Option (Nat × Nat) → Option (Nat × Nat) → Int32 → am_H → am_R) (_ : Nat × Nat) (x1 : Option (Nat × Nat)) (x2 : Option (Nat × Nat)) (x3 : Option (Nat × Nat)) (x4 : Int32) (h : am_H) : am_R := f_L_law_2795 rc23 (1, 0) x1 x2 x3 x4 h
theorem t_L_law_1376 (d : Nat) (hd : 10 ≤ d) (rc23 : Nat × Nat → Option (Nat × Nat) → Option (Nat × Nat) → Option (Nat × Nat) → Int32 → am_H → am_R) (hrc23 : ∀ x1 x2 x3 x4 h, Sim m_L_law d 23 [some (.inr (.inr (some (1, 0)))), some (.inr (.inr x1)), some (.inr (.inr x2)), some (.inr (.inr x3)), some (.inl x4), none, none] [] h (rc23 (1, 0) x1 x2 x3 x4 h)) (x1 : Option (Nat × Nat)) (x2 : Option (Nat × Nat)) (x3 : Option (Nat × Nat)) (x4 : Int32) (h : am_H) : Sim m_L_law d 1376 [some (.inr (.inr (some (1, 0)))), some (.inr (.inr x1)), some (.inr (.inr x2)), some (.inr (.inr x3)), some (.inl x4), none, none] [] h (f_L_law_1376 rc23 (1, 0) x1 x2 x3 x4 h) := by
  unfold f_L_law_1376
  refine sim_goto 2795 dL_law_1376 (by decide) ?_
  exact sim_lv (am_leS (am_leS (am_leS (am_leS (am_leS (am_leN (am_leN am_leT))))))) (t_L_law_2795 d (by omega) _ hrc23 _ _ _ _ _ _)
def f_L_law_1370 (rc23 : Nat × Nat → Option (Nat × Nat) → Option (Nat × Nat) → Option (Nat × Nat) → Int32 → am_H → am_R) (_ : Nat × Nat) (x1 : Option (Nat × Nat)) (x2 : Option (Nat × Nat)) (x3 : Option (Nat × Nat)) (x4 : Int32) (s0 : Int64) (s1 : Int64) (h : am_H) : am_R := if (lg_cmp s1 s0) = 0 then (f_L_law_1376 rc23 (1, 0) x1 x2 x3 x4 h) else (m_rz h (0 : Int32))
theorem t_L_law_1370 (d : Nat) (hd : 10 ≤ d) (rc23 : Nat × Nat → Option (Nat × Nat) → Option (Nat × Nat) → Option (Nat × Nat) → Int32 → am_H → am_R) (hrc23 : ∀ x1 x2 x3 x4 h, Sim m_L_law d 23 [some (.inr (.inr (some (1, 0)))), some (.inr (.inr x1)), some (.inr (.inr x2)), some (.inr (.inr x3)), some (.inl x4), none, none] [] h (rc23 (1, 0) x1 x2 x3 x4 h)) (x1 : Option (Nat × Nat)) (x2 : Option (Nat × Nat)) (x3 : Option (Nat × Nat)) (x4 : Int32) (s0 : Int64) (s1 : Int64) (h : am_H) : Sim m_L_law d 1370 [some (.inr (.inr (some (1, 0)))), some (.inr (.inr x1)), some (.inr (.inr x2)), some (.inr (.inr x3)), some (.inl x4), none, none] [.inr (.inl s0), .inr (.inl s1)] h (f_L_law_1370 rc23 (1, 0) x1 x2 x3 x4 s0 s1 h) := by
  unfold f_L_law_1370
  refine sim_lcmp dL_law_1370 ?_
  refine sim_if_eq 1376 dL_law_1371 (by decide) (fun c => ?_) (fun c => ?_)
  · exact sim_lv (am_leS (am_leS (am_leS (am_leS (am_leS (am_leN (am_leN am_leT))))))) (t_L_law_1376 d (by omega) _ hrc23 _ _ _ _ _ _)
  · refine sim_iconst (0) dL_law_1374 (by decide +kernel) ?_
    exact sim_zret dL_law_1375 rfl
def f_L_law_1336 (rc23 : Nat × Nat → Option (Nat × Nat) → Option (Nat × Nat) → Option (Nat × Nat) → Int32 → am_H → am_R) (_ : Nat × Nat) (x1 : Option (Nat × Nat)) (x2 : Option (Nat × Nat)) (x3 : Option (Nat × Nat)) (x4 : Int32) (x5 : Int32) (s0 : Int32) (s1 : Int32) (s2 : Int32) (s3 : Option (Nat × Nat)) (h : am_H) : am_R := m_ao s3 11 fun a457 => m_bI (f_X11_parent a457 s2 s1 s0 h) fun h455 v456 => m_ao x2 11 fun a460 => m_bI (f_X11_thrown a460 h455) fun h458 v459 => if v459 = x5 then (if x5 = 0 then (m_aL x3 (0 : Int32) h458 fun v461 => if v456 = 0 then (f_L_law_1370 rc23 (1, 0) x1 x2 x3 x4 (0 : Int64) v461 h458) else (f_L_law_1370 rc23 (1, 0) x1 x2 x3 x4 (1 : Int64) v461 h458)) else (f_L_law_1376 rc23 (1, 0) x1 x2 x3 x4 h458)) else (m_rz h458 (0 : Int32))
theorem t_L_law_1336 (d : Nat) (hd : 10 ≤ d) (rc23 : Nat × Nat → Option (Nat × Nat) → Option (Nat × Nat) → Option (Nat × Nat) → Int32 → am_H → am_R) (hrc23 : ∀ x1 x2 x3 x4 h, Sim m_L_law d 23 [some (.inr (.inr (some (1, 0)))), some (.inr (.inr x1)), some (.inr (.inr x2)), some (.inr (.inr x3)), some (.inl x4), none, none] [] h (rc23 (1, 0) x1 x2 x3 x4 h)) (x1 : Option (Nat × Nat)) (x2 : Option (Nat × Nat)) (x3 : Option (Nat × Nat)) (x4 : Int32) (x5 : Int32) (s0 : Int32) (s1 : Int32) (s2 : Int32) (s3 : Option (Nat × Nat)) (h : am_H) : Sim m_L_law d 1336 [some (.inr (.inr (some (1, 0)))), some (.inr (.inr x1)), some (.inr (.inr x2)), some (.inr (.inr x3)), some (.inl x4), some (.inl x5), none] [.inl s0, .inl s1, .inl s2, .inr (.inr s3)] h (f_L_law_1336 rc23 (1, 0) x1 x2 x3 x4 x5 s0 s1 s2 s3 h) := by
  unfold f_L_law_1336
  refine sim_ao3 (fun a457 e => ?_)
  refine sim_virt (d - 1) e dL_law_1336 (k_X11_parent (d - 1) (by omega) _ _ _ _ _) q_X11_parent rfl rfl wm_RL_197 rfl rfl (by omega) (Nat.le_of_ble_eq_true rfl) am_nI (am_rI fun h455 v456 => ?_) am_eI
  refine sim_istore dL_law_1339 (Nat.le_of_ble_eq_true rfl) ?_
  refine sim_aload_n dL_law_1341 rfl ?_
  refine sim_ao0 (fun a460 e => ?_)
  refine sim_virt (d - 1) e dL_law_1342 (k_X11_thrown (d - 1) (by omega) _  _) q_X11_thrown rfl rfl wm_RL_142 rfl rfl (by omega) (Nat.le_of_ble_eq_true rfl) am_nI (am_rI fun h458 v459 => ?_) am_eI
  refine sim_iload dL_law_1345 rfl ?_
  refine sim_ic_eq 1352 dL_law_1347 (by decide) (fun c => ?_) (fun c => ?_)
  · refine sim_iload dL_law_1352 rfl ?_
    refine sim_if_ne 1376 dL_law_1354 (by decide) (fun c => ?_) (fun c => ?_)
    · exact sim_lv (am_leS (am_leS (am_leS (am_leS (am_leS (am_leN (am_leN am_leT))))))) (t_L_law_1376 d (by omega) _ hrc23 _ _ _ _ _ _)
    · refine sim_aload_n dL_law_1357 rfl ?_
      refine sim_iconst (0) dL_law_1358 (by decide +kernel) ?_
      refine sim_aL dL_law_1359 (fun v461 => ?_)
      refine sim_iload dL_law_1360 rfl ?_
      refine sim_if_eq 1369 dL_law_1362 (by decide) (fun c => ?_) (fun c => ?_)
      · refine sim_lconst (0) dL_law_1369 (by decide +kernel) ?_
        exact sim_lv (am_leS (am_leS (am_leS (am_leS (am_leS (am_leN (am_leN am_leT))))))) (t_L_law_1370 d (by omega) _ hrc23 _ _ _ _ _ _ _ _)
      · refine sim_lconst (1) dL_law_1365 (by decide +kernel) ?_
        refine sim_goto 1370 dL_law_1366 (by decide) ?_
        exact sim_lv (am_leS (am_leS (am_leS (am_leS (am_leS (am_leN (am_leN am_leT))))))) (t_L_law_1370 d (by omega) _ hrc23 _ _ _ _ _ _ _ _)
  · refine sim_iconst (0) dL_law_1350 (by decide +kernel) ?_
    exact sim_zret dL_law_1351 rfl
def f_L_law_1303 (rc23 : Nat × Nat → Option (Nat × Nat) → Option (Nat × Nat) → Option (Nat × Nat) → Int32 → am_H → am_R) (_ : Nat × Nat) (x1 : Option (Nat × Nat)) (x2 : Option (Nat × Nat)) (x3 : Option (Nat × Nat)) (x4 : Int32) (s0 : Int32) (s1 : Int32) (s2 : Int32) (s3 : Option (Nat × Nat)) (h : am_H) : am_R := m_bI (f_L_parent s3 s2 s1 s0 x3 h) fun h450 v451 => m_scr (x4 + (1 : Int32)) h450 fun v452 => m_scr (x4 + (2 : Int32)) h450 fun v453 => m_scr (x4 + (3 : Int32)) h450 fun v454 => if v454 = 0 then (f_L_law_1336 rc23 (1, 0) x1 x2 x3 x4 v451 (0 : Int32) v453 v452 x2 h450) else (f_L_law_1336 rc23 (1, 0) x1 x2 x3 x4 v451 (1 : Int32) v453 v452 x2 h450)
theorem t_L_law_1303 (d : Nat) (hd : 10 ≤ d) (rc23 : Nat × Nat → Option (Nat × Nat) → Option (Nat × Nat) → Option (Nat × Nat) → Int32 → am_H → am_R) (hrc23 : ∀ x1 x2 x3 x4 h, Sim m_L_law d 23 [some (.inr (.inr (some (1, 0)))), some (.inr (.inr x1)), some (.inr (.inr x2)), some (.inr (.inr x3)), some (.inl x4), none, none] [] h (rc23 (1, 0) x1 x2 x3 x4 h)) (x1 : Option (Nat × Nat)) (x2 : Option (Nat × Nat)) (x3 : Option (Nat × Nat)) (x4 : Int32) (s0 : Int32) (s1 : Int32) (s2 : Int32) (s3 : Option (Nat × Nat)) (h : am_H) : Sim m_L_law d 1303 [some (.inr (.inr (some (1, 0)))), some (.inr (.inr x1)), some (.inr (.inr x2)), some (.inr (.inr x3)), some (.inl x4), none, none] [.inl s0, .inl s1, .inl s2, .inr (.inr s3)] h (f_L_law_1303 rc23 (1, 0) x1 x2 x3 x4 s0 s1 s2 s3 h) := by
  unfold f_L_law_1303
  refine sim_aload_n dL_law_1303 rfl ?_
  refine sim_staticX (d - 1) dL_law_1304 (k_L_parent (d - 1) (by omega) _ _ _ _ _ _) q_L_parent wm_RL_195 rfl rfl (by omega) (Nat.le_of_ble_eq_true rfl) am_nI (am_rI fun h450 v451 => ?_) am_eI
  refine sim_istore dL_law_1307 (Nat.le_of_ble_eq_true rfl) ?_
  refine sim_aload_n dL_law_1309 rfl ?_
  refine sim_aload_n dL_law_1310 rfl ?_
  refine sim_iload dL_law_1311 rfl ?_
  refine sim_iconst (1) dL_law_1313 (by decide +kernel) ?_
  refine sim_iadd dL_law_1314 ?_
  refine sim_scr dL_law_1315 (fun v452 => ?_)
  refine sim_aload_n dL_law_1316 rfl ?_
  refine sim_iload dL_law_1317 rfl ?_
  refine sim_iconst (2) dL_law_1319 (by decide +kernel) ?_
  refine sim_iadd dL_law_1320 ?_
  refine sim_scr dL_law_1321 (fun v453 => ?_)
  refine sim_aload_n dL_law_1322 rfl ?_
  refine sim_iload dL_law_1323 rfl ?_
  refine sim_iconst (3) dL_law_1325 (by decide +kernel) ?_
  refine sim_iadd dL_law_1326 ?_
  refine sim_scr dL_law_1327 (fun v454 => ?_)
  refine sim_if_eq 1335 dL_law_1328 (by decide) (fun c => ?_) (fun c => ?_)
  · refine sim_iconst (0) dL_law_1335 (by decide +kernel) ?_
    exact sim_lv (am_leS (am_leS (am_leS (am_leS (am_leS (am_leS (am_leN am_leT))))))) (t_L_law_1336 d (by omega) _ hrc23 _ _ _ _ _ _ _ _ _ _ _)
  · refine sim_iconst (1) dL_law_1331 (by decide +kernel) ?_
    refine sim_goto 1336 dL_law_1332 (by decide) ?_
    exact sim_lv (am_leS (am_leS (am_leS (am_leS (am_leS (am_leS (am_leN am_leT))))))) (t_L_law_1336 d (by omega) _ hrc23 _ _ _ _ _ _ _ _ _ _ _)
def f_L_law_1273 (rc23 : Nat × Nat → Option (Nat × Nat) → Option (Nat × Nat) → Option (Nat × Nat) → Int32 → am_H → am_R) (_ : Nat × Nat) (x1 : Option (Nat × Nat)) (x2 : Option (Nat × Nat)) (x3 : Option (Nat × Nat)) (x4 : Int32) (h : am_H) : am_R := f_L_law_2795 rc23 (1, 0) x1 x2 x3 x4 h
theorem t_L_law_1273 (d : Nat) (hd : 10 ≤ d) (rc23 : Nat × Nat → Option (Nat × Nat) → Option (Nat × Nat) → Option (Nat × Nat) → Int32 → am_H → am_R) (hrc23 : ∀ x1 x2 x3 x4 h, Sim m_L_law d 23 [some (.inr (.inr (some (1, 0)))), some (.inr (.inr x1)), some (.inr (.inr x2)), some (.inr (.inr x3)), some (.inl x4), none, none] [] h (rc23 (1, 0) x1 x2 x3 x4 h)) (x1 : Option (Nat × Nat)) (x2 : Option (Nat × Nat)) (x3 : Option (Nat × Nat)) (x4 : Int32) (h : am_H) : Sim m_L_law d 1273 [some (.inr (.inr (some (1, 0)))), some (.inr (.inr x1)), some (.inr (.inr x2)), some (.inr (.inr x3)), some (.inl x4), none, none] [] h (f_L_law_1273 rc23 (1, 0) x1 x2 x3 x4 h) := by
  unfold f_L_law_1273
  refine sim_goto 2795 dL_law_1273 (by decide) ?_
  exact sim_lv (am_leS (am_leS (am_leS (am_leS (am_leS (am_leN (am_leN am_leT))))))) (t_L_law_2795 d (by omega) _ hrc23 _ _ _ _ _ _)
def f_L_law_1205 (rc23 : Nat × Nat → Option (Nat × Nat) → Option (Nat × Nat) → Option (Nat × Nat) → Int32 → am_H → am_R) (_ : Nat × Nat) (x1 : Option (Nat × Nat)) (x2 : Option (Nat × Nat)) (x3 : Option (Nat × Nat)) (x4 : Int32) (h : am_H) : am_R := f_L_law_2795 rc23 (1, 0) x1 x2 x3 x4 h
theorem t_L_law_1205 (d : Nat) (hd : 10 ≤ d) (rc23 : Nat × Nat → Option (Nat × Nat) → Option (Nat × Nat) → Option (Nat × Nat) → Int32 → am_H → am_R) (hrc23 : ∀ x1 x2 x3 x4 h, Sim m_L_law d 23 [some (.inr (.inr (some (1, 0)))), some (.inr (.inr x1)), some (.inr (.inr x2)), some (.inr (.inr x3)), some (.inl x4), none, none] [] h (rc23 (1, 0) x1 x2 x3 x4 h)) (x1 : Option (Nat × Nat)) (x2 : Option (Nat × Nat)) (x3 : Option (Nat × Nat)) (x4 : Int32) (h : am_H) : Sim m_L_law d 1205 [some (.inr (.inr (some (1, 0)))), some (.inr (.inr x1)), some (.inr (.inr x2)), some (.inr (.inr x3)), some (.inl x4), none, none] [] h (f_L_law_1205 rc23 (1, 0) x1 x2 x3 x4 h) := by
  unfold f_L_law_1205
  refine sim_goto 2795 dL_law_1205 (by decide) ?_
  exact sim_lv (am_leS (am_leS (am_leS (am_leS (am_leS (am_leN (am_leN am_leT))))))) (t_L_law_2795 d (by omega) _ hrc23 _ _ _ _ _ _)
def f_L_law_1149 (rc23 : Nat × Nat → Option (Nat × Nat) → Option (Nat × Nat) → Option (Nat × Nat) → Int32 → am_H → am_R) (_ : Nat × Nat) (x1 : Option (Nat × Nat)) (x2 : Option (Nat × Nat)) (x3 : Option (Nat × Nat)) (x4 : Int32) (h : am_H) : am_R := f_L_law_2795 rc23 (1, 0) x1 x2 x3 x4 h
theorem t_L_law_1149 (d : Nat) (hd : 10 ≤ d) (rc23 : Nat × Nat → Option (Nat × Nat) → Option (Nat × Nat) → Option (Nat × Nat) → Int32 → am_H → am_R) (hrc23 : ∀ x1 x2 x3 x4 h, Sim m_L_law d 23 [some (.inr (.inr (some (1, 0)))), some (.inr (.inr x1)), some (.inr (.inr x2)), some (.inr (.inr x3)), some (.inl x4), none, none] [] h (rc23 (1, 0) x1 x2 x3 x4 h)) (x1 : Option (Nat × Nat)) (x2 : Option (Nat × Nat)) (x3 : Option (Nat × Nat)) (x4 : Int32) (h : am_H) : Sim m_L_law d 1149 [some (.inr (.inr (some (1, 0)))), some (.inr (.inr x1)), some (.inr (.inr x2)), some (.inr (.inr x3)), some (.inl x4), none, none] [] h (f_L_law_1149 rc23 (1, 0) x1 x2 x3 x4 h) := by
  unfold f_L_law_1149
  refine sim_goto 2795 dL_law_1149 (by decide) ?_
  exact sim_lv (am_leS (am_leS (am_leS (am_leS (am_leS (am_leN (am_leN am_leT))))))) (t_L_law_2795 d (by omega) _ hrc23 _ _ _ _ _ _)
def f_L_law_1105 (rc23 : Nat × Nat → Option (Nat × Nat) → Option (Nat × Nat) → Option (Nat × Nat) → Int32 → am_H → am_R) (_ : Nat × Nat) (x1 : Option (Nat × Nat)) (x2 : Option (Nat × Nat)) (x3 : Option (Nat × Nat)) (x4 : Int32) (h : am_H) : am_R := f_L_law_2795 rc23 (1, 0) x1 x2 x3 x4 h
theorem t_L_law_1105 (d : Nat) (hd : 10 ≤ d) (rc23 : Nat × Nat → Option (Nat × Nat) → Option (Nat × Nat) → Option (Nat × Nat) → Int32 → am_H → am_R) (hrc23 : ∀ x1 x2 x3 x4 h, Sim m_L_law d 23 [some (.inr (.inr (some (1, 0)))), some (.inr (.inr x1)), some (.inr (.inr x2)), some (.inr (.inr x3)), some (.inl x4), none, none] [] h (rc23 (1, 0) x1 x2 x3 x4 h)) (x1 : Option (Nat × Nat)) (x2 : Option (Nat × Nat)) (x3 : Option (Nat × Nat)) (x4 : Int32) (h : am_H) : Sim m_L_law d 1105 [some (.inr (.inr (some (1, 0)))), some (.inr (.inr x1)), some (.inr (.inr x2)), some (.inr (.inr x3)), some (.inl x4), none, none] [] h (f_L_law_1105 rc23 (1, 0) x1 x2 x3 x4 h) := by
  unfold f_L_law_1105
  refine sim_goto 2795 dL_law_1105 (by decide) ?_
  exact sim_lv (am_leS (am_leS (am_leS (am_leS (am_leS (am_leN (am_leN am_leT))))))) (t_L_law_2795 d (by omega) _ hrc23 _ _ _ _ _ _)
def f_L_law_1037 (rc23 : Nat × Nat → Option (Nat × Nat) → Option (Nat × Nat) → Option (Nat × Nat) → Int32 → am_H → am_R) (_ : Nat × Nat) (x1 : Option (Nat × Nat)) (x2 : Option (Nat × Nat)) (x3 : Option (Nat × Nat)) (x4 : Int32) (h : am_H) : am_R := f_L_law_2795 rc23 (1, 0) x1 x2 x3 x4 h
theorem t_L_law_1037 (d : Nat) (hd : 10 ≤ d) (rc23 : Nat × Nat → Option (Nat × Nat) → Option (Nat × Nat) → Option (Nat × Nat) → Int32 → am_H → am_R) (hrc23 : ∀ x1 x2 x3 x4 h, Sim m_L_law d 23 [some (.inr (.inr (some (1, 0)))), some (.inr (.inr x1)), some (.inr (.inr x2)), some (.inr (.inr x3)), some (.inl x4), none, none] [] h (rc23 (1, 0) x1 x2 x3 x4 h)) (x1 : Option (Nat × Nat)) (x2 : Option (Nat × Nat)) (x3 : Option (Nat × Nat)) (x4 : Int32) (h : am_H) : Sim m_L_law d 1037 [some (.inr (.inr (some (1, 0)))), some (.inr (.inr x1)), some (.inr (.inr x2)), some (.inr (.inr x3)), some (.inl x4), none, none] [] h (f_L_law_1037 rc23 (1, 0) x1 x2 x3 x4 h) := by
  unfold f_L_law_1037
  refine sim_goto 2795 dL_law_1037 (by decide) ?_
  exact sim_lv (am_leS (am_leS (am_leS (am_leS (am_leS (am_leN (am_leN am_leT))))))) (t_L_law_2795 d (by omega) _ hrc23 _ _ _ _ _ _)
def f_L_law_1031 (rc23 : Nat × Nat → Option (Nat × Nat) → Option (Nat × Nat) → Option (Nat × Nat) → Int32 → am_H → am_R) (_ : Nat × Nat) (x1 : Option (Nat × Nat)) (x2 : Option (Nat × Nat)) (x3 : Option (Nat × Nat)) (x4 : Int32) (s0 : Int64) (s1 : Int64) (h : am_H) : am_R := if (lg_cmp s1 s0) = 0 then (f_L_law_1037 rc23 (1, 0) x1 x2 x3 x4 h) else (m_rz h (0 : Int32))
theorem t_L_law_1031 (d : Nat) (hd : 10 ≤ d) (rc23 : Nat × Nat → Option (Nat × Nat) → Option (Nat × Nat) → Option (Nat × Nat) → Int32 → am_H → am_R) (hrc23 : ∀ x1 x2 x3 x4 h, Sim m_L_law d 23 [some (.inr (.inr (some (1, 0)))), some (.inr (.inr x1)), some (.inr (.inr x2)), some (.inr (.inr x3)), some (.inl x4), none, none] [] h (rc23 (1, 0) x1 x2 x3 x4 h)) (x1 : Option (Nat × Nat)) (x2 : Option (Nat × Nat)) (x3 : Option (Nat × Nat)) (x4 : Int32) (s0 : Int64) (s1 : Int64) (h : am_H) : Sim m_L_law d 1031 [some (.inr (.inr (some (1, 0)))), some (.inr (.inr x1)), some (.inr (.inr x2)), some (.inr (.inr x3)), some (.inl x4), none, none] [.inr (.inl s0), .inr (.inl s1)] h (f_L_law_1031 rc23 (1, 0) x1 x2 x3 x4 s0 s1 h) := by
  unfold f_L_law_1031
  refine sim_lcmp dL_law_1031 ?_
  refine sim_if_eq 1037 dL_law_1032 (by decide) (fun c => ?_) (fun c => ?_)
  · exact sim_lv (am_leS (am_leS (am_leS (am_leS (am_leS (am_leN (am_leN am_leT))))))) (t_L_law_1037 d (by omega) _ hrc23 _ _ _ _ _ _)
  · refine sim_iconst (0) dL_law_1035 (by decide +kernel) ?_
    exact sim_zret dL_law_1036 rfl
def f_L_law_914 (rc23 : Nat × Nat → Option (Nat × Nat) → Option (Nat × Nat) → Option (Nat × Nat) → Int32 → am_H → am_R) (_ : Nat × Nat) (x1 : Option (Nat × Nat)) (x2 : Option (Nat × Nat)) (x3 : Option (Nat × Nat)) (x4 : Int32) (h : am_H) : am_R := f_L_law_2795 rc23 (1, 0) x1 x2 x3 x4 h
theorem t_L_law_914 (d : Nat) (hd : 10 ≤ d) (rc23 : Nat × Nat → Option (Nat × Nat) → Option (Nat × Nat) → Option (Nat × Nat) → Int32 → am_H → am_R) (hrc23 : ∀ x1 x2 x3 x4 h, Sim m_L_law d 23 [some (.inr (.inr (some (1, 0)))), some (.inr (.inr x1)), some (.inr (.inr x2)), some (.inr (.inr x3)), some (.inl x4), none, none] [] h (rc23 (1, 0) x1 x2 x3 x4 h)) (x1 : Option (Nat × Nat)) (x2 : Option (Nat × Nat)) (x3 : Option (Nat × Nat)) (x4 : Int32) (h : am_H) : Sim m_L_law d 914 [some (.inr (.inr (some (1, 0)))), some (.inr (.inr x1)), some (.inr (.inr x2)), some (.inr (.inr x3)), some (.inl x4), none, none] [] h (f_L_law_914 rc23 (1, 0) x1 x2 x3 x4 h) := by
  unfold f_L_law_914
  refine sim_goto 2795 dL_law_914 (by decide) ?_
  exact sim_lv (am_leS (am_leS (am_leS (am_leS (am_leS (am_leN (am_leN am_leT))))))) (t_L_law_2795 d (by omega) _ hrc23 _ _ _ _ _ _)
def f_L_law_846 (rc23 : Nat × Nat → Option (Nat × Nat) → Option (Nat × Nat) → Option (Nat × Nat) → Int32 → am_H → am_R) (_ : Nat × Nat) (x1 : Option (Nat × Nat)) (x2 : Option (Nat × Nat)) (x3 : Option (Nat × Nat)) (x4 : Int32) (h : am_H) : am_R := f_L_law_2795 rc23 (1, 0) x1 x2 x3 x4 h
theorem t_L_law_846 (d : Nat) (hd : 10 ≤ d) (rc23 : Nat × Nat → Option (Nat × Nat) → Option (Nat × Nat) → Option (Nat × Nat) → Int32 → am_H → am_R) (hrc23 : ∀ x1 x2 x3 x4 h, Sim m_L_law d 23 [some (.inr (.inr (some (1, 0)))), some (.inr (.inr x1)), some (.inr (.inr x2)), some (.inr (.inr x3)), some (.inl x4), none, none] [] h (rc23 (1, 0) x1 x2 x3 x4 h)) (x1 : Option (Nat × Nat)) (x2 : Option (Nat × Nat)) (x3 : Option (Nat × Nat)) (x4 : Int32) (h : am_H) : Sim m_L_law d 846 [some (.inr (.inr (some (1, 0)))), some (.inr (.inr x1)), some (.inr (.inr x2)), some (.inr (.inr x3)), some (.inl x4), none, none] [] h (f_L_law_846 rc23 (1, 0) x1 x2 x3 x4 h) := by
  unfold f_L_law_846
  refine sim_goto 2795 dL_law_846 (by decide) ?_
  exact sim_lv (am_leS (am_leS (am_leS (am_leS (am_leS (am_leN (am_leN am_leT))))))) (t_L_law_2795 d (by omega) _ hrc23 _ _ _ _ _ _)
def f_L_law_840 (rc23 : Nat × Nat → Option (Nat × Nat) → Option (Nat × Nat) → Option (Nat × Nat) → Int32 → am_H → am_R) (_ : Nat × Nat) (x1 : Option (Nat × Nat)) (x2 : Option (Nat × Nat)) (x3 : Option (Nat × Nat)) (x4 : Int32) (s0 : Int64) (s1 : Int64) (h : am_H) : am_R := if (lg_cmp s1 s0) = 0 then (f_L_law_846 rc23 (1, 0) x1 x2 x3 x4 h) else (m_rz h (0 : Int32))
theorem t_L_law_840 (d : Nat) (hd : 10 ≤ d) (rc23 : Nat × Nat → Option (Nat × Nat) → Option (Nat × Nat) → Option (Nat × Nat) → Int32 → am_H → am_R) (hrc23 : ∀ x1 x2 x3 x4 h, Sim m_L_law d 23 [some (.inr (.inr (some (1, 0)))), some (.inr (.inr x1)), some (.inr (.inr x2)), some (.inr (.inr x3)), some (.inl x4), none, none] [] h (rc23 (1, 0) x1 x2 x3 x4 h)) (x1 : Option (Nat × Nat)) (x2 : Option (Nat × Nat)) (x3 : Option (Nat × Nat)) (x4 : Int32) (s0 : Int64) (s1 : Int64) (h : am_H) : Sim m_L_law d 840 [some (.inr (.inr (some (1, 0)))), some (.inr (.inr x1)), some (.inr (.inr x2)), some (.inr (.inr x3)), some (.inl x4), none, none] [.inr (.inl s0), .inr (.inl s1)] h (f_L_law_840 rc23 (1, 0) x1 x2 x3 x4 s0 s1 h) := by
  unfold f_L_law_840
  refine sim_lcmp dL_law_840 ?_
  refine sim_if_eq 846 dL_law_841 (by decide) (fun c => ?_) (fun c => ?_)
  · exact sim_lv (am_leS (am_leS (am_leS (am_leS (am_leS (am_leN (am_leN am_leT))))))) (t_L_law_846 d (by omega) _ hrc23 _ _ _ _ _ _)
  · refine sim_iconst (0) dL_law_844 (by decide +kernel) ?_
    exact sim_zret dL_law_845 rfl
def f_L_law_806 (rc23 : Nat × Nat → Option (Nat × Nat) → Option (Nat × Nat) → Option (Nat × Nat) → Int32 → am_H → am_R) (_ : Nat × Nat) (x1 : Option (Nat × Nat)) (x2 : Option (Nat × Nat)) (x3 : Option (Nat × Nat)) (x4 : Int32) (x5 : Int32) (s0 : Int32) (s1 : Int32) (s2 : Option (Nat × Nat)) (h : am_H) : am_R := m_ao s2 11 fun a468 => m_bI (f_X11_lock a468 s1 s0 h) fun h466 v467 => m_ao x2 11 fun a471 => m_bI (f_X11_thrown a471 h466) fun h469 v470 => if v470 = x5 then (if x5 = 0 then (m_aL x3 (0 : Int32) h469 fun v472 => if v467 = 0 then (f_L_law_840 rc23 (1, 0) x1 x2 x3 x4 (0 : Int64) v472 h469) else (f_L_law_840 rc23 (1, 0) x1 x2 x3 x4 (1 : Int64) v472 h469)) else (f_L_law_846 rc23 (1, 0) x1 x2 x3 x4 h469)) else (m_rz h469 (0 : Int32))
theorem t_L_law_806 (d : Nat) (hd : 10 ≤ d) (rc23 : Nat × Nat → Option (Nat × Nat) → Option (Nat × Nat) → Option (Nat × Nat) → Int32 → am_H → am_R) (hrc23 : ∀ x1 x2 x3 x4 h, Sim m_L_law d 23 [some (.inr (.inr (some (1, 0)))), some (.inr (.inr x1)), some (.inr (.inr x2)), some (.inr (.inr x3)), some (.inl x4), none, none] [] h (rc23 (1, 0) x1 x2 x3 x4 h)) (x1 : Option (Nat × Nat)) (x2 : Option (Nat × Nat)) (x3 : Option (Nat × Nat)) (x4 : Int32) (x5 : Int32) (s0 : Int32) (s1 : Int32) (s2 : Option (Nat × Nat)) (h : am_H) : Sim m_L_law d 806 [some (.inr (.inr (some (1, 0)))), some (.inr (.inr x1)), some (.inr (.inr x2)), some (.inr (.inr x3)), some (.inl x4), some (.inl x5), none] [.inl s0, .inl s1, .inr (.inr s2)] h (f_L_law_806 rc23 (1, 0) x1 x2 x3 x4 x5 s0 s1 s2 h) := by
  unfold f_L_law_806
  refine sim_ao2 (fun a468 e => ?_)
  refine sim_virt (d - 1) e dL_law_806 (k_X11_lock (d - 1) (by omega) _ _ _ _) q_X11_lock rfl rfl wm_RL_171 rfl rfl (by omega) (Nat.le_of_ble_eq_true rfl) am_nI (am_rI fun h466 v467 => ?_) am_eI
  refine sim_istore dL_law_809 (Nat.le_of_ble_eq_true rfl) ?_
  refine sim_aload_n dL_law_811 rfl ?_
  refine sim_ao0 (fun a471 e => ?_)
  refine sim_virt (d - 1) e dL_law_812 (k_X11_thrown (d - 1) (by omega) _  _) q_X11_thrown rfl rfl wm_RL_142 rfl rfl (by omega) (Nat.le_of_ble_eq_true rfl) am_nI (am_rI fun h469 v470 => ?_) am_eI
  refine sim_iload dL_law_815 rfl ?_
  refine sim_ic_eq 822 dL_law_817 (by decide) (fun c => ?_) (fun c => ?_)
  · refine sim_iload dL_law_822 rfl ?_
    refine sim_if_ne 846 dL_law_824 (by decide) (fun c => ?_) (fun c => ?_)
    · exact sim_lv (am_leS (am_leS (am_leS (am_leS (am_leS (am_leN (am_leN am_leT))))))) (t_L_law_846 d (by omega) _ hrc23 _ _ _ _ _ _)
    · refine sim_aload_n dL_law_827 rfl ?_
      refine sim_iconst (0) dL_law_828 (by decide +kernel) ?_
      refine sim_aL dL_law_829 (fun v472 => ?_)
      refine sim_iload dL_law_830 rfl ?_
      refine sim_if_eq 839 dL_law_832 (by decide) (fun c => ?_) (fun c => ?_)
      · refine sim_lconst (0) dL_law_839 (by decide +kernel) ?_
        exact sim_lv (am_leS (am_leS (am_leS (am_leS (am_leS (am_leN (am_leN am_leT))))))) (t_L_law_840 d (by omega) _ hrc23 _ _ _ _ _ _ _ _)
      · refine sim_lconst (1) dL_law_835 (by decide +kernel) ?_
        refine sim_goto 840 dL_law_836 (by decide) ?_
        exact sim_lv (am_leS (am_leS (am_leS (am_leS (am_leS (am_leN (am_leN am_leT))))))) (t_L_law_840 d (by omega) _ hrc23 _ _ _ _ _ _ _ _)
  · refine sim_iconst (0) dL_law_820 (by decide +kernel) ?_
    exact sim_zret dL_law_821 rfl
def f_L_law_779 (rc23 : Nat × Nat → Option (Nat × Nat) → Option (Nat × Nat) → Option (Nat × Nat) → Int32 → am_H → am_R) (_ : Nat × Nat) (x1 : Option (Nat × Nat)) (x2 : Option (Nat × Nat)) (x3 : Option (Nat × Nat)) (x4 : Int32) (s0 : Int32) (s1 : Int32) (s2 : Option (Nat × Nat)) (h : am_H) : am_R := m_bI (f_L_lock s2 s1 s0 x3 h) fun h462 v463 => m_scr (x4 + (1 : Int32)) h462 fun v464 => m_scr (x4 + (2 : Int32)) h462 fun v465 => if v465 = 0 then (f_L_law_806 rc23 (1, 0) x1 x2 x3 x4 v463 (0 : Int32) v464 x2 h462) else (f_L_law_806 rc23 (1, 0) x1 x2 x3 x4 v463 (1 : Int32) v464 x2 h462)
theorem t_L_law_779 (d : Nat) (hd : 10 ≤ d) (rc23 : Nat × Nat → Option (Nat × Nat) → Option (Nat × Nat) → Option (Nat × Nat) → Int32 → am_H → am_R) (hrc23 : ∀ x1 x2 x3 x4 h, Sim m_L_law d 23 [some (.inr (.inr (some (1, 0)))), some (.inr (.inr x1)), some (.inr (.inr x2)), some (.inr (.inr x3)), some (.inl x4), none, none] [] h (rc23 (1, 0) x1 x2 x3 x4 h)) (x1 : Option (Nat × Nat)) (x2 : Option (Nat × Nat)) (x3 : Option (Nat × Nat)) (x4 : Int32) (s0 : Int32) (s1 : Int32) (s2 : Option (Nat × Nat)) (h : am_H) : Sim m_L_law d 779 [some (.inr (.inr (some (1, 0)))), some (.inr (.inr x1)), some (.inr (.inr x2)), some (.inr (.inr x3)), some (.inl x4), none, none] [.inl s0, .inl s1, .inr (.inr s2)] h (f_L_law_779 rc23 (1, 0) x1 x2 x3 x4 s0 s1 s2 h) := by
  unfold f_L_law_779
  refine sim_aload_n dL_law_779 rfl ?_
  refine sim_staticX (d - 1) dL_law_780 (k_L_lock (d - 1) (by omega) _ _ _ _ _) q_L_lock wm_RL_168 rfl rfl (by omega) (Nat.le_of_ble_eq_true rfl) am_nI (am_rI fun h462 v463 => ?_) am_eI
  refine sim_istore dL_law_783 (Nat.le_of_ble_eq_true rfl) ?_
  refine sim_aload_n dL_law_785 rfl ?_
  refine sim_aload_n dL_law_786 rfl ?_
  refine sim_iload dL_law_787 rfl ?_
  refine sim_iconst (1) dL_law_789 (by decide +kernel) ?_
  refine sim_iadd dL_law_790 ?_
  refine sim_scr dL_law_791 (fun v464 => ?_)
  refine sim_aload_n dL_law_792 rfl ?_
  refine sim_iload dL_law_793 rfl ?_
  refine sim_iconst (2) dL_law_795 (by decide +kernel) ?_
  refine sim_iadd dL_law_796 ?_
  refine sim_scr dL_law_797 (fun v465 => ?_)
  refine sim_if_eq 805 dL_law_798 (by decide) (fun c => ?_) (fun c => ?_)
  · refine sim_iconst (0) dL_law_805 (by decide +kernel) ?_
    exact sim_lv (am_leS (am_leS (am_leS (am_leS (am_leS (am_leS (am_leN am_leT))))))) (t_L_law_806 d (by omega) _ hrc23 _ _ _ _ _ _ _ _ _ _)
  · refine sim_iconst (1) dL_law_801 (by decide +kernel) ?_
    refine sim_goto 806 dL_law_802 (by decide) ?_
    exact sim_lv (am_leS (am_leS (am_leS (am_leS (am_leS (am_leS (am_leN am_leT))))))) (t_L_law_806 d (by omega) _ hrc23 _ _ _ _ _ _ _ _ _ _)
def f_L_law_755 (rc23 : Nat × Nat → Option (Nat × Nat) → Option (Nat × Nat) → Option (Nat × Nat) → Int32 → am_H → am_R) (_ : Nat × Nat) (x1 : Option (Nat × Nat)) (x2 : Option (Nat × Nat)) (x3 : Option (Nat × Nat)) (x4 : Int32) (h : am_H) : am_R := f_L_law_2795 rc23 (1, 0) x1 x2 x3 x4 h
theorem t_L_law_755 (d : Nat) (hd : 10 ≤ d) (rc23 : Nat × Nat → Option (Nat × Nat) → Option (Nat × Nat) → Option (Nat × Nat) → Int32 → am_H → am_R) (hrc23 : ∀ x1 x2 x3 x4 h, Sim m_L_law d 23 [some (.inr (.inr (some (1, 0)))), some (.inr (.inr x1)), some (.inr (.inr x2)), some (.inr (.inr x3)), some (.inl x4), none, none] [] h (rc23 (1, 0) x1 x2 x3 x4 h)) (x1 : Option (Nat × Nat)) (x2 : Option (Nat × Nat)) (x3 : Option (Nat × Nat)) (x4 : Int32) (h : am_H) : Sim m_L_law d 755 [some (.inr (.inr (some (1, 0)))), some (.inr (.inr x1)), some (.inr (.inr x2)), some (.inr (.inr x3)), some (.inl x4), none, none] [] h (f_L_law_755 rc23 (1, 0) x1 x2 x3 x4 h) := by
  unfold f_L_law_755
  refine sim_goto 2795 dL_law_755 (by decide) ?_
  exact sim_lv (am_leS (am_leS (am_leS (am_leS (am_leS (am_leN (am_leN am_leT))))))) (t_L_law_2795 d (by omega) _ hrc23 _ _ _ _ _ _)
def f_L_law_699 (rc23 : Nat × Nat → Option (Nat × Nat) → Option (Nat × Nat) → Option (Nat × Nat) → Int32 → am_H → am_R) (_ : Nat × Nat) (x1 : Option (Nat × Nat)) (x2 : Option (Nat × Nat)) (x3 : Option (Nat × Nat)) (x4 : Int32) (h : am_H) : am_R := f_L_law_2795 rc23 (1, 0) x1 x2 x3 x4 h
theorem t_L_law_699 (d : Nat) (hd : 10 ≤ d) (rc23 : Nat × Nat → Option (Nat × Nat) → Option (Nat × Nat) → Option (Nat × Nat) → Int32 → am_H → am_R) (hrc23 : ∀ x1 x2 x3 x4 h, Sim m_L_law d 23 [some (.inr (.inr (some (1, 0)))), some (.inr (.inr x1)), some (.inr (.inr x2)), some (.inr (.inr x3)), some (.inl x4), none, none] [] h (rc23 (1, 0) x1 x2 x3 x4 h)) (x1 : Option (Nat × Nat)) (x2 : Option (Nat × Nat)) (x3 : Option (Nat × Nat)) (x4 : Int32) (h : am_H) : Sim m_L_law d 699 [some (.inr (.inr (some (1, 0)))), some (.inr (.inr x1)), some (.inr (.inr x2)), some (.inr (.inr x3)), some (.inl x4), none, none] [] h (f_L_law_699 rc23 (1, 0) x1 x2 x3 x4 h) := by
  unfold f_L_law_699
  refine sim_goto 2795 dL_law_699 (by decide) ?_
  exact sim_lv (am_leS (am_leS (am_leS (am_leS (am_leS (am_leN (am_leN am_leT))))))) (t_L_law_2795 d (by omega) _ hrc23 _ _ _ _ _ _)
def f_L_law_643 (rc23 : Nat × Nat → Option (Nat × Nat) → Option (Nat × Nat) → Option (Nat × Nat) → Int32 → am_H → am_R) (_ : Nat × Nat) (x1 : Option (Nat × Nat)) (x2 : Option (Nat × Nat)) (x3 : Option (Nat × Nat)) (x4 : Int32) (h : am_H) : am_R := f_L_law_2795 rc23 (1, 0) x1 x2 x3 x4 h
theorem t_L_law_643 (d : Nat) (hd : 10 ≤ d) (rc23 : Nat × Nat → Option (Nat × Nat) → Option (Nat × Nat) → Option (Nat × Nat) → Int32 → am_H → am_R) (hrc23 : ∀ x1 x2 x3 x4 h, Sim m_L_law d 23 [some (.inr (.inr (some (1, 0)))), some (.inr (.inr x1)), some (.inr (.inr x2)), some (.inr (.inr x3)), some (.inl x4), none, none] [] h (rc23 (1, 0) x1 x2 x3 x4 h)) (x1 : Option (Nat × Nat)) (x2 : Option (Nat × Nat)) (x3 : Option (Nat × Nat)) (x4 : Int32) (h : am_H) : Sim m_L_law d 643 [some (.inr (.inr (some (1, 0)))), some (.inr (.inr x1)), some (.inr (.inr x2)), some (.inr (.inr x3)), some (.inl x4), none, none] [] h (f_L_law_643 rc23 (1, 0) x1 x2 x3 x4 h) := by
  unfold f_L_law_643
  refine sim_goto 2795 dL_law_643 (by decide) ?_
  exact sim_lv (am_leS (am_leS (am_leS (am_leS (am_leS (am_leN (am_leN am_leT))))))) (t_L_law_2795 d (by omega) _ hrc23 _ _ _ _ _ _)
def f_L_law_575 (rc23 : Nat × Nat → Option (Nat × Nat) → Option (Nat × Nat) → Option (Nat × Nat) → Int32 → am_H → am_R) (_ : Nat × Nat) (x1 : Option (Nat × Nat)) (x2 : Option (Nat × Nat)) (x3 : Option (Nat × Nat)) (x4 : Int32) (h : am_H) : am_R := f_L_law_2795 rc23 (1, 0) x1 x2 x3 x4 h
theorem t_L_law_575 (d : Nat) (hd : 10 ≤ d) (rc23 : Nat × Nat → Option (Nat × Nat) → Option (Nat × Nat) → Option (Nat × Nat) → Int32 → am_H → am_R) (hrc23 : ∀ x1 x2 x3 x4 h, Sim m_L_law d 23 [some (.inr (.inr (some (1, 0)))), some (.inr (.inr x1)), some (.inr (.inr x2)), some (.inr (.inr x3)), some (.inl x4), none, none] [] h (rc23 (1, 0) x1 x2 x3 x4 h)) (x1 : Option (Nat × Nat)) (x2 : Option (Nat × Nat)) (x3 : Option (Nat × Nat)) (x4 : Int32) (h : am_H) : Sim m_L_law d 575 [some (.inr (.inr (some (1, 0)))), some (.inr (.inr x1)), some (.inr (.inr x2)), some (.inr (.inr x3)), some (.inl x4), none, none] [] h (f_L_law_575 rc23 (1, 0) x1 x2 x3 x4 h) := by
  unfold f_L_law_575
  refine sim_goto 2795 dL_law_575 (by decide) ?_
  exact sim_lv (am_leS (am_leS (am_leS (am_leS (am_leS (am_leN (am_leN am_leT))))))) (t_L_law_2795 d (by omega) _ hrc23 _ _ _ _ _ _)
def f_L_law_507 (rc23 : Nat × Nat → Option (Nat × Nat) → Option (Nat × Nat) → Option (Nat × Nat) → Int32 → am_H → am_R) (_ : Nat × Nat) (x1 : Option (Nat × Nat)) (x2 : Option (Nat × Nat)) (x3 : Option (Nat × Nat)) (x4 : Int32) (h : am_H) : am_R := f_L_law_2795 rc23 (1, 0) x1 x2 x3 x4 h
theorem t_L_law_507 (d : Nat) (hd : 10 ≤ d) (rc23 : Nat × Nat → Option (Nat × Nat) → Option (Nat × Nat) → Option (Nat × Nat) → Int32 → am_H → am_R) (hrc23 : ∀ x1 x2 x3 x4 h, Sim m_L_law d 23 [some (.inr (.inr (some (1, 0)))), some (.inr (.inr x1)), some (.inr (.inr x2)), some (.inr (.inr x3)), some (.inl x4), none, none] [] h (rc23 (1, 0) x1 x2 x3 x4 h)) (x1 : Option (Nat × Nat)) (x2 : Option (Nat × Nat)) (x3 : Option (Nat × Nat)) (x4 : Int32) (h : am_H) : Sim m_L_law d 507 [some (.inr (.inr (some (1, 0)))), some (.inr (.inr x1)), some (.inr (.inr x2)), some (.inr (.inr x3)), some (.inl x4), none, none] [] h (f_L_law_507 rc23 (1, 0) x1 x2 x3 x4 h) := by
  unfold f_L_law_507
  refine sim_goto 2795 dL_law_507 (by decide) ?_
  exact sim_lv (am_leS (am_leS (am_leS (am_leS (am_leS (am_leN (am_leN am_leT))))))) (t_L_law_2795 d (by omega) _ hrc23 _ _ _ _ _ _)
def f_L_law_439 (rc23 : Nat × Nat → Option (Nat × Nat) → Option (Nat × Nat) → Option (Nat × Nat) → Int32 → am_H → am_R) (_ : Nat × Nat) (x1 : Option (Nat × Nat)) (x2 : Option (Nat × Nat)) (x3 : Option (Nat × Nat)) (x4 : Int32) (h : am_H) : am_R := f_L_law_2795 rc23 (1, 0) x1 x2 x3 x4 h
theorem t_L_law_439 (d : Nat) (hd : 10 ≤ d) (rc23 : Nat × Nat → Option (Nat × Nat) → Option (Nat × Nat) → Option (Nat × Nat) → Int32 → am_H → am_R) (hrc23 : ∀ x1 x2 x3 x4 h, Sim m_L_law d 23 [some (.inr (.inr (some (1, 0)))), some (.inr (.inr x1)), some (.inr (.inr x2)), some (.inr (.inr x3)), some (.inl x4), none, none] [] h (rc23 (1, 0) x1 x2 x3 x4 h)) (x1 : Option (Nat × Nat)) (x2 : Option (Nat × Nat)) (x3 : Option (Nat × Nat)) (x4 : Int32) (h : am_H) : Sim m_L_law d 439 [some (.inr (.inr (some (1, 0)))), some (.inr (.inr x1)), some (.inr (.inr x2)), some (.inr (.inr x3)), some (.inl x4), none, none] [] h (f_L_law_439 rc23 (1, 0) x1 x2 x3 x4 h) := by
  unfold f_L_law_439
  refine sim_goto 2795 dL_law_439 (by decide) ?_
  exact sim_lv (am_leS (am_leS (am_leS (am_leS (am_leS (am_leN (am_leN am_leT))))))) (t_L_law_2795 d (by omega) _ hrc23 _ _ _ _ _ _)
def f_L_law_433 (rc23 : Nat × Nat → Option (Nat × Nat) → Option (Nat × Nat) → Option (Nat × Nat) → Int32 → am_H → am_R) (_ : Nat × Nat) (x1 : Option (Nat × Nat)) (x2 : Option (Nat × Nat)) (x3 : Option (Nat × Nat)) (x4 : Int32) (s0 : Int64) (s1 : Int64) (h : am_H) : am_R := if (lg_cmp s1 s0) = 0 then (f_L_law_439 rc23 (1, 0) x1 x2 x3 x4 h) else (m_rz h (0 : Int32))
theorem t_L_law_433 (d : Nat) (hd : 10 ≤ d) (rc23 : Nat × Nat → Option (Nat × Nat) → Option (Nat × Nat) → Option (Nat × Nat) → Int32 → am_H → am_R) (hrc23 : ∀ x1 x2 x3 x4 h, Sim m_L_law d 23 [some (.inr (.inr (some (1, 0)))), some (.inr (.inr x1)), some (.inr (.inr x2)), some (.inr (.inr x3)), some (.inl x4), none, none] [] h (rc23 (1, 0) x1 x2 x3 x4 h)) (x1 : Option (Nat × Nat)) (x2 : Option (Nat × Nat)) (x3 : Option (Nat × Nat)) (x4 : Int32) (s0 : Int64) (s1 : Int64) (h : am_H) : Sim m_L_law d 433 [some (.inr (.inr (some (1, 0)))), some (.inr (.inr x1)), some (.inr (.inr x2)), some (.inr (.inr x3)), some (.inl x4), none, none] [.inr (.inl s0), .inr (.inl s1)] h (f_L_law_433 rc23 (1, 0) x1 x2 x3 x4 s0 s1 h) := by
  unfold f_L_law_433
  refine sim_lcmp dL_law_433 ?_
  refine sim_if_eq 439 dL_law_434 (by decide) (fun c => ?_) (fun c => ?_)
  · exact sim_lv (am_leS (am_leS (am_leS (am_leS (am_leS (am_leN (am_leN am_leT))))))) (t_L_law_439 d (by omega) _ hrc23 _ _ _ _ _ _)
  · refine sim_iconst (0) dL_law_437 (by decide +kernel) ?_
    exact sim_zret dL_law_438 rfl
def f_L_law_364 (rc23 : Nat × Nat → Option (Nat × Nat) → Option (Nat × Nat) → Option (Nat × Nat) → Int32 → am_H → am_R) (_ : Nat × Nat) (x1 : Option (Nat × Nat)) (x2 : Option (Nat × Nat)) (x3 : Option (Nat × Nat)) (x4 : Int32) (h : am_H) : am_R := f_L_law_2795 rc23 (1, 0) x1 x2 x3 x4 h
theorem t_L_law_364 (d : Nat) (hd : 10 ≤ d) (rc23 : Nat × Nat → Option (Nat × Nat) → Option (Nat × Nat) → Option (Nat × Nat) → Int32 → am_H → am_R) (hrc23 : ∀ x1 x2 x3 x4 h, Sim m_L_law d 23 [some (.inr (.inr (some (1, 0)))), some (.inr (.inr x1)), some (.inr (.inr x2)), some (.inr (.inr x3)), some (.inl x4), none, none] [] h (rc23 (1, 0) x1 x2 x3 x4 h)) (x1 : Option (Nat × Nat)) (x2 : Option (Nat × Nat)) (x3 : Option (Nat × Nat)) (x4 : Int32) (h : am_H) : Sim m_L_law d 364 [some (.inr (.inr (some (1, 0)))), some (.inr (.inr x1)), some (.inr (.inr x2)), some (.inr (.inr x3)), some (.inl x4), none, none] [] h (f_L_law_364 rc23 (1, 0) x1 x2 x3 x4 h) := by
  unfold f_L_law_364
  refine sim_goto 2795 dL_law_364 (by decide) ?_
  exact sim_lv (am_leS (am_leS (am_leS (am_leS (am_leS (am_leN (am_leN am_leT))))))) (t_L_law_2795 d (by omega) _ hrc23 _ _ _ _ _ _)
def f_L_law_358 (rc23 : Nat × Nat → Option (Nat × Nat) → Option (Nat × Nat) → Option (Nat × Nat) → Int32 → am_H → am_R) (_ : Nat × Nat) (x1 : Option (Nat × Nat)) (x2 : Option (Nat × Nat)) (x3 : Option (Nat × Nat)) (x4 : Int32) (s0 : Int64) (s1 : Int64) (h : am_H) : am_R := if (lg_cmp s1 s0) = 0 then (f_L_law_364 rc23 (1, 0) x1 x2 x3 x4 h) else (m_rz h (0 : Int32))
theorem t_L_law_358 (d : Nat) (hd : 10 ≤ d) (rc23 : Nat × Nat → Option (Nat × Nat) → Option (Nat × Nat) → Option (Nat × Nat) → Int32 → am_H → am_R) (hrc23 : ∀ x1 x2 x3 x4 h, Sim m_L_law d 23 [some (.inr (.inr (some (1, 0)))), some (.inr (.inr x1)), some (.inr (.inr x2)), some (.inr (.inr x3)), some (.inl x4), none, none] [] h (rc23 (1, 0) x1 x2 x3 x4 h)) (x1 : Option (Nat × Nat)) (x2 : Option (Nat × Nat)) (x3 : Option (Nat × Nat)) (x4 : Int32) (s0 : Int64) (s1 : Int64) (h : am_H) : Sim m_L_law d 358 [some (.inr (.inr (some (1, 0)))), some (.inr (.inr x1)), some (.inr (.inr x2)), some (.inr (.inr x3)), some (.inl x4), none, none] [.inr (.inl s0), .inr (.inl s1)] h (f_L_law_358 rc23 (1, 0) x1 x2 x3 x4 s0 s1 h) := by
  unfold f_L_law_358
  refine sim_lcmp dL_law_358 ?_
  refine sim_if_eq 364 dL_law_359 (by decide) (fun c => ?_) (fun c => ?_)
  · exact sim_lv (am_leS (am_leS (am_leS (am_leS (am_leS (am_leN (am_leN am_leT))))))) (t_L_law_364 d (by omega) _ hrc23 _ _ _ _ _ _)
  · refine sim_iconst (0) dL_law_362 (by decide +kernel) ?_
    exact sim_zret dL_law_363 rfl
def f_L_law_324 (rc23 : Nat × Nat → Option (Nat × Nat) → Option (Nat × Nat) → Option (Nat × Nat) → Int32 → am_H → am_R) (_ : Nat × Nat) (x1 : Option (Nat × Nat)) (x2 : Option (Nat × Nat)) (x3 : Option (Nat × Nat)) (x4 : Int32) (x5 : Int32) (s0 : Int32) (s1 : Int32) (s2 : Int32) (s3 : Option (Nat × Nat)) (h : am_H) : am_R := m_ao s3 11 fun a480 => m_bI (f_X11_block a480 s2 s1 s0 h) fun h478 v479 => m_ao x2 11 fun a483 => m_bI (f_X11_thrown a483 h478) fun h481 v482 => if v482 = x5 then (if x5 = 0 then (m_aL x3 (0 : Int32) h481 fun v484 => if v479 = 0 then (f_L_law_358 rc23 (1, 0) x1 x2 x3 x4 (0 : Int64) v484 h481) else (f_L_law_358 rc23 (1, 0) x1 x2 x3 x4 (1 : Int64) v484 h481)) else (f_L_law_364 rc23 (1, 0) x1 x2 x3 x4 h481)) else (m_rz h481 (0 : Int32))
theorem t_L_law_324 (d : Nat) (hd : 10 ≤ d) (rc23 : Nat × Nat → Option (Nat × Nat) → Option (Nat × Nat) → Option (Nat × Nat) → Int32 → am_H → am_R) (hrc23 : ∀ x1 x2 x3 x4 h, Sim m_L_law d 23 [some (.inr (.inr (some (1, 0)))), some (.inr (.inr x1)), some (.inr (.inr x2)), some (.inr (.inr x3)), some (.inl x4), none, none] [] h (rc23 (1, 0) x1 x2 x3 x4 h)) (x1 : Option (Nat × Nat)) (x2 : Option (Nat × Nat)) (x3 : Option (Nat × Nat)) (x4 : Int32) (x5 : Int32) (s0 : Int32) (s1 : Int32) (s2 : Int32) (s3 : Option (Nat × Nat)) (h : am_H) : Sim m_L_law d 324 [some (.inr (.inr (some (1, 0)))), some (.inr (.inr x1)), some (.inr (.inr x2)), some (.inr (.inr x3)), some (.inl x4), some (.inl x5), none] [.inl s0, .inl s1, .inl s2, .inr (.inr s3)] h (f_L_law_324 rc23 (1, 0) x1 x2 x3 x4 x5 s0 s1 s2 s3 h) := by
  unfold f_L_law_324
  refine sim_ao3 (fun a480 e => ?_)
  refine sim_virt (d - 1) e dL_law_324 (k_X11_block (d - 1) (by omega) _ _ _ _ _) q_X11_block rfl rfl wm_RL_148 rfl rfl (by omega) (Nat.le_of_ble_eq_true rfl) am_nI (am_rI fun h478 v479 => ?_) am_eI
  refine sim_istore dL_law_327 (Nat.le_of_ble_eq_true rfl) ?_
  refine sim_aload_n dL_law_329 rfl ?_
  refine sim_ao0 (fun a483 e => ?_)
  refine sim_virt (d - 1) e dL_law_330 (k_X11_thrown (d - 1) (by omega) _  _) q_X11_thrown rfl rfl wm_RL_142 rfl rfl (by omega) (Nat.le_of_ble_eq_true rfl) am_nI (am_rI fun h481 v482 => ?_) am_eI
  refine sim_iload dL_law_333 rfl ?_
  refine sim_ic_eq 340 dL_law_335 (by decide) (fun c => ?_) (fun c => ?_)
  · refine sim_iload dL_law_340 rfl ?_
    refine sim_if_ne 364 dL_law_342 (by decide) (fun c => ?_) (fun c => ?_)
    · exact sim_lv (am_leS (am_leS (am_leS (am_leS (am_leS (am_leN (am_leN am_leT))))))) (t_L_law_364 d (by omega) _ hrc23 _ _ _ _ _ _)
    · refine sim_aload_n dL_law_345 rfl ?_
      refine sim_iconst (0) dL_law_346 (by decide +kernel) ?_
      refine sim_aL dL_law_347 (fun v484 => ?_)
      refine sim_iload dL_law_348 rfl ?_
      refine sim_if_eq 357 dL_law_350 (by decide) (fun c => ?_) (fun c => ?_)
      · refine sim_lconst (0) dL_law_357 (by decide +kernel) ?_
        exact sim_lv (am_leS (am_leS (am_leS (am_leS (am_leS (am_leN (am_leN am_leT))))))) (t_L_law_358 d (by omega) _ hrc23 _ _ _ _ _ _ _ _)
      · refine sim_lconst (1) dL_law_353 (by decide +kernel) ?_
        refine sim_goto 358 dL_law_354 (by decide) ?_
        exact sim_lv (am_leS (am_leS (am_leS (am_leS (am_leS (am_leN (am_leN am_leT))))))) (t_L_law_358 d (by omega) _ hrc23 _ _ _ _ _ _ _ _)
  · refine sim_iconst (0) dL_law_338 (by decide +kernel) ?_
    exact sim_zret dL_law_339 rfl
def f_L_law_291 (rc23 : Nat × Nat → Option (Nat × Nat) → Option (Nat × Nat) → Option (Nat × Nat) → Int32 → am_H → am_R) (_ : Nat × Nat) (x1 : Option (Nat × Nat)) (x2 : Option (Nat × Nat)) (x3 : Option (Nat × Nat)) (x4 : Int32) (s0 : Int32) (s1 : Int32) (s2 : Int32) (s3 : Option (Nat × Nat)) (h : am_H) : am_R := m_bI (f_L_block s3 s2 s1 s0 x3 h) fun h473 v474 => m_scr (x4 + (1 : Int32)) h473 fun v475 => m_scr (x4 + (2 : Int32)) h473 fun v476 => m_scr (x4 + (3 : Int32)) h473 fun v477 => if v477 = 0 then (f_L_law_324 rc23 (1, 0) x1 x2 x3 x4 v474 (0 : Int32) v476 v475 x2 h473) else (f_L_law_324 rc23 (1, 0) x1 x2 x3 x4 v474 (1 : Int32) v476 v475 x2 h473)
theorem t_L_law_291 (d : Nat) (hd : 10 ≤ d) (rc23 : Nat × Nat → Option (Nat × Nat) → Option (Nat × Nat) → Option (Nat × Nat) → Int32 → am_H → am_R) (hrc23 : ∀ x1 x2 x3 x4 h, Sim m_L_law d 23 [some (.inr (.inr (some (1, 0)))), some (.inr (.inr x1)), some (.inr (.inr x2)), some (.inr (.inr x3)), some (.inl x4), none, none] [] h (rc23 (1, 0) x1 x2 x3 x4 h)) (x1 : Option (Nat × Nat)) (x2 : Option (Nat × Nat)) (x3 : Option (Nat × Nat)) (x4 : Int32) (s0 : Int32) (s1 : Int32) (s2 : Int32) (s3 : Option (Nat × Nat)) (h : am_H) : Sim m_L_law d 291 [some (.inr (.inr (some (1, 0)))), some (.inr (.inr x1)), some (.inr (.inr x2)), some (.inr (.inr x3)), some (.inl x4), none, none] [.inl s0, .inl s1, .inl s2, .inr (.inr s3)] h (f_L_law_291 rc23 (1, 0) x1 x2 x3 x4 s0 s1 s2 s3 h) := by
  unfold f_L_law_291
  refine sim_aload_n dL_law_291 rfl ?_
  refine sim_staticX (d - 1) dL_law_292 (k_L_block (d - 1) (by omega) _ _ _ _ _ _) q_L_block wm_RL_145 rfl rfl (by omega) (Nat.le_of_ble_eq_true rfl) am_nI (am_rI fun h473 v474 => ?_) am_eI
  refine sim_istore dL_law_295 (Nat.le_of_ble_eq_true rfl) ?_
  refine sim_aload_n dL_law_297 rfl ?_
  refine sim_aload_n dL_law_298 rfl ?_
  refine sim_iload dL_law_299 rfl ?_
  refine sim_iconst (1) dL_law_301 (by decide +kernel) ?_
  refine sim_iadd dL_law_302 ?_
  refine sim_scr dL_law_303 (fun v475 => ?_)
  refine sim_aload_n dL_law_304 rfl ?_
  refine sim_iload dL_law_305 rfl ?_
  refine sim_iconst (2) dL_law_307 (by decide +kernel) ?_
  refine sim_iadd dL_law_308 ?_
  refine sim_scr dL_law_309 (fun v476 => ?_)
  refine sim_aload_n dL_law_310 rfl ?_
  refine sim_iload dL_law_311 rfl ?_
  refine sim_iconst (3) dL_law_313 (by decide +kernel) ?_
  refine sim_iadd dL_law_314 ?_
  refine sim_scr dL_law_315 (fun v477 => ?_)
  refine sim_if_eq 323 dL_law_316 (by decide) (fun c => ?_) (fun c => ?_)
  · refine sim_iconst (0) dL_law_323 (by decide +kernel) ?_
    exact sim_lv (am_leS (am_leS (am_leS (am_leS (am_leS (am_leS (am_leN am_leT))))))) (t_L_law_324 d (by omega) _ hrc23 _ _ _ _ _ _ _ _ _ _ _)
  · refine sim_iconst (1) dL_law_319 (by decide +kernel) ?_
    refine sim_goto 324 dL_law_320 (by decide) ?_
    exact sim_lv (am_leS (am_leS (am_leS (am_leS (am_leS (am_leS (am_leN am_leT))))))) (t_L_law_324 d (by omega) _ hrc23 _ _ _ _ _ _ _ _ _ _ _)
def f_L_law_261 (rc23 : Nat × Nat → Option (Nat × Nat) → Option (Nat × Nat) → Option (Nat × Nat) → Int32 → am_H → am_R) (_ : Nat × Nat) (x1 : Option (Nat × Nat)) (x2 : Option (Nat × Nat)) (x3 : Option (Nat × Nat)) (x4 : Int32) (h : am_H) : am_R := f_L_law_2795 rc23 (1, 0) x1 x2 x3 x4 h
theorem t_L_law_261 (d : Nat) (hd : 10 ≤ d) (rc23 : Nat × Nat → Option (Nat × Nat) → Option (Nat × Nat) → Option (Nat × Nat) → Int32 → am_H → am_R) (hrc23 : ∀ x1 x2 x3 x4 h, Sim m_L_law d 23 [some (.inr (.inr (some (1, 0)))), some (.inr (.inr x1)), some (.inr (.inr x2)), some (.inr (.inr x3)), some (.inl x4), none, none] [] h (rc23 (1, 0) x1 x2 x3 x4 h)) (x1 : Option (Nat × Nat)) (x2 : Option (Nat × Nat)) (x3 : Option (Nat × Nat)) (x4 : Int32) (h : am_H) : Sim m_L_law d 261 [some (.inr (.inr (some (1, 0)))), some (.inr (.inr x1)), some (.inr (.inr x2)), some (.inr (.inr x3)), some (.inl x4), none, none] [] h (f_L_law_261 rc23 (1, 0) x1 x2 x3 x4 h) := by
  unfold f_L_law_261
  refine sim_goto 2795 dL_law_261 (by decide) ?_
  exact sim_lv (am_leS (am_leS (am_leS (am_leS (am_leS (am_leN (am_leN am_leT))))))) (t_L_law_2795 d (by omega) _ hrc23 _ _ _ _ _ _)
def f_L_law_23  : Nat → Nat × Nat → Option (Nat × Nat) → Option (Nat × Nat) → Option (Nat × Nat) → Int32 → am_H → am_R
  | 0, _, _, _, _, _, _ => none
  | n + 1, _, x1, x2, x3, x4, h => m_sln h fun v11 => if (v11 - (5 : Int32)) < x4 then (m_rz h (1 : Int32)) else (m_scr x4 h fun v12 => if (v12 &&& (63 : Int32)) = 0 then (m_scr (x4 + (1 : Int32)) h fun v13 => m_bI (f_L_pass x1 v13 x3 h) fun h14 v15 => m_scr (x4 + (1 : Int32)) h14 fun v16 => m_ao x2 11 fun a19 => m_bI (f_X11_pass a19 v16 h14) fun h17 v18 => m_ao x2 11 fun a22 => m_bI (f_X11_thrown a22 h17) fun h20 v21 => if v21 = v15 then (if v15 = 0 then (m_aL x3 (0 : Int32) h20 fun v23 => if (lg_cmp v23 (Int32.toInt64 v18)) = 0 then (f_L_law_261 (f_L_law_23  n) (1, 0) x1 x2 x3 x4 h20) else (m_rz h20 (0 : Int32))) else (f_L_law_261 (f_L_law_23  n) (1, 0) x1 x2 x3 x4 h20)) else (m_rz h20 (0 : Int32))) else if (v12 &&& (63 : Int32)) = 1 then (m_scr (x4 + (1 : Int32)) h fun v24 => m_scr (x4 + (2 : Int32)) h fun v25 => m_scr (x4 + (3 : Int32)) h fun v26 => if v26 = 0 then (f_L_law_291 (f_L_law_23  n) (1, 0) x1 x2 x3 x4 (0 : Int32) v25 v24 x1 h) else (f_L_law_291 (f_L_law_23  n) (1, 0) x1 x2 x3 x4 (1 : Int32) v25 v24 x1 h)) else if (v12 &&& (63 : Int32)) = 2 then (m_scr (x4 + (1 : Int32)) h fun v27 => m_scr (x4 + (2 : Int32)) h fun v28 => m_bI (f_L_same x1 v27 v28 x3 h) fun h29 v30 => m_scr (x4 + (1 : Int32)) h29 fun v31 => m_scr (x4 + (2 : Int32)) h29 fun v32 => m_ao x2 11 fun a35 => m_bI (f_X11_same a35 v31 v32 h29) fun h33 v34 => m_ao x2 11 fun a38 => m_bI (f_X11_thrown a38 h33) fun h36 v37 => if v37 = v30 then (if v30 = 0 then (m_aL x3 (0 : Int32) h36 fun v39 => if v34 = 0 then (f_L_law_433 (f_L_law_23  n) (1, 0) x1 x2 x3 x4 (0 : Int64) v39 h36) else (f_L_law_433 (f_L_law_23  n) (1, 0) x1 x2 x3 x4 (1 : Int64) v39 h36)) else (f_L_law_439 (f_L_law_23  n) (1, 0) x1 x2 x3 x4 h36)) else (m_rz h36 (0 : Int32))) else if (v12 &&& (63 : Int32)) = 3 then (m_scr (x4 + (1 : Int32)) h fun v40 => m_scr (x4 + (2 : Int32)) h fun v41 => m_bI (f_L_work x1 v40 v41 x3 h) fun h42 v43 => m_scr (x4 + (1 : Int32)) h42 fun v44 => m_scr (x4 + (2 : Int32)) h42 fun v45 => m_ao x2 11 fun a48 => m_bI (f_X11_work a48 v44 v45 h42) fun h46 v47 => m_ao x2 11 fun a51 => m_bI (f_X11_thrown a51 h46) fun h49 v50 => if v50 = v43 then (if v43 = 0 then (m_aL x3 (0 : Int32) h49 fun v52 => if (lg_cmp v52 (Int32.toInt64 v47)) = 0 then (f_L_law_507 (f_L_law_23  n) (1, 0) x1 x2 x3 x4 h49) else (m_rz h49 (0 : Int32))) else (f_L_law_507 (f_L_law_23  n) (1, 0) x1 x2 x3 x4 h49)) else (m_rz h49 (0 : Int32))) else if (v12 &&& (63 : Int32)) = 4 then (m_scr (x4 + (1 : Int32)) h fun v53 => m_scr (x4 + (2 : Int32)) h fun v54 => m_bI (f_L_join x1 v53 v54 x3 h) fun h55 v56 => m_scr (x4 + (1 : Int32)) h55 fun v57 => m_scr (x4 + (2 : Int32)) h55 fun v58 => m_ao x2 11 fun a61 => m_bI (f_X11_join a61 v57 v58 h55) fun h59 v60 => m_ao x2 11 fun a64 => m_bI (f_X11_thrown a64 h59) fun h62 v63 => if v63 = v56 then (if v56 = 0 then (m_aL x3 (0 : Int32) h62 fun v65 => if (lg_cmp v65 (Int32.toInt64 v60)) = 0 then (f_L_law_575 (f_L_law_23  n) (1, 0) x1 x2 x3 x4 h62) else (m_rz h62 (0 : Int32))) else (f_L_law_575 (f_L_law_23  n) (1, 0) x1 x2 x3 x4 h62)) else (m_rz h62 (0 : Int32))) else if (v12 &&& (63 : Int32)) = 5 then (m_scr (x4 + (1 : Int32)) h fun v66 => m_scr (x4 + (2 : Int32)) h fun v67 => m_bI (f_L_leave x1 v66 v67 x3 h) fun h68 v69 => m_scr (x4 + (1 : Int32)) h68 fun v70 => m_scr (x4 + (2 : Int32)) h68 fun v71 => m_ao x2 11 fun a74 => m_bI (f_X11_leave a74 v70 v71 h68) fun h72 v73 => m_ao x2 11 fun a77 => m_bI (f_X11_thrown a77 h72) fun h75 v76 => if v76 = v69 then (if v69 = 0 then (m_aL x3 (0 : Int32) h75 fun v78 => if (lg_cmp v78 (Int32.toInt64 v73)) = 0 then (f_L_law_643 (f_L_law_23  n) (1, 0) x1 x2 x3 x4 h75) else (m_rz h75 (0 : Int32))) else (f_L_law_643 (f_L_law_23  n) (1, 0) x1 x2 x3 x4 h75)) else (m_rz h75 (0 : Int32))) else if (v12 &&& (63 : Int32)) = 6 then (m_scr (x4 + (1 : Int32)) h fun v79 => m_bI (f_L_chapter x1 v79 x3 h) fun h80 v81 => m_scr (x4 + (1 : Int32)) h80 fun v82 => m_ao x2 11 fun a85 => m_bI (f_X11_chapter a85 v82 h80) fun h83 v84 => m_ao x2 11 fun a88 => m_bI (f_X11_thrown a88 h83) fun h86 v87 => if v87 = v81 then (if v81 = 0 then (m_aL x3 (0 : Int32) h86 fun v89 => if (lg_cmp v89 (Int32.toInt64 v84)) = 0 then (f_L_law_699 (f_L_law_23  n) (1, 0) x1 x2 x3 x4 h86) else (m_rz h86 (0 : Int32))) else (f_L_law_699 (f_L_law_23  n) (1, 0) x1 x2 x3 x4 h86)) else (m_rz h86 (0 : Int32))) else if (v12 &&& (63 : Int32)) = 7 then (m_scr (x4 + (1 : Int32)) h fun v90 => m_bI (f_L_post x1 v90 x3 h) fun h91 v92 => m_scr (x4 + (1 : Int32)) h91 fun v93 => m_ao x2 11 fun a96 => m_bI (f_X11_post a96 v93 h91) fun h94 v95 => m_ao x2 11 fun a99 => m_bI (f_X11_thrown a99 h94) fun h97 v98 => if v98 = v92 then (if v92 = 0 then (m_aL x3 (0 : Int32) h97 fun v100 => if (lg_cmp v100 (Int32.toInt64 v95)) = 0 then (f_L_law_755 (f_L_law_23  n) (1, 0) x1 x2 x3 x4 h97) else (m_rz h97 (0 : Int32))) else (f_L_law_755 (f_L_law_23  n) (1, 0) x1 x2 x3 x4 h97)) else (m_rz h97 (0 : Int32))) else if (v12 &&& (63 : Int32)) = 8 then (m_scr (x4 + (1 : Int32)) h fun v101 => m_scr (x4 + (2 : Int32)) h fun v102 => if v102 = 0 then (f_L_law_779 (f_L_law_23  n) (1, 0) x1 x2 x3 x4 (0 : Int32) v101 x1 h) else (f_L_law_779 (f_L_law_23  n) (1, 0) x1 x2 x3 x4 (1 : Int32) v101 x1 h)) else if (v12 &&& (63 : Int32)) = 9 then (m_scr (x4 + (1 : Int32)) h fun v103 => m_scr (x4 + (2 : Int32)) h fun v104 => m_bI (f_L_collection x1 v103 v104 x3 h) fun h105 v106 => m_scr (x4 + (1 : Int32)) h105 fun v107 => m_scr (x4 + (2 : Int32)) h105 fun v108 => m_ao x2 11 fun a111 => m_bI (f_X11_collection a111 v107 v108 h105) fun h109 v110 => m_ao x2 11 fun a114 => m_bI (f_X11_thrown a114 h109) fun h112 v113 => if v113 = v106 then (if v106 = 0 then (m_aL x3 (0 : Int32) h112 fun v115 => if (lg_cmp v115 (Int32.toInt64 v110)) = 0 then (f_L_law_914 (f_L_law_23  n) (1, 0) x1 x2 x3 x4 h112) else (m_rz h112 (0 : Int32))) else (f_L_law_914 (f_L_law_23  n) (1, 0) x1 x2 x3 x4 h112)) else (m_rz h112 (0 : Int32))) else if (v12 &&& (63 : Int32)) = 10 then (m_scr (x4 + (1 : Int32)) h fun v116 => m_scr (x4 + (2 : Int32)) h fun v117 => m_bI (f_L_collect x1 v116 v117 h) fun h118 v119 => m_scr (x4 + (1 : Int32)) h118 fun v120 => m_scr (x4 + (2 : Int32)) h118 fun v121 => m_ao x2 11 fun a124 => m_bV (f_X11_collect a124 v120 v121 h118) fun h122 => m_ao x2 11 fun a127 => m_bI (f_X11_thrown a127 h122) fun h125 v126 => if v126 = v119 then (f_L_law_2795 (f_L_law_23  n) (1, 0) x1 x2 x3 x4 h125) else (m_rz h125 (0 : Int32))) else if (v12 &&& (63 : Int32)) = 11 then (m_scr (x4 + (1 : Int32)) h fun v128 => m_scr (x4 + (2 : Int32)) h fun v129 => m_bI (f_L_sees x1 v128 v129 x3 h) fun h130 v131 => m_scr (x4 + (1 : Int32)) h130 fun v132 => m_scr (x4 + (2 : Int32)) h130 fun v133 => m_ao x2 11 fun a136 => m_bI (f_X11_sees a136 v132 v133 h130) fun h134 v135 => m_ao x2 11 fun a139 => m_bI (f_X11_thrown a139 h134) fun h137 v138 => if v138 = v131 then (if v131 = 0 then (m_aL x3 (0 : Int32) h137 fun v140 => if v135 = 0 then (f_L_law_1031 (f_L_law_23  n) (1, 0) x1 x2 x3 x4 (0 : Int64) v140 h137) else (f_L_law_1031 (f_L_law_23  n) (1, 0) x1 x2 x3 x4 (1 : Int64) v140 h137)) else (f_L_law_1037 (f_L_law_23  n) (1, 0) x1 x2 x3 x4 h137)) else (m_rz h137 (0 : Int32))) else if (v12 &&& (63 : Int32)) = 12 then (m_scr (x4 + (1 : Int32)) h fun v141 => m_scr (x4 + (2 : Int32)) h fun v142 => m_bI (f_L_owners x1 v141 v142 x3 h) fun h143 v144 => m_scr (x4 + (1 : Int32)) h143 fun v145 => m_scr (x4 + (2 : Int32)) h143 fun v146 => m_ao x2 11 fun a149 => m_bI (f_X11_owners a149 v145 v146 h143) fun h147 v148 => m_ao x2 11 fun a152 => m_bI (f_X11_thrown a152 h147) fun h150 v151 => if v151 = v144 then (if v144 = 0 then (m_aL x3 (0 : Int32) h150 fun v153 => if (lg_cmp v153 (Int32.toInt64 v148)) = 0 then (f_L_law_1105 (f_L_law_23  n) (1, 0) x1 x2 x3 x4 h150) else (m_rz h150 (0 : Int32))) else (f_L_law_1105 (f_L_law_23  n) (1, 0) x1 x2 x3 x4 h150)) else (m_rz h150 (0 : Int32))) else if (v12 &&& (63 : Int32)) = 13 then (m_bI (f_L_tag x1 x3 h) fun h154 v155 => m_ao x2 11 fun a158 => m_bI (f_X11_tag a158 h154) fun h156 v157 => m_ao x2 11 fun a161 => m_bI (f_X11_thrown a161 h156) fun h159 v160 => if v160 = v155 then (if v155 = 0 then (m_aL x3 (0 : Int32) h159 fun v162 => if (lg_cmp v162 (Int32.toInt64 v157)) = 0 then (f_L_law_1149 (f_L_law_23  n) (1, 0) x1 x2 x3 x4 h159) else (m_rz h159 (0 : Int32))) else (f_L_law_1149 (f_L_law_23  n) (1, 0) x1 x2 x3 x4 h159)) else (m_rz h159 (0 : Int32))) else if (v12 &&& (63 : Int32)) = 14 then (m_scr (x4 + (1 : Int32)) h fun v163 => m_bI (f_L_make x1 v163 x3 h) fun h164 v165 => m_scr (x4 + (1 : Int32)) h164 fun v166 => m_ao x2 11 fun a169 => m_bI (f_X11_make a169 v166 h164) fun h167 v168 => m_ao x2 11 fun a172 => m_bI (f_X11_thrown a172 h167) fun h170 v171 => if v171 = v165 then (if v165 = 0 then (m_aL x3 (0 : Int32) h170 fun v173 => if (lg_cmp v173 (Int32.toInt64 v168)) = 0 then (f_L_law_1205 (f_L_law_23  n) (1, 0) x1 x2 x3 x4 h170) else (m_rz h170 (0 : Int32))) else (f_L_law_1205 (f_L_law_23  n) (1, 0) x1 x2 x3 x4 h170)) else (m_rz h170 (0 : Int32))) else if (v12 &&& (63 : Int32)) = 15 then (m_scr (x4 + (1 : Int32)) h fun v174 => m_scr (x4 + (2 : Int32)) h fun v175 => m_bI (f_L_merge x1 v174 v175 x3 h) fun h176 v177 => m_scr (x4 + (1 : Int32)) h176 fun v178 => m_scr (x4 + (2 : Int32)) h176 fun v179 => m_ao x2 11 fun a182 => m_bI (f_X11_merge a182 v178 v179 h176) fun h180 v181 => m_ao x2 11 fun a185 => m_bI (f_X11_thrown a185 h180) fun h183 v184 => if v184 = v177 then (if v177 = 0 then (m_aL x3 (0 : Int32) h183 fun v186 => if (lg_cmp v186 (Int32.toInt64 v181)) = 0 then (f_L_law_1273 (f_L_law_23  n) (1, 0) x1 x2 x3 x4 h183) else (m_rz h183 (0 : Int32))) else (f_L_law_1273 (f_L_law_23  n) (1, 0) x1 x2 x3 x4 h183)) else (m_rz h183 (0 : Int32))) else if (v12 &&& (63 : Int32)) = 16 then (m_scr (x4 + (1 : Int32)) h fun v187 => m_scr (x4 + (2 : Int32)) h fun v188 => m_scr (x4 + (3 : Int32)) h fun v189 => if v189 = 0 then (f_L_law_1303 (f_L_law_23  n) (1, 0) x1 x2 x3 x4 (0 : Int32) v188 v187 x1 h) else (f_L_law_1303 (f_L_law_23  n) (1, 0) x1 x2 x3 x4 (1 : Int32) v188 v187 x1 h)) else if (v12 &&& (63 : Int32)) = 17 then (m_scr (x4 + (1 : Int32)) h fun v190 => m_scr (x4 + (2 : Int32)) h fun v191 => m_bI (f_L_ofTag x1 v190 v191 x3 h) fun h192 v193 => m_scr (x4 + (1 : Int32)) h192 fun v194 => m_scr (x4 + (2 : Int32)) h192 fun v195 => m_ao x2 11 fun a198 => m_bI (f_X11_ofTag a198 v194 v195 h192) fun h196 v197 => m_ao x2 11 fun a201 => m_bI (f_X11_thrown a201 h196) fun h199 v200 => if v200 = v193 then (if v193 = 0 then (m_aL x3 (0 : Int32) h199 fun v202 => if (lg_cmp v202 (Int32.toInt64 v197)) = 0 then (f_L_law_1444 (f_L_law_23  n) (1, 0) x1 x2 x3 x4 h199) else (m_rz h199 (0 : Int32))) else (f_L_law_1444 (f_L_law_23  n) (1, 0) x1 x2 x3 x4 h199)) else (m_rz h199 (0 : Int32))) else if (v12 &&& (63 : Int32)) = 18 then (m_scr (x4 + (1 : Int32)) h fun v203 => m_scr (x4 + (2 : Int32)) h fun v204 => m_scr (x4 + (3 : Int32)) h fun v205 => if v205 = 0 then (f_L_law_1474 (f_L_law_23  n) (1, 0) x1 x2 x3 x4 (0 : Int32) v204 v203 x1 h) else (f_L_law_1474 (f_L_law_23  n) (1, 0) x1 x2 x3 x4 (1 : Int32) v204 v203 x1 h)) else if (v12 &&& (63 : Int32)) = 19 then (m_scr (x4 + (1 : Int32)) h fun v206 => m_bI (f_L_wave x1 v206 x3 h) fun h207 v208 => m_scr (x4 + (1 : Int32)) h207 fun v209 => m_ao x2 11 fun a212 => m_bI (f_X11_wave a212 v209 h207) fun h210 v211 => m_ao x2 11 fun a215 => m_bI (f_X11_thrown a215 h210) fun h213 v214 => if v214 = v208 then (if v208 = 0 then (m_aL x3 (0 : Int32) h213 fun v216 => if (lg_cmp v216 (Int32.toInt64 v211)) = 0 then (f_L_law_1603 (f_L_law_23  n) (1, 0) x1 x2 x3 x4 h213) else (m_rz h213 (0 : Int32))) else (f_L_law_1603 (f_L_law_23  n) (1, 0) x1 x2 x3 x4 h213)) else (m_rz h213 (0 : Int32))) else if (v12 &&& (63 : Int32)) = 20 then (m_ao x1 10 fun a219 => m_bI (f_X10_waiting a219 h) fun h217 v218 => m_ao x2 11 fun a222 => m_bI (f_X11_waiting a222 h217) fun h220 v221 => if v218 = v221 then (f_L_law_2795 (f_L_law_23  n) (1, 0) x1 x2 x3 x4 h220) else (m_rz h220 (0 : Int32))) else if (v12 &&& (63 : Int32)) = 21 then (m_scr (x4 + (1 : Int32)) h fun v223 => m_scr (x4 + (2 : Int32)) h fun v224 => if v224 = 0 then (f_L_law_1640 (f_L_law_23  n) (1, 0) x1 x2 x3 x4 (0 : Int32) v223 x1 h) else (f_L_law_1640 (f_L_law_23  n) (1, 0) x1 x2 x3 x4 (1 : Int32) v223 x1 h)) else if (v12 &&& (63 : Int32)) = 22 then (m_scr (x4 + (1 : Int32)) h fun v225 => m_scr (x4 + (2 : Int32)) h fun v226 => m_scr (x4 + (3 : Int32)) h fun v227 => m_bI (f_L_type x1 (((Int32.toInt64 v225) <<< (((32 : Int32)).toInt64 &&& 63)) ||| ((Int32.toInt64 v226) &&& (4294967295 : Int64))) v227 x3 h) fun h228 v229 => m_scr (x4 + (1 : Int32)) h228 fun v230 => m_scr (x4 + (2 : Int32)) h228 fun v231 => m_scr (x4 + (3 : Int32)) h228 fun v232 => m_ao x2 11 fun a235 => m_bI (f_X11_type a235 (((Int32.toInt64 v230) <<< (((32 : Int32)).toInt64 &&& 63)) ||| ((Int32.toInt64 v231) &&& (4294967295 : Int64))) v232 h228) fun h233 v234 => m_ao x2 11 fun a238 => m_bI (f_X11_thrown a238 h233) fun h236 v237 => if v237 = v229 then (if v229 = 0 then (m_aL x3 (0 : Int32) h236 fun v239 => if (lg_cmp v239 (Int32.toInt64 v234)) = 0 then (f_L_law_1800 (f_L_law_23  n) (1, 0) x1 x2 x3 x4 h236) else (m_rz h236 (0 : Int32))) else (f_L_law_1800 (f_L_law_23  n) (1, 0) x1 x2 x3 x4 h236)) else (m_rz h236 (0 : Int32))) else if (v12 &&& (63 : Int32)) = 23 then (m_ao x1 10 fun a242 => m_bI (f_X10_wipe a242 h) fun h240 v241 => m_ao x2 11 fun a245 => m_bI (f_X11_wipe a245 h240) fun h243 v244 => if v241 = v244 then (f_L_law_2795 (f_L_law_23  n) (1, 0) x1 x2 x3 x4 h243) else (m_rz h243 (0 : Int32))) else if (v12 &&& (63 : Int32)) = 24 then (m_ao x1 10 fun a248 => m_bI (f_X10_fault a248 h) fun h246 v247 => m_ao x2 11 fun a251 => m_bI (f_X11_fault a251 h246) fun h249 v250 => if v247 = v250 then (f_L_law_2795 (f_L_law_23  n) (1, 0) x1 x2 x3 x4 h249) else (m_rz h249 (0 : Int32))) else if (v12 &&& (63 : Int32)) = 25 then (m_scr (x4 + (1 : Int32)) h fun v252 => m_scr (x4 + (2 : Int32)) h fun v253 => if v253 = 0 then (f_L_law_1850 (f_L_law_23  n) (1, 0) x1 x2 x3 x4 (0 : Int32) v252 x1 h) else (f_L_law_1850 (f_L_law_23  n) (1, 0) x1 x2 x3 x4 (1 : Int32) v252 x1 h)) else if (v12 &&& (63 : Int32)) = 26 then (m_scr (x4 + (1 : Int32)) h fun v254 => m_scr (x4 + (2 : Int32)) h fun v255 => m_bI (f_L_result x1 v254 v255 x3 h) fun h256 v257 => m_scr (x4 + (1 : Int32)) h256 fun v258 => m_scr (x4 + (2 : Int32)) h256 fun v259 => m_ao x2 11 fun a262 => m_bI (f_X11_result a262 v258 v259 h256) fun h260 v261 => m_ao x2 11 fun a265 => m_bI (f_X11_thrown a265 h260) fun h263 v264 => if v264 = v257 then (if v257 = 0 then (m_aL x3 (0 : Int32) h263 fun v266 => if (lg_cmp v266 (Int32.toInt64 v261)) = 0 then (f_L_law_1978 (f_L_law_23  n) (1, 0) x1 x2 x3 x4 h263) else (m_rz h263 (0 : Int32))) else (f_L_law_1978 (f_L_law_23  n) (1, 0) x1 x2 x3 x4 h263)) else (m_rz h263 (0 : Int32))) else if (v12 &&& (63 : Int32)) = 27 then (m_scr (x4 + (1 : Int32)) h fun v267 => m_scr (x4 + (2 : Int32)) h fun v268 => m_scr (x4 + (3 : Int32)) h fun v269 => m_scr (x4 + (4 : Int32)) h fun v270 => m_bI (f_L_sign x1 v267 v268 v269 v270 x3 h) fun h271 v272 => m_scr (x4 + (1 : Int32)) h271 fun v273 => m_scr (x4 + (2 : Int32)) h271 fun v274 => m_scr (x4 + (3 : Int32)) h271 fun v275 => m_scr (x4 + (4 : Int32)) h271 fun v276 => m_ao x2 11 fun a279 => m_bI (f_X11_sign a279 v273 v274 v275 v276 h271) fun h277 v278 => m_ao x2 11 fun a282 => m_bI (f_X11_thrown a282 h277) fun h280 v281 => if v281 = v272 then (if v272 = 0 then (m_aL x3 (0 : Int32) h280 fun v283 => if (lg_cmp v283 (Int32.toInt64 v278)) = 0 then (f_L_law_2070 (f_L_law_23  n) (1, 0) x1 x2 x3 x4 h280) else (m_rz h280 (0 : Int32))) else (f_L_law_2070 (f_L_law_23  n) (1, 0) x1 x2 x3 x4 h280)) else (m_rz h280 (0 : Int32))) else if (v12 &&& (63 : Int32)) = 28 then (m_scr (x4 + (1 : Int32)) h fun v284 => m_bI (f_L_match x1 v284 x3 h) fun h285 v286 => m_scr (x4 + (1 : Int32)) h285 fun v287 => m_ao x2 11 fun a290 => m_bI (f_X11_match a290 v287 h285) fun h288 v289 => m_ao x2 11 fun a293 => m_bI (f_X11_thrown a293 h288) fun h291 v292 => if v292 = v286 then (if v286 = 0 then (m_aL x3 (0 : Int32) h291 fun v294 => if (lg_cmp v294 (Int32.toInt64 v289)) = 0 then (f_L_law_2126 (f_L_law_23  n) (1, 0) x1 x2 x3 x4 h291) else (m_rz h291 (0 : Int32))) else (f_L_law_2126 (f_L_law_23  n) (1, 0) x1 x2 x3 x4 h291)) else (m_rz h291 (0 : Int32))) else if (v12 &&& (63 : Int32)) = 29 then (m_ao x1 10 fun a297 => m_bI (f_X10_matches a297 h) fun h295 v296 => m_ao x2 11 fun a300 => m_bI (f_X11_matches a300 h295) fun h298 v299 => if v296 = v299 then (f_L_law_2795 (f_L_law_23  n) (1, 0) x1 x2 x3 x4 h298) else (m_rz h298 (0 : Int32))) else if (v12 &&& (63 : Int32)) = 30 then (m_scr (x4 + (1 : Int32)) h fun v301 => m_scr (x4 + (2 : Int32)) h fun v302 => if v302 = 0 then (f_L_law_2163 (f_L_law_23  n) (1, 0) x1 x2 x3 x4 (0 : Int32) v301 x1 h) else (f_L_law_2163 (f_L_law_23  n) (1, 0) x1 x2 x3 x4 (1 : Int32) v301 x1 h)) else if (v12 &&& (63 : Int32)) = 31 then (m_scr (x4 + (1 : Int32)) h fun v303 => m_scr (x4 + (2 : Int32)) h fun v304 => m_scr (x4 + (3 : Int32)) h fun v305 => m_bI (f_L_comment x1 v303 v304 v305 x3 h) fun h306 v307 => m_scr (x4 + (1 : Int32)) h306 fun v308 => m_scr (x4 + (2 : Int32)) h306 fun v309 => m_scr (x4 + (3 : Int32)) h306 fun v310 => m_ao x2 11 fun a313 => m_bI (f_X11_comment a313 v308 v309 v310 h306) fun h311 v312 => m_ao x2 11 fun a316 => m_bI (f_X11_thrown a316 h311) fun h314 v315 => if v315 = v307 then (if v307 = 0 then (m_aL x3 (0 : Int32) h314 fun v317 => if (lg_cmp v317 (Int32.toInt64 v312)) = 0 then (f_L_law_2310 (f_L_law_23  n) (1, 0) x1 x2 x3 x4 h314) else (m_rz h314 (0 : Int32))) else (f_L_law_2310 (f_L_law_23  n) (1, 0) x1 x2 x3 x4 h314)) else (m_rz h314 (0 : Int32))) else if (v12 &&& (63 : Int32)) = 32 then (m_scr (x4 + (1 : Int32)) h fun v318 => m_scr (x4 + (2 : Int32)) h fun v319 => m_bI (f_L_change x1 v318 v319 x3 h) fun h320 v321 => m_scr (x4 + (1 : Int32)) h320 fun v322 => m_scr (x4 + (2 : Int32)) h320 fun v323 => m_ao x2 11 fun a326 => m_bI (f_X11_change a326 v322 v323 h320) fun h324 v325 => m_ao x2 11 fun a329 => m_bI (f_X11_thrown a329 h324) fun h327 v328 => if v328 = v321 then (if v321 = 0 then (m_aL x3 (0 : Int32) h327 fun v330 => if v325 = 0 then (f_L_law_2379 (f_L_law_23  n) (1, 0) x1 x2 x3 x4 (0 : Int64) v330 h327) else (f_L_law_2379 (f_L_law_23  n) (1, 0) x1 x2 x3 x4 (1 : Int64) v330 h327)) else (f_L_law_2385 (f_L_law_23  n) (1, 0) x1 x2 x3 x4 h327)) else (m_rz h327 (0 : Int32))) else if (v12 &&& (63 : Int32)) = 33 then (m_scr (x4 + (1 : Int32)) h fun v331 => m_scr (x4 + (2 : Int32)) h fun v332 => m_bI (f_L_reads x1 v331 v332 x3 h) fun h333 v334 => m_scr (x4 + (1 : Int32)) h333 fun v335 => m_scr (x4 + (2 : Int32)) h333 fun v336 => m_ao x2 11 fun a339 => m_bI (f_X11_reads a339 v335 v336 h333) fun h337 v338 => m_ao x2 11 fun a342 => m_bI (f_X11_thrown a342 h337) fun h340 v341 => if v341 = v334 then (if v334 = 0 then (m_aL x3 (0 : Int32) h340 fun v343 => if (lg_cmp v343 (Int32.toInt64 v338)) = 0 then (f_L_law_2453 (f_L_law_23  n) (1, 0) x1 x2 x3 x4 h340) else (m_rz h340 (0 : Int32))) else (f_L_law_2453 (f_L_law_23  n) (1, 0) x1 x2 x3 x4 h340)) else (m_rz h340 (0 : Int32))) else if (v12 &&& (63 : Int32)) = 34 then (m_scr (x4 + (1 : Int32)) h fun v344 => m_scr (x4 + (2 : Int32)) h fun v345 => m_bI (f_L_kudos x1 v344 v345 x3 h) fun h346 v347 => m_scr (x4 + (1 : Int32)) h346 fun v348 => m_scr (x4 + (2 : Int32)) h346 fun v349 => m_ao x2 11 fun a352 => m_bI (f_X11_kudos a352 v348 v349 h346) fun h350 v351 => m_ao x2 11 fun a355 => m_bI (f_X11_thrown a355 h350) fun h353 v354 => if v354 = v347 then (if v347 = 0 then (m_aL x3 (0 : Int32) h353 fun v356 => if (lg_cmp v356 (Int32.toInt64 v351)) = 0 then (f_L_law_2521 (f_L_law_23  n) (1, 0) x1 x2 x3 x4 h353) else (m_rz h353 (0 : Int32))) else (f_L_law_2521 (f_L_law_23  n) (1, 0) x1 x2 x3 x4 h353)) else (m_rz h353 (0 : Int32))) else if (v12 &&& (63 : Int32)) = 35 then (m_scr (x4 + (1 : Int32)) h fun v357 => m_bI (f_L_liked x1 v357 x3 h) fun h358 v359 => m_scr (x4 + (1 : Int32)) h358 fun v360 => m_ao x2 11 fun a363 => m_bI (f_X11_liked a363 v360 h358) fun h361 v362 => m_ao x2 11 fun a366 => m_bI (f_X11_thrown a366 h361) fun h364 v365 => if v365 = v359 then (if v359 = 0 then (m_aL x3 (0 : Int32) h364 fun v367 => if (lg_cmp v367 (Int32.toInt64 v362)) = 0 then (f_L_law_2577 (f_L_law_23  n) (1, 0) x1 x2 x3 x4 h364) else (m_rz h364 (0 : Int32))) else (f_L_law_2577 (f_L_law_23  n) (1, 0) x1 x2 x3 x4 h364)) else (m_rz h364 (0 : Int32))) else if (v12 &&& (63 : Int32)) = 36 then (m_scr (x4 + (1 : Int32)) h fun v368 => m_scr (x4 + (2 : Int32)) h fun v369 => if v369 = 0 then (f_L_law_2601 (f_L_law_23  n) (1, 0) x1 x2 x3 x4 (0 : Int32) v368 x1 h) else (f_L_law_2601 (f_L_law_23  n) (1, 0) x1 x2 x3 x4 (1 : Int32) v368 x1 h)) else if (v12 &&& (63 : Int32)) = 37 then (m_scr (x4 + (1 : Int32)) h fun v370 => m_bI (f_L_news x1 v370 x3 h) fun h371 v372 => m_scr (x4 + (1 : Int32)) h371 fun v373 => m_ao x2 11 fun a376 => m_bI (f_X11_news a376 v373 h371) fun h374 v375 => m_ao x2 11 fun a379 => m_bI (f_X11_thrown a379 h374) fun h377 v378 => if v378 = v372 then (if v372 = 0 then (m_aL x3 (0 : Int32) h377 fun v380 => if (lg_cmp v380 (Int32.toInt64 v375)) = 0 then (f_L_law_2736 (f_L_law_23  n) (1, 0) x1 x2 x3 x4 h377) else (m_rz h377 (0 : Int32))) else (f_L_law_2736 (f_L_law_23  n) (1, 0) x1 x2 x3 x4 h377)) else (m_rz h377 (0 : Int32))) else if (v12 &&& (63 : Int32)) = 38 then (m_scr (x4 + (1 : Int32)) h fun v381 => m_bI (f_L_digest x1 v381 x3 h) fun h382 v383 => m_scr (x4 + (1 : Int32)) h382 fun v384 => m_ao x2 11 fun a387 => m_bI (f_X11_digest a387 v384 h382) fun h385 v386 => m_ao x2 11 fun a390 => m_bI (f_X11_thrown a390 h385) fun h388 v389 => if v389 = v383 then (if v383 = 0 then (m_aL x3 (0 : Int32) h388 fun v391 => if (lg_cmp v391 (Int32.toInt64 v386)) = 0 then (f_L_law_2792 (f_L_law_23  n) (1, 0) x1 x2 x3 x4 h388) else (m_rz h388 (0 : Int32))) else (f_L_law_2792 (f_L_law_23  n) (1, 0) x1 x2 x3 x4 h388)) else (m_rz h388 (0 : Int32))) else (f_L_law_2795 (f_L_law_23  n) (1, 0) x1 x2 x3 x4 h))
theorem t_L_law_23 (d : Nat) (hd : 10 ≤ d)  : ∀ (n : Nat) (x1 : Option (Nat × Nat)) (x2 : Option (Nat × Nat)) (x3 : Option (Nat × Nat)) (x4 : Int32) (h : am_H), Sim m_L_law d 23 [some (.inr (.inr (some (1, 0)))), some (.inr (.inr x1)), some (.inr (.inr x2)), some (.inr (.inr x3)), some (.inl x4), none, none] [] h (f_L_law_23  n (1, 0) x1 x2 x3 x4 h) := by
  intro n
  induction n with
  | zero => intros; exact sim_none
  | succ n hrc23 =>
    intro x1 x2 x3 x4 h
    rw [f_L_law_23]
    refine sim_iload dL_law_23 rfl ?_
    refine sim_aload_n dL_law_25 rfl ?_
    refine sim_sln dL_law_26 (fun v11 => ?_)
    refine sim_iconst (5) dL_law_27 (by decide +kernel) ?_
    refine sim_isub dL_law_28 ?_
    refine sim_ic_gt 2801 dL_law_29 (by decide) (fun c => ?_) (fun c => ?_)
    · refine sim_iconst (1) dL_law_2801 (by decide +kernel) ?_
      exact sim_zret dL_law_2802 rfl
    · refine sim_aload_n dL_law_32 rfl ?_
      refine sim_iload dL_law_33 rfl ?_
      refine sim_scr dL_law_35 (fun v12 => ?_)
      refine sim_bipush (63) dL_law_36 (by decide +kernel) ?_
      refine sim_iand dL_law_38 ?_
      refine sim_case (fun c39_0 => ?_) (fun c39_0 => ?_)
      · refine sim_tableIn (off := 169) (0) 208 c39_0 dL_law_39 (by decide +kernel) (by decide +kernel) (by decide +kernel) (by decide) ?_
        refine sim_aload_n dL_law_208 rfl ?_
        refine sim_aload_n dL_law_209 rfl ?_
        refine sim_iload dL_law_210 rfl ?_
        refine sim_iconst (1) dL_law_212 (by decide +kernel) ?_
        refine sim_iadd dL_law_213 ?_
        refine sim_scr dL_law_214 (fun v13 => ?_)
        refine sim_aload_n dL_law_215 rfl ?_
        refine sim_staticX (d - 1) dL_law_216 (k_L_pass (d - 1) (by omega) _ _ _ _) q_L_pass wm_RL_136 rfl rfl (by omega) (Nat.le_of_ble_eq_true rfl) am_nI (am_rI fun h14 v15 => ?_) am_eI
        refine sim_istore dL_law_219 (Nat.le_of_ble_eq_true rfl) ?_
        refine sim_aload_n dL_law_221 rfl ?_
        refine sim_aload_n dL_law_222 rfl ?_
        refine sim_iload dL_law_223 rfl ?_
        refine sim_iconst (1) dL_law_225 (by decide +kernel) ?_
        refine sim_iadd dL_law_226 ?_
        refine sim_scr dL_law_227 (fun v16 => ?_)
        refine sim_ao1 (fun a19 e => ?_)
        refine sim_virt (d - 1) e dL_law_228 (k_X11_pass (d - 1) (by omega) _ _ _) q_X11_pass rfl rfl wm_RL_141 rfl rfl (by omega) (Nat.le_of_ble_eq_true rfl) am_nI (am_rI fun h17 v18 => ?_) am_eI
        refine sim_istore dL_law_231 (Nat.le_of_ble_eq_true rfl) ?_
        refine sim_aload_n dL_law_233 rfl ?_
        refine sim_ao0 (fun a22 e => ?_)
        refine sim_virt (d - 1) e dL_law_234 (k_X11_thrown (d - 1) (by omega) _  _) q_X11_thrown rfl rfl wm_RL_142 rfl rfl (by omega) (Nat.le_of_ble_eq_true rfl) am_nI (am_rI fun h20 v21 => ?_) am_eI
        refine sim_iload dL_law_237 rfl ?_
        refine sim_ic_eq 244 dL_law_239 (by decide) (fun c => ?_) (fun c => ?_)
        · refine sim_iload dL_law_244 rfl ?_
          refine sim_if_ne 261 dL_law_246 (by decide) (fun c => ?_) (fun c => ?_)
          · exact sim_lv (am_leS (am_leS (am_leS (am_leS (am_leS (am_leN (am_leN am_leT))))))) (t_L_law_261 d (by omega) _ hrc23 _ _ _ _ _ _)
          · refine sim_aload_n dL_law_249 rfl ?_
            refine sim_iconst (0) dL_law_250 (by decide +kernel) ?_
            refine sim_aL dL_law_251 (fun v23 => ?_)
            refine sim_iload dL_law_252 rfl ?_
            refine sim_i2l dL_law_254 ?_
            refine sim_lcmp dL_law_255 ?_
            refine sim_if_eq 261 dL_law_256 (by decide) (fun c => ?_) (fun c => ?_)
            · exact sim_lv (am_leS (am_leS (am_leS (am_leS (am_leS (am_leN (am_leN am_leT))))))) (t_L_law_261 d (by omega) _ hrc23 _ _ _ _ _ _)
            · refine sim_iconst (0) dL_law_259 (by decide +kernel) ?_
              exact sim_zret dL_law_260 rfl
        · refine sim_iconst (0) dL_law_242 (by decide +kernel) ?_
          exact sim_zret dL_law_243 rfl
      refine sim_case (fun c39_1 => ?_) (fun c39_1 => ?_)
      · refine sim_tableIn (off := 225) (1) 264 c39_1 dL_law_39 (by decide +kernel) (by decide +kernel) (by decide +kernel) (by decide) ?_
        refine sim_aload_n dL_law_264 rfl ?_
        refine sim_aload_n dL_law_265 rfl ?_
        refine sim_iload dL_law_266 rfl ?_
        refine sim_iconst (1) dL_law_268 (by decide +kernel) ?_
        refine sim_iadd dL_law_269 ?_
        refine sim_scr dL_law_270 (fun v24 => ?_)
        refine sim_aload_n dL_law_271 rfl ?_
        refine sim_iload dL_law_272 rfl ?_
        refine sim_iconst (2) dL_law_274 (by decide +kernel) ?_
        refine sim_iadd dL_law_275 ?_
        refine sim_scr dL_law_276 (fun v25 => ?_)
        refine sim_aload_n dL_law_277 rfl ?_
        refine sim_iload dL_law_278 rfl ?_
        refine sim_iconst (3) dL_law_280 (by decide +kernel) ?_
        refine sim_iadd dL_law_281 ?_
        refine sim_scr dL_law_282 (fun v26 => ?_)
        refine sim_if_eq 290 dL_law_283 (by decide) (fun c => ?_) (fun c => ?_)
        · refine sim_iconst (0) dL_law_290 (by decide +kernel) ?_
          exact sim_lv (am_leS (am_leS (am_leS (am_leS (am_leS (am_leN (am_leN am_leT))))))) (t_L_law_291 d (by omega) _ hrc23 _ _ _ _ _ _ _ _ _ _)
        · refine sim_iconst (1) dL_law_286 (by decide +kernel) ?_
          refine sim_goto 291 dL_law_287 (by decide) ?_
          exact sim_lv (am_leS (am_leS (am_leS (am_leS (am_leS (am_leN (am_leN am_leT))))))) (t_L_law_291 d (by omega) _ hrc23 _ _ _ _ _ _ _ _ _ _)
      refine sim_case (fun c39_2 => ?_) (fun c39_2 => ?_)
      · refine sim_tableIn (off := 328) (2) 367 c39_2 dL_law_39 (by decide +kernel) (by decide +kernel) (by decide +kernel) (by decide) ?_
        refine sim_aload_n dL_law_367 rfl ?_
        refine sim_aload_n dL_law_368 rfl ?_
        refine sim_iload dL_law_369 rfl ?_
        refine sim_iconst (1) dL_law_371 (by decide +kernel) ?_
        refine sim_iadd dL_law_372 ?_
        refine sim_scr dL_law_373 (fun v27 => ?_)
        refine sim_aload_n dL_law_374 rfl ?_
        refine sim_iload dL_law_375 rfl ?_
        refine sim_iconst (2) dL_law_377 (by decide +kernel) ?_
        refine sim_iadd dL_law_378 ?_
        refine sim_scr dL_law_379 (fun v28 => ?_)
        refine sim_aload_n dL_law_380 rfl ?_
        refine sim_staticX (d - 1) dL_law_381 (k_L_same (d - 1) (by omega) _ _ _ _ _) q_L_same wm_RL_149 rfl rfl (by omega) (Nat.le_of_ble_eq_true rfl) am_nI (am_rI fun h29 v30 => ?_) am_eI
        refine sim_istore dL_law_384 (Nat.le_of_ble_eq_true rfl) ?_
        refine sim_aload_n dL_law_386 rfl ?_
        refine sim_aload_n dL_law_387 rfl ?_
        refine sim_iload dL_law_388 rfl ?_
        refine sim_iconst (1) dL_law_390 (by decide +kernel) ?_
        refine sim_iadd dL_law_391 ?_
        refine sim_scr dL_law_392 (fun v31 => ?_)
        refine sim_aload_n dL_law_393 rfl ?_
        refine sim_iload dL_law_394 rfl ?_
        refine sim_iconst (2) dL_law_396 (by decide +kernel) ?_
        refine sim_iadd dL_law_397 ?_
        refine sim_scr dL_law_398 (fun v32 => ?_)
        refine sim_ao2 (fun a35 e => ?_)
        refine sim_virt (d - 1) e dL_law_399 (k_X11_same (d - 1) (by omega) _ _ _ _) q_X11_same rfl rfl wm_RL_152 rfl rfl (by omega) (Nat.le_of_ble_eq_true rfl) am_nI (am_rI fun h33 v34 => ?_) am_eI
        refine sim_istore dL_law_402 (Nat.le_of_ble_eq_true rfl) ?_
        refine sim_aload_n dL_law_404 rfl ?_
        refine sim_ao0 (fun a38 e => ?_)
        refine sim_virt (d - 1) e dL_law_405 (k_X11_thrown (d - 1) (by omega) _  _) q_X11_thrown rfl rfl wm_RL_142 rfl rfl (by omega) (Nat.le_of_ble_eq_true rfl) am_nI (am_rI fun h36 v37 => ?_) am_eI
        refine sim_iload dL_law_408 rfl ?_
        refine sim_ic_eq 415 dL_law_410 (by decide) (fun c => ?_) (fun c => ?_)
        · refine sim_iload dL_law_415 rfl ?_
          refine sim_if_ne 439 dL_law_417 (by decide) (fun c => ?_) (fun c => ?_)
          · exact sim_lv (am_leS (am_leS (am_leS (am_leS (am_leS (am_leN (am_leN am_leT))))))) (t_L_law_439 d (by omega) _ hrc23 _ _ _ _ _ _)
          · refine sim_aload_n dL_law_420 rfl ?_
            refine sim_iconst (0) dL_law_421 (by decide +kernel) ?_
            refine sim_aL dL_law_422 (fun v39 => ?_)
            refine sim_iload dL_law_423 rfl ?_
            refine sim_if_eq 432 dL_law_425 (by decide) (fun c => ?_) (fun c => ?_)
            · refine sim_lconst (0) dL_law_432 (by decide +kernel) ?_
              exact sim_lv (am_leS (am_leS (am_leS (am_leS (am_leS (am_leN (am_leN am_leT))))))) (t_L_law_433 d (by omega) _ hrc23 _ _ _ _ _ _ _ _)
            · refine sim_lconst (1) dL_law_428 (by decide +kernel) ?_
              refine sim_goto 433 dL_law_429 (by decide) ?_
              exact sim_lv (am_leS (am_leS (am_leS (am_leS (am_leS (am_leN (am_leN am_leT))))))) (t_L_law_433 d (by omega) _ hrc23 _ _ _ _ _ _ _ _)
        · refine sim_iconst (0) dL_law_413 (by decide +kernel) ?_
          exact sim_zret dL_law_414 rfl
      refine sim_case (fun c39_3 => ?_) (fun c39_3 => ?_)
      · refine sim_tableIn (off := 403) (3) 442 c39_3 dL_law_39 (by decide +kernel) (by decide +kernel) (by decide +kernel) (by decide) ?_
        refine sim_aload_n dL_law_442 rfl ?_
        refine sim_aload_n dL_law_443 rfl ?_
        refine sim_iload dL_law_444 rfl ?_
        refine sim_iconst (1) dL_law_446 (by decide +kernel) ?_
        refine sim_iadd dL_law_447 ?_
        refine sim_scr dL_law_448 (fun v40 => ?_)
        refine sim_aload_n dL_law_449 rfl ?_
        refine sim_iload dL_law_450 rfl ?_
        refine sim_iconst (2) dL_law_452 (by decide +kernel) ?_
        refine sim_iadd dL_law_453 ?_
        refine sim_scr dL_law_454 (fun v41 => ?_)
        refine sim_aload_n dL_law_455 rfl ?_
        refine sim_staticX (d - 1) dL_law_456 (k_L_work (d - 1) (by omega) _ _ _ _ _) q_L_work wm_RL_153 rfl rfl (by omega) (Nat.le_of_ble_eq_true rfl) am_nI (am_rI fun h42 v43 => ?_) am_eI
        refine sim_istore dL_law_459 (Nat.le_of_ble_eq_true rfl) ?_
        refine sim_aload_n dL_law_461 rfl ?_
        refine sim_aload_n dL_law_462 rfl ?_
        refine sim_iload dL_law_463 rfl ?_
        refine sim_iconst (1) dL_law_465 (by decide +kernel) ?_
        refine sim_iadd dL_law_466 ?_
        refine sim_scr dL_law_467 (fun v44 => ?_)
        refine sim_aload_n dL_law_468 rfl ?_
        refine sim_iload dL_law_469 rfl ?_
        refine sim_iconst (2) dL_law_471 (by decide +kernel) ?_
        refine sim_iadd dL_law_472 ?_
        refine sim_scr dL_law_473 (fun v45 => ?_)
        refine sim_ao2 (fun a48 e => ?_)
        refine sim_virt (d - 1) e dL_law_474 (k_X11_work (d - 1) (by omega) _ _ _ _) q_X11_work rfl rfl wm_RL_155 rfl rfl (by omega) (Nat.le_of_ble_eq_true rfl) am_nI (am_rI fun h46 v47 => ?_) am_eI
        refine sim_istore dL_law_477 (Nat.le_of_ble_eq_true rfl) ?_
        refine sim_aload_n dL_law_479 rfl ?_
        refine sim_ao0 (fun a51 e => ?_)
        refine sim_virt (d - 1) e dL_law_480 (k_X11_thrown (d - 1) (by omega) _  _) q_X11_thrown rfl rfl wm_RL_142 rfl rfl (by omega) (Nat.le_of_ble_eq_true rfl) am_nI (am_rI fun h49 v50 => ?_) am_eI
        refine sim_iload dL_law_483 rfl ?_
        refine sim_ic_eq 490 dL_law_485 (by decide) (fun c => ?_) (fun c => ?_)
        · refine sim_iload dL_law_490 rfl ?_
          refine sim_if_ne 507 dL_law_492 (by decide) (fun c => ?_) (fun c => ?_)
          · exact sim_lv (am_leS (am_leS (am_leS (am_leS (am_leS (am_leN (am_leN am_leT))))))) (t_L_law_507 d (by omega) _ hrc23 _ _ _ _ _ _)
          · refine sim_aload_n dL_law_495 rfl ?_
            refine sim_iconst (0) dL_law_496 (by decide +kernel) ?_
            refine sim_aL dL_law_497 (fun v52 => ?_)
            refine sim_iload dL_law_498 rfl ?_
            refine sim_i2l dL_law_500 ?_
            refine sim_lcmp dL_law_501 ?_
            refine sim_if_eq 507 dL_law_502 (by decide) (fun c => ?_) (fun c => ?_)
            · exact sim_lv (am_leS (am_leS (am_leS (am_leS (am_leS (am_leN (am_leN am_leT))))))) (t_L_law_507 d (by omega) _ hrc23 _ _ _ _ _ _)
            · refine sim_iconst (0) dL_law_505 (by decide +kernel) ?_
              exact sim_zret dL_law_506 rfl
        · refine sim_iconst (0) dL_law_488 (by decide +kernel) ?_
          exact sim_zret dL_law_489 rfl
      refine sim_case (fun c39_4 => ?_) (fun c39_4 => ?_)
      · refine sim_tableIn (off := 471) (4) 510 c39_4 dL_law_39 (by decide +kernel) (by decide +kernel) (by decide +kernel) (by decide) ?_
        refine sim_aload_n dL_law_510 rfl ?_
        refine sim_aload_n dL_law_511 rfl ?_
        refine sim_iload dL_law_512 rfl ?_
        refine sim_iconst (1) dL_law_514 (by decide +kernel) ?_
        refine sim_iadd dL_law_515 ?_
        refine sim_scr dL_law_516 (fun v53 => ?_)
        refine sim_aload_n dL_law_517 rfl ?_
        refine sim_iload dL_law_518 rfl ?_
        refine sim_iconst (2) dL_law_520 (by decide +kernel) ?_
        refine sim_iadd dL_law_521 ?_
        refine sim_scr dL_law_522 (fun v54 => ?_)
        refine sim_aload_n dL_law_523 rfl ?_
        refine sim_staticX (d - 1) dL_law_524 (k_L_join (d - 1) (by omega) _ _ _ _ _) q_L_join wm_RL_156 rfl rfl (by omega) (Nat.le_of_ble_eq_true rfl) am_nI (am_rI fun h55 v56 => ?_) am_eI
        refine sim_istore dL_law_527 (Nat.le_of_ble_eq_true rfl) ?_
        refine sim_aload_n dL_law_529 rfl ?_
        refine sim_aload_n dL_law_530 rfl ?_
        refine sim_iload dL_law_531 rfl ?_
        refine sim_iconst (1) dL_law_533 (by decide +kernel) ?_
        refine sim_iadd dL_law_534 ?_
        refine sim_scr dL_law_535 (fun v57 => ?_)
        refine sim_aload_n dL_law_536 rfl ?_
        refine sim_iload dL_law_537 rfl ?_
        refine sim_iconst (2) dL_law_539 (by decide +kernel) ?_
        refine sim_iadd dL_law_540 ?_
        refine sim_scr dL_law_541 (fun v58 => ?_)
        refine sim_ao2 (fun a61 e => ?_)
        refine sim_virt (d - 1) e dL_law_542 (k_X11_join (d - 1) (by omega) _ _ _ _) q_X11_join rfl rfl wm_RL_158 rfl rfl (by omega) (Nat.le_of_ble_eq_true rfl) am_nI (am_rI fun h59 v60 => ?_) am_eI
        refine sim_istore dL_law_545 (Nat.le_of_ble_eq_true rfl) ?_
        refine sim_aload_n dL_law_547 rfl ?_
        refine sim_ao0 (fun a64 e => ?_)
        refine sim_virt (d - 1) e dL_law_548 (k_X11_thrown (d - 1) (by omega) _  _) q_X11_thrown rfl rfl wm_RL_142 rfl rfl (by omega) (Nat.le_of_ble_eq_true rfl) am_nI (am_rI fun h62 v63 => ?_) am_eI
        refine sim_iload dL_law_551 rfl ?_
        refine sim_ic_eq 558 dL_law_553 (by decide) (fun c => ?_) (fun c => ?_)
        · refine sim_iload dL_law_558 rfl ?_
          refine sim_if_ne 575 dL_law_560 (by decide) (fun c => ?_) (fun c => ?_)
          · exact sim_lv (am_leS (am_leS (am_leS (am_leS (am_leS (am_leN (am_leN am_leT))))))) (t_L_law_575 d (by omega) _ hrc23 _ _ _ _ _ _)
          · refine sim_aload_n dL_law_563 rfl ?_
            refine sim_iconst (0) dL_law_564 (by decide +kernel) ?_
            refine sim_aL dL_law_565 (fun v65 => ?_)
            refine sim_iload dL_law_566 rfl ?_
            refine sim_i2l dL_law_568 ?_
            refine sim_lcmp dL_law_569 ?_
            refine sim_if_eq 575 dL_law_570 (by decide) (fun c => ?_) (fun c => ?_)
            · exact sim_lv (am_leS (am_leS (am_leS (am_leS (am_leS (am_leN (am_leN am_leT))))))) (t_L_law_575 d (by omega) _ hrc23 _ _ _ _ _ _)
            · refine sim_iconst (0) dL_law_573 (by decide +kernel) ?_
              exact sim_zret dL_law_574 rfl
        · refine sim_iconst (0) dL_law_556 (by decide +kernel) ?_
          exact sim_zret dL_law_557 rfl
      refine sim_case (fun c39_5 => ?_) (fun c39_5 => ?_)
      · refine sim_tableIn (off := 539) (5) 578 c39_5 dL_law_39 (by decide +kernel) (by decide +kernel) (by decide +kernel) (by decide) ?_
        refine sim_aload_n dL_law_578 rfl ?_
        refine sim_aload_n dL_law_579 rfl ?_
        refine sim_iload dL_law_580 rfl ?_
        refine sim_iconst (1) dL_law_582 (by decide +kernel) ?_
        refine sim_iadd dL_law_583 ?_
        refine sim_scr dL_law_584 (fun v66 => ?_)
        refine sim_aload_n dL_law_585 rfl ?_
        refine sim_iload dL_law_586 rfl ?_
        refine sim_iconst (2) dL_law_588 (by decide +kernel) ?_
        refine sim_iadd dL_law_589 ?_
        refine sim_scr dL_law_590 (fun v67 => ?_)
        refine sim_aload_n dL_law_591 rfl ?_
        refine sim_staticX (d - 1) dL_law_592 (k_L_leave (d - 1) (by omega) _ _ _ _ _) q_L_leave wm_RL_159 rfl rfl (by omega) (Nat.le_of_ble_eq_true rfl) am_nI (am_rI fun h68 v69 => ?_) am_eI
        refine sim_istore dL_law_595 (Nat.le_of_ble_eq_true rfl) ?_
        refine sim_aload_n dL_law_597 rfl ?_
        refine sim_aload_n dL_law_598 rfl ?_
        refine sim_iload dL_law_599 rfl ?_
        refine sim_iconst (1) dL_law_601 (by decide +kernel) ?_
        refine sim_iadd dL_law_602 ?_
        refine sim_scr dL_law_603 (fun v70 => ?_)
        refine sim_aload_n dL_law_604 rfl ?_
        refine sim_iload dL_law_605 rfl ?_
        refine sim_iconst (2) dL_law_607 (by decide +kernel) ?_
        refine sim_iadd dL_law_608 ?_
        refine sim_scr dL_law_609 (fun v71 => ?_)
        refine sim_ao2 (fun a74 e => ?_)
        refine sim_virt (d - 1) e dL_law_610 (k_X11_leave (d - 1) (by omega) _ _ _ _) q_X11_leave rfl rfl wm_RL_161 rfl rfl (by omega) (Nat.le_of_ble_eq_true rfl) am_nI (am_rI fun h72 v73 => ?_) am_eI
        refine sim_istore dL_law_613 (Nat.le_of_ble_eq_true rfl) ?_
        refine sim_aload_n dL_law_615 rfl ?_
        refine sim_ao0 (fun a77 e => ?_)
        refine sim_virt (d - 1) e dL_law_616 (k_X11_thrown (d - 1) (by omega) _  _) q_X11_thrown rfl rfl wm_RL_142 rfl rfl (by omega) (Nat.le_of_ble_eq_true rfl) am_nI (am_rI fun h75 v76 => ?_) am_eI
        refine sim_iload dL_law_619 rfl ?_
        refine sim_ic_eq 626 dL_law_621 (by decide) (fun c => ?_) (fun c => ?_)
        · refine sim_iload dL_law_626 rfl ?_
          refine sim_if_ne 643 dL_law_628 (by decide) (fun c => ?_) (fun c => ?_)
          · exact sim_lv (am_leS (am_leS (am_leS (am_leS (am_leS (am_leN (am_leN am_leT))))))) (t_L_law_643 d (by omega) _ hrc23 _ _ _ _ _ _)
          · refine sim_aload_n dL_law_631 rfl ?_
            refine sim_iconst (0) dL_law_632 (by decide +kernel) ?_
            refine sim_aL dL_law_633 (fun v78 => ?_)
            refine sim_iload dL_law_634 rfl ?_
            refine sim_i2l dL_law_636 ?_
            refine sim_lcmp dL_law_637 ?_
            refine sim_if_eq 643 dL_law_638 (by decide) (fun c => ?_) (fun c => ?_)
            · exact sim_lv (am_leS (am_leS (am_leS (am_leS (am_leS (am_leN (am_leN am_leT))))))) (t_L_law_643 d (by omega) _ hrc23 _ _ _ _ _ _)
            · refine sim_iconst (0) dL_law_641 (by decide +kernel) ?_
              exact sim_zret dL_law_642 rfl
        · refine sim_iconst (0) dL_law_624 (by decide +kernel) ?_
          exact sim_zret dL_law_625 rfl
      refine sim_case (fun c39_6 => ?_) (fun c39_6 => ?_)
      · refine sim_tableIn (off := 607) (6) 646 c39_6 dL_law_39 (by decide +kernel) (by decide +kernel) (by decide +kernel) (by decide) ?_
        refine sim_aload_n dL_law_646 rfl ?_
        refine sim_aload_n dL_law_647 rfl ?_
        refine sim_iload dL_law_648 rfl ?_
        refine sim_iconst (1) dL_law_650 (by decide +kernel) ?_
        refine sim_iadd dL_law_651 ?_
        refine sim_scr dL_law_652 (fun v79 => ?_)
        refine sim_aload_n dL_law_653 rfl ?_
        refine sim_staticX (d - 1) dL_law_654 (k_L_chapter (d - 1) (by omega) _ _ _ _) q_L_chapter wm_RL_162 rfl rfl (by omega) (Nat.le_of_ble_eq_true rfl) am_nI (am_rI fun h80 v81 => ?_) am_eI
        refine sim_istore dL_law_657 (Nat.le_of_ble_eq_true rfl) ?_
        refine sim_aload_n dL_law_659 rfl ?_
        refine sim_aload_n dL_law_660 rfl ?_
        refine sim_iload dL_law_661 rfl ?_
        refine sim_iconst (1) dL_law_663 (by decide +kernel) ?_
        refine sim_iadd dL_law_664 ?_
        refine sim_scr dL_law_665 (fun v82 => ?_)
        refine sim_ao1 (fun a85 e => ?_)
        refine sim_virt (d - 1) e dL_law_666 (k_X11_chapter (d - 1) (by omega) _ _ _) q_X11_chapter rfl rfl wm_RL_164 rfl rfl (by omega) (Nat.le_of_ble_eq_true rfl) am_nI (am_rI fun h83 v84 => ?_) am_eI
        refine sim_istore dL_law_669 (Nat.le_of_ble_eq_true rfl) ?_
        refine sim_aload_n dL_law_671 rfl ?_
        refine sim_ao0 (fun a88 e => ?_)
        refine sim_virt (d - 1) e dL_law_672 (k_X11_thrown (d - 1) (by omega) _  _) q_X11_thrown rfl rfl wm_RL_142 rfl rfl (by omega) (Nat.le_of_ble_eq_true rfl) am_nI (am_rI fun h86 v87 => ?_) am_eI
        refine sim_iload dL_law_675 rfl ?_
        refine sim_ic_eq 682 dL_law_677 (by decide) (fun c => ?_) (fun c => ?_)
        · refine sim_iload dL_law_682 rfl ?_
          refine sim_if_ne 699 dL_law_684 (by decide) (fun c => ?_) (fun c => ?_)
          · exact sim_lv (am_leS (am_leS (am_leS (am_leS (am_leS (am_leN (am_leN am_leT))))))) (t_L_law_699 d (by omega) _ hrc23 _ _ _ _ _ _)
          · refine sim_aload_n dL_law_687 rfl ?_
            refine sim_iconst (0) dL_law_688 (by decide +kernel) ?_
            refine sim_aL dL_law_689 (fun v89 => ?_)
            refine sim_iload dL_law_690 rfl ?_
            refine sim_i2l dL_law_692 ?_
            refine sim_lcmp dL_law_693 ?_
            refine sim_if_eq 699 dL_law_694 (by decide) (fun c => ?_) (fun c => ?_)
            · exact sim_lv (am_leS (am_leS (am_leS (am_leS (am_leS (am_leN (am_leN am_leT))))))) (t_L_law_699 d (by omega) _ hrc23 _ _ _ _ _ _)
            · refine sim_iconst (0) dL_law_697 (by decide +kernel) ?_
              exact sim_zret dL_law_698 rfl
        · refine sim_iconst (0) dL_law_680 (by decide +kernel) ?_
          exact sim_zret dL_law_681 rfl
      refine sim_case (fun c39_7 => ?_) (fun c39_7 => ?_)
      · refine sim_tableIn (off := 663) (7) 702 c39_7 dL_law_39 (by decide +kernel) (by decide +kernel) (by decide +kernel) (by decide) ?_
        refine sim_aload_n dL_law_702 rfl ?_
        refine sim_aload_n dL_law_703 rfl ?_
        refine sim_iload dL_law_704 rfl ?_
        refine sim_iconst (1) dL_law_706 (by decide +kernel) ?_
        refine sim_iadd dL_law_707 ?_
        refine sim_scr dL_law_708 (fun v90 => ?_)
        refine sim_aload_n dL_law_709 rfl ?_
        refine sim_staticX (d - 1) dL_law_710 (k_L_post (d - 1) (by omega) _ _ _ _) q_L_post wm_RL_165 rfl rfl (by omega) (Nat.le_of_ble_eq_true rfl) am_nI (am_rI fun h91 v92 => ?_) am_eI
        refine sim_istore dL_law_713 (Nat.le_of_ble_eq_true rfl) ?_
        refine sim_aload_n dL_law_715 rfl ?_
        refine sim_aload_n dL_law_716 rfl ?_
        refine sim_iload dL_law_717 rfl ?_
        refine sim_iconst (1) dL_law_719 (by decide +kernel) ?_
        refine sim_iadd dL_law_720 ?_
        refine sim_scr dL_law_721 (fun v93 => ?_)
        refine sim_ao1 (fun a96 e => ?_)
        refine sim_virt (d - 1) e dL_law_722 (k_X11_post (d - 1) (by omega) _ _ _) q_X11_post rfl rfl wm_RL_167 rfl rfl (by omega) (Nat.le_of_ble_eq_true rfl) am_nI (am_rI fun h94 v95 => ?_) am_eI
        refine sim_istore dL_law_725 (Nat.le_of_ble_eq_true rfl) ?_
        refine sim_aload_n dL_law_727 rfl ?_
        refine sim_ao0 (fun a99 e => ?_)
        refine sim_virt (d - 1) e dL_law_728 (k_X11_thrown (d - 1) (by omega) _  _) q_X11_thrown rfl rfl wm_RL_142 rfl rfl (by omega) (Nat.le_of_ble_eq_true rfl) am_nI (am_rI fun h97 v98 => ?_) am_eI
        refine sim_iload dL_law_731 rfl ?_
        refine sim_ic_eq 738 dL_law_733 (by decide) (fun c => ?_) (fun c => ?_)
        · refine sim_iload dL_law_738 rfl ?_
          refine sim_if_ne 755 dL_law_740 (by decide) (fun c => ?_) (fun c => ?_)
          · exact sim_lv (am_leS (am_leS (am_leS (am_leS (am_leS (am_leN (am_leN am_leT))))))) (t_L_law_755 d (by omega) _ hrc23 _ _ _ _ _ _)
          · refine sim_aload_n dL_law_743 rfl ?_
            refine sim_iconst (0) dL_law_744 (by decide +kernel) ?_
            refine sim_aL dL_law_745 (fun v100 => ?_)
            refine sim_iload dL_law_746 rfl ?_
            refine sim_i2l dL_law_748 ?_
            refine sim_lcmp dL_law_749 ?_
            refine sim_if_eq 755 dL_law_750 (by decide) (fun c => ?_) (fun c => ?_)
            · exact sim_lv (am_leS (am_leS (am_leS (am_leS (am_leS (am_leN (am_leN am_leT))))))) (t_L_law_755 d (by omega) _ hrc23 _ _ _ _ _ _)
            · refine sim_iconst (0) dL_law_753 (by decide +kernel) ?_
              exact sim_zret dL_law_754 rfl
        · refine sim_iconst (0) dL_law_736 (by decide +kernel) ?_
          exact sim_zret dL_law_737 rfl
      refine sim_case (fun c39_8 => ?_) (fun c39_8 => ?_)
      · refine sim_tableIn (off := 719) (8) 758 c39_8 dL_law_39 (by decide +kernel) (by decide +kernel) (by decide +kernel) (by decide) ?_
        refine sim_aload_n dL_law_758 rfl ?_
        refine sim_aload_n dL_law_759 rfl ?_
        refine sim_iload dL_law_760 rfl ?_
        refine sim_iconst (1) dL_law_762 (by decide +kernel) ?_
        refine sim_iadd dL_law_763 ?_
        refine sim_scr dL_law_764 (fun v101 => ?_)
        refine sim_aload_n dL_law_765 rfl ?_
        refine sim_iload dL_law_766 rfl ?_
        refine sim_iconst (2) dL_law_768 (by decide +kernel) ?_
        refine sim_iadd dL_law_769 ?_
        refine sim_scr dL_law_770 (fun v102 => ?_)
        refine sim_if_eq 778 dL_law_771 (by decide) (fun c => ?_) (fun c => ?_)
        · refine sim_iconst (0) dL_law_778 (by decide +kernel) ?_
          exact sim_lv (am_leS (am_leS (am_leS (am_leS (am_leS (am_leN (am_leN am_leT))))))) (t_L_law_779 d (by omega) _ hrc23 _ _ _ _ _ _ _ _ _)
        · refine sim_iconst (1) dL_law_774 (by decide +kernel) ?_
          refine sim_goto 779 dL_law_775 (by decide) ?_
          exact sim_lv (am_leS (am_leS (am_leS (am_leS (am_leS (am_leN (am_leN am_leT))))))) (t_L_law_779 d (by omega) _ hrc23 _ _ _ _ _ _ _ _ _)
      refine sim_case (fun c39_9 => ?_) (fun c39_9 => ?_)
      · refine sim_tableIn (off := 810) (9) 849 c39_9 dL_law_39 (by decide +kernel) (by decide +kernel) (by decide +kernel) (by decide) ?_
        refine sim_aload_n dL_law_849 rfl ?_
        refine sim_aload_n dL_law_850 rfl ?_
        refine sim_iload dL_law_851 rfl ?_
        refine sim_iconst (1) dL_law_853 (by decide +kernel) ?_
        refine sim_iadd dL_law_854 ?_
        refine sim_scr dL_law_855 (fun v103 => ?_)
        refine sim_aload_n dL_law_856 rfl ?_
        refine sim_iload dL_law_857 rfl ?_
        refine sim_iconst (2) dL_law_859 (by decide +kernel) ?_
        refine sim_iadd dL_law_860 ?_
        refine sim_scr dL_law_861 (fun v104 => ?_)
        refine sim_aload_n dL_law_862 rfl ?_
        refine sim_staticX (d - 1) dL_law_863 (k_L_collection (d - 1) (by omega) _ _ _ _ _) q_L_collection wm_RL_172 rfl rfl (by omega) (Nat.le_of_ble_eq_true rfl) am_nI (am_rI fun h105 v106 => ?_) am_eI
        refine sim_istore dL_law_866 (Nat.le_of_ble_eq_true rfl) ?_
        refine sim_aload_n dL_law_868 rfl ?_
        refine sim_aload_n dL_law_869 rfl ?_
        refine sim_iload dL_law_870 rfl ?_
        refine sim_iconst (1) dL_law_872 (by decide +kernel) ?_
        refine sim_iadd dL_law_873 ?_
        refine sim_scr dL_law_874 (fun v107 => ?_)
        refine sim_aload_n dL_law_875 rfl ?_
        refine sim_iload dL_law_876 rfl ?_
        refine sim_iconst (2) dL_law_878 (by decide +kernel) ?_
        refine sim_iadd dL_law_879 ?_
        refine sim_scr dL_law_880 (fun v108 => ?_)
        refine sim_ao2 (fun a111 e => ?_)
        refine sim_virt (d - 1) e dL_law_881 (k_X11_collection (d - 1) (by omega) _ _ _ _) q_X11_collection rfl rfl wm_RL_174 rfl rfl (by omega) (Nat.le_of_ble_eq_true rfl) am_nI (am_rI fun h109 v110 => ?_) am_eI
        refine sim_istore dL_law_884 (Nat.le_of_ble_eq_true rfl) ?_
        refine sim_aload_n dL_law_886 rfl ?_
        refine sim_ao0 (fun a114 e => ?_)
        refine sim_virt (d - 1) e dL_law_887 (k_X11_thrown (d - 1) (by omega) _  _) q_X11_thrown rfl rfl wm_RL_142 rfl rfl (by omega) (Nat.le_of_ble_eq_true rfl) am_nI (am_rI fun h112 v113 => ?_) am_eI
        refine sim_iload dL_law_890 rfl ?_
        refine sim_ic_eq 897 dL_law_892 (by decide) (fun c => ?_) (fun c => ?_)
        · refine sim_iload dL_law_897 rfl ?_
          refine sim_if_ne 914 dL_law_899 (by decide) (fun c => ?_) (fun c => ?_)
          · exact sim_lv (am_leS (am_leS (am_leS (am_leS (am_leS (am_leN (am_leN am_leT))))))) (t_L_law_914 d (by omega) _ hrc23 _ _ _ _ _ _)
          · refine sim_aload_n dL_law_902 rfl ?_
            refine sim_iconst (0) dL_law_903 (by decide +kernel) ?_
            refine sim_aL dL_law_904 (fun v115 => ?_)
            refine sim_iload dL_law_905 rfl ?_
            refine sim_i2l dL_law_907 ?_
            refine sim_lcmp dL_law_908 ?_
            refine sim_if_eq 914 dL_law_909 (by decide) (fun c => ?_) (fun c => ?_)
            · exact sim_lv (am_leS (am_leS (am_leS (am_leS (am_leS (am_leN (am_leN am_leT))))))) (t_L_law_914 d (by omega) _ hrc23 _ _ _ _ _ _)
            · refine sim_iconst (0) dL_law_912 (by decide +kernel) ?_
              exact sim_zret dL_law_913 rfl
        · refine sim_iconst (0) dL_law_895 (by decide +kernel) ?_
          exact sim_zret dL_law_896 rfl
      refine sim_case (fun c39_10 => ?_) (fun c39_10 => ?_)
      · refine sim_tableIn (off := 878) (10) 917 c39_10 dL_law_39 (by decide +kernel) (by decide +kernel) (by decide +kernel) (by decide) ?_
        refine sim_aload_n dL_law_917 rfl ?_
        refine sim_aload_n dL_law_918 rfl ?_
        refine sim_iload dL_law_919 rfl ?_
        refine sim_iconst (1) dL_law_921 (by decide +kernel) ?_
        refine sim_iadd dL_law_922 ?_
        refine sim_scr dL_law_923 (fun v116 => ?_)
        refine sim_aload_n dL_law_924 rfl ?_
        refine sim_iload dL_law_925 rfl ?_
        refine sim_iconst (2) dL_law_927 (by decide +kernel) ?_
        refine sim_iadd dL_law_928 ?_
        refine sim_scr dL_law_929 (fun v117 => ?_)
        refine sim_staticX (d - 1) dL_law_930 (k_L_collect (d - 1) (by omega) _ _ _ _) q_L_collect wm_RL_175 rfl rfl (by omega) (Nat.le_of_ble_eq_true rfl) am_nI (am_rI fun h118 v119 => ?_) am_eI
        refine sim_istore dL_law_933 (Nat.le_of_ble_eq_true rfl) ?_
        refine sim_aload_n dL_law_935 rfl ?_
        refine sim_aload_n dL_law_936 rfl ?_
        refine sim_iload dL_law_937 rfl ?_
        refine sim_iconst (1) dL_law_939 (by decide +kernel) ?_
        refine sim_iadd dL_law_940 ?_
        refine sim_scr dL_law_941 (fun v120 => ?_)
        refine sim_aload_n dL_law_942 rfl ?_
        refine sim_iload dL_law_943 rfl ?_
        refine sim_iconst (2) dL_law_945 (by decide +kernel) ?_
        refine sim_iadd dL_law_946 ?_
        refine sim_scr dL_law_947 (fun v121 => ?_)
        refine sim_ao2 (fun a124 e => ?_)
        refine sim_virt (d - 1) e dL_law_948 (k_X11_collect (d - 1) (by omega) _ _ _ _) q_X11_collect rfl rfl wm_RL_178 rfl rfl (by omega) (Nat.le_of_ble_eq_true rfl) am_nV (am_rV fun h122 => ?_) am_eV
        refine sim_aload_n dL_law_951 rfl ?_
        refine sim_ao0 (fun a127 e => ?_)
        refine sim_virt (d - 1) e dL_law_952 (k_X11_thrown (d - 1) (by omega) _  _) q_X11_thrown rfl rfl wm_RL_142 rfl rfl (by omega) (Nat.le_of_ble_eq_true rfl) am_nI (am_rI fun h125 v126 => ?_) am_eI
        refine sim_iload dL_law_955 rfl ?_
        refine sim_ic_eq 962 dL_law_957 (by decide) (fun c => ?_) (fun c => ?_)
        · refine sim_goto 2795 dL_law_962 (by decide) ?_
          exact sim_lv (am_leS (am_leS (am_leS (am_leS (am_leS (am_leN (am_leN am_leT))))))) (t_L_law_2795 d (by omega) _ hrc23 _ _ _ _ _ _)
        · refine sim_iconst (0) dL_law_960 (by decide +kernel) ?_
          exact sim_zret dL_law_961 rfl
      refine sim_case (fun c39_11 => ?_) (fun c39_11 => ?_)
      · refine sim_tableIn (off := 926) (11) 965 c39_11 dL_law_39 (by decide +kernel) (by decide +kernel) (by decide +kernel) (by decide) ?_
        refine sim_aload_n dL_law_965 rfl ?_
        refine sim_aload_n dL_law_966 rfl ?_
        refine sim_iload dL_law_967 rfl ?_
        refine sim_iconst (1) dL_law_969 (by decide +kernel) ?_
        refine sim_iadd dL_law_970 ?_
        refine sim_scr dL_law_971 (fun v128 => ?_)
        refine sim_aload_n dL_law_972 rfl ?_
        refine sim_iload dL_law_973 rfl ?_
        refine sim_iconst (2) dL_law_975 (by decide +kernel) ?_
        refine sim_iadd dL_law_976 ?_
        refine sim_scr dL_law_977 (fun v129 => ?_)
        refine sim_aload_n dL_law_978 rfl ?_
        refine sim_staticX (d - 1) dL_law_979 (k_L_sees (d - 1) (by omega) _ _ _ _ _) q_L_sees wm_RL_179 rfl rfl (by omega) (Nat.le_of_ble_eq_true rfl) am_nI (am_rI fun h130 v131 => ?_) am_eI
        refine sim_istore dL_law_982 (Nat.le_of_ble_eq_true rfl) ?_
        refine sim_aload_n dL_law_984 rfl ?_
        refine sim_aload_n dL_law_985 rfl ?_
        refine sim_iload dL_law_986 rfl ?_
        refine sim_iconst (1) dL_law_988 (by decide +kernel) ?_
        refine sim_iadd dL_law_989 ?_
        refine sim_scr dL_law_990 (fun v132 => ?_)
        refine sim_aload_n dL_law_991 rfl ?_
        refine sim_iload dL_law_992 rfl ?_
        refine sim_iconst (2) dL_law_994 (by decide +kernel) ?_
        refine sim_iadd dL_law_995 ?_
        refine sim_scr dL_law_996 (fun v133 => ?_)
        refine sim_ao2 (fun a136 e => ?_)
        refine sim_virt (d - 1) e dL_law_997 (k_X11_sees (d - 1) (by omega) _ _ _ _) q_X11_sees rfl rfl wm_RL_181 rfl rfl (by omega) (Nat.le_of_ble_eq_true rfl) am_nI (am_rI fun h134 v135 => ?_) am_eI
        refine sim_istore dL_law_1000 (Nat.le_of_ble_eq_true rfl) ?_
        refine sim_aload_n dL_law_1002 rfl ?_
        refine sim_ao0 (fun a139 e => ?_)
        refine sim_virt (d - 1) e dL_law_1003 (k_X11_thrown (d - 1) (by omega) _  _) q_X11_thrown rfl rfl wm_RL_142 rfl rfl (by omega) (Nat.le_of_ble_eq_true rfl) am_nI (am_rI fun h137 v138 => ?_) am_eI
        refine sim_iload dL_law_1006 rfl ?_
        refine sim_ic_eq 1013 dL_law_1008 (by decide) (fun c => ?_) (fun c => ?_)
        · refine sim_iload dL_law_1013 rfl ?_
          refine sim_if_ne 1037 dL_law_1015 (by decide) (fun c => ?_) (fun c => ?_)
          · exact sim_lv (am_leS (am_leS (am_leS (am_leS (am_leS (am_leN (am_leN am_leT))))))) (t_L_law_1037 d (by omega) _ hrc23 _ _ _ _ _ _)
          · refine sim_aload_n dL_law_1018 rfl ?_
            refine sim_iconst (0) dL_law_1019 (by decide +kernel) ?_
            refine sim_aL dL_law_1020 (fun v140 => ?_)
            refine sim_iload dL_law_1021 rfl ?_
            refine sim_if_eq 1030 dL_law_1023 (by decide) (fun c => ?_) (fun c => ?_)
            · refine sim_lconst (0) dL_law_1030 (by decide +kernel) ?_
              exact sim_lv (am_leS (am_leS (am_leS (am_leS (am_leS (am_leN (am_leN am_leT))))))) (t_L_law_1031 d (by omega) _ hrc23 _ _ _ _ _ _ _ _)
            · refine sim_lconst (1) dL_law_1026 (by decide +kernel) ?_
              refine sim_goto 1031 dL_law_1027 (by decide) ?_
              exact sim_lv (am_leS (am_leS (am_leS (am_leS (am_leS (am_leN (am_leN am_leT))))))) (t_L_law_1031 d (by omega) _ hrc23 _ _ _ _ _ _ _ _)
        · refine sim_iconst (0) dL_law_1011 (by decide +kernel) ?_
          exact sim_zret dL_law_1012 rfl
      refine sim_case (fun c39_12 => ?_) (fun c39_12 => ?_)
      · refine sim_tableIn (off := 1001) (12) 1040 c39_12 dL_law_39 (by decide +kernel) (by decide +kernel) (by decide +kernel) (by decide) ?_
        refine sim_aload_n dL_law_1040 rfl ?_
        refine sim_aload_n dL_law_1041 rfl ?_
        refine sim_iload dL_law_1042 rfl ?_
        refine sim_iconst (1) dL_law_1044 (by decide +kernel) ?_
        refine sim_iadd dL_law_1045 ?_
        refine sim_scr dL_law_1046 (fun v141 => ?_)
        refine sim_aload_n dL_law_1047 rfl ?_
        refine sim_iload dL_law_1048 rfl ?_
        refine sim_iconst (2) dL_law_1050 (by decide +kernel) ?_
        refine sim_iadd dL_law_1051 ?_
        refine sim_scr dL_law_1052 (fun v142 => ?_)
        refine sim_aload_n dL_law_1053 rfl ?_
        refine sim_staticX (d - 1) dL_law_1054 (k_L_owners (d - 1) (by omega) _ _ _ _ _) q_L_owners wm_RL_182 rfl rfl (by omega) (Nat.le_of_ble_eq_true rfl) am_nI (am_rI fun h143 v144 => ?_) am_eI
        refine sim_istore dL_law_1057 (Nat.le_of_ble_eq_true rfl) ?_
        refine sim_aload_n dL_law_1059 rfl ?_
        refine sim_aload_n dL_law_1060 rfl ?_
        refine sim_iload dL_law_1061 rfl ?_
        refine sim_iconst (1) dL_law_1063 (by decide +kernel) ?_
        refine sim_iadd dL_law_1064 ?_
        refine sim_scr dL_law_1065 (fun v145 => ?_)
        refine sim_aload_n dL_law_1066 rfl ?_
        refine sim_iload dL_law_1067 rfl ?_
        refine sim_iconst (2) dL_law_1069 (by decide +kernel) ?_
        refine sim_iadd dL_law_1070 ?_
        refine sim_scr dL_law_1071 (fun v146 => ?_)
        refine sim_ao2 (fun a149 e => ?_)
        refine sim_virt (d - 1) e dL_law_1072 (k_X11_owners (d - 1) (by omega) _ _ _ _) q_X11_owners rfl rfl wm_RL_184 rfl rfl (by omega) (Nat.le_of_ble_eq_true rfl) am_nI (am_rI fun h147 v148 => ?_) am_eI
        refine sim_istore dL_law_1075 (Nat.le_of_ble_eq_true rfl) ?_
        refine sim_aload_n dL_law_1077 rfl ?_
        refine sim_ao0 (fun a152 e => ?_)
        refine sim_virt (d - 1) e dL_law_1078 (k_X11_thrown (d - 1) (by omega) _  _) q_X11_thrown rfl rfl wm_RL_142 rfl rfl (by omega) (Nat.le_of_ble_eq_true rfl) am_nI (am_rI fun h150 v151 => ?_) am_eI
        refine sim_iload dL_law_1081 rfl ?_
        refine sim_ic_eq 1088 dL_law_1083 (by decide) (fun c => ?_) (fun c => ?_)
        · refine sim_iload dL_law_1088 rfl ?_
          refine sim_if_ne 1105 dL_law_1090 (by decide) (fun c => ?_) (fun c => ?_)
          · exact sim_lv (am_leS (am_leS (am_leS (am_leS (am_leS (am_leN (am_leN am_leT))))))) (t_L_law_1105 d (by omega) _ hrc23 _ _ _ _ _ _)
          · refine sim_aload_n dL_law_1093 rfl ?_
            refine sim_iconst (0) dL_law_1094 (by decide +kernel) ?_
            refine sim_aL dL_law_1095 (fun v153 => ?_)
            refine sim_iload dL_law_1096 rfl ?_
            refine sim_i2l dL_law_1098 ?_
            refine sim_lcmp dL_law_1099 ?_
            refine sim_if_eq 1105 dL_law_1100 (by decide) (fun c => ?_) (fun c => ?_)
            · exact sim_lv (am_leS (am_leS (am_leS (am_leS (am_leS (am_leN (am_leN am_leT))))))) (t_L_law_1105 d (by omega) _ hrc23 _ _ _ _ _ _)
            · refine sim_iconst (0) dL_law_1103 (by decide +kernel) ?_
              exact sim_zret dL_law_1104 rfl
        · refine sim_iconst (0) dL_law_1086 (by decide +kernel) ?_
          exact sim_zret dL_law_1087 rfl
      refine sim_case (fun c39_13 => ?_) (fun c39_13 => ?_)
      · refine sim_tableIn (off := 1069) (13) 1108 c39_13 dL_law_39 (by decide +kernel) (by decide +kernel) (by decide +kernel) (by decide) ?_
        refine sim_aload_n dL_law_1108 rfl ?_
        refine sim_aload_n dL_law_1109 rfl ?_
        refine sim_staticX (d - 1) dL_law_1110 (k_L_tag (d - 1) (by omega) _ _ _) q_L_tag wm_RL_185 rfl rfl (by omega) (Nat.le_of_ble_eq_true rfl) am_nI (am_rI fun h154 v155 => ?_) am_eI
        refine sim_istore dL_law_1113 (Nat.le_of_ble_eq_true rfl) ?_
        refine sim_aload_n dL_law_1115 rfl ?_
        refine sim_ao0 (fun a158 e => ?_)
        refine sim_virt (d - 1) e dL_law_1116 (k_X11_tag (d - 1) (by omega) _  _) q_X11_tag rfl rfl wm_RL_188 rfl rfl (by omega) (Nat.le_of_ble_eq_true rfl) am_nI (am_rI fun h156 v157 => ?_) am_eI
        refine sim_istore dL_law_1119 (Nat.le_of_ble_eq_true rfl) ?_
        refine sim_aload_n dL_law_1121 rfl ?_
        refine sim_ao0 (fun a161 e => ?_)
        refine sim_virt (d - 1) e dL_law_1122 (k_X11_thrown (d - 1) (by omega) _  _) q_X11_thrown rfl rfl wm_RL_142 rfl rfl (by omega) (Nat.le_of_ble_eq_true rfl) am_nI (am_rI fun h159 v160 => ?_) am_eI
        refine sim_iload dL_law_1125 rfl ?_
        refine sim_ic_eq 1132 dL_law_1127 (by decide) (fun c => ?_) (fun c => ?_)
        · refine sim_iload dL_law_1132 rfl ?_
          refine sim_if_ne 1149 dL_law_1134 (by decide) (fun c => ?_) (fun c => ?_)
          · exact sim_lv (am_leS (am_leS (am_leS (am_leS (am_leS (am_leN (am_leN am_leT))))))) (t_L_law_1149 d (by omega) _ hrc23 _ _ _ _ _ _)
          · refine sim_aload_n dL_law_1137 rfl ?_
            refine sim_iconst (0) dL_law_1138 (by decide +kernel) ?_
            refine sim_aL dL_law_1139 (fun v162 => ?_)
            refine sim_iload dL_law_1140 rfl ?_
            refine sim_i2l dL_law_1142 ?_
            refine sim_lcmp dL_law_1143 ?_
            refine sim_if_eq 1149 dL_law_1144 (by decide) (fun c => ?_) (fun c => ?_)
            · exact sim_lv (am_leS (am_leS (am_leS (am_leS (am_leS (am_leN (am_leN am_leT))))))) (t_L_law_1149 d (by omega) _ hrc23 _ _ _ _ _ _)
            · refine sim_iconst (0) dL_law_1147 (by decide +kernel) ?_
              exact sim_zret dL_law_1148 rfl
        · refine sim_iconst (0) dL_law_1130 (by decide +kernel) ?_
          exact sim_zret dL_law_1131 rfl
      refine sim_case (fun c39_14 => ?_) (fun c39_14 => ?_)
      · refine sim_tableIn (off := 1113) (14) 1152 c39_14 dL_law_39 (by decide +kernel) (by decide +kernel) (by decide +kernel) (by decide) ?_
        refine sim_aload_n dL_law_1152 rfl ?_
        refine sim_aload_n dL_law_1153 rfl ?_
        refine sim_iload dL_law_1154 rfl ?_
        refine sim_iconst (1) dL_law_1156 (by decide +kernel) ?_
        refine sim_iadd dL_law_1157 ?_
        refine sim_scr dL_law_1158 (fun v163 => ?_)
        refine sim_aload_n dL_law_1159 rfl ?_
        refine sim_staticX (d - 1) dL_law_1160 (k_L_make (d - 1) (by omega) _ _ _ _) q_L_make wm_RL_189 rfl rfl (by omega) (Nat.le_of_ble_eq_true rfl) am_nI (am_rI fun h164 v165 => ?_) am_eI
        refine sim_istore dL_law_1163 (Nat.le_of_ble_eq_true rfl) ?_
        refine sim_aload_n dL_law_1165 rfl ?_
        refine sim_aload_n dL_law_1166 rfl ?_
        refine sim_iload dL_law_1167 rfl ?_
        refine sim_iconst (1) dL_law_1169 (by decide +kernel) ?_
        refine sim_iadd dL_law_1170 ?_
        refine sim_scr dL_law_1171 (fun v166 => ?_)
        refine sim_ao1 (fun a169 e => ?_)
        refine sim_virt (d - 1) e dL_law_1172 (k_X11_make (d - 1) (by omega) _ _ _) q_X11_make rfl rfl wm_RL_191 rfl rfl (by omega) (Nat.le_of_ble_eq_true rfl) am_nI (am_rI fun h167 v168 => ?_) am_eI
        refine sim_istore dL_law_1175 (Nat.le_of_ble_eq_true rfl) ?_
        refine sim_aload_n dL_law_1177 rfl ?_
        refine sim_ao0 (fun a172 e => ?_)
        refine sim_virt (d - 1) e dL_law_1178 (k_X11_thrown (d - 1) (by omega) _  _) q_X11_thrown rfl rfl wm_RL_142 rfl rfl (by omega) (Nat.le_of_ble_eq_true rfl) am_nI (am_rI fun h170 v171 => ?_) am_eI
        refine sim_iload dL_law_1181 rfl ?_
        refine sim_ic_eq 1188 dL_law_1183 (by decide) (fun c => ?_) (fun c => ?_)
        · refine sim_iload dL_law_1188 rfl ?_
          refine sim_if_ne 1205 dL_law_1190 (by decide) (fun c => ?_) (fun c => ?_)
          · exact sim_lv (am_leS (am_leS (am_leS (am_leS (am_leS (am_leN (am_leN am_leT))))))) (t_L_law_1205 d (by omega) _ hrc23 _ _ _ _ _ _)
          · refine sim_aload_n dL_law_1193 rfl ?_
            refine sim_iconst (0) dL_law_1194 (by decide +kernel) ?_
            refine sim_aL dL_law_1195 (fun v173 => ?_)
            refine sim_iload dL_law_1196 rfl ?_
            refine sim_i2l dL_law_1198 ?_
            refine sim_lcmp dL_law_1199 ?_
            refine sim_if_eq 1205 dL_law_1200 (by decide) (fun c => ?_) (fun c => ?_)
            · exact sim_lv (am_leS (am_leS (am_leS (am_leS (am_leS (am_leN (am_leN am_leT))))))) (t_L_law_1205 d (by omega) _ hrc23 _ _ _ _ _ _)
            · refine sim_iconst (0) dL_law_1203 (by decide +kernel) ?_
              exact sim_zret dL_law_1204 rfl
        · refine sim_iconst (0) dL_law_1186 (by decide +kernel) ?_
          exact sim_zret dL_law_1187 rfl
      refine sim_case (fun c39_15 => ?_) (fun c39_15 => ?_)
      · refine sim_tableIn (off := 1169) (15) 1208 c39_15 dL_law_39 (by decide +kernel) (by decide +kernel) (by decide +kernel) (by decide) ?_
        refine sim_aload_n dL_law_1208 rfl ?_
        refine sim_aload_n dL_law_1209 rfl ?_
        refine sim_iload dL_law_1210 rfl ?_
        refine sim_iconst (1) dL_law_1212 (by decide +kernel) ?_
        refine sim_iadd dL_law_1213 ?_
        refine sim_scr dL_law_1214 (fun v174 => ?_)
        refine sim_aload_n dL_law_1215 rfl ?_
        refine sim_iload dL_law_1216 rfl ?_
        refine sim_iconst (2) dL_law_1218 (by decide +kernel) ?_
        refine sim_iadd dL_law_1219 ?_
        refine sim_scr dL_law_1220 (fun v175 => ?_)
        refine sim_aload_n dL_law_1221 rfl ?_
        refine sim_staticX (d - 1) dL_law_1222 (k_L_merge (d - 1) (by omega) _ _ _ _ _) q_L_merge wm_RL_192 rfl rfl (by omega) (Nat.le_of_ble_eq_true rfl) am_nI (am_rI fun h176 v177 => ?_) am_eI
        refine sim_istore dL_law_1225 (Nat.le_of_ble_eq_true rfl) ?_
        refine sim_aload_n dL_law_1227 rfl ?_
        refine sim_aload_n dL_law_1228 rfl ?_
        refine sim_iload dL_law_1229 rfl ?_
        refine sim_iconst (1) dL_law_1231 (by decide +kernel) ?_
        refine sim_iadd dL_law_1232 ?_
        refine sim_scr dL_law_1233 (fun v178 => ?_)
        refine sim_aload_n dL_law_1234 rfl ?_
        refine sim_iload dL_law_1235 rfl ?_
        refine sim_iconst (2) dL_law_1237 (by decide +kernel) ?_
        refine sim_iadd dL_law_1238 ?_
        refine sim_scr dL_law_1239 (fun v179 => ?_)
        refine sim_ao2 (fun a182 e => ?_)
        refine sim_virt (d - 1) e dL_law_1240 (k_X11_merge (d - 1) (by omega) _ _ _ _) q_X11_merge rfl rfl wm_RL_194 rfl rfl (by omega) (Nat.le_of_ble_eq_true rfl) am_nI (am_rI fun h180 v181 => ?_) am_eI
        refine sim_istore dL_law_1243 (Nat.le_of_ble_eq_true rfl) ?_
        refine sim_aload_n dL_law_1245 rfl ?_
        refine sim_ao0 (fun a185 e => ?_)
        refine sim_virt (d - 1) e dL_law_1246 (k_X11_thrown (d - 1) (by omega) _  _) q_X11_thrown rfl rfl wm_RL_142 rfl rfl (by omega) (Nat.le_of_ble_eq_true rfl) am_nI (am_rI fun h183 v184 => ?_) am_eI
        refine sim_iload dL_law_1249 rfl ?_
        refine sim_ic_eq 1256 dL_law_1251 (by decide) (fun c => ?_) (fun c => ?_)
        · refine sim_iload dL_law_1256 rfl ?_
          refine sim_if_ne 1273 dL_law_1258 (by decide) (fun c => ?_) (fun c => ?_)
          · exact sim_lv (am_leS (am_leS (am_leS (am_leS (am_leS (am_leN (am_leN am_leT))))))) (t_L_law_1273 d (by omega) _ hrc23 _ _ _ _ _ _)
          · refine sim_aload_n dL_law_1261 rfl ?_
            refine sim_iconst (0) dL_law_1262 (by decide +kernel) ?_
            refine sim_aL dL_law_1263 (fun v186 => ?_)
            refine sim_iload dL_law_1264 rfl ?_
            refine sim_i2l dL_law_1266 ?_
            refine sim_lcmp dL_law_1267 ?_
            refine sim_if_eq 1273 dL_law_1268 (by decide) (fun c => ?_) (fun c => ?_)
            · exact sim_lv (am_leS (am_leS (am_leS (am_leS (am_leS (am_leN (am_leN am_leT))))))) (t_L_law_1273 d (by omega) _ hrc23 _ _ _ _ _ _)
            · refine sim_iconst (0) dL_law_1271 (by decide +kernel) ?_
              exact sim_zret dL_law_1272 rfl
        · refine sim_iconst (0) dL_law_1254 (by decide +kernel) ?_
          exact sim_zret dL_law_1255 rfl
      refine sim_case (fun c39_16 => ?_) (fun c39_16 => ?_)
      · refine sim_tableIn (off := 1237) (16) 1276 c39_16 dL_law_39 (by decide +kernel) (by decide +kernel) (by decide +kernel) (by decide) ?_
        refine sim_aload_n dL_law_1276 rfl ?_
        refine sim_aload_n dL_law_1277 rfl ?_
        refine sim_iload dL_law_1278 rfl ?_
        refine sim_iconst (1) dL_law_1280 (by decide +kernel) ?_
        refine sim_iadd dL_law_1281 ?_
        refine sim_scr dL_law_1282 (fun v187 => ?_)
        refine sim_aload_n dL_law_1283 rfl ?_
        refine sim_iload dL_law_1284 rfl ?_
        refine sim_iconst (2) dL_law_1286 (by decide +kernel) ?_
        refine sim_iadd dL_law_1287 ?_
        refine sim_scr dL_law_1288 (fun v188 => ?_)
        refine sim_aload_n dL_law_1289 rfl ?_
        refine sim_iload dL_law_1290 rfl ?_
        refine sim_iconst (3) dL_law_1292 (by decide +kernel) ?_
        refine sim_iadd dL_law_1293 ?_
        refine sim_scr dL_law_1294 (fun v189 => ?_)
        refine sim_if_eq 1302 dL_law_1295 (by decide) (fun c => ?_) (fun c => ?_)
        · refine sim_iconst (0) dL_law_1302 (by decide +kernel) ?_
          exact sim_lv (am_leS (am_leS (am_leS (am_leS (am_leS (am_leN (am_leN am_leT))))))) (t_L_law_1303 d (by omega) _ hrc23 _ _ _ _ _ _ _ _ _ _)
        · refine sim_iconst (1) dL_law_1298 (by decide +kernel) ?_
          refine sim_goto 1303 dL_law_1299 (by decide) ?_
          exact sim_lv (am_leS (am_leS (am_leS (am_leS (am_leS (am_leN (am_leN am_leT))))))) (t_L_law_1303 d (by omega) _ hrc23 _ _ _ _ _ _ _ _ _ _)
      refine sim_case (fun c39_17 => ?_) (fun c39_17 => ?_)
      · refine sim_tableIn (off := 1340) (17) 1379 c39_17 dL_law_39 (by decide +kernel) (by decide +kernel) (by decide +kernel) (by decide) ?_
        refine sim_aload_n dL_law_1379 rfl ?_
        refine sim_aload_n dL_law_1380 rfl ?_
        refine sim_iload dL_law_1381 rfl ?_
        refine sim_iconst (1) dL_law_1383 (by decide +kernel) ?_
        refine sim_iadd dL_law_1384 ?_
        refine sim_scr dL_law_1385 (fun v190 => ?_)
        refine sim_aload_n dL_law_1386 rfl ?_
        refine sim_iload dL_law_1387 rfl ?_
        refine sim_iconst (2) dL_law_1389 (by decide +kernel) ?_
        refine sim_iadd dL_law_1390 ?_
        refine sim_scr dL_law_1391 (fun v191 => ?_)
        refine sim_aload_n dL_law_1392 rfl ?_
        refine sim_staticX (d - 1) dL_law_1393 (k_L_ofTag (d - 1) (by omega) _ _ _ _ _) q_L_ofTag wm_RL_198 rfl rfl (by omega) (Nat.le_of_ble_eq_true rfl) am_nI (am_rI fun h192 v193 => ?_) am_eI
        refine sim_istore dL_law_1396 (Nat.le_of_ble_eq_true rfl) ?_
        refine sim_aload_n dL_law_1398 rfl ?_
        refine sim_aload_n dL_law_1399 rfl ?_
        refine sim_iload dL_law_1400 rfl ?_
        refine sim_iconst (1) dL_law_1402 (by decide +kernel) ?_
        refine sim_iadd dL_law_1403 ?_
        refine sim_scr dL_law_1404 (fun v194 => ?_)
        refine sim_aload_n dL_law_1405 rfl ?_
        refine sim_iload dL_law_1406 rfl ?_
        refine sim_iconst (2) dL_law_1408 (by decide +kernel) ?_
        refine sim_iadd dL_law_1409 ?_
        refine sim_scr dL_law_1410 (fun v195 => ?_)
        refine sim_ao2 (fun a198 e => ?_)
        refine sim_virt (d - 1) e dL_law_1411 (k_X11_ofTag (d - 1) (by omega) _ _ _ _) q_X11_ofTag rfl rfl wm_RL_200 rfl rfl (by omega) (Nat.le_of_ble_eq_true rfl) am_nI (am_rI fun h196 v197 => ?_) am_eI
        refine sim_istore dL_law_1414 (Nat.le_of_ble_eq_true rfl) ?_
        refine sim_aload_n dL_law_1416 rfl ?_
        refine sim_ao0 (fun a201 e => ?_)
        refine sim_virt (d - 1) e dL_law_1417 (k_X11_thrown (d - 1) (by omega) _  _) q_X11_thrown rfl rfl wm_RL_142 rfl rfl (by omega) (Nat.le_of_ble_eq_true rfl) am_nI (am_rI fun h199 v200 => ?_) am_eI
        refine sim_iload dL_law_1420 rfl ?_
        refine sim_ic_eq 1427 dL_law_1422 (by decide) (fun c => ?_) (fun c => ?_)
        · refine sim_iload dL_law_1427 rfl ?_
          refine sim_if_ne 1444 dL_law_1429 (by decide) (fun c => ?_) (fun c => ?_)
          · exact sim_lv (am_leS (am_leS (am_leS (am_leS (am_leS (am_leN (am_leN am_leT))))))) (t_L_law_1444 d (by omega) _ hrc23 _ _ _ _ _ _)
          · refine sim_aload_n dL_law_1432 rfl ?_
            refine sim_iconst (0) dL_law_1433 (by decide +kernel) ?_
            refine sim_aL dL_law_1434 (fun v202 => ?_)
            refine sim_iload dL_law_1435 rfl ?_
            refine sim_i2l dL_law_1437 ?_
            refine sim_lcmp dL_law_1438 ?_
            refine sim_if_eq 1444 dL_law_1439 (by decide) (fun c => ?_) (fun c => ?_)
            · exact sim_lv (am_leS (am_leS (am_leS (am_leS (am_leS (am_leN (am_leN am_leT))))))) (t_L_law_1444 d (by omega) _ hrc23 _ _ _ _ _ _)
            · refine sim_iconst (0) dL_law_1442 (by decide +kernel) ?_
              exact sim_zret dL_law_1443 rfl
        · refine sim_iconst (0) dL_law_1425 (by decide +kernel) ?_
          exact sim_zret dL_law_1426 rfl
      refine sim_case (fun c39_18 => ?_) (fun c39_18 => ?_)
      · refine sim_tableIn (off := 1408) (18) 1447 c39_18 dL_law_39 (by decide +kernel) (by decide +kernel) (by decide +kernel) (by decide) ?_
        refine sim_aload_n dL_law_1447 rfl ?_
        refine sim_aload_n dL_law_1448 rfl ?_
        refine sim_iload dL_law_1449 rfl ?_
        refine sim_iconst (1) dL_law_1451 (by decide +kernel) ?_
        refine sim_iadd dL_law_1452 ?_
        refine sim_scr dL_law_1453 (fun v203 => ?_)
        refine sim_aload_n dL_law_1454 rfl ?_
        refine sim_iload dL_law_1455 rfl ?_
        refine sim_iconst (2) dL_law_1457 (by decide +kernel) ?_
        refine sim_iadd dL_law_1458 ?_
        refine sim_scr dL_law_1459 (fun v204 => ?_)
        refine sim_aload_n dL_law_1460 rfl ?_
        refine sim_iload dL_law_1461 rfl ?_
        refine sim_iconst (3) dL_law_1463 (by decide +kernel) ?_
        refine sim_iadd dL_law_1464 ?_
        refine sim_scr dL_law_1465 (fun v205 => ?_)
        refine sim_if_eq 1473 dL_law_1466 (by decide) (fun c => ?_) (fun c => ?_)
        · refine sim_iconst (0) dL_law_1473 (by decide +kernel) ?_
          exact sim_lv (am_leS (am_leS (am_leS (am_leS (am_leS (am_leN (am_leN am_leT))))))) (t_L_law_1474 d (by omega) _ hrc23 _ _ _ _ _ _ _ _ _ _)
        · refine sim_iconst (1) dL_law_1469 (by decide +kernel) ?_
          refine sim_goto 1474 dL_law_1470 (by decide) ?_
          exact sim_lv (am_leS (am_leS (am_leS (am_leS (am_leS (am_leN (am_leN am_leT))))))) (t_L_law_1474 d (by omega) _ hrc23 _ _ _ _ _ _ _ _ _ _)
      refine sim_case (fun c39_19 => ?_) (fun c39_19 => ?_)
      · refine sim_tableIn (off := 1511) (19) 1550 c39_19 dL_law_39 (by decide +kernel) (by decide +kernel) (by decide +kernel) (by decide) ?_
        refine sim_aload_n dL_law_1550 rfl ?_
        refine sim_aload_n dL_law_1551 rfl ?_
        refine sim_iload dL_law_1552 rfl ?_
        refine sim_iconst (1) dL_law_1554 (by decide +kernel) ?_
        refine sim_iadd dL_law_1555 ?_
        refine sim_scr dL_law_1556 (fun v206 => ?_)
        refine sim_aload_n dL_law_1557 rfl ?_
        refine sim_staticX (d - 1) dL_law_1558 (k_L_wave (d - 1) (by omega) _ _ _ _) q_L_wave wm_RL_204 rfl rfl (by omega) (Nat.le_of_ble_eq_true rfl) am_nI (am_rI fun h207 v208 => ?_) am_eI
        refine sim_istore dL_law_1561 (Nat.le_of_ble_eq_true rfl) ?_
        refine sim_aload_n dL_law_1563 rfl ?_
        refine sim_aload_n dL_law_1564 rfl ?_
        refine sim_iload dL_law_1565 rfl ?_
        refine sim_iconst (1) dL_law_1567 (by decide +kernel) ?_
        refine sim_iadd dL_law_1568 ?_
        refine sim_scr dL_law_1569 (fun v209 => ?_)
        refine sim_ao1 (fun a212 e => ?_)
        refine sim_virt (d - 1) e dL_law_1570 (k_X11_wave (d - 1) (by omega) _ _ _) q_X11_wave rfl rfl wm_RL_206 rfl rfl (by omega) (Nat.le_of_ble_eq_true rfl) am_nI (am_rI fun h210 v211 => ?_) am_eI
        refine sim_istore dL_law_1573 (Nat.le_of_ble_eq_true rfl) ?_
        refine sim_aload_n dL_law_1575 rfl ?_
        refine sim_ao0 (fun a215 e => ?_)
        refine sim_virt (d - 1) e dL_law_1576 (k_X11_thrown (d - 1) (by omega) _  _) q_X11_thrown rfl rfl wm_RL_142 rfl rfl (by omega) (Nat.le_of_ble_eq_true rfl) am_nI (am_rI fun h213 v214 => ?_) am_eI
        refine sim_iload dL_law_1579 rfl ?_
        refine sim_ic_eq 1586 dL_law_1581 (by decide) (fun c => ?_) (fun c => ?_)
        · refine sim_iload dL_law_1586 rfl ?_
          refine sim_if_ne 1603 dL_law_1588 (by decide) (fun c => ?_) (fun c => ?_)
          · exact sim_lv (am_leS (am_leS (am_leS (am_leS (am_leS (am_leN (am_leN am_leT))))))) (t_L_law_1603 d (by omega) _ hrc23 _ _ _ _ _ _)
          · refine sim_aload_n dL_law_1591 rfl ?_
            refine sim_iconst (0) dL_law_1592 (by decide +kernel) ?_
            refine sim_aL dL_law_1593 (fun v216 => ?_)
            refine sim_iload dL_law_1594 rfl ?_
            refine sim_i2l dL_law_1596 ?_
            refine sim_lcmp dL_law_1597 ?_
            refine sim_if_eq 1603 dL_law_1598 (by decide) (fun c => ?_) (fun c => ?_)
            · exact sim_lv (am_leS (am_leS (am_leS (am_leS (am_leS (am_leN (am_leN am_leT))))))) (t_L_law_1603 d (by omega) _ hrc23 _ _ _ _ _ _)
            · refine sim_iconst (0) dL_law_1601 (by decide +kernel) ?_
              exact sim_zret dL_law_1602 rfl
        · refine sim_iconst (0) dL_law_1584 (by decide +kernel) ?_
          exact sim_zret dL_law_1585 rfl
      refine sim_case (fun c39_20 => ?_) (fun c39_20 => ?_)
      · refine sim_tableIn (off := 1567) (20) 1606 c39_20 dL_law_39 (by decide +kernel) (by decide +kernel) (by decide +kernel) (by decide) ?_
        refine sim_aload_n dL_law_1606 rfl ?_
        refine sim_ao0 (fun a219 e => ?_)
        refine sim_virt (d - 1) e dL_law_1607 (k_X10_waiting (d - 1) (by omega) _  _) q_X10_waiting rfl rfl wm_RL_207 rfl rfl (by omega) (Nat.le_of_ble_eq_true rfl) am_nI (am_rI fun h217 v218 => ?_) am_eI
        refine sim_aload_n dL_law_1610 rfl ?_
        refine sim_ao0 (fun a222 e => ?_)
        refine sim_virt (d - 1) e dL_law_1611 (k_X11_waiting (d - 1) (by omega) _  _) q_X11_waiting rfl rfl wm_RL_210 rfl rfl (by omega) (Nat.le_of_ble_eq_true rfl) am_nI (am_rI fun h220 v221 => ?_) am_eI
        refine sim_ic_eq 2795 dL_law_1614 (by decide) (fun c => ?_) (fun c => ?_)
        · exact sim_lv (am_leS (am_leS (am_leS (am_leS (am_leS (am_leN (am_leN am_leT))))))) (t_L_law_2795 d (by omega) _ hrc23 _ _ _ _ _ _)
        · refine sim_iconst (0) dL_law_1617 (by decide +kernel) ?_
          exact sim_zret dL_law_1618 rfl
      refine sim_case (fun c39_21 => ?_) (fun c39_21 => ?_)
      · refine sim_tableIn (off := 1580) (21) 1619 c39_21 dL_law_39 (by decide +kernel) (by decide +kernel) (by decide +kernel) (by decide) ?_
        refine sim_aload_n dL_law_1619 rfl ?_
        refine sim_aload_n dL_law_1620 rfl ?_
        refine sim_iload dL_law_1621 rfl ?_
        refine sim_iconst (1) dL_law_1623 (by decide +kernel) ?_
        refine sim_iadd dL_law_1624 ?_
        refine sim_scr dL_law_1625 (fun v223 => ?_)
        refine sim_aload_n dL_law_1626 rfl ?_
        refine sim_iload dL_law_1627 rfl ?_
        refine sim_iconst (2) dL_law_1629 (by decide +kernel) ?_
        refine sim_iadd dL_law_1630 ?_
        refine sim_scr dL_law_1631 (fun v224 => ?_)
        refine sim_if_eq 1639 dL_law_1632 (by decide) (fun c => ?_) (fun c => ?_)
        · refine sim_iconst (0) dL_law_1639 (by decide +kernel) ?_
          exact sim_lv (am_leS (am_leS (am_leS (am_leS (am_leS (am_leN (am_leN am_leT))))))) (t_L_law_1640 d (by omega) _ hrc23 _ _ _ _ _ _ _ _ _)
        · refine sim_iconst (1) dL_law_1635 (by decide +kernel) ?_
          refine sim_goto 1640 dL_law_1636 (by decide) ?_
          exact sim_lv (am_leS (am_leS (am_leS (am_leS (am_leS (am_leN (am_leN am_leT))))))) (t_L_law_1640 d (by omega) _ hrc23 _ _ _ _ _ _ _ _ _)
      refine sim_case (fun c39_22 => ?_) (fun c39_22 => ?_)
      · refine sim_tableIn (off := 1664) (22) 1703 c39_22 dL_law_39 (by decide +kernel) (by decide +kernel) (by decide +kernel) (by decide) ?_
        refine sim_aload_n dL_law_1703 rfl ?_
        refine sim_aload_n dL_law_1704 rfl ?_
        refine sim_iload dL_law_1705 rfl ?_
        refine sim_iconst (1) dL_law_1707 (by decide +kernel) ?_
        refine sim_iadd dL_law_1708 ?_
        refine sim_scr dL_law_1709 (fun v225 => ?_)
        refine sim_i2l dL_law_1710 ?_
        refine sim_bipush (32) dL_law_1711 (by decide +kernel) ?_
        refine sim_lshl dL_law_1713 ?_
        refine sim_aload_n dL_law_1714 rfl ?_
        refine sim_iload dL_law_1715 rfl ?_
        refine sim_iconst (2) dL_law_1717 (by decide +kernel) ?_
        refine sim_iadd dL_law_1718 ?_
        refine sim_scr dL_law_1719 (fun v226 => ?_)
        refine sim_i2l dL_law_1720 ?_
        refine sim_ldc2 (4294967295) dL_law_1721 wl_RL_214 ?_
        refine sim_land dL_law_1724 ?_
        refine sim_lor dL_law_1725 ?_
        refine sim_aload_n dL_law_1726 rfl ?_
        refine sim_iload dL_law_1727 rfl ?_
        refine sim_iconst (3) dL_law_1729 (by decide +kernel) ?_
        refine sim_iadd dL_law_1730 ?_
        refine sim_scr dL_law_1731 (fun v227 => ?_)
        refine sim_aload_n dL_law_1732 rfl ?_
        refine sim_staticX (d - 1) dL_law_1733 (k_L_type (d - 1) (by omega) _ _ _ _ _) q_L_type wm_RL_216 rfl rfl (by omega) (Nat.le_of_ble_eq_true rfl) am_nI (am_rI fun h228 v229 => ?_) am_eI
        refine sim_istore dL_law_1736 (Nat.le_of_ble_eq_true rfl) ?_
        refine sim_aload_n dL_law_1738 rfl ?_
        refine sim_aload_n dL_law_1739 rfl ?_
        refine sim_iload dL_law_1740 rfl ?_
        refine sim_iconst (1) dL_law_1742 (by decide +kernel) ?_
        refine sim_iadd dL_law_1743 ?_
        refine sim_scr dL_law_1744 (fun v230 => ?_)
        refine sim_i2l dL_law_1745 ?_
        refine sim_bipush (32) dL_law_1746 (by decide +kernel) ?_
        refine sim_lshl dL_law_1748 ?_
        refine sim_aload_n dL_law_1749 rfl ?_
        refine sim_iload dL_law_1750 rfl ?_
        refine sim_iconst (2) dL_law_1752 (by decide +kernel) ?_
        refine sim_iadd dL_law_1753 ?_
        refine sim_scr dL_law_1754 (fun v231 => ?_)
        refine sim_i2l dL_law_1755 ?_
        refine sim_ldc2 (4294967295) dL_law_1756 wl_RL_214 ?_
        refine sim_land dL_law_1759 ?_
        refine sim_lor dL_law_1760 ?_
        refine sim_aload_n dL_law_1761 rfl ?_
        refine sim_iload dL_law_1762 rfl ?_
        refine sim_iconst (3) dL_law_1764 (by decide +kernel) ?_
        refine sim_iadd dL_law_1765 ?_
        refine sim_scr dL_law_1766 (fun v232 => ?_)
        refine sim_ao2 (fun a235 e => ?_)
        refine sim_virt (d - 1) e dL_law_1767 (k_X11_type (d - 1) (by omega) _ _ _ _) q_X11_type rfl rfl wm_RL_219 rfl rfl (by omega) (Nat.le_of_ble_eq_true rfl) am_nI (am_rI fun h233 v234 => ?_) am_eI
        refine sim_istore dL_law_1770 (Nat.le_of_ble_eq_true rfl) ?_
        refine sim_aload_n dL_law_1772 rfl ?_
        refine sim_ao0 (fun a238 e => ?_)
        refine sim_virt (d - 1) e dL_law_1773 (k_X11_thrown (d - 1) (by omega) _  _) q_X11_thrown rfl rfl wm_RL_142 rfl rfl (by omega) (Nat.le_of_ble_eq_true rfl) am_nI (am_rI fun h236 v237 => ?_) am_eI
        refine sim_iload dL_law_1776 rfl ?_
        refine sim_ic_eq 1783 dL_law_1778 (by decide) (fun c => ?_) (fun c => ?_)
        · refine sim_iload dL_law_1783 rfl ?_
          refine sim_if_ne 1800 dL_law_1785 (by decide) (fun c => ?_) (fun c => ?_)
          · exact sim_lv (am_leS (am_leS (am_leS (am_leS (am_leS (am_leN (am_leN am_leT))))))) (t_L_law_1800 d (by omega) _ hrc23 _ _ _ _ _ _)
          · refine sim_aload_n dL_law_1788 rfl ?_
            refine sim_iconst (0) dL_law_1789 (by decide +kernel) ?_
            refine sim_aL dL_law_1790 (fun v239 => ?_)
            refine sim_iload dL_law_1791 rfl ?_
            refine sim_i2l dL_law_1793 ?_
            refine sim_lcmp dL_law_1794 ?_
            refine sim_if_eq 1800 dL_law_1795 (by decide) (fun c => ?_) (fun c => ?_)
            · exact sim_lv (am_leS (am_leS (am_leS (am_leS (am_leS (am_leN (am_leN am_leT))))))) (t_L_law_1800 d (by omega) _ hrc23 _ _ _ _ _ _)
            · refine sim_iconst (0) dL_law_1798 (by decide +kernel) ?_
              exact sim_zret dL_law_1799 rfl
        · refine sim_iconst (0) dL_law_1781 (by decide +kernel) ?_
          exact sim_zret dL_law_1782 rfl
      refine sim_case (fun c39_23 => ?_) (fun c39_23 => ?_)
      · refine sim_tableIn (off := 1764) (23) 1803 c39_23 dL_law_39 (by decide +kernel) (by decide +kernel) (by decide +kernel) (by decide) ?_
        refine sim_aload_n dL_law_1803 rfl ?_
        refine sim_ao0 (fun a242 e => ?_)
        refine sim_virt (d - 1) e dL_law_1804 (k_X10_wipe (d - 1) (by omega) _  _) q_X10_wipe rfl rfl wm_RL_220 rfl rfl (by omega) (Nat.le_of_ble_eq_true rfl) am_nI (am_rI fun h240 v241 => ?_) am_eI
        refine sim_aload_n dL_law_1807 rfl ?_
        refine sim_ao0 (fun a245 e => ?_)
        refine sim_virt (d - 1) e dL_law_1808 (k_X11_wipe (d - 1) (by omega) _  _) q_X11_wipe rfl rfl wm_RL_223 rfl rfl (by omega) (Nat.le_of_ble_eq_true rfl) am_nI (am_rI fun h243 v244 => ?_) am_eI
        refine sim_ic_eq 2795 dL_law_1811 (by decide) (fun c => ?_) (fun c => ?_)
        · exact sim_lv (am_leS (am_leS (am_leS (am_leS (am_leS (am_leN (am_leN am_leT))))))) (t_L_law_2795 d (by omega) _ hrc23 _ _ _ _ _ _)
        · refine sim_iconst (0) dL_law_1814 (by decide +kernel) ?_
          exact sim_zret dL_law_1815 rfl
      refine sim_case (fun c39_24 => ?_) (fun c39_24 => ?_)
      · refine sim_tableIn (off := 1777) (24) 1816 c39_24 dL_law_39 (by decide +kernel) (by decide +kernel) (by decide +kernel) (by decide) ?_
        refine sim_aload_n dL_law_1816 rfl ?_
        refine sim_ao0 (fun a248 e => ?_)
        refine sim_virt (d - 1) e dL_law_1817 (k_X10_fault (d - 1) (by omega) _  _) q_X10_fault rfl rfl wm_RL_224 rfl rfl (by omega) (Nat.le_of_ble_eq_true rfl) am_nI (am_rI fun h246 v247 => ?_) am_eI
        refine sim_aload_n dL_law_1820 rfl ?_
        refine sim_ao0 (fun a251 e => ?_)
        refine sim_virt (d - 1) e dL_law_1821 (k_X11_fault (d - 1) (by omega) _  _) q_X11_fault rfl rfl wm_RL_227 rfl rfl (by omega) (Nat.le_of_ble_eq_true rfl) am_nI (am_rI fun h249 v250 => ?_) am_eI
        refine sim_ic_eq 2795 dL_law_1824 (by decide) (fun c => ?_) (fun c => ?_)
        · exact sim_lv (am_leS (am_leS (am_leS (am_leS (am_leS (am_leN (am_leN am_leT))))))) (t_L_law_2795 d (by omega) _ hrc23 _ _ _ _ _ _)
        · refine sim_iconst (0) dL_law_1827 (by decide +kernel) ?_
          exact sim_zret dL_law_1828 rfl
      refine sim_case (fun c39_25 => ?_) (fun c39_25 => ?_)
      · refine sim_tableIn (off := 1790) (25) 1829 c39_25 dL_law_39 (by decide +kernel) (by decide +kernel) (by decide +kernel) (by decide) ?_
        refine sim_aload_n dL_law_1829 rfl ?_
        refine sim_aload_n dL_law_1830 rfl ?_
        refine sim_iload dL_law_1831 rfl ?_
        refine sim_iconst (1) dL_law_1833 (by decide +kernel) ?_
        refine sim_iadd dL_law_1834 ?_
        refine sim_scr dL_law_1835 (fun v252 => ?_)
        refine sim_aload_n dL_law_1836 rfl ?_
        refine sim_iload dL_law_1837 rfl ?_
        refine sim_iconst (2) dL_law_1839 (by decide +kernel) ?_
        refine sim_iadd dL_law_1840 ?_
        refine sim_scr dL_law_1841 (fun v253 => ?_)
        refine sim_if_eq 1849 dL_law_1842 (by decide) (fun c => ?_) (fun c => ?_)
        · refine sim_iconst (0) dL_law_1849 (by decide +kernel) ?_
          exact sim_lv (am_leS (am_leS (am_leS (am_leS (am_leS (am_leN (am_leN am_leT))))))) (t_L_law_1850 d (by omega) _ hrc23 _ _ _ _ _ _ _ _ _)
        · refine sim_iconst (1) dL_law_1845 (by decide +kernel) ?_
          refine sim_goto 1850 dL_law_1846 (by decide) ?_
          exact sim_lv (am_leS (am_leS (am_leS (am_leS (am_leS (am_leN (am_leN am_leT))))))) (t_L_law_1850 d (by omega) _ hrc23 _ _ _ _ _ _ _ _ _)
      refine sim_case (fun c39_26 => ?_) (fun c39_26 => ?_)
      · refine sim_tableIn (off := 1874) (26) 1913 c39_26 dL_law_39 (by decide +kernel) (by decide +kernel) (by decide +kernel) (by decide) ?_
        refine sim_aload_n dL_law_1913 rfl ?_
        refine sim_aload_n dL_law_1914 rfl ?_
        refine sim_iload dL_law_1915 rfl ?_
        refine sim_iconst (1) dL_law_1917 (by decide +kernel) ?_
        refine sim_iadd dL_law_1918 ?_
        refine sim_scr dL_law_1919 (fun v254 => ?_)
        refine sim_aload_n dL_law_1920 rfl ?_
        refine sim_iload dL_law_1921 rfl ?_
        refine sim_iconst (2) dL_law_1923 (by decide +kernel) ?_
        refine sim_iadd dL_law_1924 ?_
        refine sim_scr dL_law_1925 (fun v255 => ?_)
        refine sim_aload_n dL_law_1926 rfl ?_
        refine sim_staticX (d - 1) dL_law_1927 (k_L_result (d - 1) (by omega) _ _ _ _ _) q_L_result wm_RL_231 rfl rfl (by omega) (Nat.le_of_ble_eq_true rfl) am_nI (am_rI fun h256 v257 => ?_) am_eI
        refine sim_istore dL_law_1930 (Nat.le_of_ble_eq_true rfl) ?_
        refine sim_aload_n dL_law_1932 rfl ?_
        refine sim_aload_n dL_law_1933 rfl ?_
        refine sim_iload dL_law_1934 rfl ?_
        refine sim_iconst (1) dL_law_1936 (by decide +kernel) ?_
        refine sim_iadd dL_law_1937 ?_
        refine sim_scr dL_law_1938 (fun v258 => ?_)
        refine sim_aload_n dL_law_1939 rfl ?_
        refine sim_iload dL_law_1940 rfl ?_
        refine sim_iconst (2) dL_law_1942 (by decide +kernel) ?_
        refine sim_iadd dL_law_1943 ?_
        refine sim_scr dL_law_1944 (fun v259 => ?_)
        refine sim_ao2 (fun a262 e => ?_)
        refine sim_virt (d - 1) e dL_law_1945 (k_X11_result (d - 1) (by omega) _ _ _ _) q_X11_result rfl rfl wm_RL_233 rfl rfl (by omega) (Nat.le_of_ble_eq_true rfl) am_nI (am_rI fun h260 v261 => ?_) am_eI
        refine sim_istore dL_law_1948 (Nat.le_of_ble_eq_true rfl) ?_
        refine sim_aload_n dL_law_1950 rfl ?_
        refine sim_ao0 (fun a265 e => ?_)
        refine sim_virt (d - 1) e dL_law_1951 (k_X11_thrown (d - 1) (by omega) _  _) q_X11_thrown rfl rfl wm_RL_142 rfl rfl (by omega) (Nat.le_of_ble_eq_true rfl) am_nI (am_rI fun h263 v264 => ?_) am_eI
        refine sim_iload dL_law_1954 rfl ?_
        refine sim_ic_eq 1961 dL_law_1956 (by decide) (fun c => ?_) (fun c => ?_)
        · refine sim_iload dL_law_1961 rfl ?_
          refine sim_if_ne 1978 dL_law_1963 (by decide) (fun c => ?_) (fun c => ?_)
          · exact sim_lv (am_leS (am_leS (am_leS (am_leS (am_leS (am_leN (am_leN am_leT))))))) (t_L_law_1978 d (by omega) _ hrc23 _ _ _ _ _ _)
          · refine sim_aload_n dL_law_1966 rfl ?_
            refine sim_iconst (0) dL_law_1967 (by decide +kernel) ?_
            refine sim_aL dL_law_1968 (fun v266 => ?_)
            refine sim_iload dL_law_1969 rfl ?_
            refine sim_i2l dL_law_1971 ?_
            refine sim_lcmp dL_law_1972 ?_
            refine sim_if_eq 1978 dL_law_1973 (by decide) (fun c => ?_) (fun c => ?_)
            · exact sim_lv (am_leS (am_leS (am_leS (am_leS (am_leS (am_leN (am_leN am_leT))))))) (t_L_law_1978 d (by omega) _ hrc23 _ _ _ _ _ _)
            · refine sim_iconst (0) dL_law_1976 (by decide +kernel) ?_
              exact sim_zret dL_law_1977 rfl
        · refine sim_iconst (0) dL_law_1959 (by decide +kernel) ?_
          exact sim_zret dL_law_1960 rfl
      refine sim_case (fun c39_27 => ?_) (fun c39_27 => ?_)
      · refine sim_tableIn (off := 1942) (27) 1981 c39_27 dL_law_39 (by decide +kernel) (by decide +kernel) (by decide +kernel) (by decide) ?_
        refine sim_aload_n dL_law_1981 rfl ?_
        refine sim_aload_n dL_law_1982 rfl ?_
        refine sim_iload dL_law_1983 rfl ?_
        refine sim_iconst (1) dL_law_1985 (by decide +kernel) ?_
        refine sim_iadd dL_law_1986 ?_
        refine sim_scr dL_law_1987 (fun v267 => ?_)
        refine sim_aload_n dL_law_1988 rfl ?_
        refine sim_iload dL_law_1989 rfl ?_
        refine sim_iconst (2) dL_law_1991 (by decide +kernel) ?_
        refine sim_iadd dL_law_1992 ?_
        refine sim_scr dL_law_1993 (fun v268 => ?_)
        refine sim_aload_n dL_law_1994 rfl ?_
        refine sim_iload dL_law_1995 rfl ?_
        refine sim_iconst (3) dL_law_1997 (by decide +kernel) ?_
        refine sim_iadd dL_law_1998 ?_
        refine sim_scr dL_law_1999 (fun v269 => ?_)
        refine sim_aload_n dL_law_2000 rfl ?_
        refine sim_iload dL_law_2001 rfl ?_
        refine sim_iconst (4) dL_law_2003 (by decide +kernel) ?_
        refine sim_iadd dL_law_2004 ?_
        refine sim_scr dL_law_2005 (fun v270 => ?_)
        refine sim_aload_n dL_law_2006 rfl ?_
        refine sim_staticX (d - 1) dL_law_2007 (k_L_sign (d - 1) (by omega) _ _ _ _ _ _ _) q_L_sign wm_RL_234 rfl rfl (by omega) (Nat.le_of_ble_eq_true rfl) am_nI (am_rI fun h271 v272 => ?_) am_eI
        refine sim_istore dL_law_2010 (Nat.le_of_ble_eq_true rfl) ?_
        refine sim_aload_n dL_law_2012 rfl ?_
        refine sim_aload_n dL_law_2013 rfl ?_
        refine sim_iload dL_law_2014 rfl ?_
        refine sim_iconst (1) dL_law_2016 (by decide +kernel) ?_
        refine sim_iadd dL_law_2017 ?_
        refine sim_scr dL_law_2018 (fun v273 => ?_)
        refine sim_aload_n dL_law_2019 rfl ?_
        refine sim_iload dL_law_2020 rfl ?_
        refine sim_iconst (2) dL_law_2022 (by decide +kernel) ?_
        refine sim_iadd dL_law_2023 ?_
        refine sim_scr dL_law_2024 (fun v274 => ?_)
        refine sim_aload_n dL_law_2025 rfl ?_
        refine sim_iload dL_law_2026 rfl ?_
        refine sim_iconst (3) dL_law_2028 (by decide +kernel) ?_
        refine sim_iadd dL_law_2029 ?_
        refine sim_scr dL_law_2030 (fun v275 => ?_)
        refine sim_aload_n dL_law_2031 rfl ?_
        refine sim_iload dL_law_2032 rfl ?_
        refine sim_iconst (4) dL_law_2034 (by decide +kernel) ?_
        refine sim_iadd dL_law_2035 ?_
        refine sim_scr dL_law_2036 (fun v276 => ?_)
        refine sim_ao4 (fun a279 e => ?_)
        refine sim_virt (d - 1) e dL_law_2037 (k_X11_sign (d - 1) (by omega) _ _ _ _ _ _) q_X11_sign rfl rfl wm_RL_237 rfl rfl (by omega) (Nat.le_of_ble_eq_true rfl) am_nI (am_rI fun h277 v278 => ?_) am_eI
        refine sim_istore dL_law_2040 (Nat.le_of_ble_eq_true rfl) ?_
        refine sim_aload_n dL_law_2042 rfl ?_
        refine sim_ao0 (fun a282 e => ?_)
        refine sim_virt (d - 1) e dL_law_2043 (k_X11_thrown (d - 1) (by omega) _  _) q_X11_thrown rfl rfl wm_RL_142 rfl rfl (by omega) (Nat.le_of_ble_eq_true rfl) am_nI (am_rI fun h280 v281 => ?_) am_eI
        refine sim_iload dL_law_2046 rfl ?_
        refine sim_ic_eq 2053 dL_law_2048 (by decide) (fun c => ?_) (fun c => ?_)
        · refine sim_iload dL_law_2053 rfl ?_
          refine sim_if_ne 2070 dL_law_2055 (by decide) (fun c => ?_) (fun c => ?_)
          · exact sim_lv (am_leS (am_leS (am_leS (am_leS (am_leS (am_leN (am_leN am_leT))))))) (t_L_law_2070 d (by omega) _ hrc23 _ _ _ _ _ _)
          · refine sim_aload_n dL_law_2058 rfl ?_
            refine sim_iconst (0) dL_law_2059 (by decide +kernel) ?_
            refine sim_aL dL_law_2060 (fun v283 => ?_)
            refine sim_iload dL_law_2061 rfl ?_
            refine sim_i2l dL_law_2063 ?_
            refine sim_lcmp dL_law_2064 ?_
            refine sim_if_eq 2070 dL_law_2065 (by decide) (fun c => ?_) (fun c => ?_)
            · exact sim_lv (am_leS (am_leS (am_leS (am_leS (am_leS (am_leN (am_leN am_leT))))))) (t_L_law_2070 d (by omega) _ hrc23 _ _ _ _ _ _)
            · refine sim_iconst (0) dL_law_2068 (by decide +kernel) ?_
              exact sim_zret dL_law_2069 rfl
        · refine sim_iconst (0) dL_law_2051 (by decide +kernel) ?_
          exact sim_zret dL_law_2052 rfl
      refine sim_case (fun c39_28 => ?_) (fun c39_28 => ?_)
      · refine sim_tableIn (off := 2034) (28) 2073 c39_28 dL_law_39 (by decide +kernel) (by decide +kernel) (by decide +kernel) (by decide) ?_
        refine sim_aload_n dL_law_2073 rfl ?_
        refine sim_aload_n dL_law_2074 rfl ?_
        refine sim_iload dL_law_2075 rfl ?_
        refine sim_iconst (1) dL_law_2077 (by decide +kernel) ?_
        refine sim_iadd dL_law_2078 ?_
        refine sim_scr dL_law_2079 (fun v284 => ?_)
        refine sim_aload_n dL_law_2080 rfl ?_
        refine sim_staticX (d - 1) dL_law_2081 (k_L_match (d - 1) (by omega) _ _ _ _) q_L_match wm_RL_238 rfl rfl (by omega) (Nat.le_of_ble_eq_true rfl) am_nI (am_rI fun h285 v286 => ?_) am_eI
        refine sim_istore dL_law_2084 (Nat.le_of_ble_eq_true rfl) ?_
        refine sim_aload_n dL_law_2086 rfl ?_
        refine sim_aload_n dL_law_2087 rfl ?_
        refine sim_iload dL_law_2088 rfl ?_
        refine sim_iconst (1) dL_law_2090 (by decide +kernel) ?_
        refine sim_iadd dL_law_2091 ?_
        refine sim_scr dL_law_2092 (fun v287 => ?_)
        refine sim_ao1 (fun a290 e => ?_)
        refine sim_virt (d - 1) e dL_law_2093 (k_X11_match (d - 1) (by omega) _ _ _) q_X11_match rfl rfl wm_RL_240 rfl rfl (by omega) (Nat.le_of_ble_eq_true rfl) am_nI (am_rI fun h288 v289 => ?_) am_eI
        refine sim_istore dL_law_2096 (Nat.le_of_ble_eq_true rfl) ?_
        refine sim_aload_n dL_law_2098 rfl ?_
        refine sim_ao0 (fun a293 e => ?_)
        refine sim_virt (d - 1) e dL_law_2099 (k_X11_thrown (d - 1) (by omega) _  _) q_X11_thrown rfl rfl wm_RL_142 rfl rfl (by omega) (Nat.le_of_ble_eq_true rfl) am_nI (am_rI fun h291 v292 => ?_) am_eI
        refine sim_iload dL_law_2102 rfl ?_
        refine sim_ic_eq 2109 dL_law_2104 (by decide) (fun c => ?_) (fun c => ?_)
        · refine sim_iload dL_law_2109 rfl ?_
          refine sim_if_ne 2126 dL_law_2111 (by decide) (fun c => ?_) (fun c => ?_)
          · exact sim_lv (am_leS (am_leS (am_leS (am_leS (am_leS (am_leN (am_leN am_leT))))))) (t_L_law_2126 d (by omega) _ hrc23 _ _ _ _ _ _)
          · refine sim_aload_n dL_law_2114 rfl ?_
            refine sim_iconst (0) dL_law_2115 (by decide +kernel) ?_
            refine sim_aL dL_law_2116 (fun v294 => ?_)
            refine sim_iload dL_law_2117 rfl ?_
            refine sim_i2l dL_law_2119 ?_
            refine sim_lcmp dL_law_2120 ?_
            refine sim_if_eq 2126 dL_law_2121 (by decide) (fun c => ?_) (fun c => ?_)
            · exact sim_lv (am_leS (am_leS (am_leS (am_leS (am_leS (am_leN (am_leN am_leT))))))) (t_L_law_2126 d (by omega) _ hrc23 _ _ _ _ _ _)
            · refine sim_iconst (0) dL_law_2124 (by decide +kernel) ?_
              exact sim_zret dL_law_2125 rfl
        · refine sim_iconst (0) dL_law_2107 (by decide +kernel) ?_
          exact sim_zret dL_law_2108 rfl
      refine sim_case (fun c39_29 => ?_) (fun c39_29 => ?_)
      · refine sim_tableIn (off := 2090) (29) 2129 c39_29 dL_law_39 (by decide +kernel) (by decide +kernel) (by decide +kernel) (by decide) ?_
        refine sim_aload_n dL_law_2129 rfl ?_
        refine sim_ao0 (fun a297 e => ?_)
        refine sim_virt (d - 1) e dL_law_2130 (k_X10_matches (d - 1) (by omega) _  _) q_X10_matches rfl rfl wm_RL_241 rfl rfl (by omega) (Nat.le_of_ble_eq_true rfl) am_nI (am_rI fun h295 v296 => ?_) am_eI
        refine sim_aload_n dL_law_2133 rfl ?_
        refine sim_ao0 (fun a300 e => ?_)
        refine sim_virt (d - 1) e dL_law_2134 (k_X11_matches (d - 1) (by omega) _  _) q_X11_matches rfl rfl wm_RL_244 rfl rfl (by omega) (Nat.le_of_ble_eq_true rfl) am_nI (am_rI fun h298 v299 => ?_) am_eI
        refine sim_ic_eq 2795 dL_law_2137 (by decide) (fun c => ?_) (fun c => ?_)
        · exact sim_lv (am_leS (am_leS (am_leS (am_leS (am_leS (am_leN (am_leN am_leT))))))) (t_L_law_2795 d (by omega) _ hrc23 _ _ _ _ _ _)
        · refine sim_iconst (0) dL_law_2140 (by decide +kernel) ?_
          exact sim_zret dL_law_2141 rfl
      refine sim_case (fun c39_30 => ?_) (fun c39_30 => ?_)
      · refine sim_tableIn (off := 2103) (30) 2142 c39_30 dL_law_39 (by decide +kernel) (by decide +kernel) (by decide +kernel) (by decide) ?_
        refine sim_aload_n dL_law_2142 rfl ?_
        refine sim_aload_n dL_law_2143 rfl ?_
        refine sim_iload dL_law_2144 rfl ?_
        refine sim_iconst (1) dL_law_2146 (by decide +kernel) ?_
        refine sim_iadd dL_law_2147 ?_
        refine sim_scr dL_law_2148 (fun v301 => ?_)
        refine sim_aload_n dL_law_2149 rfl ?_
        refine sim_iload dL_law_2150 rfl ?_
        refine sim_iconst (2) dL_law_2152 (by decide +kernel) ?_
        refine sim_iadd dL_law_2153 ?_
        refine sim_scr dL_law_2154 (fun v302 => ?_)
        refine sim_if_eq 2162 dL_law_2155 (by decide) (fun c => ?_) (fun c => ?_)
        · refine sim_iconst (0) dL_law_2162 (by decide +kernel) ?_
          exact sim_lv (am_leS (am_leS (am_leS (am_leS (am_leS (am_leN (am_leN am_leT))))))) (t_L_law_2163 d (by omega) _ hrc23 _ _ _ _ _ _ _ _ _)
        · refine sim_iconst (1) dL_law_2158 (by decide +kernel) ?_
          refine sim_goto 2163 dL_law_2159 (by decide) ?_
          exact sim_lv (am_leS (am_leS (am_leS (am_leS (am_leS (am_leN (am_leN am_leT))))))) (t_L_law_2163 d (by omega) _ hrc23 _ _ _ _ _ _ _ _ _)
      refine sim_case (fun c39_31 => ?_) (fun c39_31 => ?_)
      · refine sim_tableIn (off := 2194) (31) 2233 c39_31 dL_law_39 (by decide +kernel) (by decide +kernel) (by decide +kernel) (by decide) ?_
        refine sim_aload_n dL_law_2233 rfl ?_
        refine sim_aload_n dL_law_2234 rfl ?_
        refine sim_iload dL_law_2235 rfl ?_
        refine sim_iconst (1) dL_law_2237 (by decide +kernel) ?_
        refine sim_iadd dL_law_2238 ?_
        refine sim_scr dL_law_2239 (fun v303 => ?_)
        refine sim_aload_n dL_law_2240 rfl ?_
        refine sim_iload dL_law_2241 rfl ?_
        refine sim_iconst (2) dL_law_2243 (by decide +kernel) ?_
        refine sim_iadd dL_law_2244 ?_
        refine sim_scr dL_law_2245 (fun v304 => ?_)
        refine sim_aload_n dL_law_2246 rfl ?_
        refine sim_iload dL_law_2247 rfl ?_
        refine sim_iconst (3) dL_law_2249 (by decide +kernel) ?_
        refine sim_iadd dL_law_2250 ?_
        refine sim_scr dL_law_2251 (fun v305 => ?_)
        refine sim_aload_n dL_law_2252 rfl ?_
        refine sim_staticX (d - 1) dL_law_2253 (k_L_comment (d - 1) (by omega) _ _ _ _ _ _) q_L_comment wm_RL_248 rfl rfl (by omega) (Nat.le_of_ble_eq_true rfl) am_nI (am_rI fun h306 v307 => ?_) am_eI
        refine sim_istore dL_law_2256 (Nat.le_of_ble_eq_true rfl) ?_
        refine sim_aload_n dL_law_2258 rfl ?_
        refine sim_aload_n dL_law_2259 rfl ?_
        refine sim_iload dL_law_2260 rfl ?_
        refine sim_iconst (1) dL_law_2262 (by decide +kernel) ?_
        refine sim_iadd dL_law_2263 ?_
        refine sim_scr dL_law_2264 (fun v308 => ?_)
        refine sim_aload_n dL_law_2265 rfl ?_
        refine sim_iload dL_law_2266 rfl ?_
        refine sim_iconst (2) dL_law_2268 (by decide +kernel) ?_
        refine sim_iadd dL_law_2269 ?_
        refine sim_scr dL_law_2270 (fun v309 => ?_)
        refine sim_aload_n dL_law_2271 rfl ?_
        refine sim_iload dL_law_2272 rfl ?_
        refine sim_iconst (3) dL_law_2274 (by decide +kernel) ?_
        refine sim_iadd dL_law_2275 ?_
        refine sim_scr dL_law_2276 (fun v310 => ?_)
        refine sim_ao3 (fun a313 e => ?_)
        refine sim_virt (d - 1) e dL_law_2277 (k_X11_comment (d - 1) (by omega) _ _ _ _ _) q_X11_comment rfl rfl wm_RL_251 rfl rfl (by omega) (Nat.le_of_ble_eq_true rfl) am_nI (am_rI fun h311 v312 => ?_) am_eI
        refine sim_istore dL_law_2280 (Nat.le_of_ble_eq_true rfl) ?_
        refine sim_aload_n dL_law_2282 rfl ?_
        refine sim_ao0 (fun a316 e => ?_)
        refine sim_virt (d - 1) e dL_law_2283 (k_X11_thrown (d - 1) (by omega) _  _) q_X11_thrown rfl rfl wm_RL_142 rfl rfl (by omega) (Nat.le_of_ble_eq_true rfl) am_nI (am_rI fun h314 v315 => ?_) am_eI
        refine sim_iload dL_law_2286 rfl ?_
        refine sim_ic_eq 2293 dL_law_2288 (by decide) (fun c => ?_) (fun c => ?_)
        · refine sim_iload dL_law_2293 rfl ?_
          refine sim_if_ne 2310 dL_law_2295 (by decide) (fun c => ?_) (fun c => ?_)
          · exact sim_lv (am_leS (am_leS (am_leS (am_leS (am_leS (am_leN (am_leN am_leT))))))) (t_L_law_2310 d (by omega) _ hrc23 _ _ _ _ _ _)
          · refine sim_aload_n dL_law_2298 rfl ?_
            refine sim_iconst (0) dL_law_2299 (by decide +kernel) ?_
            refine sim_aL dL_law_2300 (fun v317 => ?_)
            refine sim_iload dL_law_2301 rfl ?_
            refine sim_i2l dL_law_2303 ?_
            refine sim_lcmp dL_law_2304 ?_
            refine sim_if_eq 2310 dL_law_2305 (by decide) (fun c => ?_) (fun c => ?_)
            · exact sim_lv (am_leS (am_leS (am_leS (am_leS (am_leS (am_leN (am_leN am_leT))))))) (t_L_law_2310 d (by omega) _ hrc23 _ _ _ _ _ _)
            · refine sim_iconst (0) dL_law_2308 (by decide +kernel) ?_
              exact sim_zret dL_law_2309 rfl
        · refine sim_iconst (0) dL_law_2291 (by decide +kernel) ?_
          exact sim_zret dL_law_2292 rfl
      refine sim_case (fun c39_32 => ?_) (fun c39_32 => ?_)
      · refine sim_tableIn (off := 2274) (32) 2313 c39_32 dL_law_39 (by decide +kernel) (by decide +kernel) (by decide +kernel) (by decide) ?_
        refine sim_aload_n dL_law_2313 rfl ?_
        refine sim_aload_n dL_law_2314 rfl ?_
        refine sim_iload dL_law_2315 rfl ?_
        refine sim_iconst (1) dL_law_2317 (by decide +kernel) ?_
        refine sim_iadd dL_law_2318 ?_
        refine sim_scr dL_law_2319 (fun v318 => ?_)
        refine sim_aload_n dL_law_2320 rfl ?_
        refine sim_iload dL_law_2321 rfl ?_
        refine sim_iconst (2) dL_law_2323 (by decide +kernel) ?_
        refine sim_iadd dL_law_2324 ?_
        refine sim_scr dL_law_2325 (fun v319 => ?_)
        refine sim_aload_n dL_law_2326 rfl ?_
        refine sim_staticX (d - 1) dL_law_2327 (k_L_change (d - 1) (by omega) _ _ _ _ _) q_L_change wm_RL_252 rfl rfl (by omega) (Nat.le_of_ble_eq_true rfl) am_nI (am_rI fun h320 v321 => ?_) am_eI
        refine sim_istore dL_law_2330 (Nat.le_of_ble_eq_true rfl) ?_
        refine sim_aload_n dL_law_2332 rfl ?_
        refine sim_aload_n dL_law_2333 rfl ?_
        refine sim_iload dL_law_2334 rfl ?_
        refine sim_iconst (1) dL_law_2336 (by decide +kernel) ?_
        refine sim_iadd dL_law_2337 ?_
        refine sim_scr dL_law_2338 (fun v322 => ?_)
        refine sim_aload_n dL_law_2339 rfl ?_
        refine sim_iload dL_law_2340 rfl ?_
        refine sim_iconst (2) dL_law_2342 (by decide +kernel) ?_
        refine sim_iadd dL_law_2343 ?_
        refine sim_scr dL_law_2344 (fun v323 => ?_)
        refine sim_ao2 (fun a326 e => ?_)
        refine sim_virt (d - 1) e dL_law_2345 (k_X11_change (d - 1) (by omega) _ _ _ _) q_X11_change rfl rfl wm_RL_254 rfl rfl (by omega) (Nat.le_of_ble_eq_true rfl) am_nI (am_rI fun h324 v325 => ?_) am_eI
        refine sim_istore dL_law_2348 (Nat.le_of_ble_eq_true rfl) ?_
        refine sim_aload_n dL_law_2350 rfl ?_
        refine sim_ao0 (fun a329 e => ?_)
        refine sim_virt (d - 1) e dL_law_2351 (k_X11_thrown (d - 1) (by omega) _  _) q_X11_thrown rfl rfl wm_RL_142 rfl rfl (by omega) (Nat.le_of_ble_eq_true rfl) am_nI (am_rI fun h327 v328 => ?_) am_eI
        refine sim_iload dL_law_2354 rfl ?_
        refine sim_ic_eq 2361 dL_law_2356 (by decide) (fun c => ?_) (fun c => ?_)
        · refine sim_iload dL_law_2361 rfl ?_
          refine sim_if_ne 2385 dL_law_2363 (by decide) (fun c => ?_) (fun c => ?_)
          · exact sim_lv (am_leS (am_leS (am_leS (am_leS (am_leS (am_leN (am_leN am_leT))))))) (t_L_law_2385 d (by omega) _ hrc23 _ _ _ _ _ _)
          · refine sim_aload_n dL_law_2366 rfl ?_
            refine sim_iconst (0) dL_law_2367 (by decide +kernel) ?_
            refine sim_aL dL_law_2368 (fun v330 => ?_)
            refine sim_iload dL_law_2369 rfl ?_
            refine sim_if_eq 2378 dL_law_2371 (by decide) (fun c => ?_) (fun c => ?_)
            · refine sim_lconst (0) dL_law_2378 (by decide +kernel) ?_
              exact sim_lv (am_leS (am_leS (am_leS (am_leS (am_leS (am_leN (am_leN am_leT))))))) (t_L_law_2379 d (by omega) _ hrc23 _ _ _ _ _ _ _ _)
            · refine sim_lconst (1) dL_law_2374 (by decide +kernel) ?_
              refine sim_goto 2379 dL_law_2375 (by decide) ?_
              exact sim_lv (am_leS (am_leS (am_leS (am_leS (am_leS (am_leN (am_leN am_leT))))))) (t_L_law_2379 d (by omega) _ hrc23 _ _ _ _ _ _ _ _)
        · refine sim_iconst (0) dL_law_2359 (by decide +kernel) ?_
          exact sim_zret dL_law_2360 rfl
      refine sim_case (fun c39_33 => ?_) (fun c39_33 => ?_)
      · refine sim_tableIn (off := 2349) (33) 2388 c39_33 dL_law_39 (by decide +kernel) (by decide +kernel) (by decide +kernel) (by decide) ?_
        refine sim_aload_n dL_law_2388 rfl ?_
        refine sim_aload_n dL_law_2389 rfl ?_
        refine sim_iload dL_law_2390 rfl ?_
        refine sim_iconst (1) dL_law_2392 (by decide +kernel) ?_
        refine sim_iadd dL_law_2393 ?_
        refine sim_scr dL_law_2394 (fun v331 => ?_)
        refine sim_aload_n dL_law_2395 rfl ?_
        refine sim_iload dL_law_2396 rfl ?_
        refine sim_iconst (2) dL_law_2398 (by decide +kernel) ?_
        refine sim_iadd dL_law_2399 ?_
        refine sim_scr dL_law_2400 (fun v332 => ?_)
        refine sim_aload_n dL_law_2401 rfl ?_
        refine sim_staticX (d - 1) dL_law_2402 (k_L_reads (d - 1) (by omega) _ _ _ _ _) q_L_reads wm_RL_255 rfl rfl (by omega) (Nat.le_of_ble_eq_true rfl) am_nI (am_rI fun h333 v334 => ?_) am_eI
        refine sim_istore dL_law_2405 (Nat.le_of_ble_eq_true rfl) ?_
        refine sim_aload_n dL_law_2407 rfl ?_
        refine sim_aload_n dL_law_2408 rfl ?_
        refine sim_iload dL_law_2409 rfl ?_
        refine sim_iconst (1) dL_law_2411 (by decide +kernel) ?_
        refine sim_iadd dL_law_2412 ?_
        refine sim_scr dL_law_2413 (fun v335 => ?_)
        refine sim_aload_n dL_law_2414 rfl ?_
        refine sim_iload dL_law_2415 rfl ?_
        refine sim_iconst (2) dL_law_2417 (by decide +kernel) ?_
        refine sim_iadd dL_law_2418 ?_
        refine sim_scr dL_law_2419 (fun v336 => ?_)
        refine sim_ao2 (fun a339 e => ?_)
        refine sim_virt (d - 1) e dL_law_2420 (k_X11_reads (d - 1) (by omega) _ _ _ _) q_X11_reads rfl rfl wm_RL_257 rfl rfl (by omega) (Nat.le_of_ble_eq_true rfl) am_nI (am_rI fun h337 v338 => ?_) am_eI
        refine sim_istore dL_law_2423 (Nat.le_of_ble_eq_true rfl) ?_
        refine sim_aload_n dL_law_2425 rfl ?_
        refine sim_ao0 (fun a342 e => ?_)
        refine sim_virt (d - 1) e dL_law_2426 (k_X11_thrown (d - 1) (by omega) _  _) q_X11_thrown rfl rfl wm_RL_142 rfl rfl (by omega) (Nat.le_of_ble_eq_true rfl) am_nI (am_rI fun h340 v341 => ?_) am_eI
        refine sim_iload dL_law_2429 rfl ?_
        refine sim_ic_eq 2436 dL_law_2431 (by decide) (fun c => ?_) (fun c => ?_)
        · refine sim_iload dL_law_2436 rfl ?_
          refine sim_if_ne 2453 dL_law_2438 (by decide) (fun c => ?_) (fun c => ?_)
          · exact sim_lv (am_leS (am_leS (am_leS (am_leS (am_leS (am_leN (am_leN am_leT))))))) (t_L_law_2453 d (by omega) _ hrc23 _ _ _ _ _ _)
          · refine sim_aload_n dL_law_2441 rfl ?_
            refine sim_iconst (0) dL_law_2442 (by decide +kernel) ?_
            refine sim_aL dL_law_2443 (fun v343 => ?_)
            refine sim_iload dL_law_2444 rfl ?_
            refine sim_i2l dL_law_2446 ?_
            refine sim_lcmp dL_law_2447 ?_
            refine sim_if_eq 2453 dL_law_2448 (by decide) (fun c => ?_) (fun c => ?_)
            · exact sim_lv (am_leS (am_leS (am_leS (am_leS (am_leS (am_leN (am_leN am_leT))))))) (t_L_law_2453 d (by omega) _ hrc23 _ _ _ _ _ _)
            · refine sim_iconst (0) dL_law_2451 (by decide +kernel) ?_
              exact sim_zret dL_law_2452 rfl
        · refine sim_iconst (0) dL_law_2434 (by decide +kernel) ?_
          exact sim_zret dL_law_2435 rfl
      refine sim_case (fun c39_34 => ?_) (fun c39_34 => ?_)
      · refine sim_tableIn (off := 2417) (34) 2456 c39_34 dL_law_39 (by decide +kernel) (by decide +kernel) (by decide +kernel) (by decide) ?_
        refine sim_aload_n dL_law_2456 rfl ?_
        refine sim_aload_n dL_law_2457 rfl ?_
        refine sim_iload dL_law_2458 rfl ?_
        refine sim_iconst (1) dL_law_2460 (by decide +kernel) ?_
        refine sim_iadd dL_law_2461 ?_
        refine sim_scr dL_law_2462 (fun v344 => ?_)
        refine sim_aload_n dL_law_2463 rfl ?_
        refine sim_iload dL_law_2464 rfl ?_
        refine sim_iconst (2) dL_law_2466 (by decide +kernel) ?_
        refine sim_iadd dL_law_2467 ?_
        refine sim_scr dL_law_2468 (fun v345 => ?_)
        refine sim_aload_n dL_law_2469 rfl ?_
        refine sim_staticX (d - 1) dL_law_2470 (k_L_kudos (d - 1) (by omega) _ _ _ _ _) q_L_kudos wm_RL_258 rfl rfl (by omega) (Nat.le_of_ble_eq_true rfl) am_nI (am_rI fun h346 v347 => ?_) am_eI
        refine sim_istore dL_law_2473 (Nat.le_of_ble_eq_true rfl) ?_
        refine sim_aload_n dL_law_2475 rfl ?_
        refine sim_aload_n dL_law_2476 rfl ?_
        refine sim_iload dL_law_2477 rfl ?_
        refine sim_iconst (1) dL_law_2479 (by decide +kernel) ?_
        refine sim_iadd dL_law_2480 ?_
        refine sim_scr dL_law_2481 (fun v348 => ?_)
        refine sim_aload_n dL_law_2482 rfl ?_
        refine sim_iload dL_law_2483 rfl ?_
        refine sim_iconst (2) dL_law_2485 (by decide +kernel) ?_
        refine sim_iadd dL_law_2486 ?_
        refine sim_scr dL_law_2487 (fun v349 => ?_)
        refine sim_ao2 (fun a352 e => ?_)
        refine sim_virt (d - 1) e dL_law_2488 (k_X11_kudos (d - 1) (by omega) _ _ _ _) q_X11_kudos rfl rfl wm_RL_260 rfl rfl (by omega) (Nat.le_of_ble_eq_true rfl) am_nI (am_rI fun h350 v351 => ?_) am_eI
        refine sim_istore dL_law_2491 (Nat.le_of_ble_eq_true rfl) ?_
        refine sim_aload_n dL_law_2493 rfl ?_
        refine sim_ao0 (fun a355 e => ?_)
        refine sim_virt (d - 1) e dL_law_2494 (k_X11_thrown (d - 1) (by omega) _  _) q_X11_thrown rfl rfl wm_RL_142 rfl rfl (by omega) (Nat.le_of_ble_eq_true rfl) am_nI (am_rI fun h353 v354 => ?_) am_eI
        refine sim_iload dL_law_2497 rfl ?_
        refine sim_ic_eq 2504 dL_law_2499 (by decide) (fun c => ?_) (fun c => ?_)
        · refine sim_iload dL_law_2504 rfl ?_
          refine sim_if_ne 2521 dL_law_2506 (by decide) (fun c => ?_) (fun c => ?_)
          · exact sim_lv (am_leS (am_leS (am_leS (am_leS (am_leS (am_leN (am_leN am_leT))))))) (t_L_law_2521 d (by omega) _ hrc23 _ _ _ _ _ _)
          · refine sim_aload_n dL_law_2509 rfl ?_
            refine sim_iconst (0) dL_law_2510 (by decide +kernel) ?_
            refine sim_aL dL_law_2511 (fun v356 => ?_)
            refine sim_iload dL_law_2512 rfl ?_
            refine sim_i2l dL_law_2514 ?_
            refine sim_lcmp dL_law_2515 ?_
            refine sim_if_eq 2521 dL_law_2516 (by decide) (fun c => ?_) (fun c => ?_)
            · exact sim_lv (am_leS (am_leS (am_leS (am_leS (am_leS (am_leN (am_leN am_leT))))))) (t_L_law_2521 d (by omega) _ hrc23 _ _ _ _ _ _)
            · refine sim_iconst (0) dL_law_2519 (by decide +kernel) ?_
              exact sim_zret dL_law_2520 rfl
        · refine sim_iconst (0) dL_law_2502 (by decide +kernel) ?_
          exact sim_zret dL_law_2503 rfl
      refine sim_case (fun c39_35 => ?_) (fun c39_35 => ?_)
      · refine sim_tableIn (off := 2485) (35) 2524 c39_35 dL_law_39 (by decide +kernel) (by decide +kernel) (by decide +kernel) (by decide) ?_
        refine sim_aload_n dL_law_2524 rfl ?_
        refine sim_aload_n dL_law_2525 rfl ?_
        refine sim_iload dL_law_2526 rfl ?_
        refine sim_iconst (1) dL_law_2528 (by decide +kernel) ?_
        refine sim_iadd dL_law_2529 ?_
        refine sim_scr dL_law_2530 (fun v357 => ?_)
        refine sim_aload_n dL_law_2531 rfl ?_
        refine sim_staticX (d - 1) dL_law_2532 (k_L_liked (d - 1) (by omega) _ _ _ _) q_L_liked wm_RL_261 rfl rfl (by omega) (Nat.le_of_ble_eq_true rfl) am_nI (am_rI fun h358 v359 => ?_) am_eI
        refine sim_istore dL_law_2535 (Nat.le_of_ble_eq_true rfl) ?_
        refine sim_aload_n dL_law_2537 rfl ?_
        refine sim_aload_n dL_law_2538 rfl ?_
        refine sim_iload dL_law_2539 rfl ?_
        refine sim_iconst (1) dL_law_2541 (by decide +kernel) ?_
        refine sim_iadd dL_law_2542 ?_
        refine sim_scr dL_law_2543 (fun v360 => ?_)
        refine sim_ao1 (fun a363 e => ?_)
        refine sim_virt (d - 1) e dL_law_2544 (k_X11_liked (d - 1) (by omega) _ _ _) q_X11_liked rfl rfl wm_RL_263 rfl rfl (by omega) (Nat.le_of_ble_eq_true rfl) am_nI (am_rI fun h361 v362 => ?_) am_eI
        refine sim_istore dL_law_2547 (Nat.le_of_ble_eq_true rfl) ?_
        refine sim_aload_n dL_law_2549 rfl ?_
        refine sim_ao0 (fun a366 e => ?_)
        refine sim_virt (d - 1) e dL_law_2550 (k_X11_thrown (d - 1) (by omega) _  _) q_X11_thrown rfl rfl wm_RL_142 rfl rfl (by omega) (Nat.le_of_ble_eq_true rfl) am_nI (am_rI fun h364 v365 => ?_) am_eI
        refine sim_iload dL_law_2553 rfl ?_
        refine sim_ic_eq 2560 dL_law_2555 (by decide) (fun c => ?_) (fun c => ?_)
        · refine sim_iload dL_law_2560 rfl ?_
          refine sim_if_ne 2577 dL_law_2562 (by decide) (fun c => ?_) (fun c => ?_)
          · exact sim_lv (am_leS (am_leS (am_leS (am_leS (am_leS (am_leN (am_leN am_leT))))))) (t_L_law_2577 d (by omega) _ hrc23 _ _ _ _ _ _)
          · refine sim_aload_n dL_law_2565 rfl ?_
            refine sim_iconst (0) dL_law_2566 (by decide +kernel) ?_
            refine sim_aL dL_law_2567 (fun v367 => ?_)
            refine sim_iload dL_law_2568 rfl ?_
            refine sim_i2l dL_law_2570 ?_
            refine sim_lcmp dL_law_2571 ?_
            refine sim_if_eq 2577 dL_law_2572 (by decide) (fun c => ?_) (fun c => ?_)
            · exact sim_lv (am_leS (am_leS (am_leS (am_leS (am_leS (am_leN (am_leN am_leT))))))) (t_L_law_2577 d (by omega) _ hrc23 _ _ _ _ _ _)
            · refine sim_iconst (0) dL_law_2575 (by decide +kernel) ?_
              exact sim_zret dL_law_2576 rfl
        · refine sim_iconst (0) dL_law_2558 (by decide +kernel) ?_
          exact sim_zret dL_law_2559 rfl
      refine sim_case (fun c39_36 => ?_) (fun c39_36 => ?_)
      · refine sim_tableIn (off := 2541) (36) 2580 c39_36 dL_law_39 (by decide +kernel) (by decide +kernel) (by decide +kernel) (by decide) ?_
        refine sim_aload_n dL_law_2580 rfl ?_
        refine sim_aload_n dL_law_2581 rfl ?_
        refine sim_iload dL_law_2582 rfl ?_
        refine sim_iconst (1) dL_law_2584 (by decide +kernel) ?_
        refine sim_iadd dL_law_2585 ?_
        refine sim_scr dL_law_2586 (fun v368 => ?_)
        refine sim_aload_n dL_law_2587 rfl ?_
        refine sim_iload dL_law_2588 rfl ?_
        refine sim_iconst (2) dL_law_2590 (by decide +kernel) ?_
        refine sim_iadd dL_law_2591 ?_
        refine sim_scr dL_law_2592 (fun v369 => ?_)
        refine sim_if_eq 2600 dL_law_2593 (by decide) (fun c => ?_) (fun c => ?_)
        · refine sim_iconst (0) dL_law_2600 (by decide +kernel) ?_
          exact sim_lv (am_leS (am_leS (am_leS (am_leS (am_leS (am_leN (am_leN am_leT))))))) (t_L_law_2601 d (by omega) _ hrc23 _ _ _ _ _ _ _ _ _)
        · refine sim_iconst (1) dL_law_2596 (by decide +kernel) ?_
          refine sim_goto 2601 dL_law_2597 (by decide) ?_
          exact sim_lv (am_leS (am_leS (am_leS (am_leS (am_leS (am_leN (am_leN am_leT))))))) (t_L_law_2601 d (by omega) _ hrc23 _ _ _ _ _ _ _ _ _)
      refine sim_case (fun c39_37 => ?_) (fun c39_37 => ?_)
      · refine sim_tableIn (off := 2644) (37) 2683 c39_37 dL_law_39 (by decide +kernel) (by decide +kernel) (by decide +kernel) (by decide) ?_
        refine sim_aload_n dL_law_2683 rfl ?_
        refine sim_aload_n dL_law_2684 rfl ?_
        refine sim_iload dL_law_2685 rfl ?_
        refine sim_iconst (1) dL_law_2687 (by decide +kernel) ?_
        refine sim_iadd dL_law_2688 ?_
        refine sim_scr dL_law_2689 (fun v370 => ?_)
        refine sim_aload_n dL_law_2690 rfl ?_
        refine sim_staticX (d - 1) dL_law_2691 (k_L_news (d - 1) (by omega) _ _ _ _) q_L_news wm_RL_268 rfl rfl (by omega) (Nat.le_of_ble_eq_true rfl) am_nI (am_rI fun h371 v372 => ?_) am_eI
        refine sim_istore dL_law_2694 (Nat.le_of_ble_eq_true rfl) ?_
        refine sim_aload_n dL_law_2696 rfl ?_
        refine sim_aload_n dL_law_2697 rfl ?_
        refine sim_iload dL_law_2698 rfl ?_
        refine sim_iconst (1) dL_law_2700 (by decide +kernel) ?_
        refine sim_iadd dL_law_2701 ?_
        refine sim_scr dL_law_2702 (fun v373 => ?_)
        refine sim_ao1 (fun a376 e => ?_)
        refine sim_virt (d - 1) e dL_law_2703 (k_X11_news (d - 1) (by omega) _ _ _) q_X11_news rfl rfl wm_RL_270 rfl rfl (by omega) (Nat.le_of_ble_eq_true rfl) am_nI (am_rI fun h374 v375 => ?_) am_eI
        refine sim_istore dL_law_2706 (Nat.le_of_ble_eq_true rfl) ?_
        refine sim_aload_n dL_law_2708 rfl ?_
        refine sim_ao0 (fun a379 e => ?_)
        refine sim_virt (d - 1) e dL_law_2709 (k_X11_thrown (d - 1) (by omega) _  _) q_X11_thrown rfl rfl wm_RL_142 rfl rfl (by omega) (Nat.le_of_ble_eq_true rfl) am_nI (am_rI fun h377 v378 => ?_) am_eI
        refine sim_iload dL_law_2712 rfl ?_
        refine sim_ic_eq 2719 dL_law_2714 (by decide) (fun c => ?_) (fun c => ?_)
        · refine sim_iload dL_law_2719 rfl ?_
          refine sim_if_ne 2736 dL_law_2721 (by decide) (fun c => ?_) (fun c => ?_)
          · exact sim_lv (am_leS (am_leS (am_leS (am_leS (am_leS (am_leN (am_leN am_leT))))))) (t_L_law_2736 d (by omega) _ hrc23 _ _ _ _ _ _)
          · refine sim_aload_n dL_law_2724 rfl ?_
            refine sim_iconst (0) dL_law_2725 (by decide +kernel) ?_
            refine sim_aL dL_law_2726 (fun v380 => ?_)
            refine sim_iload dL_law_2727 rfl ?_
            refine sim_i2l dL_law_2729 ?_
            refine sim_lcmp dL_law_2730 ?_
            refine sim_if_eq 2736 dL_law_2731 (by decide) (fun c => ?_) (fun c => ?_)
            · exact sim_lv (am_leS (am_leS (am_leS (am_leS (am_leS (am_leN (am_leN am_leT))))))) (t_L_law_2736 d (by omega) _ hrc23 _ _ _ _ _ _)
            · refine sim_iconst (0) dL_law_2734 (by decide +kernel) ?_
              exact sim_zret dL_law_2735 rfl
        · refine sim_iconst (0) dL_law_2717 (by decide +kernel) ?_
          exact sim_zret dL_law_2718 rfl
      refine sim_case (fun c39_38 => ?_) (fun c39_38 => ?_)
      · refine sim_tableIn (off := 2700) (38) 2739 c39_38 dL_law_39 (by decide +kernel) (by decide +kernel) (by decide +kernel) (by decide) ?_
        refine sim_aload_n dL_law_2739 rfl ?_
        refine sim_aload_n dL_law_2740 rfl ?_
        refine sim_iload dL_law_2741 rfl ?_
        refine sim_iconst (1) dL_law_2743 (by decide +kernel) ?_
        refine sim_iadd dL_law_2744 ?_
        refine sim_scr dL_law_2745 (fun v381 => ?_)
        refine sim_aload_n dL_law_2746 rfl ?_
        refine sim_staticX (d - 1) dL_law_2747 (k_L_digest (d - 1) (by omega) _ _ _ _) q_L_digest wm_RL_271 rfl rfl (by omega) (Nat.le_of_ble_eq_true rfl) am_nI (am_rI fun h382 v383 => ?_) am_eI
        refine sim_istore dL_law_2750 (Nat.le_of_ble_eq_true rfl) ?_
        refine sim_aload_n dL_law_2752 rfl ?_
        refine sim_aload_n dL_law_2753 rfl ?_
        refine sim_iload dL_law_2754 rfl ?_
        refine sim_iconst (1) dL_law_2756 (by decide +kernel) ?_
        refine sim_iadd dL_law_2757 ?_
        refine sim_scr dL_law_2758 (fun v384 => ?_)
        refine sim_ao1 (fun a387 e => ?_)
        refine sim_virt (d - 1) e dL_law_2759 (k_X11_digest (d - 1) (by omega) _ _ _) q_X11_digest rfl rfl wm_RL_273 rfl rfl (by omega) (Nat.le_of_ble_eq_true rfl) am_nI (am_rI fun h385 v386 => ?_) am_eI
        refine sim_istore dL_law_2762 (Nat.le_of_ble_eq_true rfl) ?_
        refine sim_aload_n dL_law_2764 rfl ?_
        refine sim_ao0 (fun a390 e => ?_)
        refine sim_virt (d - 1) e dL_law_2765 (k_X11_thrown (d - 1) (by omega) _  _) q_X11_thrown rfl rfl wm_RL_142 rfl rfl (by omega) (Nat.le_of_ble_eq_true rfl) am_nI (am_rI fun h388 v389 => ?_) am_eI
        refine sim_iload dL_law_2768 rfl ?_
        refine sim_ic_eq 2775 dL_law_2770 (by decide) (fun c => ?_) (fun c => ?_)
        · refine sim_iload dL_law_2775 rfl ?_
          refine sim_if_ne 2792 dL_law_2777 (by decide) (fun c => ?_) (fun c => ?_)
          · exact sim_lv (am_leS (am_leS (am_leS (am_leS (am_leS (am_leN (am_leN am_leT))))))) (t_L_law_2792 d (by omega) _ hrc23 _ _ _ _ _ _)
          · refine sim_aload_n dL_law_2780 rfl ?_
            refine sim_iconst (0) dL_law_2781 (by decide +kernel) ?_
            refine sim_aL dL_law_2782 (fun v391 => ?_)
            refine sim_iload dL_law_2783 rfl ?_
            refine sim_i2l dL_law_2785 ?_
            refine sim_lcmp dL_law_2786 ?_
            refine sim_if_eq 2792 dL_law_2787 (by decide) (fun c => ?_) (fun c => ?_)
            · exact sim_lv (am_leS (am_leS (am_leS (am_leS (am_leS (am_leN (am_leN am_leT))))))) (t_L_law_2792 d (by omega) _ hrc23 _ _ _ _ _ _)
            · refine sim_iconst (0) dL_law_2790 (by decide +kernel) ?_
              exact sim_zret dL_law_2791 rfl
        · refine sim_iconst (0) dL_law_2773 (by decide +kernel) ?_
          exact sim_zret dL_law_2774 rfl
      refine sim_tableOut 2795 dL_law_39 ((am_out (N := 39) (by decide) (lt_s (lt_s (lt_s (lt_s (lt_s (lt_s (lt_s (lt_s (lt_s (lt_s (lt_s (lt_s (lt_s (lt_s (lt_s (lt_s (lt_s (lt_s (lt_s (lt_s (lt_s (lt_s (lt_s (lt_s (lt_s (lt_s (lt_s (lt_s (lt_s (lt_s (lt_s (lt_s (lt_s (lt_s (lt_s (lt_s (lt_s (lt_s (lt_s lt_0 c39_0) c39_1) c39_2) c39_3) c39_4) c39_5) c39_6) c39_7) c39_8) c39_9) c39_10) c39_11) c39_12) c39_13) c39_14) c39_15) c39_16) c39_17) c39_18) c39_19) c39_20) c39_21) c39_22) c39_23) c39_24) c39_25) c39_26) c39_27) c39_28) c39_29) c39_30) c39_31) c39_32) c39_33) c39_34) c39_35) c39_36) c39_37) c39_38)).imp id (fun z => by omega)) (by decide) ?_
      exact sim_lv (am_leS (am_leS (am_leS (am_leS (am_leS (am_leN (am_leN am_leT))))))) (t_L_law_2795 d (by omega) _ hrc23 _ _ _ _ _ _)
def f_L_law  (h : am_H) : am_R := m_new 69 13 h fun a1 h2 => m_bW (f_X10_init a1 h2) fun h3 => m_new 70 47 h3 fun a5 h6 => m_bW (f_X11_init a5 h6) fun h7 => m_new 71 1 h7 fun a9 h10 => f_L_law_23 5000 (1, 0) (some a1) (some a5) (some a9) (0 : Int32) h10
theorem s_L_law (d : Nat) (hd : 10 ≤ d) (h : am_H) : Sim m_L_law d 0 (am_lvN 7 [.inr (.inr (some (1, 0)))]) [] h (f_L_law h) := by
  unfold f_L_law
  refine sim_nw 69 10 13 dL_law_0 rfl rfl wc_RL_8 wi_RX10 wz_RX10 (fun a1 h2 => ?_)
  refine sim_dup_r dL_law_3 ?_
  refine sim_ctor (d - 1) dL_law_4 (k_X10_init (d - 1) (by omega) _  _) q_X10_init wm_RL_132 rfl rfl (by omega) (Nat.le_of_ble_eq_true rfl) am_nW am_xW (am_rW fun h3 => ?_)
  refine sim_astore_n dL_law_7 (Nat.le_of_ble_eq_true rfl) ?_
  refine sim_nw 70 11 47 dL_law_8 rfl rfl wc_RL_133 wi_RX11 wz_RX11 (fun a5 h6 => ?_)
  refine sim_dup_r dL_law_11 ?_
  refine sim_ctor (d - 1) dL_law_12 (k_X11_init (d - 1) (by omega) _  _) q_X11_init wm_RL_135 rfl rfl (by omega) (Nat.le_of_ble_eq_true rfl) am_nW am_xW (am_rW fun h7 => ?_)
  refine sim_astore_n dL_law_15 (Nat.le_of_ble_eq_true rfl) ?_
  refine sim_iconst (1) dL_law_16 (by decide +kernel) ?_
  refine sim_nwL 71 1 dL_law_17 rfl rfl (by decide +kernel) (Nat.le_of_ble_eq_true rfl) wa_long (fun a9 h10 => ?_)
  refine sim_astore_n dL_law_19 (Nat.le_of_ble_eq_true rfl) ?_
  refine sim_iconst (0) dL_law_20 (by decide +kernel) ?_
  refine sim_istore dL_law_21 (Nat.le_of_ble_eq_true rfl) ?_
  exact sim_lv (am_leS (am_leS (am_leS (am_leS (am_leS (am_leN (am_leN am_leT))))))) (t_L_law_23 d (by omega) _ _ _ _ _ _ _)
