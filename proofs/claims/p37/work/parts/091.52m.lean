theorem dL_act_220 : decode cL_act 220 = .ok (.goto 297, 3) := by decide +kernel
theorem dL_act_223 : decode cL_act 223 = .ok (.iload_n 1, 1) := by decide +kernel
theorem dL_act_224 : decode cL_act 224 = .ok (.bipush 13, 2) := by decide +kernel
theorem dL_act_226 : decode cL_act 226 = .ok (.if_icmp .ne 11, 3) := by decide +kernel
theorem dL_act_229 : decode cL_act 229 = .ok (.aload_n 0, 1) := by decide +kernel
theorem dL_act_230 : decode cL_act 230 = .ok (.iload_n 2, 1) := by decide +kernel
theorem dL_act_231 : decode cL_act 231 = .ok (.invokevirtual 57, 3) := by decide +kernel
theorem dL_act_234 : decode cL_act 234 = .ok (.goto 283, 3) := by decide +kernel
theorem dL_act_237 : decode cL_act 237 = .ok (.iload_n 1, 1) := by decide +kernel
theorem dL_act_238 : decode cL_act 238 = .ok (.bipush 14, 2) := by decide +kernel
theorem dL_act_240 : decode cL_act 240 = .ok (.if_icmp .ne 12, 3) := by decide +kernel
theorem dL_act_243 : decode cL_act 243 = .ok (.aload_n 0, 1) := by decide +kernel
theorem dL_act_244 : decode cL_act 244 = .ok (.iload_n 2, 1) := by decide +kernel
theorem dL_act_245 : decode cL_act 245 = .ok (.iload_n 3, 1) := by decide +kernel
theorem dL_act_246 : decode cL_act 246 = .ok (.invokevirtual 60, 3) := by decide +kernel
theorem dL_act_249 : decode cL_act 249 = .ok (.goto 268, 3) := by decide +kernel
theorem dL_act_252 : decode cL_act 252 = .ok (.iload_n 1, 1) := by decide +kernel
theorem dL_act_253 : decode cL_act 253 = .ok (.bipush 15, 2) := by decide +kernel
theorem dL_act_255 : decode cL_act 255 = .ok (.if_icmp .ne 14, 3) := by decide +kernel
theorem dL_act_258 : decode cL_act 258 = .ok (.aload_n 0, 1) := by decide +kernel
theorem dL_act_259 : decode cL_act 259 = .ok (.iload_n 2, 1) := by decide +kernel
theorem dL_act_260 : decode cL_act 260 = .ok (.iload_n 3, 1) := by decide +kernel
theorem dL_act_261 : decode cL_act 261 = .ok (.iload 4, 2) := by decide +kernel
theorem dL_act_263 : decode cL_act 263 = .ok (.invokevirtual 63, 3) := by decide +kernel
theorem dL_act_266 : decode cL_act 266 = .ok (.goto 251, 3) := by decide +kernel
theorem dL_act_269 : decode cL_act 269 = .ok (.iload_n 1, 1) := by decide +kernel
theorem dL_act_270 : decode cL_act 270 = .ok (.bipush 16, 2) := by decide +kernel
theorem dL_act_272 : decode cL_act 272 = .ok (.if_icmp .ne 19, 3) := by decide +kernel
theorem dL_act_275 : decode cL_act 275 = .ok (.aload_n 0, 1) := by decide +kernel
theorem dL_act_276 : decode cL_act 276 = .ok (.iload_n 2, 1) := by decide +kernel
theorem dL_act_277 : decode cL_act 277 = .ok (.invokevirtual 66, 3) := by decide +kernel
theorem dL_act_280 : decode cL_act 280 = .ok (.ifCond .eq 7, 3) := by decide +kernel
theorem dL_act_283 : decode cL_act 283 = .ok (.iconst 1, 1) := by decide +kernel
theorem dL_act_284 : decode cL_act 284 = .ok (.goto 233, 3) := by decide +kernel
theorem dL_act_287 : decode cL_act 287 = .ok (.iconst 0, 1) := by decide +kernel
theorem dL_act_288 : decode cL_act 288 = .ok (.goto 229, 3) := by decide +kernel
theorem dL_act_291 : decode cL_act 291 = .ok (.iload_n 1, 1) := by decide +kernel
theorem dL_act_292 : decode cL_act 292 = .ok (.bipush 17, 2) := by decide +kernel
theorem dL_act_294 : decode cL_act 294 = .ok (.if_icmp .ne 11, 3) := by decide +kernel
theorem dL_act_297 : decode cL_act 297 = .ok (.aload_n 0, 1) := by decide +kernel
theorem dL_act_298 : decode cL_act 298 = .ok (.iload_n 2, 1) := by decide +kernel
theorem dL_act_299 : decode cL_act 299 = .ok (.invokevirtual 69, 3) := by decide +kernel
theorem dL_act_302 : decode cL_act 302 = .ok (.goto 215, 3) := by decide +kernel
theorem dL_act_305 : decode cL_act 305 = .ok (.iload_n 1, 1) := by decide +kernel
theorem dL_act_306 : decode cL_act 306 = .ok (.bipush 18, 2) := by decide +kernel
theorem dL_act_308 : decode cL_act 308 = .ok (.if_icmp .ne 11, 3) := by decide +kernel
theorem dL_act_311 : decode cL_act 311 = .ok (.aload_n 0, 1) := by decide +kernel
theorem dL_act_312 : decode cL_act 312 = .ok (.iload_n 2, 1) := by decide +kernel
theorem dL_act_313 : decode cL_act 313 = .ok (.invokevirtual 72, 3) := by decide +kernel
theorem dL_act_316 : decode cL_act 316 = .ok (.goto 201, 3) := by decide +kernel
theorem dL_act_319 : decode cL_act 319 = .ok (.iload_n 1, 1) := by decide +kernel
theorem dL_act_320 : decode cL_act 320 = .ok (.bipush 19, 2) := by decide +kernel
theorem dL_act_322 : decode cL_act 322 = .ok (.if_icmp .ne 11, 3) := by decide +kernel
theorem dL_act_325 : decode cL_act 325 = .ok (.aload_n 0, 1) := by decide +kernel
theorem dL_act_326 : decode cL_act 326 = .ok (.iload_n 2, 1) := by decide +kernel
theorem dL_act_327 : decode cL_act 327 = .ok (.invokevirtual 75, 3) := by decide +kernel
theorem dL_act_330 : decode cL_act 330 = .ok (.goto 187, 3) := by decide +kernel
theorem dL_act_333 : decode cL_act 333 = .ok (.iload_n 1, 1) := by decide +kernel
theorem dL_act_334 : decode cL_act 334 = .ok (.bipush 20, 2) := by decide +kernel
theorem dL_act_336 : decode cL_act 336 = .ok (.if_icmp .ne 14, 3) := by decide +kernel
theorem dL_act_339 : decode cL_act 339 = .ok (.aload_n 0, 1) := by decide +kernel
theorem dL_act_340 : decode cL_act 340 = .ok (.iload_n 2, 1) := by decide +kernel
theorem dL_act_341 : decode cL_act 341 = .ok (.iload_n 3, 1) := by decide +kernel
theorem dL_act_342 : decode cL_act 342 = .ok (.iload 4, 2) := by decide +kernel
theorem dL_act_344 : decode cL_act 344 = .ok (.invokevirtual 78, 3) := by decide +kernel
theorem dL_act_347 : decode cL_act 347 = .ok (.goto 170, 3) := by decide +kernel
theorem dL_act_350 : decode cL_act 350 = .ok (.iload_n 1, 1) := by decide +kernel
theorem dL_act_351 : decode cL_act 351 = .ok (.bipush 21, 2) := by decide +kernel
theorem dL_act_353 : decode cL_act 353 = .ok (.if_icmp .ne 12, 3) := by decide +kernel
theorem dL_act_356 : decode cL_act 356 = .ok (.aload_n 0, 1) := by decide +kernel
theorem dL_act_357 : decode cL_act 357 = .ok (.iload_n 2, 1) := by decide +kernel
theorem dL_act_358 : decode cL_act 358 = .ok (.iload_n 3, 1) := by decide +kernel
theorem dL_act_359 : decode cL_act 359 = .ok (.invokevirtual 81, 3) := by decide +kernel
theorem dL_act_362 : decode cL_act 362 = .ok (.goto 155, 3) := by decide +kernel
theorem dL_act_365 : decode cL_act 365 = .ok (.iload_n 1, 1) := by decide +kernel
theorem dL_act_366 : decode cL_act 366 = .ok (.bipush 22, 2) := by decide +kernel
theorem dL_act_368 : decode cL_act 368 = .ok (.if_icmp .ne 14, 3) := by decide +kernel
theorem dL_act_371 : decode cL_act 371 = .ok (.aload_n 0, 1) := by decide +kernel
theorem dL_act_372 : decode cL_act 372 = .ok (.iload_n 2, 1) := by decide +kernel
theorem dL_act_373 : decode cL_act 373 = .ok (.iload_n 3, 1) := by decide +kernel
theorem dL_act_374 : decode cL_act 374 = .ok (.iload 4, 2) := by decide +kernel
theorem dL_act_376 : decode cL_act 376 = .ok (.invokevirtual 84, 3) := by decide +kernel
theorem dL_act_379 : decode cL_act 379 = .ok (.goto 138, 3) := by decide +kernel
theorem dL_act_382 : decode cL_act 382 = .ok (.iload_n 1, 1) := by decide +kernel
theorem dL_act_383 : decode cL_act 383 = .ok (.bipush 23, 2) := by decide +kernel
theorem dL_act_385 : decode cL_act 385 = .ok (.if_icmp .ne 14, 3) := by decide +kernel
theorem dL_act_388 : decode cL_act 388 = .ok (.aload_n 0, 1) := by decide +kernel
theorem dL_act_389 : decode cL_act 389 = .ok (.iload_n 2, 1) := by decide +kernel
theorem dL_act_390 : decode cL_act 390 = .ok (.iload_n 3, 1) := by decide +kernel
theorem dL_act_391 : decode cL_act 391 = .ok (.iload 4, 2) := by decide +kernel
theorem dL_act_393 : decode cL_act 393 = .ok (.invokevirtual 87, 3) := by decide +kernel
theorem dL_act_396 : decode cL_act 396 = .ok (.goto 121, 3) := by decide +kernel
theorem dL_act_399 : decode cL_act 399 = .ok (.iload_n 1, 1) := by decide +kernel
theorem dL_act_400 : decode cL_act 400 = .ok (.bipush 24, 2) := by decide +kernel
theorem dL_act_402 : decode cL_act 402 = .ok (.if_icmp .ne 11, 3) := by decide +kernel
theorem dL_act_405 : decode cL_act 405 = .ok (.aload_n 0, 1) := by decide +kernel
theorem dL_act_406 : decode cL_act 406 = .ok (.iload_n 2, 1) := by decide +kernel
theorem dL_act_407 : decode cL_act 407 = .ok (.invokevirtual 90, 3) := by decide +kernel
theorem dL_act_410 : decode cL_act 410 = .ok (.goto 107, 3) := by decide +kernel
theorem dL_act_413 : decode cL_act 413 = .ok (.iload_n 1, 1) := by decide +kernel
theorem dL_act_414 : decode cL_act 414 = .ok (.bipush 25, 2) := by decide +kernel
theorem dL_act_416 : decode cL_act 416 = .ok (.if_icmp .ne 12, 3) := by decide +kernel
theorem dL_act_419 : decode cL_act 419 = .ok (.aload_n 0, 1) := by decide +kernel
theorem dL_act_420 : decode cL_act 420 = .ok (.iload_n 2, 1) := by decide +kernel
theorem dL_act_421 : decode cL_act 421 = .ok (.iload_n 3, 1) := by decide +kernel
theorem dL_act_422 : decode cL_act 422 = .ok (.invokevirtual 93, 3) := by decide +kernel
theorem dL_act_425 : decode cL_act 425 = .ok (.goto 92, 3) := by decide +kernel
theorem dL_act_428 : decode cL_act 428 = .ok (.iload_n 1, 1) := by decide +kernel
theorem dL_act_429 : decode cL_act 429 = .ok (.bipush 26, 2) := by decide +kernel
theorem dL_act_431 : decode cL_act 431 = .ok (.if_icmp .ne 12, 3) := by decide +kernel
theorem dL_act_434 : decode cL_act 434 = .ok (.aload_n 0, 1) := by decide +kernel
theorem dL_act_435 : decode cL_act 435 = .ok (.iload_n 2, 1) := by decide +kernel
theorem dL_act_436 : decode cL_act 436 = .ok (.iload_n 3, 1) := by decide +kernel
theorem dL_act_437 : decode cL_act 437 = .ok (.invokevirtual 96, 3) := by decide +kernel
theorem dL_act_440 : decode cL_act 440 = .ok (.goto 77, 3) := by decide +kernel
theorem dL_act_443 : decode cL_act 443 = .ok (.iload_n 1, 1) := by decide +kernel
theorem dL_act_444 : decode cL_act 444 = .ok (.bipush 27, 2) := by decide +kernel
theorem dL_act_446 : decode cL_act 446 = .ok (.if_icmp .ne 14, 3) := by decide +kernel
theorem dL_act_449 : decode cL_act 449 = .ok (.aload_n 0, 1) := by decide +kernel
theorem dL_act_450 : decode cL_act 450 = .ok (.iload_n 2, 1) := by decide +kernel
theorem dL_act_451 : decode cL_act 451 = .ok (.iload_n 3, 1) := by decide +kernel
theorem dL_act_452 : decode cL_act 452 = .ok (.iload 4, 2) := by decide +kernel
theorem dL_act_454 : decode cL_act 454 = .ok (.invokevirtual 99, 3) := by decide +kernel
theorem dL_act_457 : decode cL_act 457 = .ok (.goto 60, 3) := by decide +kernel
theorem dL_act_460 : decode cL_act 460 = .ok (.iload_n 1, 1) := by decide +kernel
theorem dL_act_461 : decode cL_act 461 = .ok (.bipush 28, 2) := by decide +kernel
theorem dL_act_463 : decode cL_act 463 = .ok (.if_icmp .ne 14, 3) := by decide +kernel
theorem dL_act_466 : decode cL_act 466 = .ok (.aload_n 0, 1) := by decide +kernel
theorem dL_act_467 : decode cL_act 467 = .ok (.iload_n 2, 1) := by decide +kernel
theorem dL_act_468 : decode cL_act 468 = .ok (.iload_n 3, 1) := by decide +kernel
theorem dL_act_469 : decode cL_act 469 = .ok (.iload 4, 2) := by decide +kernel
theorem dL_act_471 : decode cL_act 471 = .ok (.invokevirtual 102, 3) := by decide +kernel
theorem dL_act_474 : decode cL_act 474 = .ok (.goto 43, 3) := by decide +kernel
theorem dL_act_477 : decode cL_act 477 = .ok (.iload_n 1, 1) := by decide +kernel
theorem dL_act_478 : decode cL_act 478 = .ok (.bipush 29, 2) := by decide +kernel
theorem dL_act_480 : decode cL_act 480 = .ok (.if_icmp .ne 11, 3) := by decide +kernel
theorem dL_act_483 : decode cL_act 483 = .ok (.aload_n 0, 1) := by decide +kernel
theorem dL_act_484 : decode cL_act 484 = .ok (.iload_n 2, 1) := by decide +kernel
theorem dL_act_485 : decode cL_act 485 = .ok (.invokevirtual 105, 3) := by decide +kernel
theorem dL_act_488 : decode cL_act 488 = .ok (.goto 29, 3) := by decide +kernel
theorem dL_act_491 : decode cL_act 491 = .ok (.iload_n 1, 1) := by decide +kernel
theorem dL_act_492 : decode cL_act 492 = .ok (.bipush 30, 2) := by decide +kernel
theorem dL_act_494 : decode cL_act 494 = .ok (.if_icmp .ne 11, 3) := by decide +kernel
theorem dL_act_497 : decode cL_act 497 = .ok (.aload_n 0, 1) := by decide +kernel
theorem dL_act_498 : decode cL_act 498 = .ok (.iload_n 2, 1) := by decide +kernel
theorem dL_act_499 : decode cL_act 499 = .ok (.invokevirtual 108, 3) := by decide +kernel
theorem dL_act_502 : decode cL_act 502 = .ok (.goto 15, 3) := by decide +kernel
theorem dL_act_505 : decode cL_act 505 = .ok (.aload_n 0, 1) := by decide +kernel
theorem dL_act_506 : decode cL_act 506 = .ok (.iload_n 2, 1) := by decide +kernel
theorem dL_act_507 : decode cL_act 507 = .ok (.invokevirtual 111, 3) := by decide +kernel
theorem dL_act_510 : decode cL_act 510 = .ok (.aload_n 0, 1) := by decide +kernel
theorem dL_act_511 : decode cL_act 511 = .ok (.iload_n 2, 1) := by decide +kernel
theorem dL_act_512 : decode cL_act 512 = .ok (.invokevirtual 115, 3) := by decide +kernel
theorem dL_act_515 : decode cL_act 515 = .ok (.lsub, 1) := by decide +kernel
theorem dL_act_516 : decode cL_act 516 = .ok (.l2i, 1) := by decide +kernel
theorem dL_act_517 : decode cL_act 517 = .ok (.ireturn, 1) := by decide +kernel
theorem dL_act_518 : decode cL_act 518 = .ok (.astore 7, 2) := by decide +kernel
theorem dL_act_520 : decode cL_act 520 = .ok (.ldc 120, 2) := by decide +kernel
theorem dL_act_522 : decode cL_act 522 = .ok (.ireturn, 1) := by decide +kernel
theorem dL_act_523 : decode cL_act 523 = .ok (.astore 7, 2) := by decide +kernel
theorem dL_act_525 : decode cL_act 525 = .ok (.ldc 123, 2) := by decide +kernel
theorem dL_act_527 : decode cL_act 527 = .ok (.ireturn, 1) := by decide +kernel
theorem dL_act_528 : decode cL_act 528 = .ok (.astore 7, 2) := by decide +kernel
theorem dL_act_530 : decode cL_act 530 = .ok (.ldc 126, 2) := by decide +kernel
theorem dL_act_532 : decode cL_act 532 = .ok (.ireturn, 1) := by decide +kernel
theorem dL_asks_0 : decode cL_asks 0 = .ok (.aload_n 0, 1) := by decide +kernel
theorem dL_asks_1 : decode cL_asks 1 = .ok (.iload_n 1, 1) := by decide +kernel
theorem dL_asks_2 : decode cL_asks 2 = .ok (.iload_n 2, 1) := by decide +kernel
theorem dL_asks_3 : decode cL_asks 3 = .ok (.iload_n 3, 1) := by decide +kernel
theorem dL_asks_4 : decode cL_asks 4 = .ok (.iload 4, 2) := by decide +kernel
theorem dL_asks_6 : decode cL_asks 6 = .ok (.bipush 10, 2) := by decide +kernel
theorem dL_asks_8 : decode cL_asks 8 = .ok (.bipush 7, 2) := by decide +kernel
theorem dL_asks_10 : decode cL_asks 10 = .ok (.iload_n 3, 1) := by decide +kernel
theorem dL_asks_11 : decode cL_asks 11 = .ok (.imul, 1) := by decide +kernel
theorem dL_asks_12 : decode cL_asks 12 = .ok (.iadd, 1) := by decide +kernel
theorem dL_asks_13 : decode cL_asks 13 = .ok (.bipush 11, 2) := by decide +kernel
theorem dL_asks_15 : decode cL_asks 15 = .ok (.iload 4, 2) := by decide +kernel
theorem dL_asks_17 : decode cL_asks 17 = .ok (.imul, 1) := by decide +kernel
theorem dL_asks_18 : decode cL_asks 18 = .ok (.iadd, 1) := by decide +kernel
theorem dL_asks_19 : decode cL_asks 19 = .ok (.iload 5, 2) := by decide +kernel
theorem dL_asks_21 : decode cL_asks 21 = .ok (.iload 6, 2) := by decide +kernel
theorem dL_asks_23 : decode cL_asks 23 = .ok (.iload 7, 2) := by decide +kernel
theorem dL_asks_25 : decode cL_asks 25 = .ok (.invokevirtual 127, 3) := by decide +kernel
theorem dL_asks_28 : decode cL_asks 28 = .ok (.ireturn, 1) := by decide +kernel
theorem dL_asks_29 : decode cL_asks 29 = .ok (.astore 8, 2) := by decide +kernel
theorem dL_asks_31 : decode cL_asks 31 = .ok (.ldc 120, 2) := by decide +kernel
theorem dL_asks_33 : decode cL_asks 33 = .ok (.ireturn, 1) := by decide +kernel
theorem dL_asks_34 : decode cL_asks 34 = .ok (.astore 8, 2) := by decide +kernel
theorem dL_asks_36 : decode cL_asks 36 = .ok (.ldc 123, 2) := by decide +kernel
theorem dL_asks_38 : decode cL_asks 38 = .ok (.ireturn, 1) := by decide +kernel
theorem dL_asks_39 : decode cL_asks 39 = .ok (.astore 8, 2) := by decide +kernel
theorem dL_asks_41 : decode cL_asks 41 = .ok (.ldc 126, 2) := by decide +kernel
theorem dL_asks_43 : decode cL_asks 43 = .ok (.ireturn, 1) := by decide +kernel
theorem dL_all_0 : decode cL_all 0 = .ok (.ldc2_w 131, 3) := by decide +kernel
theorem dL_all_3 : decode cL_all 3 = .ok (.lstore_n 3, 1) := by decide +kernel
theorem dL_all_4 : decode cL_all 4 = .ok (.iconst 0, 1) := by decide +kernel
theorem dL_all_5 : decode cL_all 5 = .ok (.istore 5, 2) := by decide +kernel
theorem dL_all_7 : decode cL_all 7 = .ok (.iload 5, 2) := by decide +kernel
theorem dL_all_9 : decode cL_all 9 = .ok (.bipush 6, 2) := by decide +kernel
theorem dL_all_11 : decode cL_all 11 = .ok (.if_icmp .ge 61, 3) := by decide +kernel
theorem dL_all_14 : decode cL_all 14 = .ok (.ldc2_w 133, 3) := by decide +kernel
theorem dL_all_17 : decode cL_all 17 = .ok (.lload_n 3, 1) := by decide +kernel
theorem dL_all_18 : decode cL_all 18 = .ok (.lmul, 1) := by decide +kernel
theorem dL_all_19 : decode cL_all 19 = .ok (.aload_n 0, 1) := by decide +kernel
theorem dL_all_20 : decode cL_all 20 = .ok (.iload 5, 2) := by decide +kernel
theorem dL_all_22 : decode cL_all 22 = .ok (.invokevirtual 111, 3) := by decide +kernel
theorem dL_all_25 : decode cL_all 25 = .ok (.ladd, 1) := by decide +kernel
theorem dL_all_26 : decode cL_all 26 = .ok (.iload 5, 2) := by decide +kernel
theorem dL_all_28 : decode cL_all 28 = .ok (.aload_n 1, 1) := by decide +kernel
theorem dL_all_29 : decode cL_all 29 = .ok (.iconst 1, 1) := by decide +kernel
theorem dL_all_30 : decode cL_all 30 = .ok (.iaload, 1) := by decide +kernel
theorem dL_all_31 : decode cL_all 31 = .ok (.if_icmp .ge 32, 3) := by decide +kernel
theorem dL_all_34 : decode cL_all 34 = .ok (.aload_n 0, 1) := by decide +kernel
theorem dL_all_35 : decode cL_all 35 = .ok (.iload 5, 2) := by decide +kernel
theorem dL_all_37 : decode cL_all 37 = .ok (.invokevirtual 105, 3) := by decide +kernel
theorem dL_all_40 : decode cL_all 40 = .ok (.i2l, 1) := by decide +kernel
theorem dL_all_41 : decode cL_all 41 = .ok (.ldc2_w 135, 3) := by decide +kernel
theorem dL_all_44 : decode cL_all 44 = .ok (.aload_n 0, 1) := by decide +kernel
theorem dL_all_45 : decode cL_all 45 = .ok (.iload 5, 2) := by decide +kernel
theorem dL_all_47 : decode cL_all 47 = .ok (.iconst 0, 1) := by decide +kernel
theorem dL_all_48 : decode cL_all 48 = .ok (.aload_n 2, 1) := by decide +kernel
theorem dL_all_49 : decode cL_all 49 = .ok (.iload 5, 2) := by decide +kernel
theorem dL_all_51 : decode cL_all 51 = .ok (.iaload, 1) := by decide +kernel
theorem dL_all_52 : decode cL_all 52 = .ok (.iconst 1, 1) := by decide +kernel
theorem dL_all_53 : decode cL_all 53 = .ok (.isub, 1) := by decide +kernel
theorem dL_all_54 : decode cL_all 54 = .ok (.invokevirtual 102, 3) := by decide +kernel
theorem dL_all_57 : decode cL_all 57 = .ok (.i2l, 1) := by decide +kernel
theorem dL_all_58 : decode cL_all 58 = .ok (.lmul, 1) := by decide +kernel
theorem dL_all_59 : decode cL_all 59 = .ok (.ladd, 1) := by decide +kernel
theorem dL_all_60 : decode cL_all 60 = .ok (.goto 4, 3) := by decide +kernel
theorem dL_all_63 : decode cL_all 63 = .ok (.lconst 0, 1) := by decide +kernel
theorem dL_all_64 : decode cL_all 64 = .ok (.ladd, 1) := by decide +kernel
theorem dL_all_65 : decode cL_all 65 = .ok (.lstore_n 3, 1) := by decide +kernel
theorem dL_all_66 : decode cL_all 66 = .ok (.iinc 5 1, 3) := by decide +kernel
theorem dL_all_69 : decode cL_all 69 = .ok (.goto (-62), 3) := by decide +kernel
theorem dL_all_72 : decode cL_all 72 = .ok (.iconst 0, 1) := by decide +kernel
theorem dL_all_73 : decode cL_all 73 = .ok (.istore 5, 2) := by decide +kernel
theorem dL_all_75 : decode cL_all 75 = .ok (.iload 5, 2) := by decide +kernel
theorem dL_all_77 : decode cL_all 77 = .ok (.bipush 8, 2) := by decide +kernel
theorem dL_all_79 : decode cL_all 79 = .ok (.aload_n 1, 1) := by decide +kernel
theorem dL_all_80 : decode cL_all 80 = .ok (.iconst 3, 1) := by decide +kernel
theorem dL_all_81 : decode cL_all 81 = .ok (.iaload, 1) := by decide +kernel
theorem dL_all_82 : decode cL_all 82 = .ok (.imul, 1) := by decide +kernel
theorem dL_all_83 : decode cL_all 83 = .ok (.if_icmp .ge 31, 3) := by decide +kernel
theorem dL_all_86 : decode cL_all 86 = .ok (.ldc2_w 135, 3) := by decide +kernel
theorem dL_all_89 : decode cL_all 89 = .ok (.lload_n 3, 1) := by decide +kernel
theorem dL_all_90 : decode cL_all 90 = .ok (.lmul, 1) := by decide +kernel
theorem dL_all_91 : decode cL_all 91 = .ok (.aload_n 0, 1) := by decide +kernel
theorem dL_all_92 : decode cL_all 92 = .ok (.iload 5, 2) := by decide +kernel
theorem dL_all_94 : decode cL_all 94 = .ok (.bipush 8, 2) := by decide +kernel
theorem dL_all_96 : decode cL_all 96 = .ok (.idiv, 1) := by decide +kernel
theorem dL_all_97 : decode cL_all 97 = .ok (.iload 5, 2) := by decide +kernel
theorem dL_all_99 : decode cL_all 99 = .ok (.bipush 8, 2) := by decide +kernel
theorem dL_all_101 : decode cL_all 101 = .ok (.irem, 1) := by decide +kernel
theorem dL_all_102 : decode cL_all 102 = .ok (.invokevirtual 96, 3) := by decide +kernel
theorem dL_all_105 : decode cL_all 105 = .ok (.i2l, 1) := by decide +kernel
theorem dL_all_106 : decode cL_all 106 = .ok (.ladd, 1) := by decide +kernel
theorem dL_all_107 : decode cL_all 107 = .ok (.lstore_n 3, 1) := by decide +kernel
theorem dL_all_108 : decode cL_all 108 = .ok (.iinc 5 1, 3) := by decide +kernel
theorem dL_all_111 : decode cL_all 111 = .ok (.goto (-36), 3) := by decide +kernel
theorem dL_all_114 : decode cL_all 114 = .ok (.lload_n 3, 1) := by decide +kernel
theorem dL_all_115 : decode cL_all 115 = .ok (.lreturn, 1) := by decide +kernel
theorem dL_no_0 : decode cL_no 0 = .ok (.aload_n 0, 1) := by decide +kernel
theorem dL_no_1 : decode cL_no 1 = .ok (.iload_n 1, 1) := by decide +kernel
theorem dL_no_2 : decode cL_no 2 = .ok (.iload_n 2, 1) := by decide +kernel
theorem dL_no_3 : decode cL_no 3 = .ok (.iload_n 3, 1) := by decide +kernel
theorem dL_no_4 : decode cL_no 4 = .ok (.iload 4, 2) := by decide +kernel
theorem dL_no_6 : decode cL_no 6 = .ok (.iconst 0, 1) := by decide +kernel
theorem dL_no_7 : decode cL_no 7 = .ok (.iconst 0, 1) := by decide +kernel
theorem dL_no_8 : decode cL_no 8 = .ok (.invokestatic 137, 3) := by decide +kernel
theorem dL_no_11 : decode cL_no 11 = .ok (.ldc 120, 2) := by decide +kernel
theorem dL_no_13 : decode cL_no 13 = .ok (.if_icmp .ne 7, 3) := by decide +kernel
theorem dL_no_16 : decode cL_no 16 = .ok (.iconst 1, 1) := by decide +kernel
theorem dL_no_17 : decode cL_no 17 = .ok (.goto 4, 3) := by decide +kernel
theorem dL_no_20 : decode cL_no 20 = .ok (.iconst 0, 1) := by decide +kernel
theorem dL_no_21 : decode cL_no 21 = .ok (.ireturn, 1) := by decide +kernel
theorem dL_off_0 : decode cL_off 0 = .ok (.aload_n 0, 1) := by decide +kernel
theorem dL_off_1 : decode cL_off 1 = .ok (.iload_n 1, 1) := by decide +kernel
theorem dL_off_2 : decode cL_off 2 = .ok (.iload_n 2, 1) := by decide +kernel
theorem dL_off_3 : decode cL_off 3 = .ok (.iload_n 3, 1) := by decide +kernel
theorem dL_off_4 : decode cL_off 4 = .ok (.iload 4, 2) := by decide +kernel
theorem dL_off_6 : decode cL_off 6 = .ok (.iload 5, 2) := by decide +kernel
theorem dL_off_8 : decode cL_off 8 = .ok (.iload 6, 2) := by decide +kernel
