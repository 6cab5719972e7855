theorem dL_isLaid_212 : decode cL_isLaid 212 = .ok (.bipush 50, 2) := by decide +kernel
theorem dL_isLaid_214 : decode cL_isLaid 214 = .ok (.invokestatic 137, 3) := by decide +kernel
theorem dL_isLaid_217 : decode cL_isLaid 217 = .ok (.ldc 126, 2) := by decide +kernel
theorem dL_isLaid_219 : decode cL_isLaid 219 = .ok (.if_icmp .ne 7, 3) := by decide +kernel
theorem dL_isLaid_222 : decode cL_isLaid 222 = .ok (.iconst 1, 1) := by decide +kernel
theorem dL_isLaid_223 : decode cL_isLaid 223 = .ok (.goto 4, 3) := by decide +kernel
theorem dL_isLaid_226 : decode cL_isLaid 226 = .ok (.iconst 0, 1) := by decide +kernel
theorem dL_isLaid_227 : decode cL_isLaid 227 = .ok (.ireturn, 1) := by decide +kernel
theorem dL_isLaid_228 : decode cL_isLaid 228 = .ok (.aload_n 1, 1) := by decide +kernel
theorem dL_isLaid_229 : decode cL_isLaid 229 = .ok (.iconst 2, 1) := by decide +kernel
theorem dL_isLaid_230 : decode cL_isLaid 230 = .ok (.dup2, 1) := by decide +kernel
theorem dL_isLaid_231 : decode cL_isLaid 231 = .ok (.iaload, 1) := by decide +kernel
theorem dL_isLaid_232 : decode cL_isLaid 232 = .ok (.iconst 1, 1) := by decide +kernel
theorem dL_isLaid_233 : decode cL_isLaid 233 = .ok (.iadd, 1) := by decide +kernel
theorem dL_isLaid_234 : decode cL_isLaid 234 = .ok (.iastore, 1) := by decide +kernel
theorem dL_isLaid_235 : decode cL_isLaid 235 = .ok (.aload_n 0, 1) := by decide +kernel
theorem dL_isLaid_236 : decode cL_isLaid 236 = .ok (.iconst 3, 1) := by decide +kernel
theorem dL_isLaid_237 : decode cL_isLaid 237 = .ok (.iload 4, 2) := by decide +kernel
theorem dL_isLaid_239 : decode cL_isLaid 239 = .ok (.iconst 5, 1) := by decide +kernel
theorem dL_isLaid_240 : decode cL_isLaid 240 = .ok (.irem, 1) := by decide +kernel
theorem dL_isLaid_241 : decode cL_isLaid 241 = .ok (.iload 5, 2) := by decide +kernel
theorem dL_isLaid_243 : decode cL_isLaid 243 = .ok (.iload 6, 2) := by decide +kernel
theorem dL_isLaid_245 : decode cL_isLaid 245 = .ok (.iload 7, 2) := by decide +kernel
theorem dL_isLaid_247 : decode cL_isLaid 247 = .ok (.bipush 10, 2) := by decide +kernel
theorem dL_isLaid_249 : decode cL_isLaid 249 = .ok (.iload 4, 2) := by decide +kernel
theorem dL_isLaid_251 : decode cL_isLaid 251 = .ok (.bipush 7, 2) := by decide +kernel
theorem dL_isLaid_253 : decode cL_isLaid 253 = .ok (.idiv, 1) := by decide +kernel
theorem dL_isLaid_254 : decode cL_isLaid 254 = .ok (.sipush 250, 3) := by decide +kernel
theorem dL_isLaid_257 : decode cL_isLaid 257 = .ok (.irem, 1) := by decide +kernel
theorem dL_isLaid_258 : decode cL_isLaid 258 = .ok (.iadd, 1) := by decide +kernel
theorem dL_isLaid_259 : decode cL_isLaid 259 = .ok (.invokestatic 137, 3) := by decide +kernel
theorem dL_isLaid_262 : decode cL_isLaid 262 = .ok (.aload_n 1, 1) := by decide +kernel
theorem dL_isLaid_263 : decode cL_isLaid 263 = .ok (.iconst 2, 1) := by decide +kernel
theorem dL_isLaid_264 : decode cL_isLaid 264 = .ok (.iaload, 1) := by decide +kernel
theorem dL_isLaid_265 : decode cL_isLaid 265 = .ok (.iconst 1, 1) := by decide +kernel
theorem dL_isLaid_266 : decode cL_isLaid 266 = .ok (.isub, 1) := by decide +kernel
theorem dL_isLaid_267 : decode cL_isLaid 267 = .ok (.if_icmp .ne 7, 3) := by decide +kernel
theorem dL_isLaid_270 : decode cL_isLaid 270 = .ok (.iconst 1, 1) := by decide +kernel
theorem dL_isLaid_271 : decode cL_isLaid 271 = .ok (.goto 4, 3) := by decide +kernel
theorem dL_isLaid_274 : decode cL_isLaid 274 = .ok (.iconst 0, 1) := by decide +kernel
theorem dL_isLaid_275 : decode cL_isLaid 275 = .ok (.istore 8, 2) := by decide +kernel
theorem dL_isLaid_277 : decode cL_isLaid 277 = .ok (.iload 6, 2) := by decide +kernel
theorem dL_isLaid_279 : decode cL_isLaid 279 = .ok (.istore 9, 2) := by decide +kernel
theorem dL_isLaid_281 : decode cL_isLaid 281 = .ok (.iload 9, 2) := by decide +kernel
theorem dL_isLaid_283 : decode cL_isLaid 283 = .ok (.iload 7, 2) := by decide +kernel
theorem dL_isLaid_285 : decode cL_isLaid 285 = .ok (.if_icmp .gt 33, 3) := by decide +kernel
theorem dL_isLaid_288 : decode cL_isLaid 288 = .ok (.iload 8, 2) := by decide +kernel
theorem dL_isLaid_290 : decode cL_isLaid 290 = .ok (.ifCond .eq 19, 3) := by decide +kernel
theorem dL_isLaid_293 : decode cL_isLaid 293 = .ok (.aload_n 0, 1) := by decide +kernel
theorem dL_isLaid_294 : decode cL_isLaid 294 = .ok (.iload 5, 2) := by decide +kernel
theorem dL_isLaid_296 : decode cL_isLaid 296 = .ok (.iload 9, 2) := by decide +kernel
theorem dL_isLaid_298 : decode cL_isLaid 298 = .ok (.iconst 1, 1) := by decide +kernel
theorem dL_isLaid_299 : decode cL_isLaid 299 = .ok (.invokevirtual 99, 3) := by decide +kernel
theorem dL_isLaid_302 : decode cL_isLaid 302 = .ok (.ifCond .ne 7, 3) := by decide +kernel
theorem dL_isLaid_305 : decode cL_isLaid 305 = .ok (.iconst 1, 1) := by decide +kernel
theorem dL_isLaid_306 : decode cL_isLaid 306 = .ok (.goto 4, 3) := by decide +kernel
theorem dL_isLaid_309 : decode cL_isLaid 309 = .ok (.iconst 0, 1) := by decide +kernel
theorem dL_isLaid_310 : decode cL_isLaid 310 = .ok (.istore 8, 2) := by decide +kernel
theorem dL_isLaid_312 : decode cL_isLaid 312 = .ok (.iinc 9 1, 3) := by decide +kernel
theorem dL_isLaid_315 : decode cL_isLaid 315 = .ok (.goto (-34), 3) := by decide +kernel
theorem dL_isLaid_318 : decode cL_isLaid 318 = .ok (.iload 8, 2) := by decide +kernel
theorem dL_isLaid_320 : decode cL_isLaid 320 = .ok (.ifCond .eq 44, 3) := by decide +kernel
theorem dL_isLaid_323 : decode cL_isLaid 323 = .ok (.aload_n 0, 1) := by decide +kernel
theorem dL_isLaid_324 : decode cL_isLaid 324 = .ok (.bipush 6, 2) := by decide +kernel
theorem dL_isLaid_326 : decode cL_isLaid 326 = .ok (.aload_n 1, 1) := by decide +kernel
theorem dL_isLaid_327 : decode cL_isLaid 327 = .ok (.iconst 2, 1) := by decide +kernel
theorem dL_isLaid_328 : decode cL_isLaid 328 = .ok (.iaload, 1) := by decide +kernel
theorem dL_isLaid_329 : decode cL_isLaid 329 = .ok (.iconst 1, 1) := by decide +kernel
theorem dL_isLaid_330 : decode cL_isLaid 330 = .ok (.isub, 1) := by decide +kernel
theorem dL_isLaid_331 : decode cL_isLaid 331 = .ok (.iconst 0, 1) := by decide +kernel
theorem dL_isLaid_332 : decode cL_isLaid 332 = .ok (.iconst 0, 1) := by decide +kernel
theorem dL_isLaid_333 : decode cL_isLaid 333 = .ok (.iconst 0, 1) := by decide +kernel
theorem dL_isLaid_334 : decode cL_isLaid 334 = .ok (.iconst 0, 1) := by decide +kernel
theorem dL_isLaid_335 : decode cL_isLaid 335 = .ok (.invokestatic 137, 3) := by decide +kernel
theorem dL_isLaid_338 : decode cL_isLaid 338 = .ok (.ldc 126, 2) := by decide +kernel
theorem dL_isLaid_340 : decode cL_isLaid 340 = .ok (.if_icmp .ne 24, 3) := by decide +kernel
theorem dL_isLaid_343 : decode cL_isLaid 343 = .ok (.aload_n 0, 1) := by decide +kernel
theorem dL_isLaid_344 : decode cL_isLaid 344 = .ok (.iconst 5, 1) := by decide +kernel
theorem dL_isLaid_345 : decode cL_isLaid 345 = .ok (.aload_n 1, 1) := by decide +kernel
theorem dL_isLaid_346 : decode cL_isLaid 346 = .ok (.iconst 2, 1) := by decide +kernel
theorem dL_isLaid_347 : decode cL_isLaid 347 = .ok (.iaload, 1) := by decide +kernel
theorem dL_isLaid_348 : decode cL_isLaid 348 = .ok (.iconst 1, 1) := by decide +kernel
theorem dL_isLaid_349 : decode cL_isLaid 349 = .ok (.isub, 1) := by decide +kernel
theorem dL_isLaid_350 : decode cL_isLaid 350 = .ok (.iconst 0, 1) := by decide +kernel
theorem dL_isLaid_351 : decode cL_isLaid 351 = .ok (.iconst 0, 1) := by decide +kernel
theorem dL_isLaid_352 : decode cL_isLaid 352 = .ok (.iconst 0, 1) := by decide +kernel
theorem dL_isLaid_353 : decode cL_isLaid 353 = .ok (.iconst 0, 1) := by decide +kernel
theorem dL_isLaid_354 : decode cL_isLaid 354 = .ok (.invokestatic 137, 3) := by decide +kernel
theorem dL_isLaid_357 : decode cL_isLaid 357 = .ok (.ifCond .ne 7, 3) := by decide +kernel
theorem dL_isLaid_360 : decode cL_isLaid 360 = .ok (.iconst 1, 1) := by decide +kernel
theorem dL_isLaid_361 : decode cL_isLaid 361 = .ok (.goto 4, 3) := by decide +kernel
theorem dL_isLaid_364 : decode cL_isLaid 364 = .ok (.iconst 0, 1) := by decide +kernel
theorem dL_isLaid_365 : decode cL_isLaid 365 = .ok (.ireturn, 1) := by decide +kernel
theorem dL_isLaid_366 : decode cL_isLaid 366 = .ok (.iload_n 3, 1) := by decide +kernel
theorem dL_isLaid_367 : decode cL_isLaid 367 = .ok (.iconst 2, 1) := by decide +kernel
theorem dL_isLaid_368 : decode cL_isLaid 368 = .ok (.if_icmp .ne 159, 3) := by decide +kernel
theorem dL_isLaid_371 : decode cL_isLaid 371 = .ok (.aload_n 1, 1) := by decide +kernel
theorem dL_isLaid_372 : decode cL_isLaid 372 = .ok (.iconst 2, 1) := by decide +kernel
theorem dL_isLaid_373 : decode cL_isLaid 373 = .ok (.iaload, 1) := by decide +kernel
theorem dL_isLaid_374 : decode cL_isLaid 374 = .ok (.ifCond .le 153, 3) := by decide +kernel
theorem dL_isLaid_377 : decode cL_isLaid 377 = .ok (.iload 4, 2) := by decide +kernel
theorem dL_isLaid_379 : decode cL_isLaid 379 = .ok (.bipush 7, 2) := by decide +kernel
theorem dL_isLaid_381 : decode cL_isLaid 381 = .ok (.idiv, 1) := by decide +kernel
theorem dL_isLaid_382 : decode cL_isLaid 382 = .ok (.aload_n 1, 1) := by decide +kernel
theorem dL_isLaid_383 : decode cL_isLaid 383 = .ok (.iconst 2, 1) := by decide +kernel
theorem dL_isLaid_384 : decode cL_isLaid 384 = .ok (.iaload, 1) := by decide +kernel
theorem dL_isLaid_385 : decode cL_isLaid 385 = .ok (.irem, 1) := by decide +kernel
theorem dL_isLaid_386 : decode cL_isLaid 386 = .ok (.istore 8, 2) := by decide +kernel
theorem dL_isLaid_388 : decode cL_isLaid 388 = .ok (.aload_n 0, 1) := by decide +kernel
theorem dL_isLaid_389 : decode cL_isLaid 389 = .ok (.iconst 4, 1) := by decide +kernel
theorem dL_isLaid_390 : decode cL_isLaid 390 = .ok (.iload 8, 2) := by decide +kernel
theorem dL_isLaid_392 : decode cL_isLaid 392 = .ok (.iconst 0, 1) := by decide +kernel
theorem dL_isLaid_393 : decode cL_isLaid 393 = .ok (.iload 4, 2) := by decide +kernel
theorem dL_isLaid_395 : decode cL_isLaid 395 = .ok (.iconst 2, 1) := by decide +kernel
theorem dL_isLaid_396 : decode cL_isLaid 396 = .ok (.irem, 1) := by decide +kernel
theorem dL_isLaid_397 : decode cL_isLaid 397 = .ok (.iload 4, 2) := by decide +kernel
theorem dL_isLaid_399 : decode cL_isLaid 399 = .ok (.iconst 3, 1) := by decide +kernel
theorem dL_isLaid_400 : decode cL_isLaid 400 = .ok (.idiv, 1) := by decide +kernel
theorem dL_isLaid_401 : decode cL_isLaid 401 = .ok (.iconst 4, 1) := by decide +kernel
theorem dL_isLaid_402 : decode cL_isLaid 402 = .ok (.irem, 1) := by decide +kernel
theorem dL_isLaid_403 : decode cL_isLaid 403 = .ok (.iconst 0, 1) := by decide +kernel
theorem dL_isLaid_404 : decode cL_isLaid 404 = .ok (.invokestatic 137, 3) := by decide +kernel
theorem dL_isLaid_407 : decode cL_isLaid 407 = .ok (.istore 9, 2) := by decide +kernel
theorem dL_isLaid_409 : decode cL_isLaid 409 = .ok (.iload 4, 2) := by decide +kernel
theorem dL_isLaid_411 : decode cL_isLaid 411 = .ok (.bipush 12, 2) := by decide +kernel
theorem dL_isLaid_413 : decode cL_isLaid 413 = .ok (.idiv, 1) := by decide +kernel
theorem dL_isLaid_414 : decode cL_isLaid 414 = .ok (.iconst 3, 1) := by decide +kernel
theorem dL_isLaid_415 : decode cL_isLaid 415 = .ok (.irem, 1) := by decide +kernel
theorem dL_isLaid_416 : decode cL_isLaid 416 = .ok (.ifCond .le 50, 3) := by decide +kernel
theorem dL_isLaid_419 : decode cL_isLaid 419 = .ok (.iload 9, 2) := by decide +kernel
theorem dL_isLaid_421 : decode cL_isLaid 421 = .ok (.ifCond .le 43, 3) := by decide +kernel
theorem dL_isLaid_424 : decode cL_isLaid 424 = .ok (.iload 9, 2) := by decide +kernel
theorem dL_isLaid_426 : decode cL_isLaid 426 = .ok (.bipush 8, 2) := by decide +kernel
theorem dL_isLaid_428 : decode cL_isLaid 428 = .ok (.if_icmp .gt 36, 3) := by decide +kernel
theorem dL_isLaid_431 : decode cL_isLaid 431 = .ok (.aload_n 0, 1) := by decide +kernel
theorem dL_isLaid_432 : decode cL_isLaid 432 = .ok (.iconst 5, 1) := by decide +kernel
theorem dL_isLaid_433 : decode cL_isLaid 433 = .ok (.iload 8, 2) := by decide +kernel
theorem dL_isLaid_435 : decode cL_isLaid 435 = .ok (.iconst 0, 1) := by decide +kernel
theorem dL_isLaid_436 : decode cL_isLaid 436 = .ok (.iconst 0, 1) := by decide +kernel
theorem dL_isLaid_437 : decode cL_isLaid 437 = .ok (.iconst 0, 1) := by decide +kernel
theorem dL_isLaid_438 : decode cL_isLaid 438 = .ok (.iconst 0, 1) := by decide +kernel
theorem dL_isLaid_439 : decode cL_isLaid 439 = .ok (.invokestatic 137, 3) := by decide +kernel
theorem dL_isLaid_442 : decode cL_isLaid 442 = .ok (.iconst 1, 1) := by decide +kernel
theorem dL_isLaid_443 : decode cL_isLaid 443 = .ok (.if_icmp .ne 21, 3) := by decide +kernel
theorem dL_isLaid_446 : decode cL_isLaid 446 = .ok (.aload_n 0, 1) := by decide +kernel
theorem dL_isLaid_447 : decode cL_isLaid 447 = .ok (.iconst 5, 1) := by decide +kernel
theorem dL_isLaid_448 : decode cL_isLaid 448 = .ok (.iload 8, 2) := by decide +kernel
theorem dL_isLaid_450 : decode cL_isLaid 450 = .ok (.iconst 0, 1) := by decide +kernel
theorem dL_isLaid_451 : decode cL_isLaid 451 = .ok (.iconst 0, 1) := by decide +kernel
theorem dL_isLaid_452 : decode cL_isLaid 452 = .ok (.iconst 0, 1) := by decide +kernel
theorem dL_isLaid_453 : decode cL_isLaid 453 = .ok (.iconst 0, 1) := by decide +kernel
theorem dL_isLaid_454 : decode cL_isLaid 454 = .ok (.invokestatic 137, 3) := by decide +kernel
theorem dL_isLaid_457 : decode cL_isLaid 457 = .ok (.ifCond .ne 7, 3) := by decide +kernel
theorem dL_isLaid_460 : decode cL_isLaid 460 = .ok (.iconst 1, 1) := by decide +kernel
theorem dL_isLaid_461 : decode cL_isLaid 461 = .ok (.goto 4, 3) := by decide +kernel
theorem dL_isLaid_464 : decode cL_isLaid 464 = .ok (.iconst 0, 1) := by decide +kernel
theorem dL_isLaid_465 : decode cL_isLaid 465 = .ok (.ireturn, 1) := by decide +kernel
theorem dL_isLaid_466 : decode cL_isLaid 466 = .ok (.aload_n 0, 1) := by decide +kernel
theorem dL_isLaid_467 : decode cL_isLaid 467 = .ok (.bipush 6, 2) := by decide +kernel
theorem dL_isLaid_469 : decode cL_isLaid 469 = .ok (.iload 8, 2) := by decide +kernel
theorem dL_isLaid_471 : decode cL_isLaid 471 = .ok (.iconst 0, 1) := by decide +kernel
theorem dL_isLaid_472 : decode cL_isLaid 472 = .ok (.iconst 0, 1) := by decide +kernel
theorem dL_isLaid_473 : decode cL_isLaid 473 = .ok (.iconst 0, 1) := by decide +kernel
theorem dL_isLaid_474 : decode cL_isLaid 474 = .ok (.iconst 0, 1) := by decide +kernel
theorem dL_isLaid_475 : decode cL_isLaid 475 = .ok (.invokestatic 137, 3) := by decide +kernel
theorem dL_isLaid_478 : decode cL_isLaid 478 = .ok (.istore 10, 2) := by decide +kernel
theorem dL_isLaid_480 : decode cL_isLaid 480 = .ok (.iload 9, 2) := by decide +kernel
theorem dL_isLaid_482 : decode cL_isLaid 482 = .ok (.ifCond .le 43, 3) := by decide +kernel
theorem dL_isLaid_485 : decode cL_isLaid 485 = .ok (.iload 9, 2) := by decide +kernel
theorem dL_isLaid_487 : decode cL_isLaid 487 = .ok (.bipush 8, 2) := by decide +kernel
theorem dL_isLaid_489 : decode cL_isLaid 489 = .ok (.if_icmp .gt 36, 3) := by decide +kernel
theorem dL_isLaid_492 : decode cL_isLaid 492 = .ok (.iload 10, 2) := by decide +kernel
theorem dL_isLaid_494 : decode cL_isLaid 494 = .ok (.ldc 126, 2) := by decide +kernel
theorem dL_isLaid_496 : decode cL_isLaid 496 = .ok (.if_icmp .eq 25, 3) := by decide +kernel
theorem dL_isLaid_499 : decode cL_isLaid 499 = .ok (.iload 10, 2) := by decide +kernel
theorem dL_isLaid_501 : decode cL_isLaid 501 = .ok (.iload 9, 2) := by decide +kernel
theorem dL_isLaid_503 : decode cL_isLaid 503 = .ok (.if_icmp .ne 22, 3) := by decide +kernel
theorem dL_isLaid_506 : decode cL_isLaid 506 = .ok (.aload_n 0, 1) := by decide +kernel
theorem dL_isLaid_507 : decode cL_isLaid 507 = .ok (.bipush 6, 2) := by decide +kernel
theorem dL_isLaid_509 : decode cL_isLaid 509 = .ok (.iload 8, 2) := by decide +kernel
theorem dL_isLaid_511 : decode cL_isLaid 511 = .ok (.iconst 0, 1) := by decide +kernel
theorem dL_isLaid_512 : decode cL_isLaid 512 = .ok (.iconst 0, 1) := by decide +kernel
theorem dL_isLaid_513 : decode cL_isLaid 513 = .ok (.iconst 0, 1) := by decide +kernel
theorem dL_isLaid_514 : decode cL_isLaid 514 = .ok (.iconst 0, 1) := by decide +kernel
theorem dL_isLaid_515 : decode cL_isLaid 515 = .ok (.invokestatic 137, 3) := by decide +kernel
theorem dL_isLaid_518 : decode cL_isLaid 518 = .ok (.ifCond .le 7, 3) := by decide +kernel
theorem dL_isLaid_521 : decode cL_isLaid 521 = .ok (.iconst 1, 1) := by decide +kernel
theorem dL_isLaid_522 : decode cL_isLaid 522 = .ok (.goto 4, 3) := by decide +kernel
theorem dL_isLaid_525 : decode cL_isLaid 525 = .ok (.iconst 0, 1) := by decide +kernel
theorem dL_isLaid_526 : decode cL_isLaid 526 = .ok (.ireturn, 1) := by decide +kernel
theorem dL_isLaid_527 : decode cL_isLaid 527 = .ok (.iload_n 3, 1) := by decide +kernel
theorem dL_isLaid_528 : decode cL_isLaid 528 = .ok (.iconst 3, 1) := by decide +kernel
theorem dL_isLaid_529 : decode cL_isLaid 529 = .ok (.if_icmp .ne 68, 3) := by decide +kernel
theorem dL_isLaid_532 : decode cL_isLaid 532 = .ok (.aload_n 0, 1) := by decide +kernel
theorem dL_isLaid_533 : decode cL_isLaid 533 = .ok (.bipush 7, 2) := by decide +kernel
theorem dL_isLaid_535 : decode cL_isLaid 535 = .ok (.iload 5, 2) := by decide +kernel
theorem dL_isLaid_537 : decode cL_isLaid 537 = .ok (.iload 6, 2) := by decide +kernel
theorem dL_isLaid_539 : decode cL_isLaid 539 = .ok (.iconst 0, 1) := by decide +kernel
theorem dL_isLaid_540 : decode cL_isLaid 540 = .ok (.iconst 0, 1) := by decide +kernel
theorem dL_isLaid_541 : decode cL_isLaid 541 = .ok (.iconst 0, 1) := by decide +kernel
theorem dL_isLaid_542 : decode cL_isLaid 542 = .ok (.invokestatic 137, 3) := by decide +kernel
theorem dL_isLaid_545 : decode cL_isLaid 545 = .ok (.istore 8, 2) := by decide +kernel
theorem dL_isLaid_547 : decode cL_isLaid 547 = .ok (.iload 8, 2) := by decide +kernel
theorem dL_isLaid_549 : decode cL_isLaid 549 = .ok (.ifCond .lt 46, 3) := by decide +kernel
theorem dL_isLaid_552 : decode cL_isLaid 552 = .ok (.iload 8, 2) := by decide +kernel
theorem dL_isLaid_554 : decode cL_isLaid 554 = .ok (.aload_n 1, 1) := by decide +kernel
theorem dL_isLaid_555 : decode cL_isLaid 555 = .ok (.iconst 2, 1) := by decide +kernel
theorem dL_isLaid_556 : decode cL_isLaid 556 = .ok (.iaload, 1) := by decide +kernel
theorem dL_isLaid_557 : decode cL_isLaid 557 = .ok (.if_icmp .gt 38, 3) := by decide +kernel
theorem dL_isLaid_560 : decode cL_isLaid 560 = .ok (.aload_n 0, 1) := by decide +kernel
theorem dL_isLaid_561 : decode cL_isLaid 561 = .ok (.iload 5, 2) := by decide +kernel
theorem dL_isLaid_563 : decode cL_isLaid 563 = .ok (.iload 6, 2) := by decide +kernel
theorem dL_isLaid_565 : decode cL_isLaid 565 = .ok (.iconst 1, 1) := by decide +kernel
theorem dL_isLaid_566 : decode cL_isLaid 566 = .ok (.invokevirtual 99, 3) := by decide +kernel
theorem dL_isLaid_569 : decode cL_isLaid 569 = .ok (.iconst 1, 1) := by decide +kernel
theorem dL_isLaid_570 : decode cL_isLaid 570 = .ok (.if_icmp .ne 25, 3) := by decide +kernel
theorem dL_isLaid_573 : decode cL_isLaid 573 = .ok (.aload_n 0, 1) := by decide +kernel
theorem dL_isLaid_574 : decode cL_isLaid 574 = .ok (.bipush 7, 2) := by decide +kernel
theorem dL_isLaid_576 : decode cL_isLaid 576 = .ok (.iload 5, 2) := by decide +kernel
theorem dL_isLaid_578 : decode cL_isLaid 578 = .ok (.iload 6, 2) := by decide +kernel
theorem dL_isLaid_580 : decode cL_isLaid 580 = .ok (.iconst 0, 1) := by decide +kernel
theorem dL_isLaid_581 : decode cL_isLaid 581 = .ok (.iconst 0, 1) := by decide +kernel
theorem dL_isLaid_582 : decode cL_isLaid 582 = .ok (.iconst 0, 1) := by decide +kernel
theorem dL_isLaid_583 : decode cL_isLaid 583 = .ok (.invokestatic 137, 3) := by decide +kernel
theorem dL_isLaid_586 : decode cL_isLaid 586 = .ok (.iload 8, 2) := by decide +kernel
theorem dL_isLaid_588 : decode cL_isLaid 588 = .ok (.if_icmp .ne 7, 3) := by decide +kernel
theorem dL_isLaid_591 : decode cL_isLaid 591 = .ok (.iconst 1, 1) := by decide +kernel
theorem dL_isLaid_592 : decode cL_isLaid 592 = .ok (.goto 4, 3) := by decide +kernel
theorem dL_isLaid_595 : decode cL_isLaid 595 = .ok (.iconst 0, 1) := by decide +kernel
theorem dL_isLaid_596 : decode cL_isLaid 596 = .ok (.ireturn, 1) := by decide +kernel
theorem dL_isLaid_597 : decode cL_isLaid 597 = .ok (.iload_n 3, 1) := by decide +kernel
theorem dL_isLaid_598 : decode cL_isLaid 598 = .ok (.iconst 4, 1) := by decide +kernel
theorem dL_isLaid_599 : decode cL_isLaid 599 = .ok (.if_icmp .ne 87, 3) := by decide +kernel
theorem dL_isLaid_602 : decode cL_isLaid 602 = .ok (.iconst 0, 1) := by decide +kernel
theorem dL_isLaid_603 : decode cL_isLaid 603 = .ok (.istore 8, 2) := by decide +kernel
theorem dL_isLaid_605 : decode cL_isLaid 605 = .ok (.iconst 0, 1) := by decide +kernel
theorem dL_isLaid_606 : decode cL_isLaid 606 = .ok (.istore 9, 2) := by decide +kernel
theorem dL_isLaid_608 : decode cL_isLaid 608 = .ok (.iload 9, 2) := by decide +kernel
theorem dL_isLaid_610 : decode cL_isLaid 610 = .ok (.aload_n 2, 1) := by decide +kernel
theorem dL_isLaid_611 : decode cL_isLaid 611 = .ok (.iload 5, 2) := by decide +kernel
theorem dL_isLaid_613 : decode cL_isLaid 613 = .ok (.iaload, 1) := by decide +kernel
theorem dL_isLaid_614 : decode cL_isLaid 614 = .ok (.if_icmp .ge 33, 3) := by decide +kernel
theorem dL_isLaid_617 : decode cL_isLaid 617 = .ok (.iload 8, 2) := by decide +kernel
theorem dL_isLaid_619 : decode cL_isLaid 619 = .ok (.ifCond .ne 15, 3) := by decide +kernel
theorem dL_isLaid_622 : decode cL_isLaid 622 = .ok (.aload_n 0, 1) := by decide +kernel
theorem dL_isLaid_623 : decode cL_isLaid 623 = .ok (.iload 5, 2) := by decide +kernel
theorem dL_isLaid_625 : decode cL_isLaid 625 = .ok (.iload 9, 2) := by decide +kernel
theorem dL_isLaid_627 : decode cL_isLaid 627 = .ok (.iconst 2, 1) := by decide +kernel
theorem dL_isLaid_628 : decode cL_isLaid 628 = .ok (.invokevirtual 99, 3) := by decide +kernel
theorem dL_isLaid_631 : decode cL_isLaid 631 = .ok (.ifCond .lt 7, 3) := by decide +kernel
theorem dL_isLaid_634 : decode cL_isLaid 634 = .ok (.iconst 1, 1) := by decide +kernel
theorem dL_isLaid_635 : decode cL_isLaid 635 = .ok (.goto 4, 3) := by decide +kernel
theorem dL_isLaid_638 : decode cL_isLaid 638 = .ok (.iconst 0, 1) := by decide +kernel
theorem dL_isLaid_639 : decode cL_isLaid 639 = .ok (.istore 8, 2) := by decide +kernel
theorem dL_isLaid_641 : decode cL_isLaid 641 = .ok (.iinc 9 1, 3) := by decide +kernel
theorem dL_isLaid_644 : decode cL_isLaid 644 = .ok (.goto (-36), 3) := by decide +kernel
theorem dL_isLaid_647 : decode cL_isLaid 647 = .ok (.aload_n 0, 1) := by decide +kernel
theorem dL_isLaid_648 : decode cL_isLaid 648 = .ok (.iconst 1, 1) := by decide +kernel
theorem dL_isLaid_649 : decode cL_isLaid 649 = .ok (.iload 5, 2) := by decide +kernel
theorem dL_isLaid_651 : decode cL_isLaid 651 = .ok (.iconst 0, 1) := by decide +kernel
theorem dL_isLaid_652 : decode cL_isLaid 652 = .ok (.iconst 0, 1) := by decide +kernel
theorem dL_isLaid_653 : decode cL_isLaid 653 = .ok (.iconst 0, 1) := by decide +kernel
theorem dL_isLaid_654 : decode cL_isLaid 654 = .ok (.iconst 0, 1) := by decide +kernel
theorem dL_isLaid_655 : decode cL_isLaid 655 = .ok (.invokestatic 137, 3) := by decide +kernel
theorem dL_isLaid_658 : decode cL_isLaid 658 = .ok (.iload 8, 2) := by decide +kernel
theorem dL_isLaid_660 : decode cL_isLaid 660 = .ok (.ifCond .eq 8, 3) := by decide +kernel
theorem dL_isLaid_663 : decode cL_isLaid 663 = .ok (.ldc 126, 2) := by decide +kernel
theorem dL_isLaid_665 : decode cL_isLaid 665 = .ok (.goto 12, 3) := by decide +kernel
theorem dL_isLaid_668 : decode cL_isLaid 668 = .ok (.aload_n 1, 1) := by decide +kernel
theorem dL_isLaid_669 : decode cL_isLaid 669 = .ok (.iconst 0, 1) := by decide +kernel
theorem dL_isLaid_670 : decode cL_isLaid 670 = .ok (.iaload, 1) := by decide +kernel
theorem dL_isLaid_671 : decode cL_isLaid 671 = .ok (.bipush 24, 2) := by decide +kernel
theorem dL_isLaid_673 : decode cL_isLaid 673 = .ok (.idiv, 1) := by decide +kernel
theorem dL_isLaid_674 : decode cL_isLaid 674 = .ok (.bipush 99, 2) := by decide +kernel
theorem dL_isLaid_676 : decode cL_isLaid 676 = .ok (.iadd, 1) := by decide +kernel
theorem dL_isLaid_677 : decode cL_isLaid 677 = .ok (.if_icmp .ne 7, 3) := by decide +kernel
theorem dL_isLaid_680 : decode cL_isLaid 680 = .ok (.iconst 1, 1) := by decide +kernel
theorem dL_isLaid_681 : decode cL_isLaid 681 = .ok (.goto 4, 3) := by decide +kernel
theorem dL_isLaid_684 : decode cL_isLaid 684 = .ok (.iconst 0, 1) := by decide +kernel
theorem dL_isLaid_685 : decode cL_isLaid 685 = .ok (.ireturn, 1) := by decide +kernel
theorem dL_isLaid_686 : decode cL_isLaid 686 = .ok (.aload_n 0, 1) := by decide +kernel
theorem dL_isLaid_687 : decode cL_isLaid 687 = .ok (.iconst 2, 1) := by decide +kernel
theorem dL_isLaid_688 : decode cL_isLaid 688 = .ok (.iload 5, 2) := by decide +kernel
