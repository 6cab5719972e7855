theorem dL_isDone_75 : decode cL_isDone 75 = .ok (.istore 8, 2) := by decide +kernel
theorem dL_isDone_77 : decode cL_isDone 77 = .ok (.iload_n 3, 1) := by decide +kernel
theorem dL_isDone_78 : decode cL_isDone 78 = .ok (.ifCond .ne 131, 3) := by decide +kernel
theorem dL_isDone_81 : decode cL_isDone 81 = .ok (.aload_n 0, 1) := by decide +kernel
theorem dL_isDone_82 : decode cL_isDone 82 = .ok (.iload 5, 2) := by decide +kernel
theorem dL_isDone_84 : decode cL_isDone 84 = .ok (.invokevirtual 90, 3) := by decide +kernel
theorem dL_isDone_87 : decode cL_isDone 87 = .ok (.istore 9, 2) := by decide +kernel
theorem dL_isDone_89 : decode cL_isDone 89 = .ok (.aload_n 0, 1) := by decide +kernel
theorem dL_isDone_90 : decode cL_isDone 90 = .ok (.iload 8, 2) := by decide +kernel
theorem dL_isDone_92 : decode cL_isDone 92 = .ok (.invokevirtual 111, 3) := by decide +kernel
theorem dL_isDone_95 : decode cL_isDone 95 = .ok (.lstore 10, 2) := by decide +kernel
theorem dL_isDone_97 : decode cL_isDone 97 = .ok (.aload_n 0, 1) := by decide +kernel
theorem dL_isDone_98 : decode cL_isDone 98 = .ok (.bipush 8, 2) := by decide +kernel
theorem dL_isDone_100 : decode cL_isDone 100 = .ok (.iload 5, 2) := by decide +kernel
theorem dL_isDone_102 : decode cL_isDone 102 = .ok (.iload 6, 2) := by decide +kernel
theorem dL_isDone_104 : decode cL_isDone 104 = .ok (.iconst 4, 1) := by decide +kernel
theorem dL_isDone_105 : decode cL_isDone 105 = .ok (.irem, 1) := by decide +kernel
theorem dL_isDone_106 : decode cL_isDone 106 = .ok (.iconst 0, 1) := by decide +kernel
theorem dL_isDone_107 : decode cL_isDone 107 = .ok (.iconst 0, 1) := by decide +kernel
theorem dL_isDone_108 : decode cL_isDone 108 = .ok (.iconst 0, 1) := by decide +kernel
theorem dL_isDone_109 : decode cL_isDone 109 = .ok (.invokestatic 137, 3) := by decide +kernel
theorem dL_isDone_112 : decode cL_isDone 112 = .ok (.istore 12, 2) := by decide +kernel
theorem dL_isDone_114 : decode cL_isDone 114 = .ok (.iload 12, 2) := by decide +kernel
theorem dL_isDone_116 : decode cL_isDone 116 = .ok (.ldc 126, 2) := by decide +kernel
theorem dL_isDone_118 : decode cL_isDone 118 = .ok (.if_icmp .ne 21, 3) := by decide +kernel
theorem dL_isDone_121 : decode cL_isDone 121 = .ok (.iload 7, 2) := by decide +kernel
theorem dL_isDone_123 : decode cL_isDone 123 = .ok (.ifCond .ne 8, 3) := by decide +kernel
theorem dL_isDone_126 : decode cL_isDone 126 = .ok (.iload 9, 2) := by decide +kernel
theorem dL_isDone_128 : decode cL_isDone 128 = .ok (.ifCond .le 7, 3) := by decide +kernel
theorem dL_isDone_131 : decode cL_isDone 131 = .ok (.iconst 1, 1) := by decide +kernel
theorem dL_isDone_132 : decode cL_isDone 132 = .ok (.goto 76, 3) := by decide +kernel
theorem dL_isDone_135 : decode cL_isDone 135 = .ok (.iconst 0, 1) := by decide +kernel
theorem dL_isDone_136 : decode cL_isDone 136 = .ok (.goto 72, 3) := by decide +kernel
theorem dL_isDone_139 : decode cL_isDone 139 = .ok (.iload 7, 2) := by decide +kernel
theorem dL_isDone_141 : decode cL_isDone 141 = .ok (.ifCond .ne 66, 3) := by decide +kernel
theorem dL_isDone_144 : decode cL_isDone 144 = .ok (.iload 9, 2) := by decide +kernel
theorem dL_isDone_146 : decode cL_isDone 146 = .ok (.ifCond .ne 61, 3) := by decide +kernel
theorem dL_isDone_149 : decode cL_isDone 149 = .ok (.iload 12, 2) := by decide +kernel
theorem dL_isDone_151 : decode cL_isDone 151 = .ok (.ifCond .lt 56, 3) := by decide +kernel
theorem dL_isDone_154 : decode cL_isDone 154 = .ok (.iload 12, 2) := by decide +kernel
theorem dL_isDone_156 : decode cL_isDone 156 = .ok (.sipush 240, 3) := by decide +kernel
theorem dL_isDone_159 : decode cL_isDone 159 = .ok (.if_icmp .gt 48, 3) := by decide +kernel
theorem dL_isDone_162 : decode cL_isDone 162 = .ok (.aload_n 0, 1) := by decide +kernel
theorem dL_isDone_163 : decode cL_isDone 163 = .ok (.iload 5, 2) := by decide +kernel
theorem dL_isDone_165 : decode cL_isDone 165 = .ok (.iconst 0, 1) := by decide +kernel
theorem dL_isDone_166 : decode cL_isDone 166 = .ok (.invokevirtual 96, 3) := by decide +kernel
theorem dL_isDone_169 : decode cL_isDone 169 = .ok (.iconst 1, 1) := by decide +kernel
theorem dL_isDone_170 : decode cL_isDone 170 = .ok (.if_icmp .ne 37, 3) := by decide +kernel
theorem dL_isDone_173 : decode cL_isDone 173 = .ok (.aload_n 0, 1) := by decide +kernel
theorem dL_isDone_174 : decode cL_isDone 174 = .ok (.iload 5, 2) := by decide +kernel
theorem dL_isDone_176 : decode cL_isDone 176 = .ok (.iconst 2, 1) := by decide +kernel
theorem dL_isDone_177 : decode cL_isDone 177 = .ok (.invokevirtual 96, 3) := by decide +kernel
theorem dL_isDone_180 : decode cL_isDone 180 = .ok (.iload 6, 2) := by decide +kernel
theorem dL_isDone_182 : decode cL_isDone 182 = .ok (.iconst 4, 1) := by decide +kernel
theorem dL_isDone_183 : decode cL_isDone 183 = .ok (.irem, 1) := by decide +kernel
theorem dL_isDone_184 : decode cL_isDone 184 = .ok (.if_icmp .ne 23, 3) := by decide +kernel
theorem dL_isDone_187 : decode cL_isDone 187 = .ok (.aload_n 0, 1) := by decide +kernel
theorem dL_isDone_188 : decode cL_isDone 188 = .ok (.iload 8, 2) := by decide +kernel
theorem dL_isDone_190 : decode cL_isDone 190 = .ok (.invokevirtual 111, 3) := by decide +kernel
theorem dL_isDone_193 : decode cL_isDone 193 = .ok (.lload 10, 2) := by decide +kernel
theorem dL_isDone_195 : decode cL_isDone 195 = .ok (.iload 12, 2) := by decide +kernel
theorem dL_isDone_197 : decode cL_isDone 197 = .ok (.i2l, 1) := by decide +kernel
theorem dL_isDone_198 : decode cL_isDone 198 = .ok (.lsub, 1) := by decide +kernel
theorem dL_isDone_199 : decode cL_isDone 199 = .ok (.lcmp, 1) := by decide +kernel
theorem dL_isDone_200 : decode cL_isDone 200 = .ok (.ifCond .ne 7, 3) := by decide +kernel
theorem dL_isDone_203 : decode cL_isDone 203 = .ok (.iconst 1, 1) := by decide +kernel
theorem dL_isDone_204 : decode cL_isDone 204 = .ok (.goto 4, 3) := by decide +kernel
theorem dL_isDone_207 : decode cL_isDone 207 = .ok (.iconst 0, 1) := by decide +kernel
theorem dL_isDone_208 : decode cL_isDone 208 = .ok (.ireturn, 1) := by decide +kernel
theorem dL_isDone_209 : decode cL_isDone 209 = .ok (.iload_n 3, 1) := by decide +kernel
theorem dL_isDone_210 : decode cL_isDone 210 = .ok (.iconst 1, 1) := by decide +kernel
theorem dL_isDone_211 : decode cL_isDone 211 = .ok (.if_icmp .ne 62, 3) := by decide +kernel
theorem dL_isDone_214 : decode cL_isDone 214 = .ok (.aload_n 0, 1) := by decide +kernel
theorem dL_isDone_215 : decode cL_isDone 215 = .ok (.bipush 9, 2) := by decide +kernel
theorem dL_isDone_217 : decode cL_isDone 217 = .ok (.iload 5, 2) := by decide +kernel
theorem dL_isDone_219 : decode cL_isDone 219 = .ok (.iconst 0, 1) := by decide +kernel
theorem dL_isDone_220 : decode cL_isDone 220 = .ok (.iconst 0, 1) := by decide +kernel
theorem dL_isDone_221 : decode cL_isDone 221 = .ok (.iconst 0, 1) := by decide +kernel
theorem dL_isDone_222 : decode cL_isDone 222 = .ok (.iconst 0, 1) := by decide +kernel
theorem dL_isDone_223 : decode cL_isDone 223 = .ok (.invokestatic 137, 3) := by decide +kernel
theorem dL_isDone_226 : decode cL_isDone 226 = .ok (.istore 9, 2) := by decide +kernel
theorem dL_isDone_228 : decode cL_isDone 228 = .ok (.iload 7, 2) := by decide +kernel
theorem dL_isDone_230 : decode cL_isDone 230 = .ok (.iconst 2, 1) := by decide +kernel
theorem dL_isDone_231 : decode cL_isDone 231 = .ok (.if_icmp .ge 29, 3) := by decide +kernel
theorem dL_isDone_234 : decode cL_isDone 234 = .ok (.iload 9, 2) := by decide +kernel
theorem dL_isDone_236 : decode cL_isDone 236 = .ok (.iload 7, 2) := by decide +kernel
theorem dL_isDone_238 : decode cL_isDone 238 = .ok (.if_icmp .ne 18, 3) := by decide +kernel
theorem dL_isDone_241 : decode cL_isDone 241 = .ok (.aload_n 0, 1) := by decide +kernel
theorem dL_isDone_242 : decode cL_isDone 242 = .ok (.iload 5, 2) := by decide +kernel
theorem dL_isDone_244 : decode cL_isDone 244 = .ok (.iconst 0, 1) := by decide +kernel
theorem dL_isDone_245 : decode cL_isDone 245 = .ok (.invokevirtual 96, 3) := by decide +kernel
theorem dL_isDone_248 : decode cL_isDone 248 = .ok (.iconst 2, 1) := by decide +kernel
theorem dL_isDone_249 : decode cL_isDone 249 = .ok (.if_icmp .ne 7, 3) := by decide +kernel
theorem dL_isDone_252 : decode cL_isDone 252 = .ok (.iconst 1, 1) := by decide +kernel
theorem dL_isDone_253 : decode cL_isDone 253 = .ok (.goto 19, 3) := by decide +kernel
theorem dL_isDone_256 : decode cL_isDone 256 = .ok (.iconst 0, 1) := by decide +kernel
theorem dL_isDone_257 : decode cL_isDone 257 = .ok (.goto 15, 3) := by decide +kernel
theorem dL_isDone_260 : decode cL_isDone 260 = .ok (.iload 9, 2) := by decide +kernel
theorem dL_isDone_262 : decode cL_isDone 262 = .ok (.ldc 126, 2) := by decide +kernel
theorem dL_isDone_264 : decode cL_isDone 264 = .ok (.if_icmp .ne 7, 3) := by decide +kernel
theorem dL_isDone_267 : decode cL_isDone 267 = .ok (.iconst 1, 1) := by decide +kernel
theorem dL_isDone_268 : decode cL_isDone 268 = .ok (.goto 4, 3) := by decide +kernel
theorem dL_isDone_271 : decode cL_isDone 271 = .ok (.iconst 0, 1) := by decide +kernel
theorem dL_isDone_272 : decode cL_isDone 272 = .ok (.ireturn, 1) := by decide +kernel
theorem dL_isDone_273 : decode cL_isDone 273 = .ok (.iload_n 3, 1) := by decide +kernel
theorem dL_isDone_274 : decode cL_isDone 274 = .ok (.iconst 2, 1) := by decide +kernel
theorem dL_isDone_275 : decode cL_isDone 275 = .ok (.if_icmp .ne 97, 3) := by decide +kernel
theorem dL_isDone_278 : decode cL_isDone 278 = .ok (.aload_n 0, 1) := by decide +kernel
theorem dL_isDone_279 : decode cL_isDone 279 = .ok (.iload 5, 2) := by decide +kernel
theorem dL_isDone_281 : decode cL_isDone 281 = .ok (.iconst 3, 1) := by decide +kernel
theorem dL_isDone_282 : decode cL_isDone 282 = .ok (.invokevirtual 96, 3) := by decide +kernel
theorem dL_isDone_285 : decode cL_isDone 285 = .ok (.istore 9, 2) := by decide +kernel
theorem dL_isDone_287 : decode cL_isDone 287 = .ok (.aload_n 0, 1) := by decide +kernel
theorem dL_isDone_288 : decode cL_isDone 288 = .ok (.bipush 10, 2) := by decide +kernel
theorem dL_isDone_290 : decode cL_isDone 290 = .ok (.iload 5, 2) := by decide +kernel
theorem dL_isDone_292 : decode cL_isDone 292 = .ok (.iload 6, 2) := by decide +kernel
theorem dL_isDone_294 : decode cL_isDone 294 = .ok (.iconst 4, 1) := by decide +kernel
theorem dL_isDone_295 : decode cL_isDone 295 = .ok (.irem, 1) := by decide +kernel
theorem dL_isDone_296 : decode cL_isDone 296 = .ok (.iconst 0, 1) := by decide +kernel
theorem dL_isDone_297 : decode cL_isDone 297 = .ok (.iconst 0, 1) := by decide +kernel
theorem dL_isDone_298 : decode cL_isDone 298 = .ok (.iconst 0, 1) := by decide +kernel
theorem dL_isDone_299 : decode cL_isDone 299 = .ok (.invokestatic 137, 3) := by decide +kernel
theorem dL_isDone_302 : decode cL_isDone 302 = .ok (.istore 10, 2) := by decide +kernel
theorem dL_isDone_304 : decode cL_isDone 304 = .ok (.iload 7, 2) := by decide +kernel
theorem dL_isDone_306 : decode cL_isDone 306 = .ok (.iconst 1, 1) := by decide +kernel
theorem dL_isDone_307 : decode cL_isDone 307 = .ok (.if_icmp .eq 9, 3) := by decide +kernel
theorem dL_isDone_310 : decode cL_isDone 310 = .ok (.iload 7, 2) := by decide +kernel
theorem dL_isDone_312 : decode cL_isDone 312 = .ok (.iconst 3, 1) := by decide +kernel
theorem dL_isDone_313 : decode cL_isDone 313 = .ok (.if_icmp .ne 46, 3) := by decide +kernel
theorem dL_isDone_316 : decode cL_isDone 316 = .ok (.iload 10, 2) := by decide +kernel
theorem dL_isDone_318 : decode cL_isDone 318 = .ok (.iload 9, 2) := by decide +kernel
theorem dL_isDone_320 : decode cL_isDone 320 = .ok (.iconst 1, 1) := by decide +kernel
theorem dL_isDone_321 : decode cL_isDone 321 = .ok (.iadd, 1) := by decide +kernel
theorem dL_isDone_322 : decode cL_isDone 322 = .ok (.if_icmp .ne 33, 3) := by decide +kernel
theorem dL_isDone_325 : decode cL_isDone 325 = .ok (.aload_n 0, 1) := by decide +kernel
theorem dL_isDone_326 : decode cL_isDone 326 = .ok (.iload 5, 2) := by decide +kernel
theorem dL_isDone_328 : decode cL_isDone 328 = .ok (.iconst 2, 1) := by decide +kernel
theorem dL_isDone_329 : decode cL_isDone 329 = .ok (.invokevirtual 96, 3) := by decide +kernel
theorem dL_isDone_332 : decode cL_isDone 332 = .ok (.iload 6, 2) := by decide +kernel
theorem dL_isDone_334 : decode cL_isDone 334 = .ok (.iconst 4, 1) := by decide +kernel
theorem dL_isDone_335 : decode cL_isDone 335 = .ok (.irem, 1) := by decide +kernel
theorem dL_isDone_336 : decode cL_isDone 336 = .ok (.if_icmp .ne 19, 3) := by decide +kernel
theorem dL_isDone_339 : decode cL_isDone 339 = .ok (.aload_n 0, 1) := by decide +kernel
theorem dL_isDone_340 : decode cL_isDone 340 = .ok (.iload 5, 2) := by decide +kernel
theorem dL_isDone_342 : decode cL_isDone 342 = .ok (.iconst 3, 1) := by decide +kernel
theorem dL_isDone_343 : decode cL_isDone 343 = .ok (.invokevirtual 96, 3) := by decide +kernel
theorem dL_isDone_346 : decode cL_isDone 346 = .ok (.iload 10, 2) := by decide +kernel
theorem dL_isDone_348 : decode cL_isDone 348 = .ok (.if_icmp .ne 7, 3) := by decide +kernel
theorem dL_isDone_351 : decode cL_isDone 351 = .ok (.iconst 1, 1) := by decide +kernel
theorem dL_isDone_352 : decode cL_isDone 352 = .ok (.goto 19, 3) := by decide +kernel
theorem dL_isDone_355 : decode cL_isDone 355 = .ok (.iconst 0, 1) := by decide +kernel
theorem dL_isDone_356 : decode cL_isDone 356 = .ok (.goto 15, 3) := by decide +kernel
theorem dL_isDone_359 : decode cL_isDone 359 = .ok (.iload 10, 2) := by decide +kernel
theorem dL_isDone_361 : decode cL_isDone 361 = .ok (.ldc 126, 2) := by decide +kernel
theorem dL_isDone_363 : decode cL_isDone 363 = .ok (.if_icmp .ne 7, 3) := by decide +kernel
theorem dL_isDone_366 : decode cL_isDone 366 = .ok (.iconst 1, 1) := by decide +kernel
theorem dL_isDone_367 : decode cL_isDone 367 = .ok (.goto 4, 3) := by decide +kernel
theorem dL_isDone_370 : decode cL_isDone 370 = .ok (.iconst 0, 1) := by decide +kernel
theorem dL_isDone_371 : decode cL_isDone 371 = .ok (.ireturn, 1) := by decide +kernel
theorem dL_isDone_372 : decode cL_isDone 372 = .ok (.iload_n 3, 1) := by decide +kernel
theorem dL_isDone_373 : decode cL_isDone 373 = .ok (.iconst 3, 1) := by decide +kernel
theorem dL_isDone_374 : decode cL_isDone 374 = .ok (.if_icmp .ne 53, 3) := by decide +kernel
theorem dL_isDone_377 : decode cL_isDone 377 = .ok (.aload_n 0, 1) := by decide +kernel
theorem dL_isDone_378 : decode cL_isDone 378 = .ok (.iload 5, 2) := by decide +kernel
theorem dL_isDone_380 : decode cL_isDone 380 = .ok (.bipush 7, 2) := by decide +kernel
theorem dL_isDone_382 : decode cL_isDone 382 = .ok (.invokevirtual 96, 3) := by decide +kernel
theorem dL_isDone_385 : decode cL_isDone 385 = .ok (.istore 9, 2) := by decide +kernel
theorem dL_isDone_387 : decode cL_isDone 387 = .ok (.aload_n 0, 1) := by decide +kernel
theorem dL_isDone_388 : decode cL_isDone 388 = .ok (.bipush 11, 2) := by decide +kernel
theorem dL_isDone_390 : decode cL_isDone 390 = .ok (.iload 5, 2) := by decide +kernel
theorem dL_isDone_392 : decode cL_isDone 392 = .ok (.iconst 0, 1) := by decide +kernel
theorem dL_isDone_393 : decode cL_isDone 393 = .ok (.iconst 0, 1) := by decide +kernel
theorem dL_isDone_394 : decode cL_isDone 394 = .ok (.iconst 0, 1) := by decide +kernel
theorem dL_isDone_395 : decode cL_isDone 395 = .ok (.iconst 0, 1) := by decide +kernel
theorem dL_isDone_396 : decode cL_isDone 396 = .ok (.invokestatic 137, 3) := by decide +kernel
theorem dL_isDone_399 : decode cL_isDone 399 = .ok (.iconst 1, 1) := by decide +kernel
theorem dL_isDone_400 : decode cL_isDone 400 = .ok (.iload 9, 2) := by decide +kernel
theorem dL_isDone_402 : decode cL_isDone 402 = .ok (.isub, 1) := by decide +kernel
theorem dL_isDone_403 : decode cL_isDone 403 = .ok (.if_icmp .ne 22, 3) := by decide +kernel
theorem dL_isDone_406 : decode cL_isDone 406 = .ok (.aload_n 0, 1) := by decide +kernel
theorem dL_isDone_407 : decode cL_isDone 407 = .ok (.iload 5, 2) := by decide +kernel
theorem dL_isDone_409 : decode cL_isDone 409 = .ok (.bipush 7, 2) := by decide +kernel
theorem dL_isDone_411 : decode cL_isDone 411 = .ok (.invokevirtual 96, 3) := by decide +kernel
theorem dL_isDone_414 : decode cL_isDone 414 = .ok (.iconst 1, 1) := by decide +kernel
theorem dL_isDone_415 : decode cL_isDone 415 = .ok (.iload 9, 2) := by decide +kernel
theorem dL_isDone_417 : decode cL_isDone 417 = .ok (.isub, 1) := by decide +kernel
theorem dL_isDone_418 : decode cL_isDone 418 = .ok (.if_icmp .ne 7, 3) := by decide +kernel
theorem dL_isDone_421 : decode cL_isDone 421 = .ok (.iconst 1, 1) := by decide +kernel
theorem dL_isDone_422 : decode cL_isDone 422 = .ok (.goto 4, 3) := by decide +kernel
theorem dL_isDone_425 : decode cL_isDone 425 = .ok (.iconst 0, 1) := by decide +kernel
theorem dL_isDone_426 : decode cL_isDone 426 = .ok (.ireturn, 1) := by decide +kernel
theorem dL_isDone_427 : decode cL_isDone 427 = .ok (.iload_n 3, 1) := by decide +kernel
theorem dL_isDone_428 : decode cL_isDone 428 = .ok (.iconst 4, 1) := by decide +kernel
theorem dL_isDone_429 : decode cL_isDone 429 = .ok (.if_icmp .ne 123, 3) := by decide +kernel
theorem dL_isDone_432 : decode cL_isDone 432 = .ok (.iload 6, 2) := by decide +kernel
theorem dL_isDone_434 : decode cL_isDone 434 = .ok (.aload_n 1, 1) := by decide +kernel
theorem dL_isDone_435 : decode cL_isDone 435 = .ok (.iconst 3, 1) := by decide +kernel
theorem dL_isDone_436 : decode cL_isDone 436 = .ok (.iaload, 1) := by decide +kernel
theorem dL_isDone_437 : decode cL_isDone 437 = .ok (.irem, 1) := by decide +kernel
theorem dL_isDone_438 : decode cL_isDone 438 = .ok (.istore 9, 2) := by decide +kernel
theorem dL_isDone_440 : decode cL_isDone 440 = .ok (.aload_n 0, 1) := by decide +kernel
theorem dL_isDone_441 : decode cL_isDone 441 = .ok (.bipush 12, 2) := by decide +kernel
theorem dL_isDone_443 : decode cL_isDone 443 = .ok (.iload 5, 2) := by decide +kernel
theorem dL_isDone_445 : decode cL_isDone 445 = .ok (.iload 9, 2) := by decide +kernel
theorem dL_isDone_447 : decode cL_isDone 447 = .ok (.iconst 0, 1) := by decide +kernel
theorem dL_isDone_448 : decode cL_isDone 448 = .ok (.iconst 0, 1) := by decide +kernel
theorem dL_isDone_449 : decode cL_isDone 449 = .ok (.iconst 0, 1) := by decide +kernel
theorem dL_isDone_450 : decode cL_isDone 450 = .ok (.invokestatic 137, 3) := by decide +kernel
theorem dL_isDone_453 : decode cL_isDone 453 = .ok (.istore 10, 2) := by decide +kernel
theorem dL_isDone_455 : decode cL_isDone 455 = .ok (.iload 9, 2) := by decide +kernel
theorem dL_isDone_457 : decode cL_isDone 457 = .ok (.iload 5, 2) := by decide +kernel
theorem dL_isDone_459 : decode cL_isDone 459 = .ok (.if_icmp .ne 18, 3) := by decide +kernel
theorem dL_isDone_462 : decode cL_isDone 462 = .ok (.iload 10, 2) := by decide +kernel
theorem dL_isDone_464 : decode cL_isDone 464 = .ok (.ldc 123, 2) := by decide +kernel
theorem dL_isDone_466 : decode cL_isDone 466 = .ok (.if_icmp .ne 7, 3) := by decide +kernel
theorem dL_isDone_469 : decode cL_isDone 469 = .ok (.iconst 1, 1) := by decide +kernel
theorem dL_isDone_470 : decode cL_isDone 470 = .ok (.goto 35, 3) := by decide +kernel
theorem dL_isDone_473 : decode cL_isDone 473 = .ok (.iconst 0, 1) := by decide +kernel
theorem dL_isDone_474 : decode cL_isDone 474 = .ok (.goto 31, 3) := by decide +kernel
theorem dL_isDone_477 : decode cL_isDone 477 = .ok (.iload 10, 2) := by decide +kernel
theorem dL_isDone_479 : decode cL_isDone 479 = .ok (.ifCond .lt 25, 3) := by decide +kernel
theorem dL_isDone_482 : decode cL_isDone 482 = .ok (.iload 10, 2) := by decide +kernel
theorem dL_isDone_484 : decode cL_isDone 484 = .ok (.ifCond .eq 16, 3) := by decide +kernel
theorem dL_isDone_487 : decode cL_isDone 487 = .ok (.aload_n 0, 1) := by decide +kernel
theorem dL_isDone_488 : decode cL_isDone 488 = .ok (.iload 5, 2) := by decide +kernel
theorem dL_isDone_490 : decode cL_isDone 490 = .ok (.iload 9, 2) := by decide +kernel
theorem dL_isDone_492 : decode cL_isDone 492 = .ok (.invokevirtual 93, 3) := by decide +kernel
theorem dL_isDone_495 : decode cL_isDone 495 = .ok (.iload 9, 2) := by decide +kernel
theorem dL_isDone_497 : decode cL_isDone 497 = .ok (.if_icmp .eq 7, 3) := by decide +kernel
theorem dL_isDone_500 : decode cL_isDone 500 = .ok (.iconst 1, 1) := by decide +kernel
theorem dL_isDone_501 : decode cL_isDone 501 = .ok (.goto 4, 3) := by decide +kernel
theorem dL_isDone_504 : decode cL_isDone 504 = .ok (.iconst 0, 1) := by decide +kernel
theorem dL_isDone_505 : decode cL_isDone 505 = .ok (.istore 11, 2) := by decide +kernel
theorem dL_isDone_507 : decode cL_isDone 507 = .ok (.iload 11, 2) := by decide +kernel
theorem dL_isDone_509 : decode cL_isDone 509 = .ok (.ifCond .eq 41, 3) := by decide +kernel
theorem dL_isDone_512 : decode cL_isDone 512 = .ok (.iload 9, 2) := by decide +kernel
theorem dL_isDone_514 : decode cL_isDone 514 = .ok (.iload 5, 2) := by decide +kernel
theorem dL_isDone_516 : decode cL_isDone 516 = .ok (.if_icmp .eq 30, 3) := by decide +kernel
theorem dL_isDone_519 : decode cL_isDone 519 = .ok (.iload 6, 2) := by decide +kernel
theorem dL_isDone_521 : decode cL_isDone 521 = .ok (.iconst 3, 1) := by decide +kernel
theorem dL_isDone_522 : decode cL_isDone 522 = .ok (.irem, 1) := by decide +kernel
theorem dL_isDone_523 : decode cL_isDone 523 = .ok (.ifCond .gt 23, 3) := by decide +kernel
theorem dL_isDone_526 : decode cL_isDone 526 = .ok (.aload_n 0, 1) := by decide +kernel
theorem dL_isDone_527 : decode cL_isDone 527 = .ok (.bipush 12, 2) := by decide +kernel
theorem dL_isDone_529 : decode cL_isDone 529 = .ok (.iload 9, 2) := by decide +kernel
theorem dL_isDone_531 : decode cL_isDone 531 = .ok (.iload 5, 2) := by decide +kernel
theorem dL_isDone_533 : decode cL_isDone 533 = .ok (.iconst 0, 1) := by decide +kernel
theorem dL_isDone_534 : decode cL_isDone 534 = .ok (.iconst 0, 1) := by decide +kernel
theorem dL_isDone_535 : decode cL_isDone 535 = .ok (.iconst 0, 1) := by decide +kernel
theorem dL_isDone_536 : decode cL_isDone 536 = .ok (.invokestatic 137, 3) := by decide +kernel
theorem dL_isDone_539 : decode cL_isDone 539 = .ok (.iconst 1, 1) := by decide +kernel
theorem dL_isDone_540 : decode cL_isDone 540 = .ok (.iload 10, 2) := by decide +kernel
theorem dL_isDone_542 : decode cL_isDone 542 = .ok (.isub, 1) := by decide +kernel
theorem dL_isDone_543 : decode cL_isDone 543 = .ok (.if_icmp .ne 7, 3) := by decide +kernel
theorem dL_isDone_546 : decode cL_isDone 546 = .ok (.iconst 1, 1) := by decide +kernel
theorem dL_isDone_547 : decode cL_isDone 547 = .ok (.goto 4, 3) := by decide +kernel
theorem dL_isDone_550 : decode cL_isDone 550 = .ok (.iconst 0, 1) := by decide +kernel
theorem dL_isDone_551 : decode cL_isDone 551 = .ok (.ireturn, 1) := by decide +kernel
theorem dL_isDone_552 : decode cL_isDone 552 = .ok (.iload_n 3, 1) := by decide +kernel
theorem dL_isDone_553 : decode cL_isDone 553 = .ok (.iconst 5, 1) := by decide +kernel
theorem dL_isDone_554 : decode cL_isDone 554 = .ok (.if_icmp .ne 90, 3) := by decide +kernel
theorem dL_isDone_557 : decode cL_isDone 557 = .ok (.aload_n 0, 1) := by decide +kernel
theorem dL_isDone_558 : decode cL_isDone 558 = .ok (.bipush 13, 2) := by decide +kernel
theorem dL_isDone_560 : decode cL_isDone 560 = .ok (.iload 5, 2) := by decide +kernel
theorem dL_isDone_562 : decode cL_isDone 562 = .ok (.iconst 0, 1) := by decide +kernel
theorem dL_isDone_563 : decode cL_isDone 563 = .ok (.iconst 0, 1) := by decide +kernel
theorem dL_isDone_564 : decode cL_isDone 564 = .ok (.iconst 0, 1) := by decide +kernel
theorem dL_isDone_565 : decode cL_isDone 565 = .ok (.iconst 0, 1) := by decide +kernel
theorem dL_isDone_566 : decode cL_isDone 566 = .ok (.invokestatic 137, 3) := by decide +kernel
theorem dL_isDone_569 : decode cL_isDone 569 = .ok (.istore 9, 2) := by decide +kernel
theorem dL_isDone_571 : decode cL_isDone 571 = .ok (.iload 9, 2) := by decide +kernel
theorem dL_isDone_573 : decode cL_isDone 573 = .ok (.ldc 126, 2) := by decide +kernel
theorem dL_isDone_575 : decode cL_isDone 575 = .ok (.if_icmp .ne 23, 3) := by decide +kernel
theorem dL_isDone_578 : decode cL_isDone 578 = .ok (.aload_n 0, 1) := by decide +kernel
theorem dL_isDone_579 : decode cL_isDone 579 = .ok (.iload 5, 2) := by decide +kernel
theorem dL_isDone_581 : decode cL_isDone 581 = .ok (.iconst 0, 1) := by decide +kernel
theorem dL_isDone_582 : decode cL_isDone 582 = .ok (.invokevirtual 96, 3) := by decide +kernel
theorem dL_isDone_585 : decode cL_isDone 585 = .ok (.iload 7, 2) := by decide +kernel
theorem dL_isDone_587 : decode cL_isDone 587 = .ok (.if_icmp .ne 7, 3) := by decide +kernel
theorem dL_isDone_590 : decode cL_isDone 590 = .ok (.iconst 1, 1) := by decide +kernel
theorem dL_isDone_591 : decode cL_isDone 591 = .ok (.goto 52, 3) := by decide +kernel
theorem dL_isDone_594 : decode cL_isDone 594 = .ok (.iconst 0, 1) := by decide +kernel
theorem dL_isDone_595 : decode cL_isDone 595 = .ok (.goto 48, 3) := by decide +kernel
