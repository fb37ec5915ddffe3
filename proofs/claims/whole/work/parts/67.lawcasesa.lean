/-! PART 67: the law's cases -/
theorem j_inc5 (j : Nat) : nI (5 * j) + 5 = nI (5 * (j + 1)) := by rw [show 5 * (j + 1) = 5 * j + 5 by omega]; exact nI_add (5 * j) 5
theorem lg_cmp_rf (x : Int64) : lg_cmp x x = 0 := by rw [lg_cmp_eq]
theorem dL_law_220 : decode cL_law 220 = .ok (.aload_n 1, 1) := by decide +kernel
theorem dL_law_221 : decode cL_law 221 = .ok (.aload_n 0, 1) := by decide +kernel
theorem dL_law_222 : decode cL_law 222 = .ok (.iload 4, 2) := by decide +kernel
theorem dL_law_224 : decode cL_law 224 = .ok (.iconst 1, 1) := by decide +kernel
theorem dL_law_225 : decode cL_law 225 = .ok (.iadd, 1) := by decide +kernel
theorem dL_law_226 : decode cL_law 226 = .ok (.iaload, 1) := by decide +kernel
theorem dL_law_227 : decode cL_law 227 = .ok (.aload_n 0, 1) := by decide +kernel
theorem dL_law_228 : decode cL_law 228 = .ok (.iload 4, 2) := by decide +kernel
theorem dL_law_230 : decode cL_law 230 = .ok (.iconst 2, 1) := by decide +kernel
theorem dL_law_231 : decode cL_law 231 = .ok (.iadd, 1) := by decide +kernel
theorem dL_law_232 : decode cL_law 232 = .ok (.iaload, 1) := by decide +kernel
theorem dL_law_233 : decode cL_law 233 = .ok (.aload_n 0, 1) := by decide +kernel
theorem dL_law_234 : decode cL_law 234 = .ok (.iload 4, 2) := by decide +kernel
theorem dL_law_236 : decode cL_law 236 = .ok (.iconst 3, 1) := by decide +kernel
theorem dL_law_237 : decode cL_law 237 = .ok (.iadd, 1) := by decide +kernel
theorem dL_law_238 : decode cL_law 238 = .ok (.iaload, 1) := by decide +kernel
theorem dL_law_239 : decode cL_law 239 = .ok (.aload_n 3, 1) := by decide +kernel
theorem dL_law_240 : decode cL_law 240 = .ok (.invokestatic 144, 3) := by decide +kernel
theorem dL_law_243 : decode cL_law 243 = .ok (.istore 5, 2) := by decide +kernel
theorem dL_law_245 : decode cL_law 245 = .ok (.aload_n 2, 1) := by decide +kernel
theorem dL_law_246 : decode cL_law 246 = .ok (.aload_n 0, 1) := by decide +kernel
theorem dL_law_247 : decode cL_law 247 = .ok (.iload 4, 2) := by decide +kernel
theorem dL_law_249 : decode cL_law 249 = .ok (.iconst 1, 1) := by decide +kernel
theorem dL_law_250 : decode cL_law 250 = .ok (.iadd, 1) := by decide +kernel
theorem dL_law_251 : decode cL_law 251 = .ok (.iaload, 1) := by decide +kernel
theorem dL_law_252 : decode cL_law 252 = .ok (.aload_n 0, 1) := by decide +kernel
theorem dL_law_253 : decode cL_law 253 = .ok (.iload 4, 2) := by decide +kernel
theorem dL_law_255 : decode cL_law 255 = .ok (.iconst 2, 1) := by decide +kernel
theorem dL_law_256 : decode cL_law 256 = .ok (.iadd, 1) := by decide +kernel
theorem dL_law_257 : decode cL_law 257 = .ok (.iaload, 1) := by decide +kernel
theorem dL_law_258 : decode cL_law 258 = .ok (.aload_n 0, 1) := by decide +kernel
theorem dL_law_259 : decode cL_law 259 = .ok (.iload 4, 2) := by decide +kernel
theorem dL_law_261 : decode cL_law 261 = .ok (.iconst 3, 1) := by decide +kernel
theorem dL_law_262 : decode cL_law 262 = .ok (.iadd, 1) := by decide +kernel
theorem dL_law_263 : decode cL_law 263 = .ok (.iaload, 1) := by decide +kernel
theorem dL_law_264 : decode cL_law 264 = .ok (.invokevirtual 149, 3) := by decide +kernel
theorem dL_law_267 : decode cL_law 267 = .ok (.istore 6, 2) := by decide +kernel
theorem dL_law_269 : decode cL_law 269 = .ok (.aload_n 2, 1) := by decide +kernel
theorem dL_law_270 : decode cL_law 270 = .ok (.invokevirtual 150, 3) := by decide +kernel
theorem dL_law_273 : decode cL_law 273 = .ok (.iload 5, 2) := by decide +kernel
theorem dL_law_275 : decode cL_law 275 = .ok (.if_icmp .eq 5, 3) := by decide +kernel
theorem dL_law_280 : decode cL_law 280 = .ok (.iload 5, 2) := by decide +kernel
theorem dL_law_282 : decode cL_law 282 = .ok (.ifCond .ne 16, 3) := by decide +kernel
theorem dL_law_285 : decode cL_law 285 = .ok (.aload_n 3, 1) := by decide +kernel
theorem dL_law_286 : decode cL_law 286 = .ok (.getfield 13, 3) := by decide +kernel
theorem dL_law_289 : decode cL_law 289 = .ok (.iload 6, 2) := by decide +kernel
theorem dL_law_291 : decode cL_law 291 = .ok (.i2l, 1) := by decide +kernel
theorem dL_law_292 : decode cL_law 292 = .ok (.lcmp, 1) := by decide +kernel
theorem dL_law_293 : decode cL_law 293 = .ok (.ifCond .eq 5, 3) := by decide +kernel
theorem dL_law_298 : decode cL_law 298 = .ok (.goto 2510, 3) := by decide +kernel
theorem dL_law_301 : decode cL_law 301 = .ok (.aload_n 1, 1) := by decide +kernel
theorem dL_law_302 : decode cL_law 302 = .ok (.aload_n 0, 1) := by decide +kernel
theorem dL_law_303 : decode cL_law 303 = .ok (.iload 4, 2) := by decide +kernel
theorem dL_law_305 : decode cL_law 305 = .ok (.iconst 1, 1) := by decide +kernel
theorem dL_law_306 : decode cL_law 306 = .ok (.iadd, 1) := by decide +kernel
theorem dL_law_307 : decode cL_law 307 = .ok (.iaload, 1) := by decide +kernel
theorem dL_law_308 : decode cL_law 308 = .ok (.aload_n 0, 1) := by decide +kernel
theorem dL_law_309 : decode cL_law 309 = .ok (.iload 4, 2) := by decide +kernel
theorem dL_law_311 : decode cL_law 311 = .ok (.iconst 2, 1) := by decide +kernel
theorem dL_law_312 : decode cL_law 312 = .ok (.iadd, 1) := by decide +kernel
theorem dL_law_313 : decode cL_law 313 = .ok (.iaload, 1) := by decide +kernel
theorem dL_law_314 : decode cL_law 314 = .ok (.aload_n 3, 1) := by decide +kernel
theorem dL_law_315 : decode cL_law 315 = .ok (.invokestatic 154, 3) := by decide +kernel
theorem dL_law_318 : decode cL_law 318 = .ok (.istore 5, 2) := by decide +kernel
theorem dL_law_320 : decode cL_law 320 = .ok (.aload_n 2, 1) := by decide +kernel
theorem dL_law_321 : decode cL_law 321 = .ok (.aload_n 0, 1) := by decide +kernel
theorem dL_law_322 : decode cL_law 322 = .ok (.iload 4, 2) := by decide +kernel
theorem dL_law_324 : decode cL_law 324 = .ok (.iconst 1, 1) := by decide +kernel
theorem dL_law_325 : decode cL_law 325 = .ok (.iadd, 1) := by decide +kernel
theorem dL_law_326 : decode cL_law 326 = .ok (.iaload, 1) := by decide +kernel
theorem dL_law_327 : decode cL_law 327 = .ok (.aload_n 0, 1) := by decide +kernel
theorem dL_law_328 : decode cL_law 328 = .ok (.iload 4, 2) := by decide +kernel
theorem dL_law_330 : decode cL_law 330 = .ok (.iconst 2, 1) := by decide +kernel
theorem dL_law_331 : decode cL_law 331 = .ok (.iadd, 1) := by decide +kernel
theorem dL_law_332 : decode cL_law 332 = .ok (.iaload, 1) := by decide +kernel
theorem dL_law_333 : decode cL_law 333 = .ok (.invokevirtual 157, 3) := by decide +kernel
theorem dL_law_336 : decode cL_law 336 = .ok (.istore 6, 2) := by decide +kernel
theorem dL_law_338 : decode cL_law 338 = .ok (.aload_n 2, 1) := by decide +kernel
theorem dL_law_339 : decode cL_law 339 = .ok (.invokevirtual 150, 3) := by decide +kernel
theorem dL_law_342 : decode cL_law 342 = .ok (.iload 5, 2) := by decide +kernel
theorem dL_law_344 : decode cL_law 344 = .ok (.if_icmp .eq 5, 3) := by decide +kernel
theorem dL_law_349 : decode cL_law 349 = .ok (.iload 5, 2) := by decide +kernel
theorem dL_law_351 : decode cL_law 351 = .ok (.ifCond .ne 16, 3) := by decide +kernel
theorem dL_law_354 : decode cL_law 354 = .ok (.aload_n 3, 1) := by decide +kernel
theorem dL_law_355 : decode cL_law 355 = .ok (.getfield 13, 3) := by decide +kernel
theorem dL_law_358 : decode cL_law 358 = .ok (.iload 6, 2) := by decide +kernel
theorem dL_law_360 : decode cL_law 360 = .ok (.i2l, 1) := by decide +kernel
theorem dL_law_361 : decode cL_law 361 = .ok (.lcmp, 1) := by decide +kernel
theorem dL_law_362 : decode cL_law 362 = .ok (.ifCond .eq 5, 3) := by decide +kernel
theorem dL_law_367 : decode cL_law 367 = .ok (.goto 2441, 3) := by decide +kernel
theorem dL_law_370 : decode cL_law 370 = .ok (.aload_n 1, 1) := by decide +kernel
theorem dL_law_371 : decode cL_law 371 = .ok (.aload_n 0, 1) := by decide +kernel
theorem dL_law_372 : decode cL_law 372 = .ok (.iload 4, 2) := by decide +kernel
theorem dL_law_374 : decode cL_law 374 = .ok (.iconst 1, 1) := by decide +kernel
theorem dL_law_375 : decode cL_law 375 = .ok (.iadd, 1) := by decide +kernel
theorem dL_law_376 : decode cL_law 376 = .ok (.iaload, 1) := by decide +kernel
theorem dL_law_377 : decode cL_law 377 = .ok (.aload_n 0, 1) := by decide +kernel
theorem dL_law_378 : decode cL_law 378 = .ok (.iload 4, 2) := by decide +kernel
theorem dL_law_380 : decode cL_law 380 = .ok (.iconst 2, 1) := by decide +kernel
theorem dL_law_381 : decode cL_law 381 = .ok (.iadd, 1) := by decide +kernel
theorem dL_law_382 : decode cL_law 382 = .ok (.iaload, 1) := by decide +kernel
theorem dL_law_383 : decode cL_law 383 = .ok (.aload_n 3, 1) := by decide +kernel
theorem dL_law_384 : decode cL_law 384 = .ok (.invokestatic 158, 3) := by decide +kernel
theorem dL_law_387 : decode cL_law 387 = .ok (.istore 5, 2) := by decide +kernel
theorem dL_law_389 : decode cL_law 389 = .ok (.aload_n 2, 1) := by decide +kernel
theorem dL_law_390 : decode cL_law 390 = .ok (.aload_n 0, 1) := by decide +kernel
theorem dL_law_391 : decode cL_law 391 = .ok (.iload 4, 2) := by decide +kernel
theorem dL_law_393 : decode cL_law 393 = .ok (.iconst 1, 1) := by decide +kernel
theorem dL_law_394 : decode cL_law 394 = .ok (.iadd, 1) := by decide +kernel
theorem dL_law_395 : decode cL_law 395 = .ok (.iaload, 1) := by decide +kernel
theorem dL_law_396 : decode cL_law 396 = .ok (.aload_n 0, 1) := by decide +kernel
theorem dL_law_397 : decode cL_law 397 = .ok (.iload 4, 2) := by decide +kernel
theorem dL_law_399 : decode cL_law 399 = .ok (.iconst 2, 1) := by decide +kernel
theorem dL_law_400 : decode cL_law 400 = .ok (.iadd, 1) := by decide +kernel
theorem dL_law_401 : decode cL_law 401 = .ok (.iaload, 1) := by decide +kernel
theorem dL_law_402 : decode cL_law 402 = .ok (.invokevirtual 160, 3) := by decide +kernel
theorem dL_law_405 : decode cL_law 405 = .ok (.istore 6, 2) := by decide +kernel
theorem dL_law_407 : decode cL_law 407 = .ok (.aload_n 2, 1) := by decide +kernel
theorem dL_law_408 : decode cL_law 408 = .ok (.invokevirtual 150, 3) := by decide +kernel
theorem dL_law_411 : decode cL_law 411 = .ok (.iload 5, 2) := by decide +kernel
theorem dL_law_413 : decode cL_law 413 = .ok (.if_icmp .eq 5, 3) := by decide +kernel
theorem dL_law_418 : decode cL_law 418 = .ok (.iload 5, 2) := by decide +kernel
theorem dL_law_420 : decode cL_law 420 = .ok (.ifCond .ne 16, 3) := by decide +kernel
theorem dL_law_423 : decode cL_law 423 = .ok (.aload_n 3, 1) := by decide +kernel
theorem dL_law_424 : decode cL_law 424 = .ok (.getfield 13, 3) := by decide +kernel
theorem dL_law_427 : decode cL_law 427 = .ok (.iload 6, 2) := by decide +kernel
theorem dL_law_429 : decode cL_law 429 = .ok (.i2l, 1) := by decide +kernel
theorem dL_law_430 : decode cL_law 430 = .ok (.lcmp, 1) := by decide +kernel
theorem dL_law_431 : decode cL_law 431 = .ok (.ifCond .eq 5, 3) := by decide +kernel
theorem dL_law_436 : decode cL_law 436 = .ok (.goto 2372, 3) := by decide +kernel
theorem dL_law_439 : decode cL_law 439 = .ok (.aload_n 1, 1) := by decide +kernel
theorem dL_law_440 : decode cL_law 440 = .ok (.aload_n 0, 1) := by decide +kernel
theorem dL_law_441 : decode cL_law 441 = .ok (.iload 4, 2) := by decide +kernel
theorem dL_law_443 : decode cL_law 443 = .ok (.iconst 1, 1) := by decide +kernel
theorem dL_law_444 : decode cL_law 444 = .ok (.iadd, 1) := by decide +kernel
theorem dL_law_445 : decode cL_law 445 = .ok (.iaload, 1) := by decide +kernel
theorem dL_law_446 : decode cL_law 446 = .ok (.aload_n 0, 1) := by decide +kernel
theorem dL_law_447 : decode cL_law 447 = .ok (.iload 4, 2) := by decide +kernel
theorem dL_law_449 : decode cL_law 449 = .ok (.iconst 2, 1) := by decide +kernel
theorem dL_law_450 : decode cL_law 450 = .ok (.iadd, 1) := by decide +kernel
theorem dL_law_451 : decode cL_law 451 = .ok (.iaload, 1) := by decide +kernel
theorem dL_law_452 : decode cL_law 452 = .ok (.aload_n 3, 1) := by decide +kernel
theorem dL_law_453 : decode cL_law 453 = .ok (.invokestatic 161, 3) := by decide +kernel
theorem dL_law_456 : decode cL_law 456 = .ok (.istore 5, 2) := by decide +kernel
theorem dL_law_458 : decode cL_law 458 = .ok (.aload_n 2, 1) := by decide +kernel
theorem dL_law_459 : decode cL_law 459 = .ok (.aload_n 0, 1) := by decide +kernel
theorem dL_law_460 : decode cL_law 460 = .ok (.iload 4, 2) := by decide +kernel
theorem dL_law_462 : decode cL_law 462 = .ok (.iconst 1, 1) := by decide +kernel
theorem dL_law_463 : decode cL_law 463 = .ok (.iadd, 1) := by decide +kernel
theorem dL_law_464 : decode cL_law 464 = .ok (.iaload, 1) := by decide +kernel
theorem dL_law_465 : decode cL_law 465 = .ok (.aload_n 0, 1) := by decide +kernel
theorem dL_law_466 : decode cL_law 466 = .ok (.iload 4, 2) := by decide +kernel
theorem dL_law_468 : decode cL_law 468 = .ok (.iconst 2, 1) := by decide +kernel
theorem dL_law_469 : decode cL_law 469 = .ok (.iadd, 1) := by decide +kernel
theorem dL_law_470 : decode cL_law 470 = .ok (.iaload, 1) := by decide +kernel
theorem dL_law_471 : decode cL_law 471 = .ok (.invokevirtual 163, 3) := by decide +kernel
theorem dL_law_474 : decode cL_law 474 = .ok (.istore 6, 2) := by decide +kernel
theorem dL_law_476 : decode cL_law 476 = .ok (.aload_n 2, 1) := by decide +kernel
theorem dL_law_477 : decode cL_law 477 = .ok (.invokevirtual 150, 3) := by decide +kernel
theorem dL_law_480 : decode cL_law 480 = .ok (.iload 5, 2) := by decide +kernel
theorem dL_law_482 : decode cL_law 482 = .ok (.if_icmp .eq 5, 3) := by decide +kernel
theorem dL_law_487 : decode cL_law 487 = .ok (.iload 5, 2) := by decide +kernel
theorem dL_law_489 : decode cL_law 489 = .ok (.ifCond .ne 16, 3) := by decide +kernel
theorem dL_law_492 : decode cL_law 492 = .ok (.aload_n 3, 1) := by decide +kernel
theorem dL_law_493 : decode cL_law 493 = .ok (.getfield 13, 3) := by decide +kernel
theorem dL_law_496 : decode cL_law 496 = .ok (.iload 6, 2) := by decide +kernel
theorem dL_law_498 : decode cL_law 498 = .ok (.i2l, 1) := by decide +kernel
theorem dL_law_499 : decode cL_law 499 = .ok (.lcmp, 1) := by decide +kernel
theorem dL_law_500 : decode cL_law 500 = .ok (.ifCond .eq 5, 3) := by decide +kernel
theorem dL_law_505 : decode cL_law 505 = .ok (.goto 2303, 3) := by decide +kernel
theorem dL_law_508 : decode cL_law 508 = .ok (.aload_n 1, 1) := by decide +kernel
theorem dL_law_509 : decode cL_law 509 = .ok (.aload_n 0, 1) := by decide +kernel
theorem dL_law_510 : decode cL_law 510 = .ok (.iload 4, 2) := by decide +kernel
theorem dL_law_512 : decode cL_law 512 = .ok (.iconst 1, 1) := by decide +kernel
theorem dL_law_513 : decode cL_law 513 = .ok (.iadd, 1) := by decide +kernel
theorem dL_law_514 : decode cL_law 514 = .ok (.iaload, 1) := by decide +kernel
theorem dL_law_515 : decode cL_law 515 = .ok (.aload_n 0, 1) := by decide +kernel
theorem dL_law_516 : decode cL_law 516 = .ok (.iload 4, 2) := by decide +kernel
theorem dL_law_518 : decode cL_law 518 = .ok (.iconst 2, 1) := by decide +kernel
theorem dL_law_519 : decode cL_law 519 = .ok (.iadd, 1) := by decide +kernel
theorem dL_law_520 : decode cL_law 520 = .ok (.iaload, 1) := by decide +kernel
theorem dL_law_521 : decode cL_law 521 = .ok (.aload_n 0, 1) := by decide +kernel
theorem dL_law_522 : decode cL_law 522 = .ok (.iload 4, 2) := by decide +kernel
theorem dL_law_524 : decode cL_law 524 = .ok (.iconst 3, 1) := by decide +kernel
theorem dL_law_525 : decode cL_law 525 = .ok (.iadd, 1) := by decide +kernel
theorem dL_law_526 : decode cL_law 526 = .ok (.iaload, 1) := by decide +kernel
theorem dL_law_527 : decode cL_law 527 = .ok (.aload_n 0, 1) := by decide +kernel
theorem dL_law_528 : decode cL_law 528 = .ok (.iload 4, 2) := by decide +kernel
theorem dL_law_530 : decode cL_law 530 = .ok (.iconst 4, 1) := by decide +kernel
theorem dL_law_531 : decode cL_law 531 = .ok (.iadd, 1) := by decide +kernel
theorem dL_law_532 : decode cL_law 532 = .ok (.iaload, 1) := by decide +kernel
theorem dL_law_533 : decode cL_law 533 = .ok (.aload_n 3, 1) := by decide +kernel
theorem dL_law_534 : decode cL_law 534 = .ok (.invokestatic 164, 3) := by decide +kernel
theorem dL_law_537 : decode cL_law 537 = .ok (.istore 5, 2) := by decide +kernel
theorem dL_law_539 : decode cL_law 539 = .ok (.aload_n 2, 1) := by decide +kernel
theorem dL_law_540 : decode cL_law 540 = .ok (.aload_n 0, 1) := by decide +kernel
theorem dL_law_541 : decode cL_law 541 = .ok (.iload 4, 2) := by decide +kernel
theorem dL_law_543 : decode cL_law 543 = .ok (.iconst 1, 1) := by decide +kernel
theorem dL_law_544 : decode cL_law 544 = .ok (.iadd, 1) := by decide +kernel
theorem dL_law_545 : decode cL_law 545 = .ok (.iaload, 1) := by decide +kernel
theorem dL_law_546 : decode cL_law 546 = .ok (.aload_n 0, 1) := by decide +kernel
theorem dL_law_547 : decode cL_law 547 = .ok (.iload 4, 2) := by decide +kernel
theorem dL_law_549 : decode cL_law 549 = .ok (.iconst 2, 1) := by decide +kernel
theorem dL_law_550 : decode cL_law 550 = .ok (.iadd, 1) := by decide +kernel
theorem dL_law_551 : decode cL_law 551 = .ok (.iaload, 1) := by decide +kernel
theorem dL_law_552 : decode cL_law 552 = .ok (.aload_n 0, 1) := by decide +kernel
theorem dL_law_553 : decode cL_law 553 = .ok (.iload 4, 2) := by decide +kernel
theorem dL_law_555 : decode cL_law 555 = .ok (.iconst 3, 1) := by decide +kernel
theorem dL_law_556 : decode cL_law 556 = .ok (.iadd, 1) := by decide +kernel
theorem dL_law_557 : decode cL_law 557 = .ok (.iaload, 1) := by decide +kernel
theorem dL_law_558 : decode cL_law 558 = .ok (.aload_n 0, 1) := by decide +kernel
theorem dL_law_559 : decode cL_law 559 = .ok (.iload 4, 2) := by decide +kernel
theorem dL_law_561 : decode cL_law 561 = .ok (.iconst 4, 1) := by decide +kernel
theorem dL_law_562 : decode cL_law 562 = .ok (.iadd, 1) := by decide +kernel
theorem dL_law_563 : decode cL_law 563 = .ok (.iaload, 1) := by decide +kernel
theorem dL_law_564 : decode cL_law 564 = .ok (.invokevirtual 167, 3) := by decide +kernel
theorem dL_law_567 : decode cL_law 567 = .ok (.istore 6, 2) := by decide +kernel
theorem dL_law_569 : decode cL_law 569 = .ok (.aload_n 2, 1) := by decide +kernel
theorem dL_law_570 : decode cL_law 570 = .ok (.invokevirtual 150, 3) := by decide +kernel
theorem dL_law_573 : decode cL_law 573 = .ok (.iload 5, 2) := by decide +kernel
theorem dL_law_575 : decode cL_law 575 = .ok (.if_icmp .eq 5, 3) := by decide +kernel
theorem dL_law_580 : decode cL_law 580 = .ok (.iload 5, 2) := by decide +kernel
theorem dL_law_582 : decode cL_law 582 = .ok (.ifCond .ne 16, 3) := by decide +kernel
theorem dL_law_585 : decode cL_law 585 = .ok (.aload_n 3, 1) := by decide +kernel
theorem dL_law_586 : decode cL_law 586 = .ok (.getfield 13, 3) := by decide +kernel
theorem dL_law_589 : decode cL_law 589 = .ok (.iload 6, 2) := by decide +kernel
theorem dL_law_591 : decode cL_law 591 = .ok (.i2l, 1) := by decide +kernel
theorem dL_law_592 : decode cL_law 592 = .ok (.lcmp, 1) := by decide +kernel
theorem dL_law_593 : decode cL_law 593 = .ok (.ifCond .eq 5, 3) := by decide +kernel
theorem dL_law_598 : decode cL_law 598 = .ok (.goto 2210, 3) := by decide +kernel
theorem dL_law_601 : decode cL_law 601 = .ok (.aload_n 1, 1) := by decide +kernel
theorem dL_law_602 : decode cL_law 602 = .ok (.aload_n 0, 1) := by decide +kernel
theorem dL_law_603 : decode cL_law 603 = .ok (.iload 4, 2) := by decide +kernel
theorem dL_law_605 : decode cL_law 605 = .ok (.iconst 1, 1) := by decide +kernel
theorem dL_law_606 : decode cL_law 606 = .ok (.iadd, 1) := by decide +kernel
theorem dL_law_607 : decode cL_law 607 = .ok (.iaload, 1) := by decide +kernel
theorem dL_law_608 : decode cL_law 608 = .ok (.aload_n 0, 1) := by decide +kernel
theorem dL_law_609 : decode cL_law 609 = .ok (.iload 4, 2) := by decide +kernel
theorem dL_law_611 : decode cL_law 611 = .ok (.iconst 2, 1) := by decide +kernel
theorem dL_law_612 : decode cL_law 612 = .ok (.iadd, 1) := by decide +kernel
theorem dL_law_613 : decode cL_law 613 = .ok (.iaload, 1) := by decide +kernel
theorem dL_law_614 : decode cL_law 614 = .ok (.aload_n 3, 1) := by decide +kernel
theorem dL_law_615 : decode cL_law 615 = .ok (.invokestatic 168, 3) := by decide +kernel
theorem dL_law_618 : decode cL_law 618 = .ok (.istore 5, 2) := by decide +kernel
theorem dL_law_620 : decode cL_law 620 = .ok (.aload_n 2, 1) := by decide +kernel
theorem dL_law_621 : decode cL_law 621 = .ok (.aload_n 0, 1) := by decide +kernel
theorem dL_law_622 : decode cL_law 622 = .ok (.iload 4, 2) := by decide +kernel
theorem dL_law_624 : decode cL_law 624 = .ok (.iconst 1, 1) := by decide +kernel
theorem dL_law_625 : decode cL_law 625 = .ok (.iadd, 1) := by decide +kernel
theorem dL_law_626 : decode cL_law 626 = .ok (.iaload, 1) := by decide +kernel
theorem dL_law_627 : decode cL_law 627 = .ok (.aload_n 0, 1) := by decide +kernel
theorem dL_law_628 : decode cL_law 628 = .ok (.iload 4, 2) := by decide +kernel
theorem dL_law_630 : decode cL_law 630 = .ok (.iconst 2, 1) := by decide +kernel
theorem dL_law_631 : decode cL_law 631 = .ok (.iadd, 1) := by decide +kernel
theorem dL_law_632 : decode cL_law 632 = .ok (.iaload, 1) := by decide +kernel
theorem dL_law_633 : decode cL_law 633 = .ok (.invokevirtual 170, 3) := by decide +kernel
theorem dL_law_636 : decode cL_law 636 = .ok (.istore 6, 2) := by decide +kernel
theorem dL_law_638 : decode cL_law 638 = .ok (.aload_n 2, 1) := by decide +kernel
theorem dL_law_639 : decode cL_law 639 = .ok (.invokevirtual 150, 3) := by decide +kernel
theorem dL_law_642 : decode cL_law 642 = .ok (.iload 5, 2) := by decide +kernel
theorem dL_law_644 : decode cL_law 644 = .ok (.if_icmp .eq 5, 3) := by decide +kernel
theorem dL_law_649 : decode cL_law 649 = .ok (.iload 5, 2) := by decide +kernel
theorem dL_law_651 : decode cL_law 651 = .ok (.ifCond .ne 16, 3) := by decide +kernel
theorem dL_law_654 : decode cL_law 654 = .ok (.aload_n 3, 1) := by decide +kernel
theorem dL_law_655 : decode cL_law 655 = .ok (.getfield 13, 3) := by decide +kernel
theorem dL_law_658 : decode cL_law 658 = .ok (.iload 6, 2) := by decide +kernel
theorem dL_law_660 : decode cL_law 660 = .ok (.i2l, 1) := by decide +kernel
theorem dL_law_661 : decode cL_law 661 = .ok (.lcmp, 1) := by decide +kernel
theorem dL_law_662 : decode cL_law 662 = .ok (.ifCond .eq 5, 3) := by decide +kernel
theorem dL_law_667 : decode cL_law 667 = .ok (.goto 2141, 3) := by decide +kernel
theorem dL_law_670 : decode cL_law 670 = .ok (.aload_n 1, 1) := by decide +kernel
theorem dL_law_671 : decode cL_law 671 = .ok (.aload_n 0, 1) := by decide +kernel
theorem dL_law_672 : decode cL_law 672 = .ok (.iload 4, 2) := by decide +kernel
theorem dL_law_674 : decode cL_law 674 = .ok (.iconst 1, 1) := by decide +kernel
theorem dL_law_675 : decode cL_law 675 = .ok (.iadd, 1) := by decide +kernel
theorem dL_law_676 : decode cL_law 676 = .ok (.iaload, 1) := by decide +kernel
theorem dL_law_677 : decode cL_law 677 = .ok (.aload_n 0, 1) := by decide +kernel
theorem dL_law_678 : decode cL_law 678 = .ok (.iload 4, 2) := by decide +kernel
theorem dL_law_680 : decode cL_law 680 = .ok (.iconst 2, 1) := by decide +kernel
theorem dL_law_681 : decode cL_law 681 = .ok (.iadd, 1) := by decide +kernel
theorem dL_law_682 : decode cL_law 682 = .ok (.iaload, 1) := by decide +kernel
theorem dL_law_683 : decode cL_law 683 = .ok (.aload_n 3, 1) := by decide +kernel
theorem dL_law_684 : decode cL_law 684 = .ok (.invokestatic 171, 3) := by decide +kernel
theorem dL_law_687 : decode cL_law 687 = .ok (.istore 5, 2) := by decide +kernel
theorem dL_law_689 : decode cL_law 689 = .ok (.aload_n 2, 1) := by decide +kernel
theorem dL_law_690 : decode cL_law 690 = .ok (.aload_n 0, 1) := by decide +kernel
theorem dL_law_691 : decode cL_law 691 = .ok (.iload 4, 2) := by decide +kernel
theorem dL_law_693 : decode cL_law 693 = .ok (.iconst 1, 1) := by decide +kernel
theorem dL_law_694 : decode cL_law 694 = .ok (.iadd, 1) := by decide +kernel
theorem dL_law_695 : decode cL_law 695 = .ok (.iaload, 1) := by decide +kernel
theorem dL_law_696 : decode cL_law 696 = .ok (.aload_n 0, 1) := by decide +kernel
theorem dL_law_697 : decode cL_law 697 = .ok (.iload 4, 2) := by decide +kernel
theorem dL_law_699 : decode cL_law 699 = .ok (.iconst 2, 1) := by decide +kernel
theorem dL_law_700 : decode cL_law 700 = .ok (.iadd, 1) := by decide +kernel
theorem dL_law_701 : decode cL_law 701 = .ok (.iaload, 1) := by decide +kernel
theorem dL_law_702 : decode cL_law 702 = .ok (.invokevirtual 173, 3) := by decide +kernel
theorem dL_law_705 : decode cL_law 705 = .ok (.istore 6, 2) := by decide +kernel
theorem dL_law_707 : decode cL_law 707 = .ok (.aload_n 2, 1) := by decide +kernel
theorem dL_law_708 : decode cL_law 708 = .ok (.invokevirtual 150, 3) := by decide +kernel
theorem dL_law_711 : decode cL_law 711 = .ok (.iload 5, 2) := by decide +kernel
theorem dL_law_713 : decode cL_law 713 = .ok (.if_icmp .eq 5, 3) := by decide +kernel
theorem dL_law_718 : decode cL_law 718 = .ok (.iload 5, 2) := by decide +kernel
theorem dL_law_720 : decode cL_law 720 = .ok (.ifCond .ne 16, 3) := by decide +kernel
theorem dL_law_723 : decode cL_law 723 = .ok (.aload_n 3, 1) := by decide +kernel
theorem dL_law_724 : decode cL_law 724 = .ok (.getfield 13, 3) := by decide +kernel
theorem dL_law_727 : decode cL_law 727 = .ok (.iload 6, 2) := by decide +kernel
theorem dL_law_729 : decode cL_law 729 = .ok (.i2l, 1) := by decide +kernel
theorem dL_law_730 : decode cL_law 730 = .ok (.lcmp, 1) := by decide +kernel
theorem dL_law_731 : decode cL_law 731 = .ok (.ifCond .eq 5, 3) := by decide +kernel
theorem dL_law_736 : decode cL_law 736 = .ok (.goto 2072, 3) := by decide +kernel
theorem dL_law_739 : decode cL_law 739 = .ok (.aload_n 1, 1) := by decide +kernel
theorem dL_law_740 : decode cL_law 740 = .ok (.aload_n 0, 1) := by decide +kernel
theorem dL_law_741 : decode cL_law 741 = .ok (.iload 4, 2) := by decide +kernel
theorem dL_law_743 : decode cL_law 743 = .ok (.iconst 1, 1) := by decide +kernel
theorem dL_law_744 : decode cL_law 744 = .ok (.iadd, 1) := by decide +kernel
theorem dL_law_745 : decode cL_law 745 = .ok (.iaload, 1) := by decide +kernel
theorem dL_law_746 : decode cL_law 746 = .ok (.aload_n 0, 1) := by decide +kernel
theorem dL_law_747 : decode cL_law 747 = .ok (.iload 4, 2) := by decide +kernel
theorem dL_law_749 : decode cL_law 749 = .ok (.iconst 2, 1) := by decide +kernel
theorem dL_law_750 : decode cL_law 750 = .ok (.iadd, 1) := by decide +kernel
theorem dL_law_751 : decode cL_law 751 = .ok (.iaload, 1) := by decide +kernel
theorem dL_law_752 : decode cL_law 752 = .ok (.aload_n 3, 1) := by decide +kernel
theorem dL_law_753 : decode cL_law 753 = .ok (.invokestatic 174, 3) := by decide +kernel
theorem dL_law_756 : decode cL_law 756 = .ok (.istore 5, 2) := by decide +kernel
theorem dL_law_758 : decode cL_law 758 = .ok (.aload_n 2, 1) := by decide +kernel
theorem dL_law_759 : decode cL_law 759 = .ok (.aload_n 0, 1) := by decide +kernel
theorem dL_law_760 : decode cL_law 760 = .ok (.iload 4, 2) := by decide +kernel
theorem dL_law_762 : decode cL_law 762 = .ok (.iconst 1, 1) := by decide +kernel
theorem dL_law_763 : decode cL_law 763 = .ok (.iadd, 1) := by decide +kernel
theorem dL_law_764 : decode cL_law 764 = .ok (.iaload, 1) := by decide +kernel
theorem dL_law_765 : decode cL_law 765 = .ok (.aload_n 0, 1) := by decide +kernel
theorem dL_law_766 : decode cL_law 766 = .ok (.iload 4, 2) := by decide +kernel
theorem dL_law_768 : decode cL_law 768 = .ok (.iconst 2, 1) := by decide +kernel
theorem dL_law_769 : decode cL_law 769 = .ok (.iadd, 1) := by decide +kernel
theorem dL_law_770 : decode cL_law 770 = .ok (.iaload, 1) := by decide +kernel
theorem dL_law_771 : decode cL_law 771 = .ok (.invokevirtual 176, 3) := by decide +kernel
theorem dL_law_774 : decode cL_law 774 = .ok (.istore 6, 2) := by decide +kernel
theorem dL_law_776 : decode cL_law 776 = .ok (.aload_n 2, 1) := by decide +kernel
theorem dL_law_777 : decode cL_law 777 = .ok (.invokevirtual 150, 3) := by decide +kernel
theorem dL_law_780 : decode cL_law 780 = .ok (.iload 5, 2) := by decide +kernel
theorem dL_law_782 : decode cL_law 782 = .ok (.if_icmp .eq 5, 3) := by decide +kernel
theorem dL_law_787 : decode cL_law 787 = .ok (.iload 5, 2) := by decide +kernel
theorem dL_law_789 : decode cL_law 789 = .ok (.ifCond .ne 16, 3) := by decide +kernel
theorem dL_law_792 : decode cL_law 792 = .ok (.aload_n 3, 1) := by decide +kernel
theorem dL_law_793 : decode cL_law 793 = .ok (.getfield 13, 3) := by decide +kernel
theorem dL_law_796 : decode cL_law 796 = .ok (.iload 6, 2) := by decide +kernel
theorem dL_law_798 : decode cL_law 798 = .ok (.i2l, 1) := by decide +kernel
theorem dL_law_799 : decode cL_law 799 = .ok (.lcmp, 1) := by decide +kernel
theorem dL_law_800 : decode cL_law 800 = .ok (.ifCond .eq 5, 3) := by decide +kernel
theorem dL_law_805 : decode cL_law 805 = .ok (.goto 2003, 3) := by decide +kernel
theorem dL_law_808 : decode cL_law 808 = .ok (.aload_n 1, 1) := by decide +kernel
theorem dL_law_809 : decode cL_law 809 = .ok (.aload_n 0, 1) := by decide +kernel
theorem dL_law_810 : decode cL_law 810 = .ok (.iload 4, 2) := by decide +kernel
theorem dL_law_812 : decode cL_law 812 = .ok (.iconst 1, 1) := by decide +kernel
theorem dL_law_813 : decode cL_law 813 = .ok (.iadd, 1) := by decide +kernel
theorem dL_law_814 : decode cL_law 814 = .ok (.iaload, 1) := by decide +kernel
theorem dL_law_815 : decode cL_law 815 = .ok (.aload_n 0, 1) := by decide +kernel
theorem dL_law_816 : decode cL_law 816 = .ok (.iload 4, 2) := by decide +kernel
theorem dL_law_818 : decode cL_law 818 = .ok (.iconst 2, 1) := by decide +kernel
theorem dL_law_819 : decode cL_law 819 = .ok (.iadd, 1) := by decide +kernel
theorem dL_law_820 : decode cL_law 820 = .ok (.iaload, 1) := by decide +kernel
theorem dL_law_821 : decode cL_law 821 = .ok (.aload_n 3, 1) := by decide +kernel
theorem dL_law_822 : decode cL_law 822 = .ok (.invokestatic 177, 3) := by decide +kernel
theorem dL_law_825 : decode cL_law 825 = .ok (.istore 5, 2) := by decide +kernel
theorem dL_law_827 : decode cL_law 827 = .ok (.aload_n 2, 1) := by decide +kernel
theorem dL_law_828 : decode cL_law 828 = .ok (.aload_n 0, 1) := by decide +kernel
theorem dL_law_829 : decode cL_law 829 = .ok (.iload 4, 2) := by decide +kernel
theorem dL_law_831 : decode cL_law 831 = .ok (.iconst 1, 1) := by decide +kernel
theorem dL_law_832 : decode cL_law 832 = .ok (.iadd, 1) := by decide +kernel
theorem dL_law_833 : decode cL_law 833 = .ok (.iaload, 1) := by decide +kernel
theorem dL_law_834 : decode cL_law 834 = .ok (.aload_n 0, 1) := by decide +kernel
theorem dL_law_835 : decode cL_law 835 = .ok (.iload 4, 2) := by decide +kernel
theorem dL_law_837 : decode cL_law 837 = .ok (.iconst 2, 1) := by decide +kernel
theorem dL_law_838 : decode cL_law 838 = .ok (.iadd, 1) := by decide +kernel
theorem dL_law_839 : decode cL_law 839 = .ok (.iaload, 1) := by decide +kernel
theorem dL_law_840 : decode cL_law 840 = .ok (.invokevirtual 179, 3) := by decide +kernel
theorem dL_law_843 : decode cL_law 843 = .ok (.istore 6, 2) := by decide +kernel
theorem dL_law_845 : decode cL_law 845 = .ok (.aload_n 2, 1) := by decide +kernel
theorem dL_law_846 : decode cL_law 846 = .ok (.invokevirtual 150, 3) := by decide +kernel
theorem dL_law_849 : decode cL_law 849 = .ok (.iload 5, 2) := by decide +kernel
theorem dL_law_851 : decode cL_law 851 = .ok (.if_icmp .eq 5, 3) := by decide +kernel
theorem dL_law_856 : decode cL_law 856 = .ok (.iload 5, 2) := by decide +kernel
theorem dL_law_858 : decode cL_law 858 = .ok (.ifCond .ne 16, 3) := by decide +kernel
theorem dL_law_861 : decode cL_law 861 = .ok (.aload_n 3, 1) := by decide +kernel
theorem dL_law_862 : decode cL_law 862 = .ok (.getfield 13, 3) := by decide +kernel
theorem dL_law_865 : decode cL_law 865 = .ok (.iload 6, 2) := by decide +kernel
theorem dL_law_867 : decode cL_law 867 = .ok (.i2l, 1) := by decide +kernel
theorem dL_law_868 : decode cL_law 868 = .ok (.lcmp, 1) := by decide +kernel
theorem dL_law_869 : decode cL_law 869 = .ok (.ifCond .eq 5, 3) := by decide +kernel
theorem dL_law_874 : decode cL_law 874 = .ok (.goto 1934, 3) := by decide +kernel
theorem dL_law_877 : decode cL_law 877 = .ok (.aload_n 1, 1) := by decide +kernel
theorem dL_law_878 : decode cL_law 878 = .ok (.aload_n 0, 1) := by decide +kernel
theorem dL_law_879 : decode cL_law 879 = .ok (.iload 4, 2) := by decide +kernel
theorem dL_law_881 : decode cL_law 881 = .ok (.iconst 1, 1) := by decide +kernel
theorem dL_law_882 : decode cL_law 882 = .ok (.iadd, 1) := by decide +kernel
theorem dL_law_883 : decode cL_law 883 = .ok (.iaload, 1) := by decide +kernel
theorem dL_law_884 : decode cL_law 884 = .ok (.aload_n 0, 1) := by decide +kernel
theorem dL_law_885 : decode cL_law 885 = .ok (.iload 4, 2) := by decide +kernel
theorem dL_law_887 : decode cL_law 887 = .ok (.iconst 2, 1) := by decide +kernel
theorem dL_law_888 : decode cL_law 888 = .ok (.iadd, 1) := by decide +kernel
theorem dL_law_889 : decode cL_law 889 = .ok (.iaload, 1) := by decide +kernel
theorem dL_law_890 : decode cL_law 890 = .ok (.aload_n 3, 1) := by decide +kernel
theorem dL_law_891 : decode cL_law 891 = .ok (.invokestatic 180, 3) := by decide +kernel
theorem dL_law_894 : decode cL_law 894 = .ok (.istore 5, 2) := by decide +kernel
theorem dL_law_896 : decode cL_law 896 = .ok (.aload_n 2, 1) := by decide +kernel
theorem dL_law_897 : decode cL_law 897 = .ok (.aload_n 0, 1) := by decide +kernel
theorem dL_law_898 : decode cL_law 898 = .ok (.iload 4, 2) := by decide +kernel
theorem dL_law_900 : decode cL_law 900 = .ok (.iconst 1, 1) := by decide +kernel
theorem dL_law_901 : decode cL_law 901 = .ok (.iadd, 1) := by decide +kernel
theorem dL_law_902 : decode cL_law 902 = .ok (.iaload, 1) := by decide +kernel
theorem dL_law_903 : decode cL_law 903 = .ok (.aload_n 0, 1) := by decide +kernel
theorem dL_law_904 : decode cL_law 904 = .ok (.iload 4, 2) := by decide +kernel
theorem dL_law_906 : decode cL_law 906 = .ok (.iconst 2, 1) := by decide +kernel
theorem dL_law_907 : decode cL_law 907 = .ok (.iadd, 1) := by decide +kernel
theorem dL_law_908 : decode cL_law 908 = .ok (.iaload, 1) := by decide +kernel
theorem dL_law_909 : decode cL_law 909 = .ok (.invokevirtual 182, 3) := by decide +kernel
theorem dL_law_912 : decode cL_law 912 = .ok (.istore 6, 2) := by decide +kernel
theorem dL_law_914 : decode cL_law 914 = .ok (.aload_n 2, 1) := by decide +kernel
theorem dL_law_915 : decode cL_law 915 = .ok (.invokevirtual 150, 3) := by decide +kernel
theorem dL_law_918 : decode cL_law 918 = .ok (.iload 5, 2) := by decide +kernel
theorem dL_law_920 : decode cL_law 920 = .ok (.if_icmp .eq 5, 3) := by decide +kernel
theorem dL_law_925 : decode cL_law 925 = .ok (.iload 5, 2) := by decide +kernel
theorem dL_law_927 : decode cL_law 927 = .ok (.ifCond .ne 16, 3) := by decide +kernel
theorem dL_law_930 : decode cL_law 930 = .ok (.aload_n 3, 1) := by decide +kernel
theorem dL_law_931 : decode cL_law 931 = .ok (.getfield 13, 3) := by decide +kernel
theorem dL_law_934 : decode cL_law 934 = .ok (.iload 6, 2) := by decide +kernel
theorem dL_law_936 : decode cL_law 936 = .ok (.i2l, 1) := by decide +kernel
theorem dL_law_937 : decode cL_law 937 = .ok (.lcmp, 1) := by decide +kernel
theorem dL_law_938 : decode cL_law 938 = .ok (.ifCond .eq 5, 3) := by decide +kernel
theorem dL_law_943 : decode cL_law 943 = .ok (.goto 1865, 3) := by decide +kernel
theorem dL_law_946 : decode cL_law 946 = .ok (.aload_n 1, 1) := by decide +kernel
theorem dL_law_947 : decode cL_law 947 = .ok (.aload_n 0, 1) := by decide +kernel
theorem dL_law_948 : decode cL_law 948 = .ok (.iload 4, 2) := by decide +kernel
theorem dL_law_950 : decode cL_law 950 = .ok (.iconst 1, 1) := by decide +kernel
theorem dL_law_951 : decode cL_law 951 = .ok (.iadd, 1) := by decide +kernel
theorem dL_law_952 : decode cL_law 952 = .ok (.iaload, 1) := by decide +kernel
theorem dL_law_953 : decode cL_law 953 = .ok (.aload_n 0, 1) := by decide +kernel
theorem dL_law_954 : decode cL_law 954 = .ok (.iload 4, 2) := by decide +kernel
theorem dL_law_956 : decode cL_law 956 = .ok (.iconst 2, 1) := by decide +kernel
theorem dL_law_957 : decode cL_law 957 = .ok (.iadd, 1) := by decide +kernel
theorem dL_law_958 : decode cL_law 958 = .ok (.iaload, 1) := by decide +kernel
theorem dL_law_959 : decode cL_law 959 = .ok (.aload_n 3, 1) := by decide +kernel
theorem dL_law_960 : decode cL_law 960 = .ok (.invokestatic 183, 3) := by decide +kernel
theorem dL_law_963 : decode cL_law 963 = .ok (.istore 5, 2) := by decide +kernel
theorem dL_law_965 : decode cL_law 965 = .ok (.aload_n 2, 1) := by decide +kernel
theorem dL_law_966 : decode cL_law 966 = .ok (.aload_n 0, 1) := by decide +kernel
theorem dL_law_967 : decode cL_law 967 = .ok (.iload 4, 2) := by decide +kernel
theorem dL_law_969 : decode cL_law 969 = .ok (.iconst 1, 1) := by decide +kernel
theorem dL_law_970 : decode cL_law 970 = .ok (.iadd, 1) := by decide +kernel
theorem dL_law_971 : decode cL_law 971 = .ok (.iaload, 1) := by decide +kernel
theorem dL_law_972 : decode cL_law 972 = .ok (.aload_n 0, 1) := by decide +kernel
theorem dL_law_973 : decode cL_law 973 = .ok (.iload 4, 2) := by decide +kernel
theorem dL_law_975 : decode cL_law 975 = .ok (.iconst 2, 1) := by decide +kernel
theorem dL_law_976 : decode cL_law 976 = .ok (.iadd, 1) := by decide +kernel
theorem dL_law_977 : decode cL_law 977 = .ok (.iaload, 1) := by decide +kernel
theorem dL_law_978 : decode cL_law 978 = .ok (.invokevirtual 185, 3) := by decide +kernel
theorem dL_law_981 : decode cL_law 981 = .ok (.istore 6, 2) := by decide +kernel
theorem dL_law_983 : decode cL_law 983 = .ok (.aload_n 2, 1) := by decide +kernel
theorem dL_law_984 : decode cL_law 984 = .ok (.invokevirtual 150, 3) := by decide +kernel
theorem dL_law_987 : decode cL_law 987 = .ok (.iload 5, 2) := by decide +kernel
theorem dL_law_989 : decode cL_law 989 = .ok (.if_icmp .eq 5, 3) := by decide +kernel
theorem dL_law_994 : decode cL_law 994 = .ok (.iload 5, 2) := by decide +kernel
theorem dL_law_996 : decode cL_law 996 = .ok (.ifCond .ne 16, 3) := by decide +kernel
theorem dL_law_999 : decode cL_law 999 = .ok (.aload_n 3, 1) := by decide +kernel
theorem dL_law_1000 : decode cL_law 1000 = .ok (.getfield 13, 3) := by decide +kernel
theorem dL_law_1003 : decode cL_law 1003 = .ok (.iload 6, 2) := by decide +kernel
theorem dL_law_1005 : decode cL_law 1005 = .ok (.i2l, 1) := by decide +kernel
theorem dL_law_1006 : decode cL_law 1006 = .ok (.lcmp, 1) := by decide +kernel
theorem dL_law_1007 : decode cL_law 1007 = .ok (.ifCond .eq 5, 3) := by decide +kernel
theorem dL_law_1012 : decode cL_law 1012 = .ok (.goto 1796, 3) := by decide +kernel
theorem dL_law_2808 : decode cL_law 2808 = .ok (.iinc 4 5, 3) := by decide +kernel
theorem dL_law_2811 : decode cL_law 2811 = .ok (.goto (-2784), 3) := by decide +kernel
set_option maxRecDepth 20000 in
theorem lc_wrap {X : zX} (C : z_C X cL_law RL 7 room_1) (h_st : (z_l X).stackTraces = false) {b L : Nat} {xs : Nat → Int32} (hX : va_X b L xs (z_s X) (z_s X).heap) (hbl : b < (z_s X).heap.size) (hbA : ¬ z_F X b) {jx : Nat} {a1 a2 a3 a4 : Int32} (hs1 : vp_in (nI (5 * jx) + 1) L ∧ xs (nI (5 * jx) + 1).toNatClampNeg = a1) (hs2 : vp_in (nI (5 * jx) + 2) L ∧ xs (nI (5 * jx) + 2).toNatClampNeg = a2) (hs3 : vp_in (nI (5 * jx) + 3) L ∧ xs (nI (5 * jx) + 3).toNatClampNeg = a3) (hs4 : vp_in (nI (5 * jx) + 4) L ∧ xs (nI (5 * jx) + 4).toNatClampNeg = a4) {u : sS} {x pa sp ln rf sb m pn td ou : Nat} {th : Int32} {on : Int64} {Mw : zM} (hI : s_LX (z_G X) x pa sp ln rf sb m pn td ou u u th on Mw) (hok : s_ok jx u) (hj : jx < 64) {kq nq : Nat} (hkq : kq + 4000 ≤ 600128) (hnq : nq + 60000 ≤ 7301098) (kk : ∀ v th on Mz, s_LX (z_G X) x pa sp ln rf sb m pn td ou v v th on Mz → s_ok (jx + 1) v → z_W X Mz (kq + 4000) (nq + 60000) 27 [(4, .int (nI (5 * (jx + 1)))), (0, .ref b), (1, .ref x), (2, .ref m), (3, .ref ou)] []) : z_W X Mw kq nq 220 [(4, .int (nI (5 * jx))), (0, .ref b), (1, .ref x), (2, .ref m), (3, .ref ou)] [] := by
  refine z_aload_n C dL_law_220 rfl 2 rfl ?_
  refine z_aload_n C dL_law_221 rfl 1 rfl ?_
  refine z_iload C dL_law_222 0 rfl ?_
  refine z_iconst C (v := 1) dL_law_224 (by decide) ?_
  refine z_iadd C dL_law_225 ?_
  refine z_sld C hX hbl hbA hs1.1 hs1.2 dL_law_226 ?_
  refine z_aload_n C dL_law_227 rfl 1 rfl ?_
  refine z_iload C dL_law_228 0 rfl ?_
  refine z_iconst C (v := 2) dL_law_230 (by decide) ?_
  refine z_iadd C dL_law_231 ?_
  refine z_sld C hX hbl hbA hs2.1 hs2.2 dL_law_232 ?_
  refine z_aload_n C dL_law_233 rfl 1 rfl ?_
  refine z_iload C dL_law_234 0 rfl ?_
  refine z_iconst C (v := 3) dL_law_236 (by decide) ?_
  refine z_iadd C dL_law_237 ?_
  refine z_sld C hX hbl hbA hs3.1 hs3.2 dL_law_238 ?_
  refine z_aload_n C dL_law_239 rfl 4 rfl ?_
  refine z_callHi (rest := []) (k' := kq + 8) (n' := nq + 48) C (s_LX_P hI (fun hC9 hd9 ho9 => w_wrap (z_l X) h_st hC9 hd9 ho9 hok a1 a2 a3)) (ch_wrap C ⟨Nat.le_of_ble_eq_true rfl, Nat.le_of_ble_eq_true rfl⟩) rfl rfl (Nat.le_of_ble_eq_true rfl) rfl rfl (by show _ ≤ 600128; omega) (by show _ ≤ 7301098; omega) dL_law_240 (fun xk M1 hq => ?_)
  obtain ⟨hk1, on1, hI1, ho1⟩ := hq
  refine z_istore (lv' := [(5, .int xk), (4, .int (nI (5 * jx))), (0, .ref b), (1, .ref x), (2, .ref m), (3, .ref ou)]) C dL_law_243 (by decide) rfl ?_
  refine z_aload_n C dL_law_245 rfl 4 rfl ?_
  refine z_aload_n C dL_law_246 rfl 2 rfl ?_
  refine z_iload C dL_law_247 1 rfl ?_
  refine z_iconst C (v := 1) dL_law_249 (by decide) ?_
  refine z_iadd C dL_law_250 ?_
  refine z_sld C hX hbl hbA hs1.1 hs1.2 dL_law_251 ?_
  refine z_aload_n C dL_law_252 rfl 2 rfl ?_
  refine z_iload C dL_law_253 1 rfl ?_
  refine z_iconst C (v := 2) dL_law_255 (by decide) ?_
  refine z_iadd C dL_law_256 ?_
  refine z_sld C hX hbl hbA hs2.1 hs2.2 dL_law_257 ?_
  refine z_aload_n C dL_law_258 rfl 2 rfl ?_
  refine z_iload C dL_law_259 1 rfl ?_
  refine z_iconst C (v := 3) dL_law_261 (by decide) ?_
  refine z_iadd C dL_law_262 ?_
  refine z_sld C hX hbl hbA hs3.1 hs3.2 dL_law_263 ?_
  obtain ⟨tp9, hm9⟩ := s_LX_m hI1
  refine z_callVi (rest := []) (k' := kq + 8 + 1) (n' := nq + 48 + 8) C (s_LX_R hI1 (fun hR9 => a_X5_wrap (z_l X) hR9 hok (by omega) a1 a2 a3)) (cs_L_149 C ⟨Nat.le_of_ble_eq_true rfl, Nat.le_of_ble_eq_true rfl⟩) hm9 rfl rfl rfl rfl (Nat.le_of_ble_eq_true rfl) rfl rfl (by show _ ≤ 600128; omega) (by show _ ≤ 7301098; omega) dL_law_264 (fun xr M2 hq => ?_)
  obtain ⟨hI2, hr2⟩ := hq
  obtain ⟨tp8, hm8⟩ := s_LX_m hI2
  obtain ⟨os8, hou8⟩ := s_LX_ou hI2
  refine z_istore (lv' := [(6, .int xr), (5, .int xk), (4, .int (nI (5 * jx))), (0, .ref b), (1, .ref x), (2, .ref m), (3, .ref ou)]) C dL_law_267 (by decide) rfl ?_
  refine z_aload_n C dL_law_269 rfl 5 rfl ?_
  refine z_callVi (rest := []) (k' := kq + 8 + 1) (n' := nq + 48 + 8) C (c_X5_thrown (z_l X) (z_G X) hm8) (cs_L_150 C ⟨Nat.le_of_ble_eq_true rfl, Nat.le_of_ble_eq_true rfl⟩) hm8 rfl rfl rfl rfl (Nat.le_of_ble_eq_true rfl) rfl rfl (by show _ ≤ 600128; omega) (by show _ ≤ 7301098; omega) dL_law_270 (fun x3 M3 hq => ?_)
  obtain ⟨e3, rfl⟩ := hq
  rw [e3]
  refine z_iload C dL_law_273 1 rfl ?_
  refine z_icmp_eq C (tgt := 280) dL_law_275 (by decide) (fun _ => ?_) (fun c275 => absurd hk1.symm c275)
  refine z_iload C dL_law_280 1 rfl ?_
  refine z_if_ne C (tgt := 298) dL_law_282 (by decide) (fun c282 => ?_) (fun c282 => ?_)
  · refine z_goto C (tgt := 2808) dL_law_298 (by decide) ?_
    refine z_iinc (v := nI (5 * (jx + 1))) (lv' := [(4, .int (nI (5 * (jx + 1)))), (6, .int xr), (5, .int xk), (0, .ref b), (1, .ref x), (2, .ref m), (3, .ref ou)]) C dL_law_2808 2 rfl (j_inc5 jx) (by decide) rfl ?_
    refine z_goto C (tgt := 27) dL_law_2811 (by decide) ?_
    refine z_fewer [0, 3, 4, 5, 6] rfl ?_
    refine z_widen (k' := kq + 4000) (n' := nq + 60000) (by omega) (by omega) ?_
    exact kk _ _ _ _ hI2 (so_wrap hok)
  · refine z_aload_n C dL_law_285 rfl 6 rfl ?_
    refine gf_L_13 C hou8 dL_law_286 ?_
    refine z_iload C dL_law_289 0 rfl ?_
    refine z_i2l C dL_law_291 ?_
    refine z_lcmp C dL_law_292 ?_
    refine z_if_eq C (tgt := 298) dL_law_293 (by decide) (fun _ => ?_) (fun c293 => absurd (by rw [ho1 (hk1.symm.trans c282), hr2 (hk1.symm.trans c282)]; exact lg_cmp_rf _) c293)
    refine z_goto C (tgt := 2808) dL_law_298 (by decide) ?_
    refine z_iinc (v := nI (5 * (jx + 1))) (lv' := [(4, .int (nI (5 * (jx + 1)))), (6, .int xr), (5, .int xk), (0, .ref b), (1, .ref x), (2, .ref m), (3, .ref ou)]) C dL_law_2808 2 rfl (j_inc5 jx) (by decide) rfl ?_
    refine z_goto C (tgt := 27) dL_law_2811 (by decide) ?_
    refine z_fewer [0, 3, 4, 5, 6] rfl ?_
    refine z_widen (k' := kq + 4000) (n' := nq + 60000) (by omega) (by omega) ?_
    exact kk _ _ _ _ hI2 (so_wrap hok)
set_option maxRecDepth 20000 in
theorem lc_fresh {X : zX} (C : z_C X cL_law RL 7 room_1) (h_st : (z_l X).stackTraces = false) {b L : Nat} {xs : Nat → Int32} (hX : va_X b L xs (z_s X) (z_s X).heap) (hbl : b < (z_s X).heap.size) (hbA : ¬ z_F X b) {jx : Nat} {a1 a2 a3 a4 : Int32} (hs1 : vp_in (nI (5 * jx) + 1) L ∧ xs (nI (5 * jx) + 1).toNatClampNeg = a1) (hs2 : vp_in (nI (5 * jx) + 2) L ∧ xs (nI (5 * jx) + 2).toNatClampNeg = a2) (hs3 : vp_in (nI (5 * jx) + 3) L ∧ xs (nI (5 * jx) + 3).toNatClampNeg = a3) (hs4 : vp_in (nI (5 * jx) + 4) L ∧ xs (nI (5 * jx) + 4).toNatClampNeg = a4) {u : sS} {x pa sp ln rf sb m pn td ou : Nat} {th : Int32} {on : Int64} {Mw : zM} (hI : s_LX (z_G X) x pa sp ln rf sb m pn td ou u u th on Mw) (hok : s_ok jx u) (hj : jx < 64) {kq nq : Nat} (hkq : kq + 4000 ≤ 600128) (hnq : nq + 60000 ≤ 7301098) (kk : ∀ v th on Mz, s_LX (z_G X) x pa sp ln rf sb m pn td ou v v th on Mz → s_ok (jx + 1) v → z_W X Mz (kq + 4000) (nq + 60000) 27 [(4, .int (nI (5 * (jx + 1)))), (0, .ref b), (1, .ref x), (2, .ref m), (3, .ref ou)] []) : z_W X Mw kq nq 301 [(4, .int (nI (5 * jx))), (0, .ref b), (1, .ref x), (2, .ref m), (3, .ref ou)] [] := by
  refine z_aload_n C dL_law_301 rfl 2 rfl ?_
  refine z_aload_n C dL_law_302 rfl 1 rfl ?_
  refine z_iload C dL_law_303 0 rfl ?_
  refine z_iconst C (v := 1) dL_law_305 (by decide) ?_
  refine z_iadd C dL_law_306 ?_
  refine z_sld C hX hbl hbA hs1.1 hs1.2 dL_law_307 ?_
  refine z_aload_n C dL_law_308 rfl 1 rfl ?_
  refine z_iload C dL_law_309 0 rfl ?_
  refine z_iconst C (v := 2) dL_law_311 (by decide) ?_
  refine z_iadd C dL_law_312 ?_
  refine z_sld C hX hbl hbA hs2.1 hs2.2 dL_law_313 ?_
  refine z_aload_n C dL_law_314 rfl 4 rfl ?_
  refine z_callHi (rest := []) (k' := kq + 8) (n' := nq + 48) C (s_LX_P hI (fun hC9 hd9 ho9 => w_fresh (z_l X) h_st hC9 hd9 ho9 hok a1 a2)) (ch_fresh C ⟨Nat.le_of_ble_eq_true rfl, Nat.le_of_ble_eq_true rfl⟩) rfl rfl (Nat.le_of_ble_eq_true rfl) rfl rfl (by show _ ≤ 600128; omega) (by show _ ≤ 7301098; omega) dL_law_315 (fun xk M1 hq => ?_)
  obtain ⟨hk1, on1, hI1, ho1⟩ := hq
  refine z_istore (lv' := [(5, .int xk), (4, .int (nI (5 * jx))), (0, .ref b), (1, .ref x), (2, .ref m), (3, .ref ou)]) C dL_law_318 (by decide) rfl ?_
  refine z_aload_n C dL_law_320 rfl 4 rfl ?_
  refine z_aload_n C dL_law_321 rfl 2 rfl ?_
  refine z_iload C dL_law_322 1 rfl ?_
  refine z_iconst C (v := 1) dL_law_324 (by decide) ?_
  refine z_iadd C dL_law_325 ?_
  refine z_sld C hX hbl hbA hs1.1 hs1.2 dL_law_326 ?_
  refine z_aload_n C dL_law_327 rfl 2 rfl ?_
  refine z_iload C dL_law_328 1 rfl ?_
  refine z_iconst C (v := 2) dL_law_330 (by decide) ?_
  refine z_iadd C dL_law_331 ?_
  refine z_sld C hX hbl hbA hs2.1 hs2.2 dL_law_332 ?_
  obtain ⟨tp9, hm9⟩ := s_LX_m hI1
  refine z_callVi (rest := []) (k' := kq + 8 + 2) (n' := nq + 48 + 1000) C (s_LX_R hI1 (fun hR9 => a_X5_fresh (z_l X) hR9 hok (by omega) a1 a2)) (cs_L_157 C ⟨Nat.le_of_ble_eq_true rfl, Nat.le_of_ble_eq_true rfl⟩) hm9 rfl rfl rfl rfl (Nat.le_of_ble_eq_true rfl) rfl rfl (by show _ ≤ 600128; omega) (by show _ ≤ 7301098; omega) dL_law_333 (fun xr M2 hq => ?_)
  obtain ⟨hI2, hr2⟩ := hq
  obtain ⟨tp8, hm8⟩ := s_LX_m hI2
  obtain ⟨os8, hou8⟩ := s_LX_ou hI2
  refine z_istore (lv' := [(6, .int xr), (5, .int xk), (4, .int (nI (5 * jx))), (0, .ref b), (1, .ref x), (2, .ref m), (3, .ref ou)]) C dL_law_336 (by decide) rfl ?_
  refine z_aload_n C dL_law_338 rfl 5 rfl ?_
  refine z_callVi (rest := []) (k' := kq + 8 + 2) (n' := nq + 48 + 1000) C (c_X5_thrown (z_l X) (z_G X) hm8) (cs_L_150 C ⟨Nat.le_of_ble_eq_true rfl, Nat.le_of_ble_eq_true rfl⟩) hm8 rfl rfl rfl rfl (Nat.le_of_ble_eq_true rfl) rfl rfl (by show _ ≤ 600128; omega) (by show _ ≤ 7301098; omega) dL_law_339 (fun x3 M3 hq => ?_)
  obtain ⟨e3, rfl⟩ := hq
  rw [e3]
  refine z_iload C dL_law_342 1 rfl ?_
  refine z_icmp_eq C (tgt := 349) dL_law_344 (by decide) (fun _ => ?_) (fun c344 => absurd hk1.symm c344)
  refine z_iload C dL_law_349 1 rfl ?_
  refine z_if_ne C (tgt := 367) dL_law_351 (by decide) (fun c351 => ?_) (fun c351 => ?_)
  · refine z_goto C (tgt := 2808) dL_law_367 (by decide) ?_
    refine z_iinc (v := nI (5 * (jx + 1))) (lv' := [(4, .int (nI (5 * (jx + 1)))), (6, .int xr), (5, .int xk), (0, .ref b), (1, .ref x), (2, .ref m), (3, .ref ou)]) C dL_law_2808 2 rfl (j_inc5 jx) (by decide) rfl ?_
    refine z_goto C (tgt := 27) dL_law_2811 (by decide) ?_
    refine z_fewer [0, 3, 4, 5, 6] rfl ?_
    refine z_widen (k' := kq + 4000) (n' := nq + 60000) (by omega) (by omega) ?_
    exact kk _ _ _ _ hI2 (so_fresh hok)
  · refine z_aload_n C dL_law_354 rfl 6 rfl ?_
    refine gf_L_13 C hou8 dL_law_355 ?_
    refine z_iload C dL_law_358 0 rfl ?_
    refine z_i2l C dL_law_360 ?_
    refine z_lcmp C dL_law_361 ?_
    refine z_if_eq C (tgt := 367) dL_law_362 (by decide) (fun _ => ?_) (fun c362 => absurd (by rw [ho1 (hk1.symm.trans c351), hr2 (hk1.symm.trans c351)]; exact lg_cmp_rf _) c362)
    refine z_goto C (tgt := 2808) dL_law_367 (by decide) ?_
    refine z_iinc (v := nI (5 * (jx + 1))) (lv' := [(4, .int (nI (5 * (jx + 1)))), (6, .int xr), (5, .int xk), (0, .ref b), (1, .ref x), (2, .ref m), (3, .ref ou)]) C dL_law_2808 2 rfl (j_inc5 jx) (by decide) rfl ?_
    refine z_goto C (tgt := 27) dL_law_2811 (by decide) ?_
    refine z_fewer [0, 3, 4, 5, 6] rfl ?_
    refine z_widen (k' := kq + 4000) (n' := nq + 60000) (by omega) (by omega) ?_
    exact kk _ _ _ _ hI2 (so_fresh hok)
set_option maxRecDepth 20000 in
theorem lc_twin {X : zX} (C : z_C X cL_law RL 7 room_1) (h_st : (z_l X).stackTraces = false) {b L : Nat} {xs : Nat → Int32} (hX : va_X b L xs (z_s X) (z_s X).heap) (hbl : b < (z_s X).heap.size) (hbA : ¬ z_F X b) {jx : Nat} {a1 a2 a3 a4 : Int32} (hs1 : vp_in (nI (5 * jx) + 1) L ∧ xs (nI (5 * jx) + 1).toNatClampNeg = a1) (hs2 : vp_in (nI (5 * jx) + 2) L ∧ xs (nI (5 * jx) + 2).toNatClampNeg = a2) (hs3 : vp_in (nI (5 * jx) + 3) L ∧ xs (nI (5 * jx) + 3).toNatClampNeg = a3) (hs4 : vp_in (nI (5 * jx) + 4) L ∧ xs (nI (5 * jx) + 4).toNatClampNeg = a4) {u : sS} {x pa sp ln rf sb m pn td ou : Nat} {th : Int32} {on : Int64} {Mw : zM} (hI : s_LX (z_G X) x pa sp ln rf sb m pn td ou u u th on Mw) (hok : s_ok jx u) (hj : jx < 64) {kq nq : Nat} (hkq : kq + 4000 ≤ 600128) (hnq : nq + 60000 ≤ 7301098) (kk : ∀ v th on Mz, s_LX (z_G X) x pa sp ln rf sb m pn td ou v v th on Mz → s_ok (jx + 1) v → z_W X Mz (kq + 4000) (nq + 60000) 27 [(4, .int (nI (5 * (jx + 1)))), (0, .ref b), (1, .ref x), (2, .ref m), (3, .ref ou)] []) : z_W X Mw kq nq 370 [(4, .int (nI (5 * jx))), (0, .ref b), (1, .ref x), (2, .ref m), (3, .ref ou)] [] := by
  refine z_aload_n C dL_law_370 rfl 2 rfl ?_
  refine z_aload_n C dL_law_371 rfl 1 rfl ?_
  refine z_iload C dL_law_372 0 rfl ?_
  refine z_iconst C (v := 1) dL_law_374 (by decide) ?_
  refine z_iadd C dL_law_375 ?_
  refine z_sld C hX hbl hbA hs1.1 hs1.2 dL_law_376 ?_
  refine z_aload_n C dL_law_377 rfl 1 rfl ?_
  refine z_iload C dL_law_378 0 rfl ?_
  refine z_iconst C (v := 2) dL_law_380 (by decide) ?_
  refine z_iadd C dL_law_381 ?_
  refine z_sld C hX hbl hbA hs2.1 hs2.2 dL_law_382 ?_
  refine z_aload_n C dL_law_383 rfl 4 rfl ?_
  refine z_callHi (rest := []) (k' := kq + 8) (n' := nq + 48) C (s_LX_P hI (fun hC9 hd9 ho9 => w_twin (z_l X) h_st hC9 hd9 ho9 hok a1 a2)) (ch_twin C ⟨Nat.le_of_ble_eq_true rfl, Nat.le_of_ble_eq_true rfl⟩) rfl rfl (Nat.le_of_ble_eq_true rfl) rfl rfl (by show _ ≤ 600128; omega) (by show _ ≤ 7301098; omega) dL_law_384 (fun xk M1 hq => ?_)
  obtain ⟨hk1, on1, hI1, ho1⟩ := hq
  refine z_istore (lv' := [(5, .int xk), (4, .int (nI (5 * jx))), (0, .ref b), (1, .ref x), (2, .ref m), (3, .ref ou)]) C dL_law_387 (by decide) rfl ?_
  refine z_aload_n C dL_law_389 rfl 4 rfl ?_
  refine z_aload_n C dL_law_390 rfl 2 rfl ?_
  refine z_iload C dL_law_391 1 rfl ?_
  refine z_iconst C (v := 1) dL_law_393 (by decide) ?_
  refine z_iadd C dL_law_394 ?_
  refine z_sld C hX hbl hbA hs1.1 hs1.2 dL_law_395 ?_
  refine z_aload_n C dL_law_396 rfl 2 rfl ?_
  refine z_iload C dL_law_397 1 rfl ?_
  refine z_iconst C (v := 2) dL_law_399 (by decide) ?_
  refine z_iadd C dL_law_400 ?_
  refine z_sld C hX hbl hbA hs2.1 hs2.2 dL_law_401 ?_
  obtain ⟨tp9, hm9⟩ := s_LX_m hI1
  refine z_callVi (rest := []) (k' := kq + 8 + 1) (n' := nq + 48 + 8) C (s_LX_R hI1 (fun hR9 => a_X5_twin (z_l X) hR9 hok (by omega) a1 a2)) (cs_L_160 C ⟨Nat.le_of_ble_eq_true rfl, Nat.le_of_ble_eq_true rfl⟩) hm9 rfl rfl rfl rfl (Nat.le_of_ble_eq_true rfl) rfl rfl (by show _ ≤ 600128; omega) (by show _ ≤ 7301098; omega) dL_law_402 (fun xr M2 hq => ?_)
  obtain ⟨hI2, hr2⟩ := hq
  obtain ⟨tp8, hm8⟩ := s_LX_m hI2
  obtain ⟨os8, hou8⟩ := s_LX_ou hI2
  refine z_istore (lv' := [(6, .int xr), (5, .int xk), (4, .int (nI (5 * jx))), (0, .ref b), (1, .ref x), (2, .ref m), (3, .ref ou)]) C dL_law_405 (by decide) rfl ?_
  refine z_aload_n C dL_law_407 rfl 5 rfl ?_
  refine z_callVi (rest := []) (k' := kq + 8 + 1) (n' := nq + 48 + 8) C (c_X5_thrown (z_l X) (z_G X) hm8) (cs_L_150 C ⟨Nat.le_of_ble_eq_true rfl, Nat.le_of_ble_eq_true rfl⟩) hm8 rfl rfl rfl rfl (Nat.le_of_ble_eq_true rfl) rfl rfl (by show _ ≤ 600128; omega) (by show _ ≤ 7301098; omega) dL_law_408 (fun x3 M3 hq => ?_)
  obtain ⟨e3, rfl⟩ := hq
  rw [e3]
  refine z_iload C dL_law_411 1 rfl ?_
  refine z_icmp_eq C (tgt := 418) dL_law_413 (by decide) (fun _ => ?_) (fun c413 => absurd hk1.symm c413)
  refine z_iload C dL_law_418 1 rfl ?_
  refine z_if_ne C (tgt := 436) dL_law_420 (by decide) (fun c420 => ?_) (fun c420 => ?_)
  · refine z_goto C (tgt := 2808) dL_law_436 (by decide) ?_
    refine z_iinc (v := nI (5 * (jx + 1))) (lv' := [(4, .int (nI (5 * (jx + 1)))), (6, .int xr), (5, .int xk), (0, .ref b), (1, .ref x), (2, .ref m), (3, .ref ou)]) C dL_law_2808 2 rfl (j_inc5 jx) (by decide) rfl ?_
    refine z_goto C (tgt := 27) dL_law_2811 (by decide) ?_
    refine z_fewer [0, 3, 4, 5, 6] rfl ?_
    refine z_widen (k' := kq + 4000) (n' := nq + 60000) (by omega) (by omega) ?_
    exact kk _ _ _ _ hI2 (so_twin hok)
  · refine z_aload_n C dL_law_423 rfl 6 rfl ?_
    refine gf_L_13 C hou8 dL_law_424 ?_
    refine z_iload C dL_law_427 0 rfl ?_
    refine z_i2l C dL_law_429 ?_
    refine z_lcmp C dL_law_430 ?_
    refine z_if_eq C (tgt := 436) dL_law_431 (by decide) (fun _ => ?_) (fun c431 => absurd (by rw [ho1 (hk1.symm.trans c420), hr2 (hk1.symm.trans c420)]; exact lg_cmp_rf _) c431)
    refine z_goto C (tgt := 2808) dL_law_436 (by decide) ?_
    refine z_iinc (v := nI (5 * (jx + 1))) (lv' := [(4, .int (nI (5 * (jx + 1)))), (6, .int xr), (5, .int xk), (0, .ref b), (1, .ref x), (2, .ref m), (3, .ref ou)]) C dL_law_2808 2 rfl (j_inc5 jx) (by decide) rfl ?_
    refine z_goto C (tgt := 27) dL_law_2811 (by decide) ?_
    refine z_fewer [0, 3, 4, 5, 6] rfl ?_
    refine z_widen (k' := kq + 4000) (n' := nq + 60000) (by omega) (by omega) ?_
    exact kk _ _ _ _ hI2 (so_twin hok)
set_option maxRecDepth 20000 in
theorem lc_rest {X : zX} (C : z_C X cL_law RL 7 room_1) (h_st : (z_l X).stackTraces = false) {b L : Nat} {xs : Nat → Int32} (hX : va_X b L xs (z_s X) (z_s X).heap) (hbl : b < (z_s X).heap.size) (hbA : ¬ z_F X b) {jx : Nat} {a1 a2 a3 a4 : Int32} (hs1 : vp_in (nI (5 * jx) + 1) L ∧ xs (nI (5 * jx) + 1).toNatClampNeg = a1) (hs2 : vp_in (nI (5 * jx) + 2) L ∧ xs (nI (5 * jx) + 2).toNatClampNeg = a2) (hs3 : vp_in (nI (5 * jx) + 3) L ∧ xs (nI (5 * jx) + 3).toNatClampNeg = a3) (hs4 : vp_in (nI (5 * jx) + 4) L ∧ xs (nI (5 * jx) + 4).toNatClampNeg = a4) {u : sS} {x pa sp ln rf sb m pn td ou : Nat} {th : Int32} {on : Int64} {Mw : zM} (hI : s_LX (z_G X) x pa sp ln rf sb m pn td ou u u th on Mw) (hok : s_ok jx u) (hj : jx < 64) {kq nq : Nat} (hkq : kq + 4000 ≤ 600128) (hnq : nq + 60000 ≤ 7301098) (kk : ∀ v th on Mz, s_LX (z_G X) x pa sp ln rf sb m pn td ou v v th on Mz → s_ok (jx + 1) v → z_W X Mz (kq + 4000) (nq + 60000) 27 [(4, .int (nI (5 * (jx + 1)))), (0, .ref b), (1, .ref x), (2, .ref m), (3, .ref ou)] []) : z_W X Mw kq nq 439 [(4, .int (nI (5 * jx))), (0, .ref b), (1, .ref x), (2, .ref m), (3, .ref ou)] [] := by
  refine z_aload_n C dL_law_439 rfl 2 rfl ?_
  refine z_aload_n C dL_law_440 rfl 1 rfl ?_
  refine z_iload C dL_law_441 0 rfl ?_
  refine z_iconst C (v := 1) dL_law_443 (by decide) ?_
  refine z_iadd C dL_law_444 ?_
  refine z_sld C hX hbl hbA hs1.1 hs1.2 dL_law_445 ?_
  refine z_aload_n C dL_law_446 rfl 1 rfl ?_
  refine z_iload C dL_law_447 0 rfl ?_
  refine z_iconst C (v := 2) dL_law_449 (by decide) ?_
  refine z_iadd C dL_law_450 ?_
  refine z_sld C hX hbl hbA hs2.1 hs2.2 dL_law_451 ?_
  refine z_aload_n C dL_law_452 rfl 4 rfl ?_
  refine z_callHi (rest := []) (k' := kq + 8) (n' := nq + 48) C (s_LX_P hI (fun hC9 hd9 ho9 => w_rest (z_l X) h_st hC9 hd9 ho9 hok a1 a2)) (ch_rest C ⟨Nat.le_of_ble_eq_true rfl, Nat.le_of_ble_eq_true rfl⟩) rfl rfl (Nat.le_of_ble_eq_true rfl) rfl rfl (by show _ ≤ 600128; omega) (by show _ ≤ 7301098; omega) dL_law_453 (fun xk M1 hq => ?_)
  obtain ⟨hk1, on1, hI1, ho1⟩ := hq
  refine z_istore (lv' := [(5, .int xk), (4, .int (nI (5 * jx))), (0, .ref b), (1, .ref x), (2, .ref m), (3, .ref ou)]) C dL_law_456 (by decide) rfl ?_
  refine z_aload_n C dL_law_458 rfl 4 rfl ?_
  refine z_aload_n C dL_law_459 rfl 2 rfl ?_
  refine z_iload C dL_law_460 1 rfl ?_
  refine z_iconst C (v := 1) dL_law_462 (by decide) ?_
  refine z_iadd C dL_law_463 ?_
  refine z_sld C hX hbl hbA hs1.1 hs1.2 dL_law_464 ?_
  refine z_aload_n C dL_law_465 rfl 2 rfl ?_
  refine z_iload C dL_law_466 1 rfl ?_
  refine z_iconst C (v := 2) dL_law_468 (by decide) ?_
  refine z_iadd C dL_law_469 ?_
  refine z_sld C hX hbl hbA hs2.1 hs2.2 dL_law_470 ?_
  obtain ⟨tp9, hm9⟩ := s_LX_m hI1
  refine z_callVi (rest := []) (k' := kq + 8 + 1) (n' := nq + 48 + 8) C (s_LX_R hI1 (fun hR9 => a_X5_rest (z_l X) hR9 hok (by omega) a1 a2)) (cs_L_163 C ⟨Nat.le_of_ble_eq_true rfl, Nat.le_of_ble_eq_true rfl⟩) hm9 rfl rfl rfl rfl (Nat.le_of_ble_eq_true rfl) rfl rfl (by show _ ≤ 600128; omega) (by show _ ≤ 7301098; omega) dL_law_471 (fun xr M2 hq => ?_)
  obtain ⟨hI2, hr2⟩ := hq
  obtain ⟨tp8, hm8⟩ := s_LX_m hI2
  obtain ⟨os8, hou8⟩ := s_LX_ou hI2
  refine z_istore (lv' := [(6, .int xr), (5, .int xk), (4, .int (nI (5 * jx))), (0, .ref b), (1, .ref x), (2, .ref m), (3, .ref ou)]) C dL_law_474 (by decide) rfl ?_
  refine z_aload_n C dL_law_476 rfl 5 rfl ?_
  refine z_callVi (rest := []) (k' := kq + 8 + 1) (n' := nq + 48 + 8) C (c_X5_thrown (z_l X) (z_G X) hm8) (cs_L_150 C ⟨Nat.le_of_ble_eq_true rfl, Nat.le_of_ble_eq_true rfl⟩) hm8 rfl rfl rfl rfl (Nat.le_of_ble_eq_true rfl) rfl rfl (by show _ ≤ 600128; omega) (by show _ ≤ 7301098; omega) dL_law_477 (fun x3 M3 hq => ?_)
  obtain ⟨e3, rfl⟩ := hq
  rw [e3]
  refine z_iload C dL_law_480 1 rfl ?_
  refine z_icmp_eq C (tgt := 487) dL_law_482 (by decide) (fun _ => ?_) (fun c482 => absurd hk1.symm c482)
  refine z_iload C dL_law_487 1 rfl ?_
  refine z_if_ne C (tgt := 505) dL_law_489 (by decide) (fun c489 => ?_) (fun c489 => ?_)
  · refine z_goto C (tgt := 2808) dL_law_505 (by decide) ?_
    refine z_iinc (v := nI (5 * (jx + 1))) (lv' := [(4, .int (nI (5 * (jx + 1)))), (6, .int xr), (5, .int xk), (0, .ref b), (1, .ref x), (2, .ref m), (3, .ref ou)]) C dL_law_2808 2 rfl (j_inc5 jx) (by decide) rfl ?_
    refine z_goto C (tgt := 27) dL_law_2811 (by decide) ?_
    refine z_fewer [0, 3, 4, 5, 6] rfl ?_
    refine z_widen (k' := kq + 4000) (n' := nq + 60000) (by omega) (by omega) ?_
    exact kk _ _ _ _ hI2 (so_rest hok)
  · refine z_aload_n C dL_law_492 rfl 6 rfl ?_
    refine gf_L_13 C hou8 dL_law_493 ?_
    refine z_iload C dL_law_496 0 rfl ?_
    refine z_i2l C dL_law_498 ?_
    refine z_lcmp C dL_law_499 ?_
    refine z_if_eq C (tgt := 505) dL_law_500 (by decide) (fun _ => ?_) (fun c500 => absurd (by rw [ho1 (hk1.symm.trans c489), hr2 (hk1.symm.trans c489)]; exact lg_cmp_rf _) c500)
    refine z_goto C (tgt := 2808) dL_law_505 (by decide) ?_
    refine z_iinc (v := nI (5 * (jx + 1))) (lv' := [(4, .int (nI (5 * (jx + 1)))), (6, .int xr), (5, .int xk), (0, .ref b), (1, .ref x), (2, .ref m), (3, .ref ou)]) C dL_law_2808 2 rfl (j_inc5 jx) (by decide) rfl ?_
    refine z_goto C (tgt := 27) dL_law_2811 (by decide) ?_
    refine z_fewer [0, 3, 4, 5, 6] rfl ?_
    refine z_widen (k' := kq + 4000) (n' := nq + 60000) (by omega) (by omega) ?_
    exact kk _ _ _ _ hI2 (so_rest hok)
set_option maxRecDepth 20000 in
theorem lc_part {X : zX} (C : z_C X cL_law RL 7 room_1) (h_st : (z_l X).stackTraces = false) {b L : Nat} {xs : Nat → Int32} (hX : va_X b L xs (z_s X) (z_s X).heap) (hbl : b < (z_s X).heap.size) (hbA : ¬ z_F X b) {jx : Nat} {a1 a2 a3 a4 : Int32} (hs1 : vp_in (nI (5 * jx) + 1) L ∧ xs (nI (5 * jx) + 1).toNatClampNeg = a1) (hs2 : vp_in (nI (5 * jx) + 2) L ∧ xs (nI (5 * jx) + 2).toNatClampNeg = a2) (hs3 : vp_in (nI (5 * jx) + 3) L ∧ xs (nI (5 * jx) + 3).toNatClampNeg = a3) (hs4 : vp_in (nI (5 * jx) + 4) L ∧ xs (nI (5 * jx) + 4).toNatClampNeg = a4) {u : sS} {x pa sp ln rf sb m pn td ou : Nat} {th : Int32} {on : Int64} {Mw : zM} (hI : s_LX (z_G X) x pa sp ln rf sb m pn td ou u u th on Mw) (hok : s_ok jx u) (hj : jx < 64) {kq nq : Nat} (hkq : kq + 4000 ≤ 600128) (hnq : nq + 60000 ≤ 7301098) (kk : ∀ v th on Mz, s_LX (z_G X) x pa sp ln rf sb m pn td ou v v th on Mz → s_ok (jx + 1) v → z_W X Mz (kq + 4000) (nq + 60000) 27 [(4, .int (nI (5 * (jx + 1)))), (0, .ref b), (1, .ref x), (2, .ref m), (3, .ref ou)] []) : z_W X Mw kq nq 508 [(4, .int (nI (5 * jx))), (0, .ref b), (1, .ref x), (2, .ref m), (3, .ref ou)] [] := by
  refine z_aload_n C dL_law_508 rfl 2 rfl ?_
  refine z_aload_n C dL_law_509 rfl 1 rfl ?_
  refine z_iload C dL_law_510 0 rfl ?_
  refine z_iconst C (v := 1) dL_law_512 (by decide) ?_
  refine z_iadd C dL_law_513 ?_
  refine z_sld C hX hbl hbA hs1.1 hs1.2 dL_law_514 ?_
  refine z_aload_n C dL_law_515 rfl 1 rfl ?_
  refine z_iload C dL_law_516 0 rfl ?_
  refine z_iconst C (v := 2) dL_law_518 (by decide) ?_
  refine z_iadd C dL_law_519 ?_
  refine z_sld C hX hbl hbA hs2.1 hs2.2 dL_law_520 ?_
  refine z_aload_n C dL_law_521 rfl 1 rfl ?_
  refine z_iload C dL_law_522 0 rfl ?_
  refine z_iconst C (v := 3) dL_law_524 (by decide) ?_
  refine z_iadd C dL_law_525 ?_
  refine z_sld C hX hbl hbA hs3.1 hs3.2 dL_law_526 ?_
  refine z_aload_n C dL_law_527 rfl 1 rfl ?_
  refine z_iload C dL_law_528 0 rfl ?_
  refine z_iconst C (v := 4) dL_law_530 (by decide) ?_
  refine z_iadd C dL_law_531 ?_
  refine z_sld C hX hbl hbA hs4.1 hs4.2 dL_law_532 ?_
  refine z_aload_n C dL_law_533 rfl 4 rfl ?_
  refine z_callHi (rest := []) (k' := kq + 8) (n' := nq + 48) C (s_LX_P hI (fun hC9 hd9 ho9 => w_part (z_l X) h_st hC9 hd9 ho9 hok a1 a2 a3 a4)) (ch_part C ⟨Nat.le_of_ble_eq_true rfl, Nat.le_of_ble_eq_true rfl⟩) rfl rfl (Nat.le_of_ble_eq_true rfl) rfl rfl (by show _ ≤ 600128; omega) (by show _ ≤ 7301098; omega) dL_law_534 (fun xk M1 hq => ?_)
  obtain ⟨hk1, on1, hI1, ho1⟩ := hq
  refine z_istore (lv' := [(5, .int xk), (4, .int (nI (5 * jx))), (0, .ref b), (1, .ref x), (2, .ref m), (3, .ref ou)]) C dL_law_537 (by decide) rfl ?_
  refine z_aload_n C dL_law_539 rfl 4 rfl ?_
  refine z_aload_n C dL_law_540 rfl 2 rfl ?_
  refine z_iload C dL_law_541 1 rfl ?_
  refine z_iconst C (v := 1) dL_law_543 (by decide) ?_
  refine z_iadd C dL_law_544 ?_
  refine z_sld C hX hbl hbA hs1.1 hs1.2 dL_law_545 ?_
  refine z_aload_n C dL_law_546 rfl 2 rfl ?_
  refine z_iload C dL_law_547 1 rfl ?_
  refine z_iconst C (v := 2) dL_law_549 (by decide) ?_
  refine z_iadd C dL_law_550 ?_
  refine z_sld C hX hbl hbA hs2.1 hs2.2 dL_law_551 ?_
  refine z_aload_n C dL_law_552 rfl 2 rfl ?_
  refine z_iload C dL_law_553 1 rfl ?_
  refine z_iconst C (v := 3) dL_law_555 (by decide) ?_
  refine z_iadd C dL_law_556 ?_
  refine z_sld C hX hbl hbA hs3.1 hs3.2 dL_law_557 ?_
  refine z_aload_n C dL_law_558 rfl 2 rfl ?_
  refine z_iload C dL_law_559 1 rfl ?_
  refine z_iconst C (v := 4) dL_law_561 (by decide) ?_
  refine z_iadd C dL_law_562 ?_
  refine z_sld C hX hbl hbA hs4.1 hs4.2 dL_law_563 ?_
  obtain ⟨tp9, hm9⟩ := s_LX_m hI1
  refine z_callVi (rest := []) (k' := kq + 8 + 1) (n' := nq + 48 + 8) C (s_LX_R hI1 (fun hR9 => a_X5_part (z_l X) hR9 hok (by omega) a1 a2 a3 a4)) (cs_L_167 C ⟨Nat.le_of_ble_eq_true rfl, Nat.le_of_ble_eq_true rfl⟩) hm9 rfl rfl rfl rfl (Nat.le_of_ble_eq_true rfl) rfl rfl (by show _ ≤ 600128; omega) (by show _ ≤ 7301098; omega) dL_law_564 (fun xr M2 hq => ?_)
  obtain ⟨hI2, hr2⟩ := hq
  obtain ⟨tp8, hm8⟩ := s_LX_m hI2
  obtain ⟨os8, hou8⟩ := s_LX_ou hI2
  refine z_istore (lv' := [(6, .int xr), (5, .int xk), (4, .int (nI (5 * jx))), (0, .ref b), (1, .ref x), (2, .ref m), (3, .ref ou)]) C dL_law_567 (by decide) rfl ?_
  refine z_aload_n C dL_law_569 rfl 5 rfl ?_
  refine z_callVi (rest := []) (k' := kq + 8 + 1) (n' := nq + 48 + 8) C (c_X5_thrown (z_l X) (z_G X) hm8) (cs_L_150 C ⟨Nat.le_of_ble_eq_true rfl, Nat.le_of_ble_eq_true rfl⟩) hm8 rfl rfl rfl rfl (Nat.le_of_ble_eq_true rfl) rfl rfl (by show _ ≤ 600128; omega) (by show _ ≤ 7301098; omega) dL_law_570 (fun x3 M3 hq => ?_)
  obtain ⟨e3, rfl⟩ := hq
  rw [e3]
  refine z_iload C dL_law_573 1 rfl ?_
  refine z_icmp_eq C (tgt := 580) dL_law_575 (by decide) (fun _ => ?_) (fun c575 => absurd hk1.symm c575)
  refine z_iload C dL_law_580 1 rfl ?_
  refine z_if_ne C (tgt := 598) dL_law_582 (by decide) (fun c582 => ?_) (fun c582 => ?_)
  · refine z_goto C (tgt := 2808) dL_law_598 (by decide) ?_
    refine z_iinc (v := nI (5 * (jx + 1))) (lv' := [(4, .int (nI (5 * (jx + 1)))), (6, .int xr), (5, .int xk), (0, .ref b), (1, .ref x), (2, .ref m), (3, .ref ou)]) C dL_law_2808 2 rfl (j_inc5 jx) (by decide) rfl ?_
    refine z_goto C (tgt := 27) dL_law_2811 (by decide) ?_
    refine z_fewer [0, 3, 4, 5, 6] rfl ?_
    refine z_widen (k' := kq + 4000) (n' := nq + 60000) (by omega) (by omega) ?_
    exact kk _ _ _ _ hI2 (so_part hok)
  · refine z_aload_n C dL_law_585 rfl 6 rfl ?_
    refine gf_L_13 C hou8 dL_law_586 ?_
    refine z_iload C dL_law_589 0 rfl ?_
    refine z_i2l C dL_law_591 ?_
    refine z_lcmp C dL_law_592 ?_
    refine z_if_eq C (tgt := 598) dL_law_593 (by decide) (fun _ => ?_) (fun c593 => absurd (by rw [ho1 (hk1.symm.trans c582), hr2 (hk1.symm.trans c582)]; exact lg_cmp_rf _) c593)
    refine z_goto C (tgt := 2808) dL_law_598 (by decide) ?_
    refine z_iinc (v := nI (5 * (jx + 1))) (lv' := [(4, .int (nI (5 * (jx + 1)))), (6, .int xr), (5, .int xk), (0, .ref b), (1, .ref x), (2, .ref m), (3, .ref ou)]) C dL_law_2808 2 rfl (j_inc5 jx) (by decide) rfl ?_
    refine z_goto C (tgt := 27) dL_law_2811 (by decide) ?_
    refine z_fewer [0, 3, 4, 5, 6] rfl ?_
    refine z_widen (k' := kq + 4000) (n' := nq + 60000) (by omega) (by omega) ?_
    exact kk _ _ _ _ hI2 (so_part hok)
set_option maxRecDepth 20000 in
theorem lc_reader {X : zX} (C : z_C X cL_law RL 7 room_1) (h_st : (z_l X).stackTraces = false) {b L : Nat} {xs : Nat → Int32} (hX : va_X b L xs (z_s X) (z_s X).heap) (hbl : b < (z_s X).heap.size) (hbA : ¬ z_F X b) {jx : Nat} {a1 a2 a3 a4 : Int32} (hs1 : vp_in (nI (5 * jx) + 1) L ∧ xs (nI (5 * jx) + 1).toNatClampNeg = a1) (hs2 : vp_in (nI (5 * jx) + 2) L ∧ xs (nI (5 * jx) + 2).toNatClampNeg = a2) (hs3 : vp_in (nI (5 * jx) + 3) L ∧ xs (nI (5 * jx) + 3).toNatClampNeg = a3) (hs4 : vp_in (nI (5 * jx) + 4) L ∧ xs (nI (5 * jx) + 4).toNatClampNeg = a4) {u : sS} {x pa sp ln rf sb m pn td ou : Nat} {th : Int32} {on : Int64} {Mw : zM} (hI : s_LX (z_G X) x pa sp ln rf sb m pn td ou u u th on Mw) (hok : s_ok jx u) (hj : jx < 64) {kq nq : Nat} (hkq : kq + 4000 ≤ 600128) (hnq : nq + 60000 ≤ 7301098) (kk : ∀ v th on Mz, s_LX (z_G X) x pa sp ln rf sb m pn td ou v v th on Mz → s_ok (jx + 1) v → z_W X Mz (kq + 4000) (nq + 60000) 27 [(4, .int (nI (5 * (jx + 1)))), (0, .ref b), (1, .ref x), (2, .ref m), (3, .ref ou)] []) : z_W X Mw kq nq 601 [(4, .int (nI (5 * jx))), (0, .ref b), (1, .ref x), (2, .ref m), (3, .ref ou)] [] := by
  refine z_aload_n C dL_law_601 rfl 2 rfl ?_
  refine z_aload_n C dL_law_602 rfl 1 rfl ?_
  refine z_iload C dL_law_603 0 rfl ?_
  refine z_iconst C (v := 1) dL_law_605 (by decide) ?_
  refine z_iadd C dL_law_606 ?_
  refine z_sld C hX hbl hbA hs1.1 hs1.2 dL_law_607 ?_
  refine z_aload_n C dL_law_608 rfl 1 rfl ?_
  refine z_iload C dL_law_609 0 rfl ?_
  refine z_iconst C (v := 2) dL_law_611 (by decide) ?_
  refine z_iadd C dL_law_612 ?_
  refine z_sld C hX hbl hbA hs2.1 hs2.2 dL_law_613 ?_
  refine z_aload_n C dL_law_614 rfl 4 rfl ?_
  refine z_callHi (rest := []) (k' := kq + 8) (n' := nq + 48) C (s_LX_P hI (fun hC9 hd9 ho9 => w_reader (z_l X) h_st hC9 hd9 ho9 hok a1 a2)) (ch_reader C ⟨Nat.le_of_ble_eq_true rfl, Nat.le_of_ble_eq_true rfl⟩) rfl rfl (Nat.le_of_ble_eq_true rfl) rfl rfl (by show _ ≤ 600128; omega) (by show _ ≤ 7301098; omega) dL_law_615 (fun xk M1 hq => ?_)
  obtain ⟨hk1, on1, hI1, ho1⟩ := hq
  refine z_istore (lv' := [(5, .int xk), (4, .int (nI (5 * jx))), (0, .ref b), (1, .ref x), (2, .ref m), (3, .ref ou)]) C dL_law_618 (by decide) rfl ?_
  refine z_aload_n C dL_law_620 rfl 4 rfl ?_
  refine z_aload_n C dL_law_621 rfl 2 rfl ?_
  refine z_iload C dL_law_622 1 rfl ?_
  refine z_iconst C (v := 1) dL_law_624 (by decide) ?_
  refine z_iadd C dL_law_625 ?_
  refine z_sld C hX hbl hbA hs1.1 hs1.2 dL_law_626 ?_
  refine z_aload_n C dL_law_627 rfl 2 rfl ?_
  refine z_iload C dL_law_628 1 rfl ?_
  refine z_iconst C (v := 2) dL_law_630 (by decide) ?_
  refine z_iadd C dL_law_631 ?_
  refine z_sld C hX hbl hbA hs2.1 hs2.2 dL_law_632 ?_
  obtain ⟨tp9, hm9⟩ := s_LX_m hI1
  refine z_callVi (rest := []) (k' := kq + 8 + 1) (n' := nq + 48 + 8) C (s_LX_R hI1 (fun hR9 => a_X5_reader (z_l X) hR9 hok (by omega) a1 a2)) (cs_L_170 C ⟨Nat.le_of_ble_eq_true rfl, Nat.le_of_ble_eq_true rfl⟩) hm9 rfl rfl rfl rfl (Nat.le_of_ble_eq_true rfl) rfl rfl (by show _ ≤ 600128; omega) (by show _ ≤ 7301098; omega) dL_law_633 (fun xr M2 hq => ?_)
  obtain ⟨hI2, hr2⟩ := hq
  obtain ⟨tp8, hm8⟩ := s_LX_m hI2
  obtain ⟨os8, hou8⟩ := s_LX_ou hI2
  refine z_istore (lv' := [(6, .int xr), (5, .int xk), (4, .int (nI (5 * jx))), (0, .ref b), (1, .ref x), (2, .ref m), (3, .ref ou)]) C dL_law_636 (by decide) rfl ?_
  refine z_aload_n C dL_law_638 rfl 5 rfl ?_
  refine z_callVi (rest := []) (k' := kq + 8 + 1) (n' := nq + 48 + 8) C (c_X5_thrown (z_l X) (z_G X) hm8) (cs_L_150 C ⟨Nat.le_of_ble_eq_true rfl, Nat.le_of_ble_eq_true rfl⟩) hm8 rfl rfl rfl rfl (Nat.le_of_ble_eq_true rfl) rfl rfl (by show _ ≤ 600128; omega) (by show _ ≤ 7301098; omega) dL_law_639 (fun x3 M3 hq => ?_)
  obtain ⟨e3, rfl⟩ := hq
  rw [e3]
  refine z_iload C dL_law_642 1 rfl ?_
  refine z_icmp_eq C (tgt := 649) dL_law_644 (by decide) (fun _ => ?_) (fun c644 => absurd hk1.symm c644)
  refine z_iload C dL_law_649 1 rfl ?_
  refine z_if_ne C (tgt := 667) dL_law_651 (by decide) (fun c651 => ?_) (fun c651 => ?_)
  · refine z_goto C (tgt := 2808) dL_law_667 (by decide) ?_
    refine z_iinc (v := nI (5 * (jx + 1))) (lv' := [(4, .int (nI (5 * (jx + 1)))), (6, .int xr), (5, .int xk), (0, .ref b), (1, .ref x), (2, .ref m), (3, .ref ou)]) C dL_law_2808 2 rfl (j_inc5 jx) (by decide) rfl ?_
    refine z_goto C (tgt := 27) dL_law_2811 (by decide) ?_
    refine z_fewer [0, 3, 4, 5, 6] rfl ?_
    refine z_widen (k' := kq + 4000) (n' := nq + 60000) (by omega) (by omega) ?_
    exact kk _ _ _ _ hI2 (so_reader hok)
  · refine z_aload_n C dL_law_654 rfl 6 rfl ?_
    refine gf_L_13 C hou8 dL_law_655 ?_
    refine z_iload C dL_law_658 0 rfl ?_
    refine z_i2l C dL_law_660 ?_
    refine z_lcmp C dL_law_661 ?_
    refine z_if_eq C (tgt := 667) dL_law_662 (by decide) (fun _ => ?_) (fun c662 => absurd (by rw [ho1 (hk1.symm.trans c651), hr2 (hk1.symm.trans c651)]; exact lg_cmp_rf _) c662)
    refine z_goto C (tgt := 2808) dL_law_667 (by decide) ?_
    refine z_iinc (v := nI (5 * (jx + 1))) (lv' := [(4, .int (nI (5 * (jx + 1)))), (6, .int xr), (5, .int xk), (0, .ref b), (1, .ref x), (2, .ref m), (3, .ref ou)]) C dL_law_2808 2 rfl (j_inc5 jx) (by decide) rfl ?_
    refine z_goto C (tgt := 27) dL_law_2811 (by decide) ?_
    refine z_fewer [0, 3, 4, 5, 6] rfl ?_
    refine z_widen (k' := kq + 4000) (n' := nq + 60000) (by omega) (by omega) ?_
    exact kk _ _ _ _ hI2 (so_reader hok)
set_option maxRecDepth 20000 in
theorem lc_exchange {X : zX} (C : z_C X cL_law RL 7 room_1) (h_st : (z_l X).stackTraces = false) {b L : Nat} {xs : Nat → Int32} (hX : va_X b L xs (z_s X) (z_s X).heap) (hbl : b < (z_s X).heap.size) (hbA : ¬ z_F X b) {jx : Nat} {a1 a2 a3 a4 : Int32} (hs1 : vp_in (nI (5 * jx) + 1) L ∧ xs (nI (5 * jx) + 1).toNatClampNeg = a1) (hs2 : vp_in (nI (5 * jx) + 2) L ∧ xs (nI (5 * jx) + 2).toNatClampNeg = a2) (hs3 : vp_in (nI (5 * jx) + 3) L ∧ xs (nI (5 * jx) + 3).toNatClampNeg = a3) (hs4 : vp_in (nI (5 * jx) + 4) L ∧ xs (nI (5 * jx) + 4).toNatClampNeg = a4) {u : sS} {x pa sp ln rf sb m pn td ou : Nat} {th : Int32} {on : Int64} {Mw : zM} (hI : s_LX (z_G X) x pa sp ln rf sb m pn td ou u u th on Mw) (hok : s_ok jx u) (hj : jx < 64) {kq nq : Nat} (hkq : kq + 4000 ≤ 600128) (hnq : nq + 60000 ≤ 7301098) (kk : ∀ v th on Mz, s_LX (z_G X) x pa sp ln rf sb m pn td ou v v th on Mz → s_ok (jx + 1) v → z_W X Mz (kq + 4000) (nq + 60000) 27 [(4, .int (nI (5 * (jx + 1)))), (0, .ref b), (1, .ref x), (2, .ref m), (3, .ref ou)] []) : z_W X Mw kq nq 670 [(4, .int (nI (5 * jx))), (0, .ref b), (1, .ref x), (2, .ref m), (3, .ref ou)] [] := by
  refine z_aload_n C dL_law_670 rfl 2 rfl ?_
  refine z_aload_n C dL_law_671 rfl 1 rfl ?_
  refine z_iload C dL_law_672 0 rfl ?_
  refine z_iconst C (v := 1) dL_law_674 (by decide) ?_
  refine z_iadd C dL_law_675 ?_
  refine z_sld C hX hbl hbA hs1.1 hs1.2 dL_law_676 ?_
  refine z_aload_n C dL_law_677 rfl 1 rfl ?_
  refine z_iload C dL_law_678 0 rfl ?_
  refine z_iconst C (v := 2) dL_law_680 (by decide) ?_
  refine z_iadd C dL_law_681 ?_
  refine z_sld C hX hbl hbA hs2.1 hs2.2 dL_law_682 ?_
  refine z_aload_n C dL_law_683 rfl 4 rfl ?_
  refine z_callHi (rest := []) (k' := kq + 8) (n' := nq + 48) C (s_LX_P hI (fun hC9 hd9 ho9 => w_exchange (z_l X) h_st hC9 hd9 ho9 hok a1 a2)) (ch_exchange C ⟨Nat.le_of_ble_eq_true rfl, Nat.le_of_ble_eq_true rfl⟩) rfl rfl (Nat.le_of_ble_eq_true rfl) rfl rfl (by show _ ≤ 600128; omega) (by show _ ≤ 7301098; omega) dL_law_684 (fun xk M1 hq => ?_)
  obtain ⟨hk1, on1, hI1, ho1⟩ := hq
  refine z_istore (lv' := [(5, .int xk), (4, .int (nI (5 * jx))), (0, .ref b), (1, .ref x), (2, .ref m), (3, .ref ou)]) C dL_law_687 (by decide) rfl ?_
  refine z_aload_n C dL_law_689 rfl 4 rfl ?_
  refine z_aload_n C dL_law_690 rfl 2 rfl ?_
  refine z_iload C dL_law_691 1 rfl ?_
  refine z_iconst C (v := 1) dL_law_693 (by decide) ?_
  refine z_iadd C dL_law_694 ?_
  refine z_sld C hX hbl hbA hs1.1 hs1.2 dL_law_695 ?_
  refine z_aload_n C dL_law_696 rfl 2 rfl ?_
  refine z_iload C dL_law_697 1 rfl ?_
  refine z_iconst C (v := 2) dL_law_699 (by decide) ?_
  refine z_iadd C dL_law_700 ?_
  refine z_sld C hX hbl hbA hs2.1 hs2.2 dL_law_701 ?_
  obtain ⟨tp9, hm9⟩ := s_LX_m hI1
  refine z_callVi (rest := []) (k' := kq + 8) (n' := nq + 48) C (s_LX_R hI1 (fun hR9 => a_X5_exchange (z_l X) hR9 hok (by omega) a1 a2)) (cs_L_173 C ⟨Nat.le_of_ble_eq_true rfl, Nat.le_of_ble_eq_true rfl⟩) hm9 rfl rfl rfl rfl (Nat.le_of_ble_eq_true rfl) rfl rfl (by show _ ≤ 600128; omega) (by show _ ≤ 7301098; omega) dL_law_702 (fun xr M2 hq => ?_)
  obtain ⟨hI2, hr2⟩ := hq
  obtain ⟨tp8, hm8⟩ := s_LX_m hI2
  obtain ⟨os8, hou8⟩ := s_LX_ou hI2
  refine z_istore (lv' := [(6, .int xr), (5, .int xk), (4, .int (nI (5 * jx))), (0, .ref b), (1, .ref x), (2, .ref m), (3, .ref ou)]) C dL_law_705 (by decide) rfl ?_
  refine z_aload_n C dL_law_707 rfl 5 rfl ?_
  refine z_callVi (rest := []) (k' := kq + 8) (n' := nq + 48) C (c_X5_thrown (z_l X) (z_G X) hm8) (cs_L_150 C ⟨Nat.le_of_ble_eq_true rfl, Nat.le_of_ble_eq_true rfl⟩) hm8 rfl rfl rfl rfl (Nat.le_of_ble_eq_true rfl) rfl rfl (by show _ ≤ 600128; omega) (by show _ ≤ 7301098; omega) dL_law_708 (fun x3 M3 hq => ?_)
  obtain ⟨e3, rfl⟩ := hq
  rw [e3]
  refine z_iload C dL_law_711 1 rfl ?_
  refine z_icmp_eq C (tgt := 718) dL_law_713 (by decide) (fun _ => ?_) (fun c713 => absurd hk1.symm c713)
  refine z_iload C dL_law_718 1 rfl ?_
  refine z_if_ne C (tgt := 736) dL_law_720 (by decide) (fun c720 => ?_) (fun c720 => ?_)
  · refine z_goto C (tgt := 2808) dL_law_736 (by decide) ?_
    refine z_iinc (v := nI (5 * (jx + 1))) (lv' := [(4, .int (nI (5 * (jx + 1)))), (6, .int xr), (5, .int xk), (0, .ref b), (1, .ref x), (2, .ref m), (3, .ref ou)]) C dL_law_2808 2 rfl (j_inc5 jx) (by decide) rfl ?_
    refine z_goto C (tgt := 27) dL_law_2811 (by decide) ?_
    refine z_fewer [0, 3, 4, 5, 6] rfl ?_
    refine z_widen (k' := kq + 4000) (n' := nq + 60000) (by omega) (by omega) ?_
    exact kk _ _ _ _ hI2 (so_exchange hok)
  · refine z_aload_n C dL_law_723 rfl 6 rfl ?_
    refine gf_L_13 C hou8 dL_law_724 ?_
    refine z_iload C dL_law_727 0 rfl ?_
    refine z_i2l C dL_law_729 ?_
    refine z_lcmp C dL_law_730 ?_
    refine z_if_eq C (tgt := 736) dL_law_731 (by decide) (fun _ => ?_) (fun c731 => absurd (by rw [ho1 (hk1.symm.trans c720), hr2 (hk1.symm.trans c720)]; exact lg_cmp_rf _) c731)
    refine z_goto C (tgt := 2808) dL_law_736 (by decide) ?_
    refine z_iinc (v := nI (5 * (jx + 1))) (lv' := [(4, .int (nI (5 * (jx + 1)))), (6, .int xr), (5, .int xk), (0, .ref b), (1, .ref x), (2, .ref m), (3, .ref ou)]) C dL_law_2808 2 rfl (j_inc5 jx) (by decide) rfl ?_
    refine z_goto C (tgt := 27) dL_law_2811 (by decide) ?_
    refine z_fewer [0, 3, 4, 5, 6] rfl ?_
    refine z_widen (k' := kq + 4000) (n' := nq + 60000) (by omega) (by omega) ?_
    exact kk _ _ _ _ hI2 (so_exchange hok)
set_option maxRecDepth 20000 in
theorem lc_go {X : zX} (C : z_C X cL_law RL 7 room_1) (h_st : (z_l X).stackTraces = false) {b L : Nat} {xs : Nat → Int32} (hX : va_X b L xs (z_s X) (z_s X).heap) (hbl : b < (z_s X).heap.size) (hbA : ¬ z_F X b) {jx : Nat} {a1 a2 a3 a4 : Int32} (hs1 : vp_in (nI (5 * jx) + 1) L ∧ xs (nI (5 * jx) + 1).toNatClampNeg = a1) (hs2 : vp_in (nI (5 * jx) + 2) L ∧ xs (nI (5 * jx) + 2).toNatClampNeg = a2) (hs3 : vp_in (nI (5 * jx) + 3) L ∧ xs (nI (5 * jx) + 3).toNatClampNeg = a3) (hs4 : vp_in (nI (5 * jx) + 4) L ∧ xs (nI (5 * jx) + 4).toNatClampNeg = a4) {u : sS} {x pa sp ln rf sb m pn td ou : Nat} {th : Int32} {on : Int64} {Mw : zM} (hI : s_LX (z_G X) x pa sp ln rf sb m pn td ou u u th on Mw) (hok : s_ok jx u) (hj : jx < 64) {kq nq : Nat} (hkq : kq + 4000 ≤ 600128) (hnq : nq + 60000 ≤ 7301098) (kk : ∀ v th on Mz, s_LX (z_G X) x pa sp ln rf sb m pn td ou v v th on Mz → s_ok (jx + 1) v → z_W X Mz (kq + 4000) (nq + 60000) 27 [(4, .int (nI (5 * (jx + 1)))), (0, .ref b), (1, .ref x), (2, .ref m), (3, .ref ou)] []) : z_W X Mw kq nq 739 [(4, .int (nI (5 * jx))), (0, .ref b), (1, .ref x), (2, .ref m), (3, .ref ou)] [] := by
  refine z_aload_n C dL_law_739 rfl 2 rfl ?_
  refine z_aload_n C dL_law_740 rfl 1 rfl ?_
  refine z_iload C dL_law_741 0 rfl ?_
  refine z_iconst C (v := 1) dL_law_743 (by decide) ?_
  refine z_iadd C dL_law_744 ?_
  refine z_sld C hX hbl hbA hs1.1 hs1.2 dL_law_745 ?_
  refine z_aload_n C dL_law_746 rfl 1 rfl ?_
  refine z_iload C dL_law_747 0 rfl ?_
  refine z_iconst C (v := 2) dL_law_749 (by decide) ?_
  refine z_iadd C dL_law_750 ?_
  refine z_sld C hX hbl hbA hs2.1 hs2.2 dL_law_751 ?_
  refine z_aload_n C dL_law_752 rfl 4 rfl ?_
  refine z_callHi (rest := []) (k' := kq + 8) (n' := nq + 48) C (s_LX_P hI (fun hC9 hd9 ho9 => w_go (z_l X) h_st hC9 hd9 ho9 hok a1 a2)) (ch_go C ⟨Nat.le_of_ble_eq_true rfl, Nat.le_of_ble_eq_true rfl⟩) rfl rfl (Nat.le_of_ble_eq_true rfl) rfl rfl (by show _ ≤ 600128; omega) (by show _ ≤ 7301098; omega) dL_law_753 (fun xk M1 hq => ?_)
  obtain ⟨hk1, on1, hI1, ho1⟩ := hq
  refine z_istore (lv' := [(5, .int xk), (4, .int (nI (5 * jx))), (0, .ref b), (1, .ref x), (2, .ref m), (3, .ref ou)]) C dL_law_756 (by decide) rfl ?_
  refine z_aload_n C dL_law_758 rfl 4 rfl ?_
  refine z_aload_n C dL_law_759 rfl 2 rfl ?_
  refine z_iload C dL_law_760 1 rfl ?_
  refine z_iconst C (v := 1) dL_law_762 (by decide) ?_
  refine z_iadd C dL_law_763 ?_
  refine z_sld C hX hbl hbA hs1.1 hs1.2 dL_law_764 ?_
  refine z_aload_n C dL_law_765 rfl 2 rfl ?_
  refine z_iload C dL_law_766 1 rfl ?_
  refine z_iconst C (v := 2) dL_law_768 (by decide) ?_
  refine z_iadd C dL_law_769 ?_
  refine z_sld C hX hbl hbA hs2.1 hs2.2 dL_law_770 ?_
  obtain ⟨tp9, hm9⟩ := s_LX_m hI1
  refine z_callVi (rest := []) (k' := kq + 8) (n' := nq + 48) C (s_LX_R hI1 (fun hR9 => a_X5_go (z_l X) hR9 hok (by omega) a1 a2)) (cs_L_176 C ⟨Nat.le_of_ble_eq_true rfl, Nat.le_of_ble_eq_true rfl⟩) hm9 rfl rfl rfl rfl (Nat.le_of_ble_eq_true rfl) rfl rfl (by show _ ≤ 600128; omega) (by show _ ≤ 7301098; omega) dL_law_771 (fun xr M2 hq => ?_)
  obtain ⟨hI2, hr2⟩ := hq
  obtain ⟨tp8, hm8⟩ := s_LX_m hI2
  obtain ⟨os8, hou8⟩ := s_LX_ou hI2
  refine z_istore (lv' := [(6, .int xr), (5, .int xk), (4, .int (nI (5 * jx))), (0, .ref b), (1, .ref x), (2, .ref m), (3, .ref ou)]) C dL_law_774 (by decide) rfl ?_
  refine z_aload_n C dL_law_776 rfl 5 rfl ?_
  refine z_callVi (rest := []) (k' := kq + 8) (n' := nq + 48) C (c_X5_thrown (z_l X) (z_G X) hm8) (cs_L_150 C ⟨Nat.le_of_ble_eq_true rfl, Nat.le_of_ble_eq_true rfl⟩) hm8 rfl rfl rfl rfl (Nat.le_of_ble_eq_true rfl) rfl rfl (by show _ ≤ 600128; omega) (by show _ ≤ 7301098; omega) dL_law_777 (fun x3 M3 hq => ?_)
  obtain ⟨e3, rfl⟩ := hq
  rw [e3]
  refine z_iload C dL_law_780 1 rfl ?_
  refine z_icmp_eq C (tgt := 787) dL_law_782 (by decide) (fun _ => ?_) (fun c782 => absurd hk1.symm c782)
  refine z_iload C dL_law_787 1 rfl ?_
  refine z_if_ne C (tgt := 805) dL_law_789 (by decide) (fun c789 => ?_) (fun c789 => ?_)
  · refine z_goto C (tgt := 2808) dL_law_805 (by decide) ?_
    refine z_iinc (v := nI (5 * (jx + 1))) (lv' := [(4, .int (nI (5 * (jx + 1)))), (6, .int xr), (5, .int xk), (0, .ref b), (1, .ref x), (2, .ref m), (3, .ref ou)]) C dL_law_2808 2 rfl (j_inc5 jx) (by decide) rfl ?_
    refine z_goto C (tgt := 27) dL_law_2811 (by decide) ?_
    refine z_fewer [0, 3, 4, 5, 6] rfl ?_
    refine z_widen (k' := kq + 4000) (n' := nq + 60000) (by omega) (by omega) ?_
    exact kk _ _ _ _ hI2 (so_go hok)
  · refine z_aload_n C dL_law_792 rfl 6 rfl ?_
    refine gf_L_13 C hou8 dL_law_793 ?_
    refine z_iload C dL_law_796 0 rfl ?_
    refine z_i2l C dL_law_798 ?_
    refine z_lcmp C dL_law_799 ?_
    refine z_if_eq C (tgt := 805) dL_law_800 (by decide) (fun _ => ?_) (fun c800 => absurd (by rw [ho1 (hk1.symm.trans c789), hr2 (hk1.symm.trans c789)]; exact lg_cmp_rf _) c800)
    refine z_goto C (tgt := 2808) dL_law_805 (by decide) ?_
    refine z_iinc (v := nI (5 * (jx + 1))) (lv' := [(4, .int (nI (5 * (jx + 1)))), (6, .int xr), (5, .int xk), (0, .ref b), (1, .ref x), (2, .ref m), (3, .ref ou)]) C dL_law_2808 2 rfl (j_inc5 jx) (by decide) rfl ?_
    refine z_goto C (tgt := 27) dL_law_2811 (by decide) ?_
    refine z_fewer [0, 3, 4, 5, 6] rfl ?_
    refine z_widen (k' := kq + 4000) (n' := nq + 60000) (by omega) (by omega) ?_
    exact kk _ _ _ _ hI2 (so_go hok)
set_option maxRecDepth 20000 in
theorem lc_move {X : zX} (C : z_C X cL_law RL 7 room_1) (h_st : (z_l X).stackTraces = false) {b L : Nat} {xs : Nat → Int32} (hX : va_X b L xs (z_s X) (z_s X).heap) (hbl : b < (z_s X).heap.size) (hbA : ¬ z_F X b) {jx : Nat} {a1 a2 a3 a4 : Int32} (hs1 : vp_in (nI (5 * jx) + 1) L ∧ xs (nI (5 * jx) + 1).toNatClampNeg = a1) (hs2 : vp_in (nI (5 * jx) + 2) L ∧ xs (nI (5 * jx) + 2).toNatClampNeg = a2) (hs3 : vp_in (nI (5 * jx) + 3) L ∧ xs (nI (5 * jx) + 3).toNatClampNeg = a3) (hs4 : vp_in (nI (5 * jx) + 4) L ∧ xs (nI (5 * jx) + 4).toNatClampNeg = a4) {u : sS} {x pa sp ln rf sb m pn td ou : Nat} {th : Int32} {on : Int64} {Mw : zM} (hI : s_LX (z_G X) x pa sp ln rf sb m pn td ou u u th on Mw) (hok : s_ok jx u) (hj : jx < 64) {kq nq : Nat} (hkq : kq + 4000 ≤ 600128) (hnq : nq + 60000 ≤ 7301098) (kk : ∀ v th on Mz, s_LX (z_G X) x pa sp ln rf sb m pn td ou v v th on Mz → s_ok (jx + 1) v → z_W X Mz (kq + 4000) (nq + 60000) 27 [(4, .int (nI (5 * (jx + 1)))), (0, .ref b), (1, .ref x), (2, .ref m), (3, .ref ou)] []) : z_W X Mw kq nq 808 [(4, .int (nI (5 * jx))), (0, .ref b), (1, .ref x), (2, .ref m), (3, .ref ou)] [] := by
  refine z_aload_n C dL_law_808 rfl 2 rfl ?_
  refine z_aload_n C dL_law_809 rfl 1 rfl ?_
  refine z_iload C dL_law_810 0 rfl ?_
  refine z_iconst C (v := 1) dL_law_812 (by decide) ?_
  refine z_iadd C dL_law_813 ?_
  refine z_sld C hX hbl hbA hs1.1 hs1.2 dL_law_814 ?_
  refine z_aload_n C dL_law_815 rfl 1 rfl ?_
  refine z_iload C dL_law_816 0 rfl ?_
  refine z_iconst C (v := 2) dL_law_818 (by decide) ?_
  refine z_iadd C dL_law_819 ?_
  refine z_sld C hX hbl hbA hs2.1 hs2.2 dL_law_820 ?_
  refine z_aload_n C dL_law_821 rfl 4 rfl ?_
  refine z_callHi (rest := []) (k' := kq + 8) (n' := nq + 48) C (s_LX_P hI (fun hC9 hd9 ho9 => w_move (z_l X) h_st hC9 hd9 ho9 hok a1 a2)) (ch_move C ⟨Nat.le_of_ble_eq_true rfl, Nat.le_of_ble_eq_true rfl⟩) rfl rfl (Nat.le_of_ble_eq_true rfl) rfl rfl (by show _ ≤ 600128; omega) (by show _ ≤ 7301098; omega) dL_law_822 (fun xk M1 hq => ?_)
  obtain ⟨hk1, on1, hI1, ho1⟩ := hq
  refine z_istore (lv' := [(5, .int xk), (4, .int (nI (5 * jx))), (0, .ref b), (1, .ref x), (2, .ref m), (3, .ref ou)]) C dL_law_825 (by decide) rfl ?_
  refine z_aload_n C dL_law_827 rfl 4 rfl ?_
  refine z_aload_n C dL_law_828 rfl 2 rfl ?_
  refine z_iload C dL_law_829 1 rfl ?_
  refine z_iconst C (v := 1) dL_law_831 (by decide) ?_
  refine z_iadd C dL_law_832 ?_
  refine z_sld C hX hbl hbA hs1.1 hs1.2 dL_law_833 ?_
  refine z_aload_n C dL_law_834 rfl 2 rfl ?_
  refine z_iload C dL_law_835 1 rfl ?_
  refine z_iconst C (v := 2) dL_law_837 (by decide) ?_
  refine z_iadd C dL_law_838 ?_
  refine z_sld C hX hbl hbA hs2.1 hs2.2 dL_law_839 ?_
  obtain ⟨tp9, hm9⟩ := s_LX_m hI1
  refine z_callVi (rest := []) (k' := kq + 8) (n' := nq + 48) C (s_LX_R hI1 (fun hR9 => a_X5_move (z_l X) hR9 hok (by omega) a1 a2)) (cs_L_179 C ⟨Nat.le_of_ble_eq_true rfl, Nat.le_of_ble_eq_true rfl⟩) hm9 rfl rfl rfl rfl (Nat.le_of_ble_eq_true rfl) rfl rfl (by show _ ≤ 600128; omega) (by show _ ≤ 7301098; omega) dL_law_840 (fun xr M2 hq => ?_)
  obtain ⟨hI2, hr2⟩ := hq
  obtain ⟨tp8, hm8⟩ := s_LX_m hI2
  obtain ⟨os8, hou8⟩ := s_LX_ou hI2
  refine z_istore (lv' := [(6, .int xr), (5, .int xk), (4, .int (nI (5 * jx))), (0, .ref b), (1, .ref x), (2, .ref m), (3, .ref ou)]) C dL_law_843 (by decide) rfl ?_
  refine z_aload_n C dL_law_845 rfl 5 rfl ?_
  refine z_callVi (rest := []) (k' := kq + 8) (n' := nq + 48) C (c_X5_thrown (z_l X) (z_G X) hm8) (cs_L_150 C ⟨Nat.le_of_ble_eq_true rfl, Nat.le_of_ble_eq_true rfl⟩) hm8 rfl rfl rfl rfl (Nat.le_of_ble_eq_true rfl) rfl rfl (by show _ ≤ 600128; omega) (by show _ ≤ 7301098; omega) dL_law_846 (fun x3 M3 hq => ?_)
  obtain ⟨e3, rfl⟩ := hq
  rw [e3]
  refine z_iload C dL_law_849 1 rfl ?_
  refine z_icmp_eq C (tgt := 856) dL_law_851 (by decide) (fun _ => ?_) (fun c851 => absurd hk1.symm c851)
  refine z_iload C dL_law_856 1 rfl ?_
  refine z_if_ne C (tgt := 874) dL_law_858 (by decide) (fun c858 => ?_) (fun c858 => ?_)
  · refine z_goto C (tgt := 2808) dL_law_874 (by decide) ?_
    refine z_iinc (v := nI (5 * (jx + 1))) (lv' := [(4, .int (nI (5 * (jx + 1)))), (6, .int xr), (5, .int xk), (0, .ref b), (1, .ref x), (2, .ref m), (3, .ref ou)]) C dL_law_2808 2 rfl (j_inc5 jx) (by decide) rfl ?_
    refine z_goto C (tgt := 27) dL_law_2811 (by decide) ?_
    refine z_fewer [0, 3, 4, 5, 6] rfl ?_
    refine z_widen (k' := kq + 4000) (n' := nq + 60000) (by omega) (by omega) ?_
    exact kk _ _ _ _ hI2 (so_move hok)
  · refine z_aload_n C dL_law_861 rfl 6 rfl ?_
    refine gf_L_13 C hou8 dL_law_862 ?_
    refine z_iload C dL_law_865 0 rfl ?_
    refine z_i2l C dL_law_867 ?_
    refine z_lcmp C dL_law_868 ?_
    refine z_if_eq C (tgt := 874) dL_law_869 (by decide) (fun _ => ?_) (fun c869 => absurd (by rw [ho1 (hk1.symm.trans c858), hr2 (hk1.symm.trans c858)]; exact lg_cmp_rf _) c869)
    refine z_goto C (tgt := 2808) dL_law_874 (by decide) ?_
    refine z_iinc (v := nI (5 * (jx + 1))) (lv' := [(4, .int (nI (5 * (jx + 1)))), (6, .int xr), (5, .int xk), (0, .ref b), (1, .ref x), (2, .ref m), (3, .ref ou)]) C dL_law_2808 2 rfl (j_inc5 jx) (by decide) rfl ?_
    refine z_goto C (tgt := 27) dL_law_2811 (by decide) ?_
    refine z_fewer [0, 3, 4, 5, 6] rfl ?_
    refine z_widen (k' := kq + 4000) (n' := nq + 60000) (by omega) (by omega) ?_
    exact kk _ _ _ _ hI2 (so_move hok)
set_option maxRecDepth 20000 in
theorem lc_end {X : zX} (C : z_C X cL_law RL 7 room_1) (h_st : (z_l X).stackTraces = false) {b L : Nat} {xs : Nat → Int32} (hX : va_X b L xs (z_s X) (z_s X).heap) (hbl : b < (z_s X).heap.size) (hbA : ¬ z_F X b) {jx : Nat} {a1 a2 a3 a4 : Int32} (hs1 : vp_in (nI (5 * jx) + 1) L ∧ xs (nI (5 * jx) + 1).toNatClampNeg = a1) (hs2 : vp_in (nI (5 * jx) + 2) L ∧ xs (nI (5 * jx) + 2).toNatClampNeg = a2) (hs3 : vp_in (nI (5 * jx) + 3) L ∧ xs (nI (5 * jx) + 3).toNatClampNeg = a3) (hs4 : vp_in (nI (5 * jx) + 4) L ∧ xs (nI (5 * jx) + 4).toNatClampNeg = a4) {u : sS} {x pa sp ln rf sb m pn td ou : Nat} {th : Int32} {on : Int64} {Mw : zM} (hI : s_LX (z_G X) x pa sp ln rf sb m pn td ou u u th on Mw) (hok : s_ok jx u) (hj : jx < 64) {kq nq : Nat} (hkq : kq + 4000 ≤ 600128) (hnq : nq + 60000 ≤ 7301098) (kk : ∀ v th on Mz, s_LX (z_G X) x pa sp ln rf sb m pn td ou v v th on Mz → s_ok (jx + 1) v → z_W X Mz (kq + 4000) (nq + 60000) 27 [(4, .int (nI (5 * (jx + 1)))), (0, .ref b), (1, .ref x), (2, .ref m), (3, .ref ou)] []) : z_W X Mw kq nq 877 [(4, .int (nI (5 * jx))), (0, .ref b), (1, .ref x), (2, .ref m), (3, .ref ou)] [] := by
  refine z_aload_n C dL_law_877 rfl 2 rfl ?_
  refine z_aload_n C dL_law_878 rfl 1 rfl ?_
  refine z_iload C dL_law_879 0 rfl ?_
  refine z_iconst C (v := 1) dL_law_881 (by decide) ?_
  refine z_iadd C dL_law_882 ?_
  refine z_sld C hX hbl hbA hs1.1 hs1.2 dL_law_883 ?_
  refine z_aload_n C dL_law_884 rfl 1 rfl ?_
  refine z_iload C dL_law_885 0 rfl ?_
  refine z_iconst C (v := 2) dL_law_887 (by decide) ?_
  refine z_iadd C dL_law_888 ?_
  refine z_sld C hX hbl hbA hs2.1 hs2.2 dL_law_889 ?_
  refine z_aload_n C dL_law_890 rfl 4 rfl ?_
  refine z_callHi (rest := []) (k' := kq + 8) (n' := nq + 48) C (s_LX_P hI (fun hC9 hd9 ho9 => w_end (z_l X) h_st hC9 hd9 ho9 hok a1 a2)) (ch_end C ⟨Nat.le_of_ble_eq_true rfl, Nat.le_of_ble_eq_true rfl⟩) rfl rfl (Nat.le_of_ble_eq_true rfl) rfl rfl (by show _ ≤ 600128; omega) (by show _ ≤ 7301098; omega) dL_law_891 (fun xk M1 hq => ?_)
  obtain ⟨hk1, on1, hI1, ho1⟩ := hq
  refine z_istore (lv' := [(5, .int xk), (4, .int (nI (5 * jx))), (0, .ref b), (1, .ref x), (2, .ref m), (3, .ref ou)]) C dL_law_894 (by decide) rfl ?_
  refine z_aload_n C dL_law_896 rfl 4 rfl ?_
  refine z_aload_n C dL_law_897 rfl 2 rfl ?_
  refine z_iload C dL_law_898 1 rfl ?_
  refine z_iconst C (v := 1) dL_law_900 (by decide) ?_
  refine z_iadd C dL_law_901 ?_
  refine z_sld C hX hbl hbA hs1.1 hs1.2 dL_law_902 ?_
  refine z_aload_n C dL_law_903 rfl 2 rfl ?_
  refine z_iload C dL_law_904 1 rfl ?_
  refine z_iconst C (v := 2) dL_law_906 (by decide) ?_
  refine z_iadd C dL_law_907 ?_
  refine z_sld C hX hbl hbA hs2.1 hs2.2 dL_law_908 ?_
  obtain ⟨tp9, hm9⟩ := s_LX_m hI1
  refine z_callVi (rest := []) (k' := kq + 8) (n' := nq + 48) C (s_LX_R hI1 (fun hR9 => a_X5_end (z_l X) hR9 hok (by omega) a1 a2)) (cs_L_182 C ⟨Nat.le_of_ble_eq_true rfl, Nat.le_of_ble_eq_true rfl⟩) hm9 rfl rfl rfl rfl (Nat.le_of_ble_eq_true rfl) rfl rfl (by show _ ≤ 600128; omega) (by show _ ≤ 7301098; omega) dL_law_909 (fun xr M2 hq => ?_)
  obtain ⟨hI2, hr2⟩ := hq
  obtain ⟨tp8, hm8⟩ := s_LX_m hI2
  obtain ⟨os8, hou8⟩ := s_LX_ou hI2
  refine z_istore (lv' := [(6, .int xr), (5, .int xk), (4, .int (nI (5 * jx))), (0, .ref b), (1, .ref x), (2, .ref m), (3, .ref ou)]) C dL_law_912 (by decide) rfl ?_
  refine z_aload_n C dL_law_914 rfl 5 rfl ?_
  refine z_callVi (rest := []) (k' := kq + 8) (n' := nq + 48) C (c_X5_thrown (z_l X) (z_G X) hm8) (cs_L_150 C ⟨Nat.le_of_ble_eq_true rfl, Nat.le_of_ble_eq_true rfl⟩) hm8 rfl rfl rfl rfl (Nat.le_of_ble_eq_true rfl) rfl rfl (by show _ ≤ 600128; omega) (by show _ ≤ 7301098; omega) dL_law_915 (fun x3 M3 hq => ?_)
  obtain ⟨e3, rfl⟩ := hq
  rw [e3]
  refine z_iload C dL_law_918 1 rfl ?_
  refine z_icmp_eq C (tgt := 925) dL_law_920 (by decide) (fun _ => ?_) (fun c920 => absurd hk1.symm c920)
  refine z_iload C dL_law_925 1 rfl ?_
  refine z_if_ne C (tgt := 943) dL_law_927 (by decide) (fun c927 => ?_) (fun c927 => ?_)
  · refine z_goto C (tgt := 2808) dL_law_943 (by decide) ?_
    refine z_iinc (v := nI (5 * (jx + 1))) (lv' := [(4, .int (nI (5 * (jx + 1)))), (6, .int xr), (5, .int xk), (0, .ref b), (1, .ref x), (2, .ref m), (3, .ref ou)]) C dL_law_2808 2 rfl (j_inc5 jx) (by decide) rfl ?_
    refine z_goto C (tgt := 27) dL_law_2811 (by decide) ?_
    refine z_fewer [0, 3, 4, 5, 6] rfl ?_
    refine z_widen (k' := kq + 4000) (n' := nq + 60000) (by omega) (by omega) ?_
    exact kk _ _ _ _ hI2 (so_end hok)
  · refine z_aload_n C dL_law_930 rfl 6 rfl ?_
    refine gf_L_13 C hou8 dL_law_931 ?_
    refine z_iload C dL_law_934 0 rfl ?_
    refine z_i2l C dL_law_936 ?_
    refine z_lcmp C dL_law_937 ?_
    refine z_if_eq C (tgt := 943) dL_law_938 (by decide) (fun _ => ?_) (fun c938 => absurd (by rw [ho1 (hk1.symm.trans c927), hr2 (hk1.symm.trans c927)]; exact lg_cmp_rf _) c938)
    refine z_goto C (tgt := 2808) dL_law_943 (by decide) ?_
    refine z_iinc (v := nI (5 * (jx + 1))) (lv' := [(4, .int (nI (5 * (jx + 1)))), (6, .int xr), (5, .int xk), (0, .ref b), (1, .ref x), (2, .ref m), (3, .ref ou)]) C dL_law_2808 2 rfl (j_inc5 jx) (by decide) rfl ?_
    refine z_goto C (tgt := 27) dL_law_2811 (by decide) ?_
    refine z_fewer [0, 3, 4, 5, 6] rfl ?_
    refine z_widen (k' := kq + 4000) (n' := nq + 60000) (by omega) (by omega) ?_
    exact kk _ _ _ _ hI2 (so_end hok)
set_option maxRecDepth 20000 in
theorem lc_stretch {X : zX} (C : z_C X cL_law RL 7 room_1) (h_st : (z_l X).stackTraces = false) {b L : Nat} {xs : Nat → Int32} (hX : va_X b L xs (z_s X) (z_s X).heap) (hbl : b < (z_s X).heap.size) (hbA : ¬ z_F X b) {jx : Nat} {a1 a2 a3 a4 : Int32} (hs1 : vp_in (nI (5 * jx) + 1) L ∧ xs (nI (5 * jx) + 1).toNatClampNeg = a1) (hs2 : vp_in (nI (5 * jx) + 2) L ∧ xs (nI (5 * jx) + 2).toNatClampNeg = a2) (hs3 : vp_in (nI (5 * jx) + 3) L ∧ xs (nI (5 * jx) + 3).toNatClampNeg = a3) (hs4 : vp_in (nI (5 * jx) + 4) L ∧ xs (nI (5 * jx) + 4).toNatClampNeg = a4) {u : sS} {x pa sp ln rf sb m pn td ou : Nat} {th : Int32} {on : Int64} {Mw : zM} (hI : s_LX (z_G X) x pa sp ln rf sb m pn td ou u u th on Mw) (hok : s_ok jx u) (hj : jx < 64) {kq nq : Nat} (hkq : kq + 4000 ≤ 600128) (hnq : nq + 60000 ≤ 7301098) (kk : ∀ v th on Mz, s_LX (z_G X) x pa sp ln rf sb m pn td ou v v th on Mz → s_ok (jx + 1) v → z_W X Mz (kq + 4000) (nq + 60000) 27 [(4, .int (nI (5 * (jx + 1)))), (0, .ref b), (1, .ref x), (2, .ref m), (3, .ref ou)] []) : z_W X Mw kq nq 946 [(4, .int (nI (5 * jx))), (0, .ref b), (1, .ref x), (2, .ref m), (3, .ref ou)] [] := by
  refine z_aload_n C dL_law_946 rfl 2 rfl ?_
  refine z_aload_n C dL_law_947 rfl 1 rfl ?_
  refine z_iload C dL_law_948 0 rfl ?_
  refine z_iconst C (v := 1) dL_law_950 (by decide) ?_
  refine z_iadd C dL_law_951 ?_
  refine z_sld C hX hbl hbA hs1.1 hs1.2 dL_law_952 ?_
  refine z_aload_n C dL_law_953 rfl 1 rfl ?_
  refine z_iload C dL_law_954 0 rfl ?_
  refine z_iconst C (v := 2) dL_law_956 (by decide) ?_
  refine z_iadd C dL_law_957 ?_
  refine z_sld C hX hbl hbA hs2.1 hs2.2 dL_law_958 ?_
  refine z_aload_n C dL_law_959 rfl 4 rfl ?_
  refine z_callHi (rest := []) (k' := kq + 8) (n' := nq + 48) C (s_LX_P hI (fun hC9 hd9 ho9 => w_stretch (z_l X) h_st hC9 hd9 ho9 hok a1 a2)) (ch_stretch C ⟨Nat.le_of_ble_eq_true rfl, Nat.le_of_ble_eq_true rfl⟩) rfl rfl (Nat.le_of_ble_eq_true rfl) rfl rfl (by show _ ≤ 600128; omega) (by show _ ≤ 7301098; omega) dL_law_960 (fun xk M1 hq => ?_)
  obtain ⟨hk1, on1, hI1, ho1⟩ := hq
  refine z_istore (lv' := [(5, .int xk), (4, .int (nI (5 * jx))), (0, .ref b), (1, .ref x), (2, .ref m), (3, .ref ou)]) C dL_law_963 (by decide) rfl ?_
  refine z_aload_n C dL_law_965 rfl 4 rfl ?_
  refine z_aload_n C dL_law_966 rfl 2 rfl ?_
  refine z_iload C dL_law_967 1 rfl ?_
  refine z_iconst C (v := 1) dL_law_969 (by decide) ?_
  refine z_iadd C dL_law_970 ?_
  refine z_sld C hX hbl hbA hs1.1 hs1.2 dL_law_971 ?_
  refine z_aload_n C dL_law_972 rfl 2 rfl ?_
  refine z_iload C dL_law_973 1 rfl ?_
  refine z_iconst C (v := 2) dL_law_975 (by decide) ?_
  refine z_iadd C dL_law_976 ?_
  refine z_sld C hX hbl hbA hs2.1 hs2.2 dL_law_977 ?_
  obtain ⟨tp9, hm9⟩ := s_LX_m hI1
  refine z_callVi (rest := []) (k' := kq + 8) (n' := nq + 48) C (s_LX_R hI1 (fun hR9 => a_X5_stretch (z_l X) hR9 hok (by omega) a1 a2)) (cs_L_185 C ⟨Nat.le_of_ble_eq_true rfl, Nat.le_of_ble_eq_true rfl⟩) hm9 rfl rfl rfl rfl (Nat.le_of_ble_eq_true rfl) rfl rfl (by show _ ≤ 600128; omega) (by show _ ≤ 7301098; omega) dL_law_978 (fun xr M2 hq => ?_)
  obtain ⟨hI2, hr2⟩ := hq
  obtain ⟨tp8, hm8⟩ := s_LX_m hI2
  obtain ⟨os8, hou8⟩ := s_LX_ou hI2
  refine z_istore (lv' := [(6, .int xr), (5, .int xk), (4, .int (nI (5 * jx))), (0, .ref b), (1, .ref x), (2, .ref m), (3, .ref ou)]) C dL_law_981 (by decide) rfl ?_
  refine z_aload_n C dL_law_983 rfl 5 rfl ?_
  refine z_callVi (rest := []) (k' := kq + 8) (n' := nq + 48) C (c_X5_thrown (z_l X) (z_G X) hm8) (cs_L_150 C ⟨Nat.le_of_ble_eq_true rfl, Nat.le_of_ble_eq_true rfl⟩) hm8 rfl rfl rfl rfl (Nat.le_of_ble_eq_true rfl) rfl rfl (by show _ ≤ 600128; omega) (by show _ ≤ 7301098; omega) dL_law_984 (fun x3 M3 hq => ?_)
  obtain ⟨e3, rfl⟩ := hq
  rw [e3]
  refine z_iload C dL_law_987 1 rfl ?_
  refine z_icmp_eq C (tgt := 994) dL_law_989 (by decide) (fun _ => ?_) (fun c989 => absurd hk1.symm c989)
  refine z_iload C dL_law_994 1 rfl ?_
  refine z_if_ne C (tgt := 1012) dL_law_996 (by decide) (fun c996 => ?_) (fun c996 => ?_)
  · refine z_goto C (tgt := 2808) dL_law_1012 (by decide) ?_
    refine z_iinc (v := nI (5 * (jx + 1))) (lv' := [(4, .int (nI (5 * (jx + 1)))), (6, .int xr), (5, .int xk), (0, .ref b), (1, .ref x), (2, .ref m), (3, .ref ou)]) C dL_law_2808 2 rfl (j_inc5 jx) (by decide) rfl ?_
    refine z_goto C (tgt := 27) dL_law_2811 (by decide) ?_
    refine z_fewer [0, 3, 4, 5, 6] rfl ?_
    refine z_widen (k' := kq + 4000) (n' := nq + 60000) (by omega) (by omega) ?_
    exact kk _ _ _ _ hI2 (so_stretch hok)
  · refine z_aload_n C dL_law_999 rfl 6 rfl ?_
    refine gf_L_13 C hou8 dL_law_1000 ?_
    refine z_iload C dL_law_1003 0 rfl ?_
    refine z_i2l C dL_law_1005 ?_
    refine z_lcmp C dL_law_1006 ?_
    refine z_if_eq C (tgt := 1012) dL_law_1007 (by decide) (fun _ => ?_) (fun c1007 => absurd (by rw [ho1 (hk1.symm.trans c996), hr2 (hk1.symm.trans c996)]; exact lg_cmp_rf _) c1007)
    refine z_goto C (tgt := 2808) dL_law_1012 (by decide) ?_
    refine z_iinc (v := nI (5 * (jx + 1))) (lv' := [(4, .int (nI (5 * (jx + 1)))), (6, .int xr), (5, .int xk), (0, .ref b), (1, .ref x), (2, .ref m), (3, .ref ou)]) C dL_law_2808 2 rfl (j_inc5 jx) (by decide) rfl ?_
    refine z_goto C (tgt := 27) dL_law_2811 (by decide) ?_
    refine z_fewer [0, 3, 4, 5, 6] rfl ?_
    refine z_widen (k' := kq + 4000) (n' := nq + 60000) (by omega) (by omega) ?_
    exact kk _ _ _ _ hI2 (so_stretch hok)
