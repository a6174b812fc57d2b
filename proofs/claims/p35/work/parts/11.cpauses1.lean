theorem dL_pauses_273 : decode cL_pauses 273 = .ok (.aload_n 0, 1) := by decide +kernel
theorem dL_pauses_274 : decode cL_pauses 274 = .ok (.iconst 0, 1) := by decide +kernel
theorem dL_pauses_275 : decode cL_pauses 275 = .ok (.bipush 8, 2) := by decide +kernel
theorem dL_pauses_277 : decode cL_pauses 277 = .ok (.invokevirtual 19, 3) := by decide +kernel
theorem dL_pauses_280 : decode cL_pauses 280 = .ok (.iconst 2, 1) := by decide +kernel
theorem dL_pauses_281 : decode cL_pauses 281 = .ok (.if_icmp .ne 43, 3) := by decide +kernel
theorem dL_pauses_284 : decode cL_pauses 284 = .ok (.aload_n 0, 1) := by decide +kernel
theorem dL_pauses_285 : decode cL_pauses 285 = .ok (.iconst 0, 1) := by decide +kernel
theorem dL_pauses_286 : decode cL_pauses 286 = .ok (.iconst 1, 1) := by decide +kernel
theorem dL_pauses_287 : decode cL_pauses 287 = .ok (.invokevirtual 28, 3) := by decide +kernel
theorem dL_pauses_290 : decode cL_pauses 290 = .ok (.iconst 3, 1) := by decide +kernel
theorem dL_pauses_291 : decode cL_pauses 291 = .ok (.if_icmp .ne 33, 3) := by decide +kernel
theorem dL_pauses_294 : decode cL_pauses 294 = .ok (.aload_n 0, 1) := by decide +kernel
theorem dL_pauses_295 : decode cL_pauses 295 = .ok (.iconst 3, 1) := by decide +kernel
theorem dL_pauses_296 : decode cL_pauses 296 = .ok (.invokevirtual 81, 3) := by decide +kernel
theorem dL_pauses_299 : decode cL_pauses 299 = .ok (.ifCond .ne 25, 3) := by decide +kernel
theorem dL_pauses_302 : decode cL_pauses 302 = .ok (.aload_n 0, 1) := by decide +kernel
theorem dL_pauses_303 : decode cL_pauses 303 = .ok (.iconst 1, 1) := by decide +kernel
theorem dL_pauses_304 : decode cL_pauses 304 = .ok (.bipush 6, 2) := by decide +kernel
theorem dL_pauses_306 : decode cL_pauses 306 = .ok (.invokevirtual 47, 3) := by decide +kernel
theorem dL_pauses_309 : decode cL_pauses 309 = .ok (.iconst 1, 1) := by decide +kernel
theorem dL_pauses_310 : decode cL_pauses 310 = .ok (.if_icmp .ne 14, 3) := by decide +kernel
theorem dL_pauses_313 : decode cL_pauses 313 = .ok (.aload_n 0, 1) := by decide +kernel
theorem dL_pauses_314 : decode cL_pauses 314 = .ok (.iconst 1, 1) := by decide +kernel
theorem dL_pauses_315 : decode cL_pauses 315 = .ok (.iconst 4, 1) := by decide +kernel
theorem dL_pauses_316 : decode cL_pauses 316 = .ok (.invokevirtual 47, 3) := by decide +kernel
theorem dL_pauses_319 : decode cL_pauses 319 = .ok (.bipush 6, 2) := by decide +kernel
theorem dL_pauses_321 : decode cL_pauses 321 = .ok (.if_icmp .eq 5, 3) := by decide +kernel
theorem dL_pauses_324 : decode cL_pauses 324 = .ok (.iconst 0, 1) := by decide +kernel
theorem dL_pauses_325 : decode cL_pauses 325 = .ok (.ireturn, 1) := by decide +kernel
theorem dL_pauses_326 : decode cL_pauses 326 = .ok (.aload_n 0, 1) := by decide +kernel
theorem dL_pauses_327 : decode cL_pauses 327 = .ok (.iconst 1, 1) := by decide +kernel
theorem dL_pauses_328 : decode cL_pauses 328 = .ok (.invokevirtual 81, 3) := by decide +kernel
theorem dL_pauses_331 : decode cL_pauses 331 = .ok (.ifCond .ne 104, 3) := by decide +kernel
theorem dL_pauses_334 : decode cL_pauses 334 = .ok (.aload_n 0, 1) := by decide +kernel
theorem dL_pauses_335 : decode cL_pauses 335 = .ok (.iconst 1, 1) := by decide +kernel
theorem dL_pauses_336 : decode cL_pauses 336 = .ok (.bipush 6, 2) := by decide +kernel
theorem dL_pauses_338 : decode cL_pauses 338 = .ok (.invokevirtual 47, 3) := by decide +kernel
theorem dL_pauses_341 : decode cL_pauses 341 = .ok (.iconst 5, 1) := by decide +kernel
theorem dL_pauses_342 : decode cL_pauses 342 = .ok (.if_icmp .ne 93, 3) := by decide +kernel
theorem dL_pauses_345 : decode cL_pauses 345 = .ok (.aload_n 0, 1) := by decide +kernel
theorem dL_pauses_346 : decode cL_pauses 346 = .ok (.iconst 1, 1) := by decide +kernel
theorem dL_pauses_347 : decode cL_pauses 347 = .ok (.bipush 13, 2) := by decide +kernel
theorem dL_pauses_349 : decode cL_pauses 349 = .ok (.invokevirtual 47, 3) := by decide +kernel
theorem dL_pauses_352 : decode cL_pauses 352 = .ok (.iconst 2, 1) := by decide +kernel
theorem dL_pauses_353 : decode cL_pauses 353 = .ok (.if_icmp .ne 82, 3) := by decide +kernel
theorem dL_pauses_356 : decode cL_pauses 356 = .ok (.aload_n 0, 1) := by decide +kernel
theorem dL_pauses_357 : decode cL_pauses 357 = .ok (.iconst 1, 1) := by decide +kernel
theorem dL_pauses_358 : decode cL_pauses 358 = .ok (.bipush 12, 2) := by decide +kernel
theorem dL_pauses_360 : decode cL_pauses 360 = .ok (.invokevirtual 47, 3) := by decide +kernel
theorem dL_pauses_363 : decode cL_pauses 363 = .ok (.ifCond .ne 72, 3) := by decide +kernel
theorem dL_pauses_366 : decode cL_pauses 366 = .ok (.aload_n 0, 1) := by decide +kernel
theorem dL_pauses_367 : decode cL_pauses 367 = .ok (.iconst 1, 1) := by decide +kernel
theorem dL_pauses_368 : decode cL_pauses 368 = .ok (.iconst 4, 1) := by decide +kernel
theorem dL_pauses_369 : decode cL_pauses 369 = .ok (.invokevirtual 47, 3) := by decide +kernel
theorem dL_pauses_372 : decode cL_pauses 372 = .ok (.iconst 5, 1) := by decide +kernel
theorem dL_pauses_373 : decode cL_pauses 373 = .ok (.if_icmp .ne 62, 3) := by decide +kernel
theorem dL_pauses_376 : decode cL_pauses 376 = .ok (.aload_n 0, 1) := by decide +kernel
theorem dL_pauses_377 : decode cL_pauses 377 = .ok (.iconst 2, 1) := by decide +kernel
theorem dL_pauses_378 : decode cL_pauses 378 = .ok (.bipush 8, 2) := by decide +kernel
theorem dL_pauses_380 : decode cL_pauses 380 = .ok (.invokevirtual 47, 3) := by decide +kernel
theorem dL_pauses_383 : decode cL_pauses 383 = .ok (.ifCond .ne 52, 3) := by decide +kernel
theorem dL_pauses_386 : decode cL_pauses 386 = .ok (.aload_n 0, 1) := by decide +kernel
theorem dL_pauses_387 : decode cL_pauses 387 = .ok (.iconst 0, 1) := by decide +kernel
theorem dL_pauses_388 : decode cL_pauses 388 = .ok (.bipush 6, 2) := by decide +kernel
theorem dL_pauses_390 : decode cL_pauses 390 = .ok (.invokevirtual 19, 3) := by decide +kernel
theorem dL_pauses_393 : decode cL_pauses 393 = .ok (.iconst 1, 1) := by decide +kernel
theorem dL_pauses_394 : decode cL_pauses 394 = .ok (.if_icmp .ne 41, 3) := by decide +kernel
theorem dL_pauses_397 : decode cL_pauses 397 = .ok (.aload_n 0, 1) := by decide +kernel
theorem dL_pauses_398 : decode cL_pauses 398 = .ok (.iconst 1, 1) := by decide +kernel
theorem dL_pauses_399 : decode cL_pauses 399 = .ok (.iconst 0, 1) := by decide +kernel
theorem dL_pauses_400 : decode cL_pauses 400 = .ok (.iconst 2, 1) := by decide +kernel
theorem dL_pauses_401 : decode cL_pauses 401 = .ok (.iconst 0, 1) := by decide +kernel
theorem dL_pauses_402 : decode cL_pauses 402 = .ok (.bipush 7, 2) := by decide +kernel
theorem dL_pauses_404 : decode cL_pauses 404 = .ok (.invokestatic 197, 3) := by decide +kernel
theorem dL_pauses_407 : decode cL_pauses 407 = .ok (.ifCond .eq 28, 3) := by decide +kernel
theorem dL_pauses_410 : decode cL_pauses 410 = .ok (.aload_n 0, 1) := by decide +kernel
theorem dL_pauses_411 : decode cL_pauses 411 = .ok (.iconst 2, 1) := by decide +kernel
theorem dL_pauses_412 : decode cL_pauses 412 = .ok (.iconst 5, 1) := by decide +kernel
theorem dL_pauses_413 : decode cL_pauses 413 = .ok (.iconst 1, 1) := by decide +kernel
theorem dL_pauses_414 : decode cL_pauses 414 = .ok (.iconst 0, 1) := by decide +kernel
theorem dL_pauses_415 : decode cL_pauses 415 = .ok (.bipush 7, 2) := by decide +kernel
theorem dL_pauses_417 : decode cL_pauses 417 = .ok (.invokestatic 197, 3) := by decide +kernel
theorem dL_pauses_420 : decode cL_pauses 420 = .ok (.ifCond .eq 15, 3) := by decide +kernel
theorem dL_pauses_423 : decode cL_pauses 423 = .ok (.aload_n 0, 1) := by decide +kernel
theorem dL_pauses_424 : decode cL_pauses 424 = .ok (.bipush 13, 2) := by decide +kernel
theorem dL_pauses_426 : decode cL_pauses 426 = .ok (.invokevirtual 36, 3) := by decide +kernel
theorem dL_pauses_429 : decode cL_pauses 429 = .ok (.sipush 220, 3) := by decide +kernel
theorem dL_pauses_432 : decode cL_pauses 432 = .ok (.if_icmp .eq 5, 3) := by decide +kernel
theorem dL_pauses_435 : decode cL_pauses 435 = .ok (.iconst 0, 1) := by decide +kernel
theorem dL_pauses_436 : decode cL_pauses 436 = .ok (.ireturn, 1) := by decide +kernel
theorem dL_pauses_437 : decode cL_pauses 437 = .ok (.aload_n 0, 1) := by decide +kernel
theorem dL_pauses_438 : decode cL_pauses 438 = .ok (.iconst 0, 1) := by decide +kernel
theorem dL_pauses_439 : decode cL_pauses 439 = .ok (.bipush 9, 2) := by decide +kernel
theorem dL_pauses_441 : decode cL_pauses 441 = .ok (.invokevirtual 59, 3) := by decide +kernel
theorem dL_pauses_444 : decode cL_pauses 444 = .ok (.bipush (-4), 2) := by decide +kernel
theorem dL_pauses_446 : decode cL_pauses 446 = .ok (.if_icmp .ne 103, 3) := by decide +kernel
theorem dL_pauses_449 : decode cL_pauses 449 = .ok (.aload_n 0, 1) := by decide +kernel
theorem dL_pauses_450 : decode cL_pauses 450 = .ok (.iconst 2, 1) := by decide +kernel
theorem dL_pauses_451 : decode cL_pauses 451 = .ok (.invokevirtual 103, 3) := by decide +kernel
theorem dL_pauses_454 : decode cL_pauses 454 = .ok (.sipush 147, 3) := by decide +kernel
theorem dL_pauses_457 : decode cL_pauses 457 = .ok (.if_icmp .ne 92, 3) := by decide +kernel
theorem dL_pauses_460 : decode cL_pauses 460 = .ok (.aload_n 0, 1) := by decide +kernel
theorem dL_pauses_461 : decode cL_pauses 461 = .ok (.bipush 12, 2) := by decide +kernel
theorem dL_pauses_463 : decode cL_pauses 463 = .ok (.invokevirtual 36, 3) := by decide +kernel
theorem dL_pauses_466 : decode cL_pauses 466 = .ok (.sipush 148, 3) := by decide +kernel
theorem dL_pauses_469 : decode cL_pauses 469 = .ok (.if_icmp .ne 80, 3) := by decide +kernel
theorem dL_pauses_472 : decode cL_pauses 472 = .ok (.aload_n 0, 1) := by decide +kernel
theorem dL_pauses_473 : decode cL_pauses 473 = .ok (.bipush 13, 2) := by decide +kernel
theorem dL_pauses_475 : decode cL_pauses 475 = .ok (.invokevirtual 36, 3) := by decide +kernel
theorem dL_pauses_478 : decode cL_pauses 478 = .ok (.sipush 367, 3) := by decide +kernel
theorem dL_pauses_481 : decode cL_pauses 481 = .ok (.if_icmp .ne 68, 3) := by decide +kernel
theorem dL_pauses_484 : decode cL_pauses 484 = .ok (.aload_n 0, 1) := by decide +kernel
theorem dL_pauses_485 : decode cL_pauses 485 = .ok (.iconst 2, 1) := by decide +kernel
theorem dL_pauses_486 : decode cL_pauses 486 = .ok (.invokevirtual 103, 3) := by decide +kernel
theorem dL_pauses_489 : decode cL_pauses 489 = .ok (.bipush (-4), 2) := by decide +kernel
theorem dL_pauses_491 : decode cL_pauses 491 = .ok (.if_icmp .ne 58, 3) := by decide +kernel
theorem dL_pauses_494 : decode cL_pauses 494 = .ok (.aload_n 0, 1) := by decide +kernel
theorem dL_pauses_495 : decode cL_pauses 495 = .ok (.iconst 2, 1) := by decide +kernel
theorem dL_pauses_496 : decode cL_pauses 496 = .ok (.iconst 0, 1) := by decide +kernel
theorem dL_pauses_497 : decode cL_pauses 497 = .ok (.invokevirtual 109, 3) := by decide +kernel
theorem dL_pauses_500 : decode cL_pauses 500 = .ok (.bipush (-4), 2) := by decide +kernel
theorem dL_pauses_502 : decode cL_pauses 502 = .ok (.if_icmp .ne 47, 3) := by decide +kernel
theorem dL_pauses_505 : decode cL_pauses 505 = .ok (.aload_n 0, 1) := by decide +kernel
theorem dL_pauses_506 : decode cL_pauses 506 = .ok (.iconst 0, 1) := by decide +kernel
theorem dL_pauses_507 : decode cL_pauses 507 = .ok (.iconst 0, 1) := by decide +kernel
theorem dL_pauses_508 : decode cL_pauses 508 = .ok (.invokevirtual 40, 3) := by decide +kernel
theorem dL_pauses_511 : decode cL_pauses 511 = .ok (.bipush (-5), 2) := by decide +kernel
theorem dL_pauses_513 : decode cL_pauses 513 = .ok (.if_icmp .ne 36, 3) := by decide +kernel
theorem dL_pauses_516 : decode cL_pauses 516 = .ok (.aload_n 0, 1) := by decide +kernel
theorem dL_pauses_517 : decode cL_pauses 517 = .ok (.iconst 0, 1) := by decide +kernel
theorem dL_pauses_518 : decode cL_pauses 518 = .ok (.iconst 3, 1) := by decide +kernel
theorem dL_pauses_519 : decode cL_pauses 519 = .ok (.invokevirtual 59, 3) := by decide +kernel
theorem dL_pauses_522 : decode cL_pauses 522 = .ok (.bipush (-4), 2) := by decide +kernel
theorem dL_pauses_524 : decode cL_pauses 524 = .ok (.if_icmp .ne 25, 3) := by decide +kernel
theorem dL_pauses_527 : decode cL_pauses 527 = .ok (.aload_n 0, 1) := by decide +kernel
theorem dL_pauses_528 : decode cL_pauses 528 = .ok (.iconst 0, 1) := by decide +kernel
theorem dL_pauses_529 : decode cL_pauses 529 = .ok (.iconst 4, 1) := by decide +kernel
theorem dL_pauses_530 : decode cL_pauses 530 = .ok (.invokevirtual 59, 3) := by decide +kernel
theorem dL_pauses_533 : decode cL_pauses 533 = .ok (.bipush 8, 2) := by decide +kernel
theorem dL_pauses_535 : decode cL_pauses 535 = .ok (.if_icmp .ne 14, 3) := by decide +kernel
theorem dL_pauses_538 : decode cL_pauses 538 = .ok (.aload_n 0, 1) := by decide +kernel
theorem dL_pauses_539 : decode cL_pauses 539 = .ok (.iconst 0, 1) := by decide +kernel
theorem dL_pauses_540 : decode cL_pauses 540 = .ok (.iconst 4, 1) := by decide +kernel
theorem dL_pauses_541 : decode cL_pauses 541 = .ok (.invokevirtual 59, 3) := by decide +kernel
theorem dL_pauses_544 : decode cL_pauses 544 = .ok (.bipush (-5), 2) := by decide +kernel
theorem dL_pauses_546 : decode cL_pauses 546 = .ok (.if_icmp .eq 5, 3) := by decide +kernel
theorem dL_pauses_549 : decode cL_pauses 549 = .ok (.iconst 0, 1) := by decide +kernel
theorem dL_pauses_550 : decode cL_pauses 550 = .ok (.ireturn, 1) := by decide +kernel
theorem dL_pauses_551 : decode cL_pauses 551 = .ok (.aload_n 0, 1) := by decide +kernel
theorem dL_pauses_552 : decode cL_pauses 552 = .ok (.iconst 1, 1) := by decide +kernel
theorem dL_pauses_553 : decode cL_pauses 553 = .ok (.invokevirtual 81, 3) := by decide +kernel
theorem dL_pauses_556 : decode cL_pauses 556 = .ok (.ifCond .ne 78, 3) := by decide +kernel
theorem dL_pauses_559 : decode cL_pauses 559 = .ok (.aload_n 0, 1) := by decide +kernel
theorem dL_pauses_560 : decode cL_pauses 560 = .ok (.iconst 0, 1) := by decide +kernel
