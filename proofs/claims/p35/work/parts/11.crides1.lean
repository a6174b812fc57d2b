theorem dL_rides_240 : decode cL_rides 240 = .ok (.bipush 6, 2) := by decide +kernel
theorem dL_rides_242 : decode cL_rides 242 = .ok (.if_icmp .eq 5, 3) := by decide +kernel
theorem dL_rides_245 : decode cL_rides 245 = .ok (.iconst 0, 1) := by decide +kernel
theorem dL_rides_246 : decode cL_rides 246 = .ok (.ireturn, 1) := by decide +kernel
theorem dL_rides_247 : decode cL_rides 247 = .ok (.aload_n 0, 1) := by decide +kernel
theorem dL_rides_248 : decode cL_rides 248 = .ok (.iconst 0, 1) := by decide +kernel
theorem dL_rides_249 : decode cL_rides 249 = .ok (.iconst 5, 1) := by decide +kernel
theorem dL_rides_250 : decode cL_rides 250 = .ok (.invokevirtual 62, 3) := by decide +kernel
theorem dL_rides_253 : decode cL_rides 253 = .ok (.iconst 2, 1) := by decide +kernel
theorem dL_rides_254 : decode cL_rides 254 = .ok (.if_icmp .ne 98, 3) := by decide +kernel
theorem dL_rides_257 : decode cL_rides 257 = .ok (.aload_n 0, 1) := by decide +kernel
theorem dL_rides_258 : decode cL_rides 258 = .ok (.iconst 2, 1) := by decide +kernel
theorem dL_rides_259 : decode cL_rides 259 = .ok (.iconst 5, 1) := by decide +kernel
theorem dL_rides_260 : decode cL_rides 260 = .ok (.invokevirtual 87, 3) := by decide +kernel
theorem dL_rides_263 : decode cL_rides 263 = .ok (.iconst 1, 1) := by decide +kernel
theorem dL_rides_264 : decode cL_rides 264 = .ok (.if_icmp .ne 88, 3) := by decide +kernel
theorem dL_rides_267 : decode cL_rides 267 = .ok (.aload_n 0, 1) := by decide +kernel
theorem dL_rides_268 : decode cL_rides 268 = .ok (.iconst 2, 1) := by decide +kernel
theorem dL_rides_269 : decode cL_rides 269 = .ok (.bipush 7, 2) := by decide +kernel
theorem dL_rides_271 : decode cL_rides 271 = .ok (.invokevirtual 87, 3) := by decide +kernel
theorem dL_rides_274 : decode cL_rides 274 = .ok (.iconst 2, 1) := by decide +kernel
theorem dL_rides_275 : decode cL_rides 275 = .ok (.if_icmp .ne 77, 3) := by decide +kernel
theorem dL_rides_278 : decode cL_rides 278 = .ok (.aload_n 0, 1) := by decide +kernel
theorem dL_rides_279 : decode cL_rides 279 = .ok (.iconst 2, 1) := by decide +kernel
theorem dL_rides_280 : decode cL_rides 280 = .ok (.iconst 5, 1) := by decide +kernel
theorem dL_rides_281 : decode cL_rides 281 = .ok (.invokevirtual 87, 3) := by decide +kernel
theorem dL_rides_284 : decode cL_rides 284 = .ok (.iconst 3, 1) := by decide +kernel
theorem dL_rides_285 : decode cL_rides 285 = .ok (.if_icmp .ne 67, 3) := by decide +kernel
theorem dL_rides_288 : decode cL_rides 288 = .ok (.aload_n 0, 1) := by decide +kernel
theorem dL_rides_289 : decode cL_rides 289 = .ok (.iconst 2, 1) := by decide +kernel
theorem dL_rides_290 : decode cL_rides 290 = .ok (.bipush 9, 2) := by decide +kernel
theorem dL_rides_292 : decode cL_rides 292 = .ok (.invokevirtual 87, 3) := by decide +kernel
theorem dL_rides_295 : decode cL_rides 295 = .ok (.bipush (-3), 2) := by decide +kernel
theorem dL_rides_297 : decode cL_rides 297 = .ok (.if_icmp .ne 55, 3) := by decide +kernel
theorem dL_rides_300 : decode cL_rides 300 = .ok (.aload_n 0, 1) := by decide +kernel
theorem dL_rides_301 : decode cL_rides 301 = .ok (.iconst 2, 1) := by decide +kernel
theorem dL_rides_302 : decode cL_rides 302 = .ok (.invokevirtual 81, 3) := by decide +kernel
theorem dL_rides_305 : decode cL_rides 305 = .ok (.ifCond .ne 47, 3) := by decide +kernel
theorem dL_rides_308 : decode cL_rides 308 = .ok (.aload_n 0, 1) := by decide +kernel
theorem dL_rides_309 : decode cL_rides 309 = .ok (.iconst 5, 1) := by decide +kernel
theorem dL_rides_310 : decode cL_rides 310 = .ok (.iconst 2, 1) := by decide +kernel
theorem dL_rides_311 : decode cL_rides 311 = .ok (.iconst 0, 1) := by decide +kernel
theorem dL_rides_312 : decode cL_rides 312 = .ok (.iconst 1, 1) := by decide +kernel
theorem dL_rides_313 : decode cL_rides 313 = .ok (.iconst 3, 1) := by decide +kernel
theorem dL_rides_314 : decode cL_rides 314 = .ok (.invokevirtual 96, 3) := by decide +kernel
theorem dL_rides_317 : decode cL_rides 317 = .ok (.iconst 1, 1) := by decide +kernel
theorem dL_rides_318 : decode cL_rides 318 = .ok (.if_icmp .ne 34, 3) := by decide +kernel
theorem dL_rides_321 : decode cL_rides 321 = .ok (.aload_n 0, 1) := by decide +kernel
theorem dL_rides_322 : decode cL_rides 322 = .ok (.iconst 1, 1) := by decide +kernel
theorem dL_rides_323 : decode cL_rides 323 = .ok (.iconst 5, 1) := by decide +kernel
theorem dL_rides_324 : decode cL_rides 324 = .ok (.invokevirtual 47, 3) := by decide +kernel
theorem dL_rides_327 : decode cL_rides 327 = .ok (.bipush 60, 2) := by decide +kernel
theorem dL_rides_329 : decode cL_rides 329 = .ok (.if_icmp .ne 23, 3) := by decide +kernel
theorem dL_rides_332 : decode cL_rides 332 = .ok (.aload_n 0, 1) := by decide +kernel
theorem dL_rides_333 : decode cL_rides 333 = .ok (.iconst 1, 1) := by decide +kernel
theorem dL_rides_334 : decode cL_rides 334 = .ok (.iconst 0, 1) := by decide +kernel
theorem dL_rides_335 : decode cL_rides 335 = .ok (.invokevirtual 109, 3) := by decide +kernel
theorem dL_rides_338 : decode cL_rides 338 = .ok (.iconst 4, 1) := by decide +kernel
theorem dL_rides_339 : decode cL_rides 339 = .ok (.if_icmp .ne 13, 3) := by decide +kernel
theorem dL_rides_342 : decode cL_rides 342 = .ok (.aload_n 0, 1) := by decide +kernel
theorem dL_rides_343 : decode cL_rides 343 = .ok (.iconst 1, 1) := by decide +kernel
theorem dL_rides_344 : decode cL_rides 344 = .ok (.iconst 1, 1) := by decide +kernel
theorem dL_rides_345 : decode cL_rides 345 = .ok (.invokevirtual 109, 3) := by decide +kernel
theorem dL_rides_348 : decode cL_rides 348 = .ok (.iconst 4, 1) := by decide +kernel
theorem dL_rides_349 : decode cL_rides 349 = .ok (.if_icmp .eq 5, 3) := by decide +kernel
theorem dL_rides_352 : decode cL_rides 352 = .ok (.iconst 0, 1) := by decide +kernel
theorem dL_rides_353 : decode cL_rides 353 = .ok (.ireturn, 1) := by decide +kernel
theorem dL_rides_354 : decode cL_rides 354 = .ok (.aload_n 0, 1) := by decide +kernel
theorem dL_rides_355 : decode cL_rides 355 = .ok (.iconst 4, 1) := by decide +kernel
theorem dL_rides_356 : decode cL_rides 356 = .ok (.invokevirtual 81, 3) := by decide +kernel
theorem dL_rides_359 : decode cL_rides 359 = .ok (.ifCond .ne 80, 3) := by decide +kernel
theorem dL_rides_362 : decode cL_rides 362 = .ok (.aload_n 0, 1) := by decide +kernel
theorem dL_rides_363 : decode cL_rides 363 = .ok (.iconst 1, 1) := by decide +kernel
theorem dL_rides_364 : decode cL_rides 364 = .ok (.bipush 6, 2) := by decide +kernel
theorem dL_rides_366 : decode cL_rides 366 = .ok (.invokevirtual 47, 3) := by decide +kernel
theorem dL_rides_369 : decode cL_rides 369 = .ok (.iconst 4, 1) := by decide +kernel
theorem dL_rides_370 : decode cL_rides 370 = .ok (.if_icmp .ne 69, 3) := by decide +kernel
theorem dL_rides_373 : decode cL_rides 373 = .ok (.aload_n 0, 1) := by decide +kernel
theorem dL_rides_374 : decode cL_rides 374 = .ok (.bipush 13, 2) := by decide +kernel
theorem dL_rides_376 : decode cL_rides 376 = .ok (.invokevirtual 36, 3) := by decide +kernel
theorem dL_rides_379 : decode cL_rides 379 = .ok (.bipush 60, 2) := by decide +kernel
theorem dL_rides_381 : decode cL_rides 381 = .ok (.if_icmp .ne 58, 3) := by decide +kernel
theorem dL_rides_384 : decode cL_rides 384 = .ok (.aload_n 0, 1) := by decide +kernel
theorem dL_rides_385 : decode cL_rides 385 = .ok (.iconst 2, 1) := by decide +kernel
theorem dL_rides_386 : decode cL_rides 386 = .ok (.iconst 5, 1) := by decide +kernel
theorem dL_rides_387 : decode cL_rides 387 = .ok (.invokevirtual 19, 3) := by decide +kernel
theorem dL_rides_390 : decode cL_rides 390 = .ok (.iconst 1, 1) := by decide +kernel
theorem dL_rides_391 : decode cL_rides 391 = .ok (.if_icmp .ne 48, 3) := by decide +kernel
theorem dL_rides_394 : decode cL_rides 394 = .ok (.aload_n 0, 1) := by decide +kernel
theorem dL_rides_395 : decode cL_rides 395 = .ok (.iconst 2, 1) := by decide +kernel
theorem dL_rides_396 : decode cL_rides 396 = .ok (.bipush 7, 2) := by decide +kernel
theorem dL_rides_398 : decode cL_rides 398 = .ok (.invokevirtual 19, 3) := by decide +kernel
theorem dL_rides_401 : decode cL_rides 401 = .ok (.iconst 2, 1) := by decide +kernel
theorem dL_rides_402 : decode cL_rides 402 = .ok (.if_icmp .ne 37, 3) := by decide +kernel
theorem dL_rides_405 : decode cL_rides 405 = .ok (.aload_n 0, 1) := by decide +kernel
theorem dL_rides_406 : decode cL_rides 406 = .ok (.iconst 2, 1) := by decide +kernel
theorem dL_rides_407 : decode cL_rides 407 = .ok (.iconst 0, 1) := by decide +kernel
theorem dL_rides_408 : decode cL_rides 408 = .ok (.invokevirtual 31, 3) := by decide +kernel
theorem dL_rides_411 : decode cL_rides 411 = .ok (.bipush 7, 2) := by decide +kernel
theorem dL_rides_413 : decode cL_rides 413 = .ok (.if_icmp .ne 26, 3) := by decide +kernel
theorem dL_rides_416 : decode cL_rides 416 = .ok (.aload_n 0, 1) := by decide +kernel
theorem dL_rides_417 : decode cL_rides 417 = .ok (.iconst 2, 1) := by decide +kernel
theorem dL_rides_418 : decode cL_rides 418 = .ok (.iconst 1, 1) := by decide +kernel
theorem dL_rides_419 : decode cL_rides 419 = .ok (.invokevirtual 31, 3) := by decide +kernel
theorem dL_rides_422 : decode cL_rides 422 = .ok (.iconst 5, 1) := by decide +kernel
theorem dL_rides_423 : decode cL_rides 423 = .ok (.if_icmp .ne 16, 3) := by decide +kernel
theorem dL_rides_426 : decode cL_rides 426 = .ok (.aload_n 0, 1) := by decide +kernel
theorem dL_rides_427 : decode cL_rides 427 = .ok (.iconst 0, 1) := by decide +kernel
theorem dL_rides_428 : decode cL_rides 428 = .ok (.iconst 2, 1) := by decide +kernel
theorem dL_rides_429 : decode cL_rides 429 = .ok (.iconst 1, 1) := by decide +kernel
theorem dL_rides_430 : decode cL_rides 430 = .ok (.iconst 2, 1) := by decide +kernel
theorem dL_rides_431 : decode cL_rides 431 = .ok (.bipush 11, 2) := by decide +kernel
theorem dL_rides_433 : decode cL_rides 433 = .ok (.invokestatic 197, 3) := by decide +kernel
theorem dL_rides_436 : decode cL_rides 436 = .ok (.ifCond .ne 5, 3) := by decide +kernel
theorem dL_rides_439 : decode cL_rides 439 = .ok (.iconst 0, 1) := by decide +kernel
theorem dL_rides_440 : decode cL_rides 440 = .ok (.ireturn, 1) := by decide +kernel
theorem dL_rides_441 : decode cL_rides 441 = .ok (.aload_n 0, 1) := by decide +kernel
theorem dL_rides_442 : decode cL_rides 442 = .ok (.iconst 2, 1) := by decide +kernel
theorem dL_rides_443 : decode cL_rides 443 = .ok (.invokevirtual 90, 3) := by decide +kernel
theorem dL_rides_446 : decode cL_rides 446 = .ok (.bipush 7, 2) := by decide +kernel
theorem dL_rides_448 : decode cL_rides 448 = .ok (.if_icmp .ne 22, 3) := by decide +kernel
theorem dL_rides_451 : decode cL_rides 451 = .ok (.aload_n 0, 1) := by decide +kernel
theorem dL_rides_452 : decode cL_rides 452 = .ok (.iconst 2, 1) := by decide +kernel
theorem dL_rides_453 : decode cL_rides 453 = .ok (.invokevirtual 90, 3) := by decide +kernel
theorem dL_rides_456 : decode cL_rides 456 = .ok (.iconst 5, 1) := by decide +kernel
theorem dL_rides_457 : decode cL_rides 457 = .ok (.if_icmp .ne 13, 3) := by decide +kernel
theorem dL_rides_460 : decode cL_rides 460 = .ok (.aload_n 0, 1) := by decide +kernel
theorem dL_rides_461 : decode cL_rides 461 = .ok (.iconst 2, 1) := by decide +kernel
theorem dL_rides_462 : decode cL_rides 462 = .ok (.invokevirtual 90, 3) := by decide +kernel
theorem dL_rides_465 : decode cL_rides 465 = .ok (.bipush (-5), 2) := by decide +kernel
theorem dL_rides_467 : decode cL_rides 467 = .ok (.if_icmp .eq 5, 3) := by decide +kernel
theorem dL_rides_470 : decode cL_rides 470 = .ok (.iconst 0, 1) := by decide +kernel
theorem dL_rides_471 : decode cL_rides 471 = .ok (.ireturn, 1) := by decide +kernel
theorem dL_rides_472 : decode cL_rides 472 = .ok (.invokestatic 193, 3) := by decide +kernel
theorem dL_rides_475 : decode cL_rides 475 = .ok (.astore_n 1, 1) := by decide +kernel
theorem dL_rides_476 : decode cL_rides 476 = .ok (.aload_n 1, 1) := by decide +kernel
theorem dL_rides_477 : decode cL_rides 477 = .ok (.bipush 9, 2) := by decide +kernel
theorem dL_rides_479 : decode cL_rides 479 = .ok (.iconst 1, 1) := by decide +kernel
theorem dL_rides_480 : decode cL_rides 480 = .ok (.iconst 1, 1) := by decide +kernel
