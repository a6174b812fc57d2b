theorem dL_refused_230 : decode cL_refused 230 = .ok (.goto 4, 3) := by decide +kernel
theorem dL_refused_233 : decode cL_refused 233 = .ok (.iconst (-1), 1) := by decide +kernel
theorem dL_refused_234 : decode cL_refused 234 = .ok (.invokevirtual 40, 3) := by decide +kernel
theorem dL_refused_237 : decode cL_refused 237 = .ok (.bipush (-2), 2) := by decide +kernel
theorem dL_refused_239 : decode cL_refused 239 = .ok (.if_icmp .eq 5, 3) := by decide +kernel
theorem dL_refused_242 : decode cL_refused 242 = .ok (.iconst 0, 1) := by decide +kernel
theorem dL_refused_243 : decode cL_refused 243 = .ok (.ireturn, 1) := by decide +kernel
theorem dL_refused_244 : decode cL_refused 244 = .ok (.aload_n 0, 1) := by decide +kernel
theorem dL_refused_245 : decode cL_refused 245 = .ok (.bipush 100, 2) := by decide +kernel
theorem dL_refused_247 : decode cL_refused 247 = .ok (.bipush 100, 2) := by decide +kernel
theorem dL_refused_249 : decode cL_refused 249 = .ok (.iload_n 3, 1) := by decide +kernel
theorem dL_refused_250 : decode cL_refused 250 = .ok (.imul, 1) := by decide +kernel
theorem dL_refused_251 : decode cL_refused 251 = .ok (.isub, 1) := by decide +kernel
theorem dL_refused_252 : decode cL_refused 252 = .ok (.invokevirtual 75, 3) := by decide +kernel
theorem dL_refused_255 : decode cL_refused 255 = .ok (.bipush (-2), 2) := by decide +kernel
theorem dL_refused_257 : decode cL_refused 257 = .ok (.if_icmp .ne 67, 3) := by decide +kernel
theorem dL_refused_260 : decode cL_refused 260 = .ok (.aload_n 0, 1) := by decide +kernel
theorem dL_refused_261 : decode cL_refused 261 = .ok (.bipush 51, 2) := by decide +kernel
theorem dL_refused_263 : decode cL_refused 263 = .ok (.bipush 52, 2) := by decide +kernel
theorem dL_refused_265 : decode cL_refused 265 = .ok (.iload_n 3, 1) := by decide +kernel
theorem dL_refused_266 : decode cL_refused 266 = .ok (.imul, 1) := by decide +kernel
theorem dL_refused_267 : decode cL_refused 267 = .ok (.isub, 1) := by decide +kernel
theorem dL_refused_268 : decode cL_refused 268 = .ok (.invokevirtual 78, 3) := by decide +kernel
theorem dL_refused_271 : decode cL_refused 271 = .ok (.bipush (-2), 2) := by decide +kernel
theorem dL_refused_273 : decode cL_refused 273 = .ok (.if_icmp .ne 51, 3) := by decide +kernel
theorem dL_refused_276 : decode cL_refused 276 = .ok (.aload_n 0, 1) := by decide +kernel
theorem dL_refused_277 : decode cL_refused 277 = .ok (.bipush 61, 2) := by decide +kernel
theorem dL_refused_279 : decode cL_refused 279 = .ok (.bipush 61, 2) := by decide +kernel
theorem dL_refused_281 : decode cL_refused 281 = .ok (.iload_n 3, 1) := by decide +kernel
theorem dL_refused_282 : decode cL_refused 282 = .ok (.imul, 1) := by decide +kernel
theorem dL_refused_283 : decode cL_refused 283 = .ok (.isub, 1) := by decide +kernel
theorem dL_refused_284 : decode cL_refused 284 = .ok (.invokevirtual 81, 3) := by decide +kernel
theorem dL_refused_287 : decode cL_refused 287 = .ok (.bipush (-2), 2) := by decide +kernel
theorem dL_refused_289 : decode cL_refused 289 = .ok (.if_icmp .ne 35, 3) := by decide +kernel
theorem dL_refused_292 : decode cL_refused 292 = .ok (.aload_n 0, 1) := by decide +kernel
theorem dL_refused_293 : decode cL_refused 293 = .ok (.iconst 4, 1) := by decide +kernel
theorem dL_refused_294 : decode cL_refused 294 = .ok (.iconst 4, 1) := by decide +kernel
theorem dL_refused_295 : decode cL_refused 295 = .ok (.iload_n 3, 1) := by decide +kernel
theorem dL_refused_296 : decode cL_refused 296 = .ok (.imul, 1) := by decide +kernel
theorem dL_refused_297 : decode cL_refused 297 = .ok (.isub, 1) := by decide +kernel
theorem dL_refused_298 : decode cL_refused 298 = .ok (.iconst 1, 1) := by decide +kernel
theorem dL_refused_299 : decode cL_refused 299 = .ok (.invokevirtual 84, 3) := by decide +kernel
theorem dL_refused_302 : decode cL_refused 302 = .ok (.bipush (-2), 2) := by decide +kernel
theorem dL_refused_304 : decode cL_refused 304 = .ok (.if_icmp .ne 20, 3) := by decide +kernel
theorem dL_refused_307 : decode cL_refused 307 = .ok (.aload_n 0, 1) := by decide +kernel
theorem dL_refused_308 : decode cL_refused 308 = .ok (.iconst 1, 1) := by decide +kernel
theorem dL_refused_309 : decode cL_refused 309 = .ok (.bipush 10, 2) := by decide +kernel
theorem dL_refused_311 : decode cL_refused 311 = .ok (.bipush 10, 2) := by decide +kernel
theorem dL_refused_313 : decode cL_refused 313 = .ok (.iload_n 3, 1) := by decide +kernel
theorem dL_refused_314 : decode cL_refused 314 = .ok (.imul, 1) := by decide +kernel
theorem dL_refused_315 : decode cL_refused 315 = .ok (.isub, 1) := by decide +kernel
theorem dL_refused_316 : decode cL_refused 316 = .ok (.invokevirtual 84, 3) := by decide +kernel
theorem dL_refused_319 : decode cL_refused 319 = .ok (.bipush (-2), 2) := by decide +kernel
theorem dL_refused_321 : decode cL_refused 321 = .ok (.if_icmp .eq 5, 3) := by decide +kernel
theorem dL_refused_324 : decode cL_refused 324 = .ok (.iconst 0, 1) := by decide +kernel
theorem dL_refused_325 : decode cL_refused 325 = .ok (.ireturn, 1) := by decide +kernel
theorem dL_refused_326 : decode cL_refused 326 = .ok (.aload_n 0, 1) := by decide +kernel
theorem dL_refused_327 : decode cL_refused 327 = .ok (.iload 6, 2) := by decide +kernel
theorem dL_refused_329 : decode cL_refused 329 = .ok (.iconst (-1), 1) := by decide +kernel
theorem dL_refused_330 : decode cL_refused 330 = .ok (.invokevirtual 87, 3) := by decide +kernel
theorem dL_refused_333 : decode cL_refused 333 = .ok (.iconst (-1), 1) := by decide +kernel
theorem dL_refused_334 : decode cL_refused 334 = .ok (.if_icmp .ne 60, 3) := by decide +kernel
theorem dL_refused_337 : decode cL_refused 337 = .ok (.aload_n 0, 1) := by decide +kernel
theorem dL_refused_338 : decode cL_refused 338 = .ok (.iload 6, 2) := by decide +kernel
theorem dL_refused_340 : decode cL_refused 340 = .ok (.invokevirtual 90, 3) := by decide +kernel
theorem dL_refused_343 : decode cL_refused 343 = .ok (.iconst (-1), 1) := by decide +kernel
theorem dL_refused_344 : decode cL_refused 344 = .ok (.if_icmp .ne 50, 3) := by decide +kernel
theorem dL_refused_347 : decode cL_refused 347 = .ok (.aload_n 0, 1) := by decide +kernel
theorem dL_refused_348 : decode cL_refused 348 = .ok (.iload 6, 2) := by decide +kernel
theorem dL_refused_350 : decode cL_refused 350 = .ok (.bipush 9, 2) := by decide +kernel
theorem dL_refused_352 : decode cL_refused 352 = .ok (.invokevirtual 19, 3) := by decide +kernel
theorem dL_refused_355 : decode cL_refused 355 = .ok (.iconst (-1), 1) := by decide +kernel
theorem dL_refused_356 : decode cL_refused 356 = .ok (.if_icmp .ne 38, 3) := by decide +kernel
theorem dL_refused_359 : decode cL_refused 359 = .ok (.aload_n 0, 1) := by decide +kernel
theorem dL_refused_360 : decode cL_refused 360 = .ok (.iload 6, 2) := by decide +kernel
theorem dL_refused_362 : decode cL_refused 362 = .ok (.iconst (-1), 1) := by decide +kernel
theorem dL_refused_363 : decode cL_refused 363 = .ok (.invokevirtual 28, 3) := by decide +kernel
theorem dL_refused_366 : decode cL_refused 366 = .ok (.iconst (-1), 1) := by decide +kernel
theorem dL_refused_367 : decode cL_refused 367 = .ok (.if_icmp .ne 27, 3) := by decide +kernel
theorem dL_refused_370 : decode cL_refused 370 = .ok (.aload_n 0, 1) := by decide +kernel
theorem dL_refused_371 : decode cL_refused 371 = .ok (.iload 6, 2) := by decide +kernel
theorem dL_refused_373 : decode cL_refused 373 = .ok (.iconst (-1), 1) := by decide +kernel
theorem dL_refused_374 : decode cL_refused 374 = .ok (.invokevirtual 31, 3) := by decide +kernel
theorem dL_refused_377 : decode cL_refused 377 = .ok (.iconst (-1), 1) := by decide +kernel
theorem dL_refused_378 : decode cL_refused 378 = .ok (.if_icmp .ne 16, 3) := by decide +kernel
theorem dL_refused_381 : decode cL_refused 381 = .ok (.aload_n 0, 1) := by decide +kernel
theorem dL_refused_382 : decode cL_refused 382 = .ok (.iload 6, 2) := by decide +kernel
theorem dL_refused_384 : decode cL_refused 384 = .ok (.sipush 301, 3) := by decide +kernel
theorem dL_refused_387 : decode cL_refused 387 = .ok (.invokevirtual 93, 3) := by decide +kernel
theorem dL_refused_390 : decode cL_refused 390 = .ok (.iconst (-1), 1) := by decide +kernel
theorem dL_refused_391 : decode cL_refused 391 = .ok (.if_icmp .eq 5, 3) := by decide +kernel
theorem dL_refused_394 : decode cL_refused 394 = .ok (.iconst 0, 1) := by decide +kernel
theorem dL_refused_395 : decode cL_refused 395 = .ok (.ireturn, 1) := by decide +kernel
theorem dL_refused_396 : decode cL_refused 396 = .ok (.aload_n 0, 1) := by decide +kernel
theorem dL_refused_397 : decode cL_refused 397 = .ok (.iconst (-1), 1) := by decide +kernel
theorem dL_refused_398 : decode cL_refused 398 = .ok (.iconst 4, 1) := by decide +kernel
theorem dL_refused_399 : decode cL_refused 399 = .ok (.iload 6, 2) := by decide +kernel
theorem dL_refused_401 : decode cL_refused 401 = .ok (.iload 6, 2) := by decide +kernel
theorem dL_refused_403 : decode cL_refused 403 = .ok (.iconst 0, 1) := by decide +kernel
theorem dL_refused_404 : decode cL_refused 404 = .ok (.invokevirtual 96, 3) := by decide +kernel
theorem dL_refused_407 : decode cL_refused 407 = .ok (.iconst (-1), 1) := by decide +kernel
theorem dL_refused_408 : decode cL_refused 408 = .ok (.if_icmp .ne 59, 3) := by decide +kernel
theorem dL_refused_411 : decode cL_refused 411 = .ok (.aload_n 0, 1) := by decide +kernel
theorem dL_refused_412 : decode cL_refused 412 = .ok (.iload 6, 2) := by decide +kernel
theorem dL_refused_414 : decode cL_refused 414 = .ok (.iload 6, 2) := by decide +kernel
theorem dL_refused_416 : decode cL_refused 416 = .ok (.invokevirtual 100, 3) := by decide +kernel
theorem dL_refused_419 : decode cL_refused 419 = .ok (.iconst (-1), 1) := by decide +kernel
theorem dL_refused_420 : decode cL_refused 420 = .ok (.if_icmp .ne 47, 3) := by decide +kernel
theorem dL_refused_423 : decode cL_refused 423 = .ok (.aload_n 0, 1) := by decide +kernel
theorem dL_refused_424 : decode cL_refused 424 = .ok (.iload 5, 2) := by decide +kernel
theorem dL_refused_426 : decode cL_refused 426 = .ok (.invokevirtual 103, 3) := by decide +kernel
theorem dL_refused_429 : decode cL_refused 429 = .ok (.iconst (-1), 1) := by decide +kernel
theorem dL_refused_430 : decode cL_refused 430 = .ok (.if_icmp .ne 37, 3) := by decide +kernel
theorem dL_refused_433 : decode cL_refused 433 = .ok (.aload_n 0, 1) := by decide +kernel
theorem dL_refused_434 : decode cL_refused 434 = .ok (.iload 5, 2) := by decide +kernel
theorem dL_refused_436 : decode cL_refused 436 = .ok (.iconst 0, 1) := by decide +kernel
theorem dL_refused_437 : decode cL_refused 437 = .ok (.invokevirtual 106, 3) := by decide +kernel
theorem dL_refused_440 : decode cL_refused 440 = .ok (.iconst (-1), 1) := by decide +kernel
theorem dL_refused_441 : decode cL_refused 441 = .ok (.if_icmp .ne 26, 3) := by decide +kernel
theorem dL_refused_444 : decode cL_refused 444 = .ok (.aload_n 0, 1) := by decide +kernel
theorem dL_refused_445 : decode cL_refused 445 = .ok (.iload 5, 2) := by decide +kernel
theorem dL_refused_447 : decode cL_refused 447 = .ok (.bipush 14, 2) := by decide +kernel
theorem dL_refused_449 : decode cL_refused 449 = .ok (.invokevirtual 47, 3) := by decide +kernel
theorem dL_refused_452 : decode cL_refused 452 = .ok (.iconst (-1), 1) := by decide +kernel
theorem dL_refused_453 : decode cL_refused 453 = .ok (.if_icmp .ne 14, 3) := by decide +kernel
theorem dL_refused_456 : decode cL_refused 456 = .ok (.aload_n 0, 1) := by decide +kernel
theorem dL_refused_457 : decode cL_refused 457 = .ok (.iload 5, 2) := by decide +kernel
theorem dL_refused_459 : decode cL_refused 459 = .ok (.iconst 4, 1) := by decide +kernel
theorem dL_refused_460 : decode cL_refused 460 = .ok (.invokevirtual 109, 3) := by decide +kernel
