theorem dL_texts_230 : decode cL_texts 230 = .ok (.ifCond .ne 5, 3) := by decide +kernel
theorem dL_texts_233 : decode cL_texts 233 = .ok (.iconst 0, 1) := by decide +kernel
theorem dL_texts_234 : decode cL_texts 234 = .ok (.ireturn, 1) := by decide +kernel
theorem dL_texts_235 : decode cL_texts 235 = .ok (.aload_n 0, 1) := by decide +kernel
theorem dL_texts_236 : decode cL_texts 236 = .ok (.ldc2_w 163, 3) := by decide +kernel
theorem dL_texts_239 : decode cL_texts 239 = .ok (.ldc2_w 169, 3) := by decide +kernel
theorem dL_texts_242 : decode cL_texts 242 = .ok (.iconst (-1), 1) := by decide +kernel
theorem dL_texts_243 : decode cL_texts 243 = .ok (.invokestatic 135, 3) := by decide +kernel
theorem dL_texts_246 : decode cL_texts 246 = .ok (.ifCond .ne 5, 3) := by decide +kernel
theorem dL_texts_249 : decode cL_texts 249 = .ok (.iconst 0, 1) := by decide +kernel
theorem dL_texts_250 : decode cL_texts 250 = .ok (.ireturn, 1) := by decide +kernel
theorem dL_texts_251 : decode cL_texts 251 = .ok (.aload_n 0, 1) := by decide +kernel
theorem dL_texts_252 : decode cL_texts 252 = .ok (.ldc2_w 163, 3) := by decide +kernel
theorem dL_texts_255 : decode cL_texts 255 = .ok (.ldc2_w 171, 3) := by decide +kernel
theorem dL_texts_258 : decode cL_texts 258 = .ok (.bipush (-112), 2) := by decide +kernel
theorem dL_texts_260 : decode cL_texts 260 = .ok (.invokestatic 135, 3) := by decide +kernel
theorem dL_texts_263 : decode cL_texts 263 = .ok (.ifCond .ne 5, 3) := by decide +kernel
theorem dL_texts_266 : decode cL_texts 266 = .ok (.iconst 0, 1) := by decide +kernel
theorem dL_texts_267 : decode cL_texts 267 = .ok (.ireturn, 1) := by decide +kernel
theorem dL_texts_268 : decode cL_texts 268 = .ok (.aload_n 0, 1) := by decide +kernel
theorem dL_texts_269 : decode cL_texts 269 = .ok (.ldc2_w 163, 3) := by decide +kernel
theorem dL_texts_272 : decode cL_texts 272 = .ok (.ldc2_w 173, 3) := by decide +kernel
theorem dL_texts_275 : decode cL_texts 275 = .ok (.bipush (-111), 2) := by decide +kernel
theorem dL_texts_277 : decode cL_texts 277 = .ok (.invokestatic 135, 3) := by decide +kernel
theorem dL_texts_280 : decode cL_texts 280 = .ok (.ifCond .ne 5, 3) := by decide +kernel
theorem dL_texts_283 : decode cL_texts 283 = .ok (.iconst 0, 1) := by decide +kernel
theorem dL_texts_284 : decode cL_texts 284 = .ok (.ireturn, 1) := by decide +kernel
theorem dL_texts_285 : decode cL_texts 285 = .ok (.aload_n 0, 1) := by decide +kernel
theorem dL_texts_286 : decode cL_texts 286 = .ok (.ldc2_w 175, 3) := by decide +kernel
theorem dL_texts_289 : decode cL_texts 289 = .ok (.ldc2_w 177, 3) := by decide +kernel
theorem dL_texts_292 : decode cL_texts 292 = .ok (.iconst (-1), 1) := by decide +kernel
theorem dL_texts_293 : decode cL_texts 293 = .ok (.invokestatic 135, 3) := by decide +kernel
theorem dL_texts_296 : decode cL_texts 296 = .ok (.ifCond .ne 5, 3) := by decide +kernel
theorem dL_texts_299 : decode cL_texts 299 = .ok (.iconst 0, 1) := by decide +kernel
theorem dL_texts_300 : decode cL_texts 300 = .ok (.ireturn, 1) := by decide +kernel
theorem dL_texts_301 : decode cL_texts 301 = .ok (.aload_n 0, 1) := by decide +kernel
theorem dL_texts_302 : decode cL_texts 302 = .ok (.ldc2_w 179, 3) := by decide +kernel
theorem dL_texts_305 : decode cL_texts 305 = .ok (.ldc2_w 181, 3) := by decide +kernel
theorem dL_texts_308 : decode cL_texts 308 = .ok (.iconst (-1), 1) := by decide +kernel
theorem dL_texts_309 : decode cL_texts 309 = .ok (.invokestatic 135, 3) := by decide +kernel
theorem dL_texts_312 : decode cL_texts 312 = .ok (.ifCond .ne 5, 3) := by decide +kernel
theorem dL_texts_315 : decode cL_texts 315 = .ok (.iconst 0, 1) := by decide +kernel
theorem dL_texts_316 : decode cL_texts 316 = .ok (.ireturn, 1) := by decide +kernel
theorem dL_texts_317 : decode cL_texts 317 = .ok (.aload_n 0, 1) := by decide +kernel
theorem dL_texts_318 : decode cL_texts 318 = .ok (.ldc2_w 183, 3) := by decide +kernel
theorem dL_texts_321 : decode cL_texts 321 = .ok (.lconst 0, 1) := by decide +kernel
theorem dL_texts_322 : decode cL_texts 322 = .ok (.bipush (-100), 2) := by decide +kernel
theorem dL_texts_324 : decode cL_texts 324 = .ok (.invokestatic 135, 3) := by decide +kernel
theorem dL_texts_327 : decode cL_texts 327 = .ok (.ifCond .ne 5, 3) := by decide +kernel
theorem dL_texts_330 : decode cL_texts 330 = .ok (.iconst 0, 1) := by decide +kernel
theorem dL_texts_331 : decode cL_texts 331 = .ok (.ireturn, 1) := by decide +kernel
theorem dL_texts_332 : decode cL_texts 332 = .ok (.aload_n 0, 1) := by decide +kernel
theorem dL_texts_333 : decode cL_texts 333 = .ok (.ldc2_w 185, 3) := by decide +kernel
theorem dL_texts_336 : decode cL_texts 336 = .ok (.lconst 0, 1) := by decide +kernel
theorem dL_texts_337 : decode cL_texts 337 = .ok (.bipush (-100), 2) := by decide +kernel
theorem dL_texts_339 : decode cL_texts 339 = .ok (.invokestatic 135, 3) := by decide +kernel
theorem dL_texts_342 : decode cL_texts 342 = .ok (.ifCond .ne 5, 3) := by decide +kernel
theorem dL_texts_345 : decode cL_texts 345 = .ok (.iconst 0, 1) := by decide +kernel
theorem dL_texts_346 : decode cL_texts 346 = .ok (.ireturn, 1) := by decide +kernel
theorem dL_texts_347 : decode cL_texts 347 = .ok (.aload_n 0, 1) := by decide +kernel
theorem dL_texts_348 : decode cL_texts 348 = .ok (.ldc2_w 187, 3) := by decide +kernel
theorem dL_texts_351 : decode cL_texts 351 = .ok (.ldc2_w 189, 3) := by decide +kernel
theorem dL_texts_354 : decode cL_texts 354 = .ok (.iconst (-1), 1) := by decide +kernel
theorem dL_texts_355 : decode cL_texts 355 = .ok (.invokestatic 135, 3) := by decide +kernel
theorem dL_texts_358 : decode cL_texts 358 = .ok (.ifCond .ne 5, 3) := by decide +kernel
theorem dL_texts_361 : decode cL_texts 361 = .ok (.iconst 0, 1) := by decide +kernel
theorem dL_texts_362 : decode cL_texts 362 = .ok (.ireturn, 1) := by decide +kernel
theorem dL_texts_363 : decode cL_texts 363 = .ok (.aload_n 0, 1) := by decide +kernel
theorem dL_texts_364 : decode cL_texts 364 = .ok (.ldc2_w 191, 3) := by decide +kernel
theorem dL_texts_367 : decode cL_texts 367 = .ok (.lconst 0, 1) := by decide +kernel
theorem dL_texts_368 : decode cL_texts 368 = .ok (.bipush (-108), 2) := by decide +kernel
theorem dL_texts_370 : decode cL_texts 370 = .ok (.invokestatic 135, 3) := by decide +kernel
theorem dL_texts_373 : decode cL_texts 373 = .ok (.ifCond .ne 5, 3) := by decide +kernel
theorem dL_texts_376 : decode cL_texts 376 = .ok (.iconst 0, 1) := by decide +kernel
theorem dL_texts_377 : decode cL_texts 377 = .ok (.ireturn, 1) := by decide +kernel
theorem dL_texts_378 : decode cL_texts 378 = .ok (.aload_n 0, 1) := by decide +kernel
theorem dL_texts_379 : decode cL_texts 379 = .ok (.invokevirtual 123, 3) := by decide +kernel
theorem dL_texts_382 : decode cL_texts 382 = .ok (.istore_n 1, 1) := by decide +kernel
theorem dL_texts_383 : decode cL_texts 383 = .ok (.iconst 1, 1) := by decide +kernel
theorem dL_texts_384 : decode cL_texts 384 = .ok (.istore_n 2, 1) := by decide +kernel
theorem dL_texts_385 : decode cL_texts 385 = .ok (.iload_n 2, 1) := by decide +kernel
theorem dL_texts_386 : decode cL_texts 386 = .ok (.bipush 60, 2) := by decide +kernel
theorem dL_texts_388 : decode cL_texts 388 = .ok (.if_icmp .gt 21, 3) := by decide +kernel
theorem dL_texts_391 : decode cL_texts 391 = .ok (.aload_n 0, 1) := by decide +kernel
theorem dL_texts_392 : decode cL_texts 392 = .ok (.bipush 48, 2) := by decide +kernel
theorem dL_texts_394 : decode cL_texts 394 = .ok (.invokevirtual 119, 3) := by decide +kernel
theorem dL_texts_397 : decode cL_texts 397 = .ok (.iload_n 2, 1) := by decide +kernel
theorem dL_texts_398 : decode cL_texts 398 = .ok (.if_icmp .eq 5, 3) := by decide +kernel
theorem dL_texts_401 : decode cL_texts 401 = .ok (.iconst 0, 1) := by decide +kernel
theorem dL_texts_402 : decode cL_texts 402 = .ok (.ireturn, 1) := by decide +kernel
theorem dL_texts_403 : decode cL_texts 403 = .ok (.iinc 2 1, 3) := by decide +kernel
theorem dL_texts_406 : decode cL_texts 406 = .ok (.goto (-21), 3) := by decide +kernel
theorem dL_texts_409 : decode cL_texts 409 = .ok (.iload_n 1, 1) := by decide +kernel
theorem dL_texts_410 : decode cL_texts 410 = .ok (.bipush 8, 2) := by decide +kernel
theorem dL_texts_412 : decode cL_texts 412 = .ok (.if_icmp .ne 56, 3) := by decide +kernel
theorem dL_texts_415 : decode cL_texts 415 = .ok (.aload_n 0, 1) := by decide +kernel
theorem dL_texts_416 : decode cL_texts 416 = .ok (.bipush 48, 2) := by decide +kernel
theorem dL_texts_418 : decode cL_texts 418 = .ok (.invokevirtual 119, 3) := by decide +kernel
theorem dL_texts_421 : decode cL_texts 421 = .ok (.bipush (-3), 2) := by decide +kernel
theorem dL_texts_423 : decode cL_texts 423 = .ok (.if_icmp .ne 45, 3) := by decide +kernel
theorem dL_texts_426 : decode cL_texts 426 = .ok (.aload_n 0, 1) := by decide +kernel
theorem dL_texts_427 : decode cL_texts 427 = .ok (.invokevirtual 131, 3) := by decide +kernel
theorem dL_texts_430 : decode cL_texts 430 = .ok (.bipush (-101), 2) := by decide +kernel
theorem dL_texts_432 : decode cL_texts 432 = .ok (.if_icmp .ne 36, 3) := by decide +kernel
theorem dL_texts_435 : decode cL_texts 435 = .ok (.aload_n 0, 1) := by decide +kernel
theorem dL_texts_436 : decode cL_texts 436 = .ok (.bipush 20, 2) := by decide +kernel
theorem dL_texts_438 : decode cL_texts 438 = .ok (.invokevirtual 36, 3) := by decide +kernel
theorem dL_texts_441 : decode cL_texts 441 = .ok (.bipush 60, 2) := by decide +kernel
theorem dL_texts_443 : decode cL_texts 443 = .ok (.if_icmp .ne 25, 3) := by decide +kernel
theorem dL_texts_446 : decode cL_texts 446 = .ok (.aload_n 0, 1) := by decide +kernel
theorem dL_texts_447 : decode cL_texts 447 = .ok (.invokevirtual 123, 3) := by decide +kernel
theorem dL_texts_450 : decode cL_texts 450 = .ok (.bipush 60, 2) := by decide +kernel
theorem dL_texts_452 : decode cL_texts 452 = .ok (.if_icmp .ne 16, 3) := by decide +kernel
theorem dL_texts_455 : decode cL_texts 455 = .ok (.aload_n 0, 1) := by decide +kernel
theorem dL_texts_456 : decode cL_texts 456 = .ok (.bipush 19, 2) := by decide +kernel
theorem dL_texts_458 : decode cL_texts 458 = .ok (.invokevirtual 36, 3) := by decide +kernel
theorem dL_texts_461 : decode cL_texts 461 = .ok (.ifCond .ne 7, 3) := by decide +kernel
theorem dL_texts_464 : decode cL_texts 464 = .ok (.iconst 1, 1) := by decide +kernel
theorem dL_texts_465 : decode cL_texts 465 = .ok (.goto 4, 3) := by decide +kernel
theorem dL_texts_468 : decode cL_texts 468 = .ok (.iconst 0, 1) := by decide +kernel
theorem dL_texts_469 : decode cL_texts 469 = .ok (.ireturn, 1) := by decide +kernel
