/-! the law's own methods: what stands in the bytes -/
theorem dL_act_284 : decode cL_act 284 = .ok (.goto 4, 3) := by decide +kernel
theorem dL_act_287 : decode cL_act 287 = .ok (.iconst 0, 1) := by decide +kernel
theorem dL_act_288 : decode cL_act 288 = .ok (.ireturn, 1) := by decide +kernel
theorem dL_act_289 : decode cL_act 289 = .ok (.aload_n 0, 1) := by decide +kernel
theorem dL_act_290 : decode cL_act 290 = .ok (.iload 7, 2) := by decide +kernel
theorem dL_act_292 : decode cL_act 292 = .ok (.iload 6, 2) := by decide +kernel
theorem dL_act_294 : decode cL_act 294 = .ok (.iload 8, 2) := by decide +kernel
theorem dL_act_296 : decode cL_act 296 = .ok (.invokestatic 75, 3) := by decide +kernel
theorem dL_act_299 : decode cL_act 299 = .ok (.ireturn, 1) := by decide +kernel
theorem dL_act_300 : decode cL_act 300 = .ok (.aload_n 0, 1) := by decide +kernel
theorem dL_act_301 : decode cL_act 301 = .ok (.iconst 1, 1) := by decide +kernel
theorem dL_act_302 : decode cL_act 302 = .ok (.invokevirtual 62, 3) := by decide +kernel
theorem dL_act_305 : decode cL_act 305 = .ok (.istore 7, 2) := by decide +kernel
theorem dL_act_307 : decode cL_act 307 = .ok (.aload_n 0, 1) := by decide +kernel
theorem dL_act_308 : decode cL_act 308 = .ok (.iconst 0, 1) := by decide +kernel
theorem dL_act_309 : decode cL_act 309 = .ok (.invokevirtual 62, 3) := by decide +kernel
theorem dL_act_312 : decode cL_act 312 = .ok (.istore 8, 2) := by decide +kernel
theorem dL_act_314 : decode cL_act 314 = .ok (.aload_n 0, 1) := by decide +kernel
theorem dL_act_315 : decode cL_act 315 = .ok (.invokevirtual 78, 3) := by decide +kernel
theorem dL_act_318 : decode cL_act 318 = .ok (.istore 9, 2) := by decide +kernel
theorem dL_act_320 : decode cL_act 320 = .ok (.iload 7, 2) := by decide +kernel
theorem dL_act_322 : decode cL_act 322 = .ok (.ifCond .ne 16, 3) := by decide +kernel
theorem dL_act_325 : decode cL_act 325 = .ok (.iload 9, 2) := by decide +kernel
theorem dL_act_327 : decode cL_act 327 = .ok (.bipush (-5), 2) := by decide +kernel
theorem dL_act_329 : decode cL_act 329 = .ok (.if_icmp .ne 7, 3) := by decide +kernel
theorem dL_act_332 : decode cL_act 332 = .ok (.iconst 1, 1) := by decide +kernel
theorem dL_act_333 : decode cL_act 333 = .ok (.goto 4, 3) := by decide +kernel
theorem dL_act_336 : decode cL_act 336 = .ok (.iconst 0, 1) := by decide +kernel
theorem dL_act_337 : decode cL_act 337 = .ok (.ireturn, 1) := by decide +kernel
theorem dL_act_338 : decode cL_act 338 = .ok (.iload 9, 2) := by decide +kernel
theorem dL_act_340 : decode cL_act 340 = .ok (.bipush (-4), 2) := by decide +kernel
theorem dL_act_342 : decode cL_act 342 = .ok (.if_icmp .ne 29, 3) := by decide +kernel
theorem dL_act_345 : decode cL_act 345 = .ok (.aload_n 0, 1) := by decide +kernel
theorem dL_act_346 : decode cL_act 346 = .ok (.iconst 1, 1) := by decide +kernel
theorem dL_act_347 : decode cL_act 347 = .ok (.invokevirtual 62, 3) := by decide +kernel
theorem dL_act_350 : decode cL_act 350 = .ok (.iload 7, 2) := by decide +kernel
theorem dL_act_352 : decode cL_act 352 = .ok (.if_icmp .ne 17, 3) := by decide +kernel
theorem dL_act_355 : decode cL_act 355 = .ok (.aload_n 0, 1) := by decide +kernel
theorem dL_act_356 : decode cL_act 356 = .ok (.iconst 0, 1) := by decide +kernel
theorem dL_act_357 : decode cL_act 357 = .ok (.invokevirtual 62, 3) := by decide +kernel
theorem dL_act_360 : decode cL_act 360 = .ok (.iload 8, 2) := by decide +kernel
theorem dL_act_362 : decode cL_act 362 = .ok (.if_icmp .ne 7, 3) := by decide +kernel
theorem dL_act_365 : decode cL_act 365 = .ok (.iconst 1, 1) := by decide +kernel
theorem dL_act_366 : decode cL_act 366 = .ok (.goto 4, 3) := by decide +kernel
theorem dL_act_369 : decode cL_act 369 = .ok (.iconst 0, 1) := by decide +kernel
theorem dL_act_370 : decode cL_act 370 = .ok (.ireturn, 1) := by decide +kernel
theorem dL_act_371 : decode cL_act 371 = .ok (.iload 9, 2) := by decide +kernel
theorem dL_act_373 : decode cL_act 373 = .ok (.ifCond .lt 42, 3) := by decide +kernel
theorem dL_act_376 : decode cL_act 376 = .ok (.aload_n 0, 1) := by decide +kernel
theorem dL_act_377 : decode cL_act 377 = .ok (.iconst 1, 1) := by decide +kernel
theorem dL_act_378 : decode cL_act 378 = .ok (.invokevirtual 62, 3) := by decide +kernel
theorem dL_act_381 : decode cL_act 381 = .ok (.iload 7, 2) := by decide +kernel
theorem dL_act_383 : decode cL_act 383 = .ok (.iconst 1, 1) := by decide +kernel
theorem dL_act_384 : decode cL_act 384 = .ok (.isub, 1) := by decide +kernel
theorem dL_act_385 : decode cL_act 385 = .ok (.if_icmp .ne 30, 3) := by decide +kernel
theorem dL_act_388 : decode cL_act 388 = .ok (.aload_n 0, 1) := by decide +kernel
theorem dL_act_389 : decode cL_act 389 = .ok (.iconst 0, 1) := by decide +kernel
theorem dL_act_390 : decode cL_act 390 = .ok (.invokevirtual 62, 3) := by decide +kernel
theorem dL_act_393 : decode cL_act 393 = .ok (.iload 8, 2) := by decide +kernel
theorem dL_act_395 : decode cL_act 395 = .ok (.if_icmp .lt 20, 3) := by decide +kernel
theorem dL_act_398 : decode cL_act 398 = .ok (.aload_n 0, 1) := by decide +kernel
theorem dL_act_399 : decode cL_act 399 = .ok (.iconst 0, 1) := by decide +kernel
theorem dL_act_400 : decode cL_act 400 = .ok (.invokevirtual 62, 3) := by decide +kernel
theorem dL_act_403 : decode cL_act 403 = .ok (.iload 8, 2) := by decide +kernel
theorem dL_act_405 : decode cL_act 405 = .ok (.iload 9, 2) := by decide +kernel
theorem dL_act_407 : decode cL_act 407 = .ok (.iadd, 1) := by decide +kernel
theorem dL_act_408 : decode cL_act 408 = .ok (.if_icmp .gt 7, 3) := by decide +kernel
theorem dL_act_411 : decode cL_act 411 = .ok (.iconst 1, 1) := by decide +kernel
theorem dL_act_412 : decode cL_act 412 = .ok (.goto 4, 3) := by decide +kernel
theorem dL_act_415 : decode cL_act 415 = .ok (.iconst 0, 1) := by decide +kernel
theorem dL_act_416 : decode cL_act 416 = .ok (.ireturn, 1) := by decide +kernel
theorem dL_act_417 : decode cL_act 417 = .ok (.aload_n 0, 1) := by decide +kernel
theorem dL_act_418 : decode cL_act 418 = .ok (.invokevirtual 82, 3) := by decide +kernel
theorem dL_act_421 : decode cL_act 421 = .ok (.istore 7, 2) := by decide +kernel
theorem dL_act_423 : decode cL_act 423 = .ok (.iconst 0, 1) := by decide +kernel
theorem dL_act_424 : decode cL_act 424 = .ok (.istore 8, 2) := by decide +kernel
theorem dL_act_426 : decode cL_act 426 = .ok (.aload_n 0, 1) := by decide +kernel
theorem dL_act_427 : decode cL_act 427 = .ok (.iconst 2, 1) := by decide +kernel
theorem dL_act_428 : decode cL_act 428 = .ok (.invokevirtual 62, 3) := by decide +kernel
theorem dL_act_431 : decode cL_act 431 = .ok (.istore 9, 2) := by decide +kernel
theorem dL_act_433 : decode cL_act 433 = .ok (.iconst 0, 1) := by decide +kernel
theorem dL_act_434 : decode cL_act 434 = .ok (.istore 10, 2) := by decide +kernel
theorem dL_act_436 : decode cL_act 436 = .ok (.iconst 0, 1) := by decide +kernel
theorem dL_act_437 : decode cL_act 437 = .ok (.istore 11, 2) := by decide +kernel
theorem dL_act_439 : decode cL_act 439 = .ok (.iload 11, 2) := by decide +kernel
theorem dL_act_441 : decode cL_act 441 = .ok (.iconst 3, 1) := by decide +kernel
theorem dL_act_442 : decode cL_act 442 = .ok (.if_icmp .ge 115, 3) := by decide +kernel
theorem dL_act_445 : decode cL_act 445 = .ok (.aload_n 0, 1) := by decide +kernel
theorem dL_act_446 : decode cL_act 446 = .ok (.iload 11, 2) := by decide +kernel
theorem dL_act_448 : decode cL_act 448 = .ok (.aload_n 0, 1) := by decide +kernel
theorem dL_act_449 : decode cL_act 449 = .ok (.iconst 2, 1) := by decide +kernel
theorem dL_act_450 : decode cL_act 450 = .ok (.invokevirtual 62, 3) := by decide +kernel
theorem dL_act_453 : decode cL_act 453 = .ok (.invokestatic 65, 3) := by decide +kernel
theorem dL_act_456 : decode cL_act 456 = .ok (.istore 12, 2) := by decide +kernel
theorem dL_act_458 : decode cL_act 458 = .ok (.iload 12, 2) := by decide +kernel
theorem dL_act_460 : decode cL_act 460 = .ok (.aload_n 0, 1) := by decide +kernel
theorem dL_act_461 : decode cL_act 461 = .ok (.iload 11, 2) := by decide +kernel
theorem dL_act_463 : decode cL_act 463 = .ok (.iconst 1, 1) := by decide +kernel
theorem dL_act_464 : decode cL_act 464 = .ok (.invokevirtual 50, 3) := by decide +kernel
theorem dL_act_467 : decode cL_act 467 = .ok (.if_icmp .ne 44, 3) := by decide +kernel
theorem dL_act_470 : decode cL_act 470 = .ok (.aload_n 0, 1) := by decide +kernel
theorem dL_act_471 : decode cL_act 471 = .ok (.iload 11, 2) := by decide +kernel
theorem dL_act_473 : decode cL_act 473 = .ok (.iconst 3, 1) := by decide +kernel
theorem dL_act_474 : decode cL_act 474 = .ok (.invokevirtual 50, 3) := by decide +kernel
theorem dL_act_477 : decode cL_act 477 = .ok (.ifCond .ne 34, 3) := by decide +kernel
theorem dL_act_480 : decode cL_act 480 = .ok (.aload_n 0, 1) := by decide +kernel
theorem dL_act_481 : decode cL_act 481 = .ok (.iload 11, 2) := by decide +kernel
theorem dL_act_483 : decode cL_act 483 = .ok (.iconst 4, 1) := by decide +kernel
theorem dL_act_484 : decode cL_act 484 = .ok (.invokevirtual 50, 3) := by decide +kernel
theorem dL_act_487 : decode cL_act 487 = .ok (.ifCond .ne 24, 3) := by decide +kernel
