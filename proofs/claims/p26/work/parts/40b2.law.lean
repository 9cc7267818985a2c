/-! the law's own methods: what stands in the bytes -/
theorem dL_sound_408 : decode cL_sound 408 = .ok (.iload 7, 2) := by decide +kernel
theorem dL_sound_410 : decode cL_sound 410 = .ok (.iconst 0, 1) := by decide +kernel
theorem dL_sound_411 : decode cL_sound 411 = .ok (.invokevirtual 99, 3) := by decide +kernel
theorem dL_sound_414 : decode cL_sound 414 = .ok (.aload_n 0, 1) := by decide +kernel
theorem dL_sound_415 : decode cL_sound 415 = .ok (.iload 7, 2) := by decide +kernel
theorem dL_sound_417 : decode cL_sound 417 = .ok (.iconst 1, 1) := by decide +kernel
theorem dL_sound_418 : decode cL_sound 418 = .ok (.isub, 1) := by decide +kernel
theorem dL_sound_419 : decode cL_sound 419 = .ok (.iconst 0, 1) := by decide +kernel
theorem dL_sound_420 : decode cL_sound 420 = .ok (.invokevirtual 99, 3) := by decide +kernel
theorem dL_sound_423 : decode cL_sound 423 = .ok (.if_icmp .le 18, 3) := by decide +kernel
theorem dL_sound_426 : decode cL_sound 426 = .ok (.aload_n 0, 1) := by decide +kernel
theorem dL_sound_427 : decode cL_sound 427 = .ok (.iload 7, 2) := by decide +kernel
theorem dL_sound_429 : decode cL_sound 429 = .ok (.iconst 0, 1) := by decide +kernel
theorem dL_sound_430 : decode cL_sound 430 = .ok (.invokevirtual 99, 3) := by decide +kernel
theorem dL_sound_433 : decode cL_sound 433 = .ok (.aload_n 0, 1) := by decide +kernel
theorem dL_sound_434 : decode cL_sound 434 = .ok (.iconst 1, 1) := by decide +kernel
theorem dL_sound_435 : decode cL_sound 435 = .ok (.invokevirtual 58, 3) := by decide +kernel
theorem dL_sound_438 : decode cL_sound 438 = .ok (.if_icmp .lt 5, 3) := by decide +kernel
theorem dL_sound_441 : decode cL_sound 441 = .ok (.iconst 0, 1) := by decide +kernel
theorem dL_sound_442 : decode cL_sound 442 = .ok (.ireturn, 1) := by decide +kernel
theorem dL_sound_443 : decode cL_sound 443 = .ok (.iinc 7 1, 3) := by decide +kernel
theorem dL_sound_446 : decode cL_sound 446 = .ok (.goto (-66), 3) := by decide +kernel
theorem dL_sound_449 : decode cL_sound 449 = .ok (.iload 6, 2) := by decide +kernel
theorem dL_sound_451 : decode cL_sound 451 = .ok (.aload_n 0, 1) := by decide +kernel
theorem dL_sound_452 : decode cL_sound 452 = .ok (.iconst 4, 1) := by decide +kernel
theorem dL_sound_453 : decode cL_sound 453 = .ok (.invokevirtual 58, 3) := by decide +kernel
theorem dL_sound_456 : decode cL_sound 456 = .ok (.if_icmp .ne 51, 3) := by decide +kernel
theorem dL_sound_459 : decode cL_sound 459 = .ok (.aload_n 0, 1) := by decide +kernel
theorem dL_sound_460 : decode cL_sound 460 = .ok (.aload_n 0, 1) := by decide +kernel
theorem dL_sound_461 : decode cL_sound 461 = .ok (.iconst 3, 1) := by decide +kernel
theorem dL_sound_462 : decode cL_sound 462 = .ok (.invokevirtual 58, 3) := by decide +kernel
theorem dL_sound_465 : decode cL_sound 465 = .ok (.iconst 0, 1) := by decide +kernel
theorem dL_sound_466 : decode cL_sound 466 = .ok (.invokevirtual 99, 3) := by decide +kernel
theorem dL_sound_469 : decode cL_sound 469 = .ok (.iconst (-1), 1) := by decide +kernel
theorem dL_sound_470 : decode cL_sound 470 = .ok (.if_icmp .ne 37, 3) := by decide +kernel
theorem dL_sound_473 : decode cL_sound 473 = .ok (.aload_n 0, 1) := by decide +kernel
theorem dL_sound_474 : decode cL_sound 474 = .ok (.iconst 5, 1) := by decide +kernel
theorem dL_sound_475 : decode cL_sound 475 = .ok (.invokevirtual 58, 3) := by decide +kernel
theorem dL_sound_478 : decode cL_sound 478 = .ok (.iload_n 2, 1) := by decide +kernel
theorem dL_sound_479 : decode cL_sound 479 = .ok (.if_icmp .ne 28, 3) := by decide +kernel
theorem dL_sound_482 : decode cL_sound 482 = .ok (.aload_n 0, 1) := by decide +kernel
theorem dL_sound_483 : decode cL_sound 483 = .ok (.bipush 6, 2) := by decide +kernel
theorem dL_sound_485 : decode cL_sound 485 = .ok (.invokevirtual 58, 3) := by decide +kernel
theorem dL_sound_488 : decode cL_sound 488 = .ok (.iload_n 3, 1) := by decide +kernel
theorem dL_sound_489 : decode cL_sound 489 = .ok (.if_icmp .ne 18, 3) := by decide +kernel
theorem dL_sound_492 : decode cL_sound 492 = .ok (.aload_n 0, 1) := by decide +kernel
theorem dL_sound_493 : decode cL_sound 493 = .ok (.bipush 7, 2) := by decide +kernel
theorem dL_sound_495 : decode cL_sound 495 = .ok (.invokevirtual 58, 3) := by decide +kernel
theorem dL_sound_498 : decode cL_sound 498 = .ok (.iload 4, 2) := by decide +kernel
theorem dL_sound_500 : decode cL_sound 500 = .ok (.if_icmp .ne 7, 3) := by decide +kernel
theorem dL_sound_503 : decode cL_sound 503 = .ok (.iconst 1, 1) := by decide +kernel
theorem dL_sound_504 : decode cL_sound 504 = .ok (.goto 4, 3) := by decide +kernel
theorem dL_sound_507 : decode cL_sound 507 = .ok (.iconst 0, 1) := by decide +kernel
theorem dL_sound_508 : decode cL_sound 508 = .ok (.ireturn, 1) := by decide +kernel
