/-! the law's own methods: what stands in the bytes -/
theorem dL_leap_406 : decode cL_leap 406 = .ok (.iload 13, 2) := by decide +kernel
theorem dL_leap_408 : decode cL_leap 408 = .ok (.if_icmp .le 11, 3) := by decide +kernel
theorem dL_leap_411 : decode cL_leap 411 = .ok (.iload 15, 2) := by decide +kernel
theorem dL_leap_413 : decode cL_leap 413 = .ok (.iload 12, 2) := by decide +kernel
theorem dL_leap_415 : decode cL_leap 415 = .ok (.isub, 1) := by decide +kernel
theorem dL_leap_416 : decode cL_leap 416 = .ok (.goto 5, 3) := by decide +kernel
theorem dL_leap_419 : decode cL_leap 419 = .ok (.iload 13, 2) := by decide +kernel
theorem dL_leap_421 : decode cL_leap 421 = .ok (.if_icmp .ne 30, 3) := by decide +kernel
theorem dL_leap_424 : decode cL_leap 424 = .ok (.iload 15, 2) := by decide +kernel
theorem dL_leap_426 : decode cL_leap 426 = .ok (.ifCond .ge 27, 3) := by decide +kernel
theorem dL_leap_429 : decode cL_leap 429 = .ok (.aload_n 0, 1) := by decide +kernel
theorem dL_leap_430 : decode cL_leap 430 = .ok (.iload 6, 2) := by decide +kernel
theorem dL_leap_432 : decode cL_leap 432 = .ok (.bipush 6, 2) := by decide +kernel
theorem dL_leap_434 : decode cL_leap 434 = .ok (.invokevirtual 50, 3) := by decide +kernel
theorem dL_leap_437 : decode cL_leap 437 = .ok (.iload 13, 2) := by decide +kernel
theorem dL_leap_439 : decode cL_leap 439 = .ok (.if_icmp .ne 12, 3) := by decide +kernel
theorem dL_leap_442 : decode cL_leap 442 = .ok (.aload_n 0, 1) := by decide +kernel
theorem dL_leap_443 : decode cL_leap 443 = .ok (.iconst 0, 1) := by decide +kernel
theorem dL_leap_444 : decode cL_leap 444 = .ok (.invokevirtual 58, 3) := by decide +kernel
theorem dL_leap_447 : decode cL_leap 447 = .ok (.iconst 1, 1) := by decide +kernel
theorem dL_leap_448 : decode cL_leap 448 = .ok (.if_icmp .eq 5, 3) := by decide +kernel
theorem dL_leap_451 : decode cL_leap 451 = .ok (.iconst 0, 1) := by decide +kernel
theorem dL_leap_452 : decode cL_leap 452 = .ok (.ireturn, 1) := by decide +kernel
theorem dL_leap_453 : decode cL_leap 453 = .ok (.iload 15, 2) := by decide +kernel
theorem dL_leap_455 : decode cL_leap 455 = .ok (.ifCond .lt 13, 3) := by decide +kernel
theorem dL_leap_458 : decode cL_leap 458 = .ok (.iload 15, 2) := by decide +kernel
theorem dL_leap_460 : decode cL_leap 460 = .ok (.aload_n 0, 1) := by decide +kernel
theorem dL_leap_461 : decode cL_leap 461 = .ok (.iconst 3, 1) := by decide +kernel
theorem dL_leap_462 : decode cL_leap 462 = .ok (.invokevirtual 62, 3) := by decide +kernel
theorem dL_leap_465 : decode cL_leap 465 = .ok (.if_icmp .le 36, 3) := by decide +kernel
theorem dL_leap_468 : decode cL_leap 468 = .ok (.aload_n 0, 1) := by decide +kernel
theorem dL_leap_469 : decode cL_leap 469 = .ok (.iconst 0, 1) := by decide +kernel
theorem dL_leap_470 : decode cL_leap 470 = .ok (.invokevirtual 58, 3) := by decide +kernel
theorem dL_leap_473 : decode cL_leap 473 = .ok (.iconst 1, 1) := by decide +kernel
theorem dL_leap_474 : decode cL_leap 474 = .ok (.if_icmp .ne 25, 3) := by decide +kernel
theorem dL_leap_477 : decode cL_leap 477 = .ok (.aload_n 0, 1) := by decide +kernel
theorem dL_leap_478 : decode cL_leap 478 = .ok (.iconst 1, 1) := by decide +kernel
theorem dL_leap_479 : decode cL_leap 479 = .ok (.invokevirtual 58, 3) := by decide +kernel
theorem dL_leap_482 : decode cL_leap 482 = .ok (.iload_n 2, 1) := by decide +kernel
theorem dL_leap_483 : decode cL_leap 483 = .ok (.if_icmp .ne 16, 3) := by decide +kernel
theorem dL_leap_486 : decode cL_leap 486 = .ok (.aload_n 0, 1) := by decide +kernel
theorem dL_leap_487 : decode cL_leap 487 = .ok (.iconst 3, 1) := by decide +kernel
theorem dL_leap_488 : decode cL_leap 488 = .ok (.invokevirtual 58, 3) := by decide +kernel
theorem dL_leap_491 : decode cL_leap 491 = .ok (.iload_n 3, 1) := by decide +kernel
theorem dL_leap_492 : decode cL_leap 492 = .ok (.if_icmp .ne 7, 3) := by decide +kernel
theorem dL_leap_495 : decode cL_leap 495 = .ok (.iconst 1, 1) := by decide +kernel
theorem dL_leap_496 : decode cL_leap 496 = .ok (.goto 4, 3) := by decide +kernel
theorem dL_leap_499 : decode cL_leap 499 = .ok (.iconst 0, 1) := by decide +kernel
theorem dL_leap_500 : decode cL_leap 500 = .ok (.ireturn, 1) := by decide +kernel
theorem dL_leap_501 : decode cL_leap 501 = .ok (.aload_n 0, 1) := by decide +kernel
theorem dL_leap_502 : decode cL_leap 502 = .ok (.iconst 0, 1) := by decide +kernel
theorem dL_leap_503 : decode cL_leap 503 = .ok (.iconst 2, 1) := by decide +kernel
theorem dL_leap_504 : decode cL_leap 504 = .ok (.invokevirtual 50, 3) := by decide +kernel
theorem dL_leap_507 : decode cL_leap 507 = .ok (.iload 15, 2) := by decide +kernel
theorem dL_leap_509 : decode cL_leap 509 = .ok (.if_icmp .ne 29, 3) := by decide +kernel
theorem dL_leap_512 : decode cL_leap 512 = .ok (.aload_n 0, 1) := by decide +kernel
theorem dL_leap_513 : decode cL_leap 513 = .ok (.iconst 1, 1) := by decide +kernel
theorem dL_leap_514 : decode cL_leap 514 = .ok (.iconst 2, 1) := by decide +kernel
theorem dL_leap_515 : decode cL_leap 515 = .ok (.invokevirtual 50, 3) := by decide +kernel
theorem dL_leap_518 : decode cL_leap 518 = .ok (.iload 15, 2) := by decide +kernel
theorem dL_leap_520 : decode cL_leap 520 = .ok (.if_icmp .ne 18, 3) := by decide +kernel
theorem dL_leap_523 : decode cL_leap 523 = .ok (.aload_n 0, 1) := by decide +kernel
theorem dL_leap_524 : decode cL_leap 524 = .ok (.iconst 2, 1) := by decide +kernel
theorem dL_leap_525 : decode cL_leap 525 = .ok (.iconst 2, 1) := by decide +kernel
theorem dL_leap_526 : decode cL_leap 526 = .ok (.invokevirtual 50, 3) := by decide +kernel
theorem dL_leap_529 : decode cL_leap 529 = .ok (.iload 15, 2) := by decide +kernel
theorem dL_leap_531 : decode cL_leap 531 = .ok (.if_icmp .ne 7, 3) := by decide +kernel
theorem dL_leap_534 : decode cL_leap 534 = .ok (.iconst 1, 1) := by decide +kernel
theorem dL_leap_535 : decode cL_leap 535 = .ok (.goto 4, 3) := by decide +kernel
theorem dL_leap_538 : decode cL_leap 538 = .ok (.iconst 0, 1) := by decide +kernel
theorem dL_leap_539 : decode cL_leap 539 = .ok (.istore 16, 2) := by decide +kernel
theorem dL_leap_541 : decode cL_leap 541 = .ok (.aload_n 0, 1) := by decide +kernel
theorem dL_leap_542 : decode cL_leap 542 = .ok (.iconst 0, 1) := by decide +kernel
theorem dL_leap_543 : decode cL_leap 543 = .ok (.iload 15, 2) := by decide +kernel
theorem dL_leap_545 : decode cL_leap 545 = .ok (.invokestatic 69, 3) := by decide +kernel
theorem dL_leap_548 : decode cL_leap 548 = .ok (.aload_n 0, 1) := by decide +kernel
theorem dL_leap_549 : decode cL_leap 549 = .ok (.iconst 1, 1) := by decide +kernel
theorem dL_leap_550 : decode cL_leap 550 = .ok (.iload 15, 2) := by decide +kernel
theorem dL_leap_552 : decode cL_leap 552 = .ok (.invokestatic 69, 3) := by decide +kernel
theorem dL_leap_555 : decode cL_leap 555 = .ok (.imul, 1) := by decide +kernel
theorem dL_leap_556 : decode cL_leap 556 = .ok (.aload_n 0, 1) := by decide +kernel
theorem dL_leap_557 : decode cL_leap 557 = .ok (.iconst 2, 1) := by decide +kernel
theorem dL_leap_558 : decode cL_leap 558 = .ok (.iload 15, 2) := by decide +kernel
theorem dL_leap_560 : decode cL_leap 560 = .ok (.invokestatic 69, 3) := by decide +kernel
theorem dL_leap_563 : decode cL_leap 563 = .ok (.imul, 1) := by decide +kernel
theorem dL_leap_564 : decode cL_leap 564 = .ok (.istore 17, 2) := by decide +kernel
theorem dL_leap_566 : decode cL_leap 566 = .ok (.iload 16, 2) := by decide +kernel
theorem dL_leap_568 : decode cL_leap 568 = .ok (.ifCond .eq 75, 3) := by decide +kernel
theorem dL_leap_571 : decode cL_leap 571 = .ok (.aload_n 0, 1) := by decide +kernel
theorem dL_leap_572 : decode cL_leap 572 = .ok (.iconst 0, 1) := by decide +kernel
theorem dL_leap_573 : decode cL_leap 573 = .ok (.invokevirtual 58, 3) := by decide +kernel
theorem dL_leap_576 : decode cL_leap 576 = .ok (.ifCond .ne 65, 3) := by decide +kernel
theorem dL_leap_579 : decode cL_leap 579 = .ok (.aload_n 0, 1) := by decide +kernel
theorem dL_leap_580 : decode cL_leap 580 = .ok (.iconst 1, 1) := by decide +kernel
theorem dL_leap_581 : decode cL_leap 581 = .ok (.invokevirtual 58, 3) := by decide +kernel
theorem dL_leap_584 : decode cL_leap 584 = .ok (.iload 15, 2) := by decide +kernel
theorem dL_leap_586 : decode cL_leap 586 = .ok (.iconst 1, 1) := by decide +kernel
theorem dL_leap_587 : decode cL_leap 587 = .ok (.iadd, 1) := by decide +kernel
theorem dL_leap_588 : decode cL_leap 588 = .ok (.if_icmp .ne 53, 3) := by decide +kernel
theorem dL_leap_591 : decode cL_leap 591 = .ok (.aload_n 0, 1) := by decide +kernel
theorem dL_leap_592 : decode cL_leap 592 = .ok (.iconst 3, 1) := by decide +kernel
theorem dL_leap_593 : decode cL_leap 593 = .ok (.invokevirtual 58, 3) := by decide +kernel
theorem dL_leap_596 : decode cL_leap 596 = .ok (.iload_n 3, 1) := by decide +kernel
theorem dL_leap_597 : decode cL_leap 597 = .ok (.iconst 1, 1) := by decide +kernel
theorem dL_leap_598 : decode cL_leap 598 = .ok (.iadd, 1) := by decide +kernel
theorem dL_leap_599 : decode cL_leap 599 = .ok (.if_icmp .ne 42, 3) := by decide +kernel
theorem dL_leap_602 : decode cL_leap 602 = .ok (.aload_n 0, 1) := by decide +kernel
theorem dL_leap_603 : decode cL_leap 603 = .ok (.iconst 4, 1) := by decide +kernel
theorem dL_leap_604 : decode cL_leap 604 = .ok (.invokevirtual 58, 3) := by decide +kernel
theorem dL_leap_607 : decode cL_leap 607 = .ok (.iload 4, 2) := by decide +kernel
