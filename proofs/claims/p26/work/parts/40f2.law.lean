/-! the law's own methods: what stands in the bytes -/
theorem dL_comes_419 : decode cL_comes 419 = .ok (.aload_n 0, 1) := by decide +kernel
theorem dL_comes_420 : decode cL_comes 420 = .ok (.bipush 6, 2) := by decide +kernel
theorem dL_comes_422 : decode cL_comes 422 = .ok (.invokevirtual 58, 3) := by decide +kernel
theorem dL_comes_425 : decode cL_comes 425 = .ok (.iload 15, 2) := by decide +kernel
theorem dL_comes_427 : decode cL_comes 427 = .ok (.if_icmp .ne 32, 3) := by decide +kernel
theorem dL_comes_430 : decode cL_comes 430 = .ok (.aload_n 0, 1) := by decide +kernel
theorem dL_comes_431 : decode cL_comes 431 = .ok (.iconst 3, 1) := by decide +kernel
theorem dL_comes_432 : decode cL_comes 432 = .ok (.invokevirtual 58, 3) := by decide +kernel
theorem dL_comes_435 : decode cL_comes 435 = .ok (.iload 5, 2) := by decide +kernel
theorem dL_comes_437 : decode cL_comes 437 = .ok (.if_icmp .ne 22, 3) := by decide +kernel
theorem dL_comes_440 : decode cL_comes 440 = .ok (.aload_n 0, 1) := by decide +kernel
theorem dL_comes_441 : decode cL_comes 441 = .ok (.iconst 4, 1) := by decide +kernel
theorem dL_comes_442 : decode cL_comes 442 = .ok (.invokevirtual 58, 3) := by decide +kernel
theorem dL_comes_445 : decode cL_comes 445 = .ok (.iload 6, 2) := by decide +kernel
theorem dL_comes_447 : decode cL_comes 447 = .ok (.if_icmp .ne 12, 3) := by decide +kernel
theorem dL_comes_450 : decode cL_comes 450 = .ok (.aload_n 0, 1) := by decide +kernel
theorem dL_comes_451 : decode cL_comes 451 = .ok (.iconst 0, 1) := by decide +kernel
theorem dL_comes_452 : decode cL_comes 452 = .ok (.invokevirtual 58, 3) := by decide +kernel
theorem dL_comes_455 : decode cL_comes 455 = .ok (.iconst 1, 1) := by decide +kernel
theorem dL_comes_456 : decode cL_comes 456 = .ok (.if_icmp .eq 5, 3) := by decide +kernel
theorem dL_comes_459 : decode cL_comes 459 = .ok (.iconst 0, 1) := by decide +kernel
theorem dL_comes_460 : decode cL_comes 460 = .ok (.ireturn, 1) := by decide +kernel
theorem dL_comes_461 : decode cL_comes 461 = .ok (.iconst 0, 1) := by decide +kernel
theorem dL_comes_462 : decode cL_comes 462 = .ok (.istore 17, 2) := by decide +kernel
theorem dL_comes_464 : decode cL_comes 464 = .ok (.iload 17, 2) := by decide +kernel
theorem dL_comes_466 : decode cL_comes 466 = .ok (.iload 16, 2) := by decide +kernel
theorem dL_comes_468 : decode cL_comes 468 = .ok (.ifCond .eq 7, 3) := by decide +kernel
theorem dL_comes_471 : decode cL_comes 471 = .ok (.iconst 3, 1) := by decide +kernel
theorem dL_comes_472 : decode cL_comes 472 = .ok (.goto 4, 3) := by decide +kernel
theorem dL_comes_475 : decode cL_comes 475 = .ok (.iconst 4, 1) := by decide +kernel
theorem dL_comes_476 : decode cL_comes 476 = .ok (.if_icmp .ge 18, 3) := by decide +kernel
theorem dL_comes_479 : decode cL_comes 479 = .ok (.aload_n 0, 1) := by decide +kernel
theorem dL_comes_480 : decode cL_comes 480 = .ok (.invokevirtual 123, 3) := by decide +kernel
theorem dL_comes_483 : decode cL_comes 483 = .ok (.ifCond .ge 5, 3) := by decide +kernel
theorem dL_comes_486 : decode cL_comes 486 = .ok (.iconst 0, 1) := by decide +kernel
theorem dL_comes_487 : decode cL_comes 487 = .ok (.ireturn, 1) := by decide +kernel
theorem dL_comes_488 : decode cL_comes 488 = .ok (.iinc 17 1, 3) := by decide +kernel
theorem dL_comes_491 : decode cL_comes 491 = .ok (.goto (-27), 3) := by decide +kernel
theorem dL_comes_494 : decode cL_comes 494 = .ok (.iload_n 2, 1) := by decide +kernel
theorem dL_comes_495 : decode cL_comes 495 = .ok (.iconst 5, 1) := by decide +kernel
theorem dL_comes_496 : decode cL_comes 496 = .ok (.ishr, 1) := by decide +kernel
theorem dL_comes_497 : decode cL_comes 497 = .ok (.iload_n 1, 1) := by decide +kernel
theorem dL_comes_498 : decode cL_comes 498 = .ok (.invokestatic 22, 3) := by decide +kernel
theorem dL_comes_501 : decode cL_comes 501 = .ok (.istore 17, 2) := by decide +kernel
theorem dL_comes_503 : decode cL_comes 503 = .ok (.iload 17, 2) := by decide +kernel
theorem dL_comes_505 : decode cL_comes 505 = .ok (.iload_n 2, 1) := by decide +kernel
theorem dL_comes_506 : decode cL_comes 506 = .ok (.bipush 12, 2) := by decide +kernel
theorem dL_comes_508 : decode cL_comes 508 = .ok (.ishr, 1) := by decide +kernel
theorem dL_comes_509 : decode cL_comes 509 = .ok (.sipush 300, 3) := by decide +kernel
theorem dL_comes_512 : decode cL_comes 512 = .ok (.iload 17, 2) := by decide +kernel
theorem dL_comes_514 : decode cL_comes 514 = .ok (.isub, 1) := by decide +kernel
theorem dL_comes_515 : decode cL_comes 515 = .ok (.invokestatic 22, 3) := by decide +kernel
theorem dL_comes_518 : decode cL_comes 518 = .ok (.iadd, 1) := by decide +kernel
theorem dL_comes_519 : decode cL_comes 519 = .ok (.istore 18, 2) := by decide +kernel
theorem dL_comes_521 : decode cL_comes 521 = .ok (.aload_n 0, 1) := by decide +kernel
theorem dL_comes_522 : decode cL_comes 522 = .ok (.iload 17, 2) := by decide +kernel
theorem dL_comes_524 : decode cL_comes 524 = .ok (.iload 18, 2) := by decide +kernel
theorem dL_comes_526 : decode cL_comes 526 = .ok (.invokevirtual 135, 3) := by decide +kernel
theorem dL_comes_529 : decode cL_comes 529 = .ok (.istore 19, 2) := by decide +kernel
theorem dL_comes_531 : decode cL_comes 531 = .ok (.aload_n 0, 1) := by decide +kernel
theorem dL_comes_532 : decode cL_comes 532 = .ok (.bipush (-6), 2) := by decide +kernel
theorem dL_comes_534 : decode cL_comes 534 = .ok (.iload 17, 2) := by decide +kernel
theorem dL_comes_536 : decode cL_comes 536 = .ok (.iload 18, 2) := by decide +kernel
theorem dL_comes_538 : decode cL_comes 538 = .ok (.invokevirtual 72, 3) := by decide +kernel
theorem dL_comes_541 : decode cL_comes 541 = .ok (.ifCond .lt 23, 3) := by decide +kernel
theorem dL_comes_544 : decode cL_comes 544 = .ok (.aload_n 0, 1) := by decide +kernel
theorem dL_comes_545 : decode cL_comes 545 = .ok (.iconst 1, 1) := by decide +kernel
theorem dL_comes_546 : decode cL_comes 546 = .ok (.invokevirtual 126, 3) := by decide +kernel
theorem dL_comes_549 : decode cL_comes 549 = .ok (.iload 6, 2) := by decide +kernel
theorem dL_comes_551 : decode cL_comes 551 = .ok (.iload 19, 2) := by decide +kernel
theorem dL_comes_553 : decode cL_comes 553 = .ok (.isub, 1) := by decide +kernel
theorem dL_comes_554 : decode cL_comes 554 = .ok (.if_icmp .ne 10, 3) := by decide +kernel
theorem dL_comes_557 : decode cL_comes 557 = .ok (.aload_n 0, 1) := by decide +kernel
theorem dL_comes_558 : decode cL_comes 558 = .ok (.invokevirtual 123, 3) := by decide +kernel
theorem dL_comes_561 : decode cL_comes 561 = .ok (.ifCond .ge 5, 3) := by decide +kernel
theorem dL_comes_564 : decode cL_comes 564 = .ok (.iconst 0, 1) := by decide +kernel
theorem dL_comes_565 : decode cL_comes 565 = .ok (.ireturn, 1) := by decide +kernel
theorem dL_comes_566 : decode cL_comes 566 = .ok (.aload_n 0, 1) := by decide +kernel
theorem dL_comes_567 : decode cL_comes 567 = .ok (.invokestatic 116, 3) := by decide +kernel
theorem dL_comes_570 : decode cL_comes 570 = .ok (.lload_n 3, 1) := by decide +kernel
theorem dL_comes_571 : decode cL_comes 571 = .ok (.lcmp, 1) := by decide +kernel
theorem dL_comes_572 : decode cL_comes 572 = .ok (.ifCond .ne 7, 3) := by decide +kernel
theorem dL_comes_575 : decode cL_comes 575 = .ok (.iconst 1, 1) := by decide +kernel
theorem dL_comes_576 : decode cL_comes 576 = .ok (.goto 4, 3) := by decide +kernel
theorem dL_comes_579 : decode cL_comes 579 = .ok (.iconst 0, 1) := by decide +kernel
theorem dL_comes_580 : decode cL_comes 580 = .ok (.ireturn, 1) := by decide +kernel
