/-! the law's own methods: what stands in the bytes -/
theorem dL_act_490 : decode cL_act 490 = .ok (.aload_n 0, 1) := by decide +kernel
theorem dL_act_491 : decode cL_act 491 = .ok (.iload 11, 2) := by decide +kernel
theorem dL_act_493 : decode cL_act 493 = .ok (.iconst 5, 1) := by decide +kernel
theorem dL_act_494 : decode cL_act 494 = .ok (.invokevirtual 50, 3) := by decide +kernel
theorem dL_act_497 : decode cL_act 497 = .ok (.ifCond .ne 14, 3) := by decide +kernel
theorem dL_act_500 : decode cL_act 500 = .ok (.aload_n 0, 1) := by decide +kernel
theorem dL_act_501 : decode cL_act 501 = .ok (.iload 11, 2) := by decide +kernel
theorem dL_act_503 : decode cL_act 503 = .ok (.bipush 6, 2) := by decide +kernel
theorem dL_act_505 : decode cL_act 505 = .ok (.invokevirtual 50, 3) := by decide +kernel
theorem dL_act_508 : decode cL_act 508 = .ok (.ifCond .eq 5, 3) := by decide +kernel
theorem dL_act_511 : decode cL_act 511 = .ok (.iconst 0, 1) := by decide +kernel
theorem dL_act_512 : decode cL_act 512 = .ok (.ireturn, 1) := by decide +kernel
theorem dL_act_513 : decode cL_act 513 = .ok (.aload_n 0, 1) := by decide +kernel
theorem dL_act_514 : decode cL_act 514 = .ok (.iload 11, 2) := by decide +kernel
theorem dL_act_516 : decode cL_act 516 = .ok (.iconst 2, 1) := by decide +kernel
theorem dL_act_517 : decode cL_act 517 = .ok (.invokevirtual 50, 3) := by decide +kernel
theorem dL_act_520 : decode cL_act 520 = .ok (.istore 13, 2) := by decide +kernel
theorem dL_act_522 : decode cL_act 522 = .ok (.iload 13, 2) := by decide +kernel
theorem dL_act_524 : decode cL_act 524 = .ok (.ifCond .lt 13, 3) := by decide +kernel
theorem dL_act_527 : decode cL_act 527 = .ok (.iload 13, 2) := by decide +kernel
theorem dL_act_529 : decode cL_act 529 = .ok (.aload_n 0, 1) := by decide +kernel
theorem dL_act_530 : decode cL_act 530 = .ok (.iconst 3, 1) := by decide +kernel
theorem dL_act_531 : decode cL_act 531 = .ok (.invokevirtual 62, 3) := by decide +kernel
theorem dL_act_534 : decode cL_act 534 = .ok (.if_icmp .le 6, 3) := by decide +kernel
theorem dL_act_537 : decode cL_act 537 = .ok (.iconst 1, 1) := by decide +kernel
theorem dL_act_538 : decode cL_act 538 = .ok (.istore 8, 2) := by decide +kernel
theorem dL_act_540 : decode cL_act 540 = .ok (.iload 13, 2) := by decide +kernel
theorem dL_act_542 : decode cL_act 542 = .ok (.iload 10, 2) := by decide +kernel
theorem dL_act_544 : decode cL_act 544 = .ok (.if_icmp .le 7, 3) := by decide +kernel
theorem dL_act_547 : decode cL_act 547 = .ok (.iload 13, 2) := by decide +kernel
theorem dL_act_549 : decode cL_act 549 = .ok (.istore 10, 2) := by decide +kernel
theorem dL_act_551 : decode cL_act 551 = .ok (.iinc 11 1, 3) := by decide +kernel
theorem dL_act_554 : decode cL_act 554 = .ok (.goto (-115), 3) := by decide +kernel
theorem dL_act_557 : decode cL_act 557 = .ok (.aload_n 0, 1) := by decide +kernel
theorem dL_act_558 : decode cL_act 558 = .ok (.iconst 0, 1) := by decide +kernel
theorem dL_act_559 : decode cL_act 559 = .ok (.iconst 2, 1) := by decide +kernel
theorem dL_act_560 : decode cL_act 560 = .ok (.invokevirtual 50, 3) := by decide +kernel
theorem dL_act_563 : decode cL_act 563 = .ok (.aload_n 0, 1) := by decide +kernel
theorem dL_act_564 : decode cL_act 564 = .ok (.iconst 1, 1) := by decide +kernel
theorem dL_act_565 : decode cL_act 565 = .ok (.iconst 2, 1) := by decide +kernel
theorem dL_act_566 : decode cL_act 566 = .ok (.invokevirtual 50, 3) := by decide +kernel
theorem dL_act_569 : decode cL_act 569 = .ok (.if_icmp .ne 22, 3) := by decide +kernel
theorem dL_act_572 : decode cL_act 572 = .ok (.aload_n 0, 1) := by decide +kernel
theorem dL_act_573 : decode cL_act 573 = .ok (.iconst 1, 1) := by decide +kernel
theorem dL_act_574 : decode cL_act 574 = .ok (.iconst 2, 1) := by decide +kernel
theorem dL_act_575 : decode cL_act 575 = .ok (.invokevirtual 50, 3) := by decide +kernel
theorem dL_act_578 : decode cL_act 578 = .ok (.aload_n 0, 1) := by decide +kernel
theorem dL_act_579 : decode cL_act 579 = .ok (.iconst 2, 1) := by decide +kernel
theorem dL_act_580 : decode cL_act 580 = .ok (.iconst 2, 1) := by decide +kernel
theorem dL_act_581 : decode cL_act 581 = .ok (.invokevirtual 50, 3) := by decide +kernel
theorem dL_act_584 : decode cL_act 584 = .ok (.if_icmp .ne 7, 3) := by decide +kernel
theorem dL_act_587 : decode cL_act 587 = .ok (.iconst 1, 1) := by decide +kernel
theorem dL_act_588 : decode cL_act 588 = .ok (.goto 4, 3) := by decide +kernel
theorem dL_act_591 : decode cL_act 591 = .ok (.iconst 0, 1) := by decide +kernel
theorem dL_act_592 : decode cL_act 592 = .ok (.istore 11, 2) := by decide +kernel
theorem dL_act_594 : decode cL_act 594 = .ok (.iload 8, 2) := by decide +kernel
theorem dL_act_596 : decode cL_act 596 = .ok (.ifCond .ne 31, 3) := by decide +kernel
theorem dL_act_599 : decode cL_act 599 = .ok (.iload 11, 2) := by decide +kernel
theorem dL_act_601 : decode cL_act 601 = .ok (.ifCond .eq 10, 3) := by decide +kernel
theorem dL_act_604 : decode cL_act 604 = .ok (.iload 10, 2) := by decide +kernel
theorem dL_act_606 : decode cL_act 606 = .ok (.iconst 1, 1) := by decide +kernel
theorem dL_act_607 : decode cL_act 607 = .ok (.iadd, 1) := by decide +kernel
theorem dL_act_608 : decode cL_act 608 = .ok (.goto 17, 3) := by decide +kernel
theorem dL_act_611 : decode cL_act 611 = .ok (.iload 10, 2) := by decide +kernel
theorem dL_act_613 : decode cL_act 613 = .ok (.iload 9, 2) := by decide +kernel
theorem dL_act_615 : decode cL_act 615 = .ok (.if_icmp .le 8, 3) := by decide +kernel
theorem dL_act_618 : decode cL_act 618 = .ok (.iload 10, 2) := by decide +kernel
theorem dL_act_620 : decode cL_act 620 = .ok (.goto 5, 3) := by decide +kernel
theorem dL_act_623 : decode cL_act 623 = .ok (.iload 9, 2) := by decide +kernel
theorem dL_act_625 : decode cL_act 625 = .ok (.istore 9, 2) := by decide +kernel
theorem dL_act_627 : decode cL_act 627 = .ok (.iload 7, 2) := by decide +kernel
theorem dL_act_629 : decode cL_act 629 = .ok (.iload 8, 2) := by decide +kernel
theorem dL_act_631 : decode cL_act 631 = .ok (.ifCond .eq 7, 3) := by decide +kernel
theorem dL_act_634 : decode cL_act 634 = .ok (.iconst 1, 1) := by decide +kernel
theorem dL_act_635 : decode cL_act 635 = .ok (.goto 4, 3) := by decide +kernel
theorem dL_act_638 : decode cL_act 638 = .ok (.iconst 0, 1) := by decide +kernel
theorem dL_act_639 : decode cL_act 639 = .ok (.if_icmp .ne 67, 3) := by decide +kernel
theorem dL_act_642 : decode cL_act 642 = .ok (.aload_n 0, 1) := by decide +kernel
theorem dL_act_643 : decode cL_act 643 = .ok (.iconst 0, 1) := by decide +kernel
theorem dL_act_644 : decode cL_act 644 = .ok (.invokevirtual 58, 3) := by decide +kernel
theorem dL_act_647 : decode cL_act 647 = .ok (.iload 7, 2) := by decide +kernel
theorem dL_act_649 : decode cL_act 649 = .ok (.if_icmp .ne 57, 3) := by decide +kernel
theorem dL_act_652 : decode cL_act 652 = .ok (.aload_n 0, 1) := by decide +kernel
theorem dL_act_653 : decode cL_act 653 = .ok (.iconst 1, 1) := by decide +kernel
theorem dL_act_654 : decode cL_act 654 = .ok (.invokevirtual 58, 3) := by decide +kernel
theorem dL_act_657 : decode cL_act 657 = .ok (.iload 9, 2) := by decide +kernel
theorem dL_act_659 : decode cL_act 659 = .ok (.if_icmp .ne 47, 3) := by decide +kernel
theorem dL_act_662 : decode cL_act 662 = .ok (.aload_n 0, 1) := by decide +kernel
theorem dL_act_663 : decode cL_act 663 = .ok (.iconst 2, 1) := by decide +kernel
theorem dL_act_664 : decode cL_act 664 = .ok (.invokevirtual 58, 3) := by decide +kernel
theorem dL_act_667 : decode cL_act 667 = .ok (.aload_n 0, 1) := by decide +kernel
theorem dL_act_668 : decode cL_act 668 = .ok (.iconst 5, 1) := by decide +kernel
theorem dL_act_669 : decode cL_act 669 = .ok (.invokevirtual 62, 3) := by decide +kernel
theorem dL_act_672 : decode cL_act 672 = .ok (.iconst 0, 1) := by decide +kernel
theorem dL_act_673 : decode cL_act 673 = .ok (.invokestatic 85, 3) := by decide +kernel
theorem dL_act_676 : decode cL_act 676 = .ok (.if_icmp .ne 30, 3) := by decide +kernel
theorem dL_act_679 : decode cL_act 679 = .ok (.aload_n 0, 1) := by decide +kernel
theorem dL_act_680 : decode cL_act 680 = .ok (.iconst 3, 1) := by decide +kernel
theorem dL_act_681 : decode cL_act 681 = .ok (.invokevirtual 58, 3) := by decide +kernel
theorem dL_act_684 : decode cL_act 684 = .ok (.iload 11, 2) := by decide +kernel
theorem dL_act_686 : decode cL_act 686 = .ok (.ifCond .eq 12, 3) := by decide +kernel
theorem dL_act_689 : decode cL_act 689 = .ok (.iload 8, 2) := by decide +kernel
theorem dL_act_691 : decode cL_act 691 = .ok (.ifCond .ne 7, 3) := by decide +kernel
theorem dL_act_694 : decode cL_act 694 = .ok (.iconst 1, 1) := by decide +kernel
theorem dL_act_695 : decode cL_act 695 = .ok (.goto 4, 3) := by decide +kernel
theorem dL_act_698 : decode cL_act 698 = .ok (.iconst 0, 1) := by decide +kernel
theorem dL_act_699 : decode cL_act 699 = .ok (.if_icmp .ne 7, 3) := by decide +kernel
theorem dL_act_702 : decode cL_act 702 = .ok (.iconst 1, 1) := by decide +kernel
theorem dL_act_703 : decode cL_act 703 = .ok (.goto 4, 3) := by decide +kernel
theorem dL_act_706 : decode cL_act 706 = .ok (.iconst 0, 1) := by decide +kernel
