/-! the law's own methods: what stands in the bytes -/
theorem dL_leap_609 : decode cL_leap 609 = .ok (.iload 17, 2) := by decide +kernel
theorem dL_leap_611 : decode cL_leap 611 = .ok (.iadd, 1) := by decide +kernel
theorem dL_leap_612 : decode cL_leap 612 = .ok (.if_icmp .ne 29, 3) := by decide +kernel
theorem dL_leap_615 : decode cL_leap 615 = .ok (.aload_n 0, 1) := by decide +kernel
theorem dL_leap_616 : decode cL_leap 616 = .ok (.iload_n 3, 1) := by decide +kernel
theorem dL_leap_617 : decode cL_leap 617 = .ok (.iconst 0, 1) := by decide +kernel
theorem dL_leap_618 : decode cL_leap 618 = .ok (.invokevirtual 99, 3) := by decide +kernel
theorem dL_leap_621 : decode cL_leap 621 = .ok (.iload 15, 2) := by decide +kernel
theorem dL_leap_623 : decode cL_leap 623 = .ok (.if_icmp .ne 18, 3) := by decide +kernel
theorem dL_leap_626 : decode cL_leap 626 = .ok (.aload_n 0, 1) := by decide +kernel
theorem dL_leap_627 : decode cL_leap 627 = .ok (.iload_n 3, 1) := by decide +kernel
theorem dL_leap_628 : decode cL_leap 628 = .ok (.iconst 1, 1) := by decide +kernel
theorem dL_leap_629 : decode cL_leap 629 = .ok (.invokevirtual 99, 3) := by decide +kernel
theorem dL_leap_632 : decode cL_leap 632 = .ok (.iload 17, 2) := by decide +kernel
theorem dL_leap_634 : decode cL_leap 634 = .ok (.if_icmp .ne 7, 3) := by decide +kernel
theorem dL_leap_637 : decode cL_leap 637 = .ok (.iconst 1, 1) := by decide +kernel
theorem dL_leap_638 : decode cL_leap 638 = .ok (.goto 4, 3) := by decide +kernel
theorem dL_leap_641 : decode cL_leap 641 = .ok (.iconst 0, 1) := by decide +kernel
theorem dL_leap_642 : decode cL_leap 642 = .ok (.ireturn, 1) := by decide +kernel
theorem dL_leap_643 : decode cL_leap 643 = .ok (.aload_n 0, 1) := by decide +kernel
theorem dL_leap_644 : decode cL_leap 644 = .ok (.iconst 0, 1) := by decide +kernel
theorem dL_leap_645 : decode cL_leap 645 = .ok (.invokevirtual 58, 3) := by decide +kernel
theorem dL_leap_648 : decode cL_leap 648 = .ok (.ifCond .ne 46, 3) := by decide +kernel
theorem dL_leap_651 : decode cL_leap 651 = .ok (.aload_n 0, 1) := by decide +kernel
theorem dL_leap_652 : decode cL_leap 652 = .ok (.iconst 1, 1) := by decide +kernel
theorem dL_leap_653 : decode cL_leap 653 = .ok (.invokevirtual 58, 3) := by decide +kernel
theorem dL_leap_656 : decode cL_leap 656 = .ok (.iload 15, 2) := by decide +kernel
theorem dL_leap_658 : decode cL_leap 658 = .ok (.iload_n 2, 1) := by decide +kernel
theorem dL_leap_659 : decode cL_leap 659 = .ok (.if_icmp .le 8, 3) := by decide +kernel
theorem dL_leap_662 : decode cL_leap 662 = .ok (.iload 15, 2) := by decide +kernel
theorem dL_leap_664 : decode cL_leap 664 = .ok (.goto 4, 3) := by decide +kernel
theorem dL_leap_667 : decode cL_leap 667 = .ok (.iload_n 2, 1) := by decide +kernel
theorem dL_leap_668 : decode cL_leap 668 = .ok (.if_icmp .ne 26, 3) := by decide +kernel
theorem dL_leap_671 : decode cL_leap 671 = .ok (.aload_n 0, 1) := by decide +kernel
theorem dL_leap_672 : decode cL_leap 672 = .ok (.iconst 3, 1) := by decide +kernel
theorem dL_leap_673 : decode cL_leap 673 = .ok (.invokevirtual 58, 3) := by decide +kernel
theorem dL_leap_676 : decode cL_leap 676 = .ok (.iload_n 3, 1) := by decide +kernel
theorem dL_leap_677 : decode cL_leap 677 = .ok (.if_icmp .ne 17, 3) := by decide +kernel
theorem dL_leap_680 : decode cL_leap 680 = .ok (.aload_n 0, 1) := by decide +kernel
theorem dL_leap_681 : decode cL_leap 681 = .ok (.iconst 4, 1) := by decide +kernel
theorem dL_leap_682 : decode cL_leap 682 = .ok (.invokevirtual 58, 3) := by decide +kernel
theorem dL_leap_685 : decode cL_leap 685 = .ok (.iload 4, 2) := by decide +kernel
theorem dL_leap_687 : decode cL_leap 687 = .ok (.if_icmp .ne 7, 3) := by decide +kernel
theorem dL_leap_690 : decode cL_leap 690 = .ok (.iconst 1, 1) := by decide +kernel
theorem dL_leap_691 : decode cL_leap 691 = .ok (.goto 4, 3) := by decide +kernel
theorem dL_leap_694 : decode cL_leap 694 = .ok (.iconst 0, 1) := by decide +kernel
theorem dL_leap_695 : decode cL_leap 695 = .ok (.ireturn, 1) := by decide +kernel
