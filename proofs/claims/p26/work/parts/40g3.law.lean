/-! the law's own methods: what stands in the bytes -/
theorem dL_act_707 : decode cL_act 707 = .ok (.ireturn, 1) := by decide +kernel
theorem dL_act_708 : decode cL_act 708 = .ok (.aload_n 0, 1) := by decide +kernel
theorem dL_act_709 : decode cL_act 709 = .ok (.iconst 0, 1) := by decide +kernel
theorem dL_act_710 : decode cL_act 710 = .ok (.invokevirtual 58, 3) := by decide +kernel
theorem dL_act_713 : decode cL_act 713 = .ok (.ifCond .eq 27, 3) := by decide +kernel
theorem dL_act_716 : decode cL_act 716 = .ok (.aload_n 0, 1) := by decide +kernel
theorem dL_act_717 : decode cL_act 717 = .ok (.invokevirtual 88, 3) := by decide +kernel
theorem dL_act_720 : decode cL_act 720 = .ok (.bipush (-5), 2) := by decide +kernel
theorem dL_act_722 : decode cL_act 722 = .ok (.if_icmp .ne 16, 3) := by decide +kernel
theorem dL_act_725 : decode cL_act 725 = .ok (.aload_n 0, 1) := by decide +kernel
theorem dL_act_726 : decode cL_act 726 = .ok (.invokevirtual 91, 3) := by decide +kernel
theorem dL_act_729 : decode cL_act 729 = .ok (.bipush (-5), 2) := by decide +kernel
theorem dL_act_731 : decode cL_act 731 = .ok (.if_icmp .ne 7, 3) := by decide +kernel
theorem dL_act_734 : decode cL_act 734 = .ok (.iconst 1, 1) := by decide +kernel
theorem dL_act_735 : decode cL_act 735 = .ok (.goto 4, 3) := by decide +kernel
theorem dL_act_738 : decode cL_act 738 = .ok (.iconst 0, 1) := by decide +kernel
theorem dL_act_739 : decode cL_act 739 = .ok (.ireturn, 1) := by decide +kernel
theorem dL_act_740 : decode cL_act 740 = .ok (.aload_n 0, 1) := by decide +kernel
theorem dL_act_741 : decode cL_act 741 = .ok (.invokestatic 94, 3) := by decide +kernel
theorem dL_act_744 : decode cL_act 744 = .ok (.ireturn, 1) := by decide +kernel
theorem dL_act_745 : decode cL_act 745 = .ok (.aload_n 0, 1) := by decide +kernel
theorem dL_act_746 : decode cL_act 746 = .ok (.iconst 0, 1) := by decide +kernel
theorem dL_act_747 : decode cL_act 747 = .ok (.invokevirtual 58, 3) := by decide +kernel
theorem dL_act_750 : decode cL_act 750 = .ok (.ifCond .eq 18, 3) := by decide +kernel
theorem dL_act_753 : decode cL_act 753 = .ok (.aload_n 0, 1) := by decide +kernel
theorem dL_act_754 : decode cL_act 754 = .ok (.invokevirtual 91, 3) := by decide +kernel
theorem dL_act_757 : decode cL_act 757 = .ok (.bipush (-5), 2) := by decide +kernel
theorem dL_act_759 : decode cL_act 759 = .ok (.if_icmp .ne 7, 3) := by decide +kernel
theorem dL_act_762 : decode cL_act 762 = .ok (.iconst 1, 1) := by decide +kernel
theorem dL_act_763 : decode cL_act 763 = .ok (.goto 4, 3) := by decide +kernel
theorem dL_act_766 : decode cL_act 766 = .ok (.iconst 0, 1) := by decide +kernel
theorem dL_act_767 : decode cL_act 767 = .ok (.ireturn, 1) := by decide +kernel
theorem dL_act_768 : decode cL_act 768 = .ok (.aload_n 0, 1) := by decide +kernel
theorem dL_act_769 : decode cL_act 769 = .ok (.iconst 5, 1) := by decide +kernel
theorem dL_act_770 : decode cL_act 770 = .ok (.invokevirtual 58, 3) := by decide +kernel
theorem dL_act_773 : decode cL_act 773 = .ok (.istore 7, 2) := by decide +kernel
theorem dL_act_775 : decode cL_act 775 = .ok (.aload_n 0, 1) := by decide +kernel
theorem dL_act_776 : decode cL_act 776 = .ok (.invokevirtual 91, 3) := by decide +kernel
theorem dL_act_779 : decode cL_act 779 = .ok (.istore 8, 2) := by decide +kernel
theorem dL_act_781 : decode cL_act 781 = .ok (.iload 8, 2) := by decide +kernel
theorem dL_act_783 : decode cL_act 783 = .ok (.ifCond .le 29, 3) := by decide +kernel
theorem dL_act_786 : decode cL_act 786 = .ok (.aload_n 0, 1) := by decide +kernel
theorem dL_act_787 : decode cL_act 787 = .ok (.iconst 0, 1) := by decide +kernel
theorem dL_act_788 : decode cL_act 788 = .ok (.invokevirtual 58, 3) := by decide +kernel
theorem dL_act_791 : decode cL_act 791 = .ok (.iconst 1, 1) := by decide +kernel
theorem dL_act_792 : decode cL_act 792 = .ok (.if_icmp .ne 20, 3) := by decide +kernel
theorem dL_act_795 : decode cL_act 795 = .ok (.aload_n 0, 1) := by decide +kernel
theorem dL_act_796 : decode cL_act 796 = .ok (.iconst 5, 1) := by decide +kernel
theorem dL_act_797 : decode cL_act 797 = .ok (.invokevirtual 58, 3) := by decide +kernel
theorem dL_act_800 : decode cL_act 800 = .ok (.iload 7, 2) := by decide +kernel
theorem dL_act_802 : decode cL_act 802 = .ok (.iload 8, 2) := by decide +kernel
theorem dL_act_804 : decode cL_act 804 = .ok (.iadd, 1) := by decide +kernel
theorem dL_act_805 : decode cL_act 805 = .ok (.if_icmp .ne 7, 3) := by decide +kernel
theorem dL_act_808 : decode cL_act 808 = .ok (.iconst 1, 1) := by decide +kernel
theorem dL_act_809 : decode cL_act 809 = .ok (.goto 4, 3) := by decide +kernel
theorem dL_act_812 : decode cL_act 812 = .ok (.iconst 0, 1) := by decide +kernel
theorem dL_act_813 : decode cL_act 813 = .ok (.ireturn, 1) := by decide +kernel
theorem dL_act_814 : decode cL_act 814 = .ok (.iload_n 3, 1) := by decide +kernel
theorem dL_act_815 : decode cL_act 815 = .ok (.iconst 4, 1) := by decide +kernel
theorem dL_act_816 : decode cL_act 816 = .ok (.invokestatic 22, 3) := by decide +kernel
theorem dL_act_819 : decode cL_act 819 = .ok (.istore 7, 2) := by decide +kernel
theorem dL_act_821 : decode cL_act 821 = .ok (.iload 7, 2) := by decide +kernel
theorem dL_act_823 : decode cL_act 823 = .ok (.iconst 2, 1) := by decide +kernel
theorem dL_act_824 : decode cL_act 824 = .ok (.if_icmp .ne 12, 3) := by decide +kernel
theorem dL_act_827 : decode cL_act 827 = .ok (.iload 4, 2) := by decide +kernel
theorem dL_act_829 : decode cL_act 829 = .ok (.iconst 3, 1) := by decide +kernel
theorem dL_act_830 : decode cL_act 830 = .ok (.invokestatic 22, 3) := by decide +kernel
theorem dL_act_833 : decode cL_act 833 = .ok (.goto 45, 3) := by decide +kernel
theorem dL_act_836 : decode cL_act 836 = .ok (.iload 7, 2) := by decide +kernel
theorem dL_act_838 : decode cL_act 838 = .ok (.iconst 3, 1) := by decide +kernel
theorem dL_act_839 : decode cL_act 839 = .ok (.if_icmp .ne 13, 3) := by decide +kernel
theorem dL_act_842 : decode cL_act 842 = .ok (.iload 4, 2) := by decide +kernel
theorem dL_act_844 : decode cL_act 844 = .ok (.bipush 6, 2) := by decide +kernel
theorem dL_act_846 : decode cL_act 846 = .ok (.invokestatic 22, 3) := by decide +kernel
theorem dL_act_849 : decode cL_act 849 = .ok (.goto 29, 3) := by decide +kernel
theorem dL_act_852 : decode cL_act 852 = .ok (.iload 7, 2) := by decide +kernel
theorem dL_act_854 : decode cL_act 854 = .ok (.ifCond .ne 13, 3) := by decide +kernel
theorem dL_act_857 : decode cL_act 857 = .ok (.iload 4, 2) := by decide +kernel
theorem dL_act_859 : decode cL_act 859 = .ok (.bipush 12, 2) := by decide +kernel
theorem dL_act_861 : decode cL_act 861 = .ok (.invokestatic 22, 3) := by decide +kernel
theorem dL_act_864 : decode cL_act 864 = .ok (.goto 14, 3) := by decide +kernel
theorem dL_act_867 : decode cL_act 867 = .ok (.bipush 25, 2) := by decide +kernel
theorem dL_act_869 : decode cL_act 869 = .ok (.iload 4, 2) := by decide +kernel
theorem dL_act_871 : decode cL_act 871 = .ok (.sipush 275, 3) := by decide +kernel
theorem dL_act_874 : decode cL_act 874 = .ok (.invokestatic 22, 3) := by decide +kernel
theorem dL_act_877 : decode cL_act 877 = .ok (.iadd, 1) := by decide +kernel
theorem dL_act_878 : decode cL_act 878 = .ok (.istore 8, 2) := by decide +kernel
theorem dL_act_880 : decode cL_act 880 = .ok (.aload_n 0, 1) := by decide +kernel
theorem dL_act_881 : decode cL_act 881 = .ok (.iconst 2, 1) := by decide +kernel
theorem dL_act_882 : decode cL_act 882 = .ok (.iload 7, 2) := by decide +kernel
theorem dL_act_884 : decode cL_act 884 = .ok (.iadd, 1) := by decide +kernel
theorem dL_act_885 : decode cL_act 885 = .ok (.invokevirtual 62, 3) := by decide +kernel
theorem dL_act_888 : decode cL_act 888 = .ok (.istore 9, 2) := by decide +kernel
theorem dL_act_890 : decode cL_act 890 = .ok (.aload_n 0, 1) := by decide +kernel
theorem dL_act_891 : decode cL_act 891 = .ok (.iload 7, 2) := by decide +kernel
theorem dL_act_893 : decode cL_act 893 = .ok (.iload 8, 2) := by decide +kernel
theorem dL_act_895 : decode cL_act 895 = .ok (.invokevirtual 26, 3) := by decide +kernel
theorem dL_act_898 : decode cL_act 898 = .ok (.iload 9, 2) := by decide +kernel
theorem dL_act_900 : decode cL_act 900 = .ok (.if_icmp .ne 20, 3) := by decide +kernel
theorem dL_act_903 : decode cL_act 903 = .ok (.aload_n 0, 1) := by decide +kernel
theorem dL_act_904 : decode cL_act 904 = .ok (.iconst 2, 1) := by decide +kernel
theorem dL_act_905 : decode cL_act 905 = .ok (.iload 7, 2) := by decide +kernel
theorem dL_act_907 : decode cL_act 907 = .ok (.iadd, 1) := by decide +kernel
theorem dL_act_908 : decode cL_act 908 = .ok (.invokevirtual 62, 3) := by decide +kernel
theorem dL_act_911 : decode cL_act 911 = .ok (.iload 8, 2) := by decide +kernel
theorem dL_act_913 : decode cL_act 913 = .ok (.if_icmp .ne 7, 3) := by decide +kernel
theorem dL_act_916 : decode cL_act 916 = .ok (.iconst 1, 1) := by decide +kernel
theorem dL_act_917 : decode cL_act 917 = .ok (.goto 4, 3) := by decide +kernel
theorem dL_act_920 : decode cL_act 920 = .ok (.iconst 0, 1) := by decide +kernel
theorem dL_act_921 : decode cL_act 921 = .ok (.ireturn, 1) := by decide +kernel
