theorem d_law_721 : decode b_law 721 = .ok (.iload 6, 2) := by decide +kernel
theorem d_law_723 : decode b_law 723 = .ok (.i2l, 1) := by decide +kernel
theorem d_law_724 : decode b_law 724 = .ok (.lcmp, 1) := by decide +kernel
theorem d_law_725 : decode b_law 725 = .ok (.ifCond .eq 5, 3) := by decide +kernel
theorem d_law_730 : decode b_law 730 = .ok (.goto 551, 3) := by decide +kernel
theorem d_law_733 : decode b_law 733 = .ok (.aload_n 1, 1) := by decide +kernel
theorem d_law_734 : decode b_law 734 = .ok (.aload_n 0, 1) := by decide +kernel
theorem d_law_735 : decode b_law 735 = .ok (.iload 4, 2) := by decide +kernel
theorem d_law_737 : decode b_law 737 = .ok (.iconst 1, 1) := by decide +kernel
theorem d_law_738 : decode b_law 738 = .ok (.iadd, 1) := by decide +kernel
theorem d_law_739 : decode b_law 739 = .ok (.iaload, 1) := by decide +kernel
theorem d_law_740 : decode b_law 740 = .ok (.aload_n 0, 1) := by decide +kernel
theorem d_law_741 : decode b_law 741 = .ok (.iload 4, 2) := by decide +kernel
theorem d_law_743 : decode b_law 743 = .ok (.iconst 2, 1) := by decide +kernel
theorem d_law_744 : decode b_law 744 = .ok (.iadd, 1) := by decide +kernel
theorem d_law_745 : decode b_law 745 = .ok (.iaload, 1) := by decide +kernel
theorem d_law_746 : decode b_law 746 = .ok (.aload_n 3, 1) := by decide +kernel
theorem d_law_747 : decode b_law 747 = .ok (.invokestatic 131, 3) := by decide +kernel
theorem d_law_750 : decode b_law 750 = .ok (.istore 5, 2) := by decide +kernel
theorem d_law_752 : decode b_law 752 = .ok (.aload_n 2, 1) := by decide +kernel
theorem d_law_753 : decode b_law 753 = .ok (.aload_n 0, 1) := by decide +kernel
theorem d_law_754 : decode b_law 754 = .ok (.iload 4, 2) := by decide +kernel
theorem d_law_756 : decode b_law 756 = .ok (.iconst 1, 1) := by decide +kernel
theorem d_law_757 : decode b_law 757 = .ok (.iadd, 1) := by decide +kernel
theorem d_law_758 : decode b_law 758 = .ok (.iaload, 1) := by decide +kernel
theorem d_law_759 : decode b_law 759 = .ok (.aload_n 0, 1) := by decide +kernel
theorem d_law_760 : decode b_law 760 = .ok (.iload 4, 2) := by decide +kernel
theorem d_law_762 : decode b_law 762 = .ok (.iconst 2, 1) := by decide +kernel
theorem d_law_763 : decode b_law 763 = .ok (.iadd, 1) := by decide +kernel
theorem d_law_764 : decode b_law 764 = .ok (.iaload, 1) := by decide +kernel
theorem d_law_765 : decode b_law 765 = .ok (.invokevirtual 133, 3) := by decide +kernel
theorem d_law_768 : decode b_law 768 = .ok (.istore 6, 2) := by decide +kernel
theorem d_law_770 : decode b_law 770 = .ok (.aload_n 2, 1) := by decide +kernel
theorem d_law_771 : decode b_law 771 = .ok (.invokevirtual 94, 3) := by decide +kernel
theorem d_law_774 : decode b_law 774 = .ok (.iload 5, 2) := by decide +kernel
theorem d_law_776 : decode b_law 776 = .ok (.if_icmp .eq 5, 3) := by decide +kernel
theorem d_law_781 : decode b_law 781 = .ok (.iload 5, 2) := by decide +kernel
theorem d_law_783 : decode b_law 783 = .ok (.ifCond .ne 15, 3) := by decide +kernel
theorem d_law_798 : decode b_law 798 = .ok (.goto 483, 3) := by decide +kernel
theorem d_law_801 : decode b_law 801 = .ok (.aload_n 1, 1) := by decide +kernel
theorem d_law_802 : decode b_law 802 = .ok (.aload_n 0, 1) := by decide +kernel
theorem d_law_803 : decode b_law 803 = .ok (.iload 4, 2) := by decide +kernel
theorem d_law_805 : decode b_law 805 = .ok (.iconst 1, 1) := by decide +kernel
theorem d_law_806 : decode b_law 806 = .ok (.iadd, 1) := by decide +kernel
theorem d_law_807 : decode b_law 807 = .ok (.iaload, 1) := by decide +kernel
theorem d_law_808 : decode b_law 808 = .ok (.aload_n 0, 1) := by decide +kernel
theorem d_law_809 : decode b_law 809 = .ok (.iload 4, 2) := by decide +kernel
theorem d_law_811 : decode b_law 811 = .ok (.iconst 2, 1) := by decide +kernel
theorem d_law_812 : decode b_law 812 = .ok (.iadd, 1) := by decide +kernel
theorem d_law_813 : decode b_law 813 = .ok (.iaload, 1) := by decide +kernel
theorem d_law_814 : decode b_law 814 = .ok (.aload_n 3, 1) := by decide +kernel
theorem d_law_815 : decode b_law 815 = .ok (.invokestatic 134, 3) := by decide +kernel
theorem d_law_818 : decode b_law 818 = .ok (.istore 5, 2) := by decide +kernel
theorem d_law_820 : decode b_law 820 = .ok (.aload_n 2, 1) := by decide +kernel
theorem d_law_821 : decode b_law 821 = .ok (.aload_n 0, 1) := by decide +kernel
theorem d_law_822 : decode b_law 822 = .ok (.iload 4, 2) := by decide +kernel
theorem d_law_824 : decode b_law 824 = .ok (.iconst 1, 1) := by decide +kernel
theorem d_law_825 : decode b_law 825 = .ok (.iadd, 1) := by decide +kernel
theorem d_law_826 : decode b_law 826 = .ok (.iaload, 1) := by decide +kernel
theorem d_law_827 : decode b_law 827 = .ok (.aload_n 0, 1) := by decide +kernel
