theorem d_law_609 : decode b_law 609 = .ok (.aload_n 1, 1) := by decide +kernel
theorem d_law_610 : decode b_law 610 = .ok (.aload_n 0, 1) := by decide +kernel
theorem d_law_611 : decode b_law 611 = .ok (.iload 4, 2) := by decide +kernel
theorem d_law_613 : decode b_law 613 = .ok (.iconst 1, 1) := by decide +kernel
theorem d_law_614 : decode b_law 614 = .ok (.iadd, 1) := by decide +kernel
theorem d_law_615 : decode b_law 615 = .ok (.iaload, 1) := by decide +kernel
theorem d_law_616 : decode b_law 616 = .ok (.aload_n 0, 1) := by decide +kernel
theorem d_law_617 : decode b_law 617 = .ok (.iload 4, 2) := by decide +kernel
theorem d_law_619 : decode b_law 619 = .ok (.iconst 2, 1) := by decide +kernel
theorem d_law_620 : decode b_law 620 = .ok (.iadd, 1) := by decide +kernel
theorem d_law_621 : decode b_law 621 = .ok (.iaload, 1) := by decide +kernel
theorem d_law_622 : decode b_law 622 = .ok (.aload_n 3, 1) := by decide +kernel
theorem d_law_623 : decode b_law 623 = .ok (.invokestatic 125, 3) := by decide +kernel
theorem d_law_626 : decode b_law 626 = .ok (.istore 5, 2) := by decide +kernel
theorem d_law_628 : decode b_law 628 = .ok (.aload_n 2, 1) := by decide +kernel
theorem d_law_629 : decode b_law 629 = .ok (.aload_n 0, 1) := by decide +kernel
theorem d_law_630 : decode b_law 630 = .ok (.iload 4, 2) := by decide +kernel
theorem d_law_632 : decode b_law 632 = .ok (.iconst 1, 1) := by decide +kernel
theorem d_law_633 : decode b_law 633 = .ok (.iadd, 1) := by decide +kernel
theorem d_law_634 : decode b_law 634 = .ok (.iaload, 1) := by decide +kernel
theorem d_law_635 : decode b_law 635 = .ok (.aload_n 0, 1) := by decide +kernel
theorem d_law_636 : decode b_law 636 = .ok (.iload 4, 2) := by decide +kernel
theorem d_law_638 : decode b_law 638 = .ok (.iconst 2, 1) := by decide +kernel
theorem d_law_639 : decode b_law 639 = .ok (.iadd, 1) := by decide +kernel
theorem d_law_640 : decode b_law 640 = .ok (.iaload, 1) := by decide +kernel
theorem d_law_641 : decode b_law 641 = .ok (.invokevirtual 127, 3) := by decide +kernel
theorem d_law_644 : decode b_law 644 = .ok (.istore 6, 2) := by decide +kernel
theorem d_law_646 : decode b_law 646 = .ok (.aload_n 2, 1) := by decide +kernel
theorem d_law_647 : decode b_law 647 = .ok (.invokevirtual 94, 3) := by decide +kernel
theorem d_law_650 : decode b_law 650 = .ok (.iload 5, 2) := by decide +kernel
theorem d_law_652 : decode b_law 652 = .ok (.if_icmp .eq 5, 3) := by decide +kernel
theorem d_law_657 : decode b_law 657 = .ok (.iload 5, 2) := by decide +kernel
theorem d_law_659 : decode b_law 659 = .ok (.ifCond .ne 15, 3) := by decide +kernel
theorem d_law_674 : decode b_law 674 = .ok (.goto 607, 3) := by decide +kernel
theorem d_law_677 : decode b_law 677 = .ok (.aload_n 1, 1) := by decide +kernel
theorem d_law_678 : decode b_law 678 = .ok (.aload_n 0, 1) := by decide +kernel
theorem d_law_679 : decode b_law 679 = .ok (.iload 4, 2) := by decide +kernel
theorem d_law_681 : decode b_law 681 = .ok (.iconst 1, 1) := by decide +kernel
theorem d_law_682 : decode b_law 682 = .ok (.iadd, 1) := by decide +kernel
theorem d_law_683 : decode b_law 683 = .ok (.iaload, 1) := by decide +kernel
theorem d_law_684 : decode b_law 684 = .ok (.aload_n 3, 1) := by decide +kernel
theorem d_law_685 : decode b_law 685 = .ok (.invokestatic 128, 3) := by decide +kernel
theorem d_law_688 : decode b_law 688 = .ok (.istore 5, 2) := by decide +kernel
theorem d_law_690 : decode b_law 690 = .ok (.aload_n 2, 1) := by decide +kernel
theorem d_law_691 : decode b_law 691 = .ok (.aload_n 0, 1) := by decide +kernel
theorem d_law_692 : decode b_law 692 = .ok (.iload 4, 2) := by decide +kernel
theorem d_law_694 : decode b_law 694 = .ok (.iconst 1, 1) := by decide +kernel
theorem d_law_695 : decode b_law 695 = .ok (.iadd, 1) := by decide +kernel
theorem d_law_696 : decode b_law 696 = .ok (.iaload, 1) := by decide +kernel
theorem d_law_697 : decode b_law 697 = .ok (.invokevirtual 130, 3) := by decide +kernel
theorem d_law_700 : decode b_law 700 = .ok (.istore 6, 2) := by decide +kernel
theorem d_law_702 : decode b_law 702 = .ok (.aload_n 2, 1) := by decide +kernel
theorem d_law_703 : decode b_law 703 = .ok (.invokevirtual 94, 3) := by decide +kernel
theorem d_law_706 : decode b_law 706 = .ok (.iload 5, 2) := by decide +kernel
theorem d_law_708 : decode b_law 708 = .ok (.if_icmp .eq 5, 3) := by decide +kernel
theorem d_law_713 : decode b_law 713 = .ok (.iload 5, 2) := by decide +kernel
theorem d_law_715 : decode b_law 715 = .ok (.ifCond .ne 15, 3) := by decide +kernel
theorem d_law_718 : decode b_law 718 = .ok (.aload_n 3, 1) := by decide +kernel
theorem d_law_719 : decode b_law 719 = .ok (.iconst 0, 1) := by decide +kernel
theorem d_law_720 : decode b_law 720 = .ok (.laload, 1) := by decide +kernel
