theorem d_law_641 : decode code 641 = .ok (.iconst 0, 1) := by decide +kernel
theorem d_law_642 : decode code 642 = .ok (.laload, 1) := by decide +kernel
theorem d_law_643 : decode code 643 = .ok (.iload 6, 2) := by decide +kernel
theorem d_law_645 : decode code 645 = .ok (.i2l, 1) := by decide +kernel
theorem d_law_646 : decode code 646 = .ok (.lcmp, 1) := by decide +kernel
theorem d_law_647 : decode code 647 = .ok (.ifCond .eq 5, 3) := by decide +kernel
theorem d_law_650 : decode code 650 = .ok (.iconst 0, 1) := by decide +kernel
theorem d_law_651 : decode code 651 = .ok (.ireturn, 1) := by decide +kernel
theorem d_law_652 : decode code 652 = .ok (.goto 699, 3) := by decide +kernel
theorem d_law_655 : decode code 655 = .ok (.aload_n 1, 1) := by decide +kernel
theorem d_law_656 : decode code 656 = .ok (.aload_n 0, 1) := by decide +kernel
theorem d_law_657 : decode code 657 = .ok (.iload 4, 2) := by decide +kernel
theorem d_law_659 : decode code 659 = .ok (.iconst 1, 1) := by decide +kernel
theorem d_law_660 : decode code 660 = .ok (.iadd, 1) := by decide +kernel
theorem d_law_661 : decode code 661 = .ok (.iaload, 1) := by decide +kernel
theorem d_law_662 : decode code 662 = .ok (.aload_n 3, 1) := by decide +kernel
theorem d_law_663 : decode code 663 = .ok (.invokestatic 112, 3) := by decide +kernel
theorem d_law_666 : decode code 666 = .ok (.istore 5, 2) := by decide +kernel
theorem d_law_668 : decode code 668 = .ok (.aload_n 2, 1) := by decide +kernel
theorem d_law_669 : decode code 669 = .ok (.aload_n 0, 1) := by decide +kernel
theorem d_law_670 : decode code 670 = .ok (.iload 4, 2) := by decide +kernel
theorem d_law_672 : decode code 672 = .ok (.iconst 1, 1) := by decide +kernel
theorem d_law_673 : decode code 673 = .ok (.iadd, 1) := by decide +kernel
theorem d_law_674 : decode code 674 = .ok (.iaload, 1) := by decide +kernel
theorem d_law_675 : decode code 675 = .ok (.invokevirtual 114, 3) := by decide +kernel
theorem d_law_678 : decode code 678 = .ok (.istore 6, 2) := by decide +kernel
theorem d_law_680 : decode code 680 = .ok (.aload_n 2, 1) := by decide +kernel
theorem d_law_681 : decode code 681 = .ok (.invokevirtual 86, 3) := by decide +kernel
theorem d_law_684 : decode code 684 = .ok (.iload 5, 2) := by decide +kernel
theorem d_law_686 : decode code 686 = .ok (.if_icmp .eq 5, 3) := by decide +kernel
theorem d_law_689 : decode code 689 = .ok (.iconst 0, 1) := by decide +kernel
theorem d_law_690 : decode code 690 = .ok (.ireturn, 1) := by decide +kernel
theorem d_law_691 : decode code 691 = .ok (.iload 5, 2) := by decide +kernel
theorem d_law_693 : decode code 693 = .ok (.ifCond .ne 15, 3) := by decide +kernel
theorem d_law_696 : decode code 696 = .ok (.aload_n 3, 1) := by decide +kernel
theorem d_law_697 : decode code 697 = .ok (.iconst 0, 1) := by decide +kernel
theorem d_law_698 : decode code 698 = .ok (.laload, 1) := by decide +kernel
theorem d_law_699 : decode code 699 = .ok (.iload 6, 2) := by decide +kernel
theorem d_law_701 : decode code 701 = .ok (.i2l, 1) := by decide +kernel
theorem d_law_702 : decode code 702 = .ok (.lcmp, 1) := by decide +kernel
theorem d_law_703 : decode code 703 = .ok (.ifCond .eq 5, 3) := by decide +kernel
theorem d_law_706 : decode code 706 = .ok (.iconst 0, 1) := by decide +kernel
theorem d_law_707 : decode code 707 = .ok (.ireturn, 1) := by decide +kernel
theorem d_law_708 : decode code 708 = .ok (.goto 643, 3) := by decide +kernel
theorem d_law_711 : decode code 711 = .ok (.aload_n 1, 1) := by decide +kernel
theorem d_law_712 : decode code 712 = .ok (.aload_n 0, 1) := by decide +kernel
theorem d_law_713 : decode code 713 = .ok (.iload 4, 2) := by decide +kernel
theorem d_law_715 : decode code 715 = .ok (.iconst 1, 1) := by decide +kernel
theorem d_law_716 : decode code 716 = .ok (.iadd, 1) := by decide +kernel
theorem d_law_717 : decode code 717 = .ok (.iaload, 1) := by decide +kernel
theorem d_law_718 : decode code 718 = .ok (.aload_n 0, 1) := by decide +kernel
theorem d_law_719 : decode code 719 = .ok (.iload 4, 2) := by decide +kernel
theorem d_law_721 : decode code 721 = .ok (.iconst 2, 1) := by decide +kernel
theorem d_law_722 : decode code 722 = .ok (.iadd, 1) := by decide +kernel
theorem d_law_723 : decode code 723 = .ok (.iaload, 1) := by decide +kernel
theorem d_law_724 : decode code 724 = .ok (.aload_n 3, 1) := by decide +kernel
theorem d_law_725 : decode code 725 = .ok (.invokestatic 115, 3) := by decide +kernel
theorem d_law_728 : decode code 728 = .ok (.istore 5, 2) := by decide +kernel
theorem d_law_730 : decode code 730 = .ok (.aload_n 2, 1) := by decide +kernel
theorem d_law_731 : decode code 731 = .ok (.aload_n 0, 1) := by decide +kernel
