theorem d_law_623 : decode code 623 = .ok (.ifCond .eq 7, 3) := by decide +kernel
theorem d_law_626 : decode code 626 = .ok (.iconst 1, 1) := by decide +kernel
theorem d_law_627 : decode code 627 = .ok (.goto 4, 3) := by decide +kernel
theorem d_law_630 : decode code 630 = .ok (.iconst 0, 1) := by decide +kernel
theorem d_law_631 : decode code 631 = .ok (.invokevirtual 123, 3) := by decide +kernel
theorem d_law_634 : decode code 634 = .ok (.istore 6, 2) := by decide +kernel
theorem d_law_636 : decode code 636 = .ok (.goto 260, 3) := by decide +kernel
theorem d_law_639 : decode code 639 = .ok (.aload_n 1, 1) := by decide +kernel
theorem d_law_640 : decode code 640 = .ok (.aload_n 0, 1) := by decide +kernel
theorem d_law_641 : decode code 641 = .ok (.iload 4, 2) := by decide +kernel
theorem d_law_643 : decode code 643 = .ok (.iconst 1, 1) := by decide +kernel
theorem d_law_644 : decode code 644 = .ok (.iadd, 1) := by decide +kernel
theorem d_law_645 : decode code 645 = .ok (.iaload, 1) := by decide +kernel
theorem d_law_646 : decode code 646 = .ok (.aload_n 0, 1) := by decide +kernel
theorem d_law_647 : decode code 647 = .ok (.iload 4, 2) := by decide +kernel
theorem d_law_649 : decode code 649 = .ok (.iconst 2, 1) := by decide +kernel
theorem d_law_650 : decode code 650 = .ok (.iadd, 1) := by decide +kernel
theorem d_law_651 : decode code 651 = .ok (.iaload, 1) := by decide +kernel
theorem d_law_652 : decode code 652 = .ok (.ifCond .eq 7, 3) := by decide +kernel
theorem d_law_655 : decode code 655 = .ok (.iconst 1, 1) := by decide +kernel
theorem d_law_656 : decode code 656 = .ok (.goto 4, 3) := by decide +kernel
theorem d_law_659 : decode code 659 = .ok (.iconst 0, 1) := by decide +kernel
theorem d_law_660 : decode code 660 = .ok (.aload_n 3, 1) := by decide +kernel
theorem d_law_661 : decode code 661 = .ok (.invokestatic 124, 3) := by decide +kernel
theorem d_law_664 : decode code 664 = .ok (.istore 5, 2) := by decide +kernel
theorem d_law_666 : decode code 666 = .ok (.aload_n 2, 1) := by decide +kernel
theorem d_law_667 : decode code 667 = .ok (.aload_n 0, 1) := by decide +kernel
theorem d_law_668 : decode code 668 = .ok (.iload 4, 2) := by decide +kernel
theorem d_law_670 : decode code 670 = .ok (.iconst 1, 1) := by decide +kernel
theorem d_law_671 : decode code 671 = .ok (.iadd, 1) := by decide +kernel
theorem d_law_672 : decode code 672 = .ok (.iaload, 1) := by decide +kernel
theorem d_law_673 : decode code 673 = .ok (.aload_n 0, 1) := by decide +kernel
theorem d_law_674 : decode code 674 = .ok (.iload 4, 2) := by decide +kernel
theorem d_law_676 : decode code 676 = .ok (.iconst 2, 1) := by decide +kernel
theorem d_law_677 : decode code 677 = .ok (.iadd, 1) := by decide +kernel
theorem d_law_678 : decode code 678 = .ok (.iaload, 1) := by decide +kernel
theorem d_law_679 : decode code 679 = .ok (.ifCond .eq 7, 3) := by decide +kernel
theorem d_law_682 : decode code 682 = .ok (.iconst 1, 1) := by decide +kernel
theorem d_law_683 : decode code 683 = .ok (.goto 4, 3) := by decide +kernel
theorem d_law_686 : decode code 686 = .ok (.iconst 0, 1) := by decide +kernel
theorem d_law_687 : decode code 687 = .ok (.invokevirtual 126, 3) := by decide +kernel
theorem d_law_690 : decode code 690 = .ok (.istore 6, 2) := by decide +kernel
theorem d_law_692 : decode code 692 = .ok (.goto 204, 3) := by decide +kernel
theorem d_law_695 : decode code 695 = .ok (.aload_n 1, 1) := by decide +kernel
theorem d_law_696 : decode code 696 = .ok (.aload_n 0, 1) := by decide +kernel
theorem d_law_697 : decode code 697 = .ok (.iload 4, 2) := by decide +kernel
theorem d_law_699 : decode code 699 = .ok (.iconst 1, 1) := by decide +kernel
theorem d_law_700 : decode code 700 = .ok (.iadd, 1) := by decide +kernel
theorem d_law_701 : decode code 701 = .ok (.iaload, 1) := by decide +kernel
theorem d_law_702 : decode code 702 = .ok (.aload_n 3, 1) := by decide +kernel
theorem d_law_703 : decode code 703 = .ok (.invokestatic 127, 3) := by decide +kernel
theorem d_law_706 : decode code 706 = .ok (.istore 5, 2) := by decide +kernel
theorem d_law_708 : decode code 708 = .ok (.aload_n 2, 1) := by decide +kernel
theorem d_law_709 : decode code 709 = .ok (.aload_n 0, 1) := by decide +kernel
theorem d_law_710 : decode code 710 = .ok (.iload 4, 2) := by decide +kernel
theorem d_law_712 : decode code 712 = .ok (.iconst 1, 1) := by decide +kernel
theorem d_law_713 : decode code 713 = .ok (.iadd, 1) := by decide +kernel
theorem d_law_714 : decode code 714 = .ok (.iaload, 1) := by decide +kernel
theorem d_law_715 : decode code 715 = .ok (.invokevirtual 129, 3) := by decide +kernel
theorem d_law_718 : decode code 718 = .ok (.istore 6, 2) := by decide +kernel
