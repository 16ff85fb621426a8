theorem d_law_621 : decode code 621 = .ok (.goto 4, 3) := by decide +kernel
theorem d_law_624 : decode code 624 = .ok (.iconst 0, 1) := by decide +kernel
theorem d_law_625 : decode code 625 = .ok (.aload_n 3, 1) := by decide +kernel
theorem d_law_626 : decode code 626 = .ok (.invokestatic 121, 3) := by decide +kernel
theorem d_law_629 : decode code 629 = .ok (.istore 5, 2) := by decide +kernel
theorem d_law_631 : decode code 631 = .ok (.aload_n 2, 1) := by decide +kernel
theorem d_law_632 : decode code 632 = .ok (.aload_n 0, 1) := by decide +kernel
theorem d_law_633 : decode code 633 = .ok (.iload 4, 2) := by decide +kernel
theorem d_law_635 : decode code 635 = .ok (.iconst 1, 1) := by decide +kernel
theorem d_law_636 : decode code 636 = .ok (.iadd, 1) := by decide +kernel
theorem d_law_637 : decode code 637 = .ok (.iaload, 1) := by decide +kernel
theorem d_law_638 : decode code 638 = .ok (.aload_n 0, 1) := by decide +kernel
theorem d_law_639 : decode code 639 = .ok (.iload 4, 2) := by decide +kernel
theorem d_law_641 : decode code 641 = .ok (.iconst 2, 1) := by decide +kernel
theorem d_law_642 : decode code 642 = .ok (.iadd, 1) := by decide +kernel
theorem d_law_643 : decode code 643 = .ok (.iaload, 1) := by decide +kernel
theorem d_law_644 : decode code 644 = .ok (.ifCond .eq 7, 3) := by decide +kernel
theorem d_law_647 : decode code 647 = .ok (.iconst 1, 1) := by decide +kernel
theorem d_law_648 : decode code 648 = .ok (.goto 4, 3) := by decide +kernel
theorem d_law_651 : decode code 651 = .ok (.iconst 0, 1) := by decide +kernel
theorem d_law_652 : decode code 652 = .ok (.invokevirtual 123, 3) := by decide +kernel
theorem d_law_655 : decode code 655 = .ok (.istore 6, 2) := by decide +kernel
theorem d_law_657 : decode code 657 = .ok (.goto 232, 3) := by decide +kernel
theorem d_law_660 : decode code 660 = .ok (.aload_n 1, 1) := by decide +kernel
theorem d_law_661 : decode code 661 = .ok (.aload_n 0, 1) := by decide +kernel
theorem d_law_662 : decode code 662 = .ok (.iload 4, 2) := by decide +kernel
theorem d_law_664 : decode code 664 = .ok (.iconst 1, 1) := by decide +kernel
theorem d_law_665 : decode code 665 = .ok (.iadd, 1) := by decide +kernel
theorem d_law_666 : decode code 666 = .ok (.iaload, 1) := by decide +kernel
theorem d_law_667 : decode code 667 = .ok (.aload_n 3, 1) := by decide +kernel
theorem d_law_668 : decode code 668 = .ok (.invokestatic 124, 3) := by decide +kernel
theorem d_law_671 : decode code 671 = .ok (.istore 5, 2) := by decide +kernel
theorem d_law_673 : decode code 673 = .ok (.aload_n 2, 1) := by decide +kernel
theorem d_law_674 : decode code 674 = .ok (.aload_n 0, 1) := by decide +kernel
theorem d_law_675 : decode code 675 = .ok (.iload 4, 2) := by decide +kernel
theorem d_law_677 : decode code 677 = .ok (.iconst 1, 1) := by decide +kernel
theorem d_law_678 : decode code 678 = .ok (.iadd, 1) := by decide +kernel
theorem d_law_679 : decode code 679 = .ok (.iaload, 1) := by decide +kernel
theorem d_law_680 : decode code 680 = .ok (.invokevirtual 126, 3) := by decide +kernel
theorem d_law_683 : decode code 683 = .ok (.istore 6, 2) := by decide +kernel
theorem d_law_685 : decode code 685 = .ok (.goto 204, 3) := by decide +kernel
theorem d_law_688 : decode code 688 = .ok (.aload_n 1, 1) := by decide +kernel
theorem d_law_689 : decode code 689 = .ok (.aload_n 0, 1) := by decide +kernel
theorem d_law_690 : decode code 690 = .ok (.iload 4, 2) := by decide +kernel
theorem d_law_692 : decode code 692 = .ok (.iconst 1, 1) := by decide +kernel
theorem d_law_693 : decode code 693 = .ok (.iadd, 1) := by decide +kernel
theorem d_law_694 : decode code 694 = .ok (.iaload, 1) := by decide +kernel
theorem d_law_695 : decode code 695 = .ok (.aload_n 3, 1) := by decide +kernel
theorem d_law_696 : decode code 696 = .ok (.invokestatic 127, 3) := by decide +kernel
theorem d_law_699 : decode code 699 = .ok (.istore 5, 2) := by decide +kernel
theorem d_law_701 : decode code 701 = .ok (.aload_n 2, 1) := by decide +kernel
theorem d_law_702 : decode code 702 = .ok (.aload_n 0, 1) := by decide +kernel
theorem d_law_703 : decode code 703 = .ok (.iload 4, 2) := by decide +kernel
theorem d_law_705 : decode code 705 = .ok (.iconst 1, 1) := by decide +kernel
theorem d_law_706 : decode code 706 = .ok (.iadd, 1) := by decide +kernel
theorem d_law_707 : decode code 707 = .ok (.iaload, 1) := by decide +kernel
theorem d_law_708 : decode code 708 = .ok (.invokevirtual 129, 3) := by decide +kernel
theorem d_law_711 : decode code 711 = .ok (.istore 6, 2) := by decide +kernel
theorem d_law_713 : decode code 713 = .ok (.aload_n 2, 1) := by decide +kernel
theorem d_law_714 : decode code 714 = .ok (.invokevirtual 130, 3) := by decide +kernel
