theorem d_law_720 : decode code 720 = .ok (.goto 176, 3) := by decide +kernel
theorem d_law_723 : decode code 723 = .ok (.aload_n 1, 1) := by decide +kernel
theorem d_law_724 : decode code 724 = .ok (.aload_n 0, 1) := by decide +kernel
theorem d_law_725 : decode code 725 = .ok (.iload 4, 2) := by decide +kernel
theorem d_law_727 : decode code 727 = .ok (.iconst 1, 1) := by decide +kernel
theorem d_law_728 : decode code 728 = .ok (.iadd, 1) := by decide +kernel
theorem d_law_729 : decode code 729 = .ok (.iaload, 1) := by decide +kernel
theorem d_law_730 : decode code 730 = .ok (.aload_n 3, 1) := by decide +kernel
theorem d_law_731 : decode code 731 = .ok (.invokestatic 130, 3) := by decide +kernel
theorem d_law_734 : decode code 734 = .ok (.istore 5, 2) := by decide +kernel
theorem d_law_736 : decode code 736 = .ok (.aload_n 2, 1) := by decide +kernel
theorem d_law_737 : decode code 737 = .ok (.aload_n 0, 1) := by decide +kernel
theorem d_law_738 : decode code 738 = .ok (.iload 4, 2) := by decide +kernel
theorem d_law_740 : decode code 740 = .ok (.iconst 1, 1) := by decide +kernel
theorem d_law_741 : decode code 741 = .ok (.iadd, 1) := by decide +kernel
theorem d_law_742 : decode code 742 = .ok (.iaload, 1) := by decide +kernel
theorem d_law_743 : decode code 743 = .ok (.invokevirtual 132, 3) := by decide +kernel
theorem d_law_746 : decode code 746 = .ok (.istore 6, 2) := by decide +kernel
theorem d_law_748 : decode code 748 = .ok (.goto 148, 3) := by decide +kernel
theorem d_law_751 : decode code 751 = .ok (.aload_n 1, 1) := by decide +kernel
theorem d_law_752 : decode code 752 = .ok (.aload_n 0, 1) := by decide +kernel
theorem d_law_753 : decode code 753 = .ok (.iload 4, 2) := by decide +kernel
theorem d_law_755 : decode code 755 = .ok (.iconst 1, 1) := by decide +kernel
theorem d_law_756 : decode code 756 = .ok (.iadd, 1) := by decide +kernel
theorem d_law_757 : decode code 757 = .ok (.iaload, 1) := by decide +kernel
theorem d_law_758 : decode code 758 = .ok (.aload_n 0, 1) := by decide +kernel
theorem d_law_759 : decode code 759 = .ok (.iload 4, 2) := by decide +kernel
theorem d_law_761 : decode code 761 = .ok (.iconst 2, 1) := by decide +kernel
theorem d_law_762 : decode code 762 = .ok (.iadd, 1) := by decide +kernel
theorem d_law_763 : decode code 763 = .ok (.iaload, 1) := by decide +kernel
theorem d_law_764 : decode code 764 = .ok (.aload_n 3, 1) := by decide +kernel
theorem d_law_765 : decode code 765 = .ok (.invokestatic 133, 3) := by decide +kernel
theorem d_law_768 : decode code 768 = .ok (.istore 5, 2) := by decide +kernel
theorem d_law_770 : decode code 770 = .ok (.aload_n 2, 1) := by decide +kernel
theorem d_law_771 : decode code 771 = .ok (.aload_n 0, 1) := by decide +kernel
theorem d_law_772 : decode code 772 = .ok (.iload 4, 2) := by decide +kernel
theorem d_law_774 : decode code 774 = .ok (.iconst 1, 1) := by decide +kernel
theorem d_law_775 : decode code 775 = .ok (.iadd, 1) := by decide +kernel
theorem d_law_776 : decode code 776 = .ok (.iaload, 1) := by decide +kernel
theorem d_law_777 : decode code 777 = .ok (.aload_n 0, 1) := by decide +kernel
theorem d_law_778 : decode code 778 = .ok (.iload 4, 2) := by decide +kernel
theorem d_law_780 : decode code 780 = .ok (.iconst 2, 1) := by decide +kernel
theorem d_law_781 : decode code 781 = .ok (.iadd, 1) := by decide +kernel
theorem d_law_782 : decode code 782 = .ok (.iaload, 1) := by decide +kernel
theorem d_law_783 : decode code 783 = .ok (.invokevirtual 135, 3) := by decide +kernel
theorem d_law_786 : decode code 786 = .ok (.istore 6, 2) := by decide +kernel
theorem d_law_788 : decode code 788 = .ok (.goto 108, 3) := by decide +kernel
theorem d_law_791 : decode code 791 = .ok (.aload_n 1, 1) := by decide +kernel
theorem d_law_792 : decode code 792 = .ok (.aload_n 0, 1) := by decide +kernel
theorem d_law_793 : decode code 793 = .ok (.iload 4, 2) := by decide +kernel
theorem d_law_795 : decode code 795 = .ok (.iconst 1, 1) := by decide +kernel
theorem d_law_796 : decode code 796 = .ok (.iadd, 1) := by decide +kernel
theorem d_law_797 : decode code 797 = .ok (.iaload, 1) := by decide +kernel
theorem d_law_798 : decode code 798 = .ok (.aload_n 0, 1) := by decide +kernel
theorem d_law_799 : decode code 799 = .ok (.iload 4, 2) := by decide +kernel
theorem d_law_801 : decode code 801 = .ok (.iconst 2, 1) := by decide +kernel
theorem d_law_802 : decode code 802 = .ok (.iadd, 1) := by decide +kernel
theorem d_law_803 : decode code 803 = .ok (.iaload, 1) := by decide +kernel
theorem d_law_804 : decode code 804 = .ok (.aload_n 3, 1) := by decide +kernel
theorem d_law_805 : decode code 805 = .ok (.invokestatic 136, 3) := by decide +kernel
