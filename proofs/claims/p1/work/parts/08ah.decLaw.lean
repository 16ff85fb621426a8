theorem d_law_732 : decode code 732 = .ok (.iload 4, 2) := by decide +kernel
theorem d_law_734 : decode code 734 = .ok (.iconst 1, 1) := by decide +kernel
theorem d_law_735 : decode code 735 = .ok (.iadd, 1) := by decide +kernel
theorem d_law_736 : decode code 736 = .ok (.iaload, 1) := by decide +kernel
theorem d_law_737 : decode code 737 = .ok (.aload_n 0, 1) := by decide +kernel
theorem d_law_738 : decode code 738 = .ok (.iload 4, 2) := by decide +kernel
theorem d_law_740 : decode code 740 = .ok (.iconst 2, 1) := by decide +kernel
theorem d_law_741 : decode code 741 = .ok (.iadd, 1) := by decide +kernel
theorem d_law_742 : decode code 742 = .ok (.iaload, 1) := by decide +kernel
theorem d_law_743 : decode code 743 = .ok (.invokevirtual 117, 3) := by decide +kernel
theorem d_law_746 : decode code 746 = .ok (.istore 6, 2) := by decide +kernel
theorem d_law_748 : decode code 748 = .ok (.aload_n 2, 1) := by decide +kernel
theorem d_law_749 : decode code 749 = .ok (.invokevirtual 86, 3) := by decide +kernel
theorem d_law_752 : decode code 752 = .ok (.iload 5, 2) := by decide +kernel
theorem d_law_754 : decode code 754 = .ok (.if_icmp .eq 5, 3) := by decide +kernel
theorem d_law_757 : decode code 757 = .ok (.iconst 0, 1) := by decide +kernel
theorem d_law_758 : decode code 758 = .ok (.ireturn, 1) := by decide +kernel
theorem d_law_759 : decode code 759 = .ok (.iload 5, 2) := by decide +kernel
theorem d_law_761 : decode code 761 = .ok (.ifCond .ne 15, 3) := by decide +kernel
theorem d_law_764 : decode code 764 = .ok (.aload_n 3, 1) := by decide +kernel
theorem d_law_765 : decode code 765 = .ok (.iconst 0, 1) := by decide +kernel
theorem d_law_766 : decode code 766 = .ok (.laload, 1) := by decide +kernel
theorem d_law_767 : decode code 767 = .ok (.iload 6, 2) := by decide +kernel
theorem d_law_769 : decode code 769 = .ok (.i2l, 1) := by decide +kernel
theorem d_law_770 : decode code 770 = .ok (.lcmp, 1) := by decide +kernel
theorem d_law_771 : decode code 771 = .ok (.ifCond .eq 5, 3) := by decide +kernel
theorem d_law_774 : decode code 774 = .ok (.iconst 0, 1) := by decide +kernel
theorem d_law_775 : decode code 775 = .ok (.ireturn, 1) := by decide +kernel
theorem d_law_776 : decode code 776 = .ok (.goto 575, 3) := by decide +kernel
theorem d_law_779 : decode code 779 = .ok (.aload_n 1, 1) := by decide +kernel
theorem d_law_780 : decode code 780 = .ok (.aload_n 0, 1) := by decide +kernel
theorem d_law_781 : decode code 781 = .ok (.iload 4, 2) := by decide +kernel
theorem d_law_783 : decode code 783 = .ok (.iconst 1, 1) := by decide +kernel
theorem d_law_784 : decode code 784 = .ok (.iadd, 1) := by decide +kernel
theorem d_law_785 : decode code 785 = .ok (.iaload, 1) := by decide +kernel
theorem d_law_786 : decode code 786 = .ok (.aload_n 3, 1) := by decide +kernel
theorem d_law_787 : decode code 787 = .ok (.invokestatic 118, 3) := by decide +kernel
theorem d_law_790 : decode code 790 = .ok (.istore 5, 2) := by decide +kernel
theorem d_law_792 : decode code 792 = .ok (.aload_n 2, 1) := by decide +kernel
theorem d_law_793 : decode code 793 = .ok (.aload_n 0, 1) := by decide +kernel
theorem d_law_794 : decode code 794 = .ok (.iload 4, 2) := by decide +kernel
theorem d_law_796 : decode code 796 = .ok (.iconst 1, 1) := by decide +kernel
theorem d_law_797 : decode code 797 = .ok (.iadd, 1) := by decide +kernel
theorem d_law_798 : decode code 798 = .ok (.iaload, 1) := by decide +kernel
theorem d_law_799 : decode code 799 = .ok (.invokevirtual 120, 3) := by decide +kernel
theorem d_law_802 : decode code 802 = .ok (.istore 6, 2) := by decide +kernel
theorem d_law_804 : decode code 804 = .ok (.aload_n 2, 1) := by decide +kernel
theorem d_law_805 : decode code 805 = .ok (.invokevirtual 86, 3) := by decide +kernel
theorem d_law_808 : decode code 808 = .ok (.iload 5, 2) := by decide +kernel
theorem d_law_810 : decode code 810 = .ok (.if_icmp .eq 5, 3) := by decide +kernel
theorem d_law_813 : decode code 813 = .ok (.iconst 0, 1) := by decide +kernel
theorem d_law_814 : decode code 814 = .ok (.ireturn, 1) := by decide +kernel
theorem d_law_815 : decode code 815 = .ok (.iload 5, 2) := by decide +kernel
theorem d_law_817 : decode code 817 = .ok (.ifCond .ne 15, 3) := by decide +kernel
theorem d_law_820 : decode code 820 = .ok (.aload_n 3, 1) := by decide +kernel
theorem d_law_821 : decode code 821 = .ok (.iconst 0, 1) := by decide +kernel
theorem d_law_822 : decode code 822 = .ok (.laload, 1) := by decide +kernel
theorem d_law_823 : decode code 823 = .ok (.iload 6, 2) := by decide +kernel
theorem d_law_825 : decode code 825 = .ok (.i2l, 1) := by decide +kernel
theorem d_law_826 : decode code 826 = .ok (.lcmp, 1) := by decide +kernel
