theorem d_law_802 : decode code 802 = .ok (.iaload, 1) := by decide +kernel
theorem d_law_803 : decode code 803 = .ok (.aload_n 0, 1) := by decide +kernel
theorem d_law_804 : decode code 804 = .ok (.iload 4, 2) := by decide +kernel
theorem d_law_806 : decode code 806 = .ok (.iconst 2, 1) := by decide +kernel
theorem d_law_807 : decode code 807 = .ok (.iadd, 1) := by decide +kernel
theorem d_law_808 : decode code 808 = .ok (.iaload, 1) := by decide +kernel
theorem d_law_809 : decode code 809 = .ok (.aload_n 3, 1) := by decide +kernel
theorem d_law_810 : decode code 810 = .ok (.invokestatic 136, 3) := by decide +kernel
theorem d_law_813 : decode code 813 = .ok (.istore 5, 2) := by decide +kernel
theorem d_law_815 : decode code 815 = .ok (.aload_n 2, 1) := by decide +kernel
theorem d_law_816 : decode code 816 = .ok (.aload_n 0, 1) := by decide +kernel
theorem d_law_817 : decode code 817 = .ok (.iload 4, 2) := by decide +kernel
theorem d_law_819 : decode code 819 = .ok (.iconst 1, 1) := by decide +kernel
theorem d_law_820 : decode code 820 = .ok (.iadd, 1) := by decide +kernel
theorem d_law_821 : decode code 821 = .ok (.iaload, 1) := by decide +kernel
theorem d_law_822 : decode code 822 = .ok (.aload_n 0, 1) := by decide +kernel
theorem d_law_823 : decode code 823 = .ok (.iload 4, 2) := by decide +kernel
theorem d_law_825 : decode code 825 = .ok (.iconst 2, 1) := by decide +kernel
theorem d_law_826 : decode code 826 = .ok (.iadd, 1) := by decide +kernel
theorem d_law_827 : decode code 827 = .ok (.iaload, 1) := by decide +kernel
theorem d_law_828 : decode code 828 = .ok (.invokevirtual 138, 3) := by decide +kernel
theorem d_law_831 : decode code 831 = .ok (.istore 6, 2) := by decide +kernel
theorem d_law_833 : decode code 833 = .ok (.aload_n 2, 1) := by decide +kernel
theorem d_law_834 : decode code 834 = .ok (.invokevirtual 139, 3) := by decide +kernel
theorem d_law_837 : decode code 837 = .ok (.iload 5, 2) := by decide +kernel
theorem d_law_839 : decode code 839 = .ok (.if_icmp .eq 5, 3) := by decide +kernel
theorem d_law_842 : decode code 842 = .ok (.iconst 0, 1) := by decide +kernel
theorem d_law_843 : decode code 843 = .ok (.ireturn, 1) := by decide +kernel
theorem d_law_844 : decode code 844 = .ok (.iload 5, 2) := by decide +kernel
theorem d_law_846 : decode code 846 = .ok (.ifCond .ne 15, 3) := by decide +kernel
theorem d_law_849 : decode code 849 = .ok (.aload_n 3, 1) := by decide +kernel
theorem d_law_850 : decode code 850 = .ok (.iconst 0, 1) := by decide +kernel
theorem d_law_851 : decode code 851 = .ok (.laload, 1) := by decide +kernel
theorem d_law_852 : decode code 852 = .ok (.iload 6, 2) := by decide +kernel
theorem d_law_854 : decode code 854 = .ok (.i2l, 1) := by decide +kernel
theorem d_law_855 : decode code 855 = .ok (.lcmp, 1) := by decide +kernel
theorem d_law_856 : decode code 856 = .ok (.ifCond .eq 5, 3) := by decide +kernel
theorem d_law_859 : decode code 859 = .ok (.iconst 0, 1) := by decide +kernel
theorem d_law_860 : decode code 860 = .ok (.ireturn, 1) := by decide +kernel
theorem d_law_861 : decode code 861 = .ok (.goto 28, 3) := by decide +kernel
theorem d_law_864 : decode code 864 = .ok (.aload_n 1, 1) := by decide +kernel
theorem d_law_865 : decode code 865 = .ok (.aload_n 0, 1) := by decide +kernel
theorem d_law_866 : decode code 866 = .ok (.iload 4, 2) := by decide +kernel
theorem d_law_868 : decode code 868 = .ok (.iconst 1, 1) := by decide +kernel
theorem d_law_869 : decode code 869 = .ok (.iadd, 1) := by decide +kernel
theorem d_law_870 : decode code 870 = .ok (.iaload, 1) := by decide +kernel
theorem d_law_871 : decode code 871 = .ok (.invokevirtual 142, 3) := by decide +kernel
theorem d_law_874 : decode code 874 = .ok (.pop, 1) := by decide +kernel
theorem d_law_875 : decode code 875 = .ok (.aload_n 2, 1) := by decide +kernel
theorem d_law_876 : decode code 876 = .ok (.aload_n 0, 1) := by decide +kernel
theorem d_law_877 : decode code 877 = .ok (.iload 4, 2) := by decide +kernel
theorem d_law_879 : decode code 879 = .ok (.iconst 1, 1) := by decide +kernel
theorem d_law_880 : decode code 880 = .ok (.iadd, 1) := by decide +kernel
theorem d_law_881 : decode code 881 = .ok (.iaload, 1) := by decide +kernel
theorem d_law_882 : decode code 882 = .ok (.invokevirtual 145, 3) := by decide +kernel
theorem d_law_885 : decode code 885 = .ok (.pop, 1) := by decide +kernel
theorem d_law_886 : decode code 886 = .ok (.goto 3, 3) := by decide +kernel
theorem d_law_889 : decode code 889 = .ok (.iinc 4 6, 3) := by decide +kernel
theorem d_law_892 : decode code 892 = .ok (.goto (-869), 3) := by decide +kernel
theorem d_law_895 : decode code 895 = .ok (.iconst 1, 1) := by decide +kernel
