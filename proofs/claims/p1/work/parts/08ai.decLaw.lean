theorem d_law_827 : decode code 827 = .ok (.ifCond .eq 5, 3) := by decide +kernel
theorem d_law_830 : decode code 830 = .ok (.iconst 0, 1) := by decide +kernel
theorem d_law_831 : decode code 831 = .ok (.ireturn, 1) := by decide +kernel
theorem d_law_832 : decode code 832 = .ok (.goto 519, 3) := by decide +kernel
theorem d_law_835 : decode code 835 = .ok (.aload_n 1, 1) := by decide +kernel
theorem d_law_836 : decode code 836 = .ok (.aload_n 0, 1) := by decide +kernel
theorem d_law_837 : decode code 837 = .ok (.iload 4, 2) := by decide +kernel
theorem d_law_839 : decode code 839 = .ok (.iconst 1, 1) := by decide +kernel
theorem d_law_840 : decode code 840 = .ok (.iadd, 1) := by decide +kernel
theorem d_law_841 : decode code 841 = .ok (.iaload, 1) := by decide +kernel
theorem d_law_842 : decode code 842 = .ok (.aload_n 0, 1) := by decide +kernel
theorem d_law_843 : decode code 843 = .ok (.iload 4, 2) := by decide +kernel
theorem d_law_845 : decode code 845 = .ok (.iconst 2, 1) := by decide +kernel
theorem d_law_846 : decode code 846 = .ok (.iadd, 1) := by decide +kernel
theorem d_law_847 : decode code 847 = .ok (.iaload, 1) := by decide +kernel
theorem d_law_848 : decode code 848 = .ok (.ifCond .eq 7, 3) := by decide +kernel
theorem d_law_851 : decode code 851 = .ok (.iconst 1, 1) := by decide +kernel
theorem d_law_852 : decode code 852 = .ok (.goto 4, 3) := by decide +kernel
theorem d_law_855 : decode code 855 = .ok (.iconst 0, 1) := by decide +kernel
theorem d_law_856 : decode code 856 = .ok (.aload_n 3, 1) := by decide +kernel
theorem d_law_857 : decode code 857 = .ok (.invokestatic 121, 3) := by decide +kernel
theorem d_law_860 : decode code 860 = .ok (.istore 5, 2) := by decide +kernel
theorem d_law_862 : decode code 862 = .ok (.aload_n 2, 1) := by decide +kernel
theorem d_law_863 : decode code 863 = .ok (.aload_n 0, 1) := by decide +kernel
theorem d_law_864 : decode code 864 = .ok (.iload 4, 2) := by decide +kernel
theorem d_law_866 : decode code 866 = .ok (.iconst 1, 1) := by decide +kernel
theorem d_law_867 : decode code 867 = .ok (.iadd, 1) := by decide +kernel
theorem d_law_868 : decode code 868 = .ok (.iaload, 1) := by decide +kernel
theorem d_law_869 : decode code 869 = .ok (.aload_n 0, 1) := by decide +kernel
theorem d_law_870 : decode code 870 = .ok (.iload 4, 2) := by decide +kernel
theorem d_law_872 : decode code 872 = .ok (.iconst 2, 1) := by decide +kernel
theorem d_law_873 : decode code 873 = .ok (.iadd, 1) := by decide +kernel
theorem d_law_874 : decode code 874 = .ok (.iaload, 1) := by decide +kernel
theorem d_law_875 : decode code 875 = .ok (.ifCond .eq 7, 3) := by decide +kernel
theorem d_law_878 : decode code 878 = .ok (.iconst 1, 1) := by decide +kernel
theorem d_law_879 : decode code 879 = .ok (.goto 4, 3) := by decide +kernel
theorem d_law_882 : decode code 882 = .ok (.iconst 0, 1) := by decide +kernel
theorem d_law_883 : decode code 883 = .ok (.invokevirtual 123, 3) := by decide +kernel
theorem d_law_886 : decode code 886 = .ok (.istore 6, 2) := by decide +kernel
theorem d_law_888 : decode code 888 = .ok (.aload_n 2, 1) := by decide +kernel
theorem d_law_889 : decode code 889 = .ok (.invokevirtual 86, 3) := by decide +kernel
theorem d_law_892 : decode code 892 = .ok (.iload 5, 2) := by decide +kernel
theorem d_law_894 : decode code 894 = .ok (.if_icmp .eq 5, 3) := by decide +kernel
theorem d_law_897 : decode code 897 = .ok (.iconst 0, 1) := by decide +kernel
theorem d_law_898 : decode code 898 = .ok (.ireturn, 1) := by decide +kernel
theorem d_law_899 : decode code 899 = .ok (.iload 5, 2) := by decide +kernel
theorem d_law_901 : decode code 901 = .ok (.ifCond .ne 15, 3) := by decide +kernel
theorem d_law_904 : decode code 904 = .ok (.aload_n 3, 1) := by decide +kernel
theorem d_law_905 : decode code 905 = .ok (.iconst 0, 1) := by decide +kernel
theorem d_law_906 : decode code 906 = .ok (.laload, 1) := by decide +kernel
theorem d_law_907 : decode code 907 = .ok (.iload 6, 2) := by decide +kernel
theorem d_law_909 : decode code 909 = .ok (.i2l, 1) := by decide +kernel
theorem d_law_910 : decode code 910 = .ok (.lcmp, 1) := by decide +kernel
theorem d_law_911 : decode code 911 = .ok (.ifCond .eq 5, 3) := by decide +kernel
theorem d_law_914 : decode code 914 = .ok (.iconst 0, 1) := by decide +kernel
theorem d_law_915 : decode code 915 = .ok (.ireturn, 1) := by decide +kernel
theorem d_law_916 : decode code 916 = .ok (.goto 435, 3) := by decide +kernel
theorem d_law_919 : decode code 919 = .ok (.aload_n 1, 1) := by decide +kernel
theorem d_law_920 : decode code 920 = .ok (.aload_n 0, 1) := by decide +kernel
theorem d_law_921 : decode code 921 = .ok (.iload 4, 2) := by decide +kernel
