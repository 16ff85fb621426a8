theorem d_law_808 : decode code 808 = .ok (.istore 5, 2) := by decide +kernel
theorem d_law_810 : decode code 810 = .ok (.aload_n 2, 1) := by decide +kernel
theorem d_law_811 : decode code 811 = .ok (.aload_n 0, 1) := by decide +kernel
theorem d_law_812 : decode code 812 = .ok (.iload 4, 2) := by decide +kernel
theorem d_law_814 : decode code 814 = .ok (.iconst 1, 1) := by decide +kernel
theorem d_law_815 : decode code 815 = .ok (.iadd, 1) := by decide +kernel
theorem d_law_816 : decode code 816 = .ok (.iaload, 1) := by decide +kernel
theorem d_law_817 : decode code 817 = .ok (.aload_n 0, 1) := by decide +kernel
theorem d_law_818 : decode code 818 = .ok (.iload 4, 2) := by decide +kernel
theorem d_law_820 : decode code 820 = .ok (.iconst 2, 1) := by decide +kernel
theorem d_law_821 : decode code 821 = .ok (.iadd, 1) := by decide +kernel
theorem d_law_822 : decode code 822 = .ok (.iaload, 1) := by decide +kernel
theorem d_law_823 : decode code 823 = .ok (.invokevirtual 138, 3) := by decide +kernel
theorem d_law_826 : decode code 826 = .ok (.istore 6, 2) := by decide +kernel
theorem d_law_828 : decode code 828 = .ok (.goto 68, 3) := by decide +kernel
theorem d_law_831 : decode code 831 = .ok (.aload_n 1, 1) := by decide +kernel
theorem d_law_832 : decode code 832 = .ok (.aload_n 0, 1) := by decide +kernel
theorem d_law_833 : decode code 833 = .ok (.iload 4, 2) := by decide +kernel
theorem d_law_835 : decode code 835 = .ok (.iconst 1, 1) := by decide +kernel
theorem d_law_836 : decode code 836 = .ok (.iadd, 1) := by decide +kernel
theorem d_law_837 : decode code 837 = .ok (.iaload, 1) := by decide +kernel
theorem d_law_838 : decode code 838 = .ok (.aload_n 0, 1) := by decide +kernel
theorem d_law_839 : decode code 839 = .ok (.iload 4, 2) := by decide +kernel
theorem d_law_841 : decode code 841 = .ok (.iconst 2, 1) := by decide +kernel
theorem d_law_842 : decode code 842 = .ok (.iadd, 1) := by decide +kernel
theorem d_law_843 : decode code 843 = .ok (.iaload, 1) := by decide +kernel
theorem d_law_844 : decode code 844 = .ok (.aload_n 3, 1) := by decide +kernel
theorem d_law_845 : decode code 845 = .ok (.invokestatic 139, 3) := by decide +kernel
theorem d_law_848 : decode code 848 = .ok (.istore 5, 2) := by decide +kernel
theorem d_law_850 : decode code 850 = .ok (.aload_n 2, 1) := by decide +kernel
theorem d_law_851 : decode code 851 = .ok (.aload_n 0, 1) := by decide +kernel
theorem d_law_852 : decode code 852 = .ok (.iload 4, 2) := by decide +kernel
theorem d_law_854 : decode code 854 = .ok (.iconst 1, 1) := by decide +kernel
theorem d_law_855 : decode code 855 = .ok (.iadd, 1) := by decide +kernel
theorem d_law_856 : decode code 856 = .ok (.iaload, 1) := by decide +kernel
theorem d_law_857 : decode code 857 = .ok (.aload_n 0, 1) := by decide +kernel
theorem d_law_858 : decode code 858 = .ok (.iload 4, 2) := by decide +kernel
theorem d_law_860 : decode code 860 = .ok (.iconst 2, 1) := by decide +kernel
theorem d_law_861 : decode code 861 = .ok (.iadd, 1) := by decide +kernel
theorem d_law_862 : decode code 862 = .ok (.iaload, 1) := by decide +kernel
theorem d_law_863 : decode code 863 = .ok (.invokevirtual 141, 3) := by decide +kernel
theorem d_law_866 : decode code 866 = .ok (.istore 6, 2) := by decide +kernel
theorem d_law_868 : decode code 868 = .ok (.goto 28, 3) := by decide +kernel
theorem d_law_871 : decode code 871 = .ok (.aload_n 1, 1) := by decide +kernel
theorem d_law_872 : decode code 872 = .ok (.aload_n 0, 1) := by decide +kernel
theorem d_law_873 : decode code 873 = .ok (.iload 4, 2) := by decide +kernel
theorem d_law_875 : decode code 875 = .ok (.iconst 1, 1) := by decide +kernel
theorem d_law_876 : decode code 876 = .ok (.iadd, 1) := by decide +kernel
theorem d_law_877 : decode code 877 = .ok (.iaload, 1) := by decide +kernel
theorem d_law_878 : decode code 878 = .ok (.invokevirtual 142, 3) := by decide +kernel
theorem d_law_881 : decode code 881 = .ok (.pop, 1) := by decide +kernel
theorem d_law_882 : decode code 882 = .ok (.aload_n 2, 1) := by decide +kernel
theorem d_law_883 : decode code 883 = .ok (.aload_n 0, 1) := by decide +kernel
theorem d_law_884 : decode code 884 = .ok (.iload 4, 2) := by decide +kernel
theorem d_law_886 : decode code 886 = .ok (.iconst 1, 1) := by decide +kernel
theorem d_law_887 : decode code 887 = .ok (.iadd, 1) := by decide +kernel
theorem d_law_888 : decode code 888 = .ok (.iaload, 1) := by decide +kernel
theorem d_law_889 : decode code 889 = .ok (.invokevirtual 145, 3) := by decide +kernel
theorem d_law_892 : decode code 892 = .ok (.pop, 1) := by decide +kernel
theorem d_law_893 : decode code 893 = .ok (.goto 3, 3) := by decide +kernel
