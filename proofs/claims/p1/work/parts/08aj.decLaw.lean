theorem d_law_923 : decode code 923 = .ok (.iconst 1, 1) := by decide +kernel
theorem d_law_924 : decode code 924 = .ok (.iadd, 1) := by decide +kernel
theorem d_law_925 : decode code 925 = .ok (.iaload, 1) := by decide +kernel
theorem d_law_926 : decode code 926 = .ok (.aload_n 0, 1) := by decide +kernel
theorem d_law_927 : decode code 927 = .ok (.iload 4, 2) := by decide +kernel
theorem d_law_929 : decode code 929 = .ok (.iconst 2, 1) := by decide +kernel
theorem d_law_930 : decode code 930 = .ok (.iadd, 1) := by decide +kernel
theorem d_law_931 : decode code 931 = .ok (.iaload, 1) := by decide +kernel
theorem d_law_932 : decode code 932 = .ok (.ifCond .eq 7, 3) := by decide +kernel
theorem d_law_935 : decode code 935 = .ok (.iconst 1, 1) := by decide +kernel
theorem d_law_936 : decode code 936 = .ok (.goto 4, 3) := by decide +kernel
theorem d_law_939 : decode code 939 = .ok (.iconst 0, 1) := by decide +kernel
theorem d_law_940 : decode code 940 = .ok (.aload_n 3, 1) := by decide +kernel
theorem d_law_941 : decode code 941 = .ok (.invokestatic 124, 3) := by decide +kernel
theorem d_law_944 : decode code 944 = .ok (.istore 5, 2) := by decide +kernel
theorem d_law_946 : decode code 946 = .ok (.aload_n 2, 1) := by decide +kernel
theorem d_law_947 : decode code 947 = .ok (.aload_n 0, 1) := by decide +kernel
theorem d_law_948 : decode code 948 = .ok (.iload 4, 2) := by decide +kernel
theorem d_law_950 : decode code 950 = .ok (.iconst 1, 1) := by decide +kernel
theorem d_law_951 : decode code 951 = .ok (.iadd, 1) := by decide +kernel
theorem d_law_952 : decode code 952 = .ok (.iaload, 1) := by decide +kernel
theorem d_law_953 : decode code 953 = .ok (.aload_n 0, 1) := by decide +kernel
theorem d_law_954 : decode code 954 = .ok (.iload 4, 2) := by decide +kernel
theorem d_law_956 : decode code 956 = .ok (.iconst 2, 1) := by decide +kernel
theorem d_law_957 : decode code 957 = .ok (.iadd, 1) := by decide +kernel
theorem d_law_958 : decode code 958 = .ok (.iaload, 1) := by decide +kernel
theorem d_law_959 : decode code 959 = .ok (.ifCond .eq 7, 3) := by decide +kernel
theorem d_law_962 : decode code 962 = .ok (.iconst 1, 1) := by decide +kernel
theorem d_law_963 : decode code 963 = .ok (.goto 4, 3) := by decide +kernel
theorem d_law_966 : decode code 966 = .ok (.iconst 0, 1) := by decide +kernel
theorem d_law_967 : decode code 967 = .ok (.invokevirtual 126, 3) := by decide +kernel
theorem d_law_970 : decode code 970 = .ok (.istore 6, 2) := by decide +kernel
theorem d_law_972 : decode code 972 = .ok (.aload_n 2, 1) := by decide +kernel
theorem d_law_973 : decode code 973 = .ok (.invokevirtual 86, 3) := by decide +kernel
theorem d_law_976 : decode code 976 = .ok (.iload 5, 2) := by decide +kernel
theorem d_law_978 : decode code 978 = .ok (.if_icmp .eq 5, 3) := by decide +kernel
theorem d_law_981 : decode code 981 = .ok (.iconst 0, 1) := by decide +kernel
theorem d_law_982 : decode code 982 = .ok (.ireturn, 1) := by decide +kernel
theorem d_law_983 : decode code 983 = .ok (.iload 5, 2) := by decide +kernel
theorem d_law_985 : decode code 985 = .ok (.ifCond .ne 15, 3) := by decide +kernel
theorem d_law_988 : decode code 988 = .ok (.aload_n 3, 1) := by decide +kernel
theorem d_law_989 : decode code 989 = .ok (.iconst 0, 1) := by decide +kernel
theorem d_law_990 : decode code 990 = .ok (.laload, 1) := by decide +kernel
theorem d_law_991 : decode code 991 = .ok (.iload 6, 2) := by decide +kernel
theorem d_law_993 : decode code 993 = .ok (.i2l, 1) := by decide +kernel
theorem d_law_994 : decode code 994 = .ok (.lcmp, 1) := by decide +kernel
theorem d_law_995 : decode code 995 = .ok (.ifCond .eq 5, 3) := by decide +kernel
theorem d_law_998 : decode code 998 = .ok (.iconst 0, 1) := by decide +kernel
theorem d_law_999 : decode code 999 = .ok (.ireturn, 1) := by decide +kernel
theorem d_law_1000 : decode code 1000 = .ok (.goto 351, 3) := by decide +kernel
theorem d_law_1003 : decode code 1003 = .ok (.aload_n 1, 1) := by decide +kernel
theorem d_law_1004 : decode code 1004 = .ok (.aload_n 0, 1) := by decide +kernel
theorem d_law_1005 : decode code 1005 = .ok (.iload 4, 2) := by decide +kernel
theorem d_law_1007 : decode code 1007 = .ok (.iconst 1, 1) := by decide +kernel
theorem d_law_1008 : decode code 1008 = .ok (.iadd, 1) := by decide +kernel
theorem d_law_1009 : decode code 1009 = .ok (.iaload, 1) := by decide +kernel
theorem d_law_1010 : decode code 1010 = .ok (.aload_n 3, 1) := by decide +kernel
theorem d_law_1011 : decode code 1011 = .ok (.invokestatic 127, 3) := by decide +kernel
theorem d_law_1014 : decode code 1014 = .ok (.istore 5, 2) := by decide +kernel
theorem d_law_1016 : decode code 1016 = .ok (.aload_n 2, 1) := by decide +kernel
