theorem d_law_1017 : decode code 1017 = .ok (.aload_n 0, 1) := by decide +kernel
theorem d_law_1018 : decode code 1018 = .ok (.iload 4, 2) := by decide +kernel
theorem d_law_1020 : decode code 1020 = .ok (.iconst 1, 1) := by decide +kernel
theorem d_law_1021 : decode code 1021 = .ok (.iadd, 1) := by decide +kernel
theorem d_law_1022 : decode code 1022 = .ok (.iaload, 1) := by decide +kernel
theorem d_law_1023 : decode code 1023 = .ok (.invokevirtual 129, 3) := by decide +kernel
theorem d_law_1026 : decode code 1026 = .ok (.istore 6, 2) := by decide +kernel
theorem d_law_1028 : decode code 1028 = .ok (.aload_n 2, 1) := by decide +kernel
theorem d_law_1029 : decode code 1029 = .ok (.invokevirtual 86, 3) := by decide +kernel
theorem d_law_1032 : decode code 1032 = .ok (.iload 5, 2) := by decide +kernel
theorem d_law_1034 : decode code 1034 = .ok (.if_icmp .eq 5, 3) := by decide +kernel
theorem d_law_1037 : decode code 1037 = .ok (.iconst 0, 1) := by decide +kernel
theorem d_law_1038 : decode code 1038 = .ok (.ireturn, 1) := by decide +kernel
theorem d_law_1039 : decode code 1039 = .ok (.iload 5, 2) := by decide +kernel
theorem d_law_1041 : decode code 1041 = .ok (.ifCond .ne 22, 3) := by decide +kernel
theorem d_law_1044 : decode code 1044 = .ok (.aload_n 3, 1) := by decide +kernel
theorem d_law_1045 : decode code 1045 = .ok (.iconst 0, 1) := by decide +kernel
theorem d_law_1046 : decode code 1046 = .ok (.laload, 1) := by decide +kernel
theorem d_law_1047 : decode code 1047 = .ok (.iload 6, 2) := by decide +kernel
theorem d_law_1049 : decode code 1049 = .ok (.ifCond .eq 7, 3) := by decide +kernel
theorem d_law_1052 : decode code 1052 = .ok (.lconst 1, 1) := by decide +kernel
theorem d_law_1053 : decode code 1053 = .ok (.goto 4, 3) := by decide +kernel
theorem d_law_1056 : decode code 1056 = .ok (.lconst 0, 1) := by decide +kernel
theorem d_law_1057 : decode code 1057 = .ok (.lcmp, 1) := by decide +kernel
theorem d_law_1058 : decode code 1058 = .ok (.ifCond .eq 5, 3) := by decide +kernel
theorem d_law_1061 : decode code 1061 = .ok (.iconst 0, 1) := by decide +kernel
theorem d_law_1062 : decode code 1062 = .ok (.ireturn, 1) := by decide +kernel
theorem d_law_1063 : decode code 1063 = .ok (.goto 288, 3) := by decide +kernel
theorem d_law_1066 : decode code 1066 = .ok (.aload_n 1, 1) := by decide +kernel
theorem d_law_1067 : decode code 1067 = .ok (.aload_n 0, 1) := by decide +kernel
theorem d_law_1068 : decode code 1068 = .ok (.iload 4, 2) := by decide +kernel
theorem d_law_1070 : decode code 1070 = .ok (.iconst 1, 1) := by decide +kernel
theorem d_law_1071 : decode code 1071 = .ok (.iadd, 1) := by decide +kernel
theorem d_law_1072 : decode code 1072 = .ok (.iaload, 1) := by decide +kernel
theorem d_law_1073 : decode code 1073 = .ok (.aload_n 3, 1) := by decide +kernel
theorem d_law_1074 : decode code 1074 = .ok (.invokestatic 130, 3) := by decide +kernel
theorem d_law_1077 : decode code 1077 = .ok (.istore 5, 2) := by decide +kernel
theorem d_law_1079 : decode code 1079 = .ok (.aload_n 2, 1) := by decide +kernel
theorem d_law_1080 : decode code 1080 = .ok (.aload_n 0, 1) := by decide +kernel
theorem d_law_1081 : decode code 1081 = .ok (.iload 4, 2) := by decide +kernel
theorem d_law_1083 : decode code 1083 = .ok (.iconst 1, 1) := by decide +kernel
theorem d_law_1084 : decode code 1084 = .ok (.iadd, 1) := by decide +kernel
theorem d_law_1085 : decode code 1085 = .ok (.iaload, 1) := by decide +kernel
theorem d_law_1086 : decode code 1086 = .ok (.invokevirtual 132, 3) := by decide +kernel
theorem d_law_1089 : decode code 1089 = .ok (.istore 6, 2) := by decide +kernel
theorem d_law_1091 : decode code 1091 = .ok (.aload_n 2, 1) := by decide +kernel
theorem d_law_1092 : decode code 1092 = .ok (.invokevirtual 86, 3) := by decide +kernel
theorem d_law_1095 : decode code 1095 = .ok (.iload 5, 2) := by decide +kernel
theorem d_law_1097 : decode code 1097 = .ok (.if_icmp .eq 5, 3) := by decide +kernel
theorem d_law_1100 : decode code 1100 = .ok (.iconst 0, 1) := by decide +kernel
theorem d_law_1101 : decode code 1101 = .ok (.ireturn, 1) := by decide +kernel
theorem d_law_1102 : decode code 1102 = .ok (.iload 5, 2) := by decide +kernel
theorem d_law_1104 : decode code 1104 = .ok (.ifCond .ne 15, 3) := by decide +kernel
theorem d_law_1107 : decode code 1107 = .ok (.aload_n 3, 1) := by decide +kernel
theorem d_law_1108 : decode code 1108 = .ok (.iconst 0, 1) := by decide +kernel
theorem d_law_1109 : decode code 1109 = .ok (.laload, 1) := by decide +kernel
theorem d_law_1110 : decode code 1110 = .ok (.iload 6, 2) := by decide +kernel
theorem d_law_1112 : decode code 1112 = .ok (.i2l, 1) := by decide +kernel
theorem d_law_1113 : decode code 1113 = .ok (.lcmp, 1) := by decide +kernel
theorem d_law_1114 : decode code 1114 = .ok (.ifCond .eq 5, 3) := by decide +kernel
