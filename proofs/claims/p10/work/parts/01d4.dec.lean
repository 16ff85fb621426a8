theorem d_Mo_halt_24 : decode b_Mo_halt 24 = .ok (.aload_n 0, 1) := by decide +kernel
theorem d_Mo_halt_25 : decode b_Mo_halt 25 = .ok (.aload_n 0, 1) := by decide +kernel
theorem d_Mo_halt_26 : decode b_Mo_halt 26 = .ok (.getfield 32, 3) := by decide +kernel
theorem d_Mo_halt_29 : decode b_Mo_halt 29 = .ok (.iload_n 1, 1) := by decide +kernel
theorem d_Mo_halt_30 : decode b_Mo_halt 30 = .ok (.baload, 1) := by decide +kernel
theorem d_Mo_halt_31 : decode b_Mo_halt 31 = .ok (.iload_n 2, 1) := by decide +kernel
theorem d_Mo_halt_32 : decode b_Mo_halt 32 = .ok (.if_icmp .ne 7, 3) := by decide +kernel
theorem d_Mo_halt_35 : decode b_Mo_halt 35 = .ok (.iconst 2, 1) := by decide +kernel
theorem d_Mo_halt_36 : decode b_Mo_halt 36 = .ok (.goto 4, 3) := by decide +kernel
theorem d_Mo_halt_39 : decode b_Mo_halt 39 = .ok (.iconst 0, 1) := by decide +kernel
theorem d_Mo_halt_40 : decode b_Mo_halt 40 = .ok (.putfield 53, 3) := by decide +kernel
theorem d_Mo_halt_43 : decode b_Mo_halt 43 = .ok (.aload_n 0, 1) := by decide +kernel
theorem d_Mo_halt_44 : decode b_Mo_halt 44 = .ok (.getfield 53, 3) := by decide +kernel
theorem d_Mo_halt_47 : decode b_Mo_halt 47 = .ok (.ifCond .le 5, 3) := by decide +kernel
theorem d_Mo_halt_50 : decode b_Mo_halt 50 = .ok (.iconst 0, 1) := by decide +kernel
theorem d_Mo_halt_51 : decode b_Mo_halt 51 = .ok (.ireturn, 1) := by decide +kernel
theorem d_Mo_halt_52 : decode b_Mo_halt 52 = .ok (.aload_n 0, 1) := by decide +kernel
theorem d_Mo_halt_53 : decode b_Mo_halt 53 = .ok (.getfield 32, 3) := by decide +kernel
theorem d_Mo_halt_56 : decode b_Mo_halt 56 = .ok (.iload_n 1, 1) := by decide +kernel
theorem d_Mo_halt_57 : decode b_Mo_halt 57 = .ok (.iload_n 2, 1) := by decide +kernel
theorem d_Mo_halt_58 : decode b_Mo_halt 58 = .ok (.bastore, 1) := by decide +kernel
theorem d_Mo_halt_59 : decode b_Mo_halt 59 = .ok (.iload_n 2, 1) := by decide +kernel
theorem d_Mo_halt_60 : decode b_Mo_halt 60 = .ok (.ifCond .eq 11, 3) := by decide +kernel
theorem d_Mo_halt_63 : decode b_Mo_halt 63 = .ok (.aload_n 0, 1) := by decide +kernel
theorem d_Mo_halt_64 : decode b_Mo_halt 64 = .ok (.iload_n 1, 1) := by decide +kernel
theorem d_Mo_halt_65 : decode b_Mo_halt 65 = .ok (.invokevirtual 100, 3) := by decide +kernel
theorem d_Mo_halt_68 : decode b_Mo_halt 68 = .ok (.goto 4, 3) := by decide +kernel
theorem d_Mo_halt_71 : decode b_Mo_halt 71 = .ok (.iconst 0, 1) := by decide +kernel
theorem d_Mo_halt_72 : decode b_Mo_halt 72 = .ok (.istore_n 3, 1) := by decide +kernel
theorem d_Mo_halt_73 : decode b_Mo_halt 73 = .ok (.iconst 1, 1) := by decide +kernel
theorem d_Mo_halt_74 : decode b_Mo_halt 74 = .ok (.istore 4, 2) := by decide +kernel
theorem d_Mo_halt_76 : decode b_Mo_halt 76 = .ok (.iload 4, 2) := by decide +kernel
theorem d_Mo_halt_78 : decode b_Mo_halt 78 = .ok (.aload_n 0, 1) := by decide +kernel
theorem d_Mo_halt_79 : decode b_Mo_halt 79 = .ok (.getfield 67, 3) := by decide +kernel
theorem d_Mo_halt_82 : decode b_Mo_halt 82 = .ok (.if_icmp .gt 42, 3) := by decide +kernel
theorem d_Mo_halt_85 : decode b_Mo_halt 85 = .ok (.iload_n 2, 1) := by decide +kernel
theorem d_Mo_halt_86 : decode b_Mo_halt 86 = .ok (.ifCond .eq 38, 3) := by decide +kernel
theorem d_Mo_halt_89 : decode b_Mo_halt 89 = .ok (.aload_n 0, 1) := by decide +kernel
theorem d_Mo_halt_90 : decode b_Mo_halt 90 = .ok (.getfield 35, 3) := by decide +kernel
theorem d_Mo_halt_93 : decode b_Mo_halt 93 = .ok (.iload 4, 2) := by decide +kernel
theorem d_Mo_halt_95 : decode b_Mo_halt 95 = .ok (.iaload, 1) := by decide +kernel
theorem d_Mo_halt_96 : decode b_Mo_halt 96 = .ok (.iload_n 1, 1) := by decide +kernel
theorem d_Mo_halt_97 : decode b_Mo_halt 97 = .ok (.if_icmp .ne 21, 3) := by decide +kernel
theorem d_Mo_halt_100 : decode b_Mo_halt 100 = .ok (.aload_n 0, 1) := by decide +kernel
theorem d_Mo_halt_101 : decode b_Mo_halt 101 = .ok (.getfield 50, 3) := by decide +kernel
theorem d_Mo_halt_104 : decode b_Mo_halt 104 = .ok (.iload 4, 2) := by decide +kernel
theorem d_Mo_halt_106 : decode b_Mo_halt 106 = .ok (.iaload, 1) := by decide +kernel
theorem d_Mo_halt_107 : decode b_Mo_halt 107 = .ok (.ifCond .ne 11, 3) := by decide +kernel
theorem d_Mo_halt_110 : decode b_Mo_halt 110 = .ok (.aload_n 0, 1) := by decide +kernel
theorem d_Mo_halt_111 : decode b_Mo_halt 111 = .ok (.getfield 50, 3) := by decide +kernel
theorem d_Mo_halt_114 : decode b_Mo_halt 114 = .ok (.iload 4, 2) := by decide +kernel
theorem d_Mo_halt_116 : decode b_Mo_halt 116 = .ok (.iconst 2, 1) := by decide +kernel
theorem d_Mo_halt_117 : decode b_Mo_halt 117 = .ok (.iastore, 1) := by decide +kernel
theorem d_Mo_halt_118 : decode b_Mo_halt 118 = .ok (.iinc 4 1, 3) := by decide +kernel
theorem d_Mo_halt_121 : decode b_Mo_halt 121 = .ok (.goto (-45), 3) := by decide +kernel
theorem d_Mo_halt_124 : decode b_Mo_halt 124 = .ok (.iload_n 2, 1) := by decide +kernel
theorem d_Mo_halt_125 : decode b_Mo_halt 125 = .ok (.ifCond .eq 10, 3) := by decide +kernel
theorem d_Mo_halt_128 : decode b_Mo_halt 128 = .ok (.aload_n 0, 1) := by decide +kernel
theorem d_Mo_halt_129 : decode b_Mo_halt 129 = .ok (.getfield 26, 3) := by decide +kernel
theorem d_Mo_halt_132 : decode b_Mo_halt 132 = .ok (.iload_n 1, 1) := by decide +kernel
theorem d_Mo_halt_133 : decode b_Mo_halt 133 = .ok (.iconst (-1), 1) := by decide +kernel
theorem d_Mo_halt_134 : decode b_Mo_halt 134 = .ok (.iastore, 1) := by decide +kernel
theorem d_Mo_halt_135 : decode b_Mo_halt 135 = .ok (.iload_n 3, 1) := by decide +kernel
theorem d_Mo_halt_136 : decode b_Mo_halt 136 = .ok (.ireturn, 1) := by decide +kernel
theorem d_Mo_report_0 : decode b_Mo_report 0 = .ok (.aload_n 0, 1) := by decide +kernel
theorem d_Mo_report_1 : decode b_Mo_report 1 = .ok (.aload_n 0, 1) := by decide +kernel
theorem d_Mo_report_2 : decode b_Mo_report 2 = .ok (.iload_n 1, 1) := by decide +kernel
theorem d_Mo_report_3 : decode b_Mo_report 3 = .ok (.invokevirtual 81, 3) := by decide +kernel
theorem d_Mo_report_6 : decode b_Mo_report 6 = .ok (.ifCond .eq 7, 3) := by decide +kernel
theorem d_Mo_report_9 : decode b_Mo_report 9 = .ok (.iconst 0, 1) := by decide +kernel
theorem d_Mo_report_10 : decode b_Mo_report 10 = .ok (.goto 4, 3) := by decide +kernel
theorem d_Mo_report_13 : decode b_Mo_report 13 = .ok (.iconst 1, 1) := by decide +kernel
theorem d_Mo_report_14 : decode b_Mo_report 14 = .ok (.putfield 53, 3) := by decide +kernel
theorem d_Mo_report_17 : decode b_Mo_report 17 = .ok (.aload_n 0, 1) := by decide +kernel
theorem d_Mo_report_18 : decode b_Mo_report 18 = .ok (.getfield 53, 3) := by decide +kernel
theorem d_Mo_report_21 : decode b_Mo_report 21 = .ok (.ifCond .le 5, 3) := by decide +kernel
theorem d_Mo_report_24 : decode b_Mo_report 24 = .ok (.iconst 0, 1) := by decide +kernel
theorem d_Mo_report_25 : decode b_Mo_report 25 = .ok (.ireturn, 1) := by decide +kernel
theorem d_Mo_report_26 : decode b_Mo_report 26 = .ok (.aload_n 0, 1) := by decide +kernel
theorem d_Mo_report_27 : decode b_Mo_report 27 = .ok (.iload_n 1, 1) := by decide +kernel
theorem d_Mo_report_28 : decode b_Mo_report 28 = .ok (.invokevirtual 84, 3) := by decide +kernel
theorem d_Mo_report_31 : decode b_Mo_report 31 = .ok (.istore_n 2, 1) := by decide +kernel
theorem d_Mo_report_32 : decode b_Mo_report 32 = .ok (.aload_n 0, 1) := by decide +kernel
theorem d_Mo_report_33 : decode b_Mo_report 33 = .ok (.getfield 29, 3) := by decide +kernel
theorem d_Mo_report_36 : decode b_Mo_report 36 = .ok (.iload_n 1, 1) := by decide +kernel
theorem d_Mo_report_37 : decode b_Mo_report 37 = .ok (.aload_n 0, 1) := by decide +kernel
theorem d_Mo_report_38 : decode b_Mo_report 38 = .ok (.getfield 78, 3) := by decide +kernel
theorem d_Mo_report_41 : decode b_Mo_report 41 = .ok (.iastore, 1) := by decide +kernel
theorem d_Mo_report_42 : decode b_Mo_report 42 = .ok (.iload_n 2, 1) := by decide +kernel
theorem d_Mo_report_43 : decode b_Mo_report 43 = .ok (.ireturn, 1) := by decide +kernel
theorem d_Mo_pass_0 : decode b_Mo_pass 0 = .ok (.aload_n 0, 1) := by decide +kernel
theorem d_Mo_pass_1 : decode b_Mo_pass 1 = .ok (.iload_n 1, 1) := by decide +kernel
theorem d_Mo_pass_2 : decode b_Mo_pass 2 = .ok (.aload_n 0, 1) := by decide +kernel
theorem d_Mo_pass_3 : decode b_Mo_pass 3 = .ok (.getfield 78, 3) := by decide +kernel
theorem d_Mo_pass_6 : decode b_Mo_pass 6 = .ok (.sipush 10000, 3) := by decide +kernel
theorem d_Mo_pass_9 : decode b_Mo_pass 9 = .ok (.invokestatic 60, 3) := by decide +kernel
theorem d_Mo_pass_12 : decode b_Mo_pass 12 = .ok (.ifCond .eq 7, 3) := by decide +kernel
theorem d_Mo_pass_15 : decode b_Mo_pass 15 = .ok (.iconst 0, 1) := by decide +kernel
theorem d_Mo_pass_16 : decode b_Mo_pass 16 = .ok (.goto 4, 3) := by decide +kernel
theorem d_Mo_pass_19 : decode b_Mo_pass 19 = .ok (.iconst 1, 1) := by decide +kernel
theorem d_Mo_pass_20 : decode b_Mo_pass 20 = .ok (.putfield 53, 3) := by decide +kernel
theorem d_Mo_pass_23 : decode b_Mo_pass 23 = .ok (.aload_n 0, 1) := by decide +kernel
theorem d_Mo_pass_24 : decode b_Mo_pass 24 = .ok (.getfield 53, 3) := by decide +kernel
theorem d_Mo_pass_27 : decode b_Mo_pass 27 = .ok (.ifCond .le 5, 3) := by decide +kernel
theorem d_Mo_pass_30 : decode b_Mo_pass 30 = .ok (.iconst 0, 1) := by decide +kernel
theorem d_Mo_pass_31 : decode b_Mo_pass 31 = .ok (.ireturn, 1) := by decide +kernel
theorem d_Mo_pass_32 : decode b_Mo_pass 32 = .ok (.aload_n 0, 1) := by decide +kernel
theorem d_Mo_pass_33 : decode b_Mo_pass 33 = .ok (.iload_n 1, 1) := by decide +kernel
theorem d_Mo_pass_34 : decode b_Mo_pass 34 = .ok (.putfield 78, 3) := by decide +kernel
theorem d_Mo_pass_37 : decode b_Mo_pass 37 = .ok (.iconst 0, 1) := by decide +kernel
theorem d_Mo_pass_38 : decode b_Mo_pass 38 = .ok (.istore_n 2, 1) := by decide +kernel
theorem d_Mo_pass_39 : decode b_Mo_pass 39 = .ok (.iconst 1, 1) := by decide +kernel
theorem d_Mo_pass_40 : decode b_Mo_pass 40 = .ok (.istore_n 3, 1) := by decide +kernel
theorem d_Mo_pass_41 : decode b_Mo_pass 41 = .ok (.iload_n 3, 1) := by decide +kernel
theorem d_Mo_pass_42 : decode b_Mo_pass 42 = .ok (.aload_n 0, 1) := by decide +kernel
theorem d_Mo_pass_43 : decode b_Mo_pass 43 = .ok (.getfield 67, 3) := by decide +kernel
theorem d_Mo_pass_46 : decode b_Mo_pass 46 = .ok (.if_icmp .gt 44, 3) := by decide +kernel
theorem d_Mo_pass_49 : decode b_Mo_pass 49 = .ok (.aload_n 0, 1) := by decide +kernel
theorem d_Mo_pass_50 : decode b_Mo_pass 50 = .ok (.getfield 50, 3) := by decide +kernel
theorem d_Mo_pass_53 : decode b_Mo_pass 53 = .ok (.iload_n 3, 1) := by decide +kernel
theorem d_Mo_pass_54 : decode b_Mo_pass 54 = .ok (.iaload, 1) := by decide +kernel
theorem d_Mo_pass_55 : decode b_Mo_pass 55 = .ok (.ifCond .ne 29, 3) := by decide +kernel
theorem d_Mo_pass_58 : decode b_Mo_pass 58 = .ok (.aload_n 0, 1) := by decide +kernel
theorem d_Mo_pass_59 : decode b_Mo_pass 59 = .ok (.getfield 44, 3) := by decide +kernel
theorem d_Mo_pass_62 : decode b_Mo_pass 62 = .ok (.iload_n 3, 1) := by decide +kernel
theorem d_Mo_pass_63 : decode b_Mo_pass 63 = .ok (.iaload, 1) := by decide +kernel
theorem d_Mo_pass_64 : decode b_Mo_pass 64 = .ok (.aload_n 0, 1) := by decide +kernel
theorem d_Mo_pass_65 : decode b_Mo_pass 65 = .ok (.getfield 78, 3) := by decide +kernel
theorem d_Mo_pass_68 : decode b_Mo_pass 68 = .ok (.if_icmp .le 6, 3) := by decide +kernel
theorem d_Mo_pass_71 : decode b_Mo_pass 71 = .ok (.goto 13, 3) := by decide +kernel
theorem d_Mo_pass_74 : decode b_Mo_pass 74 = .ok (.aload_n 0, 1) := by decide +kernel
theorem d_Mo_pass_75 : decode b_Mo_pass 75 = .ok (.getfield 50, 3) := by decide +kernel
theorem d_Mo_pass_78 : decode b_Mo_pass 78 = .ok (.iload_n 3, 1) := by decide +kernel
theorem d_Mo_pass_79 : decode b_Mo_pass 79 = .ok (.iconst 4, 1) := by decide +kernel
theorem d_Mo_pass_80 : decode b_Mo_pass 80 = .ok (.iastore, 1) := by decide +kernel
theorem d_Mo_pass_81 : decode b_Mo_pass 81 = .ok (.iinc 2 1, 3) := by decide +kernel
theorem d_Mo_pass_84 : decode b_Mo_pass 84 = .ok (.iinc 3 1, 3) := by decide +kernel
theorem d_Mo_pass_87 : decode b_Mo_pass 87 = .ok (.goto (-46), 3) := by decide +kernel
theorem d_Mo_pass_90 : decode b_Mo_pass 90 = .ok (.iload_n 2, 1) := by decide +kernel
theorem d_Mo_pass_91 : decode b_Mo_pass 91 = .ok (.ireturn, 1) := by decide +kernel
theorem d_Mo_holder_0 : decode b_Mo_holder 0 = .ok (.aload_n 0, 1) := by decide +kernel
theorem d_Mo_holder_1 : decode b_Mo_holder 1 = .ok (.aload_n 0, 1) := by decide +kernel
theorem d_Mo_holder_2 : decode b_Mo_holder 2 = .ok (.iload_n 1, 1) := by decide +kernel
theorem d_Mo_holder_3 : decode b_Mo_holder 3 = .ok (.invokevirtual 70, 3) := by decide +kernel
theorem d_Mo_holder_6 : decode b_Mo_holder 6 = .ok (.ifCond .ne 7, 3) := by decide +kernel
theorem d_Mo_holder_9 : decode b_Mo_holder 9 = .ok (.iconst 1, 1) := by decide +kernel
theorem d_Mo_holder_10 : decode b_Mo_holder 10 = .ok (.goto 22, 3) := by decide +kernel
theorem d_Mo_holder_13 : decode b_Mo_holder 13 = .ok (.iload_n 2, 1) := by decide +kernel
theorem d_Mo_holder_14 : decode b_Mo_holder 14 = .ok (.aload_n 0, 1) := by decide +kernel
theorem d_Mo_holder_15 : decode b_Mo_holder 15 = .ok (.getfield 78, 3) := by decide +kernel
theorem d_Mo_holder_18 : decode b_Mo_holder 18 = .ok (.sipush 10000, 3) := by decide +kernel
theorem d_Mo_holder_21 : decode b_Mo_holder 21 = .ok (.invokestatic 60, 3) := by decide +kernel
theorem d_Mo_holder_24 : decode b_Mo_holder 24 = .ok (.ifCond .ne 7, 3) := by decide +kernel
theorem d_Mo_holder_27 : decode b_Mo_holder 27 = .ok (.iconst 2, 1) := by decide +kernel
theorem d_Mo_holder_28 : decode b_Mo_holder 28 = .ok (.goto 4, 3) := by decide +kernel
theorem d_Mo_holder_31 : decode b_Mo_holder 31 = .ok (.iconst 0, 1) := by decide +kernel
theorem d_Mo_holder_32 : decode b_Mo_holder 32 = .ok (.putfield 53, 3) := by decide +kernel
theorem d_Mo_holder_35 : decode b_Mo_holder 35 = .ok (.aload_n 0, 1) := by decide +kernel
theorem d_Mo_holder_36 : decode b_Mo_holder 36 = .ok (.getfield 53, 3) := by decide +kernel
theorem d_Mo_holder_39 : decode b_Mo_holder 39 = .ok (.ifCond .le 5, 3) := by decide +kernel
theorem d_Mo_holder_42 : decode b_Mo_holder 42 = .ok (.iconst 0, 1) := by decide +kernel
theorem d_Mo_holder_43 : decode b_Mo_holder 43 = .ok (.ireturn, 1) := by decide +kernel
theorem d_Mo_holder_44 : decode b_Mo_holder 44 = .ok (.aload_n 0, 1) := by decide +kernel
theorem d_Mo_holder_45 : decode b_Mo_holder 45 = .ok (.iload_n 1, 1) := by decide +kernel
theorem d_Mo_holder_46 : decode b_Mo_holder 46 = .ok (.invokevirtual 74, 3) := by decide +kernel
theorem d_Mo_holder_49 : decode b_Mo_holder 49 = .ok (.iconst (-1), 1) := by decide +kernel
theorem d_Mo_holder_50 : decode b_Mo_holder 50 = .ok (.if_icmp .eq 9, 3) := by decide +kernel
theorem d_Mo_holder_53 : decode b_Mo_holder 53 = .ok (.aload_n 0, 1) := by decide +kernel
theorem d_Mo_holder_54 : decode b_Mo_holder 54 = .ok (.iload_n 1, 1) := by decide +kernel
theorem d_Mo_holder_55 : decode b_Mo_holder 55 = .ok (.invokevirtual 74, 3) := by decide +kernel
theorem d_Mo_holder_58 : decode b_Mo_holder 58 = .ok (.ireturn, 1) := by decide +kernel
theorem d_Mo_holder_59 : decode b_Mo_holder 59 = .ok (.iconst 1, 1) := by decide +kernel
theorem d_Mo_holder_60 : decode b_Mo_holder 60 = .ok (.istore_n 3, 1) := by decide +kernel
theorem d_Mo_holder_61 : decode b_Mo_holder 61 = .ok (.iload_n 3, 1) := by decide +kernel
theorem d_Mo_holder_62 : decode b_Mo_holder 62 = .ok (.aload_n 0, 1) := by decide +kernel
theorem d_Mo_holder_63 : decode b_Mo_holder 63 = .ok (.getfield 67, 3) := by decide +kernel
theorem d_Mo_holder_66 : decode b_Mo_holder 66 = .ok (.if_icmp .gt 55, 3) := by decide +kernel
theorem d_Mo_holder_69 : decode b_Mo_holder 69 = .ok (.aload_n 0, 1) := by decide +kernel
theorem d_Mo_holder_70 : decode b_Mo_holder 70 = .ok (.getfield 38, 3) := by decide +kernel
theorem d_Mo_holder_73 : decode b_Mo_holder 73 = .ok (.iload_n 3, 1) := by decide +kernel
theorem d_Mo_holder_74 : decode b_Mo_holder 74 = .ok (.iaload, 1) := by decide +kernel
theorem d_Mo_holder_75 : decode b_Mo_holder 75 = .ok (.iload_n 1, 1) := by decide +kernel
theorem d_Mo_holder_76 : decode b_Mo_holder 76 = .ok (.if_icmp .ne 39, 3) := by decide +kernel
theorem d_Mo_holder_79 : decode b_Mo_holder 79 = .ok (.aload_n 0, 1) := by decide +kernel
theorem d_Mo_holder_80 : decode b_Mo_holder 80 = .ok (.getfield 50, 3) := by decide +kernel
theorem d_Mo_holder_83 : decode b_Mo_holder 83 = .ok (.iload_n 3, 1) := by decide +kernel
theorem d_Mo_holder_84 : decode b_Mo_holder 84 = .ok (.iaload, 1) := by decide +kernel
theorem d_Mo_holder_85 : decode b_Mo_holder 85 = .ok (.ifCond .ne 30, 3) := by decide +kernel
theorem d_Mo_holder_88 : decode b_Mo_holder 88 = .ok (.aload_n 0, 1) := by decide +kernel
theorem d_Mo_holder_89 : decode b_Mo_holder 89 = .ok (.getfield 41, 3) := by decide +kernel
theorem d_Mo_holder_92 : decode b_Mo_holder 92 = .ok (.iload_n 3, 1) := by decide +kernel
theorem d_Mo_holder_93 : decode b_Mo_holder 93 = .ok (.iaload, 1) := by decide +kernel
theorem d_Mo_holder_94 : decode b_Mo_holder 94 = .ok (.iload_n 2, 1) := by decide +kernel
theorem d_Mo_holder_95 : decode b_Mo_holder 95 = .ok (.if_icmp .gt 20, 3) := by decide +kernel
theorem d_Mo_holder_98 : decode b_Mo_holder 98 = .ok (.iload_n 2, 1) := by decide +kernel
theorem d_Mo_holder_99 : decode b_Mo_holder 99 = .ok (.aload_n 0, 1) := by decide +kernel
theorem d_Mo_holder_100 : decode b_Mo_holder 100 = .ok (.getfield 44, 3) := by decide +kernel
theorem d_Mo_holder_103 : decode b_Mo_holder 103 = .ok (.iload_n 3, 1) := by decide +kernel
theorem d_Mo_holder_104 : decode b_Mo_holder 104 = .ok (.iaload, 1) := by decide +kernel
theorem d_Mo_holder_105 : decode b_Mo_holder 105 = .ok (.if_icmp .ge 10, 3) := by decide +kernel
theorem d_Mo_holder_108 : decode b_Mo_holder 108 = .ok (.aload_n 0, 1) := by decide +kernel
theorem d_Mo_holder_109 : decode b_Mo_holder 109 = .ok (.getfield 35, 3) := by decide +kernel
theorem d_Mo_holder_112 : decode b_Mo_holder 112 = .ok (.iload_n 3, 1) := by decide +kernel
theorem d_Mo_holder_113 : decode b_Mo_holder 113 = .ok (.iaload, 1) := by decide +kernel
theorem d_Mo_holder_114 : decode b_Mo_holder 114 = .ok (.ireturn, 1) := by decide +kernel
theorem d_Mo_holder_115 : decode b_Mo_holder 115 = .ok (.iinc 3 1, 3) := by decide +kernel
theorem d_Mo_holder_118 : decode b_Mo_holder 118 = .ok (.goto (-57), 3) := by decide +kernel
theorem d_Mo_holder_121 : decode b_Mo_holder 121 = .ok (.iconst (-1), 1) := by decide +kernel
theorem d_Mo_holder_122 : decode b_Mo_holder 122 = .ok (.ireturn, 1) := by decide +kernel
theorem d_Mo_told_0 : decode b_Mo_told 0 = .ok (.aload_n 0, 1) := by decide +kernel
theorem d_Mo_told_1 : decode b_Mo_told 1 = .ok (.aload_n 0, 1) := by decide +kernel
theorem d_Mo_told_2 : decode b_Mo_told 2 = .ok (.iload_n 1, 1) := by decide +kernel
theorem d_Mo_told_3 : decode b_Mo_told 3 = .ok (.invokevirtual 81, 3) := by decide +kernel
theorem d_Mo_told_6 : decode b_Mo_told 6 = .ok (.ifCond .ne 7, 3) := by decide +kernel
theorem d_Mo_told_9 : decode b_Mo_told 9 = .ok (.iconst 1, 1) := by decide +kernel
theorem d_Mo_told_10 : decode b_Mo_told 10 = .ok (.goto 18, 3) := by decide +kernel
theorem d_Mo_told_13 : decode b_Mo_told 13 = .ok (.iload_n 2, 1) := by decide +kernel
theorem d_Mo_told_14 : decode b_Mo_told 14 = .ok (.iconst 0, 1) := by decide +kernel
theorem d_Mo_told_15 : decode b_Mo_told 15 = .ok (.bipush 6, 2) := by decide +kernel
theorem d_Mo_told_17 : decode b_Mo_told 17 = .ok (.invokestatic 60, 3) := by decide +kernel
theorem d_Mo_told_20 : decode b_Mo_told 20 = .ok (.ifCond .ne 7, 3) := by decide +kernel
theorem d_Mo_told_23 : decode b_Mo_told 23 = .ok (.iconst 2, 1) := by decide +kernel
theorem d_Mo_told_24 : decode b_Mo_told 24 = .ok (.goto 4, 3) := by decide +kernel
theorem d_Mo_told_27 : decode b_Mo_told 27 = .ok (.iconst 0, 1) := by decide +kernel
theorem d_Mo_told_28 : decode b_Mo_told 28 = .ok (.putfield 53, 3) := by decide +kernel
theorem d_Mo_told_31 : decode b_Mo_told 31 = .ok (.aload_n 0, 1) := by decide +kernel
theorem d_Mo_told_32 : decode b_Mo_told 32 = .ok (.getfield 53, 3) := by decide +kernel
theorem d_Mo_told_35 : decode b_Mo_told 35 = .ok (.ifCond .le 5, 3) := by decide +kernel
theorem d_Mo_told_38 : decode b_Mo_told 38 = .ok (.iconst 0, 1) := by decide +kernel
theorem d_Mo_told_39 : decode b_Mo_told 39 = .ok (.ireturn, 1) := by decide +kernel
theorem d_Mo_told_40 : decode b_Mo_told 40 = .ok (.iload_n 2, 1) := by decide +kernel
theorem d_Mo_told_41 : decode b_Mo_told 41 = .ok (.ifCond .ne 10, 3) := by decide +kernel
theorem d_Mo_told_44 : decode b_Mo_told 44 = .ok (.aload_n 0, 1) := by decide +kernel
theorem d_Mo_told_45 : decode b_Mo_told 45 = .ok (.getfield 16, 3) := by decide +kernel
theorem d_Mo_told_48 : decode b_Mo_told 48 = .ok (.iload_n 1, 1) := by decide +kernel
theorem d_Mo_told_49 : decode b_Mo_told 49 = .ok (.iaload, 1) := by decide +kernel
theorem d_Mo_told_50 : decode b_Mo_told 50 = .ok (.ireturn, 1) := by decide +kernel
theorem d_Mo_told_51 : decode b_Mo_told 51 = .ok (.iload_n 2, 1) := by decide +kernel
theorem d_Mo_told_52 : decode b_Mo_told 52 = .ok (.iconst 1, 1) := by decide +kernel
theorem d_Mo_told_53 : decode b_Mo_told 53 = .ok (.if_icmp .ne 10, 3) := by decide +kernel
theorem d_Mo_told_56 : decode b_Mo_told 56 = .ok (.aload_n 0, 1) := by decide +kernel
theorem d_Mo_told_57 : decode b_Mo_told 57 = .ok (.getfield 23, 3) := by decide +kernel
theorem d_Mo_told_60 : decode b_Mo_told 60 = .ok (.iload_n 1, 1) := by decide +kernel
theorem d_Mo_told_61 : decode b_Mo_told 61 = .ok (.iaload, 1) := by decide +kernel
theorem d_Mo_told_62 : decode b_Mo_told 62 = .ok (.ireturn, 1) := by decide +kernel
theorem d_Mo_told_63 : decode b_Mo_told 63 = .ok (.iload_n 2, 1) := by decide +kernel
theorem d_Mo_told_64 : decode b_Mo_told 64 = .ok (.iconst 2, 1) := by decide +kernel
theorem d_Mo_told_65 : decode b_Mo_told 65 = .ok (.if_icmp .ne 10, 3) := by decide +kernel
theorem d_Mo_told_68 : decode b_Mo_told 68 = .ok (.aload_n 0, 1) := by decide +kernel
theorem d_Mo_told_69 : decode b_Mo_told 69 = .ok (.getfield 26, 3) := by decide +kernel
theorem d_Mo_told_72 : decode b_Mo_told 72 = .ok (.iload_n 1, 1) := by decide +kernel
theorem d_Mo_told_73 : decode b_Mo_told 73 = .ok (.iaload, 1) := by decide +kernel
theorem d_Mo_told_74 : decode b_Mo_told 74 = .ok (.ireturn, 1) := by decide +kernel
theorem d_Mo_told_75 : decode b_Mo_told 75 = .ok (.iload_n 2, 1) := by decide +kernel
theorem d_Mo_told_76 : decode b_Mo_told 76 = .ok (.iconst 3, 1) := by decide +kernel
theorem d_Mo_told_77 : decode b_Mo_told 77 = .ok (.if_icmp .ne 9, 3) := by decide +kernel
theorem d_Mo_told_80 : decode b_Mo_told 80 = .ok (.aload_n 0, 1) := by decide +kernel
theorem d_Mo_told_81 : decode b_Mo_told 81 = .ok (.iload_n 1, 1) := by decide +kernel
theorem d_Mo_told_82 : decode b_Mo_told 82 = .ok (.invokevirtual 100, 3) := by decide +kernel
theorem d_Mo_told_85 : decode b_Mo_told 85 = .ok (.ireturn, 1) := by decide +kernel
theorem d_Mo_told_86 : decode b_Mo_told 86 = .ok (.iload_n 2, 1) := by decide +kernel
theorem d_Mo_told_87 : decode b_Mo_told 87 = .ok (.bipush 6, 2) := by decide +kernel
theorem d_Mo_told_89 : decode b_Mo_told 89 = .ok (.if_icmp .ne 10, 3) := by decide +kernel
theorem d_Mo_told_92 : decode b_Mo_told 92 = .ok (.aload_n 0, 1) := by decide +kernel
theorem d_Mo_told_93 : decode b_Mo_told 93 = .ok (.getfield 29, 3) := by decide +kernel
theorem d_Mo_told_96 : decode b_Mo_told 96 = .ok (.iload_n 1, 1) := by decide +kernel
theorem d_Mo_told_97 : decode b_Mo_told 97 = .ok (.iaload, 1) := by decide +kernel
theorem d_Mo_told_98 : decode b_Mo_told 98 = .ok (.ireturn, 1) := by decide +kernel
theorem d_Mo_told_99 : decode b_Mo_told 99 = .ok (.iload_n 2, 1) := by decide +kernel
theorem d_Mo_told_100 : decode b_Mo_told 100 = .ok (.iconst 4, 1) := by decide +kernel
theorem d_Mo_told_101 : decode b_Mo_told 101 = .ok (.if_icmp .ne 15, 3) := by decide +kernel
theorem d_Mo_told_104 : decode b_Mo_told 104 = .ok (.aload_n 0, 1) := by decide +kernel
theorem d_Mo_told_105 : decode b_Mo_told 105 = .ok (.getfield 32, 3) := by decide +kernel
theorem d_Mo_told_108 : decode b_Mo_told 108 = .ok (.iload_n 1, 1) := by decide +kernel
theorem d_Mo_told_109 : decode b_Mo_told 109 = .ok (.baload, 1) := by decide +kernel
theorem d_Mo_told_110 : decode b_Mo_told 110 = .ok (.ifCond .eq 18, 3) := by decide +kernel
theorem d_Mo_told_113 : decode b_Mo_told 113 = .ok (.goto 11, 3) := by decide +kernel
theorem d_Mo_told_116 : decode b_Mo_told 116 = .ok (.aload_n 0, 1) := by decide +kernel
theorem d_Mo_told_117 : decode b_Mo_told 117 = .ok (.iload_n 1, 1) := by decide +kernel
theorem d_Mo_told_118 : decode b_Mo_told 118 = .ok (.invokevirtual 84, 3) := by decide +kernel
theorem d_Mo_told_121 : decode b_Mo_told 121 = .ok (.ifCond .eq 7, 3) := by decide +kernel
theorem d_Mo_told_124 : decode b_Mo_told 124 = .ok (.iconst 1, 1) := by decide +kernel
theorem d_Mo_told_125 : decode b_Mo_told 125 = .ok (.goto 4, 3) := by decide +kernel
theorem d_Mo_told_128 : decode b_Mo_told 128 = .ok (.iconst 0, 1) := by decide +kernel
theorem d_Mo_told_129 : decode b_Mo_told 129 = .ok (.ireturn, 1) := by decide +kernel
theorem d_Mo_grant_0 : decode b_Mo_grant 0 = .ok (.aload_n 0, 1) := by decide +kernel
theorem d_Mo_grant_1 : decode b_Mo_grant 1 = .ok (.aload_n 0, 1) := by decide +kernel
theorem d_Mo_grant_2 : decode b_Mo_grant 2 = .ok (.iload_n 1, 1) := by decide +kernel
theorem d_Mo_grant_3 : decode b_Mo_grant 3 = .ok (.invokevirtual 97, 3) := by decide +kernel
theorem d_Mo_grant_6 : decode b_Mo_grant 6 = .ok (.ifCond .ne 7, 3) := by decide +kernel
theorem d_Mo_grant_9 : decode b_Mo_grant 9 = .ok (.iconst 1, 1) := by decide +kernel
theorem d_Mo_grant_10 : decode b_Mo_grant 10 = .ok (.goto 17, 3) := by decide +kernel
theorem d_Mo_grant_13 : decode b_Mo_grant 13 = .ok (.iload_n 2, 1) := by decide +kernel
theorem d_Mo_grant_14 : decode b_Mo_grant 14 = .ok (.iconst 0, 1) := by decide +kernel
theorem d_Mo_grant_15 : decode b_Mo_grant 15 = .ok (.iconst 5, 1) := by decide +kernel
theorem d_Mo_grant_16 : decode b_Mo_grant 16 = .ok (.invokestatic 60, 3) := by decide +kernel
theorem d_Mo_grant_19 : decode b_Mo_grant 19 = .ok (.ifCond .ne 7, 3) := by decide +kernel
theorem d_Mo_grant_22 : decode b_Mo_grant 22 = .ok (.iconst 2, 1) := by decide +kernel
theorem d_Mo_grant_23 : decode b_Mo_grant 23 = .ok (.goto 4, 3) := by decide +kernel
theorem d_Mo_grant_26 : decode b_Mo_grant 26 = .ok (.iconst 0, 1) := by decide +kernel
theorem d_Mo_grant_27 : decode b_Mo_grant 27 = .ok (.putfield 53, 3) := by decide +kernel
theorem d_Mo_grant_30 : decode b_Mo_grant 30 = .ok (.aload_n 0, 1) := by decide +kernel
theorem d_Mo_grant_31 : decode b_Mo_grant 31 = .ok (.getfield 53, 3) := by decide +kernel
theorem d_Mo_grant_34 : decode b_Mo_grant 34 = .ok (.ifCond .le 5, 3) := by decide +kernel
theorem d_Mo_grant_37 : decode b_Mo_grant 37 = .ok (.iconst 0, 1) := by decide +kernel
theorem d_Mo_grant_38 : decode b_Mo_grant 38 = .ok (.ireturn, 1) := by decide +kernel
theorem d_Mo_grant_39 : decode b_Mo_grant 39 = .ok (.iload_n 2, 1) := by decide +kernel
theorem d_Mo_grant_40 : decode b_Mo_grant 40 = .ok (.ifCond .ne 10, 3) := by decide +kernel
theorem d_Mo_grant_43 : decode b_Mo_grant 43 = .ok (.aload_n 0, 1) := by decide +kernel
theorem d_Mo_grant_44 : decode b_Mo_grant 44 = .ok (.getfield 35, 3) := by decide +kernel
theorem d_Mo_grant_47 : decode b_Mo_grant 47 = .ok (.iload_n 1, 1) := by decide +kernel
theorem d_Mo_grant_48 : decode b_Mo_grant 48 = .ok (.iaload, 1) := by decide +kernel
theorem d_Mo_grant_49 : decode b_Mo_grant 49 = .ok (.ireturn, 1) := by decide +kernel
theorem d_Mo_grant_50 : decode b_Mo_grant 50 = .ok (.iload_n 2, 1) := by decide +kernel
theorem d_Mo_grant_51 : decode b_Mo_grant 51 = .ok (.iconst 1, 1) := by decide +kernel
theorem d_Mo_grant_52 : decode b_Mo_grant 52 = .ok (.if_icmp .ne 10, 3) := by decide +kernel
theorem d_Mo_grant_55 : decode b_Mo_grant 55 = .ok (.aload_n 0, 1) := by decide +kernel
theorem d_Mo_grant_56 : decode b_Mo_grant 56 = .ok (.getfield 38, 3) := by decide +kernel
theorem d_Mo_grant_59 : decode b_Mo_grant 59 = .ok (.iload_n 1, 1) := by decide +kernel
theorem d_Mo_grant_60 : decode b_Mo_grant 60 = .ok (.iaload, 1) := by decide +kernel
theorem d_Mo_grant_61 : decode b_Mo_grant 61 = .ok (.ireturn, 1) := by decide +kernel
theorem d_Mo_grant_62 : decode b_Mo_grant 62 = .ok (.iload_n 2, 1) := by decide +kernel
theorem d_Mo_grant_63 : decode b_Mo_grant 63 = .ok (.iconst 2, 1) := by decide +kernel
theorem d_Mo_grant_64 : decode b_Mo_grant 64 = .ok (.if_icmp .ne 10, 3) := by decide +kernel
theorem d_Mo_grant_67 : decode b_Mo_grant 67 = .ok (.aload_n 0, 1) := by decide +kernel
theorem d_Mo_grant_68 : decode b_Mo_grant 68 = .ok (.getfield 41, 3) := by decide +kernel
theorem d_Mo_grant_71 : decode b_Mo_grant 71 = .ok (.iload_n 1, 1) := by decide +kernel
theorem d_Mo_grant_72 : decode b_Mo_grant 72 = .ok (.iaload, 1) := by decide +kernel
theorem d_Mo_grant_73 : decode b_Mo_grant 73 = .ok (.ireturn, 1) := by decide +kernel
theorem d_Mo_grant_74 : decode b_Mo_grant 74 = .ok (.iload_n 2, 1) := by decide +kernel
theorem d_Mo_grant_75 : decode b_Mo_grant 75 = .ok (.iconst 3, 1) := by decide +kernel
theorem d_Mo_grant_76 : decode b_Mo_grant 76 = .ok (.if_icmp .ne 12, 3) := by decide +kernel
theorem d_Mo_grant_79 : decode b_Mo_grant 79 = .ok (.aload_n 0, 1) := by decide +kernel
theorem d_Mo_grant_80 : decode b_Mo_grant 80 = .ok (.getfield 44, 3) := by decide +kernel
theorem d_Mo_grant_83 : decode b_Mo_grant 83 = .ok (.iload_n 1, 1) := by decide +kernel
theorem d_Mo_grant_84 : decode b_Mo_grant 84 = .ok (.iaload, 1) := by decide +kernel
theorem d_Mo_grant_85 : decode b_Mo_grant 85 = .ok (.goto 23, 3) := by decide +kernel
theorem d_Mo_grant_88 : decode b_Mo_grant 88 = .ok (.iload_n 2, 1) := by decide +kernel
theorem d_Mo_grant_89 : decode b_Mo_grant 89 = .ok (.iconst 4, 1) := by decide +kernel
theorem d_Mo_grant_90 : decode b_Mo_grant 90 = .ok (.if_icmp .ne 12, 3) := by decide +kernel
theorem d_Mo_grant_93 : decode b_Mo_grant 93 = .ok (.aload_n 0, 1) := by decide +kernel
theorem d_Mo_grant_94 : decode b_Mo_grant 94 = .ok (.getfield 47, 3) := by decide +kernel
theorem d_Mo_grant_97 : decode b_Mo_grant 97 = .ok (.iload_n 1, 1) := by decide +kernel
theorem d_Mo_grant_98 : decode b_Mo_grant 98 = .ok (.iaload, 1) := by decide +kernel
theorem d_Mo_grant_99 : decode b_Mo_grant 99 = .ok (.goto 9, 3) := by decide +kernel
theorem d_Mo_grant_102 : decode b_Mo_grant 102 = .ok (.aload_n 0, 1) := by decide +kernel
theorem d_Mo_grant_103 : decode b_Mo_grant 103 = .ok (.getfield 50, 3) := by decide +kernel
theorem d_Mo_grant_106 : decode b_Mo_grant 106 = .ok (.iload_n 1, 1) := by decide +kernel
theorem d_Mo_grant_107 : decode b_Mo_grant 107 = .ok (.iaload, 1) := by decide +kernel
theorem d_Mo_grant_108 : decode b_Mo_grant 108 = .ok (.ireturn, 1) := by decide +kernel
theorem d_Mo_count_0 : decode b_Mo_count 0 = .ok (.aload_n 0, 1) := by decide +kernel
theorem d_Mo_count_1 : decode b_Mo_count 1 = .ok (.iconst 0, 1) := by decide +kernel
theorem d_Mo_count_2 : decode b_Mo_count 2 = .ok (.putfield 53, 3) := by decide +kernel
theorem d_Mo_count_5 : decode b_Mo_count 5 = .ok (.iload_n 1, 1) := by decide +kernel
theorem d_Mo_count_6 : decode b_Mo_count 6 = .ok (.ifCond .ne 8, 3) := by decide +kernel
theorem d_Mo_count_9 : decode b_Mo_count 9 = .ok (.aload_n 0, 1) := by decide +kernel
theorem d_Mo_count_10 : decode b_Mo_count 10 = .ok (.getfield 57, 3) := by decide +kernel
theorem d_Mo_count_13 : decode b_Mo_count 13 = .ok (.ireturn, 1) := by decide +kernel
theorem d_Mo_count_14 : decode b_Mo_count 14 = .ok (.iload_n 1, 1) := by decide +kernel
theorem d_Mo_count_15 : decode b_Mo_count 15 = .ok (.iconst 1, 1) := by decide +kernel
theorem d_Mo_count_16 : decode b_Mo_count 16 = .ok (.if_icmp .ne 8, 3) := by decide +kernel
theorem d_Mo_count_19 : decode b_Mo_count 19 = .ok (.aload_n 0, 1) := by decide +kernel
theorem d_Mo_count_20 : decode b_Mo_count 20 = .ok (.getfield 64, 3) := by decide +kernel
theorem d_Mo_count_23 : decode b_Mo_count 23 = .ok (.ireturn, 1) := by decide +kernel
theorem d_Mo_count_24 : decode b_Mo_count 24 = .ok (.iload_n 1, 1) := by decide +kernel
theorem d_Mo_count_25 : decode b_Mo_count 25 = .ok (.iconst 2, 1) := by decide +kernel
theorem d_Mo_count_26 : decode b_Mo_count 26 = .ok (.if_icmp .ne 8, 3) := by decide +kernel
theorem d_Mo_count_29 : decode b_Mo_count 29 = .ok (.aload_n 0, 1) := by decide +kernel
theorem d_Mo_count_30 : decode b_Mo_count 30 = .ok (.getfield 67, 3) := by decide +kernel
theorem d_Mo_count_33 : decode b_Mo_count 33 = .ok (.ireturn, 1) := by decide +kernel
theorem d_Mo_count_34 : decode b_Mo_count 34 = .ok (.iload_n 1, 1) := by decide +kernel
theorem d_Mo_count_35 : decode b_Mo_count 35 = .ok (.iconst 4, 1) := by decide +kernel
theorem d_Mo_count_36 : decode b_Mo_count 36 = .ok (.if_icmp .ne 8, 3) := by decide +kernel
theorem d_Mo_count_39 : decode b_Mo_count 39 = .ok (.aload_n 0, 1) := by decide +kernel
theorem d_Mo_count_40 : decode b_Mo_count 40 = .ok (.getfield 78, 3) := by decide +kernel
theorem d_Mo_count_43 : decode b_Mo_count 43 = .ok (.ireturn, 1) := by decide +kernel
theorem d_Mo_count_44 : decode b_Mo_count 44 = .ok (.iconst 0, 1) := by decide +kernel
theorem d_Mo_count_45 : decode b_Mo_count 45 = .ok (.istore_n 2, 1) := by decide +kernel
theorem d_Mo_count_46 : decode b_Mo_count 46 = .ok (.iconst 0, 1) := by decide +kernel
theorem d_Mo_count_47 : decode b_Mo_count 47 = .ok (.istore_n 3, 1) := by decide +kernel
theorem d_Mo_count_48 : decode b_Mo_count 48 = .ok (.iload_n 3, 1) := by decide +kernel
theorem d_Mo_count_49 : decode b_Mo_count 49 = .ok (.aload_n 0, 1) := by decide +kernel
theorem d_Mo_count_50 : decode b_Mo_count 50 = .ok (.getfield 64, 3) := by decide +kernel
theorem d_Mo_count_53 : decode b_Mo_count 53 = .ok (.if_icmp .ge 50, 3) := by decide +kernel
theorem d_Mo_count_56 : decode b_Mo_count 56 = .ok (.iload_n 1, 1) := by decide +kernel
theorem d_Mo_count_57 : decode b_Mo_count 57 = .ok (.iconst 3, 1) := by decide +kernel
theorem d_Mo_count_58 : decode b_Mo_count 58 = .ok (.if_icmp .eq 8, 3) := by decide +kernel
theorem d_Mo_count_61 : decode b_Mo_count 61 = .ok (.iload_n 1, 1) := by decide +kernel
theorem d_Mo_count_62 : decode b_Mo_count 62 = .ok (.iconst 5, 1) := by decide +kernel
theorem d_Mo_count_63 : decode b_Mo_count 63 = .ok (.if_icmp .ne 40, 3) := by decide +kernel
theorem d_Mo_count_66 : decode b_Mo_count 66 = .ok (.iload_n 2, 1) := by decide +kernel
theorem d_Mo_count_67 : decode b_Mo_count 67 = .ok (.iload_n 1, 1) := by decide +kernel
theorem d_Mo_count_68 : decode b_Mo_count 68 = .ok (.iconst 3, 1) := by decide +kernel
theorem d_Mo_count_69 : decode b_Mo_count 69 = .ok (.if_icmp .ne 11, 3) := by decide +kernel
theorem d_Mo_count_72 : decode b_Mo_count 72 = .ok (.aload_n 0, 1) := by decide +kernel
theorem d_Mo_count_73 : decode b_Mo_count 73 = .ok (.iload_n 3, 1) := by decide +kernel
theorem d_Mo_count_74 : decode b_Mo_count 74 = .ok (.invokevirtual 100, 3) := by decide +kernel
theorem d_Mo_count_77 : decode b_Mo_count 77 = .ok (.goto 18, 3) := by decide +kernel
theorem d_Mo_count_80 : decode b_Mo_count 80 = .ok (.aload_n 0, 1) := by decide +kernel
theorem d_Mo_count_81 : decode b_Mo_count 81 = .ok (.getfield 26, 3) := by decide +kernel
theorem d_Mo_count_84 : decode b_Mo_count 84 = .ok (.iload_n 3, 1) := by decide +kernel
theorem d_Mo_count_85 : decode b_Mo_count 85 = .ok (.iaload, 1) := by decide +kernel
theorem d_Mo_count_86 : decode b_Mo_count 86 = .ok (.iconst (-1), 1) := by decide +kernel
theorem d_Mo_count_87 : decode b_Mo_count 87 = .ok (.if_icmp .ne 7, 3) := by decide +kernel
theorem d_Mo_count_90 : decode b_Mo_count 90 = .ok (.iconst 0, 1) := by decide +kernel
theorem d_Mo_count_91 : decode b_Mo_count 91 = .ok (.goto 4, 3) := by decide +kernel
theorem d_Mo_count_94 : decode b_Mo_count 94 = .ok (.iconst 1, 1) := by decide +kernel
theorem d_Mo_count_95 : decode b_Mo_count 95 = .ok (.iadd, 1) := by decide +kernel
theorem d_Mo_count_96 : decode b_Mo_count 96 = .ok (.istore_n 2, 1) := by decide +kernel
theorem d_Mo_count_97 : decode b_Mo_count 97 = .ok (.iinc 3 1, 3) := by decide +kernel
theorem d_Mo_count_100 : decode b_Mo_count 100 = .ok (.goto (-52), 3) := by decide +kernel
theorem d_Mo_count_103 : decode b_Mo_count 103 = .ok (.iconst 1, 1) := by decide +kernel
theorem d_Mo_count_104 : decode b_Mo_count 104 = .ok (.istore_n 3, 1) := by decide +kernel
theorem d_Mo_count_105 : decode b_Mo_count 105 = .ok (.iload_n 3, 1) := by decide +kernel
theorem d_Mo_count_106 : decode b_Mo_count 106 = .ok (.aload_n 0, 1) := by decide +kernel
theorem d_Mo_count_107 : decode b_Mo_count 107 = .ok (.getfield 67, 3) := by decide +kernel
theorem d_Mo_count_110 : decode b_Mo_count 110 = .ok (.if_icmp .gt 67, 3) := by decide +kernel
theorem d_Mo_count_113 : decode b_Mo_count 113 = .ok (.iload_n 1, 1) := by decide +kernel
theorem d_Mo_count_114 : decode b_Mo_count 114 = .ok (.bipush 6, 2) := by decide +kernel
theorem d_Mo_count_116 : decode b_Mo_count 116 = .ok (.if_icmp .ne 61, 3) := by decide +kernel
theorem d_Mo_count_119 : decode b_Mo_count 119 = .ok (.iconst 1, 1) := by decide +kernel
theorem d_Mo_count_120 : decode b_Mo_count 120 = .ok (.istore 4, 2) := by decide +kernel
theorem d_Mo_count_122 : decode b_Mo_count 122 = .ok (.iload 4, 2) := by decide +kernel
theorem d_Mo_count_124 : decode b_Mo_count 124 = .ok (.iload_n 3, 1) := by decide +kernel
theorem d_Mo_count_125 : decode b_Mo_count 125 = .ok (.if_icmp .ge 46, 3) := by decide +kernel
theorem d_Mo_count_128 : decode b_Mo_count 128 = .ok (.iload_n 2, 1) := by decide +kernel
theorem d_Mo_count_129 : decode b_Mo_count 129 = .ok (.aload_n 0, 1) := by decide +kernel
theorem d_Mo_count_130 : decode b_Mo_count 130 = .ok (.getfield 50, 3) := by decide +kernel
theorem d_Mo_count_133 : decode b_Mo_count 133 = .ok (.iload_n 3, 1) := by decide +kernel
theorem d_Mo_count_134 : decode b_Mo_count 134 = .ok (.iaload, 1) := by decide +kernel
theorem d_Mo_count_135 : decode b_Mo_count 135 = .ok (.ifCond .ne 27, 3) := by decide +kernel
theorem d_Mo_count_138 : decode b_Mo_count 138 = .ok (.aload_n 0, 1) := by decide +kernel
theorem d_Mo_count_139 : decode b_Mo_count 139 = .ok (.getfield 50, 3) := by decide +kernel
theorem d_Mo_count_142 : decode b_Mo_count 142 = .ok (.iload 4, 2) := by decide +kernel
theorem d_Mo_count_144 : decode b_Mo_count 144 = .ok (.iaload, 1) := by decide +kernel
theorem d_Mo_count_145 : decode b_Mo_count 145 = .ok (.ifCond .ne 17, 3) := by decide +kernel
theorem d_Mo_count_148 : decode b_Mo_count 148 = .ok (.aload_n 0, 1) := by decide +kernel
theorem d_Mo_count_149 : decode b_Mo_count 149 = .ok (.iload_n 3, 1) := by decide +kernel
theorem d_Mo_count_150 : decode b_Mo_count 150 = .ok (.iload 4, 2) := by decide +kernel
theorem d_Mo_count_152 : decode b_Mo_count 152 = .ok (.invokevirtual 94, 3) := by decide +kernel
theorem d_Mo_count_155 : decode b_Mo_count 155 = .ok (.ifCond .eq 7, 3) := by decide +kernel
theorem d_Mo_count_158 : decode b_Mo_count 158 = .ok (.iconst 1, 1) := by decide +kernel
theorem d_Mo_count_159 : decode b_Mo_count 159 = .ok (.goto 4, 3) := by decide +kernel
theorem d_Mo_count_162 : decode b_Mo_count 162 = .ok (.iconst 0, 1) := by decide +kernel
theorem d_Mo_count_163 : decode b_Mo_count 163 = .ok (.iadd, 1) := by decide +kernel
theorem d_Mo_count_164 : decode b_Mo_count 164 = .ok (.istore_n 2, 1) := by decide +kernel
theorem d_Mo_count_165 : decode b_Mo_count 165 = .ok (.iinc 4 1, 3) := by decide +kernel
theorem d_Mo_count_168 : decode b_Mo_count 168 = .ok (.goto (-46), 3) := by decide +kernel
theorem d_Mo_count_171 : decode b_Mo_count 171 = .ok (.iinc 3 1, 3) := by decide +kernel
theorem d_Mo_count_174 : decode b_Mo_count 174 = .ok (.goto (-69), 3) := by decide +kernel
theorem d_Mo_count_177 : decode b_Mo_count 177 = .ok (.iload_n 1, 1) := by decide +kernel
theorem d_Mo_count_178 : decode b_Mo_count 178 = .ok (.iconst 3, 1) := by decide +kernel
theorem d_Mo_count_179 : decode b_Mo_count 179 = .ok (.if_icmp .eq 14, 3) := by decide +kernel
theorem d_Mo_count_182 : decode b_Mo_count 182 = .ok (.iload_n 1, 1) := by decide +kernel
theorem d_Mo_count_183 : decode b_Mo_count 183 = .ok (.iconst 5, 1) := by decide +kernel
theorem d_Mo_count_184 : decode b_Mo_count 184 = .ok (.if_icmp .eq 9, 3) := by decide +kernel
theorem d_Mo_count_187 : decode b_Mo_count 187 = .ok (.iload_n 1, 1) := by decide +kernel
theorem d_Mo_count_188 : decode b_Mo_count 188 = .ok (.bipush 6, 2) := by decide +kernel
theorem d_Mo_count_190 : decode b_Mo_count 190 = .ok (.if_icmp .ne 7, 3) := by decide +kernel
theorem d_Mo_count_193 : decode b_Mo_count 193 = .ok (.iload_n 2, 1) := by decide +kernel
theorem d_Mo_count_194 : decode b_Mo_count 194 = .ok (.goto 4, 3) := by decide +kernel
theorem d_Mo_count_197 : decode b_Mo_count 197 = .ok (.iconst (-1), 1) := by decide +kernel
theorem d_Mo_count_198 : decode b_Mo_count 198 = .ok (.ireturn, 1) := by decide +kernel
theorem d_RS_init_0 : decode b_RS_init 0 = .ok (.aload_n 0, 1) := by decide +kernel
theorem d_RS_init_1 : decode b_RS_init 1 = .ok (.invokespecial 1, 3) := by decide +kernel
theorem d_RS_init_4 : decode b_RS_init 4 = .ok (.aload_n 0, 1) := by decide +kernel
theorem d_RS_init_5 : decode b_RS_init 5 = .ok (.iconst 0, 1) := by decide +kernel
theorem d_RS_init_6 : decode b_RS_init 6 = .ok (.putfield 7, 3) := by decide +kernel
theorem d_RS_init_9 : decode b_RS_init 9 = .ok (.aload_n 0, 1) := by decide +kernel
theorem d_RS_init_10 : decode b_RS_init 10 = .ok (.iconst 0, 1) := by decide +kernel
theorem d_RS_init_11 : decode b_RS_init 11 = .ok (.putfield 13, 3) := by decide +kernel
theorem d_RS_init_14 : decode b_RS_init 14 = .ok (.aload_n 0, 1) := by decide +kernel
theorem d_RS_init_15 : decode b_RS_init 15 = .ok (.bipush 16, 2) := by decide +kernel
theorem d_RS_init_17 : decode b_RS_init 17 = .ok (.newarray .int, 2) := by decide +kernel
theorem d_RS_init_19 : decode b_RS_init 19 = .ok (.putfield 16, 3) := by decide +kernel
theorem d_RS_init_22 : decode b_RS_init 22 = .ok (.aload_n 0, 1) := by decide +kernel
theorem d_RS_init_23 : decode b_RS_init 23 = .ok (.bipush 16, 2) := by decide +kernel
theorem d_RS_init_25 : decode b_RS_init 25 = .ok (.newarray .boolean, 2) := by decide +kernel
theorem d_RS_init_27 : decode b_RS_init 27 = .ok (.putfield 20, 3) := by decide +kernel
theorem d_RS_init_30 : decode b_RS_init 30 = .ok (.aload_n 0, 1) := by decide +kernel
theorem d_RS_init_31 : decode b_RS_init 31 = .ok (.new 24, 3) := by decide +kernel
theorem d_RS_init_34 : decode b_RS_init 34 = .ok (.dup, 1) := by decide +kernel
theorem d_RS_init_35 : decode b_RS_init 35 = .ok (.invokespecial 26, 3) := by decide +kernel
theorem d_RS_init_38 : decode b_RS_init 38 = .ok (.putfield 27, 3) := by decide +kernel
theorem d_RS_init_41 : decode b_RS_init 41 = .ok (.aload_n 0, 1) := by decide +kernel
theorem d_RS_init_42 : decode b_RS_init 42 = .ok (.new 31, 3) := by decide +kernel
theorem d_RS_init_45 : decode b_RS_init 45 = .ok (.dup, 1) := by decide +kernel
theorem d_RS_init_46 : decode b_RS_init 46 = .ok (.invokespecial 33, 3) := by decide +kernel
theorem d_RS_init_49 : decode b_RS_init 49 = .ok (.putfield 34, 3) := by decide +kernel
theorem d_RS_init_52 : decode b_RS_init 52 = .ok (.return_, 1) := by decide +kernel
theorem d_Rb_init_0 : decode b_Rb_init 0 = .ok (.aload_n 0, 1) := by decide +kernel
theorem d_Rb_init_1 : decode b_Rb_init 1 = .ok (.invokespecial 3, 3) := by decide +kernel
theorem d_Rb_init_4 : decode b_Rb_init 4 = .ok (.aload_n 0, 1) := by decide +kernel
theorem d_Rb_init_5 : decode b_Rb_init 5 = .ok (.iconst 0, 1) := by decide +kernel
theorem d_Rb_init_6 : decode b_Rb_init 6 = .ok (.putfield 9, 3) := by decide +kernel
theorem d_Rb_init_9 : decode b_Rb_init 9 = .ok (.aload_n 0, 1) := by decide +kernel
theorem d_Rb_init_10 : decode b_Rb_init 10 = .ok (.bipush 6, 2) := by decide +kernel
theorem d_Rb_init_12 : decode b_Rb_init 12 = .ok (.newarray .int, 2) := by decide +kernel
theorem d_Rb_init_14 : decode b_Rb_init 14 = .ok (.putfield 15, 3) := by decide +kernel
theorem d_Rb_init_17 : decode b_Rb_init 17 = .ok (.aload_n 0, 1) := by decide +kernel
theorem d_Rb_init_18 : decode b_Rb_init 18 = .ok (.bipush 6, 2) := by decide +kernel
theorem d_Rb_init_20 : decode b_Rb_init 20 = .ok (.newarray .boolean, 2) := by decide +kernel
theorem d_Rb_init_22 : decode b_Rb_init 22 = .ok (.putfield 19, 3) := by decide +kernel
theorem d_Rb_init_25 : decode b_Rb_init 25 = .ok (.aload_n 0, 1) := by decide +kernel
theorem d_Rb_init_26 : decode b_Rb_init 26 = .ok (.bipush 6, 2) := by decide +kernel
theorem d_Rb_init_28 : decode b_Rb_init 28 = .ok (.newarray .int, 2) := by decide +kernel
theorem d_Rb_init_30 : decode b_Rb_init 30 = .ok (.putfield 23, 3) := by decide +kernel
theorem d_Rb_init_33 : decode b_Rb_init 33 = .ok (.aload_n 0, 1) := by decide +kernel
theorem d_Rb_init_34 : decode b_Rb_init 34 = .ok (.bipush 6, 2) := by decide +kernel
theorem d_Rb_init_36 : decode b_Rb_init 36 = .ok (.newarray .int, 2) := by decide +kernel
theorem d_Rb_init_38 : decode b_Rb_init 38 = .ok (.putfield 26, 3) := by decide +kernel
theorem d_Rb_init_41 : decode b_Rb_init 41 = .ok (.aload_n 0, 1) := by decide +kernel
theorem d_Rb_init_42 : decode b_Rb_init 42 = .ok (.bipush 6, 2) := by decide +kernel
theorem d_Rb_init_44 : decode b_Rb_init 44 = .ok (.newarray .boolean, 2) := by decide +kernel
theorem d_Rb_init_46 : decode b_Rb_init 46 = .ok (.putfield 29, 3) := by decide +kernel
theorem d_Rb_init_49 : decode b_Rb_init 49 = .ok (.aload_n 0, 1) := by decide +kernel
theorem d_Rb_init_50 : decode b_Rb_init 50 = .ok (.bipush 6, 2) := by decide +kernel
theorem d_Rb_init_52 : decode b_Rb_init 52 = .ok (.newarray .int, 2) := by decide +kernel
theorem d_Rb_init_54 : decode b_Rb_init 54 = .ok (.putfield 32, 3) := by decide +kernel
theorem d_Rb_init_57 : decode b_Rb_init 57 = .ok (.return_, 1) := by decide +kernel
theorem d_Gr_init_0 : decode b_Gr_init 0 = .ok (.aload_n 0, 1) := by decide +kernel
theorem d_Gr_init_1 : decode b_Gr_init 1 = .ok (.invokespecial 3, 3) := by decide +kernel
theorem d_Gr_init_4 : decode b_Gr_init 4 = .ok (.aload_n 0, 1) := by decide +kernel
theorem d_Gr_init_5 : decode b_Gr_init 5 = .ok (.iconst 0, 1) := by decide +kernel
theorem d_Gr_init_6 : decode b_Gr_init 6 = .ok (.putfield 9, 3) := by decide +kernel
theorem d_Gr_init_9 : decode b_Gr_init 9 = .ok (.aload_n 0, 1) := by decide +kernel
theorem d_Gr_init_10 : decode b_Gr_init 10 = .ok (.bipush 61, 2) := by decide +kernel
theorem d_Gr_init_12 : decode b_Gr_init 12 = .ok (.newarray .int, 2) := by decide +kernel
theorem d_Gr_init_14 : decode b_Gr_init 14 = .ok (.putfield 15, 3) := by decide +kernel
theorem d_Gr_init_17 : decode b_Gr_init 17 = .ok (.aload_n 0, 1) := by decide +kernel
theorem d_Gr_init_18 : decode b_Gr_init 18 = .ok (.bipush 61, 2) := by decide +kernel
theorem d_Gr_init_20 : decode b_Gr_init 20 = .ok (.newarray .int, 2) := by decide +kernel
theorem d_Gr_init_22 : decode b_Gr_init 22 = .ok (.putfield 19, 3) := by decide +kernel
theorem d_Gr_init_25 : decode b_Gr_init 25 = .ok (.aload_n 0, 1) := by decide +kernel
theorem d_Gr_init_26 : decode b_Gr_init 26 = .ok (.bipush 61, 2) := by decide +kernel
theorem d_Gr_init_28 : decode b_Gr_init 28 = .ok (.newarray .int, 2) := by decide +kernel
theorem d_Gr_init_30 : decode b_Gr_init 30 = .ok (.putfield 22, 3) := by decide +kernel
theorem d_Gr_init_33 : decode b_Gr_init 33 = .ok (.aload_n 0, 1) := by decide +kernel
theorem d_Gr_init_34 : decode b_Gr_init 34 = .ok (.bipush 61, 2) := by decide +kernel
theorem d_Gr_init_36 : decode b_Gr_init 36 = .ok (.newarray .int, 2) := by decide +kernel
theorem d_Gr_init_38 : decode b_Gr_init 38 = .ok (.putfield 25, 3) := by decide +kernel
theorem d_Gr_init_41 : decode b_Gr_init 41 = .ok (.aload_n 0, 1) := by decide +kernel
theorem d_Gr_init_42 : decode b_Gr_init 42 = .ok (.bipush 61, 2) := by decide +kernel
theorem d_Gr_init_44 : decode b_Gr_init 44 = .ok (.newarray .int, 2) := by decide +kernel
theorem d_Gr_init_46 : decode b_Gr_init 46 = .ok (.putfield 28, 3) := by decide +kernel
theorem d_Gr_init_49 : decode b_Gr_init 49 = .ok (.aload_n 0, 1) := by decide +kernel
theorem d_Gr_init_50 : decode b_Gr_init 50 = .ok (.bipush 61, 2) := by decide +kernel
theorem d_Gr_init_52 : decode b_Gr_init 52 = .ok (.newarray .int, 2) := by decide +kernel
theorem d_Gr_init_54 : decode b_Gr_init 54 = .ok (.putfield 31, 3) := by decide +kernel
theorem d_Gr_init_57 : decode b_Gr_init 57 = .ok (.return_, 1) := by decide +kernel
theorem d_Mo_init_0 : decode b_Mo_init 0 = .ok (.aload_n 0, 1) := by decide +kernel
theorem d_Mo_init_1 : decode b_Mo_init 1 = .ok (.invokespecial 1, 3) := by decide +kernel
theorem d_Mo_init_4 : decode b_Mo_init 4 = .ok (.aload_n 0, 1) := by decide +kernel
theorem d_Mo_init_5 : decode b_Mo_init 5 = .ok (.bipush 16, 2) := by decide +kernel
theorem d_Mo_init_7 : decode b_Mo_init 7 = .ok (.newarray .boolean, 2) := by decide +kernel
theorem d_Mo_init_9 : decode b_Mo_init 9 = .ok (.putfield 7, 3) := by decide +kernel
theorem d_Mo_init_12 : decode b_Mo_init 12 = .ok (.aload_n 0, 1) := by decide +kernel
theorem d_Mo_init_13 : decode b_Mo_init 13 = .ok (.sipush 256, 3) := by decide +kernel
theorem d_Mo_init_16 : decode b_Mo_init 16 = .ok (.newarray .boolean, 2) := by decide +kernel
theorem d_Mo_init_18 : decode b_Mo_init 18 = .ok (.putfield 13, 3) := by decide +kernel
theorem d_Mo_init_21 : decode b_Mo_init 21 = .ok (.aload_n 0, 1) := by decide +kernel
theorem d_Mo_init_22 : decode b_Mo_init 22 = .ok (.bipush 6, 2) := by decide +kernel
theorem d_Mo_init_24 : decode b_Mo_init 24 = .ok (.newarray .int, 2) := by decide +kernel
theorem d_Mo_init_26 : decode b_Mo_init 26 = .ok (.putfield 16, 3) := by decide +kernel
theorem d_Mo_init_29 : decode b_Mo_init 29 = .ok (.aload_n 0, 1) := by decide +kernel
theorem d_Mo_init_30 : decode b_Mo_init 30 = .ok (.bipush 6, 2) := by decide +kernel
theorem d_Mo_init_32 : decode b_Mo_init 32 = .ok (.newarray .boolean, 2) := by decide +kernel
theorem d_Mo_init_34 : decode b_Mo_init 34 = .ok (.putfield 20, 3) := by decide +kernel
theorem d_Mo_init_37 : decode b_Mo_init 37 = .ok (.aload_n 0, 1) := by decide +kernel
theorem d_Mo_init_38 : decode b_Mo_init 38 = .ok (.bipush 6, 2) := by decide +kernel
theorem d_Mo_init_40 : decode b_Mo_init 40 = .ok (.newarray .int, 2) := by decide +kernel
theorem d_Mo_init_42 : decode b_Mo_init 42 = .ok (.putfield 23, 3) := by decide +kernel
theorem d_Mo_init_45 : decode b_Mo_init 45 = .ok (.aload_n 0, 1) := by decide +kernel
theorem d_Mo_init_46 : decode b_Mo_init 46 = .ok (.bipush 6, 2) := by decide +kernel
theorem d_Mo_init_48 : decode b_Mo_init 48 = .ok (.newarray .int, 2) := by decide +kernel
theorem d_Mo_init_50 : decode b_Mo_init 50 = .ok (.putfield 26, 3) := by decide +kernel
theorem d_Mo_init_53 : decode b_Mo_init 53 = .ok (.aload_n 0, 1) := by decide +kernel
theorem d_Mo_init_54 : decode b_Mo_init 54 = .ok (.bipush 6, 2) := by decide +kernel
theorem d_Mo_init_56 : decode b_Mo_init 56 = .ok (.newarray .int, 2) := by decide +kernel
theorem d_Mo_init_58 : decode b_Mo_init 58 = .ok (.putfield 29, 3) := by decide +kernel
theorem d_Mo_init_61 : decode b_Mo_init 61 = .ok (.aload_n 0, 1) := by decide +kernel
theorem d_Mo_init_62 : decode b_Mo_init 62 = .ok (.bipush 6, 2) := by decide +kernel
theorem d_Mo_init_64 : decode b_Mo_init 64 = .ok (.newarray .boolean, 2) := by decide +kernel
theorem d_Mo_init_66 : decode b_Mo_init 66 = .ok (.putfield 32, 3) := by decide +kernel
theorem d_Mo_init_69 : decode b_Mo_init 69 = .ok (.aload_n 0, 1) := by decide +kernel
theorem d_Mo_init_70 : decode b_Mo_init 70 = .ok (.bipush 61, 2) := by decide +kernel
theorem d_Mo_init_72 : decode b_Mo_init 72 = .ok (.newarray .int, 2) := by decide +kernel
theorem d_Mo_init_74 : decode b_Mo_init 74 = .ok (.putfield 35, 3) := by decide +kernel
theorem d_Mo_init_77 : decode b_Mo_init 77 = .ok (.aload_n 0, 1) := by decide +kernel
theorem d_Mo_init_78 : decode b_Mo_init 78 = .ok (.bipush 61, 2) := by decide +kernel
theorem d_Mo_init_80 : decode b_Mo_init 80 = .ok (.newarray .int, 2) := by decide +kernel
theorem d_Mo_init_82 : decode b_Mo_init 82 = .ok (.putfield 38, 3) := by decide +kernel
theorem d_Mo_init_85 : decode b_Mo_init 85 = .ok (.aload_n 0, 1) := by decide +kernel
theorem d_Mo_init_86 : decode b_Mo_init 86 = .ok (.bipush 61, 2) := by decide +kernel
theorem d_Mo_init_88 : decode b_Mo_init 88 = .ok (.newarray .int, 2) := by decide +kernel
theorem d_Mo_init_90 : decode b_Mo_init 90 = .ok (.putfield 41, 3) := by decide +kernel
theorem d_Mo_init_93 : decode b_Mo_init 93 = .ok (.aload_n 0, 1) := by decide +kernel
theorem d_Mo_init_94 : decode b_Mo_init 94 = .ok (.bipush 61, 2) := by decide +kernel
theorem d_Mo_init_96 : decode b_Mo_init 96 = .ok (.newarray .int, 2) := by decide +kernel
theorem d_Mo_init_98 : decode b_Mo_init 98 = .ok (.putfield 44, 3) := by decide +kernel
