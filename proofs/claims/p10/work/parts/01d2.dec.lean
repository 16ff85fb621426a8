theorem d_RS_told_5 : decode b_RS_told 5 = .ok (.iload_n 2, 1) := by decide +kernel
theorem d_RS_told_6 : decode b_RS_told 6 = .ok (.tableswitch 130 0 6 #[42, 52, 62, 72, 81, 99, 120], 42) := by decide +kernel
theorem d_RS_told_48 : decode b_RS_told 48 = .ok (.aload_n 0, 1) := by decide +kernel
theorem d_RS_told_49 : decode b_RS_told 49 = .ok (.getfield 27, 3) := by decide +kernel
theorem d_RS_told_52 : decode b_RS_told 52 = .ok (.getfield 131, 3) := by decide +kernel
theorem d_RS_told_55 : decode b_RS_told 55 = .ok (.iload_n 1, 1) := by decide +kernel
theorem d_RS_told_56 : decode b_RS_told 56 = .ok (.iaload, 1) := by decide +kernel
theorem d_RS_told_57 : decode b_RS_told 57 = .ok (.ireturn, 1) := by decide +kernel
theorem d_RS_told_58 : decode b_RS_told 58 = .ok (.aload_n 0, 1) := by decide +kernel
theorem d_RS_told_59 : decode b_RS_told 59 = .ok (.getfield 27, 3) := by decide +kernel
theorem d_RS_told_62 : decode b_RS_told 62 = .ok (.getfield 146, 3) := by decide +kernel
theorem d_RS_told_65 : decode b_RS_told 65 = .ok (.iload_n 1, 1) := by decide +kernel
theorem d_RS_told_66 : decode b_RS_told 66 = .ok (.iaload, 1) := by decide +kernel
theorem d_RS_told_67 : decode b_RS_told 67 = .ok (.ireturn, 1) := by decide +kernel
theorem d_RS_told_68 : decode b_RS_told 68 = .ok (.aload_n 0, 1) := by decide +kernel
theorem d_RS_told_69 : decode b_RS_told 69 = .ok (.getfield 27, 3) := by decide +kernel
theorem d_RS_told_72 : decode b_RS_told 72 = .ok (.getfield 157, 3) := by decide +kernel
theorem d_RS_told_75 : decode b_RS_told 75 = .ok (.iload_n 1, 1) := by decide +kernel
theorem d_RS_told_76 : decode b_RS_told 76 = .ok (.iaload, 1) := by decide +kernel
theorem d_RS_told_77 : decode b_RS_told 77 = .ok (.ireturn, 1) := by decide +kernel
theorem d_RS_told_78 : decode b_RS_told 78 = .ok (.aload_n 0, 1) := by decide +kernel
theorem d_RS_told_79 : decode b_RS_told 79 = .ok (.getfield 34, 3) := by decide +kernel
theorem d_RS_told_82 : decode b_RS_told 82 = .ok (.iload_n 1, 1) := by decide +kernel
theorem d_RS_told_83 : decode b_RS_told 83 = .ok (.invokevirtual 125, 3) := by decide +kernel
theorem d_RS_told_86 : decode b_RS_told 86 = .ok (.ireturn, 1) := by decide +kernel
theorem d_RS_told_87 : decode b_RS_told 87 = .ok (.aload_n 0, 1) := by decide +kernel
theorem d_RS_told_88 : decode b_RS_told 88 = .ok (.getfield 27, 3) := by decide +kernel
theorem d_RS_told_91 : decode b_RS_told 91 = .ok (.getfield 168, 3) := by decide +kernel
theorem d_RS_told_94 : decode b_RS_told 94 = .ok (.iload_n 1, 1) := by decide +kernel
theorem d_RS_told_95 : decode b_RS_told 95 = .ok (.baload, 1) := by decide +kernel
theorem d_RS_told_96 : decode b_RS_told 96 = .ok (.ifCond .eq 7, 3) := by decide +kernel
theorem d_RS_told_99 : decode b_RS_told 99 = .ok (.iconst 1, 1) := by decide +kernel
theorem d_RS_told_100 : decode b_RS_told 100 = .ok (.goto 4, 3) := by decide +kernel
theorem d_RS_told_103 : decode b_RS_told 103 = .ok (.iconst 0, 1) := by decide +kernel
theorem d_RS_told_104 : decode b_RS_told 104 = .ok (.ireturn, 1) := by decide +kernel
theorem d_RS_told_105 : decode b_RS_told 105 = .ok (.aload_n 0, 1) := by decide +kernel
theorem d_RS_told_106 : decode b_RS_told 106 = .ok (.getfield 27, 3) := by decide +kernel
theorem d_RS_told_109 : decode b_RS_told 109 = .ok (.iload_n 1, 1) := by decide +kernel
theorem d_RS_told_110 : decode b_RS_told 110 = .ok (.aload_n 0, 1) := by decide +kernel
theorem d_RS_told_111 : decode b_RS_told 111 = .ok (.getfield 7, 3) := by decide +kernel
theorem d_RS_told_114 : decode b_RS_told 114 = .ok (.invokevirtual 176, 3) := by decide +kernel
theorem d_RS_told_117 : decode b_RS_told 117 = .ok (.ifCond .eq 7, 3) := by decide +kernel
theorem d_RS_told_120 : decode b_RS_told 120 = .ok (.iconst 1, 1) := by decide +kernel
theorem d_RS_told_121 : decode b_RS_told 121 = .ok (.goto 4, 3) := by decide +kernel
theorem d_RS_told_124 : decode b_RS_told 124 = .ok (.iconst 0, 1) := by decide +kernel
theorem d_RS_told_125 : decode b_RS_told 125 = .ok (.ireturn, 1) := by decide +kernel
theorem d_RS_told_126 : decode b_RS_told 126 = .ok (.aload_n 0, 1) := by decide +kernel
theorem d_RS_told_127 : decode b_RS_told 127 = .ok (.getfield 27, 3) := by decide +kernel
theorem d_RS_told_130 : decode b_RS_told 130 = .ok (.getfield 93, 3) := by decide +kernel
theorem d_RS_told_133 : decode b_RS_told 133 = .ok (.iload_n 1, 1) := by decide +kernel
theorem d_RS_told_134 : decode b_RS_told 134 = .ok (.iaload, 1) := by decide +kernel
theorem d_RS_told_135 : decode b_RS_told 135 = .ok (.ireturn, 1) := by decide +kernel
theorem d_RS_told_136 : decode b_RS_told 136 = .ok (.new 49, 3) := by decide +kernel
theorem d_RS_told_139 : decode b_RS_told 139 = .ok (.dup, 1) := by decide +kernel
theorem d_RS_told_140 : decode b_RS_told 140 = .ok (.ldc 189, 2) := by decide +kernel
theorem d_RS_told_142 : decode b_RS_told 142 = .ok (.invokespecial 53, 3) := by decide +kernel
theorem d_RS_told_145 : decode b_RS_told 145 = .ok (.athrow, 1) := by decide +kernel
theorem d_RS_grant_0 : decode b_RS_grant 0 = .ok (.aload_n 0, 1) := by decide +kernel
theorem d_RS_grant_1 : decode b_RS_grant 1 = .ok (.iload_n 1, 1) := by decide +kernel
theorem d_RS_grant_2 : decode b_RS_grant 2 = .ok (.invokevirtual 110, 3) := by decide +kernel
theorem d_RS_grant_5 : decode b_RS_grant 5 = .ok (.iload_n 2, 1) := by decide +kernel
theorem d_RS_grant_6 : decode b_RS_grant 6 = .ok (.tableswitch 98 0 5 #[38, 48, 58, 68, 78, 88], 38) := by decide +kernel
theorem d_RS_grant_44 : decode b_RS_grant 44 = .ok (.aload_n 0, 1) := by decide +kernel
theorem d_RS_grant_45 : decode b_RS_grant 45 = .ok (.getfield 34, 3) := by decide +kernel
theorem d_RS_grant_48 : decode b_RS_grant 48 = .ok (.getfield 122, 3) := by decide +kernel
theorem d_RS_grant_51 : decode b_RS_grant 51 = .ok (.iload_n 1, 1) := by decide +kernel
theorem d_RS_grant_52 : decode b_RS_grant 52 = .ok (.iaload, 1) := by decide +kernel
theorem d_RS_grant_53 : decode b_RS_grant 53 = .ok (.ireturn, 1) := by decide +kernel
theorem d_RS_grant_54 : decode b_RS_grant 54 = .ok (.aload_n 0, 1) := by decide +kernel
theorem d_RS_grant_55 : decode b_RS_grant 55 = .ok (.getfield 34, 3) := by decide +kernel
theorem d_RS_grant_58 : decode b_RS_grant 58 = .ok (.getfield 191, 3) := by decide +kernel
theorem d_RS_grant_61 : decode b_RS_grant 61 = .ok (.iload_n 1, 1) := by decide +kernel
theorem d_RS_grant_62 : decode b_RS_grant 62 = .ok (.iaload, 1) := by decide +kernel
theorem d_RS_grant_63 : decode b_RS_grant 63 = .ok (.ireturn, 1) := by decide +kernel
theorem d_RS_grant_64 : decode b_RS_grant 64 = .ok (.aload_n 0, 1) := by decide +kernel
theorem d_RS_grant_65 : decode b_RS_grant 65 = .ok (.getfield 34, 3) := by decide +kernel
theorem d_RS_grant_68 : decode b_RS_grant 68 = .ok (.getfield 192, 3) := by decide +kernel
theorem d_RS_grant_71 : decode b_RS_grant 71 = .ok (.iload_n 1, 1) := by decide +kernel
theorem d_RS_grant_72 : decode b_RS_grant 72 = .ok (.iaload, 1) := by decide +kernel
theorem d_RS_grant_73 : decode b_RS_grant 73 = .ok (.ireturn, 1) := by decide +kernel
theorem d_RS_grant_74 : decode b_RS_grant 74 = .ok (.aload_n 0, 1) := by decide +kernel
theorem d_RS_grant_75 : decode b_RS_grant 75 = .ok (.getfield 34, 3) := by decide +kernel
theorem d_RS_grant_78 : decode b_RS_grant 78 = .ok (.getfield 195, 3) := by decide +kernel
theorem d_RS_grant_81 : decode b_RS_grant 81 = .ok (.iload_n 1, 1) := by decide +kernel
theorem d_RS_grant_82 : decode b_RS_grant 82 = .ok (.iaload, 1) := by decide +kernel
theorem d_RS_grant_83 : decode b_RS_grant 83 = .ok (.ireturn, 1) := by decide +kernel
theorem d_RS_grant_84 : decode b_RS_grant 84 = .ok (.aload_n 0, 1) := by decide +kernel
theorem d_RS_grant_85 : decode b_RS_grant 85 = .ok (.getfield 34, 3) := by decide +kernel
theorem d_RS_grant_88 : decode b_RS_grant 88 = .ok (.getfield 198, 3) := by decide +kernel
theorem d_RS_grant_91 : decode b_RS_grant 91 = .ok (.iload_n 1, 1) := by decide +kernel
theorem d_RS_grant_92 : decode b_RS_grant 92 = .ok (.iaload, 1) := by decide +kernel
theorem d_RS_grant_93 : decode b_RS_grant 93 = .ok (.ireturn, 1) := by decide +kernel
theorem d_RS_grant_94 : decode b_RS_grant 94 = .ok (.aload_n 0, 1) := by decide +kernel
theorem d_RS_grant_95 : decode b_RS_grant 95 = .ok (.getfield 34, 3) := by decide +kernel
theorem d_RS_grant_98 : decode b_RS_grant 98 = .ok (.getfield 119, 3) := by decide +kernel
theorem d_RS_grant_101 : decode b_RS_grant 101 = .ok (.iload_n 1, 1) := by decide +kernel
theorem d_RS_grant_102 : decode b_RS_grant 102 = .ok (.iaload, 1) := by decide +kernel
theorem d_RS_grant_103 : decode b_RS_grant 103 = .ok (.ireturn, 1) := by decide +kernel
theorem d_RS_grant_104 : decode b_RS_grant 104 = .ok (.new 49, 3) := by decide +kernel
theorem d_RS_grant_107 : decode b_RS_grant 107 = .ok (.dup, 1) := by decide +kernel
theorem d_RS_grant_108 : decode b_RS_grant 108 = .ok (.ldc 201, 2) := by decide +kernel
theorem d_RS_grant_110 : decode b_RS_grant 110 = .ok (.invokespecial 53, 3) := by decide +kernel
theorem d_RS_grant_113 : decode b_RS_grant 113 = .ok (.athrow, 1) := by decide +kernel
theorem d_Gr_allLive_0 : decode b_Gr_allLive 0 = .ok (.iconst 0, 1) := by decide +kernel
theorem d_Gr_allLive_1 : decode b_Gr_allLive 1 = .ok (.istore_n 1, 1) := by decide +kernel
theorem d_Gr_allLive_2 : decode b_Gr_allLive 2 = .ok (.iconst 1, 1) := by decide +kernel
theorem d_Gr_allLive_3 : decode b_Gr_allLive 3 = .ok (.istore_n 2, 1) := by decide +kernel
theorem d_Gr_allLive_4 : decode b_Gr_allLive 4 = .ok (.iload_n 2, 1) := by decide +kernel
theorem d_Gr_allLive_5 : decode b_Gr_allLive 5 = .ok (.aload_n 0, 1) := by decide +kernel
theorem d_Gr_allLive_6 : decode b_Gr_allLive 6 = .ok (.getfield 9, 3) := by decide +kernel
theorem d_Gr_allLive_9 : decode b_Gr_allLive 9 = .ok (.if_icmp .gt 20, 3) := by decide +kernel
theorem d_Gr_allLive_12 : decode b_Gr_allLive 12 = .ok (.aload_n 0, 1) := by decide +kernel
theorem d_Gr_allLive_13 : decode b_Gr_allLive 13 = .ok (.iload_n 2, 1) := by decide +kernel
theorem d_Gr_allLive_14 : decode b_Gr_allLive 14 = .ok (.invokevirtual 34, 3) := by decide +kernel
theorem d_Gr_allLive_17 : decode b_Gr_allLive 17 = .ok (.ifCond .eq 6, 3) := by decide +kernel
theorem d_Gr_allLive_20 : decode b_Gr_allLive 20 = .ok (.iinc 1 1, 3) := by decide +kernel
theorem d_Gr_allLive_23 : decode b_Gr_allLive 23 = .ok (.iinc 2 1, 3) := by decide +kernel
theorem d_Gr_allLive_26 : decode b_Gr_allLive 26 = .ok (.goto (-22), 3) := by decide +kernel
theorem d_Gr_allLive_29 : decode b_Gr_allLive 29 = .ok (.iload_n 1, 1) := by decide +kernel
theorem d_Gr_allLive_30 : decode b_Gr_allLive 30 = .ok (.ireturn, 1) := by decide +kernel
theorem d_Rb_allWaiting_0 : decode b_Rb_allWaiting 0 = .ok (.iconst 0, 1) := by decide +kernel
theorem d_Rb_allWaiting_1 : decode b_Rb_allWaiting 1 = .ok (.istore_n 1, 1) := by decide +kernel
theorem d_Rb_allWaiting_2 : decode b_Rb_allWaiting 2 = .ok (.iconst 0, 1) := by decide +kernel
theorem d_Rb_allWaiting_3 : decode b_Rb_allWaiting 3 = .ok (.istore_n 2, 1) := by decide +kernel
theorem d_Rb_allWaiting_4 : decode b_Rb_allWaiting 4 = .ok (.iload_n 2, 1) := by decide +kernel
theorem d_Rb_allWaiting_5 : decode b_Rb_allWaiting 5 = .ok (.aload_n 0, 1) := by decide +kernel
theorem d_Rb_allWaiting_6 : decode b_Rb_allWaiting 6 = .ok (.getfield 9, 3) := by decide +kernel
theorem d_Rb_allWaiting_9 : decode b_Rb_allWaiting 9 = .ok (.if_icmp .ge 22, 3) := by decide +kernel
theorem d_Rb_allWaiting_12 : decode b_Rb_allWaiting 12 = .ok (.aload_n 0, 1) := by decide +kernel
theorem d_Rb_allWaiting_13 : decode b_Rb_allWaiting 13 = .ok (.getfield 26, 3) := by decide +kernel
theorem d_Rb_allWaiting_16 : decode b_Rb_allWaiting 16 = .ok (.iload_n 2, 1) := by decide +kernel
theorem d_Rb_allWaiting_17 : decode b_Rb_allWaiting 17 = .ok (.iaload, 1) := by decide +kernel
theorem d_Rb_allWaiting_18 : decode b_Rb_allWaiting 18 = .ok (.iconst (-1), 1) := by decide +kernel
theorem d_Rb_allWaiting_19 : decode b_Rb_allWaiting 19 = .ok (.if_icmp .eq 6, 3) := by decide +kernel
theorem d_Rb_allWaiting_22 : decode b_Rb_allWaiting 22 = .ok (.iinc 1 1, 3) := by decide +kernel
theorem d_Rb_allWaiting_25 : decode b_Rb_allWaiting 25 = .ok (.iinc 2 1, 3) := by decide +kernel
theorem d_Rb_allWaiting_28 : decode b_Rb_allWaiting 28 = .ok (.goto (-24), 3) := by decide +kernel
theorem d_Rb_allWaiting_31 : decode b_Rb_allWaiting 31 = .ok (.iload_n 1, 1) := by decide +kernel
theorem d_Rb_allWaiting_32 : decode b_Rb_allWaiting 32 = .ok (.ireturn, 1) := by decide +kernel
theorem d_Gr_livePairsMeeting_0 : decode b_Gr_livePairsMeeting 0 = .ok (.iconst 0, 1) := by decide +kernel
theorem d_Gr_livePairsMeeting_1 : decode b_Gr_livePairsMeeting 1 = .ok (.istore_n 1, 1) := by decide +kernel
theorem d_Gr_livePairsMeeting_2 : decode b_Gr_livePairsMeeting 2 = .ok (.iconst 1, 1) := by decide +kernel
theorem d_Gr_livePairsMeeting_3 : decode b_Gr_livePairsMeeting 3 = .ok (.istore_n 2, 1) := by decide +kernel
theorem d_Gr_livePairsMeeting_4 : decode b_Gr_livePairsMeeting 4 = .ok (.iload_n 2, 1) := by decide +kernel
theorem d_Gr_livePairsMeeting_5 : decode b_Gr_livePairsMeeting 5 = .ok (.aload_n 0, 1) := by decide +kernel
theorem d_Gr_livePairsMeeting_6 : decode b_Gr_livePairsMeeting 6 = .ok (.getfield 9, 3) := by decide +kernel
theorem d_Gr_livePairsMeeting_9 : decode b_Gr_livePairsMeeting 9 = .ok (.if_icmp .gt 55, 3) := by decide +kernel
theorem d_Gr_livePairsMeeting_12 : decode b_Gr_livePairsMeeting 12 = .ok (.iload_n 2, 1) := by decide +kernel
theorem d_Gr_livePairsMeeting_13 : decode b_Gr_livePairsMeeting 13 = .ok (.iconst 1, 1) := by decide +kernel
theorem d_Gr_livePairsMeeting_14 : decode b_Gr_livePairsMeeting 14 = .ok (.iadd, 1) := by decide +kernel
theorem d_Gr_livePairsMeeting_15 : decode b_Gr_livePairsMeeting 15 = .ok (.istore_n 3, 1) := by decide +kernel
theorem d_Gr_livePairsMeeting_16 : decode b_Gr_livePairsMeeting 16 = .ok (.iload_n 3, 1) := by decide +kernel
theorem d_Gr_livePairsMeeting_17 : decode b_Gr_livePairsMeeting 17 = .ok (.aload_n 0, 1) := by decide +kernel
theorem d_Gr_livePairsMeeting_18 : decode b_Gr_livePairsMeeting 18 = .ok (.getfield 9, 3) := by decide +kernel
theorem d_Gr_livePairsMeeting_21 : decode b_Gr_livePairsMeeting 21 = .ok (.if_icmp .gt 37, 3) := by decide +kernel
theorem d_Gr_livePairsMeeting_24 : decode b_Gr_livePairsMeeting 24 = .ok (.aload_n 0, 1) := by decide +kernel
theorem d_Gr_livePairsMeeting_25 : decode b_Gr_livePairsMeeting 25 = .ok (.iload_n 2, 1) := by decide +kernel
theorem d_Gr_livePairsMeeting_26 : decode b_Gr_livePairsMeeting 26 = .ok (.invokevirtual 34, 3) := by decide +kernel
theorem d_Gr_livePairsMeeting_29 : decode b_Gr_livePairsMeeting 29 = .ok (.ifCond .eq 23, 3) := by decide +kernel
theorem d_Gr_livePairsMeeting_32 : decode b_Gr_livePairsMeeting 32 = .ok (.aload_n 0, 1) := by decide +kernel
theorem d_Gr_livePairsMeeting_33 : decode b_Gr_livePairsMeeting 33 = .ok (.iload_n 3, 1) := by decide +kernel
theorem d_Gr_livePairsMeeting_34 : decode b_Gr_livePairsMeeting 34 = .ok (.invokevirtual 34, 3) := by decide +kernel
theorem d_Gr_livePairsMeeting_37 : decode b_Gr_livePairsMeeting 37 = .ok (.ifCond .eq 15, 3) := by decide +kernel
theorem d_Gr_livePairsMeeting_40 : decode b_Gr_livePairsMeeting 40 = .ok (.aload_n 0, 1) := by decide +kernel
theorem d_Gr_livePairsMeeting_41 : decode b_Gr_livePairsMeeting 41 = .ok (.iload_n 2, 1) := by decide +kernel
theorem d_Gr_livePairsMeeting_42 : decode b_Gr_livePairsMeeting 42 = .ok (.iload_n 3, 1) := by decide +kernel
theorem d_Gr_livePairsMeeting_43 : decode b_Gr_livePairsMeeting 43 = .ok (.invokevirtual 62, 3) := by decide +kernel
theorem d_Gr_livePairsMeeting_46 : decode b_Gr_livePairsMeeting 46 = .ok (.ifCond .eq 6, 3) := by decide +kernel
theorem d_Gr_livePairsMeeting_49 : decode b_Gr_livePairsMeeting 49 = .ok (.iinc 1 1, 3) := by decide +kernel
theorem d_Gr_livePairsMeeting_52 : decode b_Gr_livePairsMeeting 52 = .ok (.iinc 3 1, 3) := by decide +kernel
theorem d_Gr_livePairsMeeting_55 : decode b_Gr_livePairsMeeting 55 = .ok (.goto (-39), 3) := by decide +kernel
theorem d_Gr_livePairsMeeting_58 : decode b_Gr_livePairsMeeting 58 = .ok (.iinc 2 1, 3) := by decide +kernel
theorem d_Gr_livePairsMeeting_61 : decode b_Gr_livePairsMeeting 61 = .ok (.goto (-57), 3) := by decide +kernel
theorem d_Gr_livePairsMeeting_64 : decode b_Gr_livePairsMeeting 64 = .ok (.iload_n 1, 1) := by decide +kernel
theorem d_Gr_livePairsMeeting_65 : decode b_Gr_livePairsMeeting 65 = .ok (.ireturn, 1) := by decide +kernel
theorem d_RS_count_0 : decode b_RS_count 0 = .ok (.iload_n 1, 1) := by decide +kernel
theorem d_RS_count_1 : decode b_RS_count 1 = .ok (.tableswitch 93 0 6 #[43, 48, 56, 64, 72, 77, 85], 43) := by decide +kernel
theorem d_RS_count_44 : decode b_RS_count 44 = .ok (.aload_n 0, 1) := by decide +kernel
theorem d_RS_count_45 : decode b_RS_count 45 = .ok (.getfield 13, 3) := by decide +kernel
theorem d_RS_count_48 : decode b_RS_count 48 = .ok (.ireturn, 1) := by decide +kernel
theorem d_RS_count_49 : decode b_RS_count 49 = .ok (.aload_n 0, 1) := by decide +kernel
theorem d_RS_count_50 : decode b_RS_count 50 = .ok (.getfield 27, 3) := by decide +kernel
theorem d_RS_count_53 : decode b_RS_count 53 = .ok (.getfield 68, 3) := by decide +kernel
theorem d_RS_count_56 : decode b_RS_count 56 = .ok (.ireturn, 1) := by decide +kernel
theorem d_RS_count_57 : decode b_RS_count 57 = .ok (.aload_n 0, 1) := by decide +kernel
theorem d_RS_count_58 : decode b_RS_count 58 = .ok (.getfield 34, 3) := by decide +kernel
theorem d_RS_count_61 : decode b_RS_count 61 = .ok (.getfield 90, 3) := by decide +kernel
theorem d_RS_count_64 : decode b_RS_count 64 = .ok (.ireturn, 1) := by decide +kernel
theorem d_RS_count_65 : decode b_RS_count 65 = .ok (.aload_n 0, 1) := by decide +kernel
theorem d_RS_count_66 : decode b_RS_count 66 = .ok (.getfield 34, 3) := by decide +kernel
theorem d_RS_count_69 : decode b_RS_count 69 = .ok (.invokevirtual 203, 3) := by decide +kernel
theorem d_RS_count_72 : decode b_RS_count 72 = .ok (.ireturn, 1) := by decide +kernel
theorem d_RS_count_73 : decode b_RS_count 73 = .ok (.aload_n 0, 1) := by decide +kernel
theorem d_RS_count_74 : decode b_RS_count 74 = .ok (.getfield 7, 3) := by decide +kernel
theorem d_RS_count_77 : decode b_RS_count 77 = .ok (.ireturn, 1) := by decide +kernel
theorem d_RS_count_78 : decode b_RS_count 78 = .ok (.aload_n 0, 1) := by decide +kernel
theorem d_RS_count_79 : decode b_RS_count 79 = .ok (.getfield 27, 3) := by decide +kernel
theorem d_RS_count_82 : decode b_RS_count 82 = .ok (.invokevirtual 207, 3) := by decide +kernel
theorem d_RS_count_85 : decode b_RS_count 85 = .ok (.ireturn, 1) := by decide +kernel
theorem d_RS_count_86 : decode b_RS_count 86 = .ok (.aload_n 0, 1) := by decide +kernel
theorem d_RS_count_87 : decode b_RS_count 87 = .ok (.getfield 34, 3) := by decide +kernel
theorem d_RS_count_90 : decode b_RS_count 90 = .ok (.invokevirtual 210, 3) := by decide +kernel
theorem d_RS_count_93 : decode b_RS_count 93 = .ok (.ireturn, 1) := by decide +kernel
theorem d_RS_count_94 : decode b_RS_count 94 = .ok (.iconst (-1), 1) := by decide +kernel
theorem d_RS_count_95 : decode b_RS_count 95 = .ok (.ireturn, 1) := by decide +kernel
theorem d_Mo_thrown_0 : decode b_Mo_thrown 0 = .ok (.aload_n 0, 1) := by decide +kernel
theorem d_Mo_thrown_1 : decode b_Mo_thrown 1 = .ok (.getfield 53, 3) := by decide +kernel
theorem d_Mo_thrown_4 : decode b_Mo_thrown 4 = .ok (.ireturn, 1) := by decide +kernel
theorem d_Mo_in_0 : decode b_Mo_in 0 = .ok (.iload_n 0, 1) := by decide +kernel
theorem d_Mo_in_1 : decode b_Mo_in 1 = .ok (.iload_n 1, 1) := by decide +kernel
theorem d_Mo_in_2 : decode b_Mo_in 2 = .ok (.if_icmp .lt 12, 3) := by decide +kernel
theorem d_Mo_in_5 : decode b_Mo_in 5 = .ok (.iload_n 0, 1) := by decide +kernel
theorem d_Mo_in_6 : decode b_Mo_in 6 = .ok (.iload_n 2, 1) := by decide +kernel
theorem d_Mo_in_7 : decode b_Mo_in 7 = .ok (.if_icmp .gt 7, 3) := by decide +kernel
theorem d_Mo_in_10 : decode b_Mo_in 10 = .ok (.iconst 1, 1) := by decide +kernel
theorem d_Mo_in_11 : decode b_Mo_in 11 = .ok (.goto 4, 3) := by decide +kernel
theorem d_Mo_in_14 : decode b_Mo_in 14 = .ok (.iconst 0, 1) := by decide +kernel
theorem d_Mo_in_15 : decode b_Mo_in 15 = .ok (.ireturn, 1) := by decide +kernel
theorem d_Mo_isPiece_0 : decode b_Mo_isPiece 0 = .ok (.iload_n 1, 1) := by decide +kernel
theorem d_Mo_isPiece_1 : decode b_Mo_isPiece 1 = .ok (.iconst 0, 1) := by decide +kernel
theorem d_Mo_isPiece_2 : decode b_Mo_isPiece 2 = .ok (.aload_n 0, 1) := by decide +kernel
theorem d_Mo_isPiece_3 : decode b_Mo_isPiece 3 = .ok (.getfield 57, 3) := by decide +kernel
theorem d_Mo_isPiece_6 : decode b_Mo_isPiece 6 = .ok (.iconst 1, 1) := by decide +kernel
theorem d_Mo_isPiece_7 : decode b_Mo_isPiece 7 = .ok (.isub, 1) := by decide +kernel
theorem d_Mo_isPiece_8 : decode b_Mo_isPiece 8 = .ok (.invokestatic 60, 3) := by decide +kernel
theorem d_Mo_isPiece_11 : decode b_Mo_isPiece 11 = .ok (.ireturn, 1) := by decide +kernel
theorem d_Mo_isRobot_0 : decode b_Mo_isRobot 0 = .ok (.iload_n 1, 1) := by decide +kernel
theorem d_Mo_isRobot_1 : decode b_Mo_isRobot 1 = .ok (.iconst 0, 1) := by decide +kernel
theorem d_Mo_isRobot_2 : decode b_Mo_isRobot 2 = .ok (.aload_n 0, 1) := by decide +kernel
theorem d_Mo_isRobot_3 : decode b_Mo_isRobot 3 = .ok (.getfield 64, 3) := by decide +kernel
theorem d_Mo_isRobot_6 : decode b_Mo_isRobot 6 = .ok (.iconst 1, 1) := by decide +kernel
theorem d_Mo_isRobot_7 : decode b_Mo_isRobot 7 = .ok (.isub, 1) := by decide +kernel
theorem d_Mo_isRobot_8 : decode b_Mo_isRobot 8 = .ok (.invokestatic 60, 3) := by decide +kernel
theorem d_Mo_isRobot_11 : decode b_Mo_isRobot 11 = .ok (.ireturn, 1) := by decide +kernel
theorem d_Mo_isGrant_0 : decode b_Mo_isGrant 0 = .ok (.iload_n 1, 1) := by decide +kernel
theorem d_Mo_isGrant_1 : decode b_Mo_isGrant 1 = .ok (.iconst 1, 1) := by decide +kernel
theorem d_Mo_isGrant_2 : decode b_Mo_isGrant 2 = .ok (.aload_n 0, 1) := by decide +kernel
theorem d_Mo_isGrant_3 : decode b_Mo_isGrant 3 = .ok (.getfield 67, 3) := by decide +kernel
theorem d_Mo_isGrant_6 : decode b_Mo_isGrant 6 = .ok (.invokestatic 60, 3) := by decide +kernel
theorem d_Mo_isGrant_9 : decode b_Mo_isGrant 9 = .ok (.ireturn, 1) := by decide +kernel
theorem d_Mo_piece_0 : decode b_Mo_piece 0 = .ok (.aload_n 0, 1) := by decide +kernel
theorem d_Mo_piece_1 : decode b_Mo_piece 1 = .ok (.aload_n 0, 1) := by decide +kernel
theorem d_Mo_piece_2 : decode b_Mo_piece 2 = .ok (.getfield 57, 3) := by decide +kernel
theorem d_Mo_piece_5 : decode b_Mo_piece 5 = .ok (.bipush 16, 2) := by decide +kernel
theorem d_Mo_piece_7 : decode b_Mo_piece 7 = .ok (.if_icmp .ne 7, 3) := by decide +kernel
theorem d_Mo_piece_10 : decode b_Mo_piece 10 = .ok (.iconst 1, 1) := by decide +kernel
theorem d_Mo_piece_11 : decode b_Mo_piece 11 = .ok (.goto 4, 3) := by decide +kernel
theorem d_Mo_piece_14 : decode b_Mo_piece 14 = .ok (.iconst 0, 1) := by decide +kernel
theorem d_Mo_piece_15 : decode b_Mo_piece 15 = .ok (.putfield 53, 3) := by decide +kernel
theorem d_Mo_piece_18 : decode b_Mo_piece 18 = .ok (.aload_n 0, 1) := by decide +kernel
theorem d_Mo_piece_19 : decode b_Mo_piece 19 = .ok (.getfield 53, 3) := by decide +kernel
theorem d_Mo_piece_22 : decode b_Mo_piece 22 = .ok (.ifCond .le 5, 3) := by decide +kernel
theorem d_Mo_piece_25 : decode b_Mo_piece 25 = .ok (.iconst 0, 1) := by decide +kernel
theorem d_Mo_piece_26 : decode b_Mo_piece 26 = .ok (.ireturn, 1) := by decide +kernel
theorem d_Mo_piece_27 : decode b_Mo_piece 27 = .ok (.aload_n 0, 1) := by decide +kernel
theorem d_Mo_piece_28 : decode b_Mo_piece 28 = .ok (.dup, 1) := by decide +kernel
theorem d_Mo_piece_29 : decode b_Mo_piece 29 = .ok (.getfield 57, 3) := by decide +kernel
theorem d_Mo_piece_32 : decode b_Mo_piece 32 = .ok (.iconst 1, 1) := by decide +kernel
theorem d_Mo_piece_33 : decode b_Mo_piece 33 = .ok (.iadd, 1) := by decide +kernel
theorem d_Mo_piece_34 : decode b_Mo_piece 34 = .ok (.putfield 57, 3) := by decide +kernel
theorem d_Mo_piece_37 : decode b_Mo_piece 37 = .ok (.aload_n 0, 1) := by decide +kernel
theorem d_Mo_piece_38 : decode b_Mo_piece 38 = .ok (.getfield 57, 3) := by decide +kernel
theorem d_Mo_piece_41 : decode b_Mo_piece 41 = .ok (.iconst 1, 1) := by decide +kernel
theorem d_Mo_piece_42 : decode b_Mo_piece 42 = .ok (.isub, 1) := by decide +kernel
theorem d_Mo_piece_43 : decode b_Mo_piece 43 = .ok (.ireturn, 1) := by decide +kernel
theorem d_Mo_link_0 : decode b_Mo_link 0 = .ok (.aload_n 0, 1) := by decide +kernel
theorem d_Mo_link_1 : decode b_Mo_link 1 = .ok (.aload_n 0, 1) := by decide +kernel
theorem d_Mo_link_2 : decode b_Mo_link 2 = .ok (.iload_n 1, 1) := by decide +kernel
theorem d_Mo_link_3 : decode b_Mo_link 3 = .ok (.invokevirtual 70, 3) := by decide +kernel
theorem d_Mo_link_6 : decode b_Mo_link 6 = .ok (.ifCond .eq 11, 3) := by decide +kernel
theorem d_Mo_link_9 : decode b_Mo_link 9 = .ok (.aload_n 0, 1) := by decide +kernel
theorem d_Mo_link_10 : decode b_Mo_link 10 = .ok (.iload_n 2, 1) := by decide +kernel
theorem d_Mo_link_11 : decode b_Mo_link 11 = .ok (.invokevirtual 70, 3) := by decide +kernel
theorem d_Mo_link_14 : decode b_Mo_link 14 = .ok (.ifCond .ne 7, 3) := by decide +kernel
theorem d_Mo_link_17 : decode b_Mo_link 17 = .ok (.iconst 1, 1) := by decide +kernel
theorem d_Mo_link_18 : decode b_Mo_link 18 = .ok (.goto 13, 3) := by decide +kernel
theorem d_Mo_link_21 : decode b_Mo_link 21 = .ok (.iload_n 1, 1) := by decide +kernel
theorem d_Mo_link_22 : decode b_Mo_link 22 = .ok (.iload_n 2, 1) := by decide +kernel
theorem d_Mo_link_23 : decode b_Mo_link 23 = .ok (.if_icmp .ne 7, 3) := by decide +kernel
theorem d_Mo_link_26 : decode b_Mo_link 26 = .ok (.iconst 2, 1) := by decide +kernel
theorem d_Mo_link_27 : decode b_Mo_link 27 = .ok (.goto 4, 3) := by decide +kernel
theorem d_Mo_link_30 : decode b_Mo_link 30 = .ok (.iconst 0, 1) := by decide +kernel
theorem d_Mo_link_31 : decode b_Mo_link 31 = .ok (.putfield 53, 3) := by decide +kernel
theorem d_Mo_link_34 : decode b_Mo_link 34 = .ok (.aload_n 0, 1) := by decide +kernel
theorem d_Mo_link_35 : decode b_Mo_link 35 = .ok (.getfield 53, 3) := by decide +kernel
theorem d_Mo_link_38 : decode b_Mo_link 38 = .ok (.ifCond .le 5, 3) := by decide +kernel
theorem d_Mo_link_41 : decode b_Mo_link 41 = .ok (.iconst 0, 1) := by decide +kernel
theorem d_Mo_link_42 : decode b_Mo_link 42 = .ok (.ireturn, 1) := by decide +kernel
theorem d_Mo_link_43 : decode b_Mo_link 43 = .ok (.aload_n 0, 1) := by decide +kernel
theorem d_Mo_link_44 : decode b_Mo_link 44 = .ok (.getfield 13, 3) := by decide +kernel
theorem d_Mo_link_47 : decode b_Mo_link 47 = .ok (.bipush 16, 2) := by decide +kernel
theorem d_Mo_link_49 : decode b_Mo_link 49 = .ok (.iload_n 1, 1) := by decide +kernel
theorem d_Mo_link_50 : decode b_Mo_link 50 = .ok (.imul, 1) := by decide +kernel
theorem d_Mo_link_51 : decode b_Mo_link 51 = .ok (.iload_n 2, 1) := by decide +kernel
theorem d_Mo_link_52 : decode b_Mo_link 52 = .ok (.iadd, 1) := by decide +kernel
theorem d_Mo_link_53 : decode b_Mo_link 53 = .ok (.iload_n 3, 1) := by decide +kernel
theorem d_Mo_link_54 : decode b_Mo_link 54 = .ok (.bastore, 1) := by decide +kernel
theorem d_Mo_link_55 : decode b_Mo_link 55 = .ok (.aload_n 0, 1) := by decide +kernel
theorem d_Mo_link_56 : decode b_Mo_link 56 = .ok (.getfield 13, 3) := by decide +kernel
theorem d_Mo_link_59 : decode b_Mo_link 59 = .ok (.bipush 16, 2) := by decide +kernel
theorem d_Mo_link_61 : decode b_Mo_link 61 = .ok (.iload_n 2, 1) := by decide +kernel
theorem d_Mo_link_62 : decode b_Mo_link 62 = .ok (.imul, 1) := by decide +kernel
theorem d_Mo_link_63 : decode b_Mo_link 63 = .ok (.iload_n 1, 1) := by decide +kernel
theorem d_Mo_link_64 : decode b_Mo_link 64 = .ok (.iadd, 1) := by decide +kernel
theorem d_Mo_link_65 : decode b_Mo_link 65 = .ok (.iload_n 3, 1) := by decide +kernel
theorem d_Mo_link_66 : decode b_Mo_link 66 = .ok (.bastore, 1) := by decide +kernel
theorem d_Mo_link_67 : decode b_Mo_link 67 = .ok (.iconst 0, 1) := by decide +kernel
theorem d_Mo_link_68 : decode b_Mo_link 68 = .ok (.istore 4, 2) := by decide +kernel
theorem d_Mo_link_70 : decode b_Mo_link 70 = .ok (.iconst 0, 1) := by decide +kernel
theorem d_Mo_link_71 : decode b_Mo_link 71 = .ok (.istore 5, 2) := by decide +kernel
theorem d_Mo_link_73 : decode b_Mo_link 73 = .ok (.iload 5, 2) := by decide +kernel
theorem d_Mo_link_75 : decode b_Mo_link 75 = .ok (.aload_n 0, 1) := by decide +kernel
theorem d_Mo_link_76 : decode b_Mo_link 76 = .ok (.getfield 57, 3) := by decide +kernel
theorem d_Mo_link_79 : decode b_Mo_link 79 = .ok (.if_icmp .ge 34, 3) := by decide +kernel
theorem d_Mo_link_82 : decode b_Mo_link 82 = .ok (.iload 4, 2) := by decide +kernel
theorem d_Mo_link_84 : decode b_Mo_link 84 = .ok (.aload_n 0, 1) := by decide +kernel
theorem d_Mo_link_85 : decode b_Mo_link 85 = .ok (.getfield 13, 3) := by decide +kernel
theorem d_Mo_link_88 : decode b_Mo_link 88 = .ok (.bipush 16, 2) := by decide +kernel
theorem d_Mo_link_90 : decode b_Mo_link 90 = .ok (.iload_n 1, 1) := by decide +kernel
theorem d_Mo_link_91 : decode b_Mo_link 91 = .ok (.imul, 1) := by decide +kernel
theorem d_Mo_link_92 : decode b_Mo_link 92 = .ok (.iload 5, 2) := by decide +kernel
theorem d_Mo_link_94 : decode b_Mo_link 94 = .ok (.iadd, 1) := by decide +kernel
theorem d_Mo_link_95 : decode b_Mo_link 95 = .ok (.baload, 1) := by decide +kernel
theorem d_Mo_link_96 : decode b_Mo_link 96 = .ok (.ifCond .eq 7, 3) := by decide +kernel
theorem d_Mo_link_99 : decode b_Mo_link 99 = .ok (.iconst 1, 1) := by decide +kernel
theorem d_Mo_link_100 : decode b_Mo_link 100 = .ok (.goto 4, 3) := by decide +kernel
theorem d_Mo_link_103 : decode b_Mo_link 103 = .ok (.iconst 0, 1) := by decide +kernel
theorem d_Mo_link_104 : decode b_Mo_link 104 = .ok (.iadd, 1) := by decide +kernel
theorem d_Mo_link_105 : decode b_Mo_link 105 = .ok (.istore 4, 2) := by decide +kernel
theorem d_Mo_link_107 : decode b_Mo_link 107 = .ok (.iinc 5 1, 3) := by decide +kernel
theorem d_Mo_link_110 : decode b_Mo_link 110 = .ok (.goto (-37), 3) := by decide +kernel
theorem d_Mo_link_113 : decode b_Mo_link 113 = .ok (.iload 4, 2) := by decide +kernel
theorem d_Mo_link_115 : decode b_Mo_link 115 = .ok (.ireturn, 1) := by decide +kernel
theorem d_Mo_standing_0 : decode b_Mo_standing 0 = .ok (.iconst 0, 1) := by decide +kernel
theorem d_Mo_standing_1 : decode b_Mo_standing 1 = .ok (.istore_n 2, 1) := by decide +kernel
theorem d_Mo_standing_2 : decode b_Mo_standing 2 = .ok (.iload_n 2, 1) := by decide +kernel
theorem d_Mo_standing_3 : decode b_Mo_standing 3 = .ok (.aload_n 0, 1) := by decide +kernel
theorem d_Mo_standing_4 : decode b_Mo_standing 4 = .ok (.getfield 64, 3) := by decide +kernel
theorem d_Mo_standing_7 : decode b_Mo_standing 7 = .ok (.if_icmp .ge 31, 3) := by decide +kernel
theorem d_Mo_standing_10 : decode b_Mo_standing 10 = .ok (.aload_n 0, 1) := by decide +kernel
theorem d_Mo_standing_11 : decode b_Mo_standing 11 = .ok (.getfield 16, 3) := by decide +kernel
theorem d_Mo_standing_14 : decode b_Mo_standing 14 = .ok (.iload_n 2, 1) := by decide +kernel
theorem d_Mo_standing_15 : decode b_Mo_standing 15 = .ok (.iaload, 1) := by decide +kernel
theorem d_Mo_standing_16 : decode b_Mo_standing 16 = .ok (.iload_n 1, 1) := by decide +kernel
theorem d_Mo_standing_17 : decode b_Mo_standing 17 = .ok (.if_icmp .eq 13, 3) := by decide +kernel
theorem d_Mo_standing_20 : decode b_Mo_standing 20 = .ok (.aload_n 0, 1) := by decide +kernel
theorem d_Mo_standing_21 : decode b_Mo_standing 21 = .ok (.getfield 23, 3) := by decide +kernel
theorem d_Mo_standing_24 : decode b_Mo_standing 24 = .ok (.iload_n 2, 1) := by decide +kernel
theorem d_Mo_standing_25 : decode b_Mo_standing 25 = .ok (.iaload, 1) := by decide +kernel
theorem d_Mo_standing_26 : decode b_Mo_standing 26 = .ok (.iload_n 1, 1) := by decide +kernel
theorem d_Mo_standing_27 : decode b_Mo_standing 27 = .ok (.if_icmp .ne 5, 3) := by decide +kernel
theorem d_Mo_standing_30 : decode b_Mo_standing 30 = .ok (.iload_n 2, 1) := by decide +kernel
theorem d_Mo_standing_31 : decode b_Mo_standing 31 = .ok (.ireturn, 1) := by decide +kernel
theorem d_Mo_standing_32 : decode b_Mo_standing 32 = .ok (.iinc 2 1, 3) := by decide +kernel
theorem d_Mo_standing_35 : decode b_Mo_standing 35 = .ok (.goto (-33), 3) := by decide +kernel
theorem d_Mo_standing_38 : decode b_Mo_standing 38 = .ok (.iconst (-1), 1) := by decide +kernel
theorem d_Mo_standing_39 : decode b_Mo_standing 39 = .ok (.ireturn, 1) := by decide +kernel
theorem d_Mo_robot_0 : decode b_Mo_robot 0 = .ok (.aload_n 0, 1) := by decide +kernel
theorem d_Mo_robot_1 : decode b_Mo_robot 1 = .ok (.aload_n 0, 1) := by decide +kernel
theorem d_Mo_robot_2 : decode b_Mo_robot 2 = .ok (.iload_n 1, 1) := by decide +kernel
theorem d_Mo_robot_3 : decode b_Mo_robot 3 = .ok (.invokevirtual 70, 3) := by decide +kernel
theorem d_Mo_robot_6 : decode b_Mo_robot 6 = .ok (.ifCond .ne 7, 3) := by decide +kernel
theorem d_Mo_robot_9 : decode b_Mo_robot 9 = .ok (.iconst 1, 1) := by decide +kernel
theorem d_Mo_robot_10 : decode b_Mo_robot 10 = .ok (.goto 4, 3) := by decide +kernel
theorem d_Mo_robot_13 : decode b_Mo_robot 13 = .ok (.iconst 0, 1) := by decide +kernel
theorem d_Mo_robot_14 : decode b_Mo_robot 14 = .ok (.putfield 53, 3) := by decide +kernel
theorem d_Mo_robot_17 : decode b_Mo_robot 17 = .ok (.aload_n 0, 1) := by decide +kernel
theorem d_Mo_robot_18 : decode b_Mo_robot 18 = .ok (.getfield 53, 3) := by decide +kernel
theorem d_Mo_robot_21 : decode b_Mo_robot 21 = .ok (.ifCond .ne 43, 3) := by decide +kernel
theorem d_Mo_robot_24 : decode b_Mo_robot 24 = .ok (.aload_n 0, 1) := by decide +kernel
theorem d_Mo_robot_25 : decode b_Mo_robot 25 = .ok (.aload_n 0, 1) := by decide +kernel
theorem d_Mo_robot_26 : decode b_Mo_robot 26 = .ok (.iload_n 1, 1) := by decide +kernel
theorem d_Mo_robot_27 : decode b_Mo_robot 27 = .ok (.invokevirtual 74, 3) := by decide +kernel
theorem d_Mo_robot_30 : decode b_Mo_robot 30 = .ok (.iconst (-1), 1) := by decide +kernel
theorem d_Mo_robot_31 : decode b_Mo_robot 31 = .ok (.if_icmp .ne 12, 3) := by decide +kernel
theorem d_Mo_robot_34 : decode b_Mo_robot 34 = .ok (.aload_n 0, 1) := by decide +kernel
theorem d_Mo_robot_35 : decode b_Mo_robot 35 = .ok (.getfield 7, 3) := by decide +kernel
theorem d_Mo_robot_38 : decode b_Mo_robot 38 = .ok (.iload_n 1, 1) := by decide +kernel
theorem d_Mo_robot_39 : decode b_Mo_robot 39 = .ok (.baload, 1) := by decide +kernel
theorem d_Mo_robot_40 : decode b_Mo_robot 40 = .ok (.ifCond .eq 7, 3) := by decide +kernel
theorem d_Mo_robot_43 : decode b_Mo_robot 43 = .ok (.iconst 2, 1) := by decide +kernel
theorem d_Mo_robot_44 : decode b_Mo_robot 44 = .ok (.goto 17, 3) := by decide +kernel
theorem d_Mo_robot_47 : decode b_Mo_robot 47 = .ok (.aload_n 0, 1) := by decide +kernel
theorem d_Mo_robot_48 : decode b_Mo_robot 48 = .ok (.getfield 64, 3) := by decide +kernel
theorem d_Mo_robot_51 : decode b_Mo_robot 51 = .ok (.bipush 6, 2) := by decide +kernel
theorem d_Mo_robot_53 : decode b_Mo_robot 53 = .ok (.if_icmp .ne 7, 3) := by decide +kernel
theorem d_Mo_robot_56 : decode b_Mo_robot 56 = .ok (.iconst 3, 1) := by decide +kernel
theorem d_Mo_robot_57 : decode b_Mo_robot 57 = .ok (.goto 4, 3) := by decide +kernel
theorem d_Mo_robot_60 : decode b_Mo_robot 60 = .ok (.iconst 0, 1) := by decide +kernel
theorem d_Mo_robot_61 : decode b_Mo_robot 61 = .ok (.putfield 53, 3) := by decide +kernel
theorem d_Mo_robot_64 : decode b_Mo_robot 64 = .ok (.aload_n 0, 1) := by decide +kernel
theorem d_Mo_robot_65 : decode b_Mo_robot 65 = .ok (.getfield 53, 3) := by decide +kernel
theorem d_Mo_robot_68 : decode b_Mo_robot 68 = .ok (.ifCond .le 5, 3) := by decide +kernel
theorem d_Mo_robot_71 : decode b_Mo_robot 71 = .ok (.iconst 0, 1) := by decide +kernel
theorem d_Mo_robot_72 : decode b_Mo_robot 72 = .ok (.ireturn, 1) := by decide +kernel
theorem d_Mo_robot_73 : decode b_Mo_robot 73 = .ok (.aload_n 0, 1) := by decide +kernel
theorem d_Mo_robot_74 : decode b_Mo_robot 74 = .ok (.getfield 16, 3) := by decide +kernel
theorem d_Mo_robot_77 : decode b_Mo_robot 77 = .ok (.aload_n 0, 1) := by decide +kernel
theorem d_Mo_robot_78 : decode b_Mo_robot 78 = .ok (.getfield 64, 3) := by decide +kernel
theorem d_Mo_robot_81 : decode b_Mo_robot 81 = .ok (.iload_n 1, 1) := by decide +kernel
theorem d_Mo_robot_82 : decode b_Mo_robot 82 = .ok (.iastore, 1) := by decide +kernel
theorem d_Mo_robot_83 : decode b_Mo_robot 83 = .ok (.aload_n 0, 1) := by decide +kernel
theorem d_Mo_robot_84 : decode b_Mo_robot 84 = .ok (.getfield 20, 3) := by decide +kernel
theorem d_Mo_robot_87 : decode b_Mo_robot 87 = .ok (.aload_n 0, 1) := by decide +kernel
theorem d_Mo_robot_88 : decode b_Mo_robot 88 = .ok (.getfield 64, 3) := by decide +kernel
theorem d_Mo_robot_91 : decode b_Mo_robot 91 = .ok (.iload_n 2, 1) := by decide +kernel
theorem d_Mo_robot_92 : decode b_Mo_robot 92 = .ok (.bastore, 1) := by decide +kernel
theorem d_Mo_robot_93 : decode b_Mo_robot 93 = .ok (.aload_n 0, 1) := by decide +kernel
theorem d_Mo_robot_94 : decode b_Mo_robot 94 = .ok (.getfield 23, 3) := by decide +kernel
theorem d_Mo_robot_97 : decode b_Mo_robot 97 = .ok (.aload_n 0, 1) := by decide +kernel
theorem d_Mo_robot_98 : decode b_Mo_robot 98 = .ok (.getfield 64, 3) := by decide +kernel
theorem d_Mo_robot_101 : decode b_Mo_robot 101 = .ok (.iconst (-1), 1) := by decide +kernel
theorem d_Mo_robot_102 : decode b_Mo_robot 102 = .ok (.iastore, 1) := by decide +kernel
theorem d_Mo_robot_103 : decode b_Mo_robot 103 = .ok (.aload_n 0, 1) := by decide +kernel
theorem d_Mo_robot_104 : decode b_Mo_robot 104 = .ok (.getfield 26, 3) := by decide +kernel
theorem d_Mo_robot_107 : decode b_Mo_robot 107 = .ok (.aload_n 0, 1) := by decide +kernel
theorem d_Mo_robot_108 : decode b_Mo_robot 108 = .ok (.getfield 64, 3) := by decide +kernel
theorem d_Mo_robot_111 : decode b_Mo_robot 111 = .ok (.iconst (-1), 1) := by decide +kernel
theorem d_Mo_robot_112 : decode b_Mo_robot 112 = .ok (.iastore, 1) := by decide +kernel
theorem d_Mo_robot_113 : decode b_Mo_robot 113 = .ok (.aload_n 0, 1) := by decide +kernel
theorem d_Mo_robot_114 : decode b_Mo_robot 114 = .ok (.getfield 29, 3) := by decide +kernel
theorem d_Mo_robot_117 : decode b_Mo_robot 117 = .ok (.aload_n 0, 1) := by decide +kernel
theorem d_Mo_robot_118 : decode b_Mo_robot 118 = .ok (.getfield 64, 3) := by decide +kernel
theorem d_Mo_robot_121 : decode b_Mo_robot 121 = .ok (.aload_n 0, 1) := by decide +kernel
theorem d_Mo_robot_122 : decode b_Mo_robot 122 = .ok (.getfield 78, 3) := by decide +kernel
theorem d_Mo_robot_125 : decode b_Mo_robot 125 = .ok (.iastore, 1) := by decide +kernel
theorem d_Mo_robot_126 : decode b_Mo_robot 126 = .ok (.aload_n 0, 1) := by decide +kernel
theorem d_Mo_robot_127 : decode b_Mo_robot 127 = .ok (.dup, 1) := by decide +kernel
theorem d_Mo_robot_128 : decode b_Mo_robot 128 = .ok (.getfield 64, 3) := by decide +kernel
theorem d_Mo_robot_131 : decode b_Mo_robot 131 = .ok (.iconst 1, 1) := by decide +kernel
theorem d_Mo_robot_132 : decode b_Mo_robot 132 = .ok (.iadd, 1) := by decide +kernel
theorem d_Mo_robot_133 : decode b_Mo_robot 133 = .ok (.putfield 64, 3) := by decide +kernel
theorem d_Mo_robot_136 : decode b_Mo_robot 136 = .ok (.aload_n 0, 1) := by decide +kernel
theorem d_Mo_robot_137 : decode b_Mo_robot 137 = .ok (.getfield 64, 3) := by decide +kernel
theorem d_Mo_robot_140 : decode b_Mo_robot 140 = .ok (.iconst 1, 1) := by decide +kernel
theorem d_Mo_robot_141 : decode b_Mo_robot 141 = .ok (.isub, 1) := by decide +kernel
theorem d_Mo_robot_142 : decode b_Mo_robot 142 = .ok (.ireturn, 1) := by decide +kernel
theorem d_Mo_isSilent_0 : decode b_Mo_isSilent 0 = .ok (.aload_n 0, 1) := by decide +kernel
theorem d_Mo_isSilent_1 : decode b_Mo_isSilent 1 = .ok (.getfield 78, 3) := by decide +kernel
theorem d_Mo_isSilent_4 : decode b_Mo_isSilent 4 = .ok (.aload_n 0, 1) := by decide +kernel
theorem d_Mo_isSilent_5 : decode b_Mo_isSilent 5 = .ok (.getfield 29, 3) := by decide +kernel
theorem d_Mo_isSilent_8 : decode b_Mo_isSilent 8 = .ok (.iload_n 1, 1) := by decide +kernel
theorem d_Mo_isSilent_9 : decode b_Mo_isSilent 9 = .ok (.iaload, 1) := by decide +kernel
theorem d_Mo_isSilent_10 : decode b_Mo_isSilent 10 = .ok (.isub, 1) := by decide +kernel
theorem d_Mo_isSilent_11 : decode b_Mo_isSilent 11 = .ok (.bipush 30, 2) := by decide +kernel
theorem d_Mo_isSilent_13 : decode b_Mo_isSilent 13 = .ok (.if_icmp .le 7, 3) := by decide +kernel
theorem d_Mo_isSilent_16 : decode b_Mo_isSilent 16 = .ok (.iconst 1, 1) := by decide +kernel
theorem d_Mo_isSilent_17 : decode b_Mo_isSilent 17 = .ok (.goto 4, 3) := by decide +kernel
theorem d_Mo_isSilent_20 : decode b_Mo_isSilent 20 = .ok (.iconst 0, 1) := by decide +kernel
theorem d_Mo_isSilent_21 : decode b_Mo_isSilent 21 = .ok (.ireturn, 1) := by decide +kernel
theorem d_Mo_meet_0 : decode b_Mo_meet 0 = .ok (.aload_n 0, 1) := by decide +kernel
theorem d_Mo_meet_1 : decode b_Mo_meet 1 = .ok (.getfield 38, 3) := by decide +kernel
theorem d_Mo_meet_4 : decode b_Mo_meet 4 = .ok (.iload_n 1, 1) := by decide +kernel
theorem d_Mo_meet_5 : decode b_Mo_meet 5 = .ok (.iaload, 1) := by decide +kernel
theorem d_Mo_meet_6 : decode b_Mo_meet 6 = .ok (.aload_n 0, 1) := by decide +kernel
theorem d_Mo_meet_7 : decode b_Mo_meet 7 = .ok (.getfield 38, 3) := by decide +kernel
theorem d_Mo_meet_10 : decode b_Mo_meet 10 = .ok (.iload_n 2, 1) := by decide +kernel
theorem d_Mo_meet_11 : decode b_Mo_meet 11 = .ok (.iaload, 1) := by decide +kernel
theorem d_Mo_meet_12 : decode b_Mo_meet 12 = .ok (.if_icmp .ne 37, 3) := by decide +kernel
theorem d_Mo_meet_15 : decode b_Mo_meet 15 = .ok (.aload_n 0, 1) := by decide +kernel
theorem d_Mo_meet_16 : decode b_Mo_meet 16 = .ok (.getfield 41, 3) := by decide +kernel
theorem d_Mo_meet_19 : decode b_Mo_meet 19 = .ok (.iload_n 1, 1) := by decide +kernel
theorem d_Mo_meet_20 : decode b_Mo_meet 20 = .ok (.iaload, 1) := by decide +kernel
theorem d_Mo_meet_21 : decode b_Mo_meet 21 = .ok (.aload_n 0, 1) := by decide +kernel
theorem d_Mo_meet_22 : decode b_Mo_meet 22 = .ok (.getfield 44, 3) := by decide +kernel
theorem d_Mo_meet_25 : decode b_Mo_meet 25 = .ok (.iload_n 2, 1) := by decide +kernel
theorem d_Mo_meet_26 : decode b_Mo_meet 26 = .ok (.iaload, 1) := by decide +kernel
theorem d_Mo_meet_27 : decode b_Mo_meet 27 = .ok (.if_icmp .ge 22, 3) := by decide +kernel
theorem d_Mo_meet_30 : decode b_Mo_meet 30 = .ok (.aload_n 0, 1) := by decide +kernel
theorem d_Mo_meet_31 : decode b_Mo_meet 31 = .ok (.getfield 41, 3) := by decide +kernel
theorem d_Mo_meet_34 : decode b_Mo_meet 34 = .ok (.iload_n 2, 1) := by decide +kernel
theorem d_Mo_meet_35 : decode b_Mo_meet 35 = .ok (.iaload, 1) := by decide +kernel
theorem d_Mo_meet_36 : decode b_Mo_meet 36 = .ok (.aload_n 0, 1) := by decide +kernel
theorem d_Mo_meet_37 : decode b_Mo_meet 37 = .ok (.getfield 44, 3) := by decide +kernel
theorem d_Mo_meet_40 : decode b_Mo_meet 40 = .ok (.iload_n 1, 1) := by decide +kernel
theorem d_Mo_meet_41 : decode b_Mo_meet 41 = .ok (.iaload, 1) := by decide +kernel
theorem d_Mo_meet_42 : decode b_Mo_meet 42 = .ok (.if_icmp .ge 7, 3) := by decide +kernel
theorem d_Mo_meet_45 : decode b_Mo_meet 45 = .ok (.iconst 1, 1) := by decide +kernel
theorem d_Mo_meet_46 : decode b_Mo_meet 46 = .ok (.goto 4, 3) := by decide +kernel
theorem d_Mo_meet_49 : decode b_Mo_meet 49 = .ok (.iconst 0, 1) := by decide +kernel
theorem d_Mo_meet_50 : decode b_Mo_meet 50 = .ok (.ireturn, 1) := by decide +kernel
theorem d_Mo_isTaken_0 : decode b_Mo_isTaken 0 = .ok (.aload_n 0, 1) := by decide +kernel
theorem d_Mo_isTaken_1 : decode b_Mo_isTaken 1 = .ok (.iload_n 2, 1) := by decide +kernel
theorem d_Mo_isTaken_2 : decode b_Mo_isTaken 2 = .ok (.invokevirtual 74, 3) := by decide +kernel
theorem d_Mo_isTaken_5 : decode b_Mo_isTaken 5 = .ok (.iconst (-1), 1) := by decide +kernel
theorem d_Mo_isTaken_6 : decode b_Mo_isTaken 6 = .ok (.if_icmp .eq 16, 3) := by decide +kernel
theorem d_Mo_isTaken_9 : decode b_Mo_isTaken 9 = .ok (.aload_n 0, 1) := by decide +kernel
theorem d_Mo_isTaken_10 : decode b_Mo_isTaken 10 = .ok (.iload_n 2, 1) := by decide +kernel
theorem d_Mo_isTaken_11 : decode b_Mo_isTaken 11 = .ok (.invokevirtual 74, 3) := by decide +kernel
theorem d_Mo_isTaken_14 : decode b_Mo_isTaken 14 = .ok (.iload_n 1, 1) := by decide +kernel
theorem d_Mo_isTaken_15 : decode b_Mo_isTaken 15 = .ok (.if_icmp .eq 7, 3) := by decide +kernel
theorem d_Mo_isTaken_18 : decode b_Mo_isTaken 18 = .ok (.iconst 1, 1) := by decide +kernel
theorem d_Mo_isTaken_19 : decode b_Mo_isTaken 19 = .ok (.goto 4, 3) := by decide +kernel
theorem d_Mo_isTaken_22 : decode b_Mo_isTaken 22 = .ok (.iconst 0, 1) := by decide +kernel
theorem d_Mo_isTaken_23 : decode b_Mo_isTaken 23 = .ok (.ireturn, 1) := by decide +kernel
theorem d_Mo_isRival_0 : decode b_Mo_isRival 0 = .ok (.aload_n 0, 1) := by decide +kernel
theorem d_Mo_isRival_1 : decode b_Mo_isRival 1 = .ok (.getfield 50, 3) := by decide +kernel
theorem d_Mo_isRival_4 : decode b_Mo_isRival 4 = .ok (.iload_n 1, 1) := by decide +kernel
theorem d_Mo_isRival_5 : decode b_Mo_isRival 5 = .ok (.iaload, 1) := by decide +kernel
theorem d_Mo_isRival_6 : decode b_Mo_isRival 6 = .ok (.ifCond .ne 31, 3) := by decide +kernel
theorem d_Mo_isRival_9 : decode b_Mo_isRival 9 = .ok (.aload_n 0, 1) := by decide +kernel
theorem d_Mo_isRival_10 : decode b_Mo_isRival 10 = .ok (.getfield 35, 3) := by decide +kernel
theorem d_Mo_isRival_13 : decode b_Mo_isRival 13 = .ok (.iload_n 1, 1) := by decide +kernel
theorem d_Mo_isRival_14 : decode b_Mo_isRival 14 = .ok (.iaload, 1) := by decide +kernel
theorem d_Mo_isRival_15 : decode b_Mo_isRival 15 = .ok (.aload_n 0, 1) := by decide +kernel
theorem d_Mo_isRival_16 : decode b_Mo_isRival 16 = .ok (.getfield 35, 3) := by decide +kernel
theorem d_Mo_isRival_19 : decode b_Mo_isRival 19 = .ok (.iload_n 2, 1) := by decide +kernel
theorem d_Mo_isRival_20 : decode b_Mo_isRival 20 = .ok (.iaload, 1) := by decide +kernel
theorem d_Mo_isRival_21 : decode b_Mo_isRival 21 = .ok (.if_icmp .eq 16, 3) := by decide +kernel
theorem d_Mo_isRival_24 : decode b_Mo_isRival 24 = .ok (.aload_n 0, 1) := by decide +kernel
theorem d_Mo_isRival_25 : decode b_Mo_isRival 25 = .ok (.iload_n 1, 1) := by decide +kernel
theorem d_Mo_isRival_26 : decode b_Mo_isRival 26 = .ok (.iload_n 2, 1) := by decide +kernel
theorem d_Mo_isRival_27 : decode b_Mo_isRival 27 = .ok (.invokevirtual 94, 3) := by decide +kernel
theorem d_Mo_isRival_30 : decode b_Mo_isRival 30 = .ok (.ifCond .eq 7, 3) := by decide +kernel
theorem d_Mo_isRival_33 : decode b_Mo_isRival 33 = .ok (.iconst 1, 1) := by decide +kernel
theorem d_Mo_isRival_34 : decode b_Mo_isRival 34 = .ok (.goto 4, 3) := by decide +kernel
theorem d_Mo_isRival_37 : decode b_Mo_isRival 37 = .ok (.iconst 0, 1) := by decide +kernel
theorem d_Mo_isRival_38 : decode b_Mo_isRival 38 = .ok (.ireturn, 1) := by decide +kernel
theorem d_Mo_ask_0 : decode b_Mo_ask 0 = .ok (.aload_n 0, 1) := by decide +kernel
theorem d_Mo_ask_1 : decode b_Mo_ask 1 = .ok (.aload_n 0, 1) := by decide +kernel
theorem d_Mo_ask_2 : decode b_Mo_ask 2 = .ok (.iload_n 1, 1) := by decide +kernel
theorem d_Mo_ask_3 : decode b_Mo_ask 3 = .ok (.invokevirtual 81, 3) := by decide +kernel
theorem d_Mo_ask_6 : decode b_Mo_ask 6 = .ok (.ifCond .eq 11, 3) := by decide +kernel
theorem d_Mo_ask_9 : decode b_Mo_ask 9 = .ok (.aload_n 0, 1) := by decide +kernel
theorem d_Mo_ask_10 : decode b_Mo_ask 10 = .ok (.iload_n 2, 1) := by decide +kernel
theorem d_Mo_ask_11 : decode b_Mo_ask 11 = .ok (.invokevirtual 70, 3) := by decide +kernel
theorem d_Mo_ask_14 : decode b_Mo_ask 14 = .ok (.ifCond .ne 7, 3) := by decide +kernel
theorem d_Mo_ask_17 : decode b_Mo_ask 17 = .ok (.iconst 1, 1) := by decide +kernel
theorem d_Mo_ask_18 : decode b_Mo_ask 18 = .ok (.goto 45, 3) := by decide +kernel
theorem d_Mo_ask_21 : decode b_Mo_ask 21 = .ok (.iload_n 3, 1) := by decide +kernel
theorem d_Mo_ask_22 : decode b_Mo_ask 22 = .ok (.aload_n 0, 1) := by decide +kernel
theorem d_Mo_ask_23 : decode b_Mo_ask 23 = .ok (.getfield 78, 3) := by decide +kernel
theorem d_Mo_ask_26 : decode b_Mo_ask 26 = .ok (.if_icmp .lt 32, 3) := by decide +kernel
theorem d_Mo_ask_29 : decode b_Mo_ask 29 = .ok (.iload 4, 2) := by decide +kernel
theorem d_Mo_ask_31 : decode b_Mo_ask 31 = .ok (.iload_n 3, 1) := by decide +kernel
theorem d_Mo_ask_32 : decode b_Mo_ask 32 = .ok (.if_icmp .le 26, 3) := by decide +kernel
theorem d_Mo_ask_35 : decode b_Mo_ask 35 = .ok (.iload 4, 2) := by decide +kernel
theorem d_Mo_ask_37 : decode b_Mo_ask 37 = .ok (.aload_n 0, 1) := by decide +kernel
theorem d_Mo_ask_38 : decode b_Mo_ask 38 = .ok (.getfield 78, 3) := by decide +kernel
theorem d_Mo_ask_41 : decode b_Mo_ask 41 = .ok (.isub, 1) := by decide +kernel
theorem d_Mo_ask_42 : decode b_Mo_ask 42 = .ok (.bipush 100, 2) := by decide +kernel
theorem d_Mo_ask_44 : decode b_Mo_ask 44 = .ok (.if_icmp .gt 14, 3) := by decide +kernel
theorem d_Mo_ask_47 : decode b_Mo_ask 47 = .ok (.iload 5, 2) := by decide +kernel
theorem d_Mo_ask_49 : decode b_Mo_ask 49 = .ok (.iconst 1, 1) := by decide +kernel
theorem d_Mo_ask_50 : decode b_Mo_ask 50 = .ok (.bipush 9, 2) := by decide +kernel
theorem d_Mo_ask_52 : decode b_Mo_ask 52 = .ok (.invokestatic 60, 3) := by decide +kernel
theorem d_Mo_ask_55 : decode b_Mo_ask 55 = .ok (.ifCond .ne 7, 3) := by decide +kernel
theorem d_Mo_ask_58 : decode b_Mo_ask 58 = .ok (.iconst 2, 1) := by decide +kernel
theorem d_Mo_ask_59 : decode b_Mo_ask 59 = .ok (.goto 4, 3) := by decide +kernel
theorem d_Mo_ask_62 : decode b_Mo_ask 62 = .ok (.iconst 0, 1) := by decide +kernel
theorem d_Mo_ask_63 : decode b_Mo_ask 63 = .ok (.putfield 53, 3) := by decide +kernel
theorem d_Mo_ask_66 : decode b_Mo_ask 66 = .ok (.aload_n 0, 1) := by decide +kernel
theorem d_Mo_ask_67 : decode b_Mo_ask 67 = .ok (.getfield 53, 3) := by decide +kernel
theorem d_Mo_ask_70 : decode b_Mo_ask 70 = .ok (.ifCond .ne 42, 3) := by decide +kernel
theorem d_Mo_ask_73 : decode b_Mo_ask 73 = .ok (.aload_n 0, 1) := by decide +kernel
theorem d_Mo_ask_74 : decode b_Mo_ask 74 = .ok (.aload_n 0, 1) := by decide +kernel
theorem d_Mo_ask_75 : decode b_Mo_ask 75 = .ok (.getfield 32, 3) := by decide +kernel
theorem d_Mo_ask_78 : decode b_Mo_ask 78 = .ok (.iload_n 1, 1) := by decide +kernel
theorem d_Mo_ask_79 : decode b_Mo_ask 79 = .ok (.baload, 1) := by decide +kernel
theorem d_Mo_ask_80 : decode b_Mo_ask 80 = .ok (.ifCond .ne 11, 3) := by decide +kernel
theorem d_Mo_ask_83 : decode b_Mo_ask 83 = .ok (.aload_n 0, 1) := by decide +kernel
theorem d_Mo_ask_84 : decode b_Mo_ask 84 = .ok (.iload_n 1, 1) := by decide +kernel
theorem d_Mo_ask_85 : decode b_Mo_ask 85 = .ok (.invokevirtual 84, 3) := by decide +kernel
theorem d_Mo_ask_88 : decode b_Mo_ask 88 = .ok (.ifCond .eq 7, 3) := by decide +kernel
theorem d_Mo_ask_91 : decode b_Mo_ask 91 = .ok (.iconst 3, 1) := by decide +kernel
theorem d_Mo_ask_92 : decode b_Mo_ask 92 = .ok (.goto 17, 3) := by decide +kernel
theorem d_Mo_ask_95 : decode b_Mo_ask 95 = .ok (.aload_n 0, 1) := by decide +kernel
theorem d_Mo_ask_96 : decode b_Mo_ask 96 = .ok (.getfield 67, 3) := by decide +kernel
theorem d_Mo_ask_99 : decode b_Mo_ask 99 = .ok (.bipush 60, 2) := by decide +kernel
theorem d_Mo_ask_101 : decode b_Mo_ask 101 = .ok (.if_icmp .ne 7, 3) := by decide +kernel
theorem d_Mo_ask_104 : decode b_Mo_ask 104 = .ok (.iconst 4, 1) := by decide +kernel
theorem d_Mo_ask_105 : decode b_Mo_ask 105 = .ok (.goto 4, 3) := by decide +kernel
theorem d_Mo_ask_108 : decode b_Mo_ask 108 = .ok (.iconst 0, 1) := by decide +kernel
theorem d_Mo_ask_109 : decode b_Mo_ask 109 = .ok (.putfield 53, 3) := by decide +kernel
theorem d_Mo_ask_112 : decode b_Mo_ask 112 = .ok (.aload_n 0, 1) := by decide +kernel
theorem d_Mo_ask_113 : decode b_Mo_ask 113 = .ok (.getfield 53, 3) := by decide +kernel
theorem d_Mo_ask_116 : decode b_Mo_ask 116 = .ok (.ifCond .le 5, 3) := by decide +kernel
theorem d_Mo_ask_119 : decode b_Mo_ask 119 = .ok (.iconst 0, 1) := by decide +kernel
theorem d_Mo_ask_120 : decode b_Mo_ask 120 = .ok (.ireturn, 1) := by decide +kernel
theorem d_Mo_ask_121 : decode b_Mo_ask 121 = .ok (.aload_n 0, 1) := by decide +kernel
theorem d_Mo_ask_122 : decode b_Mo_ask 122 = .ok (.getfield 29, 3) := by decide +kernel
theorem d_Mo_ask_125 : decode b_Mo_ask 125 = .ok (.iload_n 1, 1) := by decide +kernel
theorem d_Mo_ask_126 : decode b_Mo_ask 126 = .ok (.aload_n 0, 1) := by decide +kernel
theorem d_Mo_ask_127 : decode b_Mo_ask 127 = .ok (.getfield 78, 3) := by decide +kernel
theorem d_Mo_ask_130 : decode b_Mo_ask 130 = .ok (.iastore, 1) := by decide +kernel
theorem d_Mo_ask_131 : decode b_Mo_ask 131 = .ok (.aload_n 0, 1) := by decide +kernel
theorem d_Mo_ask_132 : decode b_Mo_ask 132 = .ok (.getfield 7, 3) := by decide +kernel
theorem d_Mo_ask_135 : decode b_Mo_ask 135 = .ok (.iload_n 2, 1) := by decide +kernel
theorem d_Mo_ask_136 : decode b_Mo_ask 136 = .ok (.baload, 1) := by decide +kernel
theorem d_Mo_ask_137 : decode b_Mo_ask 137 = .ok (.ifCond .ne 12, 3) := by decide +kernel
theorem d_Mo_ask_140 : decode b_Mo_ask 140 = .ok (.aload_n 0, 1) := by decide +kernel
theorem d_Mo_ask_141 : decode b_Mo_ask 141 = .ok (.iload_n 1, 1) := by decide +kernel
theorem d_Mo_ask_142 : decode b_Mo_ask 142 = .ok (.iload_n 2, 1) := by decide +kernel
theorem d_Mo_ask_143 : decode b_Mo_ask 143 = .ok (.invokevirtual 87, 3) := by decide +kernel
theorem d_Mo_ask_146 : decode b_Mo_ask 146 = .ok (.ifCond .eq 5, 3) := by decide +kernel
theorem d_Mo_ask_149 : decode b_Mo_ask 149 = .ok (.iconst 0, 1) := by decide +kernel
theorem d_Mo_ask_150 : decode b_Mo_ask 150 = .ok (.ireturn, 1) := by decide +kernel
theorem d_Mo_ask_151 : decode b_Mo_ask 151 = .ok (.aload_n 0, 1) := by decide +kernel
theorem d_Mo_ask_152 : decode b_Mo_ask 152 = .ok (.getfield 67, 3) := by decide +kernel
theorem d_Mo_ask_155 : decode b_Mo_ask 155 = .ok (.iconst 1, 1) := by decide +kernel
