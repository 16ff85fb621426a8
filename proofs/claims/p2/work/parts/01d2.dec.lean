theorem d_RS_told_5 : decode b_RS_told 5 = .ok (.iload_n 2, 1) := by decide +kernel
theorem d_RS_told_6 : decode b_RS_told 6 = .ok (.tableswitch 130 0 6 #[42, 52, 62, 72, 81, 99, 120], 42) := by decide +kernel
theorem d_RS_told_48 : decode b_RS_told 48 = .ok (.aload_n 0, 1) := by decide +kernel
theorem d_RS_told_49 : decode b_RS_told 49 = .ok (.getfield 27, 3) := by decide +kernel
theorem d_RS_told_52 : decode b_RS_told 52 = .ok (.getfield 131, 3) := by decide +kernel
theorem d_RS_told_55 : decode b_RS_told 55 = .ok (.iload_n 1, 1) := by decide +kernel
theorem d_RS_told_56 : decode b_RS_told 56 = .ok (.iaload, 1) := by decide +kernel
theorem d_RS_told_57 : decode b_RS_told 57 = .ok (.ireturn, 1) := by decide +kernel
theorem d_RS_told_58 : decode b_RS_told 58 = .ok (.aload_n 0, 1) := by decide +kernel
theorem d_RS_told_59 : decode b_RS_told 59 = .ok (.getfield 27, 3) := by decide +kernel
theorem d_RS_told_62 : decode b_RS_told 62 = .ok (.getfield 146, 3) := by decide +kernel
theorem d_RS_told_65 : decode b_RS_told 65 = .ok (.iload_n 1, 1) := by decide +kernel
theorem d_RS_told_66 : decode b_RS_told 66 = .ok (.iaload, 1) := by decide +kernel
theorem d_RS_told_67 : decode b_RS_told 67 = .ok (.ireturn, 1) := by decide +kernel
theorem d_RS_told_68 : decode b_RS_told 68 = .ok (.aload_n 0, 1) := by decide +kernel
theorem d_RS_told_69 : decode b_RS_told 69 = .ok (.getfield 27, 3) := by decide +kernel
theorem d_RS_told_72 : decode b_RS_told 72 = .ok (.getfield 157, 3) := by decide +kernel
theorem d_RS_told_75 : decode b_RS_told 75 = .ok (.iload_n 1, 1) := by decide +kernel
theorem d_RS_told_76 : decode b_RS_told 76 = .ok (.iaload, 1) := by decide +kernel
theorem d_RS_told_77 : decode b_RS_told 77 = .ok (.ireturn, 1) := by decide +kernel
theorem d_RS_told_78 : decode b_RS_told 78 = .ok (.aload_n 0, 1) := by decide +kernel
theorem d_RS_told_79 : decode b_RS_told 79 = .ok (.getfield 34, 3) := by decide +kernel
theorem d_RS_told_82 : decode b_RS_told 82 = .ok (.iload_n 1, 1) := by decide +kernel
theorem d_RS_told_83 : decode b_RS_told 83 = .ok (.invokevirtual 125, 3) := by decide +kernel
theorem d_RS_told_86 : decode b_RS_told 86 = .ok (.ireturn, 1) := by decide +kernel
theorem d_RS_told_87 : decode b_RS_told 87 = .ok (.aload_n 0, 1) := by decide +kernel
theorem d_RS_told_88 : decode b_RS_told 88 = .ok (.getfield 27, 3) := by decide +kernel
theorem d_RS_told_91 : decode b_RS_told 91 = .ok (.getfield 168, 3) := by decide +kernel
theorem d_RS_told_94 : decode b_RS_told 94 = .ok (.iload_n 1, 1) := by decide +kernel
theorem d_RS_told_95 : decode b_RS_told 95 = .ok (.baload, 1) := by decide +kernel
theorem d_RS_told_96 : decode b_RS_told 96 = .ok (.ifCond .eq 7, 3) := by decide +kernel
theorem d_RS_told_99 : decode b_RS_told 99 = .ok (.iconst 1, 1) := by decide +kernel
theorem d_RS_told_100 : decode b_RS_told 100 = .ok (.goto 4, 3) := by decide +kernel
theorem d_RS_told_103 : decode b_RS_told 103 = .ok (.iconst 0, 1) := by decide +kernel
theorem d_RS_told_104 : decode b_RS_told 104 = .ok (.ireturn, 1) := by decide +kernel
theorem d_RS_told_105 : decode b_RS_told 105 = .ok (.aload_n 0, 1) := by decide +kernel
theorem d_RS_told_106 : decode b_RS_told 106 = .ok (.getfield 27, 3) := by decide +kernel
theorem d_RS_told_109 : decode b_RS_told 109 = .ok (.iload_n 1, 1) := by decide +kernel
theorem d_RS_told_110 : decode b_RS_told 110 = .ok (.aload_n 0, 1) := by decide +kernel
theorem d_RS_told_111 : decode b_RS_told 111 = .ok (.getfield 7, 3) := by decide +kernel
theorem d_RS_told_114 : decode b_RS_told 114 = .ok (.invokevirtual 176, 3) := by decide +kernel
theorem d_RS_told_117 : decode b_RS_told 117 = .ok (.ifCond .eq 7, 3) := by decide +kernel
theorem d_RS_told_120 : decode b_RS_told 120 = .ok (.iconst 1, 1) := by decide +kernel
theorem d_RS_told_121 : decode b_RS_told 121 = .ok (.goto 4, 3) := by decide +kernel
theorem d_RS_told_124 : decode b_RS_told 124 = .ok (.iconst 0, 1) := by decide +kernel
theorem d_RS_told_125 : decode b_RS_told 125 = .ok (.ireturn, 1) := by decide +kernel
theorem d_RS_told_126 : decode b_RS_told 126 = .ok (.aload_n 0, 1) := by decide +kernel
theorem d_RS_told_127 : decode b_RS_told 127 = .ok (.getfield 27, 3) := by decide +kernel
theorem d_RS_told_130 : decode b_RS_told 130 = .ok (.getfield 93, 3) := by decide +kernel
theorem d_RS_told_133 : decode b_RS_told 133 = .ok (.iload_n 1, 1) := by decide +kernel
theorem d_RS_told_134 : decode b_RS_told 134 = .ok (.iaload, 1) := by decide +kernel
theorem d_RS_told_135 : decode b_RS_told 135 = .ok (.ireturn, 1) := by decide +kernel
theorem d_RS_told_136 : decode b_RS_told 136 = .ok (.new 49, 3) := by decide +kernel
theorem d_RS_told_139 : decode b_RS_told 139 = .ok (.dup, 1) := by decide +kernel
theorem d_RS_told_140 : decode b_RS_told 140 = .ok (.ldc 189, 2) := by decide +kernel
theorem d_RS_told_142 : decode b_RS_told 142 = .ok (.invokespecial 53, 3) := by decide +kernel
theorem d_RS_told_145 : decode b_RS_told 145 = .ok (.athrow, 1) := by decide +kernel
theorem d_RS_grant_0 : decode b_RS_grant 0 = .ok (.aload_n 0, 1) := by decide +kernel
theorem d_RS_grant_1 : decode b_RS_grant 1 = .ok (.iload_n 1, 1) := by decide +kernel
theorem d_RS_grant_2 : decode b_RS_grant 2 = .ok (.invokevirtual 110, 3) := by decide +kernel
theorem d_RS_grant_5 : decode b_RS_grant 5 = .ok (.iload_n 2, 1) := by decide +kernel
theorem d_RS_grant_6 : decode b_RS_grant 6 = .ok (.tableswitch 98 0 5 #[38, 48, 58, 68, 78, 88], 38) := by decide +kernel
theorem d_RS_grant_44 : decode b_RS_grant 44 = .ok (.aload_n 0, 1) := by decide +kernel
theorem d_RS_grant_45 : decode b_RS_grant 45 = .ok (.getfield 34, 3) := by decide +kernel
theorem d_RS_grant_48 : decode b_RS_grant 48 = .ok (.getfield 122, 3) := by decide +kernel
theorem d_RS_grant_51 : decode b_RS_grant 51 = .ok (.iload_n 1, 1) := by decide +kernel
theorem d_RS_grant_52 : decode b_RS_grant 52 = .ok (.iaload, 1) := by decide +kernel
theorem d_RS_grant_53 : decode b_RS_grant 53 = .ok (.ireturn, 1) := by decide +kernel
theorem d_RS_grant_54 : decode b_RS_grant 54 = .ok (.aload_n 0, 1) := by decide +kernel
theorem d_RS_grant_55 : decode b_RS_grant 55 = .ok (.getfield 34, 3) := by decide +kernel
theorem d_RS_grant_58 : decode b_RS_grant 58 = .ok (.getfield 191, 3) := by decide +kernel
theorem d_RS_grant_61 : decode b_RS_grant 61 = .ok (.iload_n 1, 1) := by decide +kernel
theorem d_RS_grant_62 : decode b_RS_grant 62 = .ok (.iaload, 1) := by decide +kernel
theorem d_RS_grant_63 : decode b_RS_grant 63 = .ok (.ireturn, 1) := by decide +kernel
theorem d_RS_grant_64 : decode b_RS_grant 64 = .ok (.aload_n 0, 1) := by decide +kernel
theorem d_RS_grant_65 : decode b_RS_grant 65 = .ok (.getfield 34, 3) := by decide +kernel
theorem d_RS_grant_68 : decode b_RS_grant 68 = .ok (.getfield 192, 3) := by decide +kernel
theorem d_RS_grant_71 : decode b_RS_grant 71 = .ok (.iload_n 1, 1) := by decide +kernel
theorem d_RS_grant_72 : decode b_RS_grant 72 = .ok (.iaload, 1) := by decide +kernel
theorem d_RS_grant_73 : decode b_RS_grant 73 = .ok (.ireturn, 1) := by decide +kernel
theorem d_RS_grant_74 : decode b_RS_grant 74 = .ok (.aload_n 0, 1) := by decide +kernel
theorem d_RS_grant_75 : decode b_RS_grant 75 = .ok (.getfield 34, 3) := by decide +kernel
theorem d_RS_grant_78 : decode b_RS_grant 78 = .ok (.getfield 195, 3) := by decide +kernel
theorem d_RS_grant_81 : decode b_RS_grant 81 = .ok (.iload_n 1, 1) := by decide +kernel
theorem d_RS_grant_82 : decode b_RS_grant 82 = .ok (.iaload, 1) := by decide +kernel
theorem d_RS_grant_83 : decode b_RS_grant 83 = .ok (.ireturn, 1) := by decide +kernel
theorem d_RS_grant_84 : decode b_RS_grant 84 = .ok (.aload_n 0, 1) := by decide +kernel
theorem d_RS_grant_85 : decode b_RS_grant 85 = .ok (.getfield 34, 3) := by decide +kernel
theorem d_RS_grant_88 : decode b_RS_grant 88 = .ok (.getfield 198, 3) := by decide +kernel
theorem d_RS_grant_91 : decode b_RS_grant 91 = .ok (.iload_n 1, 1) := by decide +kernel
theorem d_RS_grant_92 : decode b_RS_grant 92 = .ok (.iaload, 1) := by decide +kernel
theorem d_RS_grant_93 : decode b_RS_grant 93 = .ok (.ireturn, 1) := by decide +kernel
theorem d_RS_grant_94 : decode b_RS_grant 94 = .ok (.aload_n 0, 1) := by decide +kernel
theorem d_RS_grant_95 : decode b_RS_grant 95 = .ok (.getfield 34, 3) := by decide +kernel
theorem d_RS_grant_98 : decode b_RS_grant 98 = .ok (.getfield 119, 3) := by decide +kernel
theorem d_RS_grant_101 : decode b_RS_grant 101 = .ok (.iload_n 1, 1) := by decide +kernel
theorem d_RS_grant_102 : decode b_RS_grant 102 = .ok (.iaload, 1) := by decide +kernel
theorem d_RS_grant_103 : decode b_RS_grant 103 = .ok (.ireturn, 1) := by decide +kernel
theorem d_RS_grant_104 : decode b_RS_grant 104 = .ok (.new 49, 3) := by decide +kernel
theorem d_RS_grant_107 : decode b_RS_grant 107 = .ok (.dup, 1) := by decide +kernel
theorem d_RS_grant_108 : decode b_RS_grant 108 = .ok (.ldc 201, 2) := by decide +kernel
theorem d_RS_grant_110 : decode b_RS_grant 110 = .ok (.invokespecial 53, 3) := by decide +kernel
theorem d_RS_grant_113 : decode b_RS_grant 113 = .ok (.athrow, 1) := by decide +kernel
theorem d_Gr_allLive_0 : decode b_Gr_allLive 0 = .ok (.iconst 0, 1) := by decide +kernel
theorem d_Gr_allLive_1 : decode b_Gr_allLive 1 = .ok (.istore_n 1, 1) := by decide +kernel
theorem d_Gr_allLive_2 : decode b_Gr_allLive 2 = .ok (.iconst 1, 1) := by decide +kernel
theorem d_Gr_allLive_3 : decode b_Gr_allLive 3 = .ok (.istore_n 2, 1) := by decide +kernel
theorem d_Gr_allLive_4 : decode b_Gr_allLive 4 = .ok (.iload_n 2, 1) := by decide +kernel
theorem d_Gr_allLive_5 : decode b_Gr_allLive 5 = .ok (.aload_n 0, 1) := by decide +kernel
theorem d_Gr_allLive_6 : decode b_Gr_allLive 6 = .ok (.getfield 9, 3) := by decide +kernel
theorem d_Gr_allLive_9 : decode b_Gr_allLive 9 = .ok (.if_icmp .gt 20, 3) := by decide +kernel
theorem d_Gr_allLive_12 : decode b_Gr_allLive 12 = .ok (.aload_n 0, 1) := by decide +kernel
theorem d_Gr_allLive_13 : decode b_Gr_allLive 13 = .ok (.iload_n 2, 1) := by decide +kernel
theorem d_Gr_allLive_14 : decode b_Gr_allLive 14 = .ok (.invokevirtual 34, 3) := by decide +kernel
theorem d_Gr_allLive_17 : decode b_Gr_allLive 17 = .ok (.ifCond .eq 6, 3) := by decide +kernel
theorem d_Gr_allLive_20 : decode b_Gr_allLive 20 = .ok (.iinc 1 1, 3) := by decide +kernel
theorem d_Gr_allLive_23 : decode b_Gr_allLive 23 = .ok (.iinc 2 1, 3) := by decide +kernel
theorem d_Gr_allLive_26 : decode b_Gr_allLive 26 = .ok (.goto (-22), 3) := by decide +kernel
theorem d_Gr_allLive_29 : decode b_Gr_allLive 29 = .ok (.iload_n 1, 1) := by decide +kernel
theorem d_Gr_allLive_30 : decode b_Gr_allLive 30 = .ok (.ireturn, 1) := by decide +kernel
theorem d_Rb_allWaiting_0 : decode b_Rb_allWaiting 0 = .ok (.iconst 0, 1) := by decide +kernel
theorem d_Rb_allWaiting_1 : decode b_Rb_allWaiting 1 = .ok (.istore_n 1, 1) := by decide +kernel
theorem d_Rb_allWaiting_2 : decode b_Rb_allWaiting 2 = .ok (.iconst 0, 1) := by decide +kernel
theorem d_Rb_allWaiting_3 : decode b_Rb_allWaiting 3 = .ok (.istore_n 2, 1) := by decide +kernel
theorem d_Rb_allWaiting_4 : decode b_Rb_allWaiting 4 = .ok (.iload_n 2, 1) := by decide +kernel
theorem d_Rb_allWaiting_5 : decode b_Rb_allWaiting 5 = .ok (.aload_n 0, 1) := by decide +kernel
theorem d_Rb_allWaiting_6 : decode b_Rb_allWaiting 6 = .ok (.getfield 9, 3) := by decide +kernel
theorem d_Rb_allWaiting_9 : decode b_Rb_allWaiting 9 = .ok (.if_icmp .ge 22, 3) := by decide +kernel
theorem d_Rb_allWaiting_12 : decode b_Rb_allWaiting 12 = .ok (.aload_n 0, 1) := by decide +kernel
theorem d_Rb_allWaiting_13 : decode b_Rb_allWaiting 13 = .ok (.getfield 26, 3) := by decide +kernel
theorem d_Rb_allWaiting_16 : decode b_Rb_allWaiting 16 = .ok (.iload_n 2, 1) := by decide +kernel
theorem d_Rb_allWaiting_17 : decode b_Rb_allWaiting 17 = .ok (.iaload, 1) := by decide +kernel
theorem d_Rb_allWaiting_18 : decode b_Rb_allWaiting 18 = .ok (.iconst (-1), 1) := by decide +kernel
theorem d_Rb_allWaiting_19 : decode b_Rb_allWaiting 19 = .ok (.if_icmp .eq 6, 3) := by decide +kernel
theorem d_Rb_allWaiting_22 : decode b_Rb_allWaiting 22 = .ok (.iinc 1 1, 3) := by decide +kernel
theorem d_Rb_allWaiting_25 : decode b_Rb_allWaiting 25 = .ok (.iinc 2 1, 3) := by decide +kernel
theorem d_Rb_allWaiting_28 : decode b_Rb_allWaiting 28 = .ok (.goto (-24), 3) := by decide +kernel
theorem d_Rb_allWaiting_31 : decode b_Rb_allWaiting 31 = .ok (.iload_n 1, 1) := by decide +kernel
theorem d_Rb_allWaiting_32 : decode b_Rb_allWaiting 32 = .ok (.ireturn, 1) := by decide +kernel
theorem d_Gr_livePairsMeeting_0 : decode b_Gr_livePairsMeeting 0 = .ok (.iconst 0, 1) := by decide +kernel
theorem d_Gr_livePairsMeeting_1 : decode b_Gr_livePairsMeeting 1 = .ok (.istore_n 1, 1) := by decide +kernel
theorem d_Gr_livePairsMeeting_2 : decode b_Gr_livePairsMeeting 2 = .ok (.iconst 1, 1) := by decide +kernel
theorem d_Gr_livePairsMeeting_3 : decode b_Gr_livePairsMeeting 3 = .ok (.istore_n 2, 1) := by decide +kernel
theorem d_Gr_livePairsMeeting_4 : decode b_Gr_livePairsMeeting 4 = .ok (.iload_n 2, 1) := by decide +kernel
theorem d_Gr_livePairsMeeting_5 : decode b_Gr_livePairsMeeting 5 = .ok (.aload_n 0, 1) := by decide +kernel
theorem d_Gr_livePairsMeeting_6 : decode b_Gr_livePairsMeeting 6 = .ok (.getfield 9, 3) := by decide +kernel
theorem d_Gr_livePairsMeeting_9 : decode b_Gr_livePairsMeeting 9 = .ok (.if_icmp .gt 55, 3) := by decide +kernel
theorem d_Gr_livePairsMeeting_12 : decode b_Gr_livePairsMeeting 12 = .ok (.iload_n 2, 1) := by decide +kernel
theorem d_Gr_livePairsMeeting_13 : decode b_Gr_livePairsMeeting 13 = .ok (.iconst 1, 1) := by decide +kernel
theorem d_Gr_livePairsMeeting_14 : decode b_Gr_livePairsMeeting 14 = .ok (.iadd, 1) := by decide +kernel
theorem d_Gr_livePairsMeeting_15 : decode b_Gr_livePairsMeeting 15 = .ok (.istore_n 3, 1) := by decide +kernel
theorem d_Gr_livePairsMeeting_16 : decode b_Gr_livePairsMeeting 16 = .ok (.iload_n 3, 1) := by decide +kernel
theorem d_Gr_livePairsMeeting_17 : decode b_Gr_livePairsMeeting 17 = .ok (.aload_n 0, 1) := by decide +kernel
theorem d_Gr_livePairsMeeting_18 : decode b_Gr_livePairsMeeting 18 = .ok (.getfield 9, 3) := by decide +kernel
theorem d_Gr_livePairsMeeting_21 : decode b_Gr_livePairsMeeting 21 = .ok (.if_icmp .gt 37, 3) := by decide +kernel
theorem d_Gr_livePairsMeeting_24 : decode b_Gr_livePairsMeeting 24 = .ok (.aload_n 0, 1) := by decide +kernel
theorem d_Gr_livePairsMeeting_25 : decode b_Gr_livePairsMeeting 25 = .ok (.iload_n 2, 1) := by decide +kernel
theorem d_Gr_livePairsMeeting_26 : decode b_Gr_livePairsMeeting 26 = .ok (.invokevirtual 34, 3) := by decide +kernel
theorem d_Gr_livePairsMeeting_29 : decode b_Gr_livePairsMeeting 29 = .ok (.ifCond .eq 23, 3) := by decide +kernel
theorem d_Gr_livePairsMeeting_32 : decode b_Gr_livePairsMeeting 32 = .ok (.aload_n 0, 1) := by decide +kernel
theorem d_Gr_livePairsMeeting_33 : decode b_Gr_livePairsMeeting 33 = .ok (.iload_n 3, 1) := by decide +kernel
theorem d_Gr_livePairsMeeting_34 : decode b_Gr_livePairsMeeting 34 = .ok (.invokevirtual 34, 3) := by decide +kernel
theorem d_Gr_livePairsMeeting_37 : decode b_Gr_livePairsMeeting 37 = .ok (.ifCond .eq 15, 3) := by decide +kernel
theorem d_Gr_livePairsMeeting_40 : decode b_Gr_livePairsMeeting 40 = .ok (.aload_n 0, 1) := by decide +kernel
theorem d_Gr_livePairsMeeting_41 : decode b_Gr_livePairsMeeting 41 = .ok (.iload_n 2, 1) := by decide +kernel
theorem d_Gr_livePairsMeeting_42 : decode b_Gr_livePairsMeeting 42 = .ok (.iload_n 3, 1) := by decide +kernel
theorem d_Gr_livePairsMeeting_43 : decode b_Gr_livePairsMeeting 43 = .ok (.invokevirtual 62, 3) := by decide +kernel
theorem d_Gr_livePairsMeeting_46 : decode b_Gr_livePairsMeeting 46 = .ok (.ifCond .eq 6, 3) := by decide +kernel
theorem d_Gr_livePairsMeeting_49 : decode b_Gr_livePairsMeeting 49 = .ok (.iinc 1 1, 3) := by decide +kernel
theorem d_Gr_livePairsMeeting_52 : decode b_Gr_livePairsMeeting 52 = .ok (.iinc 3 1, 3) := by decide +kernel
theorem d_Gr_livePairsMeeting_55 : decode b_Gr_livePairsMeeting 55 = .ok (.goto (-39), 3) := by decide +kernel
theorem d_Gr_livePairsMeeting_58 : decode b_Gr_livePairsMeeting 58 = .ok (.iinc 2 1, 3) := by decide +kernel
theorem d_Gr_livePairsMeeting_61 : decode b_Gr_livePairsMeeting 61 = .ok (.goto (-57), 3) := by decide +kernel
theorem d_Gr_livePairsMeeting_64 : decode b_Gr_livePairsMeeting 64 = .ok (.iload_n 1, 1) := by decide +kernel
theorem d_Gr_livePairsMeeting_65 : decode b_Gr_livePairsMeeting 65 = .ok (.ireturn, 1) := by decide +kernel
theorem d_RS_count_0 : decode b_RS_count 0 = .ok (.iload_n 1, 1) := by decide +kernel
theorem d_RS_count_1 : decode b_RS_count 1 = .ok (.tableswitch 93 0 6 #[43, 48, 56, 64, 72, 77, 85], 43) := by decide +kernel
theorem d_RS_count_44 : decode b_RS_count 44 = .ok (.aload_n 0, 1) := by decide +kernel
theorem d_RS_count_45 : decode b_RS_count 45 = .ok (.getfield 13, 3) := by decide +kernel
theorem d_RS_count_48 : decode b_RS_count 48 = .ok (.ireturn, 1) := by decide +kernel
theorem d_RS_count_49 : decode b_RS_count 49 = .ok (.aload_n 0, 1) := by decide +kernel
theorem d_RS_count_50 : decode b_RS_count 50 = .ok (.getfield 27, 3) := by decide +kernel
theorem d_RS_count_53 : decode b_RS_count 53 = .ok (.getfield 68, 3) := by decide +kernel
theorem d_RS_count_56 : decode b_RS_count 56 = .ok (.ireturn, 1) := by decide +kernel
theorem d_RS_count_57 : decode b_RS_count 57 = .ok (.aload_n 0, 1) := by decide +kernel
theorem d_RS_count_58 : decode b_RS_count 58 = .ok (.getfield 34, 3) := by decide +kernel
theorem d_RS_count_61 : decode b_RS_count 61 = .ok (.getfield 90, 3) := by decide +kernel
theorem d_RS_count_64 : decode b_RS_count 64 = .ok (.ireturn, 1) := by decide +kernel
theorem d_RS_count_65 : decode b_RS_count 65 = .ok (.aload_n 0, 1) := by decide +kernel
theorem d_RS_count_66 : decode b_RS_count 66 = .ok (.getfield 34, 3) := by decide +kernel
theorem d_RS_count_69 : decode b_RS_count 69 = .ok (.invokevirtual 203, 3) := by decide +kernel
theorem d_RS_count_72 : decode b_RS_count 72 = .ok (.ireturn, 1) := by decide +kernel
theorem d_RS_count_73 : decode b_RS_count 73 = .ok (.aload_n 0, 1) := by decide +kernel
theorem d_RS_count_74 : decode b_RS_count 74 = .ok (.getfield 7, 3) := by decide +kernel
theorem d_RS_count_77 : decode b_RS_count 77 = .ok (.ireturn, 1) := by decide +kernel
theorem d_RS_count_78 : decode b_RS_count 78 = .ok (.aload_n 0, 1) := by decide +kernel
theorem d_RS_count_79 : decode b_RS_count 79 = .ok (.getfield 27, 3) := by decide +kernel
theorem d_RS_count_82 : decode b_RS_count 82 = .ok (.invokevirtual 207, 3) := by decide +kernel
theorem d_RS_count_85 : decode b_RS_count 85 = .ok (.ireturn, 1) := by decide +kernel
theorem d_RS_count_86 : decode b_RS_count 86 = .ok (.aload_n 0, 1) := by decide +kernel
theorem d_RS_count_87 : decode b_RS_count 87 = .ok (.getfield 34, 3) := by decide +kernel
theorem d_RS_count_90 : decode b_RS_count 90 = .ok (.invokevirtual 210, 3) := by decide +kernel
theorem d_RS_count_93 : decode b_RS_count 93 = .ok (.ireturn, 1) := by decide +kernel
theorem d_RS_count_94 : decode b_RS_count 94 = .ok (.iconst (-1), 1) := by decide +kernel
theorem d_RS_count_95 : decode b_RS_count 95 = .ok (.ireturn, 1) := by decide +kernel
theorem d_RS_init_0 : decode b_RS_init 0 = .ok (.aload_n 0, 1) := by decide +kernel
theorem d_RS_init_1 : decode b_RS_init 1 = .ok (.invokespecial 1, 3) := by decide +kernel
theorem d_RS_init_4 : decode b_RS_init 4 = .ok (.aload_n 0, 1) := by decide +kernel
theorem d_RS_init_5 : decode b_RS_init 5 = .ok (.iconst 0, 1) := by decide +kernel
theorem d_RS_init_6 : decode b_RS_init 6 = .ok (.putfield 7, 3) := by decide +kernel
theorem d_RS_init_9 : decode b_RS_init 9 = .ok (.aload_n 0, 1) := by decide +kernel
theorem d_RS_init_10 : decode b_RS_init 10 = .ok (.iconst 0, 1) := by decide +kernel
theorem d_RS_init_11 : decode b_RS_init 11 = .ok (.putfield 13, 3) := by decide +kernel
theorem d_RS_init_14 : decode b_RS_init 14 = .ok (.aload_n 0, 1) := by decide +kernel
theorem d_RS_init_15 : decode b_RS_init 15 = .ok (.bipush 16, 2) := by decide +kernel
theorem d_RS_init_17 : decode b_RS_init 17 = .ok (.newarray .int, 2) := by decide +kernel
theorem d_RS_init_19 : decode b_RS_init 19 = .ok (.putfield 16, 3) := by decide +kernel
theorem d_RS_init_22 : decode b_RS_init 22 = .ok (.aload_n 0, 1) := by decide +kernel
theorem d_RS_init_23 : decode b_RS_init 23 = .ok (.bipush 16, 2) := by decide +kernel
theorem d_RS_init_25 : decode b_RS_init 25 = .ok (.newarray .boolean, 2) := by decide +kernel
theorem d_RS_init_27 : decode b_RS_init 27 = .ok (.putfield 20, 3) := by decide +kernel
theorem d_RS_init_30 : decode b_RS_init 30 = .ok (.aload_n 0, 1) := by decide +kernel
theorem d_RS_init_31 : decode b_RS_init 31 = .ok (.new 24, 3) := by decide +kernel
theorem d_RS_init_34 : decode b_RS_init 34 = .ok (.dup, 1) := by decide +kernel
theorem d_RS_init_35 : decode b_RS_init 35 = .ok (.invokespecial 26, 3) := by decide +kernel
theorem d_RS_init_38 : decode b_RS_init 38 = .ok (.putfield 27, 3) := by decide +kernel
theorem d_RS_init_41 : decode b_RS_init 41 = .ok (.aload_n 0, 1) := by decide +kernel
theorem d_RS_init_42 : decode b_RS_init 42 = .ok (.new 31, 3) := by decide +kernel
theorem d_RS_init_45 : decode b_RS_init 45 = .ok (.dup, 1) := by decide +kernel
theorem d_RS_init_46 : decode b_RS_init 46 = .ok (.invokespecial 33, 3) := by decide +kernel
theorem d_RS_init_49 : decode b_RS_init 49 = .ok (.putfield 34, 3) := by decide +kernel
theorem d_RS_init_52 : decode b_RS_init 52 = .ok (.return_, 1) := by decide +kernel
theorem d_Rb_init_0 : decode b_Rb_init 0 = .ok (.aload_n 0, 1) := by decide +kernel
theorem d_Rb_init_1 : decode b_Rb_init 1 = .ok (.invokespecial 3, 3) := by decide +kernel
theorem d_Rb_init_4 : decode b_Rb_init 4 = .ok (.aload_n 0, 1) := by decide +kernel
theorem d_Rb_init_5 : decode b_Rb_init 5 = .ok (.iconst 0, 1) := by decide +kernel
theorem d_Rb_init_6 : decode b_Rb_init 6 = .ok (.putfield 9, 3) := by decide +kernel
theorem d_Rb_init_9 : decode b_Rb_init 9 = .ok (.aload_n 0, 1) := by decide +kernel
theorem d_Rb_init_10 : decode b_Rb_init 10 = .ok (.bipush 6, 2) := by decide +kernel
theorem d_Rb_init_12 : decode b_Rb_init 12 = .ok (.newarray .int, 2) := by decide +kernel
theorem d_Rb_init_14 : decode b_Rb_init 14 = .ok (.putfield 15, 3) := by decide +kernel
theorem d_Rb_init_17 : decode b_Rb_init 17 = .ok (.aload_n 0, 1) := by decide +kernel
theorem d_Rb_init_18 : decode b_Rb_init 18 = .ok (.bipush 6, 2) := by decide +kernel
theorem d_Rb_init_20 : decode b_Rb_init 20 = .ok (.newarray .boolean, 2) := by decide +kernel
theorem d_Rb_init_22 : decode b_Rb_init 22 = .ok (.putfield 19, 3) := by decide +kernel
theorem d_Rb_init_25 : decode b_Rb_init 25 = .ok (.aload_n 0, 1) := by decide +kernel
theorem d_Rb_init_26 : decode b_Rb_init 26 = .ok (.bipush 6, 2) := by decide +kernel
theorem d_Rb_init_28 : decode b_Rb_init 28 = .ok (.newarray .int, 2) := by decide +kernel
theorem d_Rb_init_30 : decode b_Rb_init 30 = .ok (.putfield 23, 3) := by decide +kernel
theorem d_Rb_init_33 : decode b_Rb_init 33 = .ok (.aload_n 0, 1) := by decide +kernel
theorem d_Rb_init_34 : decode b_Rb_init 34 = .ok (.bipush 6, 2) := by decide +kernel
theorem d_Rb_init_36 : decode b_Rb_init 36 = .ok (.newarray .int, 2) := by decide +kernel
theorem d_Rb_init_38 : decode b_Rb_init 38 = .ok (.putfield 26, 3) := by decide +kernel
theorem d_Rb_init_41 : decode b_Rb_init 41 = .ok (.aload_n 0, 1) := by decide +kernel
theorem d_Rb_init_42 : decode b_Rb_init 42 = .ok (.bipush 6, 2) := by decide +kernel
theorem d_Rb_init_44 : decode b_Rb_init 44 = .ok (.newarray .boolean, 2) := by decide +kernel
theorem d_Rb_init_46 : decode b_Rb_init 46 = .ok (.putfield 29, 3) := by decide +kernel
theorem d_Rb_init_49 : decode b_Rb_init 49 = .ok (.aload_n 0, 1) := by decide +kernel
theorem d_Rb_init_50 : decode b_Rb_init 50 = .ok (.bipush 6, 2) := by decide +kernel
theorem d_Rb_init_52 : decode b_Rb_init 52 = .ok (.newarray .int, 2) := by decide +kernel
theorem d_Rb_init_54 : decode b_Rb_init 54 = .ok (.putfield 32, 3) := by decide +kernel
theorem d_Rb_init_57 : decode b_Rb_init 57 = .ok (.return_, 1) := by decide +kernel
theorem d_Gr_init_0 : decode b_Gr_init 0 = .ok (.aload_n 0, 1) := by decide +kernel
theorem d_Gr_init_1 : decode b_Gr_init 1 = .ok (.invokespecial 3, 3) := by decide +kernel
theorem d_Gr_init_4 : decode b_Gr_init 4 = .ok (.aload_n 0, 1) := by decide +kernel
theorem d_Gr_init_5 : decode b_Gr_init 5 = .ok (.iconst 0, 1) := by decide +kernel
theorem d_Gr_init_6 : decode b_Gr_init 6 = .ok (.putfield 9, 3) := by decide +kernel
theorem d_Gr_init_9 : decode b_Gr_init 9 = .ok (.aload_n 0, 1) := by decide +kernel
theorem d_Gr_init_10 : decode b_Gr_init 10 = .ok (.bipush 61, 2) := by decide +kernel
theorem d_Gr_init_12 : decode b_Gr_init 12 = .ok (.newarray .int, 2) := by decide +kernel
theorem d_Gr_init_14 : decode b_Gr_init 14 = .ok (.putfield 15, 3) := by decide +kernel
theorem d_Gr_init_17 : decode b_Gr_init 17 = .ok (.aload_n 0, 1) := by decide +kernel
theorem d_Gr_init_18 : decode b_Gr_init 18 = .ok (.bipush 61, 2) := by decide +kernel
theorem d_Gr_init_20 : decode b_Gr_init 20 = .ok (.newarray .int, 2) := by decide +kernel
theorem d_Gr_init_22 : decode b_Gr_init 22 = .ok (.putfield 19, 3) := by decide +kernel
theorem d_Gr_init_25 : decode b_Gr_init 25 = .ok (.aload_n 0, 1) := by decide +kernel
theorem d_Gr_init_26 : decode b_Gr_init 26 = .ok (.bipush 61, 2) := by decide +kernel
theorem d_Gr_init_28 : decode b_Gr_init 28 = .ok (.newarray .int, 2) := by decide +kernel
theorem d_Gr_init_30 : decode b_Gr_init 30 = .ok (.putfield 22, 3) := by decide +kernel
theorem d_Gr_init_33 : decode b_Gr_init 33 = .ok (.aload_n 0, 1) := by decide +kernel
theorem d_Gr_init_34 : decode b_Gr_init 34 = .ok (.bipush 61, 2) := by decide +kernel
theorem d_Gr_init_36 : decode b_Gr_init 36 = .ok (.newarray .int, 2) := by decide +kernel
theorem d_Gr_init_38 : decode b_Gr_init 38 = .ok (.putfield 25, 3) := by decide +kernel
theorem d_Gr_init_41 : decode b_Gr_init 41 = .ok (.aload_n 0, 1) := by decide +kernel
theorem d_Gr_init_42 : decode b_Gr_init 42 = .ok (.bipush 61, 2) := by decide +kernel
theorem d_Gr_init_44 : decode b_Gr_init 44 = .ok (.newarray .int, 2) := by decide +kernel
theorem d_Gr_init_46 : decode b_Gr_init 46 = .ok (.putfield 28, 3) := by decide +kernel
theorem d_Gr_init_49 : decode b_Gr_init 49 = .ok (.aload_n 0, 1) := by decide +kernel
theorem d_Gr_init_50 : decode b_Gr_init 50 = .ok (.bipush 61, 2) := by decide +kernel
theorem d_Gr_init_52 : decode b_Gr_init 52 = .ok (.newarray .int, 2) := by decide +kernel
theorem d_Gr_init_54 : decode b_Gr_init 54 = .ok (.putfield 31, 3) := by decide +kernel
theorem d_Gr_init_57 : decode b_Gr_init 57 = .ok (.return_, 1) := by decide +kernel
theorem d_bitCount_0 : decode b_bitCount 0 = .ok (.iload_n 0, 1) := by decide +kernel
theorem d_bitCount_1 : decode b_bitCount 1 = .ok (.iload_n 0, 1) := by decide +kernel
theorem d_bitCount_2 : decode b_bitCount 2 = .ok (.iconst 1, 1) := by decide +kernel
theorem d_bitCount_3 : decode b_bitCount 3 = .ok (.iushr, 1) := by decide +kernel
theorem d_bitCount_4 : decode b_bitCount 4 = .ok (.ldc_w 265, 3) := by decide +kernel
theorem d_bitCount_7 : decode b_bitCount 7 = .ok (.iand, 1) := by decide +kernel
theorem d_bitCount_8 : decode b_bitCount 8 = .ok (.isub, 1) := by decide +kernel
theorem d_bitCount_9 : decode b_bitCount 9 = .ok (.istore_n 0, 1) := by decide +kernel
theorem d_bitCount_10 : decode b_bitCount 10 = .ok (.iload_n 0, 1) := by decide +kernel
theorem d_bitCount_11 : decode b_bitCount 11 = .ok (.ldc_w 266, 3) := by decide +kernel
theorem d_bitCount_14 : decode b_bitCount 14 = .ok (.iand, 1) := by decide +kernel
theorem d_bitCount_15 : decode b_bitCount 15 = .ok (.iload_n 0, 1) := by decide +kernel
theorem d_bitCount_16 : decode b_bitCount 16 = .ok (.iconst 2, 1) := by decide +kernel
theorem d_bitCount_17 : decode b_bitCount 17 = .ok (.iushr, 1) := by decide +kernel
theorem d_bitCount_18 : decode b_bitCount 18 = .ok (.ldc_w 266, 3) := by decide +kernel
theorem d_bitCount_21 : decode b_bitCount 21 = .ok (.iand, 1) := by decide +kernel
theorem d_bitCount_22 : decode b_bitCount 22 = .ok (.iadd, 1) := by decide +kernel
theorem d_bitCount_23 : decode b_bitCount 23 = .ok (.istore_n 0, 1) := by decide +kernel
theorem d_bitCount_24 : decode b_bitCount 24 = .ok (.iload_n 0, 1) := by decide +kernel
theorem d_bitCount_25 : decode b_bitCount 25 = .ok (.iload_n 0, 1) := by decide +kernel
theorem d_bitCount_26 : decode b_bitCount 26 = .ok (.iconst 4, 1) := by decide +kernel
theorem d_bitCount_27 : decode b_bitCount 27 = .ok (.iushr, 1) := by decide +kernel
theorem d_bitCount_28 : decode b_bitCount 28 = .ok (.iadd, 1) := by decide +kernel
theorem d_bitCount_29 : decode b_bitCount 29 = .ok (.ldc_w 267, 3) := by decide +kernel
theorem d_bitCount_32 : decode b_bitCount 32 = .ok (.iand, 1) := by decide +kernel
theorem d_bitCount_33 : decode b_bitCount 33 = .ok (.istore_n 0, 1) := by decide +kernel
theorem d_bitCount_34 : decode b_bitCount 34 = .ok (.iload_n 0, 1) := by decide +kernel
theorem d_bitCount_35 : decode b_bitCount 35 = .ok (.iload_n 0, 1) := by decide +kernel
theorem d_bitCount_36 : decode b_bitCount 36 = .ok (.bipush 8, 2) := by decide +kernel
theorem d_bitCount_38 : decode b_bitCount 38 = .ok (.iushr, 1) := by decide +kernel
theorem d_bitCount_39 : decode b_bitCount 39 = .ok (.iadd, 1) := by decide +kernel
theorem d_bitCount_40 : decode b_bitCount 40 = .ok (.istore_n 0, 1) := by decide +kernel
theorem d_bitCount_41 : decode b_bitCount 41 = .ok (.iload_n 0, 1) := by decide +kernel
theorem d_bitCount_42 : decode b_bitCount 42 = .ok (.iload_n 0, 1) := by decide +kernel
theorem d_bitCount_43 : decode b_bitCount 43 = .ok (.bipush 16, 2) := by decide +kernel
theorem d_bitCount_45 : decode b_bitCount 45 = .ok (.iushr, 1) := by decide +kernel
theorem d_bitCount_46 : decode b_bitCount 46 = .ok (.iadd, 1) := by decide +kernel
theorem d_bitCount_47 : decode b_bitCount 47 = .ok (.istore_n 0, 1) := by decide +kernel
theorem d_bitCount_48 : decode b_bitCount 48 = .ok (.iload_n 0, 1) := by decide +kernel
theorem d_bitCount_49 : decode b_bitCount 49 = .ok (.bipush 63, 2) := by decide +kernel
theorem d_bitCount_51 : decode b_bitCount 51 = .ok (.iand, 1) := by decide +kernel
theorem d_bitCount_52 : decode b_bitCount 52 = .ok (.ireturn, 1) := by decide +kernel
