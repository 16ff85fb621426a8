theorem d_RS_needPiece_0 : decode b_RS_needPiece 0 = .ok (.iload_n 1, 1) := by decide +kernel
theorem d_RS_needPiece_1 : decode b_RS_needPiece 1 = .ok (.ifCond .lt 11, 3) := by decide +kernel
theorem d_RS_needPiece_4 : decode b_RS_needPiece 4 = .ok (.iload_n 1, 1) := by decide +kernel
theorem d_RS_needPiece_5 : decode b_RS_needPiece 5 = .ok (.aload_n 0, 1) := by decide +kernel
theorem d_RS_needPiece_6 : decode b_RS_needPiece 6 = .ok (.getfield 13, 3) := by decide +kernel
theorem d_RS_needPiece_9 : decode b_RS_needPiece 9 = .ok (.if_icmp .lt 13, 3) := by decide +kernel
theorem d_RS_needPiece_12 : decode b_RS_needPiece 12 = .ok (.new 213, 3) := by decide +kernel
theorem d_RS_needPiece_15 : decode b_RS_needPiece 15 = .ok (.dup, 1) := by decide +kernel
theorem d_RS_needPiece_16 : decode b_RS_needPiece 16 = .ok (.ldc 215, 2) := by decide +kernel
theorem d_RS_needPiece_18 : decode b_RS_needPiece 18 = .ok (.invokespecial 217, 3) := by decide +kernel
theorem d_RS_needPiece_21 : decode b_RS_needPiece 21 = .ok (.athrow, 1) := by decide +kernel
theorem d_RS_needPiece_22 : decode b_RS_needPiece 22 = .ok (.return_, 1) := by decide +kernel
theorem d_RS_needRobot_0 : decode b_RS_needRobot 0 = .ok (.iload_n 1, 1) := by decide +kernel
theorem d_RS_needRobot_1 : decode b_RS_needRobot 1 = .ok (.ifCond .lt 14, 3) := by decide +kernel
theorem d_RS_needRobot_4 : decode b_RS_needRobot 4 = .ok (.iload_n 1, 1) := by decide +kernel
theorem d_RS_needRobot_5 : decode b_RS_needRobot 5 = .ok (.aload_n 0, 1) := by decide +kernel
theorem d_RS_needRobot_6 : decode b_RS_needRobot 6 = .ok (.getfield 27, 3) := by decide +kernel
theorem d_RS_needRobot_9 : decode b_RS_needRobot 9 = .ok (.getfield 68, 3) := by decide +kernel
theorem d_RS_needRobot_12 : decode b_RS_needRobot 12 = .ok (.if_icmp .lt 13, 3) := by decide +kernel
theorem d_RS_needRobot_15 : decode b_RS_needRobot 15 = .ok (.new 213, 3) := by decide +kernel
theorem d_RS_needRobot_18 : decode b_RS_needRobot 18 = .ok (.dup, 1) := by decide +kernel
theorem d_RS_needRobot_19 : decode b_RS_needRobot 19 = .ok (.ldc 218, 2) := by decide +kernel
theorem d_RS_needRobot_21 : decode b_RS_needRobot 21 = .ok (.invokespecial 217, 3) := by decide +kernel
theorem d_RS_needRobot_24 : decode b_RS_needRobot 24 = .ok (.athrow, 1) := by decide +kernel
theorem d_RS_needRobot_25 : decode b_RS_needRobot 25 = .ok (.return_, 1) := by decide +kernel
theorem d_RS_needGrant_0 : decode b_RS_needGrant 0 = .ok (.iload_n 1, 1) := by decide +kernel
theorem d_RS_needGrant_1 : decode b_RS_needGrant 1 = .ok (.iconst 1, 1) := by decide +kernel
theorem d_RS_needGrant_2 : decode b_RS_needGrant 2 = .ok (.if_icmp .lt 14, 3) := by decide +kernel
theorem d_RS_needGrant_5 : decode b_RS_needGrant 5 = .ok (.iload_n 1, 1) := by decide +kernel
theorem d_RS_needGrant_6 : decode b_RS_needGrant 6 = .ok (.aload_n 0, 1) := by decide +kernel
theorem d_RS_needGrant_7 : decode b_RS_needGrant 7 = .ok (.getfield 34, 3) := by decide +kernel
theorem d_RS_needGrant_10 : decode b_RS_needGrant 10 = .ok (.getfield 90, 3) := by decide +kernel
theorem d_RS_needGrant_13 : decode b_RS_needGrant 13 = .ok (.if_icmp .le 13, 3) := by decide +kernel
theorem d_RS_needGrant_16 : decode b_RS_needGrant 16 = .ok (.new 213, 3) := by decide +kernel
theorem d_RS_needGrant_19 : decode b_RS_needGrant 19 = .ok (.dup, 1) := by decide +kernel
theorem d_RS_needGrant_20 : decode b_RS_needGrant 20 = .ok (.ldc 220, 2) := by decide +kernel
theorem d_RS_needGrant_22 : decode b_RS_needGrant 22 = .ok (.invokespecial 217, 3) := by decide +kernel
theorem d_RS_needGrant_25 : decode b_RS_needGrant 25 = .ok (.athrow, 1) := by decide +kernel
theorem d_RS_needGrant_26 : decode b_RS_needGrant 26 = .ok (.return_, 1) := by decide +kernel
theorem d_RS_needSpan_0 : decode b_RS_needSpan 0 = .ok (.iload_n 1, 1) := by decide +kernel
theorem d_RS_needSpan_1 : decode b_RS_needSpan 1 = .ok (.aload_n 0, 1) := by decide +kernel
theorem d_RS_needSpan_2 : decode b_RS_needSpan 2 = .ok (.getfield 7, 3) := by decide +kernel
theorem d_RS_needSpan_5 : decode b_RS_needSpan 5 = .ok (.if_icmp .lt 19, 3) := by decide +kernel
theorem d_RS_needSpan_8 : decode b_RS_needSpan 8 = .ok (.iload_n 2, 1) := by decide +kernel
theorem d_RS_needSpan_9 : decode b_RS_needSpan 9 = .ok (.iload_n 1, 1) := by decide +kernel
theorem d_RS_needSpan_10 : decode b_RS_needSpan 10 = .ok (.if_icmp .le 14, 3) := by decide +kernel
theorem d_RS_needSpan_13 : decode b_RS_needSpan 13 = .ok (.iload_n 2, 1) := by decide +kernel
theorem d_RS_needSpan_14 : decode b_RS_needSpan 14 = .ok (.aload_n 0, 1) := by decide +kernel
theorem d_RS_needSpan_15 : decode b_RS_needSpan 15 = .ok (.getfield 7, 3) := by decide +kernel
theorem d_RS_needSpan_18 : decode b_RS_needSpan 18 = .ok (.bipush 100, 2) := by decide +kernel
theorem d_RS_needSpan_20 : decode b_RS_needSpan 20 = .ok (.iadd, 1) := by decide +kernel
theorem d_RS_needSpan_21 : decode b_RS_needSpan 21 = .ok (.if_icmp .le 13, 3) := by decide +kernel
theorem d_RS_needSpan_24 : decode b_RS_needSpan 24 = .ok (.new 49, 3) := by decide +kernel
theorem d_RS_needSpan_27 : decode b_RS_needSpan 27 = .ok (.dup, 1) := by decide +kernel
theorem d_RS_needSpan_28 : decode b_RS_needSpan 28 = .ok (.ldc 222, 2) := by decide +kernel
theorem d_RS_needSpan_30 : decode b_RS_needSpan 30 = .ok (.invokespecial 53, 3) := by decide +kernel
theorem d_RS_needSpan_33 : decode b_RS_needSpan 33 = .ok (.athrow, 1) := by decide +kernel
theorem d_RS_needSpan_34 : decode b_RS_needSpan 34 = .ok (.return_, 1) := by decide +kernel
theorem d_RS_needPriority_0 : decode b_RS_needPriority 0 = .ok (.iload_n 1, 1) := by decide +kernel
theorem d_RS_needPriority_1 : decode b_RS_needPriority 1 = .ok (.iconst 1, 1) := by decide +kernel
theorem d_RS_needPriority_2 : decode b_RS_needPriority 2 = .ok (.if_icmp .lt 9, 3) := by decide +kernel
theorem d_RS_needPriority_5 : decode b_RS_needPriority 5 = .ok (.iload_n 1, 1) := by decide +kernel
theorem d_RS_needPriority_6 : decode b_RS_needPriority 6 = .ok (.bipush 9, 2) := by decide +kernel
theorem d_RS_needPriority_8 : decode b_RS_needPriority 8 = .ok (.if_icmp .le 13, 3) := by decide +kernel
theorem d_RS_needPriority_11 : decode b_RS_needPriority 11 = .ok (.new 49, 3) := by decide +kernel
theorem d_RS_needPriority_14 : decode b_RS_needPriority 14 = .ok (.dup, 1) := by decide +kernel
theorem d_RS_needPriority_15 : decode b_RS_needPriority 15 = .ok (.ldc 224, 2) := by decide +kernel
theorem d_RS_needPriority_17 : decode b_RS_needPriority 17 = .ok (.invokespecial 53, 3) := by decide +kernel
theorem d_RS_needPriority_20 : decode b_RS_needPriority 20 = .ok (.athrow, 1) := by decide +kernel
theorem d_RS_needPriority_21 : decode b_RS_needPriority 21 = .ok (.return_, 1) := by decide +kernel
theorem d_RS_piece_0 : decode b_RS_piece 0 = .ok (.aload_n 0, 1) := by decide +kernel
theorem d_RS_piece_1 : decode b_RS_piece 1 = .ok (.getfield 13, 3) := by decide +kernel
theorem d_RS_piece_4 : decode b_RS_piece 4 = .ok (.bipush 16, 2) := by decide +kernel
theorem d_RS_piece_6 : decode b_RS_piece 6 = .ok (.if_icmp .lt 13, 3) := by decide +kernel
theorem d_RS_piece_9 : decode b_RS_piece 9 = .ok (.new 38, 3) := by decide +kernel
theorem d_RS_piece_12 : decode b_RS_piece 12 = .ok (.dup, 1) := by decide +kernel
theorem d_RS_piece_13 : decode b_RS_piece 13 = .ok (.ldc 40, 2) := by decide +kernel
theorem d_RS_piece_15 : decode b_RS_piece 15 = .ok (.invokespecial 42, 3) := by decide +kernel
theorem d_RS_piece_18 : decode b_RS_piece 18 = .ok (.athrow, 1) := by decide +kernel
theorem d_RS_piece_19 : decode b_RS_piece 19 = .ok (.aload_n 0, 1) := by decide +kernel
theorem d_RS_piece_20 : decode b_RS_piece 20 = .ok (.dup, 1) := by decide +kernel
theorem d_RS_piece_21 : decode b_RS_piece 21 = .ok (.getfield 13, 3) := by decide +kernel
theorem d_RS_piece_24 : decode b_RS_piece 24 = .ok (.iconst 1, 1) := by decide +kernel
theorem d_RS_piece_25 : decode b_RS_piece 25 = .ok (.iadd, 1) := by decide +kernel
theorem d_RS_piece_26 : decode b_RS_piece 26 = .ok (.putfield 13, 3) := by decide +kernel
theorem d_RS_piece_29 : decode b_RS_piece 29 = .ok (.aload_n 0, 1) := by decide +kernel
theorem d_RS_piece_30 : decode b_RS_piece 30 = .ok (.getfield 13, 3) := by decide +kernel
theorem d_RS_piece_33 : decode b_RS_piece 33 = .ok (.iconst 1, 1) := by decide +kernel
theorem d_RS_piece_34 : decode b_RS_piece 34 = .ok (.isub, 1) := by decide +kernel
theorem d_RS_piece_35 : decode b_RS_piece 35 = .ok (.ireturn, 1) := by decide +kernel
theorem d_RS_link_0 : decode b_RS_link 0 = .ok (.aload_n 0, 1) := by decide +kernel
theorem d_RS_link_1 : decode b_RS_link 1 = .ok (.iload_n 1, 1) := by decide +kernel
theorem d_RS_link_2 : decode b_RS_link 2 = .ok (.invokevirtual 45, 3) := by decide +kernel
theorem d_RS_link_5 : decode b_RS_link 5 = .ok (.aload_n 0, 1) := by decide +kernel
theorem d_RS_link_6 : decode b_RS_link 6 = .ok (.iload_n 2, 1) := by decide +kernel
theorem d_RS_link_7 : decode b_RS_link 7 = .ok (.invokevirtual 45, 3) := by decide +kernel
theorem d_RS_link_10 : decode b_RS_link 10 = .ok (.iload_n 1, 1) := by decide +kernel
theorem d_RS_link_11 : decode b_RS_link 11 = .ok (.iload_n 2, 1) := by decide +kernel
theorem d_RS_link_12 : decode b_RS_link 12 = .ok (.if_icmp .ne 13, 3) := by decide +kernel
theorem d_RS_link_15 : decode b_RS_link 15 = .ok (.new 49, 3) := by decide +kernel
theorem d_RS_link_18 : decode b_RS_link 18 = .ok (.dup, 1) := by decide +kernel
theorem d_RS_link_19 : decode b_RS_link 19 = .ok (.ldc 51, 2) := by decide +kernel
theorem d_RS_link_21 : decode b_RS_link 21 = .ok (.invokespecial 53, 3) := by decide +kernel
theorem d_RS_link_24 : decode b_RS_link 24 = .ok (.athrow, 1) := by decide +kernel
theorem d_RS_link_25 : decode b_RS_link 25 = .ok (.iload_n 3, 1) := by decide +kernel
theorem d_RS_link_26 : decode b_RS_link 26 = .ok (.ifCond .eq 30, 3) := by decide +kernel
theorem d_RS_link_29 : decode b_RS_link 29 = .ok (.aload_n 0, 1) := by decide +kernel
theorem d_RS_link_30 : decode b_RS_link 30 = .ok (.getfield 16, 3) := by decide +kernel
theorem d_RS_link_33 : decode b_RS_link 33 = .ok (.iload_n 1, 1) := by decide +kernel
theorem d_RS_link_34 : decode b_RS_link 34 = .ok (.dup2, 1) := by decide +kernel
theorem d_RS_link_35 : decode b_RS_link 35 = .ok (.iaload, 1) := by decide +kernel
theorem d_RS_link_36 : decode b_RS_link 36 = .ok (.iconst 1, 1) := by decide +kernel
theorem d_RS_link_37 : decode b_RS_link 37 = .ok (.iload_n 2, 1) := by decide +kernel
theorem d_RS_link_38 : decode b_RS_link 38 = .ok (.ishl, 1) := by decide +kernel
theorem d_RS_link_39 : decode b_RS_link 39 = .ok (.ior, 1) := by decide +kernel
theorem d_RS_link_40 : decode b_RS_link 40 = .ok (.iastore, 1) := by decide +kernel
theorem d_RS_link_41 : decode b_RS_link 41 = .ok (.aload_n 0, 1) := by decide +kernel
theorem d_RS_link_42 : decode b_RS_link 42 = .ok (.getfield 16, 3) := by decide +kernel
theorem d_RS_link_45 : decode b_RS_link 45 = .ok (.iload_n 2, 1) := by decide +kernel
theorem d_RS_link_46 : decode b_RS_link 46 = .ok (.dup2, 1) := by decide +kernel
theorem d_RS_link_47 : decode b_RS_link 47 = .ok (.iaload, 1) := by decide +kernel
theorem d_RS_link_48 : decode b_RS_link 48 = .ok (.iconst 1, 1) := by decide +kernel
theorem d_RS_link_49 : decode b_RS_link 49 = .ok (.iload_n 1, 1) := by decide +kernel
theorem d_RS_link_50 : decode b_RS_link 50 = .ok (.ishl, 1) := by decide +kernel
theorem d_RS_link_51 : decode b_RS_link 51 = .ok (.ior, 1) := by decide +kernel
theorem d_RS_link_52 : decode b_RS_link 52 = .ok (.iastore, 1) := by decide +kernel
theorem d_RS_link_53 : decode b_RS_link 53 = .ok (.goto 31, 3) := by decide +kernel
theorem d_RS_link_56 : decode b_RS_link 56 = .ok (.aload_n 0, 1) := by decide +kernel
theorem d_RS_link_57 : decode b_RS_link 57 = .ok (.getfield 16, 3) := by decide +kernel
theorem d_RS_link_60 : decode b_RS_link 60 = .ok (.iload_n 1, 1) := by decide +kernel
theorem d_RS_link_61 : decode b_RS_link 61 = .ok (.dup2, 1) := by decide +kernel
theorem d_RS_link_62 : decode b_RS_link 62 = .ok (.iaload, 1) := by decide +kernel
theorem d_RS_link_63 : decode b_RS_link 63 = .ok (.iconst 1, 1) := by decide +kernel
theorem d_RS_link_64 : decode b_RS_link 64 = .ok (.iload_n 2, 1) := by decide +kernel
theorem d_RS_link_65 : decode b_RS_link 65 = .ok (.ishl, 1) := by decide +kernel
theorem d_RS_link_66 : decode b_RS_link 66 = .ok (.iconst (-1), 1) := by decide +kernel
theorem d_RS_link_67 : decode b_RS_link 67 = .ok (.ixor, 1) := by decide +kernel
theorem d_RS_link_68 : decode b_RS_link 68 = .ok (.iand, 1) := by decide +kernel
theorem d_RS_link_69 : decode b_RS_link 69 = .ok (.iastore, 1) := by decide +kernel
theorem d_RS_link_70 : decode b_RS_link 70 = .ok (.aload_n 0, 1) := by decide +kernel
theorem d_RS_link_71 : decode b_RS_link 71 = .ok (.getfield 16, 3) := by decide +kernel
theorem d_RS_link_74 : decode b_RS_link 74 = .ok (.iload_n 2, 1) := by decide +kernel
theorem d_RS_link_75 : decode b_RS_link 75 = .ok (.dup2, 1) := by decide +kernel
theorem d_RS_link_76 : decode b_RS_link 76 = .ok (.iaload, 1) := by decide +kernel
theorem d_RS_link_77 : decode b_RS_link 77 = .ok (.iconst 1, 1) := by decide +kernel
theorem d_RS_link_78 : decode b_RS_link 78 = .ok (.iload_n 1, 1) := by decide +kernel
theorem d_RS_link_79 : decode b_RS_link 79 = .ok (.ishl, 1) := by decide +kernel
theorem d_RS_link_80 : decode b_RS_link 80 = .ok (.iconst (-1), 1) := by decide +kernel
theorem d_RS_link_81 : decode b_RS_link 81 = .ok (.ixor, 1) := by decide +kernel
theorem d_RS_link_82 : decode b_RS_link 82 = .ok (.iand, 1) := by decide +kernel
theorem d_RS_link_83 : decode b_RS_link 83 = .ok (.iastore, 1) := by decide +kernel
theorem d_RS_link_84 : decode b_RS_link 84 = .ok (.aload_n 0, 1) := by decide +kernel
theorem d_RS_link_85 : decode b_RS_link 85 = .ok (.getfield 16, 3) := by decide +kernel
theorem d_RS_link_88 : decode b_RS_link 88 = .ok (.iload_n 1, 1) := by decide +kernel
theorem d_RS_link_89 : decode b_RS_link 89 = .ok (.iaload, 1) := by decide +kernel
theorem d_RS_link_90 : decode b_RS_link 90 = .ok (.invokestatic 54, 3) := by decide +kernel
theorem d_RS_link_93 : decode b_RS_link 93 = .ok (.ireturn, 1) := by decide +kernel
theorem d_Rb_standingOn_0 : decode b_Rb_standingOn 0 = .ok (.iconst 0, 1) := by decide +kernel
theorem d_Rb_standingOn_1 : decode b_Rb_standingOn 1 = .ok (.istore_n 2, 1) := by decide +kernel
theorem d_Rb_standingOn_2 : decode b_Rb_standingOn 2 = .ok (.iload_n 2, 1) := by decide +kernel
theorem d_Rb_standingOn_3 : decode b_Rb_standingOn 3 = .ok (.aload_n 0, 1) := by decide +kernel
theorem d_Rb_standingOn_4 : decode b_Rb_standingOn 4 = .ok (.getfield 9, 3) := by decide +kernel
theorem d_Rb_standingOn_7 : decode b_Rb_standingOn 7 = .ok (.if_icmp .ge 31, 3) := by decide +kernel
theorem d_Rb_standingOn_10 : decode b_Rb_standingOn 10 = .ok (.aload_n 0, 1) := by decide +kernel
theorem d_Rb_standingOn_11 : decode b_Rb_standingOn 11 = .ok (.getfield 15, 3) := by decide +kernel
theorem d_Rb_standingOn_14 : decode b_Rb_standingOn 14 = .ok (.iload_n 2, 1) := by decide +kernel
theorem d_Rb_standingOn_15 : decode b_Rb_standingOn 15 = .ok (.iaload, 1) := by decide +kernel
theorem d_Rb_standingOn_16 : decode b_Rb_standingOn 16 = .ok (.iload_n 1, 1) := by decide +kernel
theorem d_Rb_standingOn_17 : decode b_Rb_standingOn 17 = .ok (.if_icmp .eq 13, 3) := by decide +kernel
theorem d_Rb_standingOn_20 : decode b_Rb_standingOn 20 = .ok (.aload_n 0, 1) := by decide +kernel
theorem d_Rb_standingOn_21 : decode b_Rb_standingOn 21 = .ok (.getfield 23, 3) := by decide +kernel
theorem d_Rb_standingOn_24 : decode b_Rb_standingOn 24 = .ok (.iload_n 2, 1) := by decide +kernel
theorem d_Rb_standingOn_25 : decode b_Rb_standingOn 25 = .ok (.iaload, 1) := by decide +kernel
theorem d_Rb_standingOn_26 : decode b_Rb_standingOn 26 = .ok (.iload_n 1, 1) := by decide +kernel
theorem d_Rb_standingOn_27 : decode b_Rb_standingOn 27 = .ok (.if_icmp .ne 5, 3) := by decide +kernel
theorem d_Rb_standingOn_30 : decode b_Rb_standingOn 30 = .ok (.iload_n 2, 1) := by decide +kernel
theorem d_Rb_standingOn_31 : decode b_Rb_standingOn 31 = .ok (.ireturn, 1) := by decide +kernel
theorem d_Rb_standingOn_32 : decode b_Rb_standingOn 32 = .ok (.iinc 2 1, 3) := by decide +kernel
theorem d_Rb_standingOn_35 : decode b_Rb_standingOn 35 = .ok (.goto (-33), 3) := by decide +kernel
theorem d_Rb_standingOn_38 : decode b_Rb_standingOn 38 = .ok (.iconst (-1), 1) := by decide +kernel
theorem d_Rb_standingOn_39 : decode b_Rb_standingOn 39 = .ok (.ireturn, 1) := by decide +kernel
theorem d_Rb_add_0 : decode b_Rb_add 0 = .ok (.aload_n 0, 1) := by decide +kernel
theorem d_Rb_add_1 : decode b_Rb_add 1 = .ok (.getfield 9, 3) := by decide +kernel
theorem d_Rb_add_4 : decode b_Rb_add 4 = .ok (.istore 4, 2) := by decide +kernel
theorem d_Rb_add_6 : decode b_Rb_add 6 = .ok (.aload_n 0, 1) := by decide +kernel
theorem d_Rb_add_7 : decode b_Rb_add 7 = .ok (.getfield 15, 3) := by decide +kernel
theorem d_Rb_add_10 : decode b_Rb_add 10 = .ok (.iload 4, 2) := by decide +kernel
theorem d_Rb_add_12 : decode b_Rb_add 12 = .ok (.iload_n 1, 1) := by decide +kernel
theorem d_Rb_add_13 : decode b_Rb_add 13 = .ok (.iastore, 1) := by decide +kernel
theorem d_Rb_add_14 : decode b_Rb_add 14 = .ok (.aload_n 0, 1) := by decide +kernel
theorem d_Rb_add_15 : decode b_Rb_add 15 = .ok (.getfield 19, 3) := by decide +kernel
theorem d_Rb_add_18 : decode b_Rb_add 18 = .ok (.iload 4, 2) := by decide +kernel
theorem d_Rb_add_20 : decode b_Rb_add 20 = .ok (.iload_n 2, 1) := by decide +kernel
theorem d_Rb_add_21 : decode b_Rb_add 21 = .ok (.bastore, 1) := by decide +kernel
theorem d_Rb_add_22 : decode b_Rb_add 22 = .ok (.aload_n 0, 1) := by decide +kernel
theorem d_Rb_add_23 : decode b_Rb_add 23 = .ok (.getfield 23, 3) := by decide +kernel
theorem d_Rb_add_26 : decode b_Rb_add 26 = .ok (.iload 4, 2) := by decide +kernel
theorem d_Rb_add_28 : decode b_Rb_add 28 = .ok (.iconst (-1), 1) := by decide +kernel
theorem d_Rb_add_29 : decode b_Rb_add 29 = .ok (.iastore, 1) := by decide +kernel
theorem d_Rb_add_30 : decode b_Rb_add 30 = .ok (.aload_n 0, 1) := by decide +kernel
theorem d_Rb_add_31 : decode b_Rb_add 31 = .ok (.getfield 26, 3) := by decide +kernel
theorem d_Rb_add_34 : decode b_Rb_add 34 = .ok (.iload 4, 2) := by decide +kernel
theorem d_Rb_add_36 : decode b_Rb_add 36 = .ok (.iconst (-1), 1) := by decide +kernel
theorem d_Rb_add_37 : decode b_Rb_add 37 = .ok (.iastore, 1) := by decide +kernel
theorem d_Rb_add_38 : decode b_Rb_add 38 = .ok (.aload_n 0, 1) := by decide +kernel
theorem d_Rb_add_39 : decode b_Rb_add 39 = .ok (.getfield 29, 3) := by decide +kernel
theorem d_Rb_add_42 : decode b_Rb_add 42 = .ok (.iload 4, 2) := by decide +kernel
theorem d_Rb_add_44 : decode b_Rb_add 44 = .ok (.iconst 0, 1) := by decide +kernel
theorem d_Rb_add_45 : decode b_Rb_add 45 = .ok (.bastore, 1) := by decide +kernel
theorem d_Rb_add_46 : decode b_Rb_add 46 = .ok (.aload_n 0, 1) := by decide +kernel
theorem d_Rb_add_47 : decode b_Rb_add 47 = .ok (.getfield 32, 3) := by decide +kernel
theorem d_Rb_add_50 : decode b_Rb_add 50 = .ok (.iload 4, 2) := by decide +kernel
theorem d_Rb_add_52 : decode b_Rb_add 52 = .ok (.iload_n 3, 1) := by decide +kernel
theorem d_Rb_add_53 : decode b_Rb_add 53 = .ok (.iastore, 1) := by decide +kernel
theorem d_Rb_add_54 : decode b_Rb_add 54 = .ok (.aload_n 0, 1) := by decide +kernel
theorem d_Rb_add_55 : decode b_Rb_add 55 = .ok (.dup, 1) := by decide +kernel
theorem d_Rb_add_56 : decode b_Rb_add 56 = .ok (.getfield 9, 3) := by decide +kernel
theorem d_Rb_add_59 : decode b_Rb_add 59 = .ok (.iconst 1, 1) := by decide +kernel
theorem d_Rb_add_60 : decode b_Rb_add 60 = .ok (.iadd, 1) := by decide +kernel
theorem d_Rb_add_61 : decode b_Rb_add 61 = .ok (.putfield 9, 3) := by decide +kernel
theorem d_Rb_add_64 : decode b_Rb_add 64 = .ok (.iload 4, 2) := by decide +kernel
theorem d_Rb_add_66 : decode b_Rb_add 66 = .ok (.ireturn, 1) := by decide +kernel
theorem d_RS_robot_0 : decode b_RS_robot 0 = .ok (.aload_n 0, 1) := by decide +kernel
theorem d_RS_robot_1 : decode b_RS_robot 1 = .ok (.iload_n 1, 1) := by decide +kernel
theorem d_RS_robot_2 : decode b_RS_robot 2 = .ok (.invokevirtual 45, 3) := by decide +kernel
theorem d_RS_robot_5 : decode b_RS_robot 5 = .ok (.aload_n 0, 1) := by decide +kernel
theorem d_RS_robot_6 : decode b_RS_robot 6 = .ok (.getfield 20, 3) := by decide +kernel
theorem d_RS_robot_9 : decode b_RS_robot 9 = .ok (.iload_n 1, 1) := by decide +kernel
theorem d_RS_robot_10 : decode b_RS_robot 10 = .ok (.baload, 1) := by decide +kernel
theorem d_RS_robot_11 : decode b_RS_robot 11 = .ok (.ifCond .ne 15, 3) := by decide +kernel
theorem d_RS_robot_14 : decode b_RS_robot 14 = .ok (.aload_n 0, 1) := by decide +kernel
theorem d_RS_robot_15 : decode b_RS_robot 15 = .ok (.getfield 27, 3) := by decide +kernel
theorem d_RS_robot_18 : decode b_RS_robot 18 = .ok (.iload_n 1, 1) := by decide +kernel
theorem d_RS_robot_19 : decode b_RS_robot 19 = .ok (.invokevirtual 60, 3) := by decide +kernel
theorem d_RS_robot_22 : decode b_RS_robot 22 = .ok (.iconst (-1), 1) := by decide +kernel
theorem d_RS_robot_23 : decode b_RS_robot 23 = .ok (.if_icmp .eq 13, 3) := by decide +kernel
theorem d_RS_robot_26 : decode b_RS_robot 26 = .ok (.new 63, 3) := by decide +kernel
theorem d_RS_robot_29 : decode b_RS_robot 29 = .ok (.dup, 1) := by decide +kernel
theorem d_RS_robot_30 : decode b_RS_robot 30 = .ok (.ldc 65, 2) := by decide +kernel
theorem d_RS_robot_32 : decode b_RS_robot 32 = .ok (.invokespecial 67, 3) := by decide +kernel
theorem d_RS_robot_35 : decode b_RS_robot 35 = .ok (.athrow, 1) := by decide +kernel
theorem d_RS_robot_36 : decode b_RS_robot 36 = .ok (.aload_n 0, 1) := by decide +kernel
theorem d_RS_robot_37 : decode b_RS_robot 37 = .ok (.getfield 27, 3) := by decide +kernel
theorem d_RS_robot_40 : decode b_RS_robot 40 = .ok (.getfield 68, 3) := by decide +kernel
theorem d_RS_robot_43 : decode b_RS_robot 43 = .ok (.bipush 6, 2) := by decide +kernel
theorem d_RS_robot_45 : decode b_RS_robot 45 = .ok (.if_icmp .lt 13, 3) := by decide +kernel
theorem d_RS_robot_48 : decode b_RS_robot 48 = .ok (.new 38, 3) := by decide +kernel
theorem d_RS_robot_51 : decode b_RS_robot 51 = .ok (.dup, 1) := by decide +kernel
theorem d_RS_robot_52 : decode b_RS_robot 52 = .ok (.ldc 71, 2) := by decide +kernel
theorem d_RS_robot_54 : decode b_RS_robot 54 = .ok (.invokespecial 42, 3) := by decide +kernel
theorem d_RS_robot_57 : decode b_RS_robot 57 = .ok (.athrow, 1) := by decide +kernel
theorem d_RS_robot_58 : decode b_RS_robot 58 = .ok (.aload_n 0, 1) := by decide +kernel
theorem d_RS_robot_59 : decode b_RS_robot 59 = .ok (.getfield 27, 3) := by decide +kernel
theorem d_RS_robot_62 : decode b_RS_robot 62 = .ok (.iload_n 1, 1) := by decide +kernel
theorem d_RS_robot_63 : decode b_RS_robot 63 = .ok (.iload_n 2, 1) := by decide +kernel
theorem d_RS_robot_64 : decode b_RS_robot 64 = .ok (.aload_n 0, 1) := by decide +kernel
theorem d_RS_robot_65 : decode b_RS_robot 65 = .ok (.getfield 7, 3) := by decide +kernel
theorem d_RS_robot_68 : decode b_RS_robot 68 = .ok (.invokevirtual 73, 3) := by decide +kernel
theorem d_RS_robot_71 : decode b_RS_robot 71 = .ok (.ireturn, 1) := by decide +kernel
theorem d_Rb_isSilent_0 : decode b_Rb_isSilent 0 = .ok (.iload_n 2, 1) := by decide +kernel
theorem d_Rb_isSilent_1 : decode b_Rb_isSilent 1 = .ok (.aload_n 0, 1) := by decide +kernel
theorem d_Rb_isSilent_2 : decode b_Rb_isSilent 2 = .ok (.getfield 32, 3) := by decide +kernel
theorem d_Rb_isSilent_5 : decode b_Rb_isSilent 5 = .ok (.iload_n 1, 1) := by decide +kernel
theorem d_Rb_isSilent_6 : decode b_Rb_isSilent 6 = .ok (.iaload, 1) := by decide +kernel
theorem d_Rb_isSilent_7 : decode b_Rb_isSilent 7 = .ok (.isub, 1) := by decide +kernel
theorem d_Rb_isSilent_8 : decode b_Rb_isSilent 8 = .ok (.bipush 30, 2) := by decide +kernel
theorem d_Rb_isSilent_10 : decode b_Rb_isSilent 10 = .ok (.if_icmp .le 7, 3) := by decide +kernel
theorem d_Rb_isSilent_13 : decode b_Rb_isSilent 13 = .ok (.iconst 1, 1) := by decide +kernel
theorem d_Rb_isSilent_14 : decode b_Rb_isSilent 14 = .ok (.goto 4, 3) := by decide +kernel
theorem d_Rb_isSilent_17 : decode b_Rb_isSilent 17 = .ok (.iconst 0, 1) := by decide +kernel
theorem d_Rb_isSilent_18 : decode b_Rb_isSilent 18 = .ok (.ireturn, 1) := by decide +kernel
theorem d_RS_needActive_0 : decode b_RS_needActive 0 = .ok (.aload_n 0, 1) := by decide +kernel
theorem d_RS_needActive_1 : decode b_RS_needActive 1 = .ok (.getfield 27, 3) := by decide +kernel
theorem d_RS_needActive_4 : decode b_RS_needActive 4 = .ok (.getfield 168, 3) := by decide +kernel
theorem d_RS_needActive_7 : decode b_RS_needActive 7 = .ok (.iload_n 1, 1) := by decide +kernel
theorem d_RS_needActive_8 : decode b_RS_needActive 8 = .ok (.baload, 1) := by decide +kernel
theorem d_RS_needActive_9 : decode b_RS_needActive 9 = .ok (.ifCond .ne 18, 3) := by decide +kernel
theorem d_RS_needActive_12 : decode b_RS_needActive 12 = .ok (.aload_n 0, 1) := by decide +kernel
theorem d_RS_needActive_13 : decode b_RS_needActive 13 = .ok (.getfield 27, 3) := by decide +kernel
theorem d_RS_needActive_16 : decode b_RS_needActive 16 = .ok (.iload_n 1, 1) := by decide +kernel
theorem d_RS_needActive_17 : decode b_RS_needActive 17 = .ok (.aload_n 0, 1) := by decide +kernel
theorem d_RS_needActive_18 : decode b_RS_needActive 18 = .ok (.getfield 7, 3) := by decide +kernel
theorem d_RS_needActive_21 : decode b_RS_needActive 21 = .ok (.invokevirtual 176, 3) := by decide +kernel
theorem d_RS_needActive_24 : decode b_RS_needActive 24 = .ok (.ifCond .eq 13, 3) := by decide +kernel
theorem d_RS_needActive_27 : decode b_RS_needActive 27 = .ok (.new 63, 3) := by decide +kernel
theorem d_RS_needActive_30 : decode b_RS_needActive 30 = .ok (.dup, 1) := by decide +kernel
theorem d_RS_needActive_31 : decode b_RS_needActive 31 = .ok (.ldc 226, 2) := by decide +kernel
theorem d_RS_needActive_33 : decode b_RS_needActive 33 = .ok (.invokespecial 67, 3) := by decide +kernel
theorem d_RS_needActive_36 : decode b_RS_needActive 36 = .ok (.athrow, 1) := by decide +kernel
theorem d_RS_needActive_37 : decode b_RS_needActive 37 = .ok (.return_, 1) := by decide +kernel
theorem d_Rb_otherStandsOn_0 : decode b_Rb_otherStandsOn 0 = .ok (.aload_n 0, 1) := by decide +kernel
theorem d_Rb_otherStandsOn_1 : decode b_Rb_otherStandsOn 1 = .ok (.iload_n 2, 1) := by decide +kernel
theorem d_Rb_otherStandsOn_2 : decode b_Rb_otherStandsOn 2 = .ok (.invokevirtual 35, 3) := by decide +kernel
theorem d_Rb_otherStandsOn_5 : decode b_Rb_otherStandsOn 5 = .ok (.istore_n 3, 1) := by decide +kernel
theorem d_Rb_otherStandsOn_6 : decode b_Rb_otherStandsOn 6 = .ok (.iload_n 3, 1) := by decide +kernel
theorem d_Rb_otherStandsOn_7 : decode b_Rb_otherStandsOn 7 = .ok (.iconst (-1), 1) := by decide +kernel
theorem d_Rb_otherStandsOn_8 : decode b_Rb_otherStandsOn 8 = .ok (.if_icmp .eq 12, 3) := by decide +kernel
theorem d_Rb_otherStandsOn_11 : decode b_Rb_otherStandsOn 11 = .ok (.iload_n 3, 1) := by decide +kernel
theorem d_Rb_otherStandsOn_12 : decode b_Rb_otherStandsOn 12 = .ok (.iload_n 1, 1) := by decide +kernel
theorem d_Rb_otherStandsOn_13 : decode b_Rb_otherStandsOn 13 = .ok (.if_icmp .eq 7, 3) := by decide +kernel
theorem d_Rb_otherStandsOn_16 : decode b_Rb_otherStandsOn 16 = .ok (.iconst 1, 1) := by decide +kernel
theorem d_Rb_otherStandsOn_17 : decode b_Rb_otherStandsOn 17 = .ok (.goto 4, 3) := by decide +kernel
theorem d_Rb_otherStandsOn_20 : decode b_Rb_otherStandsOn 20 = .ok (.iconst 0, 1) := by decide +kernel
theorem d_Rb_otherStandsOn_21 : decode b_Rb_otherStandsOn 21 = .ok (.ireturn, 1) := by decide +kernel
theorem d_Gr_hasBegun_0 : decode b_Gr_hasBegun 0 = .ok (.aload_n 0, 1) := by decide +kernel
theorem d_Gr_hasBegun_1 : decode b_Gr_hasBegun 1 = .ok (.getfield 22, 3) := by decide +kernel
theorem d_Gr_hasBegun_4 : decode b_Gr_hasBegun 4 = .ok (.iload_n 1, 1) := by decide +kernel
theorem d_Gr_hasBegun_5 : decode b_Gr_hasBegun 5 = .ok (.iaload, 1) := by decide +kernel
theorem d_Gr_hasBegun_6 : decode b_Gr_hasBegun 6 = .ok (.iload_n 2, 1) := by decide +kernel
theorem d_Gr_hasBegun_7 : decode b_Gr_hasBegun 7 = .ok (.if_icmp .gt 7, 3) := by decide +kernel
theorem d_Gr_hasBegun_10 : decode b_Gr_hasBegun 10 = .ok (.iconst 1, 1) := by decide +kernel
theorem d_Gr_hasBegun_11 : decode b_Gr_hasBegun 11 = .ok (.goto 4, 3) := by decide +kernel
theorem d_Gr_hasBegun_14 : decode b_Gr_hasBegun 14 = .ok (.iconst 0, 1) := by decide +kernel
theorem d_Gr_hasBegun_15 : decode b_Gr_hasBegun 15 = .ok (.ireturn, 1) := by decide +kernel
theorem d_Gr_isLive_0 : decode b_Gr_isLive 0 = .ok (.aload_n 0, 1) := by decide +kernel
theorem d_Gr_isLive_1 : decode b_Gr_isLive 1 = .ok (.getfield 31, 3) := by decide +kernel
theorem d_Gr_isLive_4 : decode b_Gr_isLive 4 = .ok (.iload_n 1, 1) := by decide +kernel
theorem d_Gr_isLive_5 : decode b_Gr_isLive 5 = .ok (.iaload, 1) := by decide +kernel
theorem d_Gr_isLive_6 : decode b_Gr_isLive 6 = .ok (.ifCond .ne 7, 3) := by decide +kernel
theorem d_Gr_isLive_9 : decode b_Gr_isLive 9 = .ok (.iconst 1, 1) := by decide +kernel
theorem d_Gr_isLive_10 : decode b_Gr_isLive 10 = .ok (.goto 4, 3) := by decide +kernel
theorem d_Gr_isLive_13 : decode b_Gr_isLive 13 = .ok (.iconst 0, 1) := by decide +kernel
theorem d_Gr_isLive_14 : decode b_Gr_isLive 14 = .ok (.ireturn, 1) := by decide +kernel
theorem d_Gr_isLiveFor_0 : decode b_Gr_isLiveFor 0 = .ok (.aload_n 0, 1) := by decide +kernel
theorem d_Gr_isLiveFor_1 : decode b_Gr_isLiveFor 1 = .ok (.iload_n 1, 1) := by decide +kernel
theorem d_Gr_isLiveFor_2 : decode b_Gr_isLiveFor 2 = .ok (.invokevirtual 34, 3) := by decide +kernel
theorem d_Gr_isLiveFor_5 : decode b_Gr_isLiveFor 5 = .ok (.ifCond .eq 17, 3) := by decide +kernel
theorem d_Gr_isLiveFor_8 : decode b_Gr_isLiveFor 8 = .ok (.aload_n 0, 1) := by decide +kernel
theorem d_Gr_isLiveFor_9 : decode b_Gr_isLiveFor 9 = .ok (.getfield 19, 3) := by decide +kernel
theorem d_Gr_isLiveFor_12 : decode b_Gr_isLiveFor 12 = .ok (.iload_n 1, 1) := by decide +kernel
theorem d_Gr_isLiveFor_13 : decode b_Gr_isLiveFor 13 = .ok (.iaload, 1) := by decide +kernel
theorem d_Gr_isLiveFor_14 : decode b_Gr_isLiveFor 14 = .ok (.iload_n 2, 1) := by decide +kernel
theorem d_Gr_isLiveFor_15 : decode b_Gr_isLiveFor 15 = .ok (.if_icmp .ne 7, 3) := by decide +kernel
theorem d_Gr_isLiveFor_18 : decode b_Gr_isLiveFor 18 = .ok (.iconst 1, 1) := by decide +kernel
theorem d_Gr_isLiveFor_19 : decode b_Gr_isLiveFor 19 = .ok (.goto 4, 3) := by decide +kernel
theorem d_Gr_isLiveFor_22 : decode b_Gr_isLiveFor 22 = .ok (.iconst 0, 1) := by decide +kernel
theorem d_Gr_isLiveFor_23 : decode b_Gr_isLiveFor 23 = .ok (.ireturn, 1) := by decide +kernel
theorem d_Gr_sharesTime_0 : decode b_Gr_sharesTime 0 = .ok (.aload_n 0, 1) := by decide +kernel
theorem d_Gr_sharesTime_1 : decode b_Gr_sharesTime 1 = .ok (.getfield 22, 3) := by decide +kernel
theorem d_Gr_sharesTime_4 : decode b_Gr_sharesTime 4 = .ok (.iload_n 1, 1) := by decide +kernel
theorem d_Gr_sharesTime_5 : decode b_Gr_sharesTime 5 = .ok (.iaload, 1) := by decide +kernel
theorem d_Gr_sharesTime_6 : decode b_Gr_sharesTime 6 = .ok (.iload_n 3, 1) := by decide +kernel
theorem d_Gr_sharesTime_7 : decode b_Gr_sharesTime 7 = .ok (.if_icmp .ge 17, 3) := by decide +kernel
theorem d_Gr_sharesTime_10 : decode b_Gr_sharesTime 10 = .ok (.iload_n 2, 1) := by decide +kernel
theorem d_Gr_sharesTime_11 : decode b_Gr_sharesTime 11 = .ok (.aload_n 0, 1) := by decide +kernel
theorem d_Gr_sharesTime_12 : decode b_Gr_sharesTime 12 = .ok (.getfield 25, 3) := by decide +kernel
theorem d_Gr_sharesTime_15 : decode b_Gr_sharesTime 15 = .ok (.iload_n 1, 1) := by decide +kernel
theorem d_Gr_sharesTime_16 : decode b_Gr_sharesTime 16 = .ok (.iaload, 1) := by decide +kernel
theorem d_Gr_sharesTime_17 : decode b_Gr_sharesTime 17 = .ok (.if_icmp .ge 7, 3) := by decide +kernel
theorem d_Gr_sharesTime_20 : decode b_Gr_sharesTime 20 = .ok (.iconst 1, 1) := by decide +kernel
theorem d_Gr_sharesTime_21 : decode b_Gr_sharesTime 21 = .ok (.goto 4, 3) := by decide +kernel
theorem d_Gr_sharesTime_24 : decode b_Gr_sharesTime 24 = .ok (.iconst 0, 1) := by decide +kernel
theorem d_Gr_sharesTime_25 : decode b_Gr_sharesTime 25 = .ok (.ireturn, 1) := by decide +kernel
theorem d_Gr_isRival_0 : decode b_Gr_isRival 0 = .ok (.aload_n 0, 1) := by decide +kernel
theorem d_Gr_isRival_1 : decode b_Gr_isRival 1 = .ok (.iload_n 1, 1) := by decide +kernel
theorem d_Gr_isRival_2 : decode b_Gr_isRival 2 = .ok (.iload_n 3, 1) := by decide +kernel
theorem d_Gr_isRival_3 : decode b_Gr_isRival 3 = .ok (.invokevirtual 42, 3) := by decide +kernel
theorem d_Gr_isRival_6 : decode b_Gr_isRival 6 = .ok (.ifCond .eq 29, 3) := by decide +kernel
theorem d_Gr_isRival_9 : decode b_Gr_isRival 9 = .ok (.aload_n 0, 1) := by decide +kernel
theorem d_Gr_isRival_10 : decode b_Gr_isRival 10 = .ok (.getfield 15, 3) := by decide +kernel
theorem d_Gr_isRival_13 : decode b_Gr_isRival 13 = .ok (.iload_n 1, 1) := by decide +kernel
theorem d_Gr_isRival_14 : decode b_Gr_isRival 14 = .ok (.iaload, 1) := by decide +kernel
theorem d_Gr_isRival_15 : decode b_Gr_isRival 15 = .ok (.iload_n 2, 1) := by decide +kernel
theorem d_Gr_isRival_16 : decode b_Gr_isRival 16 = .ok (.if_icmp .eq 19, 3) := by decide +kernel
theorem d_Gr_isRival_19 : decode b_Gr_isRival 19 = .ok (.aload_n 0, 1) := by decide +kernel
theorem d_Gr_isRival_20 : decode b_Gr_isRival 20 = .ok (.iload_n 1, 1) := by decide +kernel
theorem d_Gr_isRival_21 : decode b_Gr_isRival 21 = .ok (.iload 4, 2) := by decide +kernel
theorem d_Gr_isRival_23 : decode b_Gr_isRival 23 = .ok (.iload 5, 2) := by decide +kernel
theorem d_Gr_isRival_25 : decode b_Gr_isRival 25 = .ok (.invokevirtual 38, 3) := by decide +kernel
theorem d_Gr_isRival_28 : decode b_Gr_isRival 28 = .ok (.ifCond .eq 7, 3) := by decide +kernel
theorem d_Gr_isRival_31 : decode b_Gr_isRival 31 = .ok (.iconst 1, 1) := by decide +kernel
theorem d_Gr_isRival_32 : decode b_Gr_isRival 32 = .ok (.goto 4, 3) := by decide +kernel
theorem d_Gr_isRival_35 : decode b_Gr_isRival 35 = .ok (.iconst 0, 1) := by decide +kernel
theorem d_Gr_isRival_36 : decode b_Gr_isRival 36 = .ok (.ireturn, 1) := by decide +kernel
theorem d_RS_firstBar_0 : decode b_RS_firstBar 0 = .ok (.iconst 1, 1) := by decide +kernel
theorem d_RS_firstBar_1 : decode b_RS_firstBar 1 = .ok (.istore 6, 2) := by decide +kernel
theorem d_RS_firstBar_3 : decode b_RS_firstBar 3 = .ok (.iload 6, 2) := by decide +kernel
theorem d_RS_firstBar_5 : decode b_RS_firstBar 5 = .ok (.aload_n 0, 1) := by decide +kernel
theorem d_RS_firstBar_6 : decode b_RS_firstBar 6 = .ok (.getfield 34, 3) := by decide +kernel
theorem d_RS_firstBar_9 : decode b_RS_firstBar 9 = .ok (.getfield 90, 3) := by decide +kernel
theorem d_RS_firstBar_12 : decode b_RS_firstBar 12 = .ok (.if_icmp .gt 72, 3) := by decide +kernel
theorem d_RS_firstBar_15 : decode b_RS_firstBar 15 = .ok (.aload_n 0, 1) := by decide +kernel
theorem d_RS_firstBar_16 : decode b_RS_firstBar 16 = .ok (.getfield 34, 3) := by decide +kernel
theorem d_RS_firstBar_19 : decode b_RS_firstBar 19 = .ok (.getfield 198, 3) := by decide +kernel
theorem d_RS_firstBar_22 : decode b_RS_firstBar 22 = .ok (.iload 6, 2) := by decide +kernel
theorem d_RS_firstBar_24 : decode b_RS_firstBar 24 = .ok (.iaload, 1) := by decide +kernel
theorem d_RS_firstBar_25 : decode b_RS_firstBar 25 = .ok (.iload 5, 2) := by decide +kernel
theorem d_RS_firstBar_27 : decode b_RS_firstBar 27 = .ok (.if_icmp .ge 23, 3) := by decide +kernel
theorem d_RS_firstBar_30 : decode b_RS_firstBar 30 = .ok (.aload_n 0, 1) := by decide +kernel
theorem d_RS_firstBar_31 : decode b_RS_firstBar 31 = .ok (.getfield 34, 3) := by decide +kernel
theorem d_RS_firstBar_34 : decode b_RS_firstBar 34 = .ok (.iload 6, 2) := by decide +kernel
theorem d_RS_firstBar_36 : decode b_RS_firstBar 36 = .ok (.aload_n 0, 1) := by decide +kernel
theorem d_RS_firstBar_37 : decode b_RS_firstBar 37 = .ok (.getfield 7, 3) := by decide +kernel
theorem d_RS_firstBar_40 : decode b_RS_firstBar 40 = .ok (.invokevirtual 228, 3) := by decide +kernel
theorem d_RS_firstBar_43 : decode b_RS_firstBar 43 = .ok (.ifCond .ne 7, 3) := by decide +kernel
theorem d_RS_firstBar_46 : decode b_RS_firstBar 46 = .ok (.iconst 1, 1) := by decide +kernel
theorem d_RS_firstBar_47 : decode b_RS_firstBar 47 = .ok (.goto 4, 3) := by decide +kernel
theorem d_RS_firstBar_50 : decode b_RS_firstBar 50 = .ok (.iconst 0, 1) := by decide +kernel
theorem d_RS_firstBar_51 : decode b_RS_firstBar 51 = .ok (.istore 7, 2) := by decide +kernel
theorem d_RS_firstBar_53 : decode b_RS_firstBar 53 = .ok (.iload 7, 2) := by decide +kernel
theorem d_RS_firstBar_55 : decode b_RS_firstBar 55 = .ok (.ifCond .ne 23, 3) := by decide +kernel
theorem d_RS_firstBar_58 : decode b_RS_firstBar 58 = .ok (.aload_n 0, 1) := by decide +kernel
theorem d_RS_firstBar_59 : decode b_RS_firstBar 59 = .ok (.getfield 34, 3) := by decide +kernel
theorem d_RS_firstBar_62 : decode b_RS_firstBar 62 = .ok (.iload 6, 2) := by decide +kernel
theorem d_RS_firstBar_64 : decode b_RS_firstBar 64 = .ok (.iload_n 1, 1) := by decide +kernel
theorem d_RS_firstBar_65 : decode b_RS_firstBar 65 = .ok (.iload_n 2, 1) := by decide +kernel
theorem d_RS_firstBar_66 : decode b_RS_firstBar 66 = .ok (.iload_n 3, 1) := by decide +kernel
theorem d_RS_firstBar_67 : decode b_RS_firstBar 67 = .ok (.iload 4, 2) := by decide +kernel
theorem d_RS_firstBar_69 : decode b_RS_firstBar 69 = .ok (.invokevirtual 231, 3) := by decide +kernel
theorem d_RS_firstBar_72 : decode b_RS_firstBar 72 = .ok (.ifCond .eq 6, 3) := by decide +kernel
theorem d_RS_firstBar_75 : decode b_RS_firstBar 75 = .ok (.iload 6, 2) := by decide +kernel
theorem d_RS_firstBar_77 : decode b_RS_firstBar 77 = .ok (.ireturn, 1) := by decide +kernel
theorem d_RS_firstBar_78 : decode b_RS_firstBar 78 = .ok (.iinc 6 1, 3) := by decide +kernel
theorem d_RS_firstBar_81 : decode b_RS_firstBar 81 = .ok (.goto (-78), 3) := by decide +kernel
theorem d_RS_firstBar_84 : decode b_RS_firstBar 84 = .ok (.iconst 0, 1) := by decide +kernel
theorem d_RS_firstBar_85 : decode b_RS_firstBar 85 = .ok (.ireturn, 1) := by decide +kernel
theorem d_Gr_takeFromOthers_0 : decode b_Gr_takeFromOthers 0 = .ok (.iconst 1, 1) := by decide +kernel
theorem d_Gr_takeFromOthers_1 : decode b_Gr_takeFromOthers 1 = .ok (.istore 5, 2) := by decide +kernel
theorem d_Gr_takeFromOthers_3 : decode b_Gr_takeFromOthers 3 = .ok (.iload 5, 2) := by decide +kernel
theorem d_Gr_takeFromOthers_5 : decode b_Gr_takeFromOthers 5 = .ok (.aload_n 0, 1) := by decide +kernel
theorem d_Gr_takeFromOthers_6 : decode b_Gr_takeFromOthers 6 = .ok (.getfield 9, 3) := by decide +kernel
theorem d_Gr_takeFromOthers_9 : decode b_Gr_takeFromOthers 9 = .ok (.if_icmp .gt 31, 3) := by decide +kernel
theorem d_Gr_takeFromOthers_12 : decode b_Gr_takeFromOthers 12 = .ok (.aload_n 0, 1) := by decide +kernel
theorem d_Gr_takeFromOthers_13 : decode b_Gr_takeFromOthers 13 = .ok (.iload 5, 2) := by decide +kernel
theorem d_Gr_takeFromOthers_15 : decode b_Gr_takeFromOthers 15 = .ok (.iload_n 1, 1) := by decide +kernel
theorem d_Gr_takeFromOthers_16 : decode b_Gr_takeFromOthers 16 = .ok (.iload_n 2, 1) := by decide +kernel
theorem d_Gr_takeFromOthers_17 : decode b_Gr_takeFromOthers 17 = .ok (.iload_n 3, 1) := by decide +kernel
theorem d_Gr_takeFromOthers_18 : decode b_Gr_takeFromOthers 18 = .ok (.iload 4, 2) := by decide +kernel
theorem d_Gr_takeFromOthers_20 : decode b_Gr_takeFromOthers 20 = .ok (.invokevirtual 46, 3) := by decide +kernel
theorem d_Gr_takeFromOthers_23 : decode b_Gr_takeFromOthers 23 = .ok (.ifCond .eq 11, 3) := by decide +kernel
theorem d_Gr_takeFromOthers_26 : decode b_Gr_takeFromOthers 26 = .ok (.aload_n 0, 1) := by decide +kernel
theorem d_Gr_takeFromOthers_27 : decode b_Gr_takeFromOthers 27 = .ok (.getfield 31, 3) := by decide +kernel
theorem d_Gr_takeFromOthers_30 : decode b_Gr_takeFromOthers 30 = .ok (.iload 5, 2) := by decide +kernel
theorem d_Gr_takeFromOthers_32 : decode b_Gr_takeFromOthers 32 = .ok (.iconst 3, 1) := by decide +kernel
theorem d_Gr_takeFromOthers_33 : decode b_Gr_takeFromOthers 33 = .ok (.iastore, 1) := by decide +kernel
theorem d_Gr_takeFromOthers_34 : decode b_Gr_takeFromOthers 34 = .ok (.iinc 5 1, 3) := by decide +kernel
theorem d_Gr_takeFromOthers_37 : decode b_Gr_takeFromOthers 37 = .ok (.goto (-34), 3) := by decide +kernel
theorem d_Gr_takeFromOthers_40 : decode b_Gr_takeFromOthers 40 = .ok (.return_, 1) := by decide +kernel
theorem d_Gr_add_0 : decode b_Gr_add 0 = .ok (.aload_n 0, 1) := by decide +kernel
theorem d_Gr_add_1 : decode b_Gr_add 1 = .ok (.dup, 1) := by decide +kernel
theorem d_Gr_add_2 : decode b_Gr_add 2 = .ok (.getfield 9, 3) := by decide +kernel
theorem d_Gr_add_5 : decode b_Gr_add 5 = .ok (.iconst 1, 1) := by decide +kernel
theorem d_Gr_add_6 : decode b_Gr_add 6 = .ok (.iadd, 1) := by decide +kernel
theorem d_Gr_add_7 : decode b_Gr_add 7 = .ok (.putfield 9, 3) := by decide +kernel
theorem d_Gr_add_10 : decode b_Gr_add 10 = .ok (.aload_n 0, 1) := by decide +kernel
theorem d_Gr_add_11 : decode b_Gr_add 11 = .ok (.getfield 15, 3) := by decide +kernel
theorem d_Gr_add_14 : decode b_Gr_add 14 = .ok (.aload_n 0, 1) := by decide +kernel
theorem d_Gr_add_15 : decode b_Gr_add 15 = .ok (.getfield 9, 3) := by decide +kernel
theorem d_Gr_add_18 : decode b_Gr_add 18 = .ok (.iload_n 1, 1) := by decide +kernel
theorem d_Gr_add_19 : decode b_Gr_add 19 = .ok (.iastore, 1) := by decide +kernel
theorem d_Gr_add_20 : decode b_Gr_add 20 = .ok (.aload_n 0, 1) := by decide +kernel
theorem d_Gr_add_21 : decode b_Gr_add 21 = .ok (.getfield 19, 3) := by decide +kernel
theorem d_Gr_add_24 : decode b_Gr_add 24 = .ok (.aload_n 0, 1) := by decide +kernel
theorem d_Gr_add_25 : decode b_Gr_add 25 = .ok (.getfield 9, 3) := by decide +kernel
theorem d_Gr_add_28 : decode b_Gr_add 28 = .ok (.iload_n 2, 1) := by decide +kernel
theorem d_Gr_add_29 : decode b_Gr_add 29 = .ok (.iastore, 1) := by decide +kernel
theorem d_Gr_add_30 : decode b_Gr_add 30 = .ok (.aload_n 0, 1) := by decide +kernel
theorem d_Gr_add_31 : decode b_Gr_add 31 = .ok (.getfield 22, 3) := by decide +kernel
theorem d_Gr_add_34 : decode b_Gr_add 34 = .ok (.aload_n 0, 1) := by decide +kernel
theorem d_Gr_add_35 : decode b_Gr_add 35 = .ok (.getfield 9, 3) := by decide +kernel
theorem d_Gr_add_38 : decode b_Gr_add 38 = .ok (.iload_n 3, 1) := by decide +kernel
theorem d_Gr_add_39 : decode b_Gr_add 39 = .ok (.iastore, 1) := by decide +kernel
theorem d_Gr_add_40 : decode b_Gr_add 40 = .ok (.aload_n 0, 1) := by decide +kernel
theorem d_Gr_add_41 : decode b_Gr_add 41 = .ok (.getfield 25, 3) := by decide +kernel
theorem d_Gr_add_44 : decode b_Gr_add 44 = .ok (.aload_n 0, 1) := by decide +kernel
theorem d_Gr_add_45 : decode b_Gr_add 45 = .ok (.getfield 9, 3) := by decide +kernel
theorem d_Gr_add_48 : decode b_Gr_add 48 = .ok (.iload 4, 2) := by decide +kernel
theorem d_Gr_add_50 : decode b_Gr_add 50 = .ok (.iastore, 1) := by decide +kernel
theorem d_Gr_add_51 : decode b_Gr_add 51 = .ok (.aload_n 0, 1) := by decide +kernel
theorem d_Gr_add_52 : decode b_Gr_add 52 = .ok (.getfield 28, 3) := by decide +kernel
theorem d_Gr_add_55 : decode b_Gr_add 55 = .ok (.aload_n 0, 1) := by decide +kernel
theorem d_Gr_add_56 : decode b_Gr_add 56 = .ok (.getfield 9, 3) := by decide +kernel
theorem d_Gr_add_59 : decode b_Gr_add 59 = .ok (.iload 5, 2) := by decide +kernel
theorem d_Gr_add_61 : decode b_Gr_add 61 = .ok (.iastore, 1) := by decide +kernel
theorem d_Gr_add_62 : decode b_Gr_add 62 = .ok (.aload_n 0, 1) := by decide +kernel
theorem d_Gr_add_63 : decode b_Gr_add 63 = .ok (.getfield 31, 3) := by decide +kernel
theorem d_Gr_add_66 : decode b_Gr_add 66 = .ok (.aload_n 0, 1) := by decide +kernel
theorem d_Gr_add_67 : decode b_Gr_add 67 = .ok (.getfield 9, 3) := by decide +kernel
theorem d_Gr_add_70 : decode b_Gr_add 70 = .ok (.iconst 0, 1) := by decide +kernel
theorem d_Gr_add_71 : decode b_Gr_add 71 = .ok (.iastore, 1) := by decide +kernel
theorem d_Gr_add_72 : decode b_Gr_add 72 = .ok (.aload_n 0, 1) := by decide +kernel
theorem d_Gr_add_73 : decode b_Gr_add 73 = .ok (.getfield 9, 3) := by decide +kernel
theorem d_Gr_add_76 : decode b_Gr_add 76 = .ok (.ireturn, 1) := by decide +kernel
theorem d_RS_ask_0 : decode b_RS_ask 0 = .ok (.aload_n 0, 1) := by decide +kernel
theorem d_RS_ask_1 : decode b_RS_ask 1 = .ok (.iload_n 1, 1) := by decide +kernel
theorem d_RS_ask_2 : decode b_RS_ask 2 = .ok (.invokevirtual 77, 3) := by decide +kernel
theorem d_RS_ask_5 : decode b_RS_ask 5 = .ok (.aload_n 0, 1) := by decide +kernel
theorem d_RS_ask_6 : decode b_RS_ask 6 = .ok (.iload_n 2, 1) := by decide +kernel
theorem d_RS_ask_7 : decode b_RS_ask 7 = .ok (.invokevirtual 45, 3) := by decide +kernel
theorem d_RS_ask_10 : decode b_RS_ask 10 = .ok (.aload_n 0, 1) := by decide +kernel
theorem d_RS_ask_11 : decode b_RS_ask 11 = .ok (.iload_n 3, 1) := by decide +kernel
theorem d_RS_ask_12 : decode b_RS_ask 12 = .ok (.iload 4, 2) := by decide +kernel
theorem d_RS_ask_14 : decode b_RS_ask 14 = .ok (.invokevirtual 80, 3) := by decide +kernel
theorem d_RS_ask_17 : decode b_RS_ask 17 = .ok (.aload_n 0, 1) := by decide +kernel
theorem d_RS_ask_18 : decode b_RS_ask 18 = .ok (.iload 5, 2) := by decide +kernel
theorem d_RS_ask_20 : decode b_RS_ask 20 = .ok (.invokevirtual 84, 3) := by decide +kernel
theorem d_RS_ask_23 : decode b_RS_ask 23 = .ok (.aload_n 0, 1) := by decide +kernel
theorem d_RS_ask_24 : decode b_RS_ask 24 = .ok (.iload_n 1, 1) := by decide +kernel
theorem d_RS_ask_25 : decode b_RS_ask 25 = .ok (.invokevirtual 87, 3) := by decide +kernel
theorem d_RS_ask_28 : decode b_RS_ask 28 = .ok (.aload_n 0, 1) := by decide +kernel
theorem d_RS_ask_29 : decode b_RS_ask 29 = .ok (.getfield 34, 3) := by decide +kernel
theorem d_RS_ask_32 : decode b_RS_ask 32 = .ok (.getfield 90, 3) := by decide +kernel
theorem d_RS_ask_35 : decode b_RS_ask 35 = .ok (.bipush 60, 2) := by decide +kernel
theorem d_RS_ask_37 : decode b_RS_ask 37 = .ok (.if_icmp .lt 13, 3) := by decide +kernel
theorem d_RS_ask_40 : decode b_RS_ask 40 = .ok (.new 38, 3) := by decide +kernel
theorem d_RS_ask_43 : decode b_RS_ask 43 = .ok (.dup, 1) := by decide +kernel
theorem d_RS_ask_44 : decode b_RS_ask 44 = .ok (.ldc 91, 2) := by decide +kernel
theorem d_RS_ask_46 : decode b_RS_ask 46 = .ok (.invokespecial 42, 3) := by decide +kernel
theorem d_RS_ask_49 : decode b_RS_ask 49 = .ok (.athrow, 1) := by decide +kernel
theorem d_RS_ask_50 : decode b_RS_ask 50 = .ok (.aload_n 0, 1) := by decide +kernel
theorem d_RS_ask_51 : decode b_RS_ask 51 = .ok (.getfield 27, 3) := by decide +kernel
theorem d_RS_ask_54 : decode b_RS_ask 54 = .ok (.getfield 93, 3) := by decide +kernel
theorem d_RS_ask_57 : decode b_RS_ask 57 = .ok (.iload_n 1, 1) := by decide +kernel
theorem d_RS_ask_58 : decode b_RS_ask 58 = .ok (.aload_n 0, 1) := by decide +kernel
theorem d_RS_ask_59 : decode b_RS_ask 59 = .ok (.getfield 7, 3) := by decide +kernel
theorem d_RS_ask_62 : decode b_RS_ask 62 = .ok (.iastore, 1) := by decide +kernel
theorem d_RS_ask_63 : decode b_RS_ask 63 = .ok (.aload_n 0, 1) := by decide +kernel
theorem d_RS_ask_64 : decode b_RS_ask 64 = .ok (.getfield 20, 3) := by decide +kernel
theorem d_RS_ask_67 : decode b_RS_ask 67 = .ok (.iload_n 2, 1) := by decide +kernel
theorem d_RS_ask_68 : decode b_RS_ask 68 = .ok (.baload, 1) := by decide +kernel
theorem d_RS_ask_69 : decode b_RS_ask 69 = .ok (.ifCond .ne 15, 3) := by decide +kernel
theorem d_RS_ask_72 : decode b_RS_ask 72 = .ok (.aload_n 0, 1) := by decide +kernel
theorem d_RS_ask_73 : decode b_RS_ask 73 = .ok (.getfield 27, 3) := by decide +kernel
theorem d_RS_ask_76 : decode b_RS_ask 76 = .ok (.iload_n 1, 1) := by decide +kernel
theorem d_RS_ask_77 : decode b_RS_ask 77 = .ok (.iload_n 2, 1) := by decide +kernel
theorem d_RS_ask_78 : decode b_RS_ask 78 = .ok (.invokevirtual 96, 3) := by decide +kernel
theorem d_RS_ask_81 : decode b_RS_ask 81 = .ok (.ifCond .eq 5, 3) := by decide +kernel
theorem d_RS_ask_84 : decode b_RS_ask 84 = .ok (.iconst 0, 1) := by decide +kernel
theorem d_RS_ask_85 : decode b_RS_ask 85 = .ok (.ireturn, 1) := by decide +kernel
theorem d_RS_ask_86 : decode b_RS_ask 86 = .ok (.aload_n 0, 1) := by decide +kernel
theorem d_RS_ask_87 : decode b_RS_ask 87 = .ok (.iload_n 1, 1) := by decide +kernel
theorem d_RS_ask_88 : decode b_RS_ask 88 = .ok (.iload_n 2, 1) := by decide +kernel
theorem d_RS_ask_89 : decode b_RS_ask 89 = .ok (.iload_n 3, 1) := by decide +kernel
theorem d_RS_ask_90 : decode b_RS_ask 90 = .ok (.iload 4, 2) := by decide +kernel
theorem d_RS_ask_92 : decode b_RS_ask 92 = .ok (.iload 5, 2) := by decide +kernel
theorem d_RS_ask_94 : decode b_RS_ask 94 = .ok (.invokevirtual 100, 3) := by decide +kernel
theorem d_RS_ask_97 : decode b_RS_ask 97 = .ok (.istore 6, 2) := by decide +kernel
theorem d_RS_ask_99 : decode b_RS_ask 99 = .ok (.iload 6, 2) := by decide +kernel
theorem d_RS_ask_101 : decode b_RS_ask 101 = .ok (.ifCond .eq 7, 3) := by decide +kernel
theorem d_RS_ask_104 : decode b_RS_ask 104 = .ok (.iload 6, 2) := by decide +kernel
theorem d_RS_ask_106 : decode b_RS_ask 106 = .ok (.ineg, 1) := by decide +kernel
theorem d_RS_ask_107 : decode b_RS_ask 107 = .ok (.ireturn, 1) := by decide +kernel
theorem d_RS_ask_108 : decode b_RS_ask 108 = .ok (.aload_n 0, 1) := by decide +kernel
theorem d_RS_ask_109 : decode b_RS_ask 109 = .ok (.getfield 34, 3) := by decide +kernel
theorem d_RS_ask_112 : decode b_RS_ask 112 = .ok (.iload_n 1, 1) := by decide +kernel
theorem d_RS_ask_113 : decode b_RS_ask 113 = .ok (.iload_n 2, 1) := by decide +kernel
theorem d_RS_ask_114 : decode b_RS_ask 114 = .ok (.iload_n 3, 1) := by decide +kernel
theorem d_RS_ask_115 : decode b_RS_ask 115 = .ok (.iload 4, 2) := by decide +kernel
theorem d_RS_ask_117 : decode b_RS_ask 117 = .ok (.invokevirtual 104, 3) := by decide +kernel
theorem d_RS_ask_120 : decode b_RS_ask 120 = .ok (.aload_n 0, 1) := by decide +kernel
theorem d_RS_ask_121 : decode b_RS_ask 121 = .ok (.getfield 34, 3) := by decide +kernel
theorem d_RS_ask_124 : decode b_RS_ask 124 = .ok (.iload_n 1, 1) := by decide +kernel
theorem d_RS_ask_125 : decode b_RS_ask 125 = .ok (.iload_n 2, 1) := by decide +kernel
theorem d_RS_ask_126 : decode b_RS_ask 126 = .ok (.iload_n 3, 1) := by decide +kernel
theorem d_RS_ask_127 : decode b_RS_ask 127 = .ok (.iload 4, 2) := by decide +kernel
theorem d_RS_ask_129 : decode b_RS_ask 129 = .ok (.iload 5, 2) := by decide +kernel
theorem d_RS_ask_131 : decode b_RS_ask 131 = .ok (.invokevirtual 108, 3) := by decide +kernel
theorem d_RS_ask_134 : decode b_RS_ask 134 = .ok (.ireturn, 1) := by decide +kernel
theorem d_Gr_isLiveOf_0 : decode b_Gr_isLiveOf 0 = .ok (.aload_n 0, 1) := by decide +kernel
theorem d_Gr_isLiveOf_1 : decode b_Gr_isLiveOf 1 = .ok (.iload_n 1, 1) := by decide +kernel
theorem d_Gr_isLiveOf_2 : decode b_Gr_isLiveOf 2 = .ok (.invokevirtual 34, 3) := by decide +kernel
theorem d_Gr_isLiveOf_5 : decode b_Gr_isLiveOf 5 = .ok (.ifCond .eq 17, 3) := by decide +kernel
theorem d_Gr_isLiveOf_8 : decode b_Gr_isLiveOf 8 = .ok (.aload_n 0, 1) := by decide +kernel
theorem d_Gr_isLiveOf_9 : decode b_Gr_isLiveOf 9 = .ok (.getfield 15, 3) := by decide +kernel
theorem d_Gr_isLiveOf_12 : decode b_Gr_isLiveOf 12 = .ok (.iload_n 1, 1) := by decide +kernel
theorem d_Gr_isLiveOf_13 : decode b_Gr_isLiveOf 13 = .ok (.iaload, 1) := by decide +kernel
theorem d_Gr_isLiveOf_14 : decode b_Gr_isLiveOf 14 = .ok (.iload_n 2, 1) := by decide +kernel
theorem d_Gr_isLiveOf_15 : decode b_Gr_isLiveOf 15 = .ok (.if_icmp .ne 7, 3) := by decide +kernel
theorem d_Gr_isLiveOf_18 : decode b_Gr_isLiveOf 18 = .ok (.iconst 1, 1) := by decide +kernel
theorem d_Gr_isLiveOf_19 : decode b_Gr_isLiveOf 19 = .ok (.goto 4, 3) := by decide +kernel
theorem d_Gr_isLiveOf_22 : decode b_Gr_isLiveOf 22 = .ok (.iconst 0, 1) := by decide +kernel
theorem d_Gr_isLiveOf_23 : decode b_Gr_isLiveOf 23 = .ok (.ireturn, 1) := by decide +kernel
theorem d_Gr_liveOf_0 : decode b_Gr_liveOf 0 = .ok (.iconst 0, 1) := by decide +kernel
theorem d_Gr_liveOf_1 : decode b_Gr_liveOf 1 = .ok (.istore_n 2, 1) := by decide +kernel
theorem d_Gr_liveOf_2 : decode b_Gr_liveOf 2 = .ok (.iconst 1, 1) := by decide +kernel
theorem d_Gr_liveOf_3 : decode b_Gr_liveOf 3 = .ok (.istore_n 3, 1) := by decide +kernel
theorem d_Gr_liveOf_4 : decode b_Gr_liveOf 4 = .ok (.iload_n 3, 1) := by decide +kernel
theorem d_Gr_liveOf_5 : decode b_Gr_liveOf 5 = .ok (.aload_n 0, 1) := by decide +kernel
theorem d_Gr_liveOf_6 : decode b_Gr_liveOf 6 = .ok (.getfield 9, 3) := by decide +kernel
theorem d_Gr_liveOf_9 : decode b_Gr_liveOf 9 = .ok (.if_icmp .gt 21, 3) := by decide +kernel
theorem d_Gr_liveOf_12 : decode b_Gr_liveOf 12 = .ok (.aload_n 0, 1) := by decide +kernel
theorem d_Gr_liveOf_13 : decode b_Gr_liveOf 13 = .ok (.iload_n 3, 1) := by decide +kernel
theorem d_Gr_liveOf_14 : decode b_Gr_liveOf 14 = .ok (.iload_n 1, 1) := by decide +kernel
theorem d_Gr_liveOf_15 : decode b_Gr_liveOf 15 = .ok (.invokevirtual 50, 3) := by decide +kernel
theorem d_Gr_liveOf_18 : decode b_Gr_liveOf 18 = .ok (.ifCond .eq 6, 3) := by decide +kernel
theorem d_Gr_liveOf_21 : decode b_Gr_liveOf 21 = .ok (.iinc 2 1, 3) := by decide +kernel
theorem d_Gr_liveOf_24 : decode b_Gr_liveOf 24 = .ok (.iinc 3 1, 3) := by decide +kernel
theorem d_Gr_liveOf_27 : decode b_Gr_liveOf 27 = .ok (.goto (-23), 3) := by decide +kernel
theorem d_Gr_liveOf_30 : decode b_Gr_liveOf 30 = .ok (.iload_n 2, 1) := by decide +kernel
theorem d_Gr_liveOf_31 : decode b_Gr_liveOf 31 = .ok (.ireturn, 1) := by decide +kernel
theorem d_RS_free_0 : decode b_RS_free 0 = .ok (.aload_n 0, 1) := by decide +kernel
theorem d_RS_free_1 : decode b_RS_free 1 = .ok (.iload_n 1, 1) := by decide +kernel
theorem d_RS_free_2 : decode b_RS_free 2 = .ok (.invokevirtual 110, 3) := by decide +kernel
theorem d_RS_free_5 : decode b_RS_free 5 = .ok (.aload_n 0, 1) := by decide +kernel
theorem d_RS_free_6 : decode b_RS_free 6 = .ok (.getfield 34, 3) := by decide +kernel
theorem d_RS_free_9 : decode b_RS_free 9 = .ok (.iload_n 1, 1) := by decide +kernel
theorem d_RS_free_10 : decode b_RS_free 10 = .ok (.invokevirtual 113, 3) := by decide +kernel
theorem d_RS_free_13 : decode b_RS_free 13 = .ok (.ifCond .ne 13, 3) := by decide +kernel
theorem d_RS_free_16 : decode b_RS_free 16 = .ok (.new 63, 3) := by decide +kernel
theorem d_RS_free_19 : decode b_RS_free 19 = .ok (.dup, 1) := by decide +kernel
