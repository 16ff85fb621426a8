theorem d_RS_free_20 : decode b_RS_free 20 = .ok (.ldc 117, 2) := by decide +kernel
theorem d_RS_free_22 : decode b_RS_free 22 = .ok (.invokespecial 67, 3) := by decide +kernel
theorem d_RS_free_25 : decode b_RS_free 25 = .ok (.athrow, 1) := by decide +kernel
theorem d_RS_free_26 : decode b_RS_free 26 = .ok (.aload_n 0, 1) := by decide +kernel
theorem d_RS_free_27 : decode b_RS_free 27 = .ok (.getfield 34, 3) := by decide +kernel
theorem d_RS_free_30 : decode b_RS_free 30 = .ok (.getfield 119, 3) := by decide +kernel
theorem d_RS_free_33 : decode b_RS_free 33 = .ok (.iload_n 1, 1) := by decide +kernel
theorem d_RS_free_34 : decode b_RS_free 34 = .ok (.iconst 2, 1) := by decide +kernel
theorem d_RS_free_35 : decode b_RS_free 35 = .ok (.iastore, 1) := by decide +kernel
theorem d_RS_free_36 : decode b_RS_free 36 = .ok (.aload_n 0, 1) := by decide +kernel
theorem d_RS_free_37 : decode b_RS_free 37 = .ok (.getfield 34, 3) := by decide +kernel
theorem d_RS_free_40 : decode b_RS_free 40 = .ok (.aload_n 0, 1) := by decide +kernel
theorem d_RS_free_41 : decode b_RS_free 41 = .ok (.getfield 34, 3) := by decide +kernel
theorem d_RS_free_44 : decode b_RS_free 44 = .ok (.getfield 122, 3) := by decide +kernel
theorem d_RS_free_47 : decode b_RS_free 47 = .ok (.iload_n 1, 1) := by decide +kernel
theorem d_RS_free_48 : decode b_RS_free 48 = .ok (.iaload, 1) := by decide +kernel
theorem d_RS_free_49 : decode b_RS_free 49 = .ok (.invokevirtual 125, 3) := by decide +kernel
theorem d_RS_free_52 : decode b_RS_free 52 = .ok (.ireturn, 1) := by decide +kernel
theorem d_Gr_areMeeting_0 : decode b_Gr_areMeeting 0 = .ok (.aload_n 0, 1) := by decide +kernel
theorem d_Gr_areMeeting_1 : decode b_Gr_areMeeting 1 = .ok (.getfield 19, 3) := by decide +kernel
theorem d_Gr_areMeeting_4 : decode b_Gr_areMeeting 4 = .ok (.iload_n 1, 1) := by decide +kernel
theorem d_Gr_areMeeting_5 : decode b_Gr_areMeeting 5 = .ok (.iaload, 1) := by decide +kernel
theorem d_Gr_areMeeting_6 : decode b_Gr_areMeeting 6 = .ok (.aload_n 0, 1) := by decide +kernel
theorem d_Gr_areMeeting_7 : decode b_Gr_areMeeting 7 = .ok (.getfield 19, 3) := by decide +kernel
theorem d_Gr_areMeeting_10 : decode b_Gr_areMeeting 10 = .ok (.iload_n 2, 1) := by decide +kernel
theorem d_Gr_areMeeting_11 : decode b_Gr_areMeeting 11 = .ok (.iaload, 1) := by decide +kernel
theorem d_Gr_areMeeting_12 : decode b_Gr_areMeeting 12 = .ok (.if_icmp .ne 27, 3) := by decide +kernel
theorem d_Gr_areMeeting_15 : decode b_Gr_areMeeting 15 = .ok (.aload_n 0, 1) := by decide +kernel
theorem d_Gr_areMeeting_16 : decode b_Gr_areMeeting 16 = .ok (.iload_n 1, 1) := by decide +kernel
theorem d_Gr_areMeeting_17 : decode b_Gr_areMeeting 17 = .ok (.aload_n 0, 1) := by decide +kernel
theorem d_Gr_areMeeting_18 : decode b_Gr_areMeeting 18 = .ok (.getfield 22, 3) := by decide +kernel
theorem d_Gr_areMeeting_21 : decode b_Gr_areMeeting 21 = .ok (.iload_n 2, 1) := by decide +kernel
theorem d_Gr_areMeeting_22 : decode b_Gr_areMeeting 22 = .ok (.iaload, 1) := by decide +kernel
theorem d_Gr_areMeeting_23 : decode b_Gr_areMeeting 23 = .ok (.aload_n 0, 1) := by decide +kernel
theorem d_Gr_areMeeting_24 : decode b_Gr_areMeeting 24 = .ok (.getfield 25, 3) := by decide +kernel
theorem d_Gr_areMeeting_27 : decode b_Gr_areMeeting 27 = .ok (.iload_n 2, 1) := by decide +kernel
theorem d_Gr_areMeeting_28 : decode b_Gr_areMeeting 28 = .ok (.iaload, 1) := by decide +kernel
theorem d_Gr_areMeeting_29 : decode b_Gr_areMeeting 29 = .ok (.invokevirtual 38, 3) := by decide +kernel
theorem d_Gr_areMeeting_32 : decode b_Gr_areMeeting 32 = .ok (.ifCond .eq 7, 3) := by decide +kernel
theorem d_Gr_areMeeting_35 : decode b_Gr_areMeeting 35 = .ok (.iconst 1, 1) := by decide +kernel
theorem d_Gr_areMeeting_36 : decode b_Gr_areMeeting 36 = .ok (.goto 4, 3) := by decide +kernel
theorem d_Gr_areMeeting_39 : decode b_Gr_areMeeting 39 = .ok (.iconst 0, 1) := by decide +kernel
theorem d_Gr_areMeeting_40 : decode b_Gr_areMeeting 40 = .ok (.ireturn, 1) := by decide +kernel
theorem d_RS_meets_0 : decode b_RS_meets 0 = .ok (.aload_n 0, 1) := by decide +kernel
theorem d_RS_meets_1 : decode b_RS_meets 1 = .ok (.iload_n 1, 1) := by decide +kernel
theorem d_RS_meets_2 : decode b_RS_meets 2 = .ok (.invokevirtual 110, 3) := by decide +kernel
theorem d_RS_meets_5 : decode b_RS_meets 5 = .ok (.aload_n 0, 1) := by decide +kernel
theorem d_RS_meets_6 : decode b_RS_meets 6 = .ok (.iload_n 2, 1) := by decide +kernel
theorem d_RS_meets_7 : decode b_RS_meets 7 = .ok (.invokevirtual 110, 3) := by decide +kernel
theorem d_RS_meets_10 : decode b_RS_meets 10 = .ok (.aload_n 0, 1) := by decide +kernel
theorem d_RS_meets_11 : decode b_RS_meets 11 = .ok (.getfield 34, 3) := by decide +kernel
theorem d_RS_meets_14 : decode b_RS_meets 14 = .ok (.iload_n 1, 1) := by decide +kernel
theorem d_RS_meets_15 : decode b_RS_meets 15 = .ok (.iload_n 2, 1) := by decide +kernel
theorem d_RS_meets_16 : decode b_RS_meets 16 = .ok (.invokevirtual 128, 3) := by decide +kernel
theorem d_RS_meets_19 : decode b_RS_meets 19 = .ok (.ireturn, 1) := by decide +kernel
theorem d_RS_areLinked_0 : decode b_RS_areLinked 0 = .ok (.aload_n 0, 1) := by decide +kernel
theorem d_RS_areLinked_1 : decode b_RS_areLinked 1 = .ok (.getfield 16, 3) := by decide +kernel
theorem d_RS_areLinked_4 : decode b_RS_areLinked 4 = .ok (.iload_n 1, 1) := by decide +kernel
theorem d_RS_areLinked_5 : decode b_RS_areLinked 5 = .ok (.iaload, 1) := by decide +kernel
theorem d_RS_areLinked_6 : decode b_RS_areLinked 6 = .ok (.iload_n 2, 1) := by decide +kernel
theorem d_RS_areLinked_7 : decode b_RS_areLinked 7 = .ok (.ishr, 1) := by decide +kernel
theorem d_RS_areLinked_8 : decode b_RS_areLinked 8 = .ok (.iconst 1, 1) := by decide +kernel
theorem d_RS_areLinked_9 : decode b_RS_areLinked 9 = .ok (.iand, 1) := by decide +kernel
theorem d_RS_areLinked_10 : decode b_RS_areLinked 10 = .ok (.iconst 1, 1) := by decide +kernel
theorem d_RS_areLinked_11 : decode b_RS_areLinked 11 = .ok (.if_icmp .ne 7, 3) := by decide +kernel
theorem d_RS_areLinked_14 : decode b_RS_areLinked 14 = .ok (.iconst 1, 1) := by decide +kernel
theorem d_RS_areLinked_15 : decode b_RS_areLinked 15 = .ok (.goto 4, 3) := by decide +kernel
theorem d_RS_areLinked_18 : decode b_RS_areLinked 18 = .ok (.iconst 0, 1) := by decide +kernel
theorem d_RS_areLinked_19 : decode b_RS_areLinked 19 = .ok (.ireturn, 1) := by decide +kernel
theorem d_Gr_firstBegun_0 : decode b_Gr_firstBegun 0 = .ok (.iconst 1, 1) := by decide +kernel
theorem d_Gr_firstBegun_1 : decode b_Gr_firstBegun 1 = .ok (.istore 4, 2) := by decide +kernel
theorem d_Gr_firstBegun_3 : decode b_Gr_firstBegun 3 = .ok (.iload 4, 2) := by decide +kernel
theorem d_Gr_firstBegun_5 : decode b_Gr_firstBegun 5 = .ok (.aload_n 0, 1) := by decide +kernel
theorem d_Gr_firstBegun_6 : decode b_Gr_firstBegun 6 = .ok (.getfield 9, 3) := by decide +kernel
theorem d_Gr_firstBegun_9 : decode b_Gr_firstBegun 9 = .ok (.if_icmp .gt 43, 3) := by decide +kernel
theorem d_Gr_firstBegun_12 : decode b_Gr_firstBegun 12 = .ok (.aload_n 0, 1) := by decide +kernel
theorem d_Gr_firstBegun_13 : decode b_Gr_firstBegun 13 = .ok (.iload 4, 2) := by decide +kernel
theorem d_Gr_firstBegun_15 : decode b_Gr_firstBegun 15 = .ok (.iload_n 1, 1) := by decide +kernel
theorem d_Gr_firstBegun_16 : decode b_Gr_firstBegun 16 = .ok (.invokevirtual 50, 3) := by decide +kernel
theorem d_Gr_firstBegun_19 : decode b_Gr_firstBegun 19 = .ok (.ifCond .eq 27, 3) := by decide +kernel
theorem d_Gr_firstBegun_22 : decode b_Gr_firstBegun 22 = .ok (.aload_n 0, 1) := by decide +kernel
theorem d_Gr_firstBegun_23 : decode b_Gr_firstBegun 23 = .ok (.getfield 19, 3) := by decide +kernel
theorem d_Gr_firstBegun_26 : decode b_Gr_firstBegun 26 = .ok (.iload 4, 2) := by decide +kernel
theorem d_Gr_firstBegun_28 : decode b_Gr_firstBegun 28 = .ok (.iaload, 1) := by decide +kernel
theorem d_Gr_firstBegun_29 : decode b_Gr_firstBegun 29 = .ok (.iload_n 2, 1) := by decide +kernel
theorem d_Gr_firstBegun_30 : decode b_Gr_firstBegun 30 = .ok (.if_icmp .ne 16, 3) := by decide +kernel
theorem d_Gr_firstBegun_33 : decode b_Gr_firstBegun 33 = .ok (.aload_n 0, 1) := by decide +kernel
theorem d_Gr_firstBegun_34 : decode b_Gr_firstBegun 34 = .ok (.iload 4, 2) := by decide +kernel
theorem d_Gr_firstBegun_36 : decode b_Gr_firstBegun 36 = .ok (.iload_n 3, 1) := by decide +kernel
theorem d_Gr_firstBegun_37 : decode b_Gr_firstBegun 37 = .ok (.invokevirtual 53, 3) := by decide +kernel
theorem d_Gr_firstBegun_40 : decode b_Gr_firstBegun 40 = .ok (.ifCond .eq 6, 3) := by decide +kernel
theorem d_Gr_firstBegun_43 : decode b_Gr_firstBegun 43 = .ok (.iload 4, 2) := by decide +kernel
theorem d_Gr_firstBegun_45 : decode b_Gr_firstBegun 45 = .ok (.ireturn, 1) := by decide +kernel
theorem d_Gr_firstBegun_46 : decode b_Gr_firstBegun 46 = .ok (.iinc 4 1, 3) := by decide +kernel
theorem d_Gr_firstBegun_49 : decode b_Gr_firstBegun 49 = .ok (.goto (-46), 3) := by decide +kernel
theorem d_Gr_firstBegun_52 : decode b_Gr_firstBegun 52 = .ok (.iconst 0, 1) := by decide +kernel
theorem d_Gr_firstBegun_53 : decode b_Gr_firstBegun 53 = .ok (.ireturn, 1) := by decide +kernel
theorem d_Rb_moveTo_0 : decode b_Rb_moveTo 0 = .ok (.aload_n 0, 1) := by decide +kernel
theorem d_Rb_moveTo_1 : decode b_Rb_moveTo 1 = .ok (.getfield 23, 3) := by decide +kernel
theorem d_Rb_moveTo_4 : decode b_Rb_moveTo 4 = .ok (.iload_n 1, 1) := by decide +kernel
theorem d_Rb_moveTo_5 : decode b_Rb_moveTo 5 = .ok (.aload_n 0, 1) := by decide +kernel
theorem d_Rb_moveTo_6 : decode b_Rb_moveTo 6 = .ok (.getfield 19, 3) := by decide +kernel
theorem d_Rb_moveTo_9 : decode b_Rb_moveTo 9 = .ok (.iload_n 1, 1) := by decide +kernel
theorem d_Rb_moveTo_10 : decode b_Rb_moveTo 10 = .ok (.baload, 1) := by decide +kernel
theorem d_Rb_moveTo_11 : decode b_Rb_moveTo 11 = .ok (.ifCond .eq 12, 3) := by decide +kernel
theorem d_Rb_moveTo_14 : decode b_Rb_moveTo 14 = .ok (.aload_n 0, 1) := by decide +kernel
theorem d_Rb_moveTo_15 : decode b_Rb_moveTo 15 = .ok (.getfield 15, 3) := by decide +kernel
theorem d_Rb_moveTo_18 : decode b_Rb_moveTo 18 = .ok (.iload_n 1, 1) := by decide +kernel
theorem d_Rb_moveTo_19 : decode b_Rb_moveTo 19 = .ok (.iaload, 1) := by decide +kernel
theorem d_Rb_moveTo_20 : decode b_Rb_moveTo 20 = .ok (.goto 4, 3) := by decide +kernel
theorem d_Rb_moveTo_23 : decode b_Rb_moveTo 23 = .ok (.iconst (-1), 1) := by decide +kernel
theorem d_Rb_moveTo_24 : decode b_Rb_moveTo 24 = .ok (.iastore, 1) := by decide +kernel
theorem d_Rb_moveTo_25 : decode b_Rb_moveTo 25 = .ok (.aload_n 0, 1) := by decide +kernel
theorem d_Rb_moveTo_26 : decode b_Rb_moveTo 26 = .ok (.getfield 15, 3) := by decide +kernel
theorem d_Rb_moveTo_29 : decode b_Rb_moveTo 29 = .ok (.iload_n 1, 1) := by decide +kernel
theorem d_Rb_moveTo_30 : decode b_Rb_moveTo 30 = .ok (.iload_n 2, 1) := by decide +kernel
theorem d_Rb_moveTo_31 : decode b_Rb_moveTo 31 = .ok (.iastore, 1) := by decide +kernel
theorem d_Rb_moveTo_32 : decode b_Rb_moveTo 32 = .ok (.aload_n 0, 1) := by decide +kernel
theorem d_Rb_moveTo_33 : decode b_Rb_moveTo 33 = .ok (.getfield 26, 3) := by decide +kernel
theorem d_Rb_moveTo_36 : decode b_Rb_moveTo 36 = .ok (.iload_n 1, 1) := by decide +kernel
theorem d_Rb_moveTo_37 : decode b_Rb_moveTo 37 = .ok (.iconst (-1), 1) := by decide +kernel
theorem d_Rb_moveTo_38 : decode b_Rb_moveTo 38 = .ok (.iastore, 1) := by decide +kernel
theorem d_Rb_moveTo_39 : decode b_Rb_moveTo 39 = .ok (.return_, 1) := by decide +kernel
theorem d_RS_step_0 : decode b_RS_step 0 = .ok (.aload_n 0, 1) := by decide +kernel
theorem d_RS_step_1 : decode b_RS_step 1 = .ok (.iload_n 1, 1) := by decide +kernel
theorem d_RS_step_2 : decode b_RS_step 2 = .ok (.invokevirtual 77, 3) := by decide +kernel
theorem d_RS_step_5 : decode b_RS_step 5 = .ok (.aload_n 0, 1) := by decide +kernel
theorem d_RS_step_6 : decode b_RS_step 6 = .ok (.iload_n 2, 1) := by decide +kernel
theorem d_RS_step_7 : decode b_RS_step 7 = .ok (.invokevirtual 45, 3) := by decide +kernel
theorem d_RS_step_10 : decode b_RS_step 10 = .ok (.aload_n 0, 1) := by decide +kernel
theorem d_RS_step_11 : decode b_RS_step 11 = .ok (.iload_n 2, 1) := by decide +kernel
theorem d_RS_step_12 : decode b_RS_step 12 = .ok (.aload_n 0, 1) := by decide +kernel
theorem d_RS_step_13 : decode b_RS_step 13 = .ok (.getfield 27, 3) := by decide +kernel
theorem d_RS_step_16 : decode b_RS_step 16 = .ok (.getfield 131, 3) := by decide +kernel
theorem d_RS_step_19 : decode b_RS_step 19 = .ok (.iload_n 1, 1) := by decide +kernel
theorem d_RS_step_20 : decode b_RS_step 20 = .ok (.iaload, 1) := by decide +kernel
theorem d_RS_step_21 : decode b_RS_step 21 = .ok (.invokevirtual 134, 3) := by decide +kernel
theorem d_RS_step_24 : decode b_RS_step 24 = .ok (.ifCond .ne 13, 3) := by decide +kernel
theorem d_RS_step_27 : decode b_RS_step 27 = .ok (.new 49, 3) := by decide +kernel
theorem d_RS_step_30 : decode b_RS_step 30 = .ok (.dup, 1) := by decide +kernel
theorem d_RS_step_31 : decode b_RS_step 31 = .ok (.ldc 137, 2) := by decide +kernel
theorem d_RS_step_33 : decode b_RS_step 33 = .ok (.invokespecial 53, 3) := by decide +kernel
theorem d_RS_step_36 : decode b_RS_step 36 = .ok (.athrow, 1) := by decide +kernel
theorem d_RS_step_37 : decode b_RS_step 37 = .ok (.aload_n 0, 1) := by decide +kernel
theorem d_RS_step_38 : decode b_RS_step 38 = .ok (.iload_n 1, 1) := by decide +kernel
theorem d_RS_step_39 : decode b_RS_step 39 = .ok (.invokevirtual 87, 3) := by decide +kernel
theorem d_RS_step_42 : decode b_RS_step 42 = .ok (.aload_n 0, 1) := by decide +kernel
theorem d_RS_step_43 : decode b_RS_step 43 = .ok (.getfield 27, 3) := by decide +kernel
theorem d_RS_step_46 : decode b_RS_step 46 = .ok (.getfield 93, 3) := by decide +kernel
theorem d_RS_step_49 : decode b_RS_step 49 = .ok (.iload_n 1, 1) := by decide +kernel
theorem d_RS_step_50 : decode b_RS_step 50 = .ok (.aload_n 0, 1) := by decide +kernel
theorem d_RS_step_51 : decode b_RS_step 51 = .ok (.getfield 7, 3) := by decide +kernel
theorem d_RS_step_54 : decode b_RS_step 54 = .ok (.iastore, 1) := by decide +kernel
theorem d_RS_step_55 : decode b_RS_step 55 = .ok (.aload_n 0, 1) := by decide +kernel
theorem d_RS_step_56 : decode b_RS_step 56 = .ok (.getfield 34, 3) := by decide +kernel
theorem d_RS_step_59 : decode b_RS_step 59 = .ok (.iload_n 1, 1) := by decide +kernel
theorem d_RS_step_60 : decode b_RS_step 60 = .ok (.iload_n 2, 1) := by decide +kernel
theorem d_RS_step_61 : decode b_RS_step 61 = .ok (.aload_n 0, 1) := by decide +kernel
theorem d_RS_step_62 : decode b_RS_step 62 = .ok (.getfield 7, 3) := by decide +kernel
theorem d_RS_step_65 : decode b_RS_step 65 = .ok (.invokevirtual 139, 3) := by decide +kernel
theorem d_RS_step_68 : decode b_RS_step 68 = .ok (.istore_n 3, 1) := by decide +kernel
theorem d_RS_step_69 : decode b_RS_step 69 = .ok (.iload_n 3, 1) := by decide +kernel
theorem d_RS_step_70 : decode b_RS_step 70 = .ok (.ifCond .ne 5, 3) := by decide +kernel
theorem d_RS_step_73 : decode b_RS_step 73 = .ok (.iconst 0, 1) := by decide +kernel
theorem d_RS_step_74 : decode b_RS_step 74 = .ok (.ireturn, 1) := by decide +kernel
theorem d_RS_step_75 : decode b_RS_step 75 = .ok (.aload_n 0, 1) := by decide +kernel
theorem d_RS_step_76 : decode b_RS_step 76 = .ok (.getfield 27, 3) := by decide +kernel
theorem d_RS_step_79 : decode b_RS_step 79 = .ok (.iload_n 1, 1) := by decide +kernel
theorem d_RS_step_80 : decode b_RS_step 80 = .ok (.iload_n 2, 1) := by decide +kernel
theorem d_RS_step_81 : decode b_RS_step 81 = .ok (.invokevirtual 96, 3) := by decide +kernel
theorem d_RS_step_84 : decode b_RS_step 84 = .ok (.ifCond .eq 5, 3) := by decide +kernel
theorem d_RS_step_87 : decode b_RS_step 87 = .ok (.iconst (-1), 1) := by decide +kernel
theorem d_RS_step_88 : decode b_RS_step 88 = .ok (.ireturn, 1) := by decide +kernel
theorem d_RS_step_89 : decode b_RS_step 89 = .ok (.aload_n 0, 1) := by decide +kernel
theorem d_RS_step_90 : decode b_RS_step 90 = .ok (.getfield 34, 3) := by decide +kernel
theorem d_RS_step_93 : decode b_RS_step 93 = .ok (.getfield 119, 3) := by decide +kernel
theorem d_RS_step_96 : decode b_RS_step 96 = .ok (.iload_n 3, 1) := by decide +kernel
theorem d_RS_step_97 : decode b_RS_step 97 = .ok (.iconst 1, 1) := by decide +kernel
theorem d_RS_step_98 : decode b_RS_step 98 = .ok (.iastore, 1) := by decide +kernel
theorem d_RS_step_99 : decode b_RS_step 99 = .ok (.aload_n 0, 1) := by decide +kernel
theorem d_RS_step_100 : decode b_RS_step 100 = .ok (.getfield 27, 3) := by decide +kernel
theorem d_RS_step_103 : decode b_RS_step 103 = .ok (.iload_n 1, 1) := by decide +kernel
theorem d_RS_step_104 : decode b_RS_step 104 = .ok (.iload_n 2, 1) := by decide +kernel
theorem d_RS_step_105 : decode b_RS_step 105 = .ok (.invokevirtual 143, 3) := by decide +kernel
theorem d_RS_step_108 : decode b_RS_step 108 = .ok (.iload_n 3, 1) := by decide +kernel
theorem d_RS_step_109 : decode b_RS_step 109 = .ok (.ireturn, 1) := by decide +kernel
theorem d_RS_pull_0 : decode b_RS_pull 0 = .ok (.aload_n 0, 1) := by decide +kernel
theorem d_RS_pull_1 : decode b_RS_pull 1 = .ok (.iload_n 1, 1) := by decide +kernel
theorem d_RS_pull_2 : decode b_RS_pull 2 = .ok (.invokevirtual 77, 3) := by decide +kernel
theorem d_RS_pull_5 : decode b_RS_pull 5 = .ok (.aload_n 0, 1) := by decide +kernel
theorem d_RS_pull_6 : decode b_RS_pull 6 = .ok (.getfield 27, 3) := by decide +kernel
theorem d_RS_pull_9 : decode b_RS_pull 9 = .ok (.getfield 146, 3) := by decide +kernel
theorem d_RS_pull_12 : decode b_RS_pull 12 = .ok (.iload_n 1, 1) := by decide +kernel
theorem d_RS_pull_13 : decode b_RS_pull 13 = .ok (.iaload, 1) := by decide +kernel
theorem d_RS_pull_14 : decode b_RS_pull 14 = .ok (.istore_n 2, 1) := by decide +kernel
theorem d_RS_pull_15 : decode b_RS_pull 15 = .ok (.iload_n 2, 1) := by decide +kernel
theorem d_RS_pull_16 : decode b_RS_pull 16 = .ok (.iconst (-1), 1) := by decide +kernel
theorem d_RS_pull_17 : decode b_RS_pull 17 = .ok (.if_icmp .ne 13, 3) := by decide +kernel
theorem d_RS_pull_20 : decode b_RS_pull 20 = .ok (.new 63, 3) := by decide +kernel
theorem d_RS_pull_23 : decode b_RS_pull 23 = .ok (.dup, 1) := by decide +kernel
theorem d_RS_pull_24 : decode b_RS_pull 24 = .ok (.ldc 149, 2) := by decide +kernel
theorem d_RS_pull_26 : decode b_RS_pull 26 = .ok (.invokespecial 67, 3) := by decide +kernel
theorem d_RS_pull_29 : decode b_RS_pull 29 = .ok (.athrow, 1) := by decide +kernel
theorem d_RS_pull_30 : decode b_RS_pull 30 = .ok (.aload_n 0, 1) := by decide +kernel
theorem d_RS_pull_31 : decode b_RS_pull 31 = .ok (.getfield 27, 3) := by decide +kernel
theorem d_RS_pull_34 : decode b_RS_pull 34 = .ok (.getfield 146, 3) := by decide +kernel
theorem d_RS_pull_37 : decode b_RS_pull 37 = .ok (.iload_n 1, 1) := by decide +kernel
theorem d_RS_pull_38 : decode b_RS_pull 38 = .ok (.iconst (-1), 1) := by decide +kernel
theorem d_RS_pull_39 : decode b_RS_pull 39 = .ok (.iastore, 1) := by decide +kernel
theorem d_RS_pull_40 : decode b_RS_pull 40 = .ok (.aload_n 0, 1) := by decide +kernel
theorem d_RS_pull_41 : decode b_RS_pull 41 = .ok (.getfield 27, 3) := by decide +kernel
theorem d_RS_pull_44 : decode b_RS_pull 44 = .ok (.getfield 93, 3) := by decide +kernel
theorem d_RS_pull_47 : decode b_RS_pull 47 = .ok (.iload_n 1, 1) := by decide +kernel
theorem d_RS_pull_48 : decode b_RS_pull 48 = .ok (.aload_n 0, 1) := by decide +kernel
theorem d_RS_pull_49 : decode b_RS_pull 49 = .ok (.getfield 7, 3) := by decide +kernel
theorem d_RS_pull_52 : decode b_RS_pull 52 = .ok (.iastore, 1) := by decide +kernel
theorem d_RS_pull_53 : decode b_RS_pull 53 = .ok (.iload_n 2, 1) := by decide +kernel
theorem d_RS_pull_54 : decode b_RS_pull 54 = .ok (.ireturn, 1) := by decide +kernel
theorem d_Rb_ringByWaiting_0 : decode b_Rb_ringByWaiting 0 = .ok (.iload_n 2, 1) := by decide +kernel
theorem d_Rb_ringByWaiting_1 : decode b_Rb_ringByWaiting 1 = .ok (.istore_n 3, 1) := by decide +kernel
theorem d_Rb_ringByWaiting_2 : decode b_Rb_ringByWaiting 2 = .ok (.iconst 1, 1) := by decide +kernel
theorem d_Rb_ringByWaiting_3 : decode b_Rb_ringByWaiting 3 = .ok (.istore 4, 2) := by decide +kernel
theorem d_Rb_ringByWaiting_5 : decode b_Rb_ringByWaiting 5 = .ok (.iload 4, 2) := by decide +kernel
theorem d_Rb_ringByWaiting_7 : decode b_Rb_ringByWaiting 7 = .ok (.aload_n 0, 1) := by decide +kernel
theorem d_Rb_ringByWaiting_8 : decode b_Rb_ringByWaiting 8 = .ok (.getfield 9, 3) := by decide +kernel
theorem d_Rb_ringByWaiting_11 : decode b_Rb_ringByWaiting 11 = .ok (.if_icmp .gt 48, 3) := by decide +kernel
theorem d_Rb_ringByWaiting_14 : decode b_Rb_ringByWaiting 14 = .ok (.iload_n 3, 1) := by decide +kernel
theorem d_Rb_ringByWaiting_15 : decode b_Rb_ringByWaiting 15 = .ok (.iconst (-1), 1) := by decide +kernel
theorem d_Rb_ringByWaiting_16 : decode b_Rb_ringByWaiting 16 = .ok (.if_icmp .eq 43, 3) := by decide +kernel
theorem d_Rb_ringByWaiting_19 : decode b_Rb_ringByWaiting 19 = .ok (.aload_n 0, 1) := by decide +kernel
theorem d_Rb_ringByWaiting_20 : decode b_Rb_ringByWaiting 20 = .ok (.iload_n 3, 1) := by decide +kernel
theorem d_Rb_ringByWaiting_21 : decode b_Rb_ringByWaiting 21 = .ok (.invokevirtual 35, 3) := by decide +kernel
theorem d_Rb_ringByWaiting_24 : decode b_Rb_ringByWaiting 24 = .ok (.istore 5, 2) := by decide +kernel
theorem d_Rb_ringByWaiting_26 : decode b_Rb_ringByWaiting 26 = .ok (.iload 5, 2) := by decide +kernel
theorem d_Rb_ringByWaiting_28 : decode b_Rb_ringByWaiting 28 = .ok (.iload_n 1, 1) := by decide +kernel
theorem d_Rb_ringByWaiting_29 : decode b_Rb_ringByWaiting 29 = .ok (.if_icmp .ne 6, 3) := by decide +kernel
theorem d_Rb_ringByWaiting_32 : decode b_Rb_ringByWaiting 32 = .ok (.iload 4, 2) := by decide +kernel
theorem d_Rb_ringByWaiting_34 : decode b_Rb_ringByWaiting 34 = .ok (.ireturn, 1) := by decide +kernel
theorem d_Rb_ringByWaiting_35 : decode b_Rb_ringByWaiting 35 = .ok (.iload 5, 2) := by decide +kernel
theorem d_Rb_ringByWaiting_37 : decode b_Rb_ringByWaiting 37 = .ok (.iconst (-1), 1) := by decide +kernel
theorem d_Rb_ringByWaiting_38 : decode b_Rb_ringByWaiting 38 = .ok (.if_icmp .ne 7, 3) := by decide +kernel
theorem d_Rb_ringByWaiting_41 : decode b_Rb_ringByWaiting 41 = .ok (.iconst (-1), 1) := by decide +kernel
theorem d_Rb_ringByWaiting_42 : decode b_Rb_ringByWaiting 42 = .ok (.goto 10, 3) := by decide +kernel
theorem d_Rb_ringByWaiting_45 : decode b_Rb_ringByWaiting 45 = .ok (.aload_n 0, 1) := by decide +kernel
theorem d_Rb_ringByWaiting_46 : decode b_Rb_ringByWaiting 46 = .ok (.getfield 26, 3) := by decide +kernel
theorem d_Rb_ringByWaiting_49 : decode b_Rb_ringByWaiting 49 = .ok (.iload 5, 2) := by decide +kernel
theorem d_Rb_ringByWaiting_51 : decode b_Rb_ringByWaiting 51 = .ok (.iaload, 1) := by decide +kernel
theorem d_Rb_ringByWaiting_52 : decode b_Rb_ringByWaiting 52 = .ok (.istore_n 3, 1) := by decide +kernel
theorem d_Rb_ringByWaiting_53 : decode b_Rb_ringByWaiting 53 = .ok (.iinc 4 1, 3) := by decide +kernel
theorem d_Rb_ringByWaiting_56 : decode b_Rb_ringByWaiting 56 = .ok (.goto (-51), 3) := by decide +kernel
theorem d_Rb_ringByWaiting_59 : decode b_Rb_ringByWaiting 59 = .ok (.iconst 0, 1) := by decide +kernel
theorem d_Rb_ringByWaiting_60 : decode b_Rb_ringByWaiting 60 = .ok (.ireturn, 1) := by decide +kernel
theorem d_RS_await_0 : decode b_RS_await 0 = .ok (.aload_n 0, 1) := by decide +kernel
theorem d_RS_await_1 : decode b_RS_await 1 = .ok (.iload_n 1, 1) := by decide +kernel
theorem d_RS_await_2 : decode b_RS_await 2 = .ok (.invokevirtual 77, 3) := by decide +kernel
theorem d_RS_await_5 : decode b_RS_await 5 = .ok (.aload_n 0, 1) := by decide +kernel
theorem d_RS_await_6 : decode b_RS_await 6 = .ok (.iload_n 2, 1) := by decide +kernel
theorem d_RS_await_7 : decode b_RS_await 7 = .ok (.invokevirtual 45, 3) := by decide +kernel
theorem d_RS_await_10 : decode b_RS_await 10 = .ok (.aload_n 0, 1) := by decide +kernel
theorem d_RS_await_11 : decode b_RS_await 11 = .ok (.getfield 27, 3) := by decide +kernel
theorem d_RS_await_14 : decode b_RS_await 14 = .ok (.iload_n 1, 1) := by decide +kernel
theorem d_RS_await_15 : decode b_RS_await 15 = .ok (.iload_n 2, 1) := by decide +kernel
theorem d_RS_await_16 : decode b_RS_await 16 = .ok (.invokevirtual 96, 3) := by decide +kernel
theorem d_RS_await_19 : decode b_RS_await 19 = .ok (.ifCond .ne 13, 3) := by decide +kernel
theorem d_RS_await_22 : decode b_RS_await 22 = .ok (.new 63, 3) := by decide +kernel
theorem d_RS_await_25 : decode b_RS_await 25 = .ok (.dup, 1) := by decide +kernel
theorem d_RS_await_26 : decode b_RS_await 26 = .ok (.ldc 151, 2) := by decide +kernel
theorem d_RS_await_28 : decode b_RS_await 28 = .ok (.invokespecial 67, 3) := by decide +kernel
theorem d_RS_await_31 : decode b_RS_await 31 = .ok (.athrow, 1) := by decide +kernel
theorem d_RS_await_32 : decode b_RS_await 32 = .ok (.aload_n 0, 1) := by decide +kernel
theorem d_RS_await_33 : decode b_RS_await 33 = .ok (.getfield 27, 3) := by decide +kernel
theorem d_RS_await_36 : decode b_RS_await 36 = .ok (.iload_n 1, 1) := by decide +kernel
theorem d_RS_await_37 : decode b_RS_await 37 = .ok (.iload_n 2, 1) := by decide +kernel
theorem d_RS_await_38 : decode b_RS_await 38 = .ok (.invokevirtual 153, 3) := by decide +kernel
theorem d_RS_await_41 : decode b_RS_await 41 = .ok (.istore_n 3, 1) := by decide +kernel
theorem d_RS_await_42 : decode b_RS_await 42 = .ok (.iload_n 3, 1) := by decide +kernel
theorem d_RS_await_43 : decode b_RS_await 43 = .ok (.ifCond .ne 13, 3) := by decide +kernel
theorem d_RS_await_46 : decode b_RS_await 46 = .ok (.aload_n 0, 1) := by decide +kernel
theorem d_RS_await_47 : decode b_RS_await 47 = .ok (.getfield 27, 3) := by decide +kernel
theorem d_RS_await_50 : decode b_RS_await 50 = .ok (.getfield 157, 3) := by decide +kernel
theorem d_RS_await_53 : decode b_RS_await 53 = .ok (.iload_n 1, 1) := by decide +kernel
theorem d_RS_await_54 : decode b_RS_await 54 = .ok (.iload_n 2, 1) := by decide +kernel
theorem d_RS_await_55 : decode b_RS_await 55 = .ok (.iastore, 1) := by decide +kernel
theorem d_RS_await_56 : decode b_RS_await 56 = .ok (.iload_n 3, 1) := by decide +kernel
theorem d_RS_await_57 : decode b_RS_await 57 = .ok (.ineg, 1) := by decide +kernel
theorem d_RS_await_58 : decode b_RS_await 58 = .ok (.ireturn, 1) := by decide +kernel
theorem d_Gr_greatestPriority_0 : decode b_Gr_greatestPriority 0 = .ok (.iconst 0, 1) := by decide +kernel
theorem d_Gr_greatestPriority_1 : decode b_Gr_greatestPriority 1 = .ok (.istore_n 3, 1) := by decide +kernel
theorem d_Gr_greatestPriority_2 : decode b_Gr_greatestPriority 2 = .ok (.iconst 1, 1) := by decide +kernel
theorem d_Gr_greatestPriority_3 : decode b_Gr_greatestPriority 3 = .ok (.istore 4, 2) := by decide +kernel
theorem d_Gr_greatestPriority_5 : decode b_Gr_greatestPriority 5 = .ok (.iload 4, 2) := by decide +kernel
theorem d_Gr_greatestPriority_7 : decode b_Gr_greatestPriority 7 = .ok (.aload_n 0, 1) := by decide +kernel
theorem d_Gr_greatestPriority_8 : decode b_Gr_greatestPriority 8 = .ok (.getfield 9, 3) := by decide +kernel
theorem d_Gr_greatestPriority_11 : decode b_Gr_greatestPriority 11 = .ok (.if_icmp .gt 42, 3) := by decide +kernel
theorem d_Gr_greatestPriority_14 : decode b_Gr_greatestPriority 14 = .ok (.aload_n 0, 1) := by decide +kernel
theorem d_Gr_greatestPriority_15 : decode b_Gr_greatestPriority 15 = .ok (.iload 4, 2) := by decide +kernel
theorem d_Gr_greatestPriority_17 : decode b_Gr_greatestPriority 17 = .ok (.iload_n 1, 1) := by decide +kernel
theorem d_Gr_greatestPriority_18 : decode b_Gr_greatestPriority 18 = .ok (.invokevirtual 50, 3) := by decide +kernel
theorem d_Gr_greatestPriority_21 : decode b_Gr_greatestPriority 21 = .ok (.ifCond .eq 26, 3) := by decide +kernel
theorem d_Gr_greatestPriority_24 : decode b_Gr_greatestPriority 24 = .ok (.aload_n 0, 1) := by decide +kernel
theorem d_Gr_greatestPriority_25 : decode b_Gr_greatestPriority 25 = .ok (.getfield 19, 3) := by decide +kernel
theorem d_Gr_greatestPriority_28 : decode b_Gr_greatestPriority 28 = .ok (.iload 4, 2) := by decide +kernel
theorem d_Gr_greatestPriority_30 : decode b_Gr_greatestPriority 30 = .ok (.iaload, 1) := by decide +kernel
theorem d_Gr_greatestPriority_31 : decode b_Gr_greatestPriority 31 = .ok (.iload_n 2, 1) := by decide +kernel
theorem d_Gr_greatestPriority_32 : decode b_Gr_greatestPriority 32 = .ok (.if_icmp .ne 15, 3) := by decide +kernel
theorem d_Gr_greatestPriority_35 : decode b_Gr_greatestPriority 35 = .ok (.iload_n 3, 1) := by decide +kernel
theorem d_Gr_greatestPriority_36 : decode b_Gr_greatestPriority 36 = .ok (.aload_n 0, 1) := by decide +kernel
theorem d_Gr_greatestPriority_37 : decode b_Gr_greatestPriority 37 = .ok (.getfield 28, 3) := by decide +kernel
theorem d_Gr_greatestPriority_40 : decode b_Gr_greatestPriority 40 = .ok (.iload 4, 2) := by decide +kernel
theorem d_Gr_greatestPriority_42 : decode b_Gr_greatestPriority 42 = .ok (.iaload, 1) := by decide +kernel
theorem d_Gr_greatestPriority_43 : decode b_Gr_greatestPriority 43 = .ok (.invokestatic 56, 3) := by decide +kernel
theorem d_Gr_greatestPriority_46 : decode b_Gr_greatestPriority 46 = .ok (.istore_n 3, 1) := by decide +kernel
theorem d_Gr_greatestPriority_47 : decode b_Gr_greatestPriority 47 = .ok (.iinc 4 1, 3) := by decide +kernel
theorem d_Gr_greatestPriority_50 : decode b_Gr_greatestPriority 50 = .ok (.goto (-45), 3) := by decide +kernel
theorem d_Gr_greatestPriority_53 : decode b_Gr_greatestPriority 53 = .ok (.iload_n 3, 1) := by decide +kernel
theorem d_Gr_greatestPriority_54 : decode b_Gr_greatestPriority 54 = .ok (.ireturn, 1) := by decide +kernel
theorem d_RS_next_0 : decode b_RS_next 0 = .ok (.aload_n 0, 1) := by decide +kernel
theorem d_RS_next_1 : decode b_RS_next 1 = .ok (.iload_n 1, 1) := by decide +kernel
theorem d_RS_next_2 : decode b_RS_next 2 = .ok (.invokevirtual 45, 3) := by decide +kernel
theorem d_RS_next_5 : decode b_RS_next 5 = .ok (.iconst (-1), 1) := by decide +kernel
theorem d_RS_next_6 : decode b_RS_next 6 = .ok (.istore_n 2, 1) := by decide +kernel
theorem d_RS_next_7 : decode b_RS_next 7 = .ok (.iconst (-1), 1) := by decide +kernel
theorem d_RS_next_8 : decode b_RS_next 8 = .ok (.istore_n 3, 1) := by decide +kernel
theorem d_RS_next_9 : decode b_RS_next 9 = .ok (.iconst 0, 1) := by decide +kernel
theorem d_RS_next_10 : decode b_RS_next 10 = .ok (.istore 4, 2) := by decide +kernel
theorem d_RS_next_12 : decode b_RS_next 12 = .ok (.iload 4, 2) := by decide +kernel
theorem d_RS_next_14 : decode b_RS_next 14 = .ok (.aload_n 0, 1) := by decide +kernel
theorem d_RS_next_15 : decode b_RS_next 15 = .ok (.getfield 27, 3) := by decide +kernel
theorem d_RS_next_18 : decode b_RS_next 18 = .ok (.getfield 68, 3) := by decide +kernel
theorem d_RS_next_21 : decode b_RS_next 21 = .ok (.if_icmp .ge 47, 3) := by decide +kernel
theorem d_RS_next_24 : decode b_RS_next 24 = .ok (.aload_n 0, 1) := by decide +kernel
theorem d_RS_next_25 : decode b_RS_next 25 = .ok (.getfield 27, 3) := by decide +kernel
theorem d_RS_next_28 : decode b_RS_next 28 = .ok (.getfield 157, 3) := by decide +kernel
theorem d_RS_next_31 : decode b_RS_next 31 = .ok (.iload 4, 2) := by decide +kernel
theorem d_RS_next_33 : decode b_RS_next 33 = .ok (.iaload, 1) := by decide +kernel
theorem d_RS_next_34 : decode b_RS_next 34 = .ok (.iload_n 1, 1) := by decide +kernel
theorem d_RS_next_35 : decode b_RS_next 35 = .ok (.if_icmp .ne 27, 3) := by decide +kernel
theorem d_RS_next_38 : decode b_RS_next 38 = .ok (.aload_n 0, 1) := by decide +kernel
theorem d_RS_next_39 : decode b_RS_next 39 = .ok (.getfield 34, 3) := by decide +kernel
theorem d_RS_next_42 : decode b_RS_next 42 = .ok (.iload 4, 2) := by decide +kernel
theorem d_RS_next_44 : decode b_RS_next 44 = .ok (.iload_n 1, 1) := by decide +kernel
theorem d_RS_next_45 : decode b_RS_next 45 = .ok (.invokevirtual 160, 3) := by decide +kernel
theorem d_RS_next_48 : decode b_RS_next 48 = .ok (.istore 5, 2) := by decide +kernel
theorem d_RS_next_50 : decode b_RS_next 50 = .ok (.iload 5, 2) := by decide +kernel
theorem d_RS_next_52 : decode b_RS_next 52 = .ok (.iload_n 3, 1) := by decide +kernel
theorem d_RS_next_53 : decode b_RS_next 53 = .ok (.if_icmp .le 9, 3) := by decide +kernel
theorem d_RS_next_56 : decode b_RS_next 56 = .ok (.iload 4, 2) := by decide +kernel
theorem d_RS_next_58 : decode b_RS_next 58 = .ok (.istore_n 2, 1) := by decide +kernel
theorem d_RS_next_59 : decode b_RS_next 59 = .ok (.iload 5, 2) := by decide +kernel
theorem d_RS_next_61 : decode b_RS_next 61 = .ok (.istore_n 3, 1) := by decide +kernel
theorem d_RS_next_62 : decode b_RS_next 62 = .ok (.iinc 4 1, 3) := by decide +kernel
theorem d_RS_next_65 : decode b_RS_next 65 = .ok (.goto (-53), 3) := by decide +kernel
theorem d_RS_next_68 : decode b_RS_next 68 = .ok (.iload_n 2, 1) := by decide +kernel
theorem d_RS_next_69 : decode b_RS_next 69 = .ok (.ireturn, 1) := by decide +kernel
theorem d_Gr_takeAllFor_0 : decode b_Gr_takeAllFor 0 = .ok (.iconst 0, 1) := by decide +kernel
theorem d_Gr_takeAllFor_1 : decode b_Gr_takeAllFor 1 = .ok (.istore_n 2, 1) := by decide +kernel
theorem d_Gr_takeAllFor_2 : decode b_Gr_takeAllFor 2 = .ok (.iconst 1, 1) := by decide +kernel
theorem d_Gr_takeAllFor_3 : decode b_Gr_takeAllFor 3 = .ok (.istore_n 3, 1) := by decide +kernel
theorem d_Gr_takeAllFor_4 : decode b_Gr_takeAllFor 4 = .ok (.iload_n 3, 1) := by decide +kernel
theorem d_Gr_takeAllFor_5 : decode b_Gr_takeAllFor 5 = .ok (.aload_n 0, 1) := by decide +kernel
theorem d_Gr_takeAllFor_6 : decode b_Gr_takeAllFor 6 = .ok (.getfield 9, 3) := by decide +kernel
theorem d_Gr_takeAllFor_9 : decode b_Gr_takeAllFor 9 = .ok (.if_icmp .gt 28, 3) := by decide +kernel
theorem d_Gr_takeAllFor_12 : decode b_Gr_takeAllFor 12 = .ok (.aload_n 0, 1) := by decide +kernel
theorem d_Gr_takeAllFor_13 : decode b_Gr_takeAllFor 13 = .ok (.iload_n 3, 1) := by decide +kernel
theorem d_Gr_takeAllFor_14 : decode b_Gr_takeAllFor 14 = .ok (.iload_n 1, 1) := by decide +kernel
theorem d_Gr_takeAllFor_15 : decode b_Gr_takeAllFor 15 = .ok (.invokevirtual 42, 3) := by decide +kernel
theorem d_Gr_takeAllFor_18 : decode b_Gr_takeAllFor 18 = .ok (.ifCond .eq 13, 3) := by decide +kernel
theorem d_Gr_takeAllFor_21 : decode b_Gr_takeAllFor 21 = .ok (.aload_n 0, 1) := by decide +kernel
theorem d_Gr_takeAllFor_22 : decode b_Gr_takeAllFor 22 = .ok (.getfield 31, 3) := by decide +kernel
theorem d_Gr_takeAllFor_25 : decode b_Gr_takeAllFor 25 = .ok (.iload_n 3, 1) := by decide +kernel
theorem d_Gr_takeAllFor_26 : decode b_Gr_takeAllFor 26 = .ok (.iconst 3, 1) := by decide +kernel
theorem d_Gr_takeAllFor_27 : decode b_Gr_takeAllFor 27 = .ok (.iastore, 1) := by decide +kernel
theorem d_Gr_takeAllFor_28 : decode b_Gr_takeAllFor 28 = .ok (.iinc 2 1, 3) := by decide +kernel
theorem d_Gr_takeAllFor_31 : decode b_Gr_takeAllFor 31 = .ok (.iinc 3 1, 3) := by decide +kernel
theorem d_Gr_takeAllFor_34 : decode b_Gr_takeAllFor 34 = .ok (.goto (-30), 3) := by decide +kernel
theorem d_Gr_takeAllFor_37 : decode b_Gr_takeAllFor 37 = .ok (.iload_n 2, 1) := by decide +kernel
theorem d_Gr_takeAllFor_38 : decode b_Gr_takeAllFor 38 = .ok (.ireturn, 1) := by decide +kernel
theorem d_RS_zone_0 : decode b_RS_zone 0 = .ok (.aload_n 0, 1) := by decide +kernel
theorem d_RS_zone_1 : decode b_RS_zone 1 = .ok (.iload_n 1, 1) := by decide +kernel
theorem d_RS_zone_2 : decode b_RS_zone 2 = .ok (.invokevirtual 45, 3) := by decide +kernel
theorem d_RS_zone_5 : decode b_RS_zone 5 = .ok (.aload_n 0, 1) := by decide +kernel
theorem d_RS_zone_6 : decode b_RS_zone 6 = .ok (.getfield 20, 3) := by decide +kernel
theorem d_RS_zone_9 : decode b_RS_zone 9 = .ok (.iload_n 1, 1) := by decide +kernel
theorem d_RS_zone_10 : decode b_RS_zone 10 = .ok (.baload, 1) := by decide +kernel
theorem d_RS_zone_11 : decode b_RS_zone 11 = .ok (.iload_n 2, 1) := by decide +kernel
theorem d_RS_zone_12 : decode b_RS_zone 12 = .ok (.if_icmp .eq 15, 3) := by decide +kernel
theorem d_RS_zone_15 : decode b_RS_zone 15 = .ok (.aload_n 0, 1) := by decide +kernel
theorem d_RS_zone_16 : decode b_RS_zone 16 = .ok (.getfield 27, 3) := by decide +kernel
theorem d_RS_zone_19 : decode b_RS_zone 19 = .ok (.iload_n 1, 1) := by decide +kernel
theorem d_RS_zone_20 : decode b_RS_zone 20 = .ok (.invokevirtual 60, 3) := by decide +kernel
theorem d_RS_zone_23 : decode b_RS_zone 23 = .ok (.iconst (-1), 1) := by decide +kernel
theorem d_RS_zone_24 : decode b_RS_zone 24 = .ok (.if_icmp .eq 13, 3) := by decide +kernel
theorem d_RS_zone_27 : decode b_RS_zone 27 = .ok (.new 63, 3) := by decide +kernel
theorem d_RS_zone_30 : decode b_RS_zone 30 = .ok (.dup, 1) := by decide +kernel
theorem d_RS_zone_31 : decode b_RS_zone 31 = .ok (.ldc 163, 2) := by decide +kernel
theorem d_RS_zone_33 : decode b_RS_zone 33 = .ok (.invokespecial 67, 3) := by decide +kernel
theorem d_RS_zone_36 : decode b_RS_zone 36 = .ok (.athrow, 1) := by decide +kernel
theorem d_RS_zone_37 : decode b_RS_zone 37 = .ok (.aload_n 0, 1) := by decide +kernel
theorem d_RS_zone_38 : decode b_RS_zone 38 = .ok (.getfield 20, 3) := by decide +kernel
theorem d_RS_zone_41 : decode b_RS_zone 41 = .ok (.iload_n 1, 1) := by decide +kernel
theorem d_RS_zone_42 : decode b_RS_zone 42 = .ok (.iload_n 2, 1) := by decide +kernel
theorem d_RS_zone_43 : decode b_RS_zone 43 = .ok (.bastore, 1) := by decide +kernel
theorem d_RS_zone_44 : decode b_RS_zone 44 = .ok (.iload_n 2, 1) := by decide +kernel
theorem d_RS_zone_45 : decode b_RS_zone 45 = .ok (.ifCond .eq 14, 3) := by decide +kernel
theorem d_RS_zone_48 : decode b_RS_zone 48 = .ok (.aload_n 0, 1) := by decide +kernel
theorem d_RS_zone_49 : decode b_RS_zone 49 = .ok (.getfield 34, 3) := by decide +kernel
theorem d_RS_zone_52 : decode b_RS_zone 52 = .ok (.iload_n 1, 1) := by decide +kernel
theorem d_RS_zone_53 : decode b_RS_zone 53 = .ok (.invokevirtual 165, 3) := by decide +kernel
theorem d_RS_zone_56 : decode b_RS_zone 56 = .ok (.goto 4, 3) := by decide +kernel
theorem d_RS_zone_59 : decode b_RS_zone 59 = .ok (.iconst 0, 1) := by decide +kernel
theorem d_RS_zone_60 : decode b_RS_zone 60 = .ok (.ireturn, 1) := by decide +kernel
theorem d_Gr_freeAllOf_0 : decode b_Gr_freeAllOf 0 = .ok (.iconst 0, 1) := by decide +kernel
theorem d_Gr_freeAllOf_1 : decode b_Gr_freeAllOf 1 = .ok (.istore_n 2, 1) := by decide +kernel
theorem d_Gr_freeAllOf_2 : decode b_Gr_freeAllOf 2 = .ok (.iconst 1, 1) := by decide +kernel
theorem d_Gr_freeAllOf_3 : decode b_Gr_freeAllOf 3 = .ok (.istore_n 3, 1) := by decide +kernel
theorem d_Gr_freeAllOf_4 : decode b_Gr_freeAllOf 4 = .ok (.iload_n 3, 1) := by decide +kernel
theorem d_Gr_freeAllOf_5 : decode b_Gr_freeAllOf 5 = .ok (.aload_n 0, 1) := by decide +kernel
theorem d_Gr_freeAllOf_6 : decode b_Gr_freeAllOf 6 = .ok (.getfield 9, 3) := by decide +kernel
theorem d_Gr_freeAllOf_9 : decode b_Gr_freeAllOf 9 = .ok (.if_icmp .gt 28, 3) := by decide +kernel
theorem d_Gr_freeAllOf_12 : decode b_Gr_freeAllOf 12 = .ok (.aload_n 0, 1) := by decide +kernel
theorem d_Gr_freeAllOf_13 : decode b_Gr_freeAllOf 13 = .ok (.iload_n 3, 1) := by decide +kernel
theorem d_Gr_freeAllOf_14 : decode b_Gr_freeAllOf 14 = .ok (.iload_n 1, 1) := by decide +kernel
theorem d_Gr_freeAllOf_15 : decode b_Gr_freeAllOf 15 = .ok (.invokevirtual 50, 3) := by decide +kernel
theorem d_Gr_freeAllOf_18 : decode b_Gr_freeAllOf 18 = .ok (.ifCond .eq 13, 3) := by decide +kernel
theorem d_Gr_freeAllOf_21 : decode b_Gr_freeAllOf 21 = .ok (.aload_n 0, 1) := by decide +kernel
theorem d_Gr_freeAllOf_22 : decode b_Gr_freeAllOf 22 = .ok (.getfield 31, 3) := by decide +kernel
theorem d_Gr_freeAllOf_25 : decode b_Gr_freeAllOf 25 = .ok (.iload_n 3, 1) := by decide +kernel
theorem d_Gr_freeAllOf_26 : decode b_Gr_freeAllOf 26 = .ok (.iconst 2, 1) := by decide +kernel
theorem d_Gr_freeAllOf_27 : decode b_Gr_freeAllOf 27 = .ok (.iastore, 1) := by decide +kernel
theorem d_Gr_freeAllOf_28 : decode b_Gr_freeAllOf 28 = .ok (.iinc 2 1, 3) := by decide +kernel
theorem d_Gr_freeAllOf_31 : decode b_Gr_freeAllOf 31 = .ok (.iinc 3 1, 3) := by decide +kernel
theorem d_Gr_freeAllOf_34 : decode b_Gr_freeAllOf 34 = .ok (.goto (-30), 3) := by decide +kernel
theorem d_Gr_freeAllOf_37 : decode b_Gr_freeAllOf 37 = .ok (.iload_n 2, 1) := by decide +kernel
theorem d_Gr_freeAllOf_38 : decode b_Gr_freeAllOf 38 = .ok (.ireturn, 1) := by decide +kernel
theorem d_RS_halt_0 : decode b_RS_halt 0 = .ok (.aload_n 0, 1) := by decide +kernel
theorem d_RS_halt_1 : decode b_RS_halt 1 = .ok (.iload_n 1, 1) := by decide +kernel
theorem d_RS_halt_2 : decode b_RS_halt 2 = .ok (.invokevirtual 77, 3) := by decide +kernel
theorem d_RS_halt_5 : decode b_RS_halt 5 = .ok (.aload_n 0, 1) := by decide +kernel
theorem d_RS_halt_6 : decode b_RS_halt 6 = .ok (.getfield 27, 3) := by decide +kernel
theorem d_RS_halt_9 : decode b_RS_halt 9 = .ok (.getfield 168, 3) := by decide +kernel
theorem d_RS_halt_12 : decode b_RS_halt 12 = .ok (.iload_n 1, 1) := by decide +kernel
theorem d_RS_halt_13 : decode b_RS_halt 13 = .ok (.baload, 1) := by decide +kernel
theorem d_RS_halt_14 : decode b_RS_halt 14 = .ok (.iload_n 2, 1) := by decide +kernel
theorem d_RS_halt_15 : decode b_RS_halt 15 = .ok (.if_icmp .ne 13, 3) := by decide +kernel
theorem d_RS_halt_18 : decode b_RS_halt 18 = .ok (.new 63, 3) := by decide +kernel
theorem d_RS_halt_21 : decode b_RS_halt 21 = .ok (.dup, 1) := by decide +kernel
theorem d_RS_halt_22 : decode b_RS_halt 22 = .ok (.ldc 171, 2) := by decide +kernel
theorem d_RS_halt_24 : decode b_RS_halt 24 = .ok (.invokespecial 67, 3) := by decide +kernel
theorem d_RS_halt_27 : decode b_RS_halt 27 = .ok (.athrow, 1) := by decide +kernel
theorem d_RS_halt_28 : decode b_RS_halt 28 = .ok (.aload_n 0, 1) := by decide +kernel
theorem d_RS_halt_29 : decode b_RS_halt 29 = .ok (.getfield 27, 3) := by decide +kernel
theorem d_RS_halt_32 : decode b_RS_halt 32 = .ok (.getfield 168, 3) := by decide +kernel
theorem d_RS_halt_35 : decode b_RS_halt 35 = .ok (.iload_n 1, 1) := by decide +kernel
theorem d_RS_halt_36 : decode b_RS_halt 36 = .ok (.iload_n 2, 1) := by decide +kernel
theorem d_RS_halt_37 : decode b_RS_halt 37 = .ok (.bastore, 1) := by decide +kernel
theorem d_RS_halt_38 : decode b_RS_halt 38 = .ok (.iload_n 2, 1) := by decide +kernel
theorem d_RS_halt_39 : decode b_RS_halt 39 = .ok (.ifCond .ne 5, 3) := by decide +kernel
theorem d_RS_halt_42 : decode b_RS_halt 42 = .ok (.iconst 0, 1) := by decide +kernel
theorem d_RS_halt_43 : decode b_RS_halt 43 = .ok (.ireturn, 1) := by decide +kernel
theorem d_RS_halt_44 : decode b_RS_halt 44 = .ok (.aload_n 0, 1) := by decide +kernel
theorem d_RS_halt_45 : decode b_RS_halt 45 = .ok (.getfield 27, 3) := by decide +kernel
theorem d_RS_halt_48 : decode b_RS_halt 48 = .ok (.getfield 157, 3) := by decide +kernel
theorem d_RS_halt_51 : decode b_RS_halt 51 = .ok (.iload_n 1, 1) := by decide +kernel
theorem d_RS_halt_52 : decode b_RS_halt 52 = .ok (.iconst (-1), 1) := by decide +kernel
theorem d_RS_halt_53 : decode b_RS_halt 53 = .ok (.iastore, 1) := by decide +kernel
theorem d_RS_halt_54 : decode b_RS_halt 54 = .ok (.aload_n 0, 1) := by decide +kernel
theorem d_RS_halt_55 : decode b_RS_halt 55 = .ok (.getfield 34, 3) := by decide +kernel
theorem d_RS_halt_58 : decode b_RS_halt 58 = .ok (.iload_n 1, 1) := by decide +kernel
theorem d_RS_halt_59 : decode b_RS_halt 59 = .ok (.invokevirtual 173, 3) := by decide +kernel
theorem d_RS_halt_62 : decode b_RS_halt 62 = .ok (.ireturn, 1) := by decide +kernel
theorem d_RS_report_0 : decode b_RS_report 0 = .ok (.aload_n 0, 1) := by decide +kernel
theorem d_RS_report_1 : decode b_RS_report 1 = .ok (.iload_n 1, 1) := by decide +kernel
theorem d_RS_report_2 : decode b_RS_report 2 = .ok (.invokevirtual 77, 3) := by decide +kernel
theorem d_RS_report_5 : decode b_RS_report 5 = .ok (.aload_n 0, 1) := by decide +kernel
theorem d_RS_report_6 : decode b_RS_report 6 = .ok (.getfield 27, 3) := by decide +kernel
theorem d_RS_report_9 : decode b_RS_report 9 = .ok (.iload_n 1, 1) := by decide +kernel
theorem d_RS_report_10 : decode b_RS_report 10 = .ok (.aload_n 0, 1) := by decide +kernel
theorem d_RS_report_11 : decode b_RS_report 11 = .ok (.getfield 7, 3) := by decide +kernel
theorem d_RS_report_14 : decode b_RS_report 14 = .ok (.invokevirtual 176, 3) := by decide +kernel
theorem d_RS_report_17 : decode b_RS_report 17 = .ok (.istore_n 2, 1) := by decide +kernel
theorem d_RS_report_18 : decode b_RS_report 18 = .ok (.aload_n 0, 1) := by decide +kernel
theorem d_RS_report_19 : decode b_RS_report 19 = .ok (.getfield 27, 3) := by decide +kernel
theorem d_RS_report_22 : decode b_RS_report 22 = .ok (.getfield 93, 3) := by decide +kernel
theorem d_RS_report_25 : decode b_RS_report 25 = .ok (.iload_n 1, 1) := by decide +kernel
theorem d_RS_report_26 : decode b_RS_report 26 = .ok (.aload_n 0, 1) := by decide +kernel
theorem d_RS_report_27 : decode b_RS_report 27 = .ok (.getfield 7, 3) := by decide +kernel
theorem d_RS_report_30 : decode b_RS_report 30 = .ok (.iastore, 1) := by decide +kernel
theorem d_RS_report_31 : decode b_RS_report 31 = .ok (.iload_n 2, 1) := by decide +kernel
theorem d_RS_report_32 : decode b_RS_report 32 = .ok (.ireturn, 1) := by decide +kernel
theorem d_Gr_endAllBy_0 : decode b_Gr_endAllBy 0 = .ok (.iconst 0, 1) := by decide +kernel
theorem d_Gr_endAllBy_1 : decode b_Gr_endAllBy 1 = .ok (.istore_n 2, 1) := by decide +kernel
theorem d_Gr_endAllBy_2 : decode b_Gr_endAllBy 2 = .ok (.iconst 1, 1) := by decide +kernel
theorem d_Gr_endAllBy_3 : decode b_Gr_endAllBy 3 = .ok (.istore_n 3, 1) := by decide +kernel
theorem d_Gr_endAllBy_4 : decode b_Gr_endAllBy 4 = .ok (.iload_n 3, 1) := by decide +kernel
theorem d_Gr_endAllBy_5 : decode b_Gr_endAllBy 5 = .ok (.aload_n 0, 1) := by decide +kernel
theorem d_Gr_endAllBy_6 : decode b_Gr_endAllBy 6 = .ok (.getfield 9, 3) := by decide +kernel
theorem d_Gr_endAllBy_9 : decode b_Gr_endAllBy 9 = .ok (.if_icmp .gt 37, 3) := by decide +kernel
theorem d_Gr_endAllBy_12 : decode b_Gr_endAllBy 12 = .ok (.aload_n 0, 1) := by decide +kernel
theorem d_Gr_endAllBy_13 : decode b_Gr_endAllBy 13 = .ok (.iload_n 3, 1) := by decide +kernel
theorem d_Gr_endAllBy_14 : decode b_Gr_endAllBy 14 = .ok (.invokevirtual 34, 3) := by decide +kernel
theorem d_Gr_endAllBy_17 : decode b_Gr_endAllBy 17 = .ok (.ifCond .eq 23, 3) := by decide +kernel
theorem d_Gr_endAllBy_20 : decode b_Gr_endAllBy 20 = .ok (.aload_n 0, 1) := by decide +kernel
theorem d_Gr_endAllBy_21 : decode b_Gr_endAllBy 21 = .ok (.getfield 25, 3) := by decide +kernel
theorem d_Gr_endAllBy_24 : decode b_Gr_endAllBy 24 = .ok (.iload_n 3, 1) := by decide +kernel
theorem d_Gr_endAllBy_25 : decode b_Gr_endAllBy 25 = .ok (.iaload, 1) := by decide +kernel
theorem d_Gr_endAllBy_26 : decode b_Gr_endAllBy 26 = .ok (.iload_n 1, 1) := by decide +kernel
theorem d_Gr_endAllBy_27 : decode b_Gr_endAllBy 27 = .ok (.if_icmp .gt 13, 3) := by decide +kernel
theorem d_Gr_endAllBy_30 : decode b_Gr_endAllBy 30 = .ok (.aload_n 0, 1) := by decide +kernel
theorem d_Gr_endAllBy_31 : decode b_Gr_endAllBy 31 = .ok (.getfield 31, 3) := by decide +kernel
theorem d_Gr_endAllBy_34 : decode b_Gr_endAllBy 34 = .ok (.iload_n 3, 1) := by decide +kernel
theorem d_Gr_endAllBy_35 : decode b_Gr_endAllBy 35 = .ok (.iconst 4, 1) := by decide +kernel
theorem d_Gr_endAllBy_36 : decode b_Gr_endAllBy 36 = .ok (.iastore, 1) := by decide +kernel
theorem d_Gr_endAllBy_37 : decode b_Gr_endAllBy 37 = .ok (.iinc 2 1, 3) := by decide +kernel
theorem d_Gr_endAllBy_40 : decode b_Gr_endAllBy 40 = .ok (.iinc 3 1, 3) := by decide +kernel
theorem d_Gr_endAllBy_43 : decode b_Gr_endAllBy 43 = .ok (.goto (-39), 3) := by decide +kernel
theorem d_Gr_endAllBy_46 : decode b_Gr_endAllBy 46 = .ok (.iload_n 2, 1) := by decide +kernel
theorem d_Gr_endAllBy_47 : decode b_Gr_endAllBy 47 = .ok (.ireturn, 1) := by decide +kernel
theorem d_RS_pass_0 : decode b_RS_pass 0 = .ok (.iload_n 1, 1) := by decide +kernel
theorem d_RS_pass_1 : decode b_RS_pass 1 = .ok (.aload_n 0, 1) := by decide +kernel
theorem d_RS_pass_2 : decode b_RS_pass 2 = .ok (.getfield 7, 3) := by decide +kernel
theorem d_RS_pass_5 : decode b_RS_pass 5 = .ok (.if_icmp .lt 10, 3) := by decide +kernel
theorem d_RS_pass_8 : decode b_RS_pass 8 = .ok (.iload_n 1, 1) := by decide +kernel
theorem d_RS_pass_9 : decode b_RS_pass 9 = .ok (.sipush 10000, 3) := by decide +kernel
theorem d_RS_pass_12 : decode b_RS_pass 12 = .ok (.if_icmp .le 13, 3) := by decide +kernel
theorem d_RS_pass_15 : decode b_RS_pass 15 = .ok (.new 49, 3) := by decide +kernel
theorem d_RS_pass_18 : decode b_RS_pass 18 = .ok (.dup, 1) := by decide +kernel
theorem d_RS_pass_19 : decode b_RS_pass 19 = .ok (.ldc 179, 2) := by decide +kernel
theorem d_RS_pass_21 : decode b_RS_pass 21 = .ok (.invokespecial 53, 3) := by decide +kernel
theorem d_RS_pass_24 : decode b_RS_pass 24 = .ok (.athrow, 1) := by decide +kernel
theorem d_RS_pass_25 : decode b_RS_pass 25 = .ok (.aload_n 0, 1) := by decide +kernel
theorem d_RS_pass_26 : decode b_RS_pass 26 = .ok (.iload_n 1, 1) := by decide +kernel
theorem d_RS_pass_27 : decode b_RS_pass 27 = .ok (.putfield 7, 3) := by decide +kernel
theorem d_RS_pass_30 : decode b_RS_pass 30 = .ok (.aload_n 0, 1) := by decide +kernel
theorem d_RS_pass_31 : decode b_RS_pass 31 = .ok (.getfield 34, 3) := by decide +kernel
theorem d_RS_pass_34 : decode b_RS_pass 34 = .ok (.iload_n 1, 1) := by decide +kernel
theorem d_RS_pass_35 : decode b_RS_pass 35 = .ok (.invokevirtual 181, 3) := by decide +kernel
theorem d_RS_pass_38 : decode b_RS_pass 38 = .ok (.ireturn, 1) := by decide +kernel
theorem d_Gr_robotGranted_0 : decode b_Gr_robotGranted 0 = .ok (.iconst 1, 1) := by decide +kernel
theorem d_Gr_robotGranted_1 : decode b_Gr_robotGranted 1 = .ok (.istore_n 3, 1) := by decide +kernel
theorem d_Gr_robotGranted_2 : decode b_Gr_robotGranted 2 = .ok (.iload_n 3, 1) := by decide +kernel
theorem d_Gr_robotGranted_3 : decode b_Gr_robotGranted 3 = .ok (.aload_n 0, 1) := by decide +kernel
theorem d_Gr_robotGranted_4 : decode b_Gr_robotGranted 4 = .ok (.getfield 9, 3) := by decide +kernel
theorem d_Gr_robotGranted_7 : decode b_Gr_robotGranted 7 = .ok (.if_icmp .gt 45, 3) := by decide +kernel
theorem d_Gr_robotGranted_10 : decode b_Gr_robotGranted 10 = .ok (.aload_n 0, 1) := by decide +kernel
theorem d_Gr_robotGranted_11 : decode b_Gr_robotGranted 11 = .ok (.iload_n 3, 1) := by decide +kernel
theorem d_Gr_robotGranted_12 : decode b_Gr_robotGranted 12 = .ok (.iload_n 1, 1) := by decide +kernel
theorem d_Gr_robotGranted_13 : decode b_Gr_robotGranted 13 = .ok (.invokevirtual 42, 3) := by decide +kernel
theorem d_Gr_robotGranted_16 : decode b_Gr_robotGranted 16 = .ok (.ifCond .eq 30, 3) := by decide +kernel
theorem d_Gr_robotGranted_19 : decode b_Gr_robotGranted 19 = .ok (.aload_n 0, 1) := by decide +kernel
theorem d_Gr_robotGranted_20 : decode b_Gr_robotGranted 20 = .ok (.getfield 22, 3) := by decide +kernel
theorem d_Gr_robotGranted_23 : decode b_Gr_robotGranted 23 = .ok (.iload_n 3, 1) := by decide +kernel
theorem d_Gr_robotGranted_24 : decode b_Gr_robotGranted 24 = .ok (.iaload, 1) := by decide +kernel
theorem d_Gr_robotGranted_25 : decode b_Gr_robotGranted 25 = .ok (.iload_n 2, 1) := by decide +kernel
theorem d_Gr_robotGranted_26 : decode b_Gr_robotGranted 26 = .ok (.if_icmp .gt 20, 3) := by decide +kernel
theorem d_Gr_robotGranted_29 : decode b_Gr_robotGranted 29 = .ok (.iload_n 2, 1) := by decide +kernel
theorem d_Gr_robotGranted_30 : decode b_Gr_robotGranted 30 = .ok (.aload_n 0, 1) := by decide +kernel
theorem d_Gr_robotGranted_31 : decode b_Gr_robotGranted 31 = .ok (.getfield 25, 3) := by decide +kernel
theorem d_Gr_robotGranted_34 : decode b_Gr_robotGranted 34 = .ok (.iload_n 3, 1) := by decide +kernel
theorem d_Gr_robotGranted_35 : decode b_Gr_robotGranted 35 = .ok (.iaload, 1) := by decide +kernel
theorem d_Gr_robotGranted_36 : decode b_Gr_robotGranted 36 = .ok (.if_icmp .ge 10, 3) := by decide +kernel
theorem d_Gr_robotGranted_39 : decode b_Gr_robotGranted 39 = .ok (.aload_n 0, 1) := by decide +kernel
theorem d_Gr_robotGranted_40 : decode b_Gr_robotGranted 40 = .ok (.getfield 15, 3) := by decide +kernel
theorem d_Gr_robotGranted_43 : decode b_Gr_robotGranted 43 = .ok (.iload_n 3, 1) := by decide +kernel
theorem d_Gr_robotGranted_44 : decode b_Gr_robotGranted 44 = .ok (.iaload, 1) := by decide +kernel
theorem d_Gr_robotGranted_45 : decode b_Gr_robotGranted 45 = .ok (.ireturn, 1) := by decide +kernel
theorem d_Gr_robotGranted_46 : decode b_Gr_robotGranted 46 = .ok (.iinc 3 1, 3) := by decide +kernel
theorem d_Gr_robotGranted_49 : decode b_Gr_robotGranted 49 = .ok (.goto (-47), 3) := by decide +kernel
theorem d_Gr_robotGranted_52 : decode b_Gr_robotGranted 52 = .ok (.iconst (-1), 1) := by decide +kernel
theorem d_Gr_robotGranted_53 : decode b_Gr_robotGranted 53 = .ok (.ireturn, 1) := by decide +kernel
theorem d_RS_holder_0 : decode b_RS_holder 0 = .ok (.aload_n 0, 1) := by decide +kernel
theorem d_RS_holder_1 : decode b_RS_holder 1 = .ok (.iload_n 1, 1) := by decide +kernel
theorem d_RS_holder_2 : decode b_RS_holder 2 = .ok (.invokevirtual 45, 3) := by decide +kernel
theorem d_RS_holder_5 : decode b_RS_holder 5 = .ok (.iload_n 2, 1) := by decide +kernel
theorem d_RS_holder_6 : decode b_RS_holder 6 = .ok (.aload_n 0, 1) := by decide +kernel
theorem d_RS_holder_7 : decode b_RS_holder 7 = .ok (.getfield 7, 3) := by decide +kernel
theorem d_RS_holder_10 : decode b_RS_holder 10 = .ok (.if_icmp .ge 13, 3) := by decide +kernel
theorem d_RS_holder_13 : decode b_RS_holder 13 = .ok (.new 49, 3) := by decide +kernel
theorem d_RS_holder_16 : decode b_RS_holder 16 = .ok (.dup, 1) := by decide +kernel
theorem d_RS_holder_17 : decode b_RS_holder 17 = .ok (.ldc 184, 2) := by decide +kernel
theorem d_RS_holder_19 : decode b_RS_holder 19 = .ok (.invokespecial 53, 3) := by decide +kernel
theorem d_RS_holder_22 : decode b_RS_holder 22 = .ok (.athrow, 1) := by decide +kernel
theorem d_RS_holder_23 : decode b_RS_holder 23 = .ok (.aload_n 0, 1) := by decide +kernel
theorem d_RS_holder_24 : decode b_RS_holder 24 = .ok (.getfield 27, 3) := by decide +kernel
theorem d_RS_holder_27 : decode b_RS_holder 27 = .ok (.iload_n 1, 1) := by decide +kernel
theorem d_RS_holder_28 : decode b_RS_holder 28 = .ok (.invokevirtual 60, 3) := by decide +kernel
theorem d_RS_holder_31 : decode b_RS_holder 31 = .ok (.istore_n 3, 1) := by decide +kernel
theorem d_RS_holder_32 : decode b_RS_holder 32 = .ok (.iload_n 3, 1) := by decide +kernel
theorem d_RS_holder_33 : decode b_RS_holder 33 = .ok (.iconst (-1), 1) := by decide +kernel
theorem d_RS_holder_34 : decode b_RS_holder 34 = .ok (.if_icmp .eq 7, 3) := by decide +kernel
theorem d_RS_holder_37 : decode b_RS_holder 37 = .ok (.iload_n 3, 1) := by decide +kernel
theorem d_RS_holder_38 : decode b_RS_holder 38 = .ok (.goto 12, 3) := by decide +kernel
theorem d_RS_holder_41 : decode b_RS_holder 41 = .ok (.aload_n 0, 1) := by decide +kernel
theorem d_RS_holder_42 : decode b_RS_holder 42 = .ok (.getfield 34, 3) := by decide +kernel
theorem d_RS_holder_45 : decode b_RS_holder 45 = .ok (.iload_n 1, 1) := by decide +kernel
theorem d_RS_holder_46 : decode b_RS_holder 46 = .ok (.iload_n 2, 1) := by decide +kernel
theorem d_RS_holder_47 : decode b_RS_holder 47 = .ok (.invokevirtual 186, 3) := by decide +kernel
theorem d_RS_holder_50 : decode b_RS_holder 50 = .ok (.ireturn, 1) := by decide +kernel
theorem d_RS_told_0 : decode b_RS_told 0 = .ok (.aload_n 0, 1) := by decide +kernel
theorem d_RS_told_1 : decode b_RS_told 1 = .ok (.iload_n 1, 1) := by decide +kernel
theorem d_RS_told_2 : decode b_RS_told 2 = .ok (.invokevirtual 77, 3) := by decide +kernel
