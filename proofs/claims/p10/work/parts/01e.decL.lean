theorem d_Lw_piece_0 : decode b_Lw_piece 0 = .ok (.aload_n 1, 1) := by decide +kernel
theorem d_Lw_piece_1 : decode b_Lw_piece 1 = .ok (.iconst 0, 1) := by decide +kernel
theorem d_Lw_piece_2 : decode b_Lw_piece 2 = .ok (.aload_n 0, 1) := by decide +kernel
theorem d_Lw_piece_3 : decode b_Lw_piece 3 = .ok (.invokevirtual 7, 3) := by decide +kernel
theorem d_Lw_piece_6 : decode b_Lw_piece 6 = .ok (.i2l, 1) := by decide +kernel
theorem d_Lw_piece_7 : decode b_Lw_piece 7 = .ok (.lastore, 1) := by decide +kernel
theorem d_Lw_piece_8 : decode b_Lw_piece 8 = .ok (.goto 6, 3) := by decide +kernel
theorem d_Lw_piece_11 : decode b_Lw_piece 11 = .ok (.astore_n 2, 1) := by decide +kernel
theorem d_Lw_piece_12 : decode b_Lw_piece 12 = .ok (.iconst 1, 1) := by decide +kernel
theorem d_Lw_piece_13 : decode b_Lw_piece 13 = .ok (.ireturn, 1) := by decide +kernel
theorem d_Lw_piece_14 : decode b_Lw_piece 14 = .ok (.iconst 0, 1) := by decide +kernel
theorem d_Lw_piece_15 : decode b_Lw_piece 15 = .ok (.ireturn, 1) := by decide +kernel
theorem d_Lw_link_0 : decode b_Lw_link 0 = .ok (.aload 4, 2) := by decide +kernel
theorem d_Lw_link_2 : decode b_Lw_link 2 = .ok (.iconst 0, 1) := by decide +kernel
theorem d_Lw_link_3 : decode b_Lw_link 3 = .ok (.aload_n 0, 1) := by decide +kernel
theorem d_Lw_link_4 : decode b_Lw_link 4 = .ok (.iload_n 1, 1) := by decide +kernel
theorem d_Lw_link_5 : decode b_Lw_link 5 = .ok (.iload_n 2, 1) := by decide +kernel
theorem d_Lw_link_6 : decode b_Lw_link 6 = .ok (.iload_n 3, 1) := by decide +kernel
theorem d_Lw_link_7 : decode b_Lw_link 7 = .ok (.invokevirtual 15, 3) := by decide +kernel
theorem d_Lw_link_10 : decode b_Lw_link 10 = .ok (.i2l, 1) := by decide +kernel
theorem d_Lw_link_11 : decode b_Lw_link 11 = .ok (.lastore, 1) := by decide +kernel
theorem d_Lw_link_12 : decode b_Lw_link 12 = .ok (.goto 11, 3) := by decide +kernel
theorem d_Lw_link_15 : decode b_Lw_link 15 = .ok (.astore 5, 2) := by decide +kernel
theorem d_Lw_link_17 : decode b_Lw_link 17 = .ok (.iconst 1, 1) := by decide +kernel
theorem d_Lw_link_18 : decode b_Lw_link 18 = .ok (.ireturn, 1) := by decide +kernel
theorem d_Lw_link_19 : decode b_Lw_link 19 = .ok (.astore 5, 2) := by decide +kernel
theorem d_Lw_link_21 : decode b_Lw_link 21 = .ok (.iconst 2, 1) := by decide +kernel
theorem d_Lw_link_22 : decode b_Lw_link 22 = .ok (.ireturn, 1) := by decide +kernel
theorem d_Lw_link_23 : decode b_Lw_link 23 = .ok (.iconst 0, 1) := by decide +kernel
theorem d_Lw_link_24 : decode b_Lw_link 24 = .ok (.ireturn, 1) := by decide +kernel
theorem d_Lw_robot_0 : decode b_Lw_robot 0 = .ok (.aload_n 3, 1) := by decide +kernel
theorem d_Lw_robot_1 : decode b_Lw_robot 1 = .ok (.iconst 0, 1) := by decide +kernel
theorem d_Lw_robot_2 : decode b_Lw_robot 2 = .ok (.aload_n 0, 1) := by decide +kernel
theorem d_Lw_robot_3 : decode b_Lw_robot 3 = .ok (.iload_n 1, 1) := by decide +kernel
theorem d_Lw_robot_4 : decode b_Lw_robot 4 = .ok (.iload_n 2, 1) := by decide +kernel
theorem d_Lw_robot_5 : decode b_Lw_robot 5 = .ok (.invokevirtual 23, 3) := by decide +kernel
theorem d_Lw_robot_8 : decode b_Lw_robot 8 = .ok (.i2l, 1) := by decide +kernel
theorem d_Lw_robot_9 : decode b_Lw_robot 9 = .ok (.lastore, 1) := by decide +kernel
theorem d_Lw_robot_10 : decode b_Lw_robot 10 = .ok (.goto 15, 3) := by decide +kernel
theorem d_Lw_robot_13 : decode b_Lw_robot 13 = .ok (.astore 4, 2) := by decide +kernel
theorem d_Lw_robot_15 : decode b_Lw_robot 15 = .ok (.iconst 1, 1) := by decide +kernel
theorem d_Lw_robot_16 : decode b_Lw_robot 16 = .ok (.ireturn, 1) := by decide +kernel
theorem d_Lw_robot_17 : decode b_Lw_robot 17 = .ok (.astore 4, 2) := by decide +kernel
theorem d_Lw_robot_19 : decode b_Lw_robot 19 = .ok (.iconst 2, 1) := by decide +kernel
theorem d_Lw_robot_20 : decode b_Lw_robot 20 = .ok (.ireturn, 1) := by decide +kernel
theorem d_Lw_robot_21 : decode b_Lw_robot 21 = .ok (.astore 4, 2) := by decide +kernel
theorem d_Lw_robot_23 : decode b_Lw_robot 23 = .ok (.iconst 3, 1) := by decide +kernel
theorem d_Lw_robot_24 : decode b_Lw_robot 24 = .ok (.ireturn, 1) := by decide +kernel
theorem d_Lw_robot_25 : decode b_Lw_robot 25 = .ok (.iconst 0, 1) := by decide +kernel
theorem d_Lw_robot_26 : decode b_Lw_robot 26 = .ok (.ireturn, 1) := by decide +kernel
theorem d_Lw_ask_0 : decode b_Lw_ask 0 = .ok (.aload 6, 2) := by decide +kernel
theorem d_Lw_ask_2 : decode b_Lw_ask 2 = .ok (.iconst 0, 1) := by decide +kernel
theorem d_Lw_ask_3 : decode b_Lw_ask 3 = .ok (.aload_n 0, 1) := by decide +kernel
theorem d_Lw_ask_4 : decode b_Lw_ask 4 = .ok (.iload_n 1, 1) := by decide +kernel
theorem d_Lw_ask_5 : decode b_Lw_ask 5 = .ok (.iload_n 2, 1) := by decide +kernel
theorem d_Lw_ask_6 : decode b_Lw_ask 6 = .ok (.iload_n 3, 1) := by decide +kernel
theorem d_Lw_ask_7 : decode b_Lw_ask 7 = .ok (.iload 4, 2) := by decide +kernel
theorem d_Lw_ask_9 : decode b_Lw_ask 9 = .ok (.iload 5, 2) := by decide +kernel
theorem d_Lw_ask_11 : decode b_Lw_ask 11 = .ok (.invokevirtual 29, 3) := by decide +kernel
theorem d_Lw_ask_14 : decode b_Lw_ask 14 = .ok (.i2l, 1) := by decide +kernel
theorem d_Lw_ask_15 : decode b_Lw_ask 15 = .ok (.lastore, 1) := by decide +kernel
theorem d_Lw_ask_16 : decode b_Lw_ask 16 = .ok (.goto 19, 3) := by decide +kernel
theorem d_Lw_ask_19 : decode b_Lw_ask 19 = .ok (.astore 7, 2) := by decide +kernel
theorem d_Lw_ask_21 : decode b_Lw_ask 21 = .ok (.iconst 1, 1) := by decide +kernel
theorem d_Lw_ask_22 : decode b_Lw_ask 22 = .ok (.ireturn, 1) := by decide +kernel
theorem d_Lw_ask_23 : decode b_Lw_ask 23 = .ok (.astore 7, 2) := by decide +kernel
theorem d_Lw_ask_25 : decode b_Lw_ask 25 = .ok (.iconst 2, 1) := by decide +kernel
theorem d_Lw_ask_26 : decode b_Lw_ask 26 = .ok (.ireturn, 1) := by decide +kernel
theorem d_Lw_ask_27 : decode b_Lw_ask 27 = .ok (.astore 7, 2) := by decide +kernel
theorem d_Lw_ask_29 : decode b_Lw_ask 29 = .ok (.iconst 3, 1) := by decide +kernel
theorem d_Lw_ask_30 : decode b_Lw_ask 30 = .ok (.ireturn, 1) := by decide +kernel
theorem d_Lw_ask_31 : decode b_Lw_ask 31 = .ok (.astore 7, 2) := by decide +kernel
theorem d_Lw_ask_33 : decode b_Lw_ask 33 = .ok (.iconst 4, 1) := by decide +kernel
theorem d_Lw_ask_34 : decode b_Lw_ask 34 = .ok (.ireturn, 1) := by decide +kernel
theorem d_Lw_ask_35 : decode b_Lw_ask 35 = .ok (.iconst 0, 1) := by decide +kernel
theorem d_Lw_ask_36 : decode b_Lw_ask 36 = .ok (.ireturn, 1) := by decide +kernel
theorem d_Lw_free_0 : decode b_Lw_free 0 = .ok (.aload_n 2, 1) := by decide +kernel
theorem d_Lw_free_1 : decode b_Lw_free 1 = .ok (.iconst 0, 1) := by decide +kernel
theorem d_Lw_free_2 : decode b_Lw_free 2 = .ok (.aload_n 0, 1) := by decide +kernel
theorem d_Lw_free_3 : decode b_Lw_free 3 = .ok (.iload_n 1, 1) := by decide +kernel
theorem d_Lw_free_4 : decode b_Lw_free 4 = .ok (.invokevirtual 33, 3) := by decide +kernel
theorem d_Lw_free_7 : decode b_Lw_free 7 = .ok (.i2l, 1) := by decide +kernel
theorem d_Lw_free_8 : decode b_Lw_free 8 = .ok (.lastore, 1) := by decide +kernel
theorem d_Lw_free_9 : decode b_Lw_free 9 = .ok (.goto 9, 3) := by decide +kernel
theorem d_Lw_free_12 : decode b_Lw_free 12 = .ok (.astore_n 3, 1) := by decide +kernel
theorem d_Lw_free_13 : decode b_Lw_free 13 = .ok (.iconst 1, 1) := by decide +kernel
theorem d_Lw_free_14 : decode b_Lw_free 14 = .ok (.ireturn, 1) := by decide +kernel
theorem d_Lw_free_15 : decode b_Lw_free 15 = .ok (.astore_n 3, 1) := by decide +kernel
theorem d_Lw_free_16 : decode b_Lw_free 16 = .ok (.iconst 2, 1) := by decide +kernel
theorem d_Lw_free_17 : decode b_Lw_free 17 = .ok (.ireturn, 1) := by decide +kernel
theorem d_Lw_free_18 : decode b_Lw_free 18 = .ok (.iconst 0, 1) := by decide +kernel
theorem d_Lw_free_19 : decode b_Lw_free 19 = .ok (.ireturn, 1) := by decide +kernel
theorem d_Lw_meets_0 : decode b_Lw_meets 0 = .ok (.aload_n 3, 1) := by decide +kernel
theorem d_Lw_meets_1 : decode b_Lw_meets 1 = .ok (.iconst 0, 1) := by decide +kernel
theorem d_Lw_meets_2 : decode b_Lw_meets 2 = .ok (.aload_n 0, 1) := by decide +kernel
theorem d_Lw_meets_3 : decode b_Lw_meets 3 = .ok (.iload_n 1, 1) := by decide +kernel
theorem d_Lw_meets_4 : decode b_Lw_meets 4 = .ok (.iload_n 2, 1) := by decide +kernel
theorem d_Lw_meets_5 : decode b_Lw_meets 5 = .ok (.invokevirtual 37, 3) := by decide +kernel
theorem d_Lw_meets_8 : decode b_Lw_meets 8 = .ok (.ifCond .eq 7, 3) := by decide +kernel
theorem d_Lw_meets_11 : decode b_Lw_meets 11 = .ok (.lconst 1, 1) := by decide +kernel
theorem d_Lw_meets_12 : decode b_Lw_meets 12 = .ok (.goto 4, 3) := by decide +kernel
theorem d_Lw_meets_15 : decode b_Lw_meets 15 = .ok (.lconst 0, 1) := by decide +kernel
theorem d_Lw_meets_16 : decode b_Lw_meets 16 = .ok (.lastore, 1) := by decide +kernel
theorem d_Lw_meets_17 : decode b_Lw_meets 17 = .ok (.goto 7, 3) := by decide +kernel
theorem d_Lw_meets_20 : decode b_Lw_meets 20 = .ok (.astore 4, 2) := by decide +kernel
theorem d_Lw_meets_22 : decode b_Lw_meets 22 = .ok (.iconst 1, 1) := by decide +kernel
theorem d_Lw_meets_23 : decode b_Lw_meets 23 = .ok (.ireturn, 1) := by decide +kernel
theorem d_Lw_meets_24 : decode b_Lw_meets 24 = .ok (.iconst 0, 1) := by decide +kernel
theorem d_Lw_meets_25 : decode b_Lw_meets 25 = .ok (.ireturn, 1) := by decide +kernel
theorem d_Lw_step_0 : decode b_Lw_step 0 = .ok (.aload_n 3, 1) := by decide +kernel
theorem d_Lw_step_1 : decode b_Lw_step 1 = .ok (.iconst 0, 1) := by decide +kernel
theorem d_Lw_step_2 : decode b_Lw_step 2 = .ok (.aload_n 0, 1) := by decide +kernel
theorem d_Lw_step_3 : decode b_Lw_step 3 = .ok (.iload_n 1, 1) := by decide +kernel
theorem d_Lw_step_4 : decode b_Lw_step 4 = .ok (.iload_n 2, 1) := by decide +kernel
theorem d_Lw_step_5 : decode b_Lw_step 5 = .ok (.invokevirtual 41, 3) := by decide +kernel
theorem d_Lw_step_8 : decode b_Lw_step 8 = .ok (.i2l, 1) := by decide +kernel
theorem d_Lw_step_9 : decode b_Lw_step 9 = .ok (.lastore, 1) := by decide +kernel
theorem d_Lw_step_10 : decode b_Lw_step 10 = .ok (.goto 15, 3) := by decide +kernel
theorem d_Lw_step_13 : decode b_Lw_step 13 = .ok (.astore 4, 2) := by decide +kernel
theorem d_Lw_step_15 : decode b_Lw_step 15 = .ok (.iconst 1, 1) := by decide +kernel
theorem d_Lw_step_16 : decode b_Lw_step 16 = .ok (.ireturn, 1) := by decide +kernel
theorem d_Lw_step_17 : decode b_Lw_step 17 = .ok (.astore 4, 2) := by decide +kernel
theorem d_Lw_step_19 : decode b_Lw_step 19 = .ok (.iconst 2, 1) := by decide +kernel
theorem d_Lw_step_20 : decode b_Lw_step 20 = .ok (.ireturn, 1) := by decide +kernel
theorem d_Lw_step_21 : decode b_Lw_step 21 = .ok (.astore 4, 2) := by decide +kernel
theorem d_Lw_step_23 : decode b_Lw_step 23 = .ok (.iconst 3, 1) := by decide +kernel
theorem d_Lw_step_24 : decode b_Lw_step 24 = .ok (.ireturn, 1) := by decide +kernel
theorem d_Lw_step_25 : decode b_Lw_step 25 = .ok (.iconst 0, 1) := by decide +kernel
theorem d_Lw_step_26 : decode b_Lw_step 26 = .ok (.ireturn, 1) := by decide +kernel
theorem d_Lw_pull_0 : decode b_Lw_pull 0 = .ok (.aload_n 2, 1) := by decide +kernel
theorem d_Lw_pull_1 : decode b_Lw_pull 1 = .ok (.iconst 0, 1) := by decide +kernel
theorem d_Lw_pull_2 : decode b_Lw_pull 2 = .ok (.aload_n 0, 1) := by decide +kernel
theorem d_Lw_pull_3 : decode b_Lw_pull 3 = .ok (.iload_n 1, 1) := by decide +kernel
theorem d_Lw_pull_4 : decode b_Lw_pull 4 = .ok (.invokevirtual 45, 3) := by decide +kernel
theorem d_Lw_pull_7 : decode b_Lw_pull 7 = .ok (.i2l, 1) := by decide +kernel
theorem d_Lw_pull_8 : decode b_Lw_pull 8 = .ok (.lastore, 1) := by decide +kernel
theorem d_Lw_pull_9 : decode b_Lw_pull 9 = .ok (.goto 9, 3) := by decide +kernel
theorem d_Lw_pull_12 : decode b_Lw_pull 12 = .ok (.astore_n 3, 1) := by decide +kernel
theorem d_Lw_pull_13 : decode b_Lw_pull 13 = .ok (.iconst 1, 1) := by decide +kernel
theorem d_Lw_pull_14 : decode b_Lw_pull 14 = .ok (.ireturn, 1) := by decide +kernel
theorem d_Lw_pull_15 : decode b_Lw_pull 15 = .ok (.astore_n 3, 1) := by decide +kernel
theorem d_Lw_pull_16 : decode b_Lw_pull 16 = .ok (.iconst 2, 1) := by decide +kernel
theorem d_Lw_pull_17 : decode b_Lw_pull 17 = .ok (.ireturn, 1) := by decide +kernel
theorem d_Lw_pull_18 : decode b_Lw_pull 18 = .ok (.iconst 0, 1) := by decide +kernel
theorem d_Lw_pull_19 : decode b_Lw_pull 19 = .ok (.ireturn, 1) := by decide +kernel
theorem d_Lw_await_0 : decode b_Lw_await 0 = .ok (.aload_n 3, 1) := by decide +kernel
theorem d_Lw_await_1 : decode b_Lw_await 1 = .ok (.iconst 0, 1) := by decide +kernel
theorem d_Lw_await_2 : decode b_Lw_await 2 = .ok (.aload_n 0, 1) := by decide +kernel
theorem d_Lw_await_3 : decode b_Lw_await 3 = .ok (.iload_n 1, 1) := by decide +kernel
theorem d_Lw_await_4 : decode b_Lw_await 4 = .ok (.iload_n 2, 1) := by decide +kernel
theorem d_Lw_await_5 : decode b_Lw_await 5 = .ok (.invokevirtual 48, 3) := by decide +kernel
theorem d_Lw_await_8 : decode b_Lw_await 8 = .ok (.i2l, 1) := by decide +kernel
theorem d_Lw_await_9 : decode b_Lw_await 9 = .ok (.lastore, 1) := by decide +kernel
theorem d_Lw_await_10 : decode b_Lw_await 10 = .ok (.goto 11, 3) := by decide +kernel
theorem d_Lw_await_13 : decode b_Lw_await 13 = .ok (.astore 4, 2) := by decide +kernel
theorem d_Lw_await_15 : decode b_Lw_await 15 = .ok (.iconst 1, 1) := by decide +kernel
theorem d_Lw_await_16 : decode b_Lw_await 16 = .ok (.ireturn, 1) := by decide +kernel
theorem d_Lw_await_17 : decode b_Lw_await 17 = .ok (.astore 4, 2) := by decide +kernel
theorem d_Lw_await_19 : decode b_Lw_await 19 = .ok (.iconst 2, 1) := by decide +kernel
theorem d_Lw_await_20 : decode b_Lw_await 20 = .ok (.ireturn, 1) := by decide +kernel
theorem d_Lw_await_21 : decode b_Lw_await 21 = .ok (.iconst 0, 1) := by decide +kernel
theorem d_Lw_await_22 : decode b_Lw_await 22 = .ok (.ireturn, 1) := by decide +kernel
theorem d_Lw_next_0 : decode b_Lw_next 0 = .ok (.aload_n 2, 1) := by decide +kernel
theorem d_Lw_next_1 : decode b_Lw_next 1 = .ok (.iconst 0, 1) := by decide +kernel
theorem d_Lw_next_2 : decode b_Lw_next 2 = .ok (.aload_n 0, 1) := by decide +kernel
theorem d_Lw_next_3 : decode b_Lw_next 3 = .ok (.iload_n 1, 1) := by decide +kernel
theorem d_Lw_next_4 : decode b_Lw_next 4 = .ok (.invokevirtual 51, 3) := by decide +kernel
theorem d_Lw_next_7 : decode b_Lw_next 7 = .ok (.i2l, 1) := by decide +kernel
theorem d_Lw_next_8 : decode b_Lw_next 8 = .ok (.lastore, 1) := by decide +kernel
theorem d_Lw_next_9 : decode b_Lw_next 9 = .ok (.goto 6, 3) := by decide +kernel
theorem d_Lw_next_12 : decode b_Lw_next 12 = .ok (.astore_n 3, 1) := by decide +kernel
theorem d_Lw_next_13 : decode b_Lw_next 13 = .ok (.iconst 1, 1) := by decide +kernel
theorem d_Lw_next_14 : decode b_Lw_next 14 = .ok (.ireturn, 1) := by decide +kernel
theorem d_Lw_next_15 : decode b_Lw_next 15 = .ok (.iconst 0, 1) := by decide +kernel
theorem d_Lw_next_16 : decode b_Lw_next 16 = .ok (.ireturn, 1) := by decide +kernel
theorem d_Lw_zone_0 : decode b_Lw_zone 0 = .ok (.aload_n 3, 1) := by decide +kernel
theorem d_Lw_zone_1 : decode b_Lw_zone 1 = .ok (.iconst 0, 1) := by decide +kernel
theorem d_Lw_zone_2 : decode b_Lw_zone 2 = .ok (.aload_n 0, 1) := by decide +kernel
theorem d_Lw_zone_3 : decode b_Lw_zone 3 = .ok (.iload_n 1, 1) := by decide +kernel
theorem d_Lw_zone_4 : decode b_Lw_zone 4 = .ok (.iload_n 2, 1) := by decide +kernel
theorem d_Lw_zone_5 : decode b_Lw_zone 5 = .ok (.invokevirtual 54, 3) := by decide +kernel
theorem d_Lw_zone_8 : decode b_Lw_zone 8 = .ok (.i2l, 1) := by decide +kernel
theorem d_Lw_zone_9 : decode b_Lw_zone 9 = .ok (.lastore, 1) := by decide +kernel
theorem d_Lw_zone_10 : decode b_Lw_zone 10 = .ok (.goto 11, 3) := by decide +kernel
theorem d_Lw_zone_13 : decode b_Lw_zone 13 = .ok (.astore 4, 2) := by decide +kernel
theorem d_Lw_zone_15 : decode b_Lw_zone 15 = .ok (.iconst 1, 1) := by decide +kernel
theorem d_Lw_zone_16 : decode b_Lw_zone 16 = .ok (.ireturn, 1) := by decide +kernel
theorem d_Lw_zone_17 : decode b_Lw_zone 17 = .ok (.astore 4, 2) := by decide +kernel
theorem d_Lw_zone_19 : decode b_Lw_zone 19 = .ok (.iconst 2, 1) := by decide +kernel
theorem d_Lw_zone_20 : decode b_Lw_zone 20 = .ok (.ireturn, 1) := by decide +kernel
theorem d_Lw_zone_21 : decode b_Lw_zone 21 = .ok (.iconst 0, 1) := by decide +kernel
theorem d_Lw_zone_22 : decode b_Lw_zone 22 = .ok (.ireturn, 1) := by decide +kernel
theorem d_Lw_halt_0 : decode b_Lw_halt 0 = .ok (.aload_n 3, 1) := by decide +kernel
theorem d_Lw_halt_1 : decode b_Lw_halt 1 = .ok (.iconst 0, 1) := by decide +kernel
theorem d_Lw_halt_2 : decode b_Lw_halt 2 = .ok (.aload_n 0, 1) := by decide +kernel
theorem d_Lw_halt_3 : decode b_Lw_halt 3 = .ok (.iload_n 1, 1) := by decide +kernel
theorem d_Lw_halt_4 : decode b_Lw_halt 4 = .ok (.iload_n 2, 1) := by decide +kernel
theorem d_Lw_halt_5 : decode b_Lw_halt 5 = .ok (.invokevirtual 57, 3) := by decide +kernel
theorem d_Lw_halt_8 : decode b_Lw_halt 8 = .ok (.i2l, 1) := by decide +kernel
theorem d_Lw_halt_9 : decode b_Lw_halt 9 = .ok (.lastore, 1) := by decide +kernel
theorem d_Lw_halt_10 : decode b_Lw_halt 10 = .ok (.goto 11, 3) := by decide +kernel
theorem d_Lw_halt_13 : decode b_Lw_halt 13 = .ok (.astore 4, 2) := by decide +kernel
theorem d_Lw_halt_15 : decode b_Lw_halt 15 = .ok (.iconst 1, 1) := by decide +kernel
theorem d_Lw_halt_16 : decode b_Lw_halt 16 = .ok (.ireturn, 1) := by decide +kernel
theorem d_Lw_halt_17 : decode b_Lw_halt 17 = .ok (.astore 4, 2) := by decide +kernel
theorem d_Lw_halt_19 : decode b_Lw_halt 19 = .ok (.iconst 2, 1) := by decide +kernel
theorem d_Lw_halt_20 : decode b_Lw_halt 20 = .ok (.ireturn, 1) := by decide +kernel
theorem d_Lw_halt_21 : decode b_Lw_halt 21 = .ok (.iconst 0, 1) := by decide +kernel
theorem d_Lw_halt_22 : decode b_Lw_halt 22 = .ok (.ireturn, 1) := by decide +kernel
theorem d_Lw_report_0 : decode b_Lw_report 0 = .ok (.aload_n 2, 1) := by decide +kernel
theorem d_Lw_report_1 : decode b_Lw_report 1 = .ok (.iconst 0, 1) := by decide +kernel
theorem d_Lw_report_2 : decode b_Lw_report 2 = .ok (.aload_n 0, 1) := by decide +kernel
theorem d_Lw_report_3 : decode b_Lw_report 3 = .ok (.iload_n 1, 1) := by decide +kernel
theorem d_Lw_report_4 : decode b_Lw_report 4 = .ok (.invokevirtual 60, 3) := by decide +kernel
theorem d_Lw_report_7 : decode b_Lw_report 7 = .ok (.ifCond .eq 7, 3) := by decide +kernel
theorem d_Lw_report_10 : decode b_Lw_report 10 = .ok (.lconst 1, 1) := by decide +kernel
theorem d_Lw_report_11 : decode b_Lw_report 11 = .ok (.goto 4, 3) := by decide +kernel
theorem d_Lw_report_14 : decode b_Lw_report 14 = .ok (.lconst 0, 1) := by decide +kernel
theorem d_Lw_report_15 : decode b_Lw_report 15 = .ok (.lastore, 1) := by decide +kernel
theorem d_Lw_report_16 : decode b_Lw_report 16 = .ok (.goto 6, 3) := by decide +kernel
theorem d_Lw_report_19 : decode b_Lw_report 19 = .ok (.astore_n 3, 1) := by decide +kernel
theorem d_Lw_report_20 : decode b_Lw_report 20 = .ok (.iconst 1, 1) := by decide +kernel
theorem d_Lw_report_21 : decode b_Lw_report 21 = .ok (.ireturn, 1) := by decide +kernel
theorem d_Lw_report_22 : decode b_Lw_report 22 = .ok (.iconst 0, 1) := by decide +kernel
theorem d_Lw_report_23 : decode b_Lw_report 23 = .ok (.ireturn, 1) := by decide +kernel
theorem d_Lw_pass_0 : decode b_Lw_pass 0 = .ok (.aload_n 2, 1) := by decide +kernel
theorem d_Lw_pass_1 : decode b_Lw_pass 1 = .ok (.iconst 0, 1) := by decide +kernel
theorem d_Lw_pass_2 : decode b_Lw_pass 2 = .ok (.aload_n 0, 1) := by decide +kernel
theorem d_Lw_pass_3 : decode b_Lw_pass 3 = .ok (.iload_n 1, 1) := by decide +kernel
theorem d_Lw_pass_4 : decode b_Lw_pass 4 = .ok (.invokevirtual 64, 3) := by decide +kernel
theorem d_Lw_pass_7 : decode b_Lw_pass 7 = .ok (.i2l, 1) := by decide +kernel
theorem d_Lw_pass_8 : decode b_Lw_pass 8 = .ok (.lastore, 1) := by decide +kernel
theorem d_Lw_pass_9 : decode b_Lw_pass 9 = .ok (.goto 6, 3) := by decide +kernel
theorem d_Lw_pass_12 : decode b_Lw_pass 12 = .ok (.astore_n 3, 1) := by decide +kernel
theorem d_Lw_pass_13 : decode b_Lw_pass 13 = .ok (.iconst 1, 1) := by decide +kernel
theorem d_Lw_pass_14 : decode b_Lw_pass 14 = .ok (.ireturn, 1) := by decide +kernel
theorem d_Lw_pass_15 : decode b_Lw_pass 15 = .ok (.iconst 0, 1) := by decide +kernel
theorem d_Lw_pass_16 : decode b_Lw_pass 16 = .ok (.ireturn, 1) := by decide +kernel
theorem d_Lw_holder_0 : decode b_Lw_holder 0 = .ok (.aload_n 3, 1) := by decide +kernel
theorem d_Lw_holder_1 : decode b_Lw_holder 1 = .ok (.iconst 0, 1) := by decide +kernel
theorem d_Lw_holder_2 : decode b_Lw_holder 2 = .ok (.aload_n 0, 1) := by decide +kernel
theorem d_Lw_holder_3 : decode b_Lw_holder 3 = .ok (.iload_n 1, 1) := by decide +kernel
theorem d_Lw_holder_4 : decode b_Lw_holder 4 = .ok (.iload_n 2, 1) := by decide +kernel
theorem d_Lw_holder_5 : decode b_Lw_holder 5 = .ok (.invokevirtual 67, 3) := by decide +kernel
theorem d_Lw_holder_8 : decode b_Lw_holder 8 = .ok (.i2l, 1) := by decide +kernel
theorem d_Lw_holder_9 : decode b_Lw_holder 9 = .ok (.lastore, 1) := by decide +kernel
theorem d_Lw_holder_10 : decode b_Lw_holder 10 = .ok (.goto 11, 3) := by decide +kernel
theorem d_Lw_holder_13 : decode b_Lw_holder 13 = .ok (.astore 4, 2) := by decide +kernel
theorem d_Lw_holder_15 : decode b_Lw_holder 15 = .ok (.iconst 1, 1) := by decide +kernel
theorem d_Lw_holder_16 : decode b_Lw_holder 16 = .ok (.ireturn, 1) := by decide +kernel
theorem d_Lw_holder_17 : decode b_Lw_holder 17 = .ok (.astore 4, 2) := by decide +kernel
theorem d_Lw_holder_19 : decode b_Lw_holder 19 = .ok (.iconst 2, 1) := by decide +kernel
theorem d_Lw_holder_20 : decode b_Lw_holder 20 = .ok (.ireturn, 1) := by decide +kernel
theorem d_Lw_holder_21 : decode b_Lw_holder 21 = .ok (.iconst 0, 1) := by decide +kernel
theorem d_Lw_holder_22 : decode b_Lw_holder 22 = .ok (.ireturn, 1) := by decide +kernel
theorem d_Lw_told_0 : decode b_Lw_told 0 = .ok (.aload_n 3, 1) := by decide +kernel
theorem d_Lw_told_1 : decode b_Lw_told 1 = .ok (.iconst 0, 1) := by decide +kernel
theorem d_Lw_told_2 : decode b_Lw_told 2 = .ok (.aload_n 0, 1) := by decide +kernel
theorem d_Lw_told_3 : decode b_Lw_told 3 = .ok (.iload_n 1, 1) := by decide +kernel
theorem d_Lw_told_4 : decode b_Lw_told 4 = .ok (.iload_n 2, 1) := by decide +kernel
theorem d_Lw_told_5 : decode b_Lw_told 5 = .ok (.invokevirtual 70, 3) := by decide +kernel
theorem d_Lw_told_8 : decode b_Lw_told 8 = .ok (.i2l, 1) := by decide +kernel
theorem d_Lw_told_9 : decode b_Lw_told 9 = .ok (.lastore, 1) := by decide +kernel
theorem d_Lw_told_10 : decode b_Lw_told 10 = .ok (.goto 11, 3) := by decide +kernel
theorem d_Lw_told_13 : decode b_Lw_told 13 = .ok (.astore 4, 2) := by decide +kernel
theorem d_Lw_told_15 : decode b_Lw_told 15 = .ok (.iconst 1, 1) := by decide +kernel
theorem d_Lw_told_16 : decode b_Lw_told 16 = .ok (.ireturn, 1) := by decide +kernel
theorem d_Lw_told_17 : decode b_Lw_told 17 = .ok (.astore 4, 2) := by decide +kernel
theorem d_Lw_told_19 : decode b_Lw_told 19 = .ok (.iconst 2, 1) := by decide +kernel
theorem d_Lw_told_20 : decode b_Lw_told 20 = .ok (.ireturn, 1) := by decide +kernel
theorem d_Lw_told_21 : decode b_Lw_told 21 = .ok (.iconst 0, 1) := by decide +kernel
theorem d_Lw_told_22 : decode b_Lw_told 22 = .ok (.ireturn, 1) := by decide +kernel
theorem d_Lw_grant_0 : decode b_Lw_grant 0 = .ok (.aload_n 3, 1) := by decide +kernel
theorem d_Lw_grant_1 : decode b_Lw_grant 1 = .ok (.iconst 0, 1) := by decide +kernel
theorem d_Lw_grant_2 : decode b_Lw_grant 2 = .ok (.aload_n 0, 1) := by decide +kernel
theorem d_Lw_grant_3 : decode b_Lw_grant 3 = .ok (.iload_n 1, 1) := by decide +kernel
theorem d_Lw_grant_4 : decode b_Lw_grant 4 = .ok (.iload_n 2, 1) := by decide +kernel
theorem d_Lw_grant_5 : decode b_Lw_grant 5 = .ok (.invokevirtual 73, 3) := by decide +kernel
theorem d_Lw_grant_8 : decode b_Lw_grant 8 = .ok (.i2l, 1) := by decide +kernel
theorem d_Lw_grant_9 : decode b_Lw_grant 9 = .ok (.lastore, 1) := by decide +kernel
theorem d_Lw_grant_10 : decode b_Lw_grant 10 = .ok (.goto 11, 3) := by decide +kernel
theorem d_Lw_grant_13 : decode b_Lw_grant 13 = .ok (.astore 4, 2) := by decide +kernel
theorem d_Lw_grant_15 : decode b_Lw_grant 15 = .ok (.iconst 1, 1) := by decide +kernel
theorem d_Lw_grant_16 : decode b_Lw_grant 16 = .ok (.ireturn, 1) := by decide +kernel
theorem d_Lw_grant_17 : decode b_Lw_grant 17 = .ok (.astore 4, 2) := by decide +kernel
theorem d_Lw_grant_19 : decode b_Lw_grant 19 = .ok (.iconst 2, 1) := by decide +kernel
theorem d_Lw_grant_20 : decode b_Lw_grant 20 = .ok (.ireturn, 1) := by decide +kernel
theorem d_Lw_grant_21 : decode b_Lw_grant 21 = .ok (.iconst 0, 1) := by decide +kernel
theorem d_Lw_grant_22 : decode b_Lw_grant 22 = .ok (.ireturn, 1) := by decide +kernel
