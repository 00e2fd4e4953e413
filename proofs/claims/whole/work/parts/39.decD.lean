theorem d_Law_spawn_0 : decode b_Law_spawn 0 = .ok (.aload_n 3, 1) := by decide +kernel
theorem d_Law_spawn_1 : decode b_Law_spawn 1 = .ok (.iconst 0, 1) := by decide +kernel
theorem d_Law_spawn_2 : decode b_Law_spawn 2 = .ok (.aload_n 0, 1) := by decide +kernel
theorem d_Law_spawn_3 : decode b_Law_spawn 3 = .ok (.iload_n 1, 1) := by decide +kernel
theorem d_Law_spawn_4 : decode b_Law_spawn 4 = .ok (.iload_n 2, 1) := by decide +kernel
theorem d_Law_spawn_5 : decode b_Law_spawn 5 = .ok (.invokevirtual 7, 3) := by decide +kernel
theorem d_Law_spawn_8 : decode b_Law_spawn 8 = .ok (.i2l, 1) := by decide +kernel
theorem d_Law_spawn_9 : decode b_Law_spawn 9 = .ok (.lastore, 1) := by decide +kernel
theorem d_Law_spawn_10 : decode b_Law_spawn 10 = .ok (.goto 11, 3) := by decide +kernel
theorem d_Law_spawn_13 : decode b_Law_spawn 13 = .ok (.astore 4, 2) := by decide +kernel
theorem d_Law_spawn_15 : decode b_Law_spawn 15 = .ok (.iconst 1, 1) := by decide +kernel
theorem d_Law_spawn_16 : decode b_Law_spawn 16 = .ok (.ireturn, 1) := by decide +kernel
theorem d_Law_spawn_17 : decode b_Law_spawn 17 = .ok (.astore 4, 2) := by decide +kernel
theorem d_Law_spawn_19 : decode b_Law_spawn 19 = .ok (.iconst 2, 1) := by decide +kernel
theorem d_Law_spawn_20 : decode b_Law_spawn 20 = .ok (.ireturn, 1) := by decide +kernel
theorem d_Law_spawn_21 : decode b_Law_spawn 21 = .ok (.iconst 0, 1) := by decide +kernel
theorem d_Law_spawn_22 : decode b_Law_spawn 22 = .ok (.ireturn, 1) := by decide +kernel
theorem d_Law_table_0 : decode b_Law_table 0 = .ok (.aload 5, 2) := by decide +kernel
theorem d_Law_table_2 : decode b_Law_table 2 = .ok (.iconst 0, 1) := by decide +kernel
theorem d_Law_table_3 : decode b_Law_table 3 = .ok (.aload_n 0, 1) := by decide +kernel
theorem d_Law_table_4 : decode b_Law_table 4 = .ok (.iload_n 1, 1) := by decide +kernel
theorem d_Law_table_5 : decode b_Law_table 5 = .ok (.iload_n 2, 1) := by decide +kernel
theorem d_Law_table_6 : decode b_Law_table 6 = .ok (.iload_n 3, 1) := by decide +kernel
theorem d_Law_table_7 : decode b_Law_table 7 = .ok (.iload 4, 2) := by decide +kernel
theorem d_Law_table_9 : decode b_Law_table 9 = .ok (.invokevirtual 17, 3) := by decide +kernel
theorem d_Law_table_12 : decode b_Law_table 12 = .ok (.i2l, 1) := by decide +kernel
theorem d_Law_table_13 : decode b_Law_table 13 = .ok (.lastore, 1) := by decide +kernel
theorem d_Law_table_14 : decode b_Law_table 14 = .ok (.goto 15, 3) := by decide +kernel
theorem d_Law_table_17 : decode b_Law_table 17 = .ok (.astore 6, 2) := by decide +kernel
theorem d_Law_table_19 : decode b_Law_table 19 = .ok (.iconst 1, 1) := by decide +kernel
theorem d_Law_table_20 : decode b_Law_table 20 = .ok (.ireturn, 1) := by decide +kernel
theorem d_Law_table_21 : decode b_Law_table 21 = .ok (.astore 6, 2) := by decide +kernel
theorem d_Law_table_23 : decode b_Law_table 23 = .ok (.iconst 2, 1) := by decide +kernel
theorem d_Law_table_24 : decode b_Law_table 24 = .ok (.ireturn, 1) := by decide +kernel
theorem d_Law_table_25 : decode b_Law_table 25 = .ok (.astore 6, 2) := by decide +kernel
theorem d_Law_table_27 : decode b_Law_table 27 = .ok (.iconst 3, 1) := by decide +kernel
theorem d_Law_table_28 : decode b_Law_table 28 = .ok (.ireturn, 1) := by decide +kernel
theorem d_Law_table_29 : decode b_Law_table 29 = .ok (.iconst 0, 1) := by decide +kernel
theorem d_Law_table_30 : decode b_Law_table 30 = .ok (.ireturn, 1) := by decide +kernel
theorem d_Law_frame_0 : decode b_Law_frame 0 = .ok (.aload 5, 2) := by decide +kernel
theorem d_Law_frame_2 : decode b_Law_frame 2 = .ok (.iconst 0, 1) := by decide +kernel
theorem d_Law_frame_3 : decode b_Law_frame 3 = .ok (.aload_n 0, 1) := by decide +kernel
theorem d_Law_frame_4 : decode b_Law_frame 4 = .ok (.iload_n 1, 1) := by decide +kernel
theorem d_Law_frame_5 : decode b_Law_frame 5 = .ok (.iload_n 2, 1) := by decide +kernel
theorem d_Law_frame_6 : decode b_Law_frame 6 = .ok (.iload_n 3, 1) := by decide +kernel
theorem d_Law_frame_7 : decode b_Law_frame 7 = .ok (.iload 4, 2) := by decide +kernel
theorem d_Law_frame_9 : decode b_Law_frame 9 = .ok (.invokevirtual 23, 3) := by decide +kernel
theorem d_Law_frame_12 : decode b_Law_frame 12 = .ok (.i2l, 1) := by decide +kernel
theorem d_Law_frame_13 : decode b_Law_frame 13 = .ok (.lastore, 1) := by decide +kernel
theorem d_Law_frame_14 : decode b_Law_frame 14 = .ok (.goto 15, 3) := by decide +kernel
theorem d_Law_frame_17 : decode b_Law_frame 17 = .ok (.astore 6, 2) := by decide +kernel
theorem d_Law_frame_19 : decode b_Law_frame 19 = .ok (.iconst 1, 1) := by decide +kernel
theorem d_Law_frame_20 : decode b_Law_frame 20 = .ok (.ireturn, 1) := by decide +kernel
theorem d_Law_frame_21 : decode b_Law_frame 21 = .ok (.astore 6, 2) := by decide +kernel
theorem d_Law_frame_23 : decode b_Law_frame 23 = .ok (.iconst 2, 1) := by decide +kernel
theorem d_Law_frame_24 : decode b_Law_frame 24 = .ok (.ireturn, 1) := by decide +kernel
theorem d_Law_frame_25 : decode b_Law_frame 25 = .ok (.astore 6, 2) := by decide +kernel
theorem d_Law_frame_27 : decode b_Law_frame 27 = .ok (.iconst 3, 1) := by decide +kernel
theorem d_Law_frame_28 : decode b_Law_frame 28 = .ok (.ireturn, 1) := by decide +kernel
theorem d_Law_frame_29 : decode b_Law_frame 29 = .ok (.iconst 0, 1) := by decide +kernel
theorem d_Law_frame_30 : decode b_Law_frame 30 = .ok (.ireturn, 1) := by decide +kernel
theorem d_Law_protect_0 : decode b_Law_protect 0 = .ok (.aload 4, 2) := by decide +kernel
theorem d_Law_protect_2 : decode b_Law_protect 2 = .ok (.iconst 0, 1) := by decide +kernel
theorem d_Law_protect_3 : decode b_Law_protect 3 = .ok (.aload_n 0, 1) := by decide +kernel
theorem d_Law_protect_4 : decode b_Law_protect 4 = .ok (.iload_n 1, 1) := by decide +kernel
theorem d_Law_protect_5 : decode b_Law_protect 5 = .ok (.iload_n 2, 1) := by decide +kernel
theorem d_Law_protect_6 : decode b_Law_protect 6 = .ok (.iload_n 3, 1) := by decide +kernel
theorem d_Law_protect_7 : decode b_Law_protect 7 = .ok (.invokevirtual 26, 3) := by decide +kernel
theorem d_Law_protect_10 : decode b_Law_protect 10 = .ok (.i2l, 1) := by decide +kernel
theorem d_Law_protect_11 : decode b_Law_protect 11 = .ok (.lastore, 1) := by decide +kernel
theorem d_Law_protect_12 : decode b_Law_protect 12 = .ok (.goto 15, 3) := by decide +kernel
theorem d_Law_protect_15 : decode b_Law_protect 15 = .ok (.astore 5, 2) := by decide +kernel
theorem d_Law_protect_17 : decode b_Law_protect 17 = .ok (.iconst 1, 1) := by decide +kernel
theorem d_Law_protect_18 : decode b_Law_protect 18 = .ok (.ireturn, 1) := by decide +kernel
theorem d_Law_protect_19 : decode b_Law_protect 19 = .ok (.astore 5, 2) := by decide +kernel
theorem d_Law_protect_21 : decode b_Law_protect 21 = .ok (.iconst 2, 1) := by decide +kernel
theorem d_Law_protect_22 : decode b_Law_protect 22 = .ok (.ireturn, 1) := by decide +kernel
theorem d_Law_protect_23 : decode b_Law_protect 23 = .ok (.astore 5, 2) := by decide +kernel
theorem d_Law_protect_25 : decode b_Law_protect 25 = .ok (.iconst 3, 1) := by decide +kernel
theorem d_Law_protect_26 : decode b_Law_protect 26 = .ok (.ireturn, 1) := by decide +kernel
theorem d_Law_protect_27 : decode b_Law_protect 27 = .ok (.iconst 0, 1) := by decide +kernel
theorem d_Law_protect_28 : decode b_Law_protect 28 = .ok (.ireturn, 1) := by decide +kernel
theorem d_Law_copy_0 : decode b_Law_copy 0 = .ok (.aload_n 3, 1) := by decide +kernel
theorem d_Law_copy_1 : decode b_Law_copy 1 = .ok (.iconst 0, 1) := by decide +kernel
theorem d_Law_copy_2 : decode b_Law_copy 2 = .ok (.aload_n 0, 1) := by decide +kernel
theorem d_Law_copy_3 : decode b_Law_copy 3 = .ok (.iload_n 1, 1) := by decide +kernel
theorem d_Law_copy_4 : decode b_Law_copy 4 = .ok (.iload_n 2, 1) := by decide +kernel
theorem d_Law_copy_5 : decode b_Law_copy 5 = .ok (.invokevirtual 32, 3) := by decide +kernel
theorem d_Law_copy_8 : decode b_Law_copy 8 = .ok (.i2l, 1) := by decide +kernel
theorem d_Law_copy_9 : decode b_Law_copy 9 = .ok (.lastore, 1) := by decide +kernel
theorem d_Law_copy_10 : decode b_Law_copy 10 = .ok (.goto 11, 3) := by decide +kernel
theorem d_Law_copy_13 : decode b_Law_copy 13 = .ok (.astore 4, 2) := by decide +kernel
theorem d_Law_copy_15 : decode b_Law_copy 15 = .ok (.iconst 1, 1) := by decide +kernel
theorem d_Law_copy_16 : decode b_Law_copy 16 = .ok (.ireturn, 1) := by decide +kernel
theorem d_Law_copy_17 : decode b_Law_copy 17 = .ok (.astore 4, 2) := by decide +kernel
theorem d_Law_copy_19 : decode b_Law_copy 19 = .ok (.iconst 2, 1) := by decide +kernel
theorem d_Law_copy_20 : decode b_Law_copy 20 = .ok (.ireturn, 1) := by decide +kernel
theorem d_Law_copy_21 : decode b_Law_copy 21 = .ok (.iconst 0, 1) := by decide +kernel
theorem d_Law_copy_22 : decode b_Law_copy 22 = .ok (.ireturn, 1) := by decide +kernel
theorem d_Law_release_0 : decode b_Law_release 0 = .ok (.aload_n 3, 1) := by decide +kernel
theorem d_Law_release_1 : decode b_Law_release 1 = .ok (.iconst 0, 1) := by decide +kernel
theorem d_Law_release_2 : decode b_Law_release 2 = .ok (.aload_n 0, 1) := by decide +kernel
theorem d_Law_release_3 : decode b_Law_release 3 = .ok (.iload_n 1, 1) := by decide +kernel
theorem d_Law_release_4 : decode b_Law_release 4 = .ok (.iload_n 2, 1) := by decide +kernel
theorem d_Law_release_5 : decode b_Law_release 5 = .ok (.invokevirtual 35, 3) := by decide +kernel
theorem d_Law_release_8 : decode b_Law_release 8 = .ok (.i2l, 1) := by decide +kernel
theorem d_Law_release_9 : decode b_Law_release 9 = .ok (.lastore, 1) := by decide +kernel
theorem d_Law_release_10 : decode b_Law_release 10 = .ok (.goto 19, 3) := by decide +kernel
theorem d_Law_release_13 : decode b_Law_release 13 = .ok (.astore 4, 2) := by decide +kernel
theorem d_Law_release_15 : decode b_Law_release 15 = .ok (.iconst 1, 1) := by decide +kernel
theorem d_Law_release_16 : decode b_Law_release 16 = .ok (.ireturn, 1) := by decide +kernel
theorem d_Law_release_17 : decode b_Law_release 17 = .ok (.astore 4, 2) := by decide +kernel
theorem d_Law_release_19 : decode b_Law_release 19 = .ok (.iconst 2, 1) := by decide +kernel
theorem d_Law_release_20 : decode b_Law_release 20 = .ok (.ireturn, 1) := by decide +kernel
theorem d_Law_release_21 : decode b_Law_release 21 = .ok (.astore 4, 2) := by decide +kernel
theorem d_Law_release_23 : decode b_Law_release 23 = .ok (.iconst 3, 1) := by decide +kernel
theorem d_Law_release_24 : decode b_Law_release 24 = .ok (.ireturn, 1) := by decide +kernel
theorem d_Law_release_25 : decode b_Law_release 25 = .ok (.astore 4, 2) := by decide +kernel
theorem d_Law_release_27 : decode b_Law_release 27 = .ok (.iconst 4, 1) := by decide +kernel
theorem d_Law_release_28 : decode b_Law_release 28 = .ok (.ireturn, 1) := by decide +kernel
theorem d_Law_release_29 : decode b_Law_release 29 = .ok (.iconst 0, 1) := by decide +kernel
theorem d_Law_release_30 : decode b_Law_release 30 = .ok (.ireturn, 1) := by decide +kernel
theorem d_Law_start_0 : decode b_Law_start 0 = .ok (.aload_n 2, 1) := by decide +kernel
theorem d_Law_start_1 : decode b_Law_start 1 = .ok (.iconst 0, 1) := by decide +kernel
theorem d_Law_start_2 : decode b_Law_start 2 = .ok (.aload_n 0, 1) := by decide +kernel
theorem d_Law_start_3 : decode b_Law_start 3 = .ok (.iload_n 1, 1) := by decide +kernel
theorem d_Law_start_4 : decode b_Law_start 4 = .ok (.invokevirtual 38, 3) := by decide +kernel
theorem d_Law_start_7 : decode b_Law_start 7 = .ok (.i2l, 1) := by decide +kernel
theorem d_Law_start_8 : decode b_Law_start 8 = .ok (.lastore, 1) := by decide +kernel
theorem d_Law_start_9 : decode b_Law_start 9 = .ok (.goto 9, 3) := by decide +kernel
theorem d_Law_start_12 : decode b_Law_start 12 = .ok (.astore_n 3, 1) := by decide +kernel
theorem d_Law_start_13 : decode b_Law_start 13 = .ok (.iconst 1, 1) := by decide +kernel
theorem d_Law_start_14 : decode b_Law_start 14 = .ok (.ireturn, 1) := by decide +kernel
theorem d_Law_start_15 : decode b_Law_start 15 = .ok (.astore_n 3, 1) := by decide +kernel
theorem d_Law_start_16 : decode b_Law_start 16 = .ok (.iconst 2, 1) := by decide +kernel
theorem d_Law_start_17 : decode b_Law_start 17 = .ok (.ireturn, 1) := by decide +kernel
theorem d_Law_start_18 : decode b_Law_start 18 = .ok (.iconst 0, 1) := by decide +kernel
theorem d_Law_start_19 : decode b_Law_start 19 = .ok (.ireturn, 1) := by decide +kernel
theorem d_Law_give_0 : decode b_Law_give 0 = .ok (.aload_n 2, 1) := by decide +kernel
theorem d_Law_give_1 : decode b_Law_give 1 = .ok (.iconst 0, 1) := by decide +kernel
theorem d_Law_give_2 : decode b_Law_give 2 = .ok (.aload_n 0, 1) := by decide +kernel
theorem d_Law_give_3 : decode b_Law_give 3 = .ok (.iload_n 1, 1) := by decide +kernel
theorem d_Law_give_4 : decode b_Law_give 4 = .ok (.invokevirtual 42, 3) := by decide +kernel
theorem d_Law_give_7 : decode b_Law_give 7 = .ok (.i2l, 1) := by decide +kernel
theorem d_Law_give_8 : decode b_Law_give 8 = .ok (.lastore, 1) := by decide +kernel
theorem d_Law_give_9 : decode b_Law_give 9 = .ok (.goto 9, 3) := by decide +kernel
theorem d_Law_give_12 : decode b_Law_give 12 = .ok (.astore_n 3, 1) := by decide +kernel
theorem d_Law_give_13 : decode b_Law_give 13 = .ok (.iconst 1, 1) := by decide +kernel
theorem d_Law_give_14 : decode b_Law_give 14 = .ok (.ireturn, 1) := by decide +kernel
theorem d_Law_give_15 : decode b_Law_give 15 = .ok (.astore_n 3, 1) := by decide +kernel
theorem d_Law_give_16 : decode b_Law_give 16 = .ok (.iconst 2, 1) := by decide +kernel
theorem d_Law_give_17 : decode b_Law_give 17 = .ok (.ireturn, 1) := by decide +kernel
theorem d_Law_give_18 : decode b_Law_give 18 = .ok (.iconst 0, 1) := by decide +kernel
theorem d_Law_give_19 : decode b_Law_give 19 = .ok (.ireturn, 1) := by decide +kernel
theorem d_Law_kill_0 : decode b_Law_kill 0 = .ok (.aload_n 2, 1) := by decide +kernel
theorem d_Law_kill_1 : decode b_Law_kill 1 = .ok (.iconst 0, 1) := by decide +kernel
theorem d_Law_kill_2 : decode b_Law_kill 2 = .ok (.aload_n 0, 1) := by decide +kernel
theorem d_Law_kill_3 : decode b_Law_kill 3 = .ok (.iload_n 1, 1) := by decide +kernel
theorem d_Law_kill_4 : decode b_Law_kill 4 = .ok (.invokevirtual 45, 3) := by decide +kernel
theorem d_Law_kill_7 : decode b_Law_kill 7 = .ok (.i2l, 1) := by decide +kernel
theorem d_Law_kill_8 : decode b_Law_kill 8 = .ok (.lastore, 1) := by decide +kernel
theorem d_Law_kill_9 : decode b_Law_kill 9 = .ok (.goto 12, 3) := by decide +kernel
theorem d_Law_kill_12 : decode b_Law_kill 12 = .ok (.astore_n 3, 1) := by decide +kernel
theorem d_Law_kill_13 : decode b_Law_kill 13 = .ok (.iconst 1, 1) := by decide +kernel
theorem d_Law_kill_14 : decode b_Law_kill 14 = .ok (.ireturn, 1) := by decide +kernel
theorem d_Law_kill_15 : decode b_Law_kill 15 = .ok (.astore_n 3, 1) := by decide +kernel
theorem d_Law_kill_16 : decode b_Law_kill 16 = .ok (.iconst 2, 1) := by decide +kernel
theorem d_Law_kill_17 : decode b_Law_kill 17 = .ok (.ireturn, 1) := by decide +kernel
theorem d_Law_kill_18 : decode b_Law_kill 18 = .ok (.astore_n 3, 1) := by decide +kernel
theorem d_Law_kill_19 : decode b_Law_kill 19 = .ok (.iconst 3, 1) := by decide +kernel
theorem d_Law_kill_20 : decode b_Law_kill 20 = .ok (.ireturn, 1) := by decide +kernel
theorem d_Law_kill_21 : decode b_Law_kill 21 = .ok (.iconst 0, 1) := by decide +kernel
theorem d_Law_kill_22 : decode b_Law_kill 22 = .ok (.ireturn, 1) := by decide +kernel
theorem d_Law_reap_0 : decode b_Law_reap 0 = .ok (.aload_n 2, 1) := by decide +kernel
theorem d_Law_reap_1 : decode b_Law_reap 1 = .ok (.iconst 0, 1) := by decide +kernel
theorem d_Law_reap_2 : decode b_Law_reap 2 = .ok (.aload_n 0, 1) := by decide +kernel
theorem d_Law_reap_3 : decode b_Law_reap 3 = .ok (.iload_n 1, 1) := by decide +kernel
theorem d_Law_reap_4 : decode b_Law_reap 4 = .ok (.invokevirtual 48, 3) := by decide +kernel
theorem d_Law_reap_7 : decode b_Law_reap 7 = .ok (.i2l, 1) := by decide +kernel
theorem d_Law_reap_8 : decode b_Law_reap 8 = .ok (.lastore, 1) := by decide +kernel
theorem d_Law_reap_9 : decode b_Law_reap 9 = .ok (.goto 9, 3) := by decide +kernel
theorem d_Law_reap_12 : decode b_Law_reap 12 = .ok (.astore_n 3, 1) := by decide +kernel
theorem d_Law_reap_13 : decode b_Law_reap 13 = .ok (.iconst 1, 1) := by decide +kernel
theorem d_Law_reap_14 : decode b_Law_reap 14 = .ok (.ireturn, 1) := by decide +kernel
theorem d_Law_reap_15 : decode b_Law_reap 15 = .ok (.astore_n 3, 1) := by decide +kernel
theorem d_Law_reap_16 : decode b_Law_reap 16 = .ok (.iconst 2, 1) := by decide +kernel
theorem d_Law_reap_17 : decode b_Law_reap 17 = .ok (.ireturn, 1) := by decide +kernel
theorem d_Law_reap_18 : decode b_Law_reap 18 = .ok (.iconst 0, 1) := by decide +kernel
theorem d_Law_reap_19 : decode b_Law_reap 19 = .ok (.ireturn, 1) := by decide +kernel
theorem d_Law_open_0 : decode b_Law_open 0 = .ok (.aload 4, 2) := by decide +kernel
theorem d_Law_open_2 : decode b_Law_open 2 = .ok (.iconst 0, 1) := by decide +kernel
theorem d_Law_open_3 : decode b_Law_open 3 = .ok (.aload_n 0, 1) := by decide +kernel
theorem d_Law_open_4 : decode b_Law_open 4 = .ok (.iload_n 1, 1) := by decide +kernel
theorem d_Law_open_5 : decode b_Law_open 5 = .ok (.iload_n 2, 1) := by decide +kernel
theorem d_Law_open_6 : decode b_Law_open 6 = .ok (.iload_n 3, 1) := by decide +kernel
theorem d_Law_open_7 : decode b_Law_open 7 = .ok (.invokevirtual 51, 3) := by decide +kernel
theorem d_Law_open_10 : decode b_Law_open 10 = .ok (.i2l, 1) := by decide +kernel
theorem d_Law_open_11 : decode b_Law_open 11 = .ok (.lastore, 1) := by decide +kernel
theorem d_Law_open_12 : decode b_Law_open 12 = .ok (.goto 15, 3) := by decide +kernel
theorem d_Law_open_15 : decode b_Law_open 15 = .ok (.astore 5, 2) := by decide +kernel
theorem d_Law_open_17 : decode b_Law_open 17 = .ok (.iconst 1, 1) := by decide +kernel
theorem d_Law_open_18 : decode b_Law_open 18 = .ok (.ireturn, 1) := by decide +kernel
theorem d_Law_open_19 : decode b_Law_open 19 = .ok (.astore 5, 2) := by decide +kernel
theorem d_Law_open_21 : decode b_Law_open 21 = .ok (.iconst 2, 1) := by decide +kernel
theorem d_Law_open_22 : decode b_Law_open 22 = .ok (.ireturn, 1) := by decide +kernel
theorem d_Law_open_23 : decode b_Law_open 23 = .ok (.astore 5, 2) := by decide +kernel
theorem d_Law_open_25 : decode b_Law_open 25 = .ok (.iconst 3, 1) := by decide +kernel
theorem d_Law_open_26 : decode b_Law_open 26 = .ok (.ireturn, 1) := by decide +kernel
theorem d_Law_open_27 : decode b_Law_open 27 = .ok (.iconst 0, 1) := by decide +kernel
theorem d_Law_open_28 : decode b_Law_open 28 = .ok (.ireturn, 1) := by decide +kernel
theorem d_Law_share_0 : decode b_Law_share 0 = .ok (.aload 4, 2) := by decide +kernel
theorem d_Law_share_2 : decode b_Law_share 2 = .ok (.iconst 0, 1) := by decide +kernel
theorem d_Law_share_3 : decode b_Law_share 3 = .ok (.aload_n 0, 1) := by decide +kernel
theorem d_Law_share_4 : decode b_Law_share 4 = .ok (.iload_n 1, 1) := by decide +kernel
theorem d_Law_share_5 : decode b_Law_share 5 = .ok (.iload_n 2, 1) := by decide +kernel
theorem d_Law_share_6 : decode b_Law_share 6 = .ok (.iload_n 3, 1) := by decide +kernel
theorem d_Law_share_7 : decode b_Law_share 7 = .ok (.invokevirtual 54, 3) := by decide +kernel
theorem d_Law_share_10 : decode b_Law_share 10 = .ok (.i2l, 1) := by decide +kernel
theorem d_Law_share_11 : decode b_Law_share 11 = .ok (.lastore, 1) := by decide +kernel
theorem d_Law_share_12 : decode b_Law_share 12 = .ok (.goto 19, 3) := by decide +kernel
theorem d_Law_share_15 : decode b_Law_share 15 = .ok (.astore 5, 2) := by decide +kernel
theorem d_Law_share_17 : decode b_Law_share 17 = .ok (.iconst 1, 1) := by decide +kernel
theorem d_Law_share_18 : decode b_Law_share 18 = .ok (.ireturn, 1) := by decide +kernel
theorem d_Law_share_19 : decode b_Law_share 19 = .ok (.astore 5, 2) := by decide +kernel
theorem d_Law_share_21 : decode b_Law_share 21 = .ok (.iconst 2, 1) := by decide +kernel
theorem d_Law_share_22 : decode b_Law_share 22 = .ok (.ireturn, 1) := by decide +kernel
theorem d_Law_share_23 : decode b_Law_share 23 = .ok (.astore 5, 2) := by decide +kernel
theorem d_Law_share_25 : decode b_Law_share 25 = .ok (.iconst 3, 1) := by decide +kernel
theorem d_Law_share_26 : decode b_Law_share 26 = .ok (.ireturn, 1) := by decide +kernel
theorem d_Law_share_27 : decode b_Law_share 27 = .ok (.astore 5, 2) := by decide +kernel
theorem d_Law_share_29 : decode b_Law_share 29 = .ok (.iconst 4, 1) := by decide +kernel
theorem d_Law_share_30 : decode b_Law_share 30 = .ok (.ireturn, 1) := by decide +kernel
theorem d_Law_share_31 : decode b_Law_share 31 = .ok (.iconst 0, 1) := by decide +kernel
theorem d_Law_share_32 : decode b_Law_share 32 = .ok (.ireturn, 1) := by decide +kernel
theorem d_Law_close_0 : decode b_Law_close 0 = .ok (.aload_n 3, 1) := by decide +kernel
theorem d_Law_close_1 : decode b_Law_close 1 = .ok (.iconst 0, 1) := by decide +kernel
theorem d_Law_close_2 : decode b_Law_close 2 = .ok (.aload_n 0, 1) := by decide +kernel
theorem d_Law_close_3 : decode b_Law_close 3 = .ok (.iload_n 1, 1) := by decide +kernel
theorem d_Law_close_4 : decode b_Law_close 4 = .ok (.iload_n 2, 1) := by decide +kernel
theorem d_Law_close_5 : decode b_Law_close 5 = .ok (.invokevirtual 57, 3) := by decide +kernel
theorem d_Law_close_8 : decode b_Law_close 8 = .ok (.i2l, 1) := by decide +kernel
theorem d_Law_close_9 : decode b_Law_close 9 = .ok (.lastore, 1) := by decide +kernel
theorem d_Law_close_10 : decode b_Law_close 10 = .ok (.goto 15, 3) := by decide +kernel
theorem d_Law_close_13 : decode b_Law_close 13 = .ok (.astore 4, 2) := by decide +kernel
theorem d_Law_close_15 : decode b_Law_close 15 = .ok (.iconst 1, 1) := by decide +kernel
theorem d_Law_close_16 : decode b_Law_close 16 = .ok (.ireturn, 1) := by decide +kernel
theorem d_Law_close_17 : decode b_Law_close 17 = .ok (.astore 4, 2) := by decide +kernel
theorem d_Law_close_19 : decode b_Law_close 19 = .ok (.iconst 2, 1) := by decide +kernel
theorem d_Law_close_20 : decode b_Law_close 20 = .ok (.ireturn, 1) := by decide +kernel
theorem d_Law_close_21 : decode b_Law_close 21 = .ok (.astore 4, 2) := by decide +kernel
theorem d_Law_close_23 : decode b_Law_close 23 = .ok (.iconst 3, 1) := by decide +kernel
theorem d_Law_close_24 : decode b_Law_close 24 = .ok (.ireturn, 1) := by decide +kernel
theorem d_Law_close_25 : decode b_Law_close 25 = .ok (.iconst 0, 1) := by decide +kernel
theorem d_Law_close_26 : decode b_Law_close 26 = .ok (.ireturn, 1) := by decide +kernel
theorem d_Law_put_0 : decode b_Law_put 0 = .ok (.aload_n 3, 1) := by decide +kernel
theorem d_Law_put_1 : decode b_Law_put 1 = .ok (.iconst 0, 1) := by decide +kernel
theorem d_Law_put_2 : decode b_Law_put 2 = .ok (.aload_n 0, 1) := by decide +kernel
theorem d_Law_put_3 : decode b_Law_put 3 = .ok (.iload_n 1, 1) := by decide +kernel
theorem d_Law_put_4 : decode b_Law_put 4 = .ok (.iload_n 2, 1) := by decide +kernel
theorem d_Law_put_5 : decode b_Law_put 5 = .ok (.invokevirtual 60, 3) := by decide +kernel
theorem d_Law_put_8 : decode b_Law_put 8 = .ok (.i2l, 1) := by decide +kernel
theorem d_Law_put_9 : decode b_Law_put 9 = .ok (.lastore, 1) := by decide +kernel
theorem d_Law_put_10 : decode b_Law_put 10 = .ok (.goto 19, 3) := by decide +kernel
theorem d_Law_put_13 : decode b_Law_put 13 = .ok (.astore 4, 2) := by decide +kernel
theorem d_Law_put_15 : decode b_Law_put 15 = .ok (.iconst 1, 1) := by decide +kernel
theorem d_Law_put_16 : decode b_Law_put 16 = .ok (.ireturn, 1) := by decide +kernel
theorem d_Law_put_17 : decode b_Law_put 17 = .ok (.astore 4, 2) := by decide +kernel
theorem d_Law_put_19 : decode b_Law_put 19 = .ok (.iconst 2, 1) := by decide +kernel
theorem d_Law_put_20 : decode b_Law_put 20 = .ok (.ireturn, 1) := by decide +kernel
theorem d_Law_put_21 : decode b_Law_put 21 = .ok (.astore 4, 2) := by decide +kernel
theorem d_Law_put_23 : decode b_Law_put 23 = .ok (.iconst 3, 1) := by decide +kernel
theorem d_Law_put_24 : decode b_Law_put 24 = .ok (.ireturn, 1) := by decide +kernel
theorem d_Law_put_25 : decode b_Law_put 25 = .ok (.astore 4, 2) := by decide +kernel
theorem d_Law_put_27 : decode b_Law_put 27 = .ok (.iconst 4, 1) := by decide +kernel
theorem d_Law_put_28 : decode b_Law_put 28 = .ok (.ireturn, 1) := by decide +kernel
theorem d_Law_put_29 : decode b_Law_put 29 = .ok (.iconst 0, 1) := by decide +kernel
theorem d_Law_put_30 : decode b_Law_put 30 = .ok (.ireturn, 1) := by decide +kernel
theorem d_Law_take_0 : decode b_Law_take 0 = .ok (.aload_n 3, 1) := by decide +kernel
theorem d_Law_take_1 : decode b_Law_take 1 = .ok (.iconst 0, 1) := by decide +kernel
theorem d_Law_take_2 : decode b_Law_take 2 = .ok (.aload_n 0, 1) := by decide +kernel
theorem d_Law_take_3 : decode b_Law_take 3 = .ok (.iload_n 1, 1) := by decide +kernel
theorem d_Law_take_4 : decode b_Law_take 4 = .ok (.iload_n 2, 1) := by decide +kernel
theorem d_Law_take_5 : decode b_Law_take 5 = .ok (.invokevirtual 63, 3) := by decide +kernel
theorem d_Law_take_8 : decode b_Law_take 8 = .ok (.i2l, 1) := by decide +kernel
theorem d_Law_take_9 : decode b_Law_take 9 = .ok (.lastore, 1) := by decide +kernel
theorem d_Law_take_10 : decode b_Law_take 10 = .ok (.goto 19, 3) := by decide +kernel
theorem d_Law_take_13 : decode b_Law_take 13 = .ok (.astore 4, 2) := by decide +kernel
theorem d_Law_take_15 : decode b_Law_take 15 = .ok (.iconst 1, 1) := by decide +kernel
theorem d_Law_take_16 : decode b_Law_take 16 = .ok (.ireturn, 1) := by decide +kernel
theorem d_Law_take_17 : decode b_Law_take 17 = .ok (.astore 4, 2) := by decide +kernel
theorem d_Law_take_19 : decode b_Law_take 19 = .ok (.iconst 2, 1) := by decide +kernel
theorem d_Law_take_20 : decode b_Law_take 20 = .ok (.ireturn, 1) := by decide +kernel
theorem d_Law_take_21 : decode b_Law_take 21 = .ok (.astore 4, 2) := by decide +kernel
theorem d_Law_take_23 : decode b_Law_take 23 = .ok (.iconst 3, 1) := by decide +kernel
theorem d_Law_take_24 : decode b_Law_take 24 = .ok (.ireturn, 1) := by decide +kernel
theorem d_Law_take_25 : decode b_Law_take 25 = .ok (.astore 4, 2) := by decide +kernel
theorem d_Law_take_27 : decode b_Law_take 27 = .ok (.iconst 4, 1) := by decide +kernel
theorem d_Law_take_28 : decode b_Law_take 28 = .ok (.ireturn, 1) := by decide +kernel
theorem d_Law_take_29 : decode b_Law_take 29 = .ok (.iconst 0, 1) := by decide +kernel
theorem d_Law_take_30 : decode b_Law_take 30 = .ok (.ireturn, 1) := by decide +kernel
theorem d_Law_read_0 : decode b_Law_read 0 = .ok (.aload_n 2, 1) := by decide +kernel
theorem d_Law_read_1 : decode b_Law_read 1 = .ok (.iconst 0, 1) := by decide +kernel
theorem d_Law_read_2 : decode b_Law_read 2 = .ok (.aload_n 0, 1) := by decide +kernel
theorem d_Law_read_3 : decode b_Law_read 3 = .ok (.iload_n 1, 1) := by decide +kernel
theorem d_Law_read_4 : decode b_Law_read 4 = .ok (.invokevirtual 66, 3) := by decide +kernel
theorem d_Law_read_7 : decode b_Law_read 7 = .ok (.i2l, 1) := by decide +kernel
theorem d_Law_read_8 : decode b_Law_read 8 = .ok (.lastore, 1) := by decide +kernel
theorem d_Law_read_9 : decode b_Law_read 9 = .ok (.goto 12, 3) := by decide +kernel
theorem d_Law_read_12 : decode b_Law_read 12 = .ok (.astore_n 3, 1) := by decide +kernel
theorem d_Law_read_13 : decode b_Law_read 13 = .ok (.iconst 1, 1) := by decide +kernel
theorem d_Law_read_14 : decode b_Law_read 14 = .ok (.ireturn, 1) := by decide +kernel
theorem d_Law_read_15 : decode b_Law_read 15 = .ok (.astore_n 3, 1) := by decide +kernel
theorem d_Law_read_16 : decode b_Law_read 16 = .ok (.iconst 2, 1) := by decide +kernel
theorem d_Law_read_17 : decode b_Law_read 17 = .ok (.ireturn, 1) := by decide +kernel
theorem d_Law_read_18 : decode b_Law_read 18 = .ok (.astore_n 3, 1) := by decide +kernel
theorem d_Law_read_19 : decode b_Law_read 19 = .ok (.iconst 3, 1) := by decide +kernel
theorem d_Law_read_20 : decode b_Law_read 20 = .ok (.ireturn, 1) := by decide +kernel
theorem d_Law_read_21 : decode b_Law_read 21 = .ok (.iconst 0, 1) := by decide +kernel
theorem d_Law_read_22 : decode b_Law_read 22 = .ok (.ireturn, 1) := by decide +kernel
theorem d_Law_write_0 : decode b_Law_write 0 = .ok (.aload_n 3, 1) := by decide +kernel
theorem d_Law_write_1 : decode b_Law_write 1 = .ok (.iconst 0, 1) := by decide +kernel
theorem d_Law_write_2 : decode b_Law_write 2 = .ok (.aload_n 0, 1) := by decide +kernel
theorem d_Law_write_3 : decode b_Law_write 3 = .ok (.iload_n 1, 1) := by decide +kernel
theorem d_Law_write_4 : decode b_Law_write 4 = .ok (.iload_n 2, 1) := by decide +kernel
theorem d_Law_write_5 : decode b_Law_write 5 = .ok (.invokevirtual 69, 3) := by decide +kernel
theorem d_Law_write_8 : decode b_Law_write 8 = .ok (.i2l, 1) := by decide +kernel
theorem d_Law_write_9 : decode b_Law_write 9 = .ok (.lastore, 1) := by decide +kernel
theorem d_Law_write_10 : decode b_Law_write 10 = .ok (.goto 15, 3) := by decide +kernel
theorem d_Law_write_13 : decode b_Law_write 13 = .ok (.astore 4, 2) := by decide +kernel
theorem d_Law_write_15 : decode b_Law_write 15 = .ok (.iconst 1, 1) := by decide +kernel
theorem d_Law_write_16 : decode b_Law_write 16 = .ok (.ireturn, 1) := by decide +kernel
theorem d_Law_write_17 : decode b_Law_write 17 = .ok (.astore 4, 2) := by decide +kernel
theorem d_Law_write_19 : decode b_Law_write 19 = .ok (.iconst 2, 1) := by decide +kernel
theorem d_Law_write_20 : decode b_Law_write 20 = .ok (.ireturn, 1) := by decide +kernel
theorem d_Law_write_21 : decode b_Law_write 21 = .ok (.astore 4, 2) := by decide +kernel
theorem d_Law_write_23 : decode b_Law_write 23 = .ok (.iconst 3, 1) := by decide +kernel
theorem d_Law_write_24 : decode b_Law_write 24 = .ok (.ireturn, 1) := by decide +kernel
theorem d_Law_write_25 : decode b_Law_write 25 = .ok (.iconst 0, 1) := by decide +kernel
theorem d_Law_write_26 : decode b_Law_write 26 = .ok (.ireturn, 1) := by decide +kernel
theorem d_Law_expect_0 : decode b_Law_expect 0 = .ok (.aload_n 3, 1) := by decide +kernel
theorem d_Law_expect_1 : decode b_Law_expect 1 = .ok (.iconst 0, 1) := by decide +kernel
theorem d_Law_expect_2 : decode b_Law_expect 2 = .ok (.aload_n 0, 1) := by decide +kernel
theorem d_Law_expect_3 : decode b_Law_expect 3 = .ok (.iload_n 1, 1) := by decide +kernel
theorem d_Law_expect_4 : decode b_Law_expect 4 = .ok (.iload_n 2, 1) := by decide +kernel
theorem d_Law_expect_5 : decode b_Law_expect 5 = .ok (.invokevirtual 72, 3) := by decide +kernel
theorem d_Law_expect_8 : decode b_Law_expect 8 = .ok (.i2l, 1) := by decide +kernel
theorem d_Law_expect_9 : decode b_Law_expect 9 = .ok (.lastore, 1) := by decide +kernel
theorem d_Law_expect_10 : decode b_Law_expect 10 = .ok (.goto 19, 3) := by decide +kernel
theorem d_Law_expect_13 : decode b_Law_expect 13 = .ok (.astore 4, 2) := by decide +kernel
theorem d_Law_expect_15 : decode b_Law_expect 15 = .ok (.iconst 1, 1) := by decide +kernel
theorem d_Law_expect_16 : decode b_Law_expect 16 = .ok (.ireturn, 1) := by decide +kernel
theorem d_Law_expect_17 : decode b_Law_expect 17 = .ok (.astore 4, 2) := by decide +kernel
theorem d_Law_expect_19 : decode b_Law_expect 19 = .ok (.iconst 2, 1) := by decide +kernel
theorem d_Law_expect_20 : decode b_Law_expect 20 = .ok (.ireturn, 1) := by decide +kernel
theorem d_Law_expect_21 : decode b_Law_expect 21 = .ok (.astore 4, 2) := by decide +kernel
theorem d_Law_expect_23 : decode b_Law_expect 23 = .ok (.iconst 3, 1) := by decide +kernel
theorem d_Law_expect_24 : decode b_Law_expect 24 = .ok (.ireturn, 1) := by decide +kernel
theorem d_Law_expect_25 : decode b_Law_expect 25 = .ok (.astore 4, 2) := by decide +kernel
theorem d_Law_expect_27 : decode b_Law_expect 27 = .ok (.iconst 4, 1) := by decide +kernel
theorem d_Law_expect_28 : decode b_Law_expect 28 = .ok (.ireturn, 1) := by decide +kernel
theorem d_Law_expect_29 : decode b_Law_expect 29 = .ok (.iconst 0, 1) := by decide +kernel
theorem d_Law_expect_30 : decode b_Law_expect 30 = .ok (.ireturn, 1) := by decide +kernel
theorem d_Law_send_0 : decode b_Law_send 0 = .ok (.aload_n 3, 1) := by decide +kernel
theorem d_Law_send_1 : decode b_Law_send 1 = .ok (.iconst 0, 1) := by decide +kernel
theorem d_Law_send_2 : decode b_Law_send 2 = .ok (.aload_n 0, 1) := by decide +kernel
theorem d_Law_send_3 : decode b_Law_send 3 = .ok (.iload_n 1, 1) := by decide +kernel
theorem d_Law_send_4 : decode b_Law_send 4 = .ok (.iload_n 2, 1) := by decide +kernel
theorem d_Law_send_5 : decode b_Law_send 5 = .ok (.invokevirtual 75, 3) := by decide +kernel
theorem d_Law_send_8 : decode b_Law_send 8 = .ok (.i2l, 1) := by decide +kernel
theorem d_Law_send_9 : decode b_Law_send 9 = .ok (.lastore, 1) := by decide +kernel
theorem d_Law_send_10 : decode b_Law_send 10 = .ok (.goto 15, 3) := by decide +kernel
theorem d_Law_send_13 : decode b_Law_send 13 = .ok (.astore 4, 2) := by decide +kernel
theorem d_Law_send_15 : decode b_Law_send 15 = .ok (.iconst 1, 1) := by decide +kernel
theorem d_Law_send_16 : decode b_Law_send 16 = .ok (.ireturn, 1) := by decide +kernel
theorem d_Law_send_17 : decode b_Law_send 17 = .ok (.astore 4, 2) := by decide +kernel
theorem d_Law_send_19 : decode b_Law_send 19 = .ok (.iconst 2, 1) := by decide +kernel
theorem d_Law_send_20 : decode b_Law_send 20 = .ok (.ireturn, 1) := by decide +kernel
theorem d_Law_send_21 : decode b_Law_send 21 = .ok (.astore 4, 2) := by decide +kernel
theorem d_Law_send_23 : decode b_Law_send 23 = .ok (.iconst 3, 1) := by decide +kernel
theorem d_Law_send_24 : decode b_Law_send 24 = .ok (.ireturn, 1) := by decide +kernel
theorem d_Law_send_25 : decode b_Law_send 25 = .ok (.iconst 0, 1) := by decide +kernel
theorem d_Law_send_26 : decode b_Law_send 26 = .ok (.ireturn, 1) := by decide +kernel
theorem d_Law_process_0 : decode b_Law_process 0 = .ok (.aload_n 3, 1) := by decide +kernel
theorem d_Law_process_1 : decode b_Law_process 1 = .ok (.iconst 0, 1) := by decide +kernel
theorem d_Law_process_2 : decode b_Law_process 2 = .ok (.aload_n 0, 1) := by decide +kernel
theorem d_Law_process_3 : decode b_Law_process 3 = .ok (.iload_n 1, 1) := by decide +kernel
theorem d_Law_process_4 : decode b_Law_process 4 = .ok (.iload_n 2, 1) := by decide +kernel
theorem d_Law_process_5 : decode b_Law_process 5 = .ok (.invokevirtual 78, 3) := by decide +kernel
theorem d_Law_process_8 : decode b_Law_process 8 = .ok (.i2l, 1) := by decide +kernel
theorem d_Law_process_9 : decode b_Law_process 9 = .ok (.lastore, 1) := by decide +kernel
theorem d_Law_process_10 : decode b_Law_process 10 = .ok (.goto 7, 3) := by decide +kernel
theorem d_Law_process_13 : decode b_Law_process 13 = .ok (.astore 4, 2) := by decide +kernel
theorem d_Law_process_15 : decode b_Law_process 15 = .ok (.iconst 1, 1) := by decide +kernel
theorem d_Law_process_16 : decode b_Law_process 16 = .ok (.ireturn, 1) := by decide +kernel
theorem d_Law_process_17 : decode b_Law_process 17 = .ok (.iconst 0, 1) := by decide +kernel
theorem d_Law_process_18 : decode b_Law_process 18 = .ok (.ireturn, 1) := by decide +kernel
theorem d_Law_page_0 : decode b_Law_page 0 = .ok (.aload_n 3, 1) := by decide +kernel
theorem d_Law_page_1 : decode b_Law_page 1 = .ok (.iconst 0, 1) := by decide +kernel
theorem d_Law_page_2 : decode b_Law_page 2 = .ok (.aload_n 0, 1) := by decide +kernel
theorem d_Law_page_3 : decode b_Law_page 3 = .ok (.iload_n 1, 1) := by decide +kernel
theorem d_Law_page_4 : decode b_Law_page 4 = .ok (.iload_n 2, 1) := by decide +kernel
theorem d_Law_page_5 : decode b_Law_page 5 = .ok (.invokevirtual 81, 3) := by decide +kernel
theorem d_Law_page_8 : decode b_Law_page 8 = .ok (.i2l, 1) := by decide +kernel
theorem d_Law_page_9 : decode b_Law_page 9 = .ok (.lastore, 1) := by decide +kernel
theorem d_Law_page_10 : decode b_Law_page 10 = .ok (.goto 7, 3) := by decide +kernel
theorem d_Law_page_13 : decode b_Law_page 13 = .ok (.astore 4, 2) := by decide +kernel
theorem d_Law_page_15 : decode b_Law_page 15 = .ok (.iconst 1, 1) := by decide +kernel
theorem d_Law_page_16 : decode b_Law_page 16 = .ok (.ireturn, 1) := by decide +kernel
theorem d_Law_page_17 : decode b_Law_page 17 = .ok (.iconst 0, 1) := by decide +kernel
theorem d_Law_page_18 : decode b_Law_page 18 = .ok (.ireturn, 1) := by decide +kernel
theorem d_Law_count_0 : decode b_Law_count 0 = .ok (.aload_n 2, 1) := by decide +kernel
theorem d_Law_count_1 : decode b_Law_count 1 = .ok (.iconst 0, 1) := by decide +kernel
theorem d_Law_count_2 : decode b_Law_count 2 = .ok (.aload_n 0, 1) := by decide +kernel
theorem d_Law_count_3 : decode b_Law_count 3 = .ok (.iload_n 1, 1) := by decide +kernel
theorem d_Law_count_4 : decode b_Law_count 4 = .ok (.invokevirtual 84, 3) := by decide +kernel
theorem d_Law_count_7 : decode b_Law_count 7 = .ok (.i2l, 1) := by decide +kernel
theorem d_Law_count_8 : decode b_Law_count 8 = .ok (.lastore, 1) := by decide +kernel
theorem d_Law_count_9 : decode b_Law_count 9 = .ok (.goto 6, 3) := by decide +kernel
theorem d_Law_count_12 : decode b_Law_count 12 = .ok (.astore_n 3, 1) := by decide +kernel
theorem d_Law_count_13 : decode b_Law_count 13 = .ok (.iconst 1, 1) := by decide +kernel
theorem d_Law_count_14 : decode b_Law_count 14 = .ok (.ireturn, 1) := by decide +kernel
theorem d_Law_count_15 : decode b_Law_count 15 = .ok (.iconst 0, 1) := by decide +kernel
theorem d_Law_count_16 : decode b_Law_count 16 = .ok (.ireturn, 1) := by decide +kernel
