theorem d_FK_init_0 : decode b_FK_init 0 = .ok (.aload_n 0, 1) := by decide +kernel
theorem d_FK_init_1 : decode b_FK_init 1 = .ok (.invokespecial 1, 3) := by decide +kernel
theorem d_FK_init_4 : decode b_FK_init 4 = .ok (.aload_n 0, 1) := by decide +kernel
theorem d_FK_init_5 : decode b_FK_init 5 = .ok (.new 7, 3) := by decide +kernel
theorem d_FK_init_8 : decode b_FK_init 8 = .ok (.dup, 1) := by decide +kernel
theorem d_FK_init_9 : decode b_FK_init 9 = .ok (.invokespecial 9, 3) := by decide +kernel
theorem d_FK_init_12 : decode b_FK_init 12 = .ok (.putfield 10, 3) := by decide +kernel
theorem d_FK_init_15 : decode b_FK_init 15 = .ok (.aload_n 0, 1) := by decide +kernel
theorem d_FK_init_16 : decode b_FK_init 16 = .ok (.new 16, 3) := by decide +kernel
theorem d_FK_init_19 : decode b_FK_init 19 = .ok (.dup, 1) := by decide +kernel
theorem d_FK_init_20 : decode b_FK_init 20 = .ok (.invokespecial 18, 3) := by decide +kernel
theorem d_FK_init_23 : decode b_FK_init 23 = .ok (.putfield 19, 3) := by decide +kernel
theorem d_FK_init_26 : decode b_FK_init 26 = .ok (.aload_n 0, 1) := by decide +kernel
theorem d_FK_init_27 : decode b_FK_init 27 = .ok (.new 23, 3) := by decide +kernel
theorem d_FK_init_30 : decode b_FK_init 30 = .ok (.dup, 1) := by decide +kernel
theorem d_FK_init_31 : decode b_FK_init 31 = .ok (.invokespecial 25, 3) := by decide +kernel
theorem d_FK_init_34 : decode b_FK_init 34 = .ok (.putfield 26, 3) := by decide +kernel
theorem d_FK_init_37 : decode b_FK_init 37 = .ok (.aload_n 0, 1) := by decide +kernel
theorem d_FK_init_38 : decode b_FK_init 38 = .ok (.iconst 1, 1) := by decide +kernel
theorem d_FK_init_39 : decode b_FK_init 39 = .ok (.putfield 30, 3) := by decide +kernel
theorem d_FK_init_42 : decode b_FK_init 42 = .ok (.aload_n 0, 1) := by decide +kernel
theorem d_FK_init_43 : decode b_FK_init 43 = .ok (.getfield 10, 3) := by decide +kernel
theorem d_FK_init_46 : decode b_FK_init 46 = .ok (.iconst 0, 1) := by decide +kernel
theorem d_FK_init_47 : decode b_FK_init 47 = .ok (.iconst 1, 1) := by decide +kernel
theorem d_FK_init_48 : decode b_FK_init 48 = .ok (.iconst 1, 1) := by decide +kernel
theorem d_FK_init_49 : decode b_FK_init 49 = .ok (.invokevirtual 34, 3) := by decide +kernel
theorem d_FK_init_52 : decode b_FK_init 52 = .ok (.aload_n 0, 1) := by decide +kernel
theorem d_FK_init_53 : decode b_FK_init 53 = .ok (.getfield 19, 3) := by decide +kernel
theorem d_FK_init_56 : decode b_FK_init 56 = .ok (.iconst 1, 1) := by decide +kernel
theorem d_FK_init_57 : decode b_FK_init 57 = .ok (.iconst 3, 1) := by decide +kernel
theorem d_FK_init_58 : decode b_FK_init 58 = .ok (.iconst 0, 1) := by decide +kernel
theorem d_FK_init_59 : decode b_FK_init 59 = .ok (.iconst 0, 1) := by decide +kernel
theorem d_FK_init_60 : decode b_FK_init 60 = .ok (.invokevirtual 38, 3) := by decide +kernel
theorem d_FK_init_63 : decode b_FK_init 63 = .ok (.return_, 1) := by decide +kernel
theorem d_FK_spawn_0 : decode b_FK_spawn 0 = .ok (.iload_n 1, 1) := by decide +kernel
theorem d_FK_spawn_1 : decode b_FK_spawn 1 = .ok (.invokestatic 42, 3) := by decide +kernel
theorem d_FK_spawn_4 : decode b_FK_spawn 4 = .ok (.iload_n 2, 1) := by decide +kernel
theorem d_FK_spawn_5 : decode b_FK_spawn 5 = .ok (.invokestatic 46, 3) := by decide +kernel
theorem d_FK_spawn_8 : decode b_FK_spawn 8 = .ok (.aload_n 0, 1) := by decide +kernel
theorem d_FK_spawn_9 : decode b_FK_spawn 9 = .ok (.getfield 19, 3) := by decide +kernel
theorem d_FK_spawn_12 : decode b_FK_spawn 12 = .ok (.iload_n 1, 1) := by decide +kernel
theorem d_FK_spawn_13 : decode b_FK_spawn 13 = .ok (.invokevirtual 49, 3) := by decide +kernel
theorem d_FK_spawn_16 : decode b_FK_spawn 16 = .ok (.ifCond .eq 13, 3) := by decide +kernel
theorem d_FK_spawn_19 : decode b_FK_spawn 19 = .ok (.new 53, 3) := by decide +kernel
theorem d_FK_spawn_22 : decode b_FK_spawn 22 = .ok (.dup, 1) := by decide +kernel
theorem d_FK_spawn_23 : decode b_FK_spawn 23 = .ok (.ldc 55, 2) := by decide +kernel
theorem d_FK_spawn_25 : decode b_FK_spawn 25 = .ok (.invokespecial 57, 3) := by decide +kernel
theorem d_FK_spawn_28 : decode b_FK_spawn 28 = .ok (.athrow, 1) := by decide +kernel
theorem d_FK_spawn_29 : decode b_FK_spawn 29 = .ok (.aload_n 0, 1) := by decide +kernel
theorem d_FK_spawn_30 : decode b_FK_spawn 30 = .ok (.iload_n 2, 1) := by decide +kernel
theorem d_FK_spawn_31 : decode b_FK_spawn 31 = .ok (.invokevirtual 60, 3) := by decide +kernel
theorem d_FK_spawn_34 : decode b_FK_spawn 34 = .ok (.aload_n 0, 1) := by decide +kernel
theorem d_FK_spawn_35 : decode b_FK_spawn 35 = .ok (.getfield 10, 3) := by decide +kernel
theorem d_FK_spawn_38 : decode b_FK_spawn 38 = .ok (.iload_n 2, 1) := by decide +kernel
theorem d_FK_spawn_39 : decode b_FK_spawn 39 = .ok (.iconst 1, 1) := by decide +kernel
theorem d_FK_spawn_40 : decode b_FK_spawn 40 = .ok (.iload_n 1, 1) := by decide +kernel
theorem d_FK_spawn_41 : decode b_FK_spawn 41 = .ok (.invokevirtual 34, 3) := by decide +kernel
theorem d_FK_spawn_44 : decode b_FK_spawn 44 = .ok (.aload_n 0, 1) := by decide +kernel
theorem d_FK_spawn_45 : decode b_FK_spawn 45 = .ok (.getfield 19, 3) := by decide +kernel
theorem d_FK_spawn_48 : decode b_FK_spawn 48 = .ok (.iload_n 1, 1) := by decide +kernel
theorem d_FK_spawn_49 : decode b_FK_spawn 49 = .ok (.iconst 1, 1) := by decide +kernel
theorem d_FK_spawn_50 : decode b_FK_spawn 50 = .ok (.aload_n 0, 1) := by decide +kernel
theorem d_FK_spawn_51 : decode b_FK_spawn 51 = .ok (.getfield 30, 3) := by decide +kernel
theorem d_FK_spawn_54 : decode b_FK_spawn 54 = .ok (.iload_n 2, 1) := by decide +kernel
theorem d_FK_spawn_55 : decode b_FK_spawn 55 = .ok (.invokevirtual 38, 3) := by decide +kernel
theorem d_FK_spawn_58 : decode b_FK_spawn 58 = .ok (.iconst 1, 1) := by decide +kernel
theorem d_FK_spawn_59 : decode b_FK_spawn 59 = .ok (.ireturn, 1) := by decide +kernel
theorem d_FK_checkProcess_0 : decode b_FK_checkProcess 0 = .ok (.iload_n 0, 1) := by decide +kernel
theorem d_FK_checkProcess_1 : decode b_FK_checkProcess 1 = .ok (.iconst 1, 1) := by decide +kernel
theorem d_FK_checkProcess_2 : decode b_FK_checkProcess 2 = .ok (.iconst 5, 1) := by decide +kernel
theorem d_FK_checkProcess_3 : decode b_FK_checkProcess 3 = .ok (.invokestatic 237, 3) := by decide +kernel
theorem d_FK_checkProcess_6 : decode b_FK_checkProcess 6 = .ok (.return_, 1) := by decide +kernel
theorem d_FK_checkWithin_0 : decode b_FK_checkWithin 0 = .ok (.iload_n 0, 1) := by decide +kernel
theorem d_FK_checkWithin_1 : decode b_FK_checkWithin 1 = .ok (.iload_n 1, 1) := by decide +kernel
theorem d_FK_checkWithin_2 : decode b_FK_checkWithin 2 = .ok (.if_icmp .lt 8, 3) := by decide +kernel
theorem d_FK_checkWithin_5 : decode b_FK_checkWithin 5 = .ok (.iload_n 0, 1) := by decide +kernel
theorem d_FK_checkWithin_6 : decode b_FK_checkWithin 6 = .ok (.iload_n 2, 1) := by decide +kernel
theorem d_FK_checkWithin_7 : decode b_FK_checkWithin 7 = .ok (.if_icmp .le 14, 3) := by decide +kernel
theorem d_FK_checkWithin_10 : decode b_FK_checkWithin 10 = .ok (.new 259, 3) := by decide +kernel
theorem d_FK_checkWithin_13 : decode b_FK_checkWithin 13 = .ok (.dup, 1) := by decide +kernel
theorem d_FK_checkWithin_14 : decode b_FK_checkWithin 14 = .ok (.ldc_w 261, 3) := by decide +kernel
theorem d_FK_checkWithin_17 : decode b_FK_checkWithin 17 = .ok (.invokespecial 263, 3) := by decide +kernel
theorem d_FK_checkWithin_20 : decode b_FK_checkWithin 20 = .ok (.athrow, 1) := by decide +kernel
theorem d_FK_checkWithin_21 : decode b_FK_checkWithin 21 = .ok (.return_, 1) := by decide +kernel
theorem d_FK_checkPage_0 : decode b_FK_checkPage 0 = .ok (.iload_n 0, 1) := by decide +kernel
theorem d_FK_checkPage_1 : decode b_FK_checkPage 1 = .ok (.iconst 0, 1) := by decide +kernel
theorem d_FK_checkPage_2 : decode b_FK_checkPage 2 = .ok (.bipush 19, 2) := by decide +kernel
theorem d_FK_checkPage_4 : decode b_FK_checkPage 4 = .ok (.invokestatic 237, 3) := by decide +kernel
theorem d_FK_checkPage_7 : decode b_FK_checkPage 7 = .ok (.return_, 1) := by decide +kernel
theorem d_FK_checkPageIsFree_0 : decode b_FK_checkPageIsFree 0 = .ok (.aload_n 0, 1) := by decide +kernel
theorem d_FK_checkPageIsFree_1 : decode b_FK_checkPageIsFree 1 = .ok (.getfield 10, 3) := by decide +kernel
theorem d_FK_checkPageIsFree_4 : decode b_FK_checkPageIsFree 4 = .ok (.iload_n 1, 1) := by decide +kernel
theorem d_FK_checkPageIsFree_5 : decode b_FK_checkPageIsFree 5 = .ok (.invokevirtual 246, 3) := by decide +kernel
theorem d_FK_checkPageIsFree_8 : decode b_FK_checkPageIsFree 8 = .ok (.ifCond .eq 14, 3) := by decide +kernel
theorem d_FK_checkPageIsFree_11 : decode b_FK_checkPageIsFree 11 = .ok (.new 53, 3) := by decide +kernel
theorem d_FK_checkPageIsFree_14 : decode b_FK_checkPageIsFree 14 = .ok (.dup, 1) := by decide +kernel
theorem d_FK_checkPageIsFree_15 : decode b_FK_checkPageIsFree 15 = .ok (.ldc_w 271, 3) := by decide +kernel
theorem d_FK_checkPageIsFree_18 : decode b_FK_checkPageIsFree 18 = .ok (.invokespecial 57, 3) := by decide +kernel
theorem d_FK_checkPageIsFree_21 : decode b_FK_checkPageIsFree 21 = .ok (.athrow, 1) := by decide +kernel
theorem d_FK_checkPageIsFree_22 : decode b_FK_checkPageIsFree 22 = .ok (.return_, 1) := by decide +kernel
theorem d_FK_table_0 : decode b_FK_table 0 = .ok (.aload_n 0, 1) := by decide +kernel
theorem d_FK_table_1 : decode b_FK_table 1 = .ok (.iload_n 1, 1) := by decide +kernel
theorem d_FK_table_2 : decode b_FK_table 2 = .ok (.iconst 1, 1) := by decide +kernel
theorem d_FK_table_3 : decode b_FK_table 3 = .ok (.iload_n 2, 1) := by decide +kernel
theorem d_FK_table_4 : decode b_FK_table 4 = .ok (.iload_n 3, 1) := by decide +kernel
theorem d_FK_table_5 : decode b_FK_table 5 = .ok (.iload 4, 2) := by decide +kernel
theorem d_FK_table_7 : decode b_FK_table 7 = .ok (.invokevirtual 63, 3) := by decide +kernel
theorem d_FK_table_10 : decode b_FK_table 10 = .ok (.ireturn, 1) := by decide +kernel
theorem d_FK_fillEntry_0 : decode b_FK_fillEntry 0 = .ok (.iload_n 1, 1) := by decide +kernel
theorem d_FK_fillEntry_1 : decode b_FK_fillEntry 1 = .ok (.invokestatic 46, 3) := by decide +kernel
theorem d_FK_fillEntry_4 : decode b_FK_fillEntry 4 = .ok (.iload_n 3, 1) := by decide +kernel
theorem d_FK_fillEntry_5 : decode b_FK_fillEntry 5 = .ok (.invokestatic 67, 3) := by decide +kernel
theorem d_FK_fillEntry_8 : decode b_FK_fillEntry 8 = .ok (.iload 4, 2) := by decide +kernel
theorem d_FK_fillEntry_10 : decode b_FK_fillEntry 10 = .ok (.invokestatic 46, 3) := by decide +kernel
theorem d_FK_fillEntry_13 : decode b_FK_fillEntry 13 = .ok (.iload 5, 2) := by decide +kernel
theorem d_FK_fillEntry_15 : decode b_FK_fillEntry 15 = .ok (.invokestatic 70, 3) := by decide +kernel
theorem d_FK_fillEntry_18 : decode b_FK_fillEntry 18 = .ok (.aload_n 0, 1) := by decide +kernel
theorem d_FK_fillEntry_19 : decode b_FK_fillEntry 19 = .ok (.iload_n 1, 1) := by decide +kernel
theorem d_FK_fillEntry_20 : decode b_FK_fillEntry 20 = .ok (.iload_n 2, 1) := by decide +kernel
theorem d_FK_fillEntry_21 : decode b_FK_fillEntry 21 = .ok (.invokevirtual 87, 3) := by decide +kernel
theorem d_FK_fillEntry_24 : decode b_FK_fillEntry 24 = .ok (.ifCond .ne 14, 3) := by decide +kernel
theorem d_FK_fillEntry_27 : decode b_FK_fillEntry 27 = .ok (.new 91, 3) := by decide +kernel
theorem d_FK_fillEntry_30 : decode b_FK_fillEntry 30 = .ok (.dup, 1) := by decide +kernel
theorem d_FK_fillEntry_31 : decode b_FK_fillEntry 31 = .ok (.ldc_w 285, 3) := by decide +kernel
theorem d_FK_fillEntry_34 : decode b_FK_fillEntry 34 = .ok (.invokespecial 95, 3) := by decide +kernel
theorem d_FK_fillEntry_37 : decode b_FK_fillEntry 37 = .ok (.athrow, 1) := by decide +kernel
theorem d_FK_fillEntry_38 : decode b_FK_fillEntry 38 = .ok (.aload_n 0, 1) := by decide +kernel
theorem d_FK_fillEntry_39 : decode b_FK_fillEntry 39 = .ok (.iload 4, 2) := by decide +kernel
theorem d_FK_fillEntry_41 : decode b_FK_fillEntry 41 = .ok (.invokevirtual 60, 3) := by decide +kernel
theorem d_FK_fillEntry_44 : decode b_FK_fillEntry 44 = .ok (.aload_n 0, 1) := by decide +kernel
theorem d_FK_fillEntry_45 : decode b_FK_fillEntry 45 = .ok (.getfield 10, 3) := by decide +kernel
theorem d_FK_fillEntry_48 : decode b_FK_fillEntry 48 = .ok (.iload_n 1, 1) := by decide +kernel
theorem d_FK_fillEntry_49 : decode b_FK_fillEntry 49 = .ok (.iload_n 3, 1) := by decide +kernel
theorem d_FK_fillEntry_50 : decode b_FK_fillEntry 50 = .ok (.invokevirtual 81, 3) := by decide +kernel
theorem d_FK_fillEntry_53 : decode b_FK_fillEntry 53 = .ok (.iconst (-1), 1) := by decide +kernel
theorem d_FK_fillEntry_54 : decode b_FK_fillEntry 54 = .ok (.if_icmp .eq 14, 3) := by decide +kernel
theorem d_FK_fillEntry_57 : decode b_FK_fillEntry 57 = .ok (.new 53, 3) := by decide +kernel
theorem d_FK_fillEntry_60 : decode b_FK_fillEntry 60 = .ok (.dup, 1) := by decide +kernel
theorem d_FK_fillEntry_61 : decode b_FK_fillEntry 61 = .ok (.ldc_w 287, 3) := by decide +kernel
theorem d_FK_fillEntry_64 : decode b_FK_fillEntry 64 = .ok (.invokespecial 57, 3) := by decide +kernel
theorem d_FK_fillEntry_67 : decode b_FK_fillEntry 67 = .ok (.athrow, 1) := by decide +kernel
theorem d_FK_fillEntry_68 : decode b_FK_fillEntry 68 = .ok (.iload_n 2, 1) := by decide +kernel
theorem d_FK_fillEntry_69 : decode b_FK_fillEntry 69 = .ok (.iconst 1, 1) := by decide +kernel
theorem d_FK_fillEntry_70 : decode b_FK_fillEntry 70 = .ok (.if_icmp .ne 7, 3) := by decide +kernel
theorem d_FK_fillEntry_73 : decode b_FK_fillEntry 73 = .ok (.iconst 2, 1) := by decide +kernel
theorem d_FK_fillEntry_74 : decode b_FK_fillEntry 74 = .ok (.goto 4, 3) := by decide +kernel
theorem d_FK_fillEntry_77 : decode b_FK_fillEntry 77 = .ok (.iconst 3, 1) := by decide +kernel
theorem d_FK_fillEntry_78 : decode b_FK_fillEntry 78 = .ok (.istore 6, 2) := by decide +kernel
theorem d_FK_fillEntry_80 : decode b_FK_fillEntry 80 = .ok (.aload_n 0, 1) := by decide +kernel
theorem d_FK_fillEntry_81 : decode b_FK_fillEntry 81 = .ok (.getfield 10, 3) := by decide +kernel
theorem d_FK_fillEntry_84 : decode b_FK_fillEntry 84 = .ok (.iload 4, 2) := by decide +kernel
theorem d_FK_fillEntry_86 : decode b_FK_fillEntry 86 = .ok (.iload 6, 2) := by decide +kernel
theorem d_FK_fillEntry_88 : decode b_FK_fillEntry 88 = .ok (.aload_n 0, 1) := by decide +kernel
theorem d_FK_fillEntry_89 : decode b_FK_fillEntry 89 = .ok (.getfield 10, 3) := by decide +kernel
theorem d_FK_fillEntry_92 : decode b_FK_fillEntry 92 = .ok (.iload_n 1, 1) := by decide +kernel
theorem d_FK_fillEntry_93 : decode b_FK_fillEntry 93 = .ok (.invokevirtual 249, 3) := by decide +kernel
theorem d_FK_fillEntry_96 : decode b_FK_fillEntry 96 = .ok (.invokevirtual 34, 3) := by decide +kernel
theorem d_FK_fillEntry_99 : decode b_FK_fillEntry 99 = .ok (.aload_n 0, 1) := by decide +kernel
theorem d_FK_fillEntry_100 : decode b_FK_fillEntry 100 = .ok (.getfield 10, 3) := by decide +kernel
theorem d_FK_fillEntry_103 : decode b_FK_fillEntry 103 = .ok (.iload_n 1, 1) := by decide +kernel
theorem d_FK_fillEntry_104 : decode b_FK_fillEntry 104 = .ok (.iload_n 3, 1) := by decide +kernel
theorem d_FK_fillEntry_105 : decode b_FK_fillEntry 105 = .ok (.iload 4, 2) := by decide +kernel
theorem d_FK_fillEntry_107 : decode b_FK_fillEntry 107 = .ok (.iload 5, 2) := by decide +kernel
theorem d_FK_fillEntry_109 : decode b_FK_fillEntry 109 = .ok (.invokevirtual 84, 3) := by decide +kernel
theorem d_FK_fillEntry_112 : decode b_FK_fillEntry 112 = .ok (.iconst 1, 1) := by decide +kernel
theorem d_FK_fillEntry_113 : decode b_FK_fillEntry 113 = .ok (.ireturn, 1) := by decide +kernel
theorem d_FK_checkEntry_0 : decode b_FK_checkEntry 0 = .ok (.iload_n 0, 1) := by decide +kernel
theorem d_FK_checkEntry_1 : decode b_FK_checkEntry 1 = .ok (.iconst 0, 1) := by decide +kernel
theorem d_FK_checkEntry_2 : decode b_FK_checkEntry 2 = .ok (.iconst 3, 1) := by decide +kernel
theorem d_FK_checkEntry_3 : decode b_FK_checkEntry 3 = .ok (.invokestatic 237, 3) := by decide +kernel
theorem d_FK_checkEntry_6 : decode b_FK_checkEntry 6 = .ok (.return_, 1) := by decide +kernel
theorem d_FK_checkRights_0 : decode b_FK_checkRights 0 = .ok (.iload_n 0, 1) := by decide +kernel
theorem d_FK_checkRights_1 : decode b_FK_checkRights 1 = .ok (.iconst 1, 1) := by decide +kernel
theorem d_FK_checkRights_2 : decode b_FK_checkRights 2 = .ok (.iconst 3, 1) := by decide +kernel
theorem d_FK_checkRights_3 : decode b_FK_checkRights 3 = .ok (.invokestatic 237, 3) := by decide +kernel
theorem d_FK_checkRights_6 : decode b_FK_checkRights 6 = .ok (.return_, 1) := by decide +kernel
theorem d_FK_isMyPage_0 : decode b_FK_isMyPage 0 = .ok (.aload_n 0, 1) := by decide +kernel
theorem d_FK_isMyPage_1 : decode b_FK_isMyPage 1 = .ok (.getfield 10, 3) := by decide +kernel
theorem d_FK_isMyPage_4 : decode b_FK_isMyPage 4 = .ok (.iload_n 1, 1) := by decide +kernel
theorem d_FK_isMyPage_5 : decode b_FK_isMyPage 5 = .ok (.invokevirtual 246, 3) := by decide +kernel
theorem d_FK_isMyPage_8 : decode b_FK_isMyPage 8 = .ok (.iload_n 2, 1) := by decide +kernel
theorem d_FK_isMyPage_9 : decode b_FK_isMyPage 9 = .ok (.if_icmp .ne 22, 3) := by decide +kernel
theorem d_FK_isMyPage_12 : decode b_FK_isMyPage 12 = .ok (.aload_n 0, 1) := by decide +kernel
theorem d_FK_isMyPage_13 : decode b_FK_isMyPage 13 = .ok (.aload_n 0, 1) := by decide +kernel
theorem d_FK_isMyPage_14 : decode b_FK_isMyPage 14 = .ok (.getfield 10, 3) := by decide +kernel
theorem d_FK_isMyPage_17 : decode b_FK_isMyPage 17 = .ok (.iload_n 1, 1) := by decide +kernel
theorem d_FK_isMyPage_18 : decode b_FK_isMyPage 18 = .ok (.invokevirtual 249, 3) := by decide +kernel
theorem d_FK_isMyPage_21 : decode b_FK_isMyPage 21 = .ok (.invokevirtual 264, 3) := by decide +kernel
theorem d_FK_isMyPage_24 : decode b_FK_isMyPage 24 = .ok (.ifCond .eq 7, 3) := by decide +kernel
theorem d_FK_isMyPage_27 : decode b_FK_isMyPage 27 = .ok (.iconst 1, 1) := by decide +kernel
theorem d_FK_isMyPage_28 : decode b_FK_isMyPage 28 = .ok (.goto 4, 3) := by decide +kernel
theorem d_FK_isMyPage_31 : decode b_FK_isMyPage 31 = .ok (.iconst 0, 1) := by decide +kernel
theorem d_FK_isMyPage_32 : decode b_FK_isMyPage 32 = .ok (.ireturn, 1) := by decide +kernel
theorem d_FK_isMine_0 : decode b_FK_isMine 0 = .ok (.iload_n 1, 1) := by decide +kernel
theorem d_FK_isMine_1 : decode b_FK_isMine 1 = .ok (.aload_n 0, 1) := by decide +kernel
theorem d_FK_isMine_2 : decode b_FK_isMine 2 = .ok (.getfield 30, 3) := by decide +kernel
theorem d_FK_isMine_5 : decode b_FK_isMine 5 = .ok (.if_icmp .eq 21, 3) := by decide +kernel
theorem d_FK_isMine_8 : decode b_FK_isMine 8 = .ok (.aload_n 0, 1) := by decide +kernel
theorem d_FK_isMine_9 : decode b_FK_isMine 9 = .ok (.iload_n 1, 1) := by decide +kernel
theorem d_FK_isMine_10 : decode b_FK_isMine 10 = .ok (.iconst 1, 1) := by decide +kernel
theorem d_FK_isMine_11 : decode b_FK_isMine 11 = .ok (.invokevirtual 110, 3) := by decide +kernel
theorem d_FK_isMine_14 : decode b_FK_isMine 14 = .ok (.ifCond .ne 12, 3) := by decide +kernel
theorem d_FK_isMine_17 : decode b_FK_isMine 17 = .ok (.aload_n 0, 1) := by decide +kernel
theorem d_FK_isMine_18 : decode b_FK_isMine 18 = .ok (.iload_n 1, 1) := by decide +kernel
theorem d_FK_isMine_19 : decode b_FK_isMine 19 = .ok (.iconst 5, 1) := by decide +kernel
theorem d_FK_isMine_20 : decode b_FK_isMine 20 = .ok (.invokevirtual 110, 3) := by decide +kernel
theorem d_FK_isMine_23 : decode b_FK_isMine 23 = .ok (.ifCond .eq 7, 3) := by decide +kernel
theorem d_FK_isMine_26 : decode b_FK_isMine 26 = .ok (.iconst 1, 1) := by decide +kernel
theorem d_FK_isMine_27 : decode b_FK_isMine 27 = .ok (.goto 4, 3) := by decide +kernel
theorem d_FK_isMine_30 : decode b_FK_isMine 30 = .ok (.iconst 0, 1) := by decide +kernel
theorem d_FK_isMine_31 : decode b_FK_isMine 31 = .ok (.ireturn, 1) := by decide +kernel
theorem d_FK_isMyChild_0 : decode b_FK_isMyChild 0 = .ok (.aload_n 0, 1) := by decide +kernel
theorem d_FK_isMyChild_1 : decode b_FK_isMyChild 1 = .ok (.getfield 19, 3) := by decide +kernel
theorem d_FK_isMyChild_4 : decode b_FK_isMyChild 4 = .ok (.iload_n 1, 1) := by decide +kernel
theorem d_FK_isMyChild_5 : decode b_FK_isMyChild 5 = .ok (.invokevirtual 240, 3) := by decide +kernel
theorem d_FK_isMyChild_8 : decode b_FK_isMyChild 8 = .ok (.aload_n 0, 1) := by decide +kernel
theorem d_FK_isMyChild_9 : decode b_FK_isMyChild 9 = .ok (.getfield 30, 3) := by decide +kernel
theorem d_FK_isMyChild_12 : decode b_FK_isMyChild 12 = .ok (.if_icmp .ne 19, 3) := by decide +kernel
theorem d_FK_isMyChild_15 : decode b_FK_isMyChild 15 = .ok (.aload_n 0, 1) := by decide +kernel
theorem d_FK_isMyChild_16 : decode b_FK_isMyChild 16 = .ok (.getfield 19, 3) := by decide +kernel
theorem d_FK_isMyChild_19 : decode b_FK_isMyChild 19 = .ok (.iload_n 1, 1) := by decide +kernel
theorem d_FK_isMyChild_20 : decode b_FK_isMyChild 20 = .ok (.invokevirtual 49, 3) := by decide +kernel
theorem d_FK_isMyChild_23 : decode b_FK_isMyChild 23 = .ok (.iload_n 2, 1) := by decide +kernel
theorem d_FK_isMyChild_24 : decode b_FK_isMyChild 24 = .ok (.if_icmp .ne 7, 3) := by decide +kernel
theorem d_FK_isMyChild_27 : decode b_FK_isMyChild 27 = .ok (.iconst 1, 1) := by decide +kernel
theorem d_FK_isMyChild_28 : decode b_FK_isMyChild 28 = .ok (.goto 4, 3) := by decide +kernel
theorem d_FK_isMyChild_31 : decode b_FK_isMyChild 31 = .ok (.iconst 0, 1) := by decide +kernel
theorem d_FK_isMyChild_32 : decode b_FK_isMyChild 32 = .ok (.ireturn, 1) := by decide +kernel
theorem d_FK_frame_0 : decode b_FK_frame 0 = .ok (.aload_n 0, 1) := by decide +kernel
theorem d_FK_frame_1 : decode b_FK_frame 1 = .ok (.iload_n 1, 1) := by decide +kernel
theorem d_FK_frame_2 : decode b_FK_frame 2 = .ok (.iconst 2, 1) := by decide +kernel
theorem d_FK_frame_3 : decode b_FK_frame 3 = .ok (.iload_n 2, 1) := by decide +kernel
theorem d_FK_frame_4 : decode b_FK_frame 4 = .ok (.iload_n 3, 1) := by decide +kernel
theorem d_FK_frame_5 : decode b_FK_frame 5 = .ok (.iload 4, 2) := by decide +kernel
theorem d_FK_frame_7 : decode b_FK_frame 7 = .ok (.invokevirtual 63, 3) := by decide +kernel
theorem d_FK_frame_10 : decode b_FK_frame 10 = .ok (.ireturn, 1) := by decide +kernel
theorem d_FK_protect_0 : decode b_FK_protect 0 = .ok (.iload_n 1, 1) := by decide +kernel
theorem d_FK_protect_1 : decode b_FK_protect 1 = .ok (.invokestatic 46, 3) := by decide +kernel
theorem d_FK_protect_4 : decode b_FK_protect 4 = .ok (.iload_n 2, 1) := by decide +kernel
theorem d_FK_protect_5 : decode b_FK_protect 5 = .ok (.invokestatic 67, 3) := by decide +kernel
theorem d_FK_protect_8 : decode b_FK_protect 8 = .ok (.iload_n 3, 1) := by decide +kernel
theorem d_FK_protect_9 : decode b_FK_protect 9 = .ok (.invokestatic 70, 3) := by decide +kernel
theorem d_FK_protect_12 : decode b_FK_protect 12 = .ok (.aload_n 0, 1) := by decide +kernel
theorem d_FK_protect_13 : decode b_FK_protect 13 = .ok (.iload_n 1, 1) := by decide +kernel
theorem d_FK_protect_14 : decode b_FK_protect 14 = .ok (.iload_n 2, 1) := by decide +kernel
theorem d_FK_protect_15 : decode b_FK_protect 15 = .ok (.invokevirtual 73, 3) := by decide +kernel
theorem d_FK_protect_18 : decode b_FK_protect 18 = .ok (.aload_n 0, 1) := by decide +kernel
theorem d_FK_protect_19 : decode b_FK_protect 19 = .ok (.getfield 10, 3) := by decide +kernel
theorem d_FK_protect_22 : decode b_FK_protect 22 = .ok (.iload_n 1, 1) := by decide +kernel
theorem d_FK_protect_23 : decode b_FK_protect 23 = .ok (.iload_n 2, 1) := by decide +kernel
theorem d_FK_protect_24 : decode b_FK_protect 24 = .ok (.invokevirtual 77, 3) := by decide +kernel
theorem d_FK_protect_27 : decode b_FK_protect 27 = .ok (.istore 4, 2) := by decide +kernel
theorem d_FK_protect_29 : decode b_FK_protect 29 = .ok (.aload_n 0, 1) := by decide +kernel
theorem d_FK_protect_30 : decode b_FK_protect 30 = .ok (.getfield 10, 3) := by decide +kernel
theorem d_FK_protect_33 : decode b_FK_protect 33 = .ok (.iload_n 1, 1) := by decide +kernel
theorem d_FK_protect_34 : decode b_FK_protect 34 = .ok (.iload_n 2, 1) := by decide +kernel
theorem d_FK_protect_35 : decode b_FK_protect 35 = .ok (.aload_n 0, 1) := by decide +kernel
theorem d_FK_protect_36 : decode b_FK_protect 36 = .ok (.getfield 10, 3) := by decide +kernel
theorem d_FK_protect_39 : decode b_FK_protect 39 = .ok (.iload_n 1, 1) := by decide +kernel
theorem d_FK_protect_40 : decode b_FK_protect 40 = .ok (.iload_n 2, 1) := by decide +kernel
theorem d_FK_protect_41 : decode b_FK_protect 41 = .ok (.invokevirtual 81, 3) := by decide +kernel
theorem d_FK_protect_44 : decode b_FK_protect 44 = .ok (.iload_n 3, 1) := by decide +kernel
theorem d_FK_protect_45 : decode b_FK_protect 45 = .ok (.invokevirtual 84, 3) := by decide +kernel
theorem d_FK_protect_48 : decode b_FK_protect 48 = .ok (.iload 4, 2) := by decide +kernel
theorem d_FK_protect_50 : decode b_FK_protect 50 = .ok (.ireturn, 1) := by decide +kernel
theorem d_FK_checkMyEntryIsFilled_0 : decode b_FK_checkMyEntryIsFilled 0 = .ok (.aload_n 0, 1) := by decide +kernel
theorem d_FK_checkMyEntryIsFilled_1 : decode b_FK_checkMyEntryIsFilled 1 = .ok (.iload_n 1, 1) := by decide +kernel
theorem d_FK_checkMyEntryIsFilled_2 : decode b_FK_checkMyEntryIsFilled 2 = .ok (.iconst 1, 1) := by decide +kernel
theorem d_FK_checkMyEntryIsFilled_3 : decode b_FK_checkMyEntryIsFilled 3 = .ok (.invokevirtual 87, 3) := by decide +kernel
theorem d_FK_checkMyEntryIsFilled_6 : decode b_FK_checkMyEntryIsFilled 6 = .ok (.ifCond .ne 23, 3) := by decide +kernel
theorem d_FK_checkMyEntryIsFilled_9 : decode b_FK_checkMyEntryIsFilled 9 = .ok (.aload_n 0, 1) := by decide +kernel
theorem d_FK_checkMyEntryIsFilled_10 : decode b_FK_checkMyEntryIsFilled 10 = .ok (.iload_n 1, 1) := by decide +kernel
theorem d_FK_checkMyEntryIsFilled_11 : decode b_FK_checkMyEntryIsFilled 11 = .ok (.iconst 2, 1) := by decide +kernel
theorem d_FK_checkMyEntryIsFilled_12 : decode b_FK_checkMyEntryIsFilled 12 = .ok (.invokevirtual 87, 3) := by decide +kernel
theorem d_FK_checkMyEntryIsFilled_15 : decode b_FK_checkMyEntryIsFilled 15 = .ok (.ifCond .ne 14, 3) := by decide +kernel
theorem d_FK_checkMyEntryIsFilled_18 : decode b_FK_checkMyEntryIsFilled 18 = .ok (.new 91, 3) := by decide +kernel
theorem d_FK_checkMyEntryIsFilled_21 : decode b_FK_checkMyEntryIsFilled 21 = .ok (.dup, 1) := by decide +kernel
theorem d_FK_checkMyEntryIsFilled_22 : decode b_FK_checkMyEntryIsFilled 22 = .ok (.ldc_w 278, 3) := by decide +kernel
theorem d_FK_checkMyEntryIsFilled_25 : decode b_FK_checkMyEntryIsFilled 25 = .ok (.invokespecial 95, 3) := by decide +kernel
theorem d_FK_checkMyEntryIsFilled_28 : decode b_FK_checkMyEntryIsFilled 28 = .ok (.athrow, 1) := by decide +kernel
theorem d_FK_checkMyEntryIsFilled_29 : decode b_FK_checkMyEntryIsFilled 29 = .ok (.aload_n 0, 1) := by decide +kernel
theorem d_FK_checkMyEntryIsFilled_30 : decode b_FK_checkMyEntryIsFilled 30 = .ok (.getfield 10, 3) := by decide +kernel
theorem d_FK_checkMyEntryIsFilled_33 : decode b_FK_checkMyEntryIsFilled 33 = .ok (.iload_n 1, 1) := by decide +kernel
theorem d_FK_checkMyEntryIsFilled_34 : decode b_FK_checkMyEntryIsFilled 34 = .ok (.iload_n 2, 1) := by decide +kernel
theorem d_FK_checkMyEntryIsFilled_35 : decode b_FK_checkMyEntryIsFilled 35 = .ok (.invokevirtual 81, 3) := by decide +kernel
theorem d_FK_checkMyEntryIsFilled_38 : decode b_FK_checkMyEntryIsFilled 38 = .ok (.iconst (-1), 1) := by decide +kernel
theorem d_FK_checkMyEntryIsFilled_39 : decode b_FK_checkMyEntryIsFilled 39 = .ok (.if_icmp .ne 14, 3) := by decide +kernel
theorem d_FK_checkMyEntryIsFilled_42 : decode b_FK_checkMyEntryIsFilled 42 = .ok (.new 280, 3) := by decide +kernel
theorem d_FK_checkMyEntryIsFilled_45 : decode b_FK_checkMyEntryIsFilled 45 = .ok (.dup, 1) := by decide +kernel
theorem d_FK_checkMyEntryIsFilled_46 : decode b_FK_checkMyEntryIsFilled 46 = .ok (.ldc_w 282, 3) := by decide +kernel
theorem d_FK_checkMyEntryIsFilled_49 : decode b_FK_checkMyEntryIsFilled 49 = .ok (.invokespecial 284, 3) := by decide +kernel
theorem d_FK_checkMyEntryIsFilled_52 : decode b_FK_checkMyEntryIsFilled 52 = .ok (.athrow, 1) := by decide +kernel
theorem d_FK_checkMyEntryIsFilled_53 : decode b_FK_checkMyEntryIsFilled 53 = .ok (.return_, 1) := by decide +kernel
theorem d_FK_copy_0 : decode b_FK_copy 0 = .ok (.iload_n 1, 1) := by decide +kernel
theorem d_FK_copy_1 : decode b_FK_copy 1 = .ok (.invokestatic 46, 3) := by decide +kernel
theorem d_FK_copy_4 : decode b_FK_copy 4 = .ok (.iload_n 2, 1) := by decide +kernel
theorem d_FK_copy_5 : decode b_FK_copy 5 = .ok (.invokestatic 46, 3) := by decide +kernel
theorem d_FK_copy_8 : decode b_FK_copy 8 = .ok (.aload_n 0, 1) := by decide +kernel
theorem d_FK_copy_9 : decode b_FK_copy 9 = .ok (.iload_n 1, 1) := by decide +kernel
theorem d_FK_copy_10 : decode b_FK_copy 10 = .ok (.iconst 3, 1) := by decide +kernel
theorem d_FK_copy_11 : decode b_FK_copy 11 = .ok (.invokevirtual 87, 3) := by decide +kernel
theorem d_FK_copy_14 : decode b_FK_copy 14 = .ok (.ifCond .eq 12, 3) := by decide +kernel
theorem d_FK_copy_17 : decode b_FK_copy 17 = .ok (.aload_n 0, 1) := by decide +kernel
theorem d_FK_copy_18 : decode b_FK_copy 18 = .ok (.iload_n 2, 1) := by decide +kernel
theorem d_FK_copy_19 : decode b_FK_copy 19 = .ok (.iconst 3, 1) := by decide +kernel
theorem d_FK_copy_20 : decode b_FK_copy 20 = .ok (.invokevirtual 87, 3) := by decide +kernel
theorem d_FK_copy_23 : decode b_FK_copy 23 = .ok (.ifCond .ne 13, 3) := by decide +kernel
theorem d_FK_copy_26 : decode b_FK_copy 26 = .ok (.new 91, 3) := by decide +kernel
theorem d_FK_copy_29 : decode b_FK_copy 29 = .ok (.dup, 1) := by decide +kernel
theorem d_FK_copy_30 : decode b_FK_copy 30 = .ok (.ldc 93, 2) := by decide +kernel
theorem d_FK_copy_32 : decode b_FK_copy 32 = .ok (.invokespecial 95, 3) := by decide +kernel
theorem d_FK_copy_35 : decode b_FK_copy 35 = .ok (.athrow, 1) := by decide +kernel
theorem d_FK_copy_36 : decode b_FK_copy 36 = .ok (.aload_n 0, 1) := by decide +kernel
theorem d_FK_copy_37 : decode b_FK_copy 37 = .ok (.getfield 10, 3) := by decide +kernel
theorem d_FK_copy_40 : decode b_FK_copy 40 = .ok (.iload_n 1, 1) := by decide +kernel
theorem d_FK_copy_41 : decode b_FK_copy 41 = .ok (.iload_n 2, 1) := by decide +kernel
theorem d_FK_copy_42 : decode b_FK_copy 42 = .ok (.invokevirtual 96, 3) := by decide +kernel
theorem d_FK_copy_45 : decode b_FK_copy 45 = .ok (.iconst 1, 1) := by decide +kernel
theorem d_FK_copy_46 : decode b_FK_copy 46 = .ok (.ireturn, 1) := by decide +kernel
theorem d_FK_release_0 : decode b_FK_release 0 = .ok (.iload_n 1, 1) := by decide +kernel
theorem d_FK_release_1 : decode b_FK_release 1 = .ok (.invokestatic 46, 3) := by decide +kernel
theorem d_FK_release_4 : decode b_FK_release 4 = .ok (.iload_n 2, 1) := by decide +kernel
theorem d_FK_release_5 : decode b_FK_release 5 = .ok (.invokestatic 67, 3) := by decide +kernel
theorem d_FK_release_8 : decode b_FK_release 8 = .ok (.aload_n 0, 1) := by decide +kernel
theorem d_FK_release_9 : decode b_FK_release 9 = .ok (.iload_n 1, 1) := by decide +kernel
theorem d_FK_release_10 : decode b_FK_release 10 = .ok (.iload_n 2, 1) := by decide +kernel
theorem d_FK_release_11 : decode b_FK_release 11 = .ok (.invokevirtual 73, 3) := by decide +kernel
theorem d_FK_release_14 : decode b_FK_release 14 = .ok (.aload_n 0, 1) := by decide +kernel
theorem d_FK_release_15 : decode b_FK_release 15 = .ok (.getfield 10, 3) := by decide +kernel
theorem d_FK_release_18 : decode b_FK_release 18 = .ok (.iload_n 1, 1) := by decide +kernel
theorem d_FK_release_19 : decode b_FK_release 19 = .ok (.iload_n 2, 1) := by decide +kernel
theorem d_FK_release_20 : decode b_FK_release 20 = .ok (.invokevirtual 81, 3) := by decide +kernel
theorem d_FK_release_23 : decode b_FK_release 23 = .ok (.istore_n 3, 1) := by decide +kernel
theorem d_FK_release_24 : decode b_FK_release 24 = .ok (.aload_n 0, 1) := by decide +kernel
theorem d_FK_release_25 : decode b_FK_release 25 = .ok (.getfield 10, 3) := by decide +kernel
theorem d_FK_release_28 : decode b_FK_release 28 = .ok (.iload_n 3, 1) := by decide +kernel
theorem d_FK_release_29 : decode b_FK_release 29 = .ok (.invokevirtual 99, 3) := by decide +kernel
theorem d_FK_release_32 : decode b_FK_release 32 = .ok (.ifCond .le 13, 3) := by decide +kernel
theorem d_FK_release_35 : decode b_FK_release 35 = .ok (.new 53, 3) := by decide +kernel
theorem d_FK_release_38 : decode b_FK_release 38 = .ok (.dup, 1) := by decide +kernel
theorem d_FK_release_39 : decode b_FK_release 39 = .ok (.ldc 102, 2) := by decide +kernel
theorem d_FK_release_41 : decode b_FK_release 41 = .ok (.invokespecial 57, 3) := by decide +kernel
theorem d_FK_release_44 : decode b_FK_release 44 = .ok (.athrow, 1) := by decide +kernel
theorem d_FK_release_45 : decode b_FK_release 45 = .ok (.aload_n 0, 1) := by decide +kernel
theorem d_FK_release_46 : decode b_FK_release 46 = .ok (.getfield 10, 3) := by decide +kernel
theorem d_FK_release_49 : decode b_FK_release 49 = .ok (.iload_n 1, 1) := by decide +kernel
theorem d_FK_release_50 : decode b_FK_release 50 = .ok (.iload_n 2, 1) := by decide +kernel
theorem d_FK_release_51 : decode b_FK_release 51 = .ok (.invokevirtual 104, 3) := by decide +kernel
theorem d_FK_release_54 : decode b_FK_release 54 = .ok (.aload_n 0, 1) := by decide +kernel
theorem d_FK_release_55 : decode b_FK_release 55 = .ok (.getfield 10, 3) := by decide +kernel
theorem d_FK_release_58 : decode b_FK_release 58 = .ok (.iload_n 3, 1) := by decide +kernel
theorem d_FK_release_59 : decode b_FK_release 59 = .ok (.invokevirtual 107, 3) := by decide +kernel
theorem d_FK_release_62 : decode b_FK_release 62 = .ok (.iload_n 3, 1) := by decide +kernel
theorem d_FK_release_63 : decode b_FK_release 63 = .ok (.ireturn, 1) := by decide +kernel
theorem d_FK_start_0 : decode b_FK_start 0 = .ok (.iload_n 1, 1) := by decide +kernel
theorem d_FK_start_1 : decode b_FK_start 1 = .ok (.invokestatic 42, 3) := by decide +kernel
theorem d_FK_start_4 : decode b_FK_start 4 = .ok (.aload_n 0, 1) := by decide +kernel
theorem d_FK_start_5 : decode b_FK_start 5 = .ok (.iload_n 1, 1) := by decide +kernel
theorem d_FK_start_6 : decode b_FK_start 6 = .ok (.iconst 1, 1) := by decide +kernel
theorem d_FK_start_7 : decode b_FK_start 7 = .ok (.invokevirtual 110, 3) := by decide +kernel
theorem d_FK_start_10 : decode b_FK_start 10 = .ok (.ifCond .ne 13, 3) := by decide +kernel
theorem d_FK_start_13 : decode b_FK_start 13 = .ok (.new 53, 3) := by decide +kernel
theorem d_FK_start_16 : decode b_FK_start 16 = .ok (.dup, 1) := by decide +kernel
theorem d_FK_start_17 : decode b_FK_start 17 = .ok (.ldc 113, 2) := by decide +kernel
theorem d_FK_start_19 : decode b_FK_start 19 = .ok (.invokespecial 57, 3) := by decide +kernel
theorem d_FK_start_22 : decode b_FK_start 22 = .ok (.athrow, 1) := by decide +kernel
theorem d_FK_start_23 : decode b_FK_start 23 = .ok (.aload_n 0, 1) := by decide +kernel
theorem d_FK_start_24 : decode b_FK_start 24 = .ok (.getfield 19, 3) := by decide +kernel
theorem d_FK_start_27 : decode b_FK_start 27 = .ok (.iload_n 1, 1) := by decide +kernel
theorem d_FK_start_28 : decode b_FK_start 28 = .ok (.iconst 2, 1) := by decide +kernel
theorem d_FK_start_29 : decode b_FK_start 29 = .ok (.invokevirtual 115, 3) := by decide +kernel
theorem d_FK_start_32 : decode b_FK_start 32 = .ok (.iconst 1, 1) := by decide +kernel
theorem d_FK_start_33 : decode b_FK_start 33 = .ok (.ireturn, 1) := by decide +kernel
theorem d_FK_give_0 : decode b_FK_give 0 = .ok (.iload_n 1, 1) := by decide +kernel
theorem d_FK_give_1 : decode b_FK_give 1 = .ok (.invokestatic 42, 3) := by decide +kernel
theorem d_FK_give_4 : decode b_FK_give 4 = .ok (.aload_n 0, 1) := by decide +kernel
theorem d_FK_give_5 : decode b_FK_give 5 = .ok (.iload_n 1, 1) := by decide +kernel
theorem d_FK_give_6 : decode b_FK_give 6 = .ok (.invokevirtual 118, 3) := by decide +kernel
theorem d_FK_give_9 : decode b_FK_give 9 = .ok (.aload_n 0, 1) := by decide +kernel
theorem d_FK_give_10 : decode b_FK_give 10 = .ok (.getfield 30, 3) := by decide +kernel
theorem d_FK_give_13 : decode b_FK_give 13 = .ok (.istore_n 2, 1) := by decide +kernel
theorem d_FK_give_14 : decode b_FK_give 14 = .ok (.aload_n 0, 1) := by decide +kernel
theorem d_FK_give_15 : decode b_FK_give 15 = .ok (.getfield 19, 3) := by decide +kernel
theorem d_FK_give_18 : decode b_FK_give 18 = .ok (.iload_n 2, 1) := by decide +kernel
theorem d_FK_give_19 : decode b_FK_give 19 = .ok (.iconst 2, 1) := by decide +kernel
theorem d_FK_give_20 : decode b_FK_give 20 = .ok (.invokevirtual 115, 3) := by decide +kernel
theorem d_FK_give_23 : decode b_FK_give 23 = .ok (.aload_n 0, 1) := by decide +kernel
theorem d_FK_give_24 : decode b_FK_give 24 = .ok (.iload_n 1, 1) := by decide +kernel
theorem d_FK_give_25 : decode b_FK_give 25 = .ok (.invokevirtual 121, 3) := by decide +kernel
theorem d_FK_give_28 : decode b_FK_give 28 = .ok (.iload_n 2, 1) := by decide +kernel
theorem d_FK_give_29 : decode b_FK_give 29 = .ok (.ireturn, 1) := by decide +kernel
theorem d_FK_checkIsReady_0 : decode b_FK_checkIsReady 0 = .ok (.aload_n 0, 1) := by decide +kernel
theorem d_FK_checkIsReady_1 : decode b_FK_checkIsReady 1 = .ok (.getfield 19, 3) := by decide +kernel
theorem d_FK_checkIsReady_4 : decode b_FK_checkIsReady 4 = .ok (.iload_n 1, 1) := by decide +kernel
theorem d_FK_checkIsReady_5 : decode b_FK_checkIsReady 5 = .ok (.invokevirtual 49, 3) := by decide +kernel
theorem d_FK_checkIsReady_8 : decode b_FK_checkIsReady 8 = .ok (.iconst 2, 1) := by decide +kernel
theorem d_FK_checkIsReady_9 : decode b_FK_checkIsReady 9 = .ok (.if_icmp .eq 14, 3) := by decide +kernel
theorem d_FK_checkIsReady_12 : decode b_FK_checkIsReady 12 = .ok (.new 53, 3) := by decide +kernel
theorem d_FK_checkIsReady_15 : decode b_FK_checkIsReady 15 = .ok (.dup, 1) := by decide +kernel
theorem d_FK_checkIsReady_16 : decode b_FK_checkIsReady 16 = .ok (.ldc_w 269, 3) := by decide +kernel
theorem d_FK_checkIsReady_19 : decode b_FK_checkIsReady 19 = .ok (.invokespecial 57, 3) := by decide +kernel
theorem d_FK_checkIsReady_22 : decode b_FK_checkIsReady 22 = .ok (.athrow, 1) := by decide +kernel
theorem d_FK_checkIsReady_23 : decode b_FK_checkIsReady 23 = .ok (.return_, 1) := by decide +kernel
theorem d_FK_run_0 : decode b_FK_run 0 = .ok (.aload_n 0, 1) := by decide +kernel
theorem d_FK_run_1 : decode b_FK_run 1 = .ok (.getfield 19, 3) := by decide +kernel
theorem d_FK_run_4 : decode b_FK_run 4 = .ok (.iload_n 1, 1) := by decide +kernel
theorem d_FK_run_5 : decode b_FK_run 5 = .ok (.iconst 3, 1) := by decide +kernel
theorem d_FK_run_6 : decode b_FK_run 6 = .ok (.invokevirtual 115, 3) := by decide +kernel
theorem d_FK_run_9 : decode b_FK_run 9 = .ok (.aload_n 0, 1) := by decide +kernel
theorem d_FK_run_10 : decode b_FK_run 10 = .ok (.iload_n 1, 1) := by decide +kernel
theorem d_FK_run_11 : decode b_FK_run 11 = .ok (.putfield 30, 3) := by decide +kernel
theorem d_FK_run_14 : decode b_FK_run 14 = .ok (.return_, 1) := by decide +kernel
theorem d_FK_kill_0 : decode b_FK_kill 0 = .ok (.iload_n 1, 1) := by decide +kernel
theorem d_FK_kill_1 : decode b_FK_kill 1 = .ok (.invokestatic 42, 3) := by decide +kernel
theorem d_FK_kill_4 : decode b_FK_kill 4 = .ok (.iload_n 1, 1) := by decide +kernel
theorem d_FK_kill_5 : decode b_FK_kill 5 = .ok (.iconst 1, 1) := by decide +kernel
theorem d_FK_kill_6 : decode b_FK_kill 6 = .ok (.if_icmp .ne 13, 3) := by decide +kernel
theorem d_FK_kill_9 : decode b_FK_kill 9 = .ok (.new 91, 3) := by decide +kernel
theorem d_FK_kill_12 : decode b_FK_kill 12 = .ok (.dup, 1) := by decide +kernel
theorem d_FK_kill_13 : decode b_FK_kill 13 = .ok (.ldc 124, 2) := by decide +kernel
theorem d_FK_kill_15 : decode b_FK_kill 15 = .ok (.invokespecial 95, 3) := by decide +kernel
theorem d_FK_kill_18 : decode b_FK_kill 18 = .ok (.athrow, 1) := by decide +kernel
theorem d_FK_kill_19 : decode b_FK_kill 19 = .ok (.iload_n 1, 1) := by decide +kernel
theorem d_FK_kill_20 : decode b_FK_kill 20 = .ok (.aload_n 0, 1) := by decide +kernel
theorem d_FK_kill_21 : decode b_FK_kill 21 = .ok (.getfield 30, 3) := by decide +kernel
theorem d_FK_kill_24 : decode b_FK_kill 24 = .ok (.if_icmp .ne 10, 3) := by decide +kernel
theorem d_FK_kill_27 : decode b_FK_kill 27 = .ok (.aload_n 0, 1) := by decide +kernel
theorem d_FK_kill_28 : decode b_FK_kill 28 = .ok (.invokevirtual 126, 3) := by decide +kernel
theorem d_FK_kill_31 : decode b_FK_kill 31 = .ok (.goto 21, 3) := by decide +kernel
theorem d_FK_kill_34 : decode b_FK_kill 34 = .ok (.aload_n 0, 1) := by decide +kernel
theorem d_FK_kill_35 : decode b_FK_kill 35 = .ok (.iload_n 1, 1) := by decide +kernel
theorem d_FK_kill_36 : decode b_FK_kill 36 = .ok (.invokevirtual 129, 3) := by decide +kernel
theorem d_FK_kill_39 : decode b_FK_kill 39 = .ok (.ifCond .ne 13, 3) := by decide +kernel
theorem d_FK_kill_42 : decode b_FK_kill 42 = .ok (.new 53, 3) := by decide +kernel
theorem d_FK_kill_45 : decode b_FK_kill 45 = .ok (.dup, 1) := by decide +kernel
theorem d_FK_kill_46 : decode b_FK_kill 46 = .ok (.ldc 133, 2) := by decide +kernel
theorem d_FK_kill_48 : decode b_FK_kill 48 = .ok (.invokespecial 57, 3) := by decide +kernel
theorem d_FK_kill_51 : decode b_FK_kill 51 = .ok (.athrow, 1) := by decide +kernel
theorem d_FK_kill_52 : decode b_FK_kill 52 = .ok (.aload_n 0, 1) := by decide +kernel
theorem d_FK_kill_53 : decode b_FK_kill 53 = .ok (.getfield 19, 3) := by decide +kernel
theorem d_FK_kill_56 : decode b_FK_kill 56 = .ok (.iload_n 1, 1) := by decide +kernel
theorem d_FK_kill_57 : decode b_FK_kill 57 = .ok (.iconst 5, 1) := by decide +kernel
theorem d_FK_kill_58 : decode b_FK_kill 58 = .ok (.invokevirtual 115, 3) := by decide +kernel
theorem d_FK_kill_61 : decode b_FK_kill 61 = .ok (.aload_n 0, 1) := by decide +kernel
theorem d_FK_kill_62 : decode b_FK_kill 62 = .ok (.getfield 19, 3) := by decide +kernel
theorem d_FK_kill_65 : decode b_FK_kill 65 = .ok (.iload_n 1, 1) := by decide +kernel
theorem d_FK_kill_66 : decode b_FK_kill 66 = .ok (.invokevirtual 135, 3) := by decide +kernel
theorem d_FK_kill_69 : decode b_FK_kill 69 = .ok (.ireturn, 1) := by decide +kernel
theorem d_FK_handOverToNextReady_0 : decode b_FK_handOverToNextReady 0 = .ok (.aload_n 0, 1) := by decide +kernel
theorem d_FK_handOverToNextReady_1 : decode b_FK_handOverToNextReady 1 = .ok (.getfield 19, 3) := by decide +kernel
theorem d_FK_handOverToNextReady_4 : decode b_FK_handOverToNextReady 4 = .ok (.aload_n 0, 1) := by decide +kernel
theorem d_FK_handOverToNextReady_5 : decode b_FK_handOverToNextReady 5 = .ok (.getfield 30, 3) := by decide +kernel
theorem d_FK_handOverToNextReady_8 : decode b_FK_handOverToNextReady 8 = .ok (.invokevirtual 300, 3) := by decide +kernel
theorem d_FK_handOverToNextReady_11 : decode b_FK_handOverToNextReady 11 = .ok (.istore_n 1, 1) := by decide +kernel
theorem d_FK_handOverToNextReady_12 : decode b_FK_handOverToNextReady 12 = .ok (.iload_n 1, 1) := by decide +kernel
theorem d_FK_handOverToNextReady_13 : decode b_FK_handOverToNextReady 13 = .ok (.ifCond .ne 14, 3) := by decide +kernel
theorem d_FK_handOverToNextReady_16 : decode b_FK_handOverToNextReady 16 = .ok (.new 53, 3) := by decide +kernel
theorem d_FK_handOverToNextReady_19 : decode b_FK_handOverToNextReady 19 = .ok (.dup, 1) := by decide +kernel
theorem d_FK_handOverToNextReady_20 : decode b_FK_handOverToNextReady 20 = .ok (.ldc_w 303, 3) := by decide +kernel
theorem d_FK_handOverToNextReady_23 : decode b_FK_handOverToNextReady 23 = .ok (.invokespecial 57, 3) := by decide +kernel
theorem d_FK_handOverToNextReady_26 : decode b_FK_handOverToNextReady 26 = .ok (.athrow, 1) := by decide +kernel
theorem d_FK_handOverToNextReady_27 : decode b_FK_handOverToNextReady 27 = .ok (.aload_n 0, 1) := by decide +kernel
theorem d_FK_handOverToNextReady_28 : decode b_FK_handOverToNextReady 28 = .ok (.iload_n 1, 1) := by decide +kernel
theorem d_FK_handOverToNextReady_29 : decode b_FK_handOverToNextReady 29 = .ok (.invokevirtual 121, 3) := by decide +kernel
theorem d_FK_handOverToNextReady_32 : decode b_FK_handOverToNextReady 32 = .ok (.return_, 1) := by decide +kernel
theorem d_FK_isMyLivingChild_0 : decode b_FK_isMyLivingChild 0 = .ok (.aload_n 0, 1) := by decide +kernel
theorem d_FK_isMyLivingChild_1 : decode b_FK_isMyLivingChild 1 = .ok (.getfield 19, 3) := by decide +kernel
theorem d_FK_isMyLivingChild_4 : decode b_FK_isMyLivingChild 4 = .ok (.iload_n 1, 1) := by decide +kernel
theorem d_FK_isMyLivingChild_5 : decode b_FK_isMyLivingChild 5 = .ok (.invokevirtual 49, 3) := by decide +kernel
theorem d_FK_isMyLivingChild_8 : decode b_FK_isMyLivingChild 8 = .ok (.istore_n 2, 1) := by decide +kernel
theorem d_FK_isMyLivingChild_9 : decode b_FK_isMyLivingChild 9 = .ok (.aload_n 0, 1) := by decide +kernel
theorem d_FK_isMyLivingChild_10 : decode b_FK_isMyLivingChild 10 = .ok (.getfield 19, 3) := by decide +kernel
theorem d_FK_isMyLivingChild_13 : decode b_FK_isMyLivingChild 13 = .ok (.iload_n 1, 1) := by decide +kernel
theorem d_FK_isMyLivingChild_14 : decode b_FK_isMyLivingChild 14 = .ok (.invokevirtual 240, 3) := by decide +kernel
theorem d_FK_isMyLivingChild_17 : decode b_FK_isMyLivingChild 17 = .ok (.aload_n 0, 1) := by decide +kernel
theorem d_FK_isMyLivingChild_18 : decode b_FK_isMyLivingChild 18 = .ok (.getfield 30, 3) := by decide +kernel
theorem d_FK_isMyLivingChild_21 : decode b_FK_isMyLivingChild 21 = .ok (.if_icmp .ne 16, 3) := by decide +kernel
theorem d_FK_isMyLivingChild_24 : decode b_FK_isMyLivingChild 24 = .ok (.iload_n 2, 1) := by decide +kernel
theorem d_FK_isMyLivingChild_25 : decode b_FK_isMyLivingChild 25 = .ok (.ifCond .eq 12, 3) := by decide +kernel
theorem d_FK_isMyLivingChild_28 : decode b_FK_isMyLivingChild 28 = .ok (.iload_n 2, 1) := by decide +kernel
theorem d_FK_isMyLivingChild_29 : decode b_FK_isMyLivingChild 29 = .ok (.iconst 5, 1) := by decide +kernel
theorem d_FK_isMyLivingChild_30 : decode b_FK_isMyLivingChild 30 = .ok (.if_icmp .eq 7, 3) := by decide +kernel
theorem d_FK_isMyLivingChild_33 : decode b_FK_isMyLivingChild 33 = .ok (.iconst 1, 1) := by decide +kernel
theorem d_FK_isMyLivingChild_34 : decode b_FK_isMyLivingChild 34 = .ok (.goto 4, 3) := by decide +kernel
theorem d_FK_isMyLivingChild_37 : decode b_FK_isMyLivingChild 37 = .ok (.iconst 0, 1) := by decide +kernel
theorem d_FK_isMyLivingChild_38 : decode b_FK_isMyLivingChild 38 = .ok (.ireturn, 1) := by decide +kernel
theorem d_FK_reap_0 : decode b_FK_reap 0 = .ok (.iload_n 1, 1) := by decide +kernel
theorem d_FK_reap_1 : decode b_FK_reap 1 = .ok (.invokestatic 42, 3) := by decide +kernel
theorem d_FK_reap_4 : decode b_FK_reap 4 = .ok (.aload_n 0, 1) := by decide +kernel
theorem d_FK_reap_5 : decode b_FK_reap 5 = .ok (.iload_n 1, 1) := by decide +kernel
theorem d_FK_reap_6 : decode b_FK_reap 6 = .ok (.iconst 5, 1) := by decide +kernel
theorem d_FK_reap_7 : decode b_FK_reap 7 = .ok (.invokevirtual 110, 3) := by decide +kernel
theorem d_FK_reap_10 : decode b_FK_reap 10 = .ok (.ifCond .ne 13, 3) := by decide +kernel
theorem d_FK_reap_13 : decode b_FK_reap 13 = .ok (.new 53, 3) := by decide +kernel
theorem d_FK_reap_16 : decode b_FK_reap 16 = .ok (.dup, 1) := by decide +kernel
theorem d_FK_reap_17 : decode b_FK_reap 17 = .ok (.ldc 138, 2) := by decide +kernel
theorem d_FK_reap_19 : decode b_FK_reap 19 = .ok (.invokespecial 57, 3) := by decide +kernel
theorem d_FK_reap_22 : decode b_FK_reap 22 = .ok (.athrow, 1) := by decide +kernel
theorem d_FK_reap_23 : decode b_FK_reap 23 = .ok (.aload_n 0, 1) := by decide +kernel
theorem d_FK_reap_24 : decode b_FK_reap 24 = .ok (.iload_n 1, 1) := by decide +kernel
theorem d_FK_reap_25 : decode b_FK_reap 25 = .ok (.invokevirtual 140, 3) := by decide +kernel
theorem d_FK_reap_28 : decode b_FK_reap 28 = .ok (.ifCond .eq 13, 3) := by decide +kernel
theorem d_FK_reap_31 : decode b_FK_reap 31 = .ok (.new 53, 3) := by decide +kernel
theorem d_FK_reap_34 : decode b_FK_reap 34 = .ok (.dup, 1) := by decide +kernel
theorem d_FK_reap_35 : decode b_FK_reap 35 = .ok (.ldc 143, 2) := by decide +kernel
theorem d_FK_reap_37 : decode b_FK_reap 37 = .ok (.invokespecial 57, 3) := by decide +kernel
theorem d_FK_reap_40 : decode b_FK_reap 40 = .ok (.athrow, 1) := by decide +kernel
theorem d_FK_reap_41 : decode b_FK_reap 41 = .ok (.aload_n 0, 1) := by decide +kernel
theorem d_FK_reap_42 : decode b_FK_reap 42 = .ok (.getfield 10, 3) := by decide +kernel
theorem d_FK_reap_45 : decode b_FK_reap 45 = .ok (.aload_n 0, 1) := by decide +kernel
theorem d_FK_reap_46 : decode b_FK_reap 46 = .ok (.getfield 19, 3) := by decide +kernel
theorem d_FK_reap_49 : decode b_FK_reap 49 = .ok (.iload_n 1, 1) := by decide +kernel
theorem d_FK_reap_50 : decode b_FK_reap 50 = .ok (.invokevirtual 145, 3) := by decide +kernel
theorem d_FK_reap_53 : decode b_FK_reap 53 = .ok (.invokevirtual 107, 3) := by decide +kernel
theorem d_FK_reap_56 : decode b_FK_reap 56 = .ok (.aload_n 0, 1) := by decide +kernel
theorem d_FK_reap_57 : decode b_FK_reap 57 = .ok (.getfield 19, 3) := by decide +kernel
theorem d_FK_reap_60 : decode b_FK_reap 60 = .ok (.iload_n 1, 1) := by decide +kernel
theorem d_FK_reap_61 : decode b_FK_reap 61 = .ok (.invokevirtual 148, 3) := by decide +kernel
theorem d_FK_reap_64 : decode b_FK_reap 64 = .ok (.aload_n 0, 1) := by decide +kernel
theorem d_FK_reap_65 : decode b_FK_reap 65 = .ok (.getfield 19, 3) := by decide +kernel
theorem d_FK_reap_68 : decode b_FK_reap 68 = .ok (.iload_n 1, 1) := by decide +kernel
theorem d_FK_reap_69 : decode b_FK_reap 69 = .ok (.iconst 1, 1) := by decide +kernel
theorem d_FK_reap_70 : decode b_FK_reap 70 = .ok (.invokevirtual 151, 3) := by decide +kernel
theorem d_FK_reap_73 : decode b_FK_reap 73 = .ok (.ireturn, 1) := by decide +kernel
theorem d_FK_holdsMoreThanRoot_0 : decode b_FK_holdsMoreThanRoot 0 = .ok (.aload_n 0, 1) := by decide +kernel
theorem d_FK_holdsMoreThanRoot_1 : decode b_FK_holdsMoreThanRoot 1 = .ok (.getfield 10, 3) := by decide +kernel
theorem d_FK_holdsMoreThanRoot_4 : decode b_FK_holdsMoreThanRoot 4 = .ok (.iload_n 1, 1) := by decide +kernel
theorem d_FK_holdsMoreThanRoot_5 : decode b_FK_holdsMoreThanRoot 5 = .ok (.invokevirtual 243, 3) := by decide +kernel
theorem d_FK_holdsMoreThanRoot_8 : decode b_FK_holdsMoreThanRoot 8 = .ok (.iconst 1, 1) := by decide +kernel
theorem d_FK_holdsMoreThanRoot_9 : decode b_FK_holdsMoreThanRoot 9 = .ok (.if_icmp .gt 32, 3) := by decide +kernel
theorem d_FK_holdsMoreThanRoot_12 : decode b_FK_holdsMoreThanRoot 12 = .ok (.aload_n 0, 1) := by decide +kernel
theorem d_FK_holdsMoreThanRoot_13 : decode b_FK_holdsMoreThanRoot 13 = .ok (.getfield 10, 3) := by decide +kernel
theorem d_FK_holdsMoreThanRoot_16 : decode b_FK_holdsMoreThanRoot 16 = .ok (.aload_n 0, 1) := by decide +kernel
theorem d_FK_holdsMoreThanRoot_17 : decode b_FK_holdsMoreThanRoot 17 = .ok (.getfield 19, 3) := by decide +kernel
theorem d_FK_holdsMoreThanRoot_20 : decode b_FK_holdsMoreThanRoot 20 = .ok (.iload_n 1, 1) := by decide +kernel
theorem d_FK_holdsMoreThanRoot_21 : decode b_FK_holdsMoreThanRoot 21 = .ok (.invokevirtual 145, 3) := by decide +kernel
theorem d_FK_holdsMoreThanRoot_24 : decode b_FK_holdsMoreThanRoot 24 = .ok (.invokevirtual 99, 3) := by decide +kernel
theorem d_FK_holdsMoreThanRoot_27 : decode b_FK_holdsMoreThanRoot 27 = .ok (.ifCond .gt 14, 3) := by decide +kernel
theorem d_FK_holdsMoreThanRoot_30 : decode b_FK_holdsMoreThanRoot 30 = .ok (.aload_n 0, 1) := by decide +kernel
theorem d_FK_holdsMoreThanRoot_31 : decode b_FK_holdsMoreThanRoot 31 = .ok (.getfield 19, 3) := by decide +kernel
theorem d_FK_holdsMoreThanRoot_34 : decode b_FK_holdsMoreThanRoot 34 = .ok (.iload_n 1, 1) := by decide +kernel
theorem d_FK_holdsMoreThanRoot_35 : decode b_FK_holdsMoreThanRoot 35 = .ok (.invokevirtual 135, 3) := by decide +kernel
theorem d_FK_holdsMoreThanRoot_38 : decode b_FK_holdsMoreThanRoot 38 = .ok (.ifCond .le 7, 3) := by decide +kernel
theorem d_FK_holdsMoreThanRoot_41 : decode b_FK_holdsMoreThanRoot 41 = .ok (.iconst 1, 1) := by decide +kernel
theorem d_FK_holdsMoreThanRoot_42 : decode b_FK_holdsMoreThanRoot 42 = .ok (.goto 4, 3) := by decide +kernel
theorem d_FK_holdsMoreThanRoot_45 : decode b_FK_holdsMoreThanRoot 45 = .ok (.iconst 0, 1) := by decide +kernel
theorem d_FK_holdsMoreThanRoot_46 : decode b_FK_holdsMoreThanRoot 46 = .ok (.ireturn, 1) := by decide +kernel
theorem d_FK_open_0 : decode b_FK_open 0 = .ok (.iload_n 1, 1) := by decide +kernel
theorem d_FK_open_1 : decode b_FK_open 1 = .ok (.invokestatic 42, 3) := by decide +kernel
theorem d_FK_open_4 : decode b_FK_open 4 = .ok (.iload_n 2, 1) := by decide +kernel
theorem d_FK_open_5 : decode b_FK_open 5 = .ok (.invokestatic 154, 3) := by decide +kernel
theorem d_FK_open_8 : decode b_FK_open 8 = .ok (.iload_n 3, 1) := by decide +kernel
theorem d_FK_open_9 : decode b_FK_open 9 = .ok (.invokestatic 157, 3) := by decide +kernel
theorem d_FK_open_12 : decode b_FK_open 12 = .ok (.aload_n 0, 1) := by decide +kernel
theorem d_FK_open_13 : decode b_FK_open 13 = .ok (.iload_n 1, 1) := by decide +kernel
theorem d_FK_open_14 : decode b_FK_open 14 = .ok (.invokevirtual 160, 3) := by decide +kernel
theorem d_FK_open_17 : decode b_FK_open 17 = .ok (.aload_n 0, 1) := by decide +kernel
theorem d_FK_open_18 : decode b_FK_open 18 = .ok (.iload_n 1, 1) := by decide +kernel
theorem d_FK_open_19 : decode b_FK_open 19 = .ok (.iload_n 2, 1) := by decide +kernel
theorem d_FK_open_20 : decode b_FK_open 20 = .ok (.invokevirtual 163, 3) := by decide +kernel
theorem d_FK_open_23 : decode b_FK_open 23 = .ok (.aload_n 0, 1) := by decide +kernel
theorem d_FK_open_24 : decode b_FK_open 24 = .ok (.getfield 19, 3) := by decide +kernel
theorem d_FK_open_27 : decode b_FK_open 27 = .ok (.iload_n 3, 1) := by decide +kernel
theorem d_FK_open_28 : decode b_FK_open 28 = .ok (.invokevirtual 166, 3) := by decide +kernel
theorem d_FK_open_31 : decode b_FK_open 31 = .ok (.ifCond .le 13, 3) := by decide +kernel
theorem d_FK_open_34 : decode b_FK_open 34 = .ok (.new 53, 3) := by decide +kernel
theorem d_FK_open_37 : decode b_FK_open 37 = .ok (.dup, 1) := by decide +kernel
theorem d_FK_open_38 : decode b_FK_open 38 = .ok (.ldc 169, 2) := by decide +kernel
theorem d_FK_open_40 : decode b_FK_open 40 = .ok (.invokespecial 57, 3) := by decide +kernel
theorem d_FK_open_43 : decode b_FK_open 43 = .ok (.athrow, 1) := by decide +kernel
theorem d_FK_open_44 : decode b_FK_open 44 = .ok (.aload_n 0, 1) := by decide +kernel
theorem d_FK_open_45 : decode b_FK_open 45 = .ok (.getfield 26, 3) := by decide +kernel
theorem d_FK_open_48 : decode b_FK_open 48 = .ok (.iload_n 3, 1) := by decide +kernel
theorem d_FK_open_49 : decode b_FK_open 49 = .ok (.invokevirtual 171, 3) := by decide +kernel
theorem d_FK_open_52 : decode b_FK_open 52 = .ok (.aload_n 0, 1) := by decide +kernel
theorem d_FK_open_53 : decode b_FK_open 53 = .ok (.iload_n 1, 1) := by decide +kernel
theorem d_FK_open_54 : decode b_FK_open 54 = .ok (.iload_n 2, 1) := by decide +kernel
theorem d_FK_open_55 : decode b_FK_open 55 = .ok (.iload_n 3, 1) := by decide +kernel
theorem d_FK_open_56 : decode b_FK_open 56 = .ok (.invokevirtual 174, 3) := by decide +kernel
theorem d_FK_open_59 : decode b_FK_open 59 = .ok (.ireturn, 1) := by decide +kernel
theorem d_FK_checkDescriptor_0 : decode b_FK_checkDescriptor 0 = .ok (.iload_n 0, 1) := by decide +kernel
theorem d_FK_checkDescriptor_1 : decode b_FK_checkDescriptor 1 = .ok (.iconst 0, 1) := by decide +kernel
theorem d_FK_checkDescriptor_2 : decode b_FK_checkDescriptor 2 = .ok (.iconst 3, 1) := by decide +kernel
theorem d_FK_checkDescriptor_3 : decode b_FK_checkDescriptor 3 = .ok (.invokestatic 237, 3) := by decide +kernel
theorem d_FK_checkDescriptor_6 : decode b_FK_checkDescriptor 6 = .ok (.return_, 1) := by decide +kernel
theorem d_FK_checkPipe_0 : decode b_FK_checkPipe 0 = .ok (.iload_n 0, 1) := by decide +kernel
theorem d_FK_checkPipe_1 : decode b_FK_checkPipe 1 = .ok (.iconst 0, 1) := by decide +kernel
theorem d_FK_checkPipe_2 : decode b_FK_checkPipe 2 = .ok (.iconst 2, 1) := by decide +kernel
theorem d_FK_checkPipe_3 : decode b_FK_checkPipe 3 = .ok (.invokestatic 237, 3) := by decide +kernel
theorem d_FK_checkPipe_6 : decode b_FK_checkPipe 6 = .ok (.return_, 1) := by decide +kernel
theorem d_FK_checkIsMine_0 : decode b_FK_checkIsMine 0 = .ok (.aload_n 0, 1) := by decide +kernel
theorem d_FK_checkIsMine_1 : decode b_FK_checkIsMine 1 = .ok (.iload_n 1, 1) := by decide +kernel
theorem d_FK_checkIsMine_2 : decode b_FK_checkIsMine 2 = .ok (.invokevirtual 264, 3) := by decide +kernel
theorem d_FK_checkIsMine_5 : decode b_FK_checkIsMine 5 = .ok (.ifCond .ne 14, 3) := by decide +kernel
theorem d_FK_checkIsMine_8 : decode b_FK_checkIsMine 8 = .ok (.new 91, 3) := by decide +kernel
theorem d_FK_checkIsMine_11 : decode b_FK_checkIsMine 11 = .ok (.dup, 1) := by decide +kernel
theorem d_FK_checkIsMine_12 : decode b_FK_checkIsMine 12 = .ok (.ldc_w 267, 3) := by decide +kernel
theorem d_FK_checkIsMine_15 : decode b_FK_checkIsMine 15 = .ok (.invokespecial 95, 3) := by decide +kernel
theorem d_FK_checkIsMine_18 : decode b_FK_checkIsMine 18 = .ok (.athrow, 1) := by decide +kernel
theorem d_FK_checkIsMine_19 : decode b_FK_checkIsMine 19 = .ok (.return_, 1) := by decide +kernel
theorem d_FK_checkDescriptorIsUnused_0 : decode b_FK_checkDescriptorIsUnused 0 = .ok (.aload_n 0, 1) := by decide +kernel
theorem d_FK_checkDescriptorIsUnused_1 : decode b_FK_checkDescriptorIsUnused 1 = .ok (.getfield 19, 3) := by decide +kernel
theorem d_FK_checkDescriptorIsUnused_4 : decode b_FK_checkDescriptorIsUnused 4 = .ok (.iload_n 1, 1) := by decide +kernel
theorem d_FK_checkDescriptorIsUnused_5 : decode b_FK_checkDescriptorIsUnused 5 = .ok (.iload_n 2, 1) := by decide +kernel
theorem d_FK_checkDescriptorIsUnused_6 : decode b_FK_checkDescriptorIsUnused 6 = .ok (.invokevirtual 273, 3) := by decide +kernel
theorem d_FK_checkDescriptorIsUnused_9 : decode b_FK_checkDescriptorIsUnused 9 = .ok (.iconst (-1), 1) := by decide +kernel
theorem d_FK_checkDescriptorIsUnused_10 : decode b_FK_checkDescriptorIsUnused 10 = .ok (.if_icmp .eq 14, 3) := by decide +kernel
theorem d_FK_checkDescriptorIsUnused_13 : decode b_FK_checkDescriptorIsUnused 13 = .ok (.new 53, 3) := by decide +kernel
theorem d_FK_checkDescriptorIsUnused_16 : decode b_FK_checkDescriptorIsUnused 16 = .ok (.dup, 1) := by decide +kernel
theorem d_FK_checkDescriptorIsUnused_17 : decode b_FK_checkDescriptorIsUnused 17 = .ok (.ldc_w 276, 3) := by decide +kernel
theorem d_FK_checkDescriptorIsUnused_20 : decode b_FK_checkDescriptorIsUnused 20 = .ok (.invokespecial 57, 3) := by decide +kernel
theorem d_FK_checkDescriptorIsUnused_23 : decode b_FK_checkDescriptorIsUnused 23 = .ok (.athrow, 1) := by decide +kernel
theorem d_FK_checkDescriptorIsUnused_24 : decode b_FK_checkDescriptorIsUnused 24 = .ok (.return_, 1) := by decide +kernel
theorem d_FK_connect_0 : decode b_FK_connect 0 = .ok (.aload_n 0, 1) := by decide +kernel
theorem d_FK_connect_1 : decode b_FK_connect 1 = .ok (.getfield 19, 3) := by decide +kernel
theorem d_FK_connect_4 : decode b_FK_connect 4 = .ok (.iload_n 1, 1) := by decide +kernel
theorem d_FK_connect_5 : decode b_FK_connect 5 = .ok (.iload_n 2, 1) := by decide +kernel
theorem d_FK_connect_6 : decode b_FK_connect 6 = .ok (.iload_n 3, 1) := by decide +kernel
theorem d_FK_connect_7 : decode b_FK_connect 7 = .ok (.invokevirtual 181, 3) := by decide +kernel
theorem d_FK_connect_10 : decode b_FK_connect 10 = .ok (.aload_n 0, 1) := by decide +kernel
theorem d_FK_connect_11 : decode b_FK_connect 11 = .ok (.getfield 19, 3) := by decide +kernel
theorem d_FK_connect_14 : decode b_FK_connect 14 = .ok (.iload_n 3, 1) := by decide +kernel
theorem d_FK_connect_15 : decode b_FK_connect 15 = .ok (.invokevirtual 166, 3) := by decide +kernel
theorem d_FK_connect_18 : decode b_FK_connect 18 = .ok (.ireturn, 1) := by decide +kernel
theorem d_FK_share_0 : decode b_FK_share 0 = .ok (.iload_n 1, 1) := by decide +kernel
theorem d_FK_share_1 : decode b_FK_share 1 = .ok (.invokestatic 154, 3) := by decide +kernel
theorem d_FK_share_4 : decode b_FK_share 4 = .ok (.iload_n 2, 1) := by decide +kernel
theorem d_FK_share_5 : decode b_FK_share 5 = .ok (.invokestatic 42, 3) := by decide +kernel
theorem d_FK_share_8 : decode b_FK_share 8 = .ok (.iload_n 3, 1) := by decide +kernel
theorem d_FK_share_9 : decode b_FK_share 9 = .ok (.invokestatic 154, 3) := by decide +kernel
theorem d_FK_share_12 : decode b_FK_share 12 = .ok (.aload_n 0, 1) := by decide +kernel
theorem d_FK_share_13 : decode b_FK_share 13 = .ok (.iload_n 2, 1) := by decide +kernel
theorem d_FK_share_14 : decode b_FK_share 14 = .ok (.invokevirtual 160, 3) := by decide +kernel
theorem d_FK_share_17 : decode b_FK_share 17 = .ok (.aload_n 0, 1) := by decide +kernel
theorem d_FK_share_18 : decode b_FK_share 18 = .ok (.aload_n 0, 1) := by decide +kernel
theorem d_FK_share_19 : decode b_FK_share 19 = .ok (.getfield 30, 3) := by decide +kernel
theorem d_FK_share_22 : decode b_FK_share 22 = .ok (.iload_n 1, 1) := by decide +kernel
theorem d_FK_share_23 : decode b_FK_share 23 = .ok (.invokevirtual 178, 3) := by decide +kernel
theorem d_FK_share_26 : decode b_FK_share 26 = .ok (.istore 4, 2) := by decide +kernel
theorem d_FK_share_28 : decode b_FK_share 28 = .ok (.aload_n 0, 1) := by decide +kernel
theorem d_FK_share_29 : decode b_FK_share 29 = .ok (.iload_n 2, 1) := by decide +kernel
theorem d_FK_share_30 : decode b_FK_share 30 = .ok (.iload_n 3, 1) := by decide +kernel
theorem d_FK_share_31 : decode b_FK_share 31 = .ok (.invokevirtual 163, 3) := by decide +kernel
theorem d_FK_share_34 : decode b_FK_share 34 = .ok (.aload_n 0, 1) := by decide +kernel
theorem d_FK_share_35 : decode b_FK_share 35 = .ok (.iload_n 2, 1) := by decide +kernel
theorem d_FK_share_36 : decode b_FK_share 36 = .ok (.iload_n 3, 1) := by decide +kernel
theorem d_FK_share_37 : decode b_FK_share 37 = .ok (.iload 4, 2) := by decide +kernel
theorem d_FK_share_39 : decode b_FK_share 39 = .ok (.invokevirtual 174, 3) := by decide +kernel
theorem d_FK_share_42 : decode b_FK_share 42 = .ok (.ireturn, 1) := by decide +kernel
theorem d_FK_pipeBehind_0 : decode b_FK_pipeBehind 0 = .ok (.aload_n 0, 1) := by decide +kernel
theorem d_FK_pipeBehind_1 : decode b_FK_pipeBehind 1 = .ok (.getfield 19, 3) := by decide +kernel
theorem d_FK_pipeBehind_4 : decode b_FK_pipeBehind 4 = .ok (.iload_n 1, 1) := by decide +kernel
theorem d_FK_pipeBehind_5 : decode b_FK_pipeBehind 5 = .ok (.iload_n 2, 1) := by decide +kernel
theorem d_FK_pipeBehind_6 : decode b_FK_pipeBehind 6 = .ok (.invokevirtual 273, 3) := by decide +kernel
theorem d_FK_pipeBehind_9 : decode b_FK_pipeBehind 9 = .ok (.istore_n 3, 1) := by decide +kernel
theorem d_FK_pipeBehind_10 : decode b_FK_pipeBehind 10 = .ok (.iload_n 3, 1) := by decide +kernel
theorem d_FK_pipeBehind_11 : decode b_FK_pipeBehind 11 = .ok (.iconst (-1), 1) := by decide +kernel
theorem d_FK_pipeBehind_12 : decode b_FK_pipeBehind 12 = .ok (.if_icmp .ne 14, 3) := by decide +kernel
theorem d_FK_pipeBehind_15 : decode b_FK_pipeBehind 15 = .ok (.new 280, 3) := by decide +kernel
theorem d_FK_pipeBehind_18 : decode b_FK_pipeBehind 18 = .ok (.dup, 1) := by decide +kernel
theorem d_FK_pipeBehind_19 : decode b_FK_pipeBehind 19 = .ok (.ldc_w 298, 3) := by decide +kernel
theorem d_FK_pipeBehind_22 : decode b_FK_pipeBehind 22 = .ok (.invokespecial 284, 3) := by decide +kernel
theorem d_FK_pipeBehind_25 : decode b_FK_pipeBehind 25 = .ok (.athrow, 1) := by decide +kernel
theorem d_FK_pipeBehind_26 : decode b_FK_pipeBehind 26 = .ok (.iload_n 3, 1) := by decide +kernel
theorem d_FK_pipeBehind_27 : decode b_FK_pipeBehind 27 = .ok (.ireturn, 1) := by decide +kernel
theorem d_FK_close_0 : decode b_FK_close 0 = .ok (.iload_n 1, 1) := by decide +kernel
theorem d_FK_close_1 : decode b_FK_close 1 = .ok (.invokestatic 42, 3) := by decide +kernel
theorem d_FK_close_4 : decode b_FK_close 4 = .ok (.iload_n 2, 1) := by decide +kernel
theorem d_FK_close_5 : decode b_FK_close 5 = .ok (.invokestatic 154, 3) := by decide +kernel
theorem d_FK_close_8 : decode b_FK_close 8 = .ok (.aload_n 0, 1) := by decide +kernel
theorem d_FK_close_9 : decode b_FK_close 9 = .ok (.iload_n 1, 1) := by decide +kernel
theorem d_FK_close_10 : decode b_FK_close 10 = .ok (.invokevirtual 160, 3) := by decide +kernel
theorem d_FK_close_13 : decode b_FK_close 13 = .ok (.aload_n 0, 1) := by decide +kernel
theorem d_FK_close_14 : decode b_FK_close 14 = .ok (.iload_n 1, 1) := by decide +kernel
theorem d_FK_close_15 : decode b_FK_close 15 = .ok (.iload_n 2, 1) := by decide +kernel
theorem d_FK_close_16 : decode b_FK_close 16 = .ok (.invokevirtual 178, 3) := by decide +kernel
theorem d_FK_close_19 : decode b_FK_close 19 = .ok (.istore_n 3, 1) := by decide +kernel
theorem d_FK_close_20 : decode b_FK_close 20 = .ok (.aload_n 0, 1) := by decide +kernel
theorem d_FK_close_21 : decode b_FK_close 21 = .ok (.getfield 19, 3) := by decide +kernel
theorem d_FK_close_24 : decode b_FK_close 24 = .ok (.iload_n 1, 1) := by decide +kernel
theorem d_FK_close_25 : decode b_FK_close 25 = .ok (.iload_n 2, 1) := by decide +kernel
theorem d_FK_close_26 : decode b_FK_close 26 = .ok (.iconst (-1), 1) := by decide +kernel
theorem d_FK_close_27 : decode b_FK_close 27 = .ok (.invokevirtual 181, 3) := by decide +kernel
theorem d_FK_close_30 : decode b_FK_close 30 = .ok (.aload_n 0, 1) := by decide +kernel
theorem d_FK_close_31 : decode b_FK_close 31 = .ok (.getfield 19, 3) := by decide +kernel
theorem d_FK_close_34 : decode b_FK_close 34 = .ok (.iload_n 3, 1) := by decide +kernel
theorem d_FK_close_35 : decode b_FK_close 35 = .ok (.invokevirtual 166, 3) := by decide +kernel
theorem d_FK_close_38 : decode b_FK_close 38 = .ok (.ireturn, 1) := by decide +kernel
theorem d_FK_put_0 : decode b_FK_put 0 = .ok (.iload_n 1, 1) := by decide +kernel
theorem d_FK_put_1 : decode b_FK_put 1 = .ok (.invokestatic 154, 3) := by decide +kernel
theorem d_FK_put_4 : decode b_FK_put 4 = .ok (.iload_n 2, 1) := by decide +kernel
theorem d_FK_put_5 : decode b_FK_put 5 = .ok (.invokestatic 184, 3) := by decide +kernel
theorem d_FK_put_8 : decode b_FK_put 8 = .ok (.aload_n 0, 1) := by decide +kernel
theorem d_FK_put_9 : decode b_FK_put 9 = .ok (.aload_n 0, 1) := by decide +kernel
theorem d_FK_put_10 : decode b_FK_put 10 = .ok (.getfield 30, 3) := by decide +kernel
theorem d_FK_put_13 : decode b_FK_put 13 = .ok (.iload_n 1, 1) := by decide +kernel
theorem d_FK_put_14 : decode b_FK_put 14 = .ok (.invokevirtual 178, 3) := by decide +kernel
theorem d_FK_put_17 : decode b_FK_put 17 = .ok (.istore_n 3, 1) := by decide +kernel
theorem d_FK_put_18 : decode b_FK_put 18 = .ok (.aload_n 0, 1) := by decide +kernel
theorem d_FK_put_19 : decode b_FK_put 19 = .ok (.iload_n 2, 1) := by decide +kernel
theorem d_FK_put_20 : decode b_FK_put 20 = .ok (.iconst 1, 1) := by decide +kernel
theorem d_FK_put_21 : decode b_FK_put 21 = .ok (.invokevirtual 187, 3) := by decide +kernel
theorem d_FK_put_24 : decode b_FK_put 24 = .ok (.istore 4, 2) := by decide +kernel
theorem d_FK_put_26 : decode b_FK_put 26 = .ok (.aload_n 0, 1) := by decide +kernel
theorem d_FK_put_27 : decode b_FK_put 27 = .ok (.getfield 26, 3) := by decide +kernel
theorem d_FK_put_30 : decode b_FK_put 30 = .ok (.iload_n 3, 1) := by decide +kernel
theorem d_FK_put_31 : decode b_FK_put 31 = .ok (.invokevirtual 190, 3) := by decide +kernel
theorem d_FK_put_34 : decode b_FK_put 34 = .ok (.iconst 4, 1) := by decide +kernel
theorem d_FK_put_35 : decode b_FK_put 35 = .ok (.if_icmp .ne 13, 3) := by decide +kernel
theorem d_FK_put_38 : decode b_FK_put 38 = .ok (.new 53, 3) := by decide +kernel
theorem d_FK_put_41 : decode b_FK_put 41 = .ok (.dup, 1) := by decide +kernel
theorem d_FK_put_42 : decode b_FK_put 42 = .ok (.ldc 193, 2) := by decide +kernel
theorem d_FK_put_44 : decode b_FK_put 44 = .ok (.invokespecial 57, 3) := by decide +kernel
theorem d_FK_put_47 : decode b_FK_put 47 = .ok (.athrow, 1) := by decide +kernel
theorem d_FK_put_48 : decode b_FK_put 48 = .ok (.aload_n 0, 1) := by decide +kernel
theorem d_FK_put_49 : decode b_FK_put 49 = .ok (.getfield 26, 3) := by decide +kernel
theorem d_FK_put_52 : decode b_FK_put 52 = .ok (.iload_n 3, 1) := by decide +kernel
theorem d_FK_put_53 : decode b_FK_put 53 = .ok (.aload_n 0, 1) := by decide +kernel
theorem d_FK_put_54 : decode b_FK_put 54 = .ok (.getfield 10, 3) := by decide +kernel
theorem d_FK_put_57 : decode b_FK_put 57 = .ok (.iload 4, 2) := by decide +kernel
theorem d_FK_put_59 : decode b_FK_put 59 = .ok (.iload_n 2, 1) := by decide +kernel
theorem d_FK_put_60 : decode b_FK_put 60 = .ok (.invokestatic 195, 3) := by decide +kernel
theorem d_FK_put_63 : decode b_FK_put 63 = .ok (.invokevirtual 198, 3) := by decide +kernel
theorem d_FK_put_66 : decode b_FK_put 66 = .ok (.invokevirtual 201, 3) := by decide +kernel
theorem d_FK_put_69 : decode b_FK_put 69 = .ok (.aload_n 0, 1) := by decide +kernel
theorem d_FK_put_70 : decode b_FK_put 70 = .ok (.getfield 26, 3) := by decide +kernel
theorem d_FK_put_73 : decode b_FK_put 73 = .ok (.iload_n 3, 1) := by decide +kernel
theorem d_FK_put_74 : decode b_FK_put 74 = .ok (.invokevirtual 190, 3) := by decide +kernel
theorem d_FK_put_77 : decode b_FK_put 77 = .ok (.ireturn, 1) := by decide +kernel
theorem d_FK_checkAddress_0 : decode b_FK_checkAddress 0 = .ok (.iload_n 0, 1) := by decide +kernel
theorem d_FK_checkAddress_1 : decode b_FK_checkAddress 1 = .ok (.iconst 0, 1) := by decide +kernel
theorem d_FK_checkAddress_2 : decode b_FK_checkAddress 2 = .ok (.bipush 63, 2) := by decide +kernel
theorem d_FK_checkAddress_4 : decode b_FK_checkAddress 4 = .ok (.invokestatic 237, 3) := by decide +kernel
theorem d_FK_checkAddress_7 : decode b_FK_checkAddress 7 = .ok (.return_, 1) := by decide +kernel
theorem d_FK_frameWithRight_0 : decode b_FK_frameWithRight 0 = .ok (.aload_n 0, 1) := by decide +kernel
theorem d_FK_frameWithRight_1 : decode b_FK_frameWithRight 1 = .ok (.iload_n 1, 1) := by decide +kernel
theorem d_FK_frameWithRight_2 : decode b_FK_frameWithRight 2 = .ok (.invokevirtual 225, 3) := by decide +kernel
theorem d_FK_frameWithRight_5 : decode b_FK_frameWithRight 5 = .ok (.istore_n 3, 1) := by decide +kernel
theorem d_FK_frameWithRight_6 : decode b_FK_frameWithRight 6 = .ok (.aload_n 0, 1) := by decide +kernel
theorem d_FK_frameWithRight_7 : decode b_FK_frameWithRight 7 = .ok (.getfield 10, 3) := by decide +kernel
theorem d_FK_frameWithRight_10 : decode b_FK_frameWithRight 10 = .ok (.aload_n 0, 1) := by decide +kernel
theorem d_FK_frameWithRight_11 : decode b_FK_frameWithRight 11 = .ok (.getfield 19, 3) := by decide +kernel
theorem d_FK_frameWithRight_14 : decode b_FK_frameWithRight 14 = .ok (.aload_n 0, 1) := by decide +kernel
theorem d_FK_frameWithRight_15 : decode b_FK_frameWithRight 15 = .ok (.getfield 30, 3) := by decide +kernel
theorem d_FK_frameWithRight_18 : decode b_FK_frameWithRight 18 = .ok (.invokevirtual 145, 3) := by decide +kernel
theorem d_FK_frameWithRight_21 : decode b_FK_frameWithRight 21 = .ok (.iload_n 1, 1) := by decide +kernel
theorem d_FK_frameWithRight_22 : decode b_FK_frameWithRight 22 = .ok (.invokestatic 289, 3) := by decide +kernel
theorem d_FK_frameWithRight_25 : decode b_FK_frameWithRight 25 = .ok (.invokevirtual 77, 3) := by decide +kernel
theorem d_FK_frameWithRight_28 : decode b_FK_frameWithRight 28 = .ok (.istore 4, 2) := by decide +kernel
theorem d_FK_frameWithRight_30 : decode b_FK_frameWithRight 30 = .ok (.aload_n 0, 1) := by decide +kernel
theorem d_FK_frameWithRight_31 : decode b_FK_frameWithRight 31 = .ok (.getfield 10, 3) := by decide +kernel
theorem d_FK_frameWithRight_34 : decode b_FK_frameWithRight 34 = .ok (.aload_n 0, 1) := by decide +kernel
theorem d_FK_frameWithRight_35 : decode b_FK_frameWithRight 35 = .ok (.iload_n 1, 1) := by decide +kernel
theorem d_FK_frameWithRight_36 : decode b_FK_frameWithRight 36 = .ok (.invokevirtual 212, 3) := by decide +kernel
theorem d_FK_frameWithRight_39 : decode b_FK_frameWithRight 39 = .ok (.iload_n 1, 1) := by decide +kernel
theorem d_FK_frameWithRight_40 : decode b_FK_frameWithRight 40 = .ok (.invokestatic 215, 3) := by decide +kernel
theorem d_FK_frameWithRight_43 : decode b_FK_frameWithRight 43 = .ok (.invokevirtual 77, 3) := by decide +kernel
theorem d_FK_frameWithRight_46 : decode b_FK_frameWithRight 46 = .ok (.istore 5, 2) := by decide +kernel
theorem d_FK_frameWithRight_48 : decode b_FK_frameWithRight 48 = .ok (.iload 4, 2) := by decide +kernel
theorem d_FK_frameWithRight_50 : decode b_FK_frameWithRight 50 = .ok (.iload 5, 2) := by decide +kernel
theorem d_FK_frameWithRight_52 : decode b_FK_frameWithRight 52 = .ok (.iand, 1) := by decide +kernel
theorem d_FK_frameWithRight_53 : decode b_FK_frameWithRight 53 = .ok (.iload_n 2, 1) := by decide +kernel
theorem d_FK_frameWithRight_54 : decode b_FK_frameWithRight 54 = .ok (.iand, 1) := by decide +kernel
theorem d_FK_frameWithRight_55 : decode b_FK_frameWithRight 55 = .ok (.ifCond .ne 14, 3) := by decide +kernel
theorem d_FK_frameWithRight_58 : decode b_FK_frameWithRight 58 = .ok (.new 91, 3) := by decide +kernel
theorem d_FK_frameWithRight_61 : decode b_FK_frameWithRight 61 = .ok (.dup, 1) := by decide +kernel
theorem d_FK_frameWithRight_62 : decode b_FK_frameWithRight 62 = .ok (.ldc_w 296, 3) := by decide +kernel
theorem d_FK_frameWithRight_65 : decode b_FK_frameWithRight 65 = .ok (.invokespecial 95, 3) := by decide +kernel
theorem d_FK_frameWithRight_68 : decode b_FK_frameWithRight 68 = .ok (.athrow, 1) := by decide +kernel
theorem d_FK_frameWithRight_69 : decode b_FK_frameWithRight 69 = .ok (.iload_n 3, 1) := by decide +kernel
theorem d_FK_frameWithRight_70 : decode b_FK_frameWithRight 70 = .ok (.ireturn, 1) := by decide +kernel
theorem d_FK_frameAt_0 : decode b_FK_frameAt 0 = .ok (.aload_n 0, 1) := by decide +kernel
theorem d_FK_frameAt_1 : decode b_FK_frameAt 1 = .ok (.getfield 10, 3) := by decide +kernel
theorem d_FK_frameAt_4 : decode b_FK_frameAt 4 = .ok (.aload_n 0, 1) := by decide +kernel
theorem d_FK_frameAt_5 : decode b_FK_frameAt 5 = .ok (.iload_n 1, 1) := by decide +kernel
theorem d_FK_frameAt_6 : decode b_FK_frameAt 6 = .ok (.invokevirtual 212, 3) := by decide +kernel
theorem d_FK_frameAt_9 : decode b_FK_frameAt 9 = .ok (.iload_n 1, 1) := by decide +kernel
theorem d_FK_frameAt_10 : decode b_FK_frameAt 10 = .ok (.invokestatic 215, 3) := by decide +kernel
theorem d_FK_frameAt_13 : decode b_FK_frameAt 13 = .ok (.invokevirtual 81, 3) := by decide +kernel
theorem d_FK_frameAt_16 : decode b_FK_frameAt 16 = .ok (.istore_n 2, 1) := by decide +kernel
theorem d_FK_frameAt_17 : decode b_FK_frameAt 17 = .ok (.iload_n 2, 1) := by decide +kernel
theorem d_FK_frameAt_18 : decode b_FK_frameAt 18 = .ok (.iconst (-1), 1) := by decide +kernel
theorem d_FK_frameAt_19 : decode b_FK_frameAt 19 = .ok (.if_icmp .ne 14, 3) := by decide +kernel
theorem d_FK_frameAt_22 : decode b_FK_frameAt 22 = .ok (.new 280, 3) := by decide +kernel
theorem d_FK_frameAt_25 : decode b_FK_frameAt 25 = .ok (.dup, 1) := by decide +kernel
theorem d_FK_frameAt_26 : decode b_FK_frameAt 26 = .ok (.ldc_w 294, 3) := by decide +kernel
theorem d_FK_frameAt_29 : decode b_FK_frameAt 29 = .ok (.invokespecial 284, 3) := by decide +kernel
theorem d_FK_frameAt_32 : decode b_FK_frameAt 32 = .ok (.athrow, 1) := by decide +kernel
theorem d_FK_frameAt_33 : decode b_FK_frameAt 33 = .ok (.iload_n 2, 1) := by decide +kernel
theorem d_FK_frameAt_34 : decode b_FK_frameAt 34 = .ok (.ireturn, 1) := by decide +kernel
theorem d_FK_tableAt_0 : decode b_FK_tableAt 0 = .ok (.aload_n 0, 1) := by decide +kernel
theorem d_FK_tableAt_1 : decode b_FK_tableAt 1 = .ok (.getfield 10, 3) := by decide +kernel
theorem d_FK_tableAt_4 : decode b_FK_tableAt 4 = .ok (.aload_n 0, 1) := by decide +kernel
theorem d_FK_tableAt_5 : decode b_FK_tableAt 5 = .ok (.getfield 19, 3) := by decide +kernel
theorem d_FK_tableAt_8 : decode b_FK_tableAt 8 = .ok (.aload_n 0, 1) := by decide +kernel
theorem d_FK_tableAt_9 : decode b_FK_tableAt 9 = .ok (.getfield 30, 3) := by decide +kernel
theorem d_FK_tableAt_12 : decode b_FK_tableAt 12 = .ok (.invokevirtual 145, 3) := by decide +kernel
theorem d_FK_tableAt_15 : decode b_FK_tableAt 15 = .ok (.iload_n 1, 1) := by decide +kernel
theorem d_FK_tableAt_16 : decode b_FK_tableAt 16 = .ok (.invokestatic 289, 3) := by decide +kernel
theorem d_FK_tableAt_19 : decode b_FK_tableAt 19 = .ok (.invokevirtual 81, 3) := by decide +kernel
theorem d_FK_tableAt_22 : decode b_FK_tableAt 22 = .ok (.istore_n 2, 1) := by decide +kernel
theorem d_FK_tableAt_23 : decode b_FK_tableAt 23 = .ok (.iload_n 2, 1) := by decide +kernel
theorem d_FK_tableAt_24 : decode b_FK_tableAt 24 = .ok (.iconst (-1), 1) := by decide +kernel
theorem d_FK_tableAt_25 : decode b_FK_tableAt 25 = .ok (.if_icmp .ne 14, 3) := by decide +kernel
theorem d_FK_tableAt_28 : decode b_FK_tableAt 28 = .ok (.new 280, 3) := by decide +kernel
theorem d_FK_tableAt_31 : decode b_FK_tableAt 31 = .ok (.dup, 1) := by decide +kernel
theorem d_FK_tableAt_32 : decode b_FK_tableAt 32 = .ok (.ldc_w 292, 3) := by decide +kernel
theorem d_FK_tableAt_35 : decode b_FK_tableAt 35 = .ok (.invokespecial 284, 3) := by decide +kernel
theorem d_FK_tableAt_38 : decode b_FK_tableAt 38 = .ok (.athrow, 1) := by decide +kernel
theorem d_FK_tableAt_39 : decode b_FK_tableAt 39 = .ok (.iload_n 2, 1) := by decide +kernel
theorem d_FK_tableAt_40 : decode b_FK_tableAt 40 = .ok (.ireturn, 1) := by decide +kernel
theorem d_FK_tableEntryOf_0 : decode b_FK_tableEntryOf 0 = .ok (.iload_n 0, 1) := by decide +kernel
theorem d_FK_tableEntryOf_1 : decode b_FK_tableEntryOf 1 = .ok (.bipush 16, 2) := by decide +kernel
theorem d_FK_tableEntryOf_3 : decode b_FK_tableEntryOf 3 = .ok (.idiv, 1) := by decide +kernel
theorem d_FK_tableEntryOf_4 : decode b_FK_tableEntryOf 4 = .ok (.ireturn, 1) := by decide +kernel
theorem d_FK_frameEntryOf_0 : decode b_FK_frameEntryOf 0 = .ok (.iload_n 0, 1) := by decide +kernel
theorem d_FK_frameEntryOf_1 : decode b_FK_frameEntryOf 1 = .ok (.iconst 4, 1) := by decide +kernel
theorem d_FK_frameEntryOf_2 : decode b_FK_frameEntryOf 2 = .ok (.idiv, 1) := by decide +kernel
theorem d_FK_frameEntryOf_3 : decode b_FK_frameEntryOf 3 = .ok (.iconst 4, 1) := by decide +kernel
theorem d_FK_frameEntryOf_4 : decode b_FK_frameEntryOf 4 = .ok (.irem, 1) := by decide +kernel
theorem d_FK_frameEntryOf_5 : decode b_FK_frameEntryOf 5 = .ok (.ireturn, 1) := by decide +kernel
theorem d_FK_wordOf_0 : decode b_FK_wordOf 0 = .ok (.iload_n 0, 1) := by decide +kernel
theorem d_FK_wordOf_1 : decode b_FK_wordOf 1 = .ok (.iconst 4, 1) := by decide +kernel
theorem d_FK_wordOf_2 : decode b_FK_wordOf 2 = .ok (.irem, 1) := by decide +kernel
theorem d_FK_wordOf_3 : decode b_FK_wordOf 3 = .ok (.ireturn, 1) := by decide +kernel
theorem d_FK_take_0 : decode b_FK_take 0 = .ok (.iload_n 1, 1) := by decide +kernel
theorem d_FK_take_1 : decode b_FK_take 1 = .ok (.invokestatic 154, 3) := by decide +kernel
theorem d_FK_take_4 : decode b_FK_take 4 = .ok (.iload_n 2, 1) := by decide +kernel
theorem d_FK_take_5 : decode b_FK_take 5 = .ok (.invokestatic 184, 3) := by decide +kernel
theorem d_FK_take_8 : decode b_FK_take 8 = .ok (.aload_n 0, 1) := by decide +kernel
theorem d_FK_take_9 : decode b_FK_take 9 = .ok (.aload_n 0, 1) := by decide +kernel
theorem d_FK_take_10 : decode b_FK_take 10 = .ok (.getfield 30, 3) := by decide +kernel
theorem d_FK_take_13 : decode b_FK_take 13 = .ok (.iload_n 1, 1) := by decide +kernel
theorem d_FK_take_14 : decode b_FK_take 14 = .ok (.invokevirtual 178, 3) := by decide +kernel
theorem d_FK_take_17 : decode b_FK_take 17 = .ok (.istore_n 3, 1) := by decide +kernel
theorem d_FK_take_18 : decode b_FK_take 18 = .ok (.aload_n 0, 1) := by decide +kernel
theorem d_FK_take_19 : decode b_FK_take 19 = .ok (.iload_n 2, 1) := by decide +kernel
theorem d_FK_take_20 : decode b_FK_take 20 = .ok (.iconst 2, 1) := by decide +kernel
theorem d_FK_take_21 : decode b_FK_take 21 = .ok (.invokevirtual 187, 3) := by decide +kernel
theorem d_FK_take_24 : decode b_FK_take 24 = .ok (.istore 4, 2) := by decide +kernel
theorem d_FK_take_26 : decode b_FK_take 26 = .ok (.aload_n 0, 1) := by decide +kernel
theorem d_FK_take_27 : decode b_FK_take 27 = .ok (.getfield 26, 3) := by decide +kernel
theorem d_FK_take_30 : decode b_FK_take 30 = .ok (.iload_n 3, 1) := by decide +kernel
theorem d_FK_take_31 : decode b_FK_take 31 = .ok (.invokevirtual 190, 3) := by decide +kernel
theorem d_FK_take_34 : decode b_FK_take 34 = .ok (.ifCond .ne 13, 3) := by decide +kernel
theorem d_FK_take_37 : decode b_FK_take 37 = .ok (.new 53, 3) := by decide +kernel
theorem d_FK_take_40 : decode b_FK_take 40 = .ok (.dup, 1) := by decide +kernel
theorem d_FK_take_41 : decode b_FK_take 41 = .ok (.ldc 204, 2) := by decide +kernel
theorem d_FK_take_43 : decode b_FK_take 43 = .ok (.invokespecial 57, 3) := by decide +kernel
theorem d_FK_take_46 : decode b_FK_take 46 = .ok (.athrow, 1) := by decide +kernel
theorem d_FK_take_47 : decode b_FK_take 47 = .ok (.aload_n 0, 1) := by decide +kernel
theorem d_FK_take_48 : decode b_FK_take 48 = .ok (.getfield 26, 3) := by decide +kernel
theorem d_FK_take_51 : decode b_FK_take 51 = .ok (.iload_n 3, 1) := by decide +kernel
theorem d_FK_take_52 : decode b_FK_take 52 = .ok (.invokevirtual 206, 3) := by decide +kernel
theorem d_FK_take_55 : decode b_FK_take 55 = .ok (.istore 5, 2) := by decide +kernel
theorem d_FK_take_57 : decode b_FK_take 57 = .ok (.aload_n 0, 1) := by decide +kernel
theorem d_FK_take_58 : decode b_FK_take 58 = .ok (.getfield 10, 3) := by decide +kernel
theorem d_FK_take_61 : decode b_FK_take 61 = .ok (.iload 4, 2) := by decide +kernel
theorem d_FK_take_63 : decode b_FK_take 63 = .ok (.iload_n 2, 1) := by decide +kernel
theorem d_FK_take_64 : decode b_FK_take 64 = .ok (.invokestatic 195, 3) := by decide +kernel
theorem d_FK_take_67 : decode b_FK_take 67 = .ok (.iload 5, 2) := by decide +kernel
theorem d_FK_take_69 : decode b_FK_take 69 = .ok (.invokevirtual 209, 3) := by decide +kernel
theorem d_FK_take_72 : decode b_FK_take 72 = .ok (.iload 5, 2) := by decide +kernel
theorem d_FK_take_74 : decode b_FK_take 74 = .ok (.ireturn, 1) := by decide +kernel
theorem d_FK_read_0 : decode b_FK_read 0 = .ok (.iload_n 1, 1) := by decide +kernel
theorem d_FK_read_1 : decode b_FK_read 1 = .ok (.invokestatic 184, 3) := by decide +kernel
theorem d_FK_read_4 : decode b_FK_read 4 = .ok (.aload_n 0, 1) := by decide +kernel
theorem d_FK_read_5 : decode b_FK_read 5 = .ok (.iload_n 1, 1) := by decide +kernel
theorem d_FK_read_6 : decode b_FK_read 6 = .ok (.iconst 1, 1) := by decide +kernel
theorem d_FK_read_7 : decode b_FK_read 7 = .ok (.invokevirtual 187, 3) := by decide +kernel
theorem d_FK_read_10 : decode b_FK_read 10 = .ok (.istore_n 2, 1) := by decide +kernel
theorem d_FK_read_11 : decode b_FK_read 11 = .ok (.aload_n 0, 1) := by decide +kernel
theorem d_FK_read_12 : decode b_FK_read 12 = .ok (.getfield 10, 3) := by decide +kernel
theorem d_FK_read_15 : decode b_FK_read 15 = .ok (.iload_n 2, 1) := by decide +kernel
theorem d_FK_read_16 : decode b_FK_read 16 = .ok (.iload_n 1, 1) := by decide +kernel
theorem d_FK_read_17 : decode b_FK_read 17 = .ok (.invokestatic 195, 3) := by decide +kernel
theorem d_FK_read_20 : decode b_FK_read 20 = .ok (.invokevirtual 198, 3) := by decide +kernel
theorem d_FK_read_23 : decode b_FK_read 23 = .ok (.ireturn, 1) := by decide +kernel
theorem d_FK_write_0 : decode b_FK_write 0 = .ok (.iload_n 1, 1) := by decide +kernel
theorem d_FK_write_1 : decode b_FK_write 1 = .ok (.invokestatic 184, 3) := by decide +kernel
theorem d_FK_write_4 : decode b_FK_write 4 = .ok (.aload_n 0, 1) := by decide +kernel
theorem d_FK_write_5 : decode b_FK_write 5 = .ok (.iload_n 1, 1) := by decide +kernel
theorem d_FK_write_6 : decode b_FK_write 6 = .ok (.iconst 2, 1) := by decide +kernel
theorem d_FK_write_7 : decode b_FK_write 7 = .ok (.invokevirtual 187, 3) := by decide +kernel
theorem d_FK_write_10 : decode b_FK_write 10 = .ok (.istore_n 3, 1) := by decide +kernel
theorem d_FK_write_11 : decode b_FK_write 11 = .ok (.aload_n 0, 1) := by decide +kernel
theorem d_FK_write_12 : decode b_FK_write 12 = .ok (.getfield 10, 3) := by decide +kernel
theorem d_FK_write_15 : decode b_FK_write 15 = .ok (.iload_n 3, 1) := by decide +kernel
theorem d_FK_write_16 : decode b_FK_write 16 = .ok (.iload_n 1, 1) := by decide +kernel
theorem d_FK_write_17 : decode b_FK_write 17 = .ok (.invokestatic 195, 3) := by decide +kernel
theorem d_FK_write_20 : decode b_FK_write 20 = .ok (.invokevirtual 198, 3) := by decide +kernel
theorem d_FK_write_23 : decode b_FK_write 23 = .ok (.istore 4, 2) := by decide +kernel
theorem d_FK_write_25 : decode b_FK_write 25 = .ok (.aload_n 0, 1) := by decide +kernel
theorem d_FK_write_26 : decode b_FK_write 26 = .ok (.getfield 10, 3) := by decide +kernel
theorem d_FK_write_29 : decode b_FK_write 29 = .ok (.iload_n 3, 1) := by decide +kernel
theorem d_FK_write_30 : decode b_FK_write 30 = .ok (.iload_n 1, 1) := by decide +kernel
theorem d_FK_write_31 : decode b_FK_write 31 = .ok (.invokestatic 195, 3) := by decide +kernel
theorem d_FK_write_34 : decode b_FK_write 34 = .ok (.iload_n 2, 1) := by decide +kernel
theorem d_FK_write_35 : decode b_FK_write 35 = .ok (.invokevirtual 209, 3) := by decide +kernel
theorem d_FK_write_38 : decode b_FK_write 38 = .ok (.iload 4, 2) := by decide +kernel
theorem d_FK_write_40 : decode b_FK_write 40 = .ok (.ireturn, 1) := by decide +kernel
theorem d_FK_expect_0 : decode b_FK_expect 0 = .ok (.iload_n 1, 1) := by decide +kernel
theorem d_FK_expect_1 : decode b_FK_expect 1 = .ok (.invokestatic 42, 3) := by decide +kernel
theorem d_FK_expect_4 : decode b_FK_expect 4 = .ok (.iload_n 2, 1) := by decide +kernel
theorem d_FK_expect_5 : decode b_FK_expect 5 = .ok (.invokestatic 184, 3) := by decide +kernel
theorem d_FK_expect_8 : decode b_FK_expect 8 = .ok (.aload_n 0, 1) := by decide +kernel
theorem d_FK_expect_9 : decode b_FK_expect 9 = .ok (.iload_n 1, 1) := by decide +kernel
theorem d_FK_expect_10 : decode b_FK_expect 10 = .ok (.invokevirtual 118, 3) := by decide +kernel
theorem d_FK_expect_13 : decode b_FK_expect 13 = .ok (.aload_n 0, 1) := by decide +kernel
theorem d_FK_expect_14 : decode b_FK_expect 14 = .ok (.iload_n 2, 1) := by decide +kernel
theorem d_FK_expect_15 : decode b_FK_expect 15 = .ok (.invokevirtual 212, 3) := by decide +kernel
theorem d_FK_expect_18 : decode b_FK_expect 18 = .ok (.istore_n 3, 1) := by decide +kernel
theorem d_FK_expect_19 : decode b_FK_expect 19 = .ok (.iload_n 2, 1) := by decide +kernel
theorem d_FK_expect_20 : decode b_FK_expect 20 = .ok (.invokestatic 215, 3) := by decide +kernel
theorem d_FK_expect_23 : decode b_FK_expect 23 = .ok (.istore 4, 2) := by decide +kernel
theorem d_FK_expect_25 : decode b_FK_expect 25 = .ok (.aload_n 0, 1) := by decide +kernel
theorem d_FK_expect_26 : decode b_FK_expect 26 = .ok (.getfield 10, 3) := by decide +kernel
theorem d_FK_expect_29 : decode b_FK_expect 29 = .ok (.iload_n 3, 1) := by decide +kernel
theorem d_FK_expect_30 : decode b_FK_expect 30 = .ok (.iload 4, 2) := by decide +kernel
theorem d_FK_expect_32 : decode b_FK_expect 32 = .ok (.invokevirtual 81, 3) := by decide +kernel
theorem d_FK_expect_35 : decode b_FK_expect 35 = .ok (.iconst (-1), 1) := by decide +kernel
theorem d_FK_expect_36 : decode b_FK_expect 36 = .ok (.if_icmp .eq 13, 3) := by decide +kernel
theorem d_FK_expect_39 : decode b_FK_expect 39 = .ok (.new 91, 3) := by decide +kernel
theorem d_FK_expect_42 : decode b_FK_expect 42 = .ok (.dup, 1) := by decide +kernel
theorem d_FK_expect_43 : decode b_FK_expect 43 = .ok (.ldc 218, 2) := by decide +kernel
theorem d_FK_expect_45 : decode b_FK_expect 45 = .ok (.invokespecial 95, 3) := by decide +kernel
theorem d_FK_expect_48 : decode b_FK_expect 48 = .ok (.athrow, 1) := by decide +kernel
theorem d_FK_expect_49 : decode b_FK_expect 49 = .ok (.aload_n 0, 1) := by decide +kernel
theorem d_FK_expect_50 : decode b_FK_expect 50 = .ok (.getfield 19, 3) := by decide +kernel
theorem d_FK_expect_53 : decode b_FK_expect 53 = .ok (.aload_n 0, 1) := by decide +kernel
theorem d_FK_expect_54 : decode b_FK_expect 54 = .ok (.getfield 30, 3) := by decide +kernel
theorem d_FK_expect_57 : decode b_FK_expect 57 = .ok (.iload_n 3, 1) := by decide +kernel
theorem d_FK_expect_58 : decode b_FK_expect 58 = .ok (.iload 4, 2) := by decide +kernel
theorem d_FK_expect_60 : decode b_FK_expect 60 = .ok (.invokevirtual 220, 3) := by decide +kernel
theorem d_FK_expect_63 : decode b_FK_expect 63 = .ok (.aload_n 0, 1) := by decide +kernel
theorem d_FK_expect_64 : decode b_FK_expect 64 = .ok (.iload_n 1, 1) := by decide +kernel
theorem d_FK_expect_65 : decode b_FK_expect 65 = .ok (.invokevirtual 121, 3) := by decide +kernel
theorem d_FK_expect_68 : decode b_FK_expect 68 = .ok (.iload_n 1, 1) := by decide +kernel
theorem d_FK_expect_69 : decode b_FK_expect 69 = .ok (.ireturn, 1) := by decide +kernel
theorem d_FK_send_0 : decode b_FK_send 0 = .ok (.iload_n 1, 1) := by decide +kernel
theorem d_FK_send_1 : decode b_FK_send 1 = .ok (.invokestatic 42, 3) := by decide +kernel
theorem d_FK_send_4 : decode b_FK_send 4 = .ok (.iload_n 2, 1) := by decide +kernel
theorem d_FK_send_5 : decode b_FK_send 5 = .ok (.invokestatic 184, 3) := by decide +kernel
theorem d_FK_send_8 : decode b_FK_send 8 = .ok (.aload_n 0, 1) := by decide +kernel
theorem d_FK_send_9 : decode b_FK_send 9 = .ok (.getfield 19, 3) := by decide +kernel
theorem d_FK_send_12 : decode b_FK_send 12 = .ok (.iload_n 1, 1) := by decide +kernel
theorem d_FK_send_13 : decode b_FK_send 13 = .ok (.invokevirtual 49, 3) := by decide +kernel
theorem d_FK_send_16 : decode b_FK_send 16 = .ok (.iconst 4, 1) := by decide +kernel
theorem d_FK_send_17 : decode b_FK_send 17 = .ok (.if_icmp .eq 13, 3) := by decide +kernel
theorem d_FK_send_20 : decode b_FK_send 20 = .ok (.new 53, 3) := by decide +kernel
theorem d_FK_send_23 : decode b_FK_send 23 = .ok (.dup, 1) := by decide +kernel
theorem d_FK_send_24 : decode b_FK_send 24 = .ok (.ldc 223, 2) := by decide +kernel
theorem d_FK_send_26 : decode b_FK_send 26 = .ok (.invokespecial 57, 3) := by decide +kernel
theorem d_FK_send_29 : decode b_FK_send 29 = .ok (.athrow, 1) := by decide +kernel
theorem d_FK_send_30 : decode b_FK_send 30 = .ok (.aload_n 0, 1) := by decide +kernel
theorem d_FK_send_31 : decode b_FK_send 31 = .ok (.iload_n 2, 1) := by decide +kernel
theorem d_FK_send_32 : decode b_FK_send 32 = .ok (.invokevirtual 212, 3) := by decide +kernel
theorem d_FK_send_35 : decode b_FK_send 35 = .ok (.istore_n 3, 1) := by decide +kernel
theorem d_FK_send_36 : decode b_FK_send 36 = .ok (.iload_n 2, 1) := by decide +kernel
theorem d_FK_send_37 : decode b_FK_send 37 = .ok (.invokestatic 215, 3) := by decide +kernel
theorem d_FK_send_40 : decode b_FK_send 40 = .ok (.istore 4, 2) := by decide +kernel
theorem d_FK_send_42 : decode b_FK_send 42 = .ok (.aload_n 0, 1) := by decide +kernel
theorem d_FK_send_43 : decode b_FK_send 43 = .ok (.iload_n 2, 1) := by decide +kernel
theorem d_FK_send_44 : decode b_FK_send 44 = .ok (.invokevirtual 225, 3) := by decide +kernel
theorem d_FK_send_47 : decode b_FK_send 47 = .ok (.istore 5, 2) := by decide +kernel
theorem d_FK_send_49 : decode b_FK_send 49 = .ok (.aload_n 0, 1) := by decide +kernel
theorem d_FK_send_50 : decode b_FK_send 50 = .ok (.getfield 10, 3) := by decide +kernel
theorem d_FK_send_53 : decode b_FK_send 53 = .ok (.iload_n 3, 1) := by decide +kernel
theorem d_FK_send_54 : decode b_FK_send 54 = .ok (.iload 4, 2) := by decide +kernel
theorem d_FK_send_56 : decode b_FK_send 56 = .ok (.invokevirtual 77, 3) := by decide +kernel
theorem d_FK_send_59 : decode b_FK_send 59 = .ok (.istore 6, 2) := by decide +kernel
theorem d_FK_send_61 : decode b_FK_send 61 = .ok (.aload_n 0, 1) := by decide +kernel
theorem d_FK_send_62 : decode b_FK_send 62 = .ok (.getfield 10, 3) := by decide +kernel
theorem d_FK_send_65 : decode b_FK_send 65 = .ok (.iload_n 3, 1) := by decide +kernel
theorem d_FK_send_66 : decode b_FK_send 66 = .ok (.iload 4, 2) := by decide +kernel
theorem d_FK_send_68 : decode b_FK_send 68 = .ok (.invokevirtual 104, 3) := by decide +kernel
theorem d_FK_send_71 : decode b_FK_send 71 = .ok (.aload_n 0, 1) := by decide +kernel
theorem d_FK_send_72 : decode b_FK_send 72 = .ok (.getfield 10, 3) := by decide +kernel
theorem d_FK_send_75 : decode b_FK_send 75 = .ok (.aload_n 0, 1) := by decide +kernel
theorem d_FK_send_76 : decode b_FK_send 76 = .ok (.getfield 19, 3) := by decide +kernel
theorem d_FK_send_79 : decode b_FK_send 79 = .ok (.iload_n 1, 1) := by decide +kernel
theorem d_FK_send_80 : decode b_FK_send 80 = .ok (.invokevirtual 228, 3) := by decide +kernel
theorem d_FK_send_83 : decode b_FK_send 83 = .ok (.aload_n 0, 1) := by decide +kernel
theorem d_FK_send_84 : decode b_FK_send 84 = .ok (.getfield 19, 3) := by decide +kernel
theorem d_FK_send_87 : decode b_FK_send 87 = .ok (.iload_n 1, 1) := by decide +kernel
theorem d_FK_send_88 : decode b_FK_send 88 = .ok (.invokevirtual 231, 3) := by decide +kernel
theorem d_FK_send_91 : decode b_FK_send 91 = .ok (.iload 5, 2) := by decide +kernel
theorem d_FK_send_93 : decode b_FK_send 93 = .ok (.iload 6, 2) := by decide +kernel
theorem d_FK_send_95 : decode b_FK_send 95 = .ok (.invokevirtual 84, 3) := by decide +kernel
theorem d_FK_send_98 : decode b_FK_send 98 = .ok (.aload_n 0, 1) := by decide +kernel
theorem d_FK_send_99 : decode b_FK_send 99 = .ok (.getfield 10, 3) := by decide +kernel
theorem d_FK_send_102 : decode b_FK_send 102 = .ok (.iload 5, 2) := by decide +kernel
theorem d_FK_send_104 : decode b_FK_send 104 = .ok (.iload_n 1, 1) := by decide +kernel
theorem d_FK_send_105 : decode b_FK_send 105 = .ok (.invokevirtual 234, 3) := by decide +kernel
theorem d_FK_send_108 : decode b_FK_send 108 = .ok (.aload_n 0, 1) := by decide +kernel
theorem d_FK_send_109 : decode b_FK_send 109 = .ok (.getfield 19, 3) := by decide +kernel
theorem d_FK_send_112 : decode b_FK_send 112 = .ok (.iload_n 1, 1) := by decide +kernel
theorem d_FK_send_113 : decode b_FK_send 113 = .ok (.iconst 2, 1) := by decide +kernel
theorem d_FK_send_114 : decode b_FK_send 114 = .ok (.invokevirtual 115, 3) := by decide +kernel
theorem d_FK_send_117 : decode b_FK_send 117 = .ok (.iload 5, 2) := by decide +kernel
theorem d_FK_send_119 : decode b_FK_send 119 = .ok (.ireturn, 1) := by decide +kernel
theorem d_FK_process_0 : decode b_FK_process 0 = .ok (.iload_n 1, 1) := by decide +kernel
theorem d_FK_process_1 : decode b_FK_process 1 = .ok (.invokestatic 42, 3) := by decide +kernel
theorem d_FK_process_4 : decode b_FK_process 4 = .ok (.iload_n 2, 1) := by decide +kernel
theorem d_FK_process_5 : decode b_FK_process 5 = .ok (.iconst 0, 1) := by decide +kernel
theorem d_FK_process_6 : decode b_FK_process 6 = .ok (.iconst 4, 1) := by decide +kernel
theorem d_FK_process_7 : decode b_FK_process 7 = .ok (.invokestatic 237, 3) := by decide +kernel
theorem d_FK_process_10 : decode b_FK_process 10 = .ok (.iload_n 2, 1) := by decide +kernel
theorem d_FK_process_11 : decode b_FK_process 11 = .ok (.tableswitch 65 0 3 #[29, 38, 47, 56], 29) := by decide +kernel
theorem d_FK_process_40 : decode b_FK_process 40 = .ok (.aload_n 0, 1) := by decide +kernel
theorem d_FK_process_41 : decode b_FK_process 41 = .ok (.getfield 19, 3) := by decide +kernel
theorem d_FK_process_44 : decode b_FK_process 44 = .ok (.iload_n 1, 1) := by decide +kernel
theorem d_FK_process_45 : decode b_FK_process 45 = .ok (.invokevirtual 49, 3) := by decide +kernel
theorem d_FK_process_48 : decode b_FK_process 48 = .ok (.ireturn, 1) := by decide +kernel
theorem d_FK_process_49 : decode b_FK_process 49 = .ok (.aload_n 0, 1) := by decide +kernel
theorem d_FK_process_50 : decode b_FK_process 50 = .ok (.getfield 19, 3) := by decide +kernel
theorem d_FK_process_53 : decode b_FK_process 53 = .ok (.iload_n 1, 1) := by decide +kernel
theorem d_FK_process_54 : decode b_FK_process 54 = .ok (.invokevirtual 240, 3) := by decide +kernel
theorem d_FK_process_57 : decode b_FK_process 57 = .ok (.ireturn, 1) := by decide +kernel
theorem d_FK_process_58 : decode b_FK_process 58 = .ok (.aload_n 0, 1) := by decide +kernel
theorem d_FK_process_59 : decode b_FK_process 59 = .ok (.getfield 19, 3) := by decide +kernel
theorem d_FK_process_62 : decode b_FK_process 62 = .ok (.iload_n 1, 1) := by decide +kernel
theorem d_FK_process_63 : decode b_FK_process 63 = .ok (.invokevirtual 145, 3) := by decide +kernel
theorem d_FK_process_66 : decode b_FK_process 66 = .ok (.ireturn, 1) := by decide +kernel
theorem d_FK_process_67 : decode b_FK_process 67 = .ok (.aload_n 0, 1) := by decide +kernel
theorem d_FK_process_68 : decode b_FK_process 68 = .ok (.getfield 10, 3) := by decide +kernel
theorem d_FK_process_71 : decode b_FK_process 71 = .ok (.iload_n 1, 1) := by decide +kernel
theorem d_FK_process_72 : decode b_FK_process 72 = .ok (.invokevirtual 243, 3) := by decide +kernel
theorem d_FK_process_75 : decode b_FK_process 75 = .ok (.ireturn, 1) := by decide +kernel
theorem d_FK_process_76 : decode b_FK_process 76 = .ok (.aload_n 0, 1) := by decide +kernel
theorem d_FK_process_77 : decode b_FK_process 77 = .ok (.getfield 19, 3) := by decide +kernel
theorem d_FK_process_80 : decode b_FK_process 80 = .ok (.iload_n 1, 1) := by decide +kernel
theorem d_FK_process_81 : decode b_FK_process 81 = .ok (.invokevirtual 135, 3) := by decide +kernel
theorem d_FK_process_84 : decode b_FK_process 84 = .ok (.ireturn, 1) := by decide +kernel
theorem d_FK_page_0 : decode b_FK_page 0 = .ok (.iload_n 1, 1) := by decide +kernel
theorem d_FK_page_1 : decode b_FK_page 1 = .ok (.invokestatic 46, 3) := by decide +kernel
theorem d_FK_page_4 : decode b_FK_page 4 = .ok (.iload_n 2, 1) := by decide +kernel
theorem d_FK_page_5 : decode b_FK_page 5 = .ok (.iconst 0, 1) := by decide +kernel
theorem d_FK_page_6 : decode b_FK_page 6 = .ok (.iconst 2, 1) := by decide +kernel
theorem d_FK_page_7 : decode b_FK_page 7 = .ok (.invokestatic 237, 3) := by decide +kernel
theorem d_FK_page_10 : decode b_FK_page 10 = .ok (.iload_n 2, 1) := by decide +kernel
theorem d_FK_page_11 : decode b_FK_page 11 = .ok (.lookupswitch 43 #[(0, 25), (1, 34)], 25) := by decide +kernel
theorem d_FK_page_36 : decode b_FK_page 36 = .ok (.aload_n 0, 1) := by decide +kernel
theorem d_FK_page_37 : decode b_FK_page 37 = .ok (.getfield 10, 3) := by decide +kernel
theorem d_FK_page_40 : decode b_FK_page 40 = .ok (.iload_n 1, 1) := by decide +kernel
theorem d_FK_page_41 : decode b_FK_page 41 = .ok (.invokevirtual 246, 3) := by decide +kernel
theorem d_FK_page_44 : decode b_FK_page 44 = .ok (.ireturn, 1) := by decide +kernel
theorem d_FK_page_45 : decode b_FK_page 45 = .ok (.aload_n 0, 1) := by decide +kernel
theorem d_FK_page_46 : decode b_FK_page 46 = .ok (.getfield 10, 3) := by decide +kernel
theorem d_FK_page_49 : decode b_FK_page 49 = .ok (.iload_n 1, 1) := by decide +kernel
theorem d_FK_page_50 : decode b_FK_page 50 = .ok (.invokevirtual 249, 3) := by decide +kernel
theorem d_FK_page_53 : decode b_FK_page 53 = .ok (.ireturn, 1) := by decide +kernel
theorem d_FK_page_54 : decode b_FK_page 54 = .ok (.aload_n 0, 1) := by decide +kernel
theorem d_FK_page_55 : decode b_FK_page 55 = .ok (.getfield 10, 3) := by decide +kernel
theorem d_FK_page_58 : decode b_FK_page 58 = .ok (.iload_n 1, 1) := by decide +kernel
theorem d_FK_page_59 : decode b_FK_page 59 = .ok (.invokevirtual 99, 3) := by decide +kernel
theorem d_FK_page_62 : decode b_FK_page 62 = .ok (.ireturn, 1) := by decide +kernel
theorem d_FK_count_0 : decode b_FK_count 0 = .ok (.iload_n 1, 1) := by decide +kernel
theorem d_FK_count_1 : decode b_FK_count 1 = .ok (.iconst 0, 1) := by decide +kernel
theorem d_FK_count_2 : decode b_FK_count 2 = .ok (.iconst 3, 1) := by decide +kernel
theorem d_FK_count_3 : decode b_FK_count 3 = .ok (.invokestatic 237, 3) := by decide +kernel
theorem d_FK_count_6 : decode b_FK_count 6 = .ok (.iload_n 1, 1) := by decide +kernel
theorem d_FK_count_7 : decode b_FK_count 7 = .ok (.tableswitch 47 0 2 #[25, 30, 39], 25) := by decide +kernel
theorem d_FK_count_32 : decode b_FK_count 32 = .ok (.aload_n 0, 1) := by decide +kernel
theorem d_FK_count_33 : decode b_FK_count 33 = .ok (.getfield 30, 3) := by decide +kernel
theorem d_FK_count_36 : decode b_FK_count 36 = .ok (.ireturn, 1) := by decide +kernel
theorem d_FK_count_37 : decode b_FK_count 37 = .ok (.aload_n 0, 1) := by decide +kernel
theorem d_FK_count_38 : decode b_FK_count 38 = .ok (.getfield 10, 3) := by decide +kernel
theorem d_FK_count_41 : decode b_FK_count 41 = .ok (.iconst 0, 1) := by decide +kernel
theorem d_FK_count_42 : decode b_FK_count 42 = .ok (.invokevirtual 243, 3) := by decide +kernel
theorem d_FK_count_45 : decode b_FK_count 45 = .ok (.ireturn, 1) := by decide +kernel
theorem d_FK_count_46 : decode b_FK_count 46 = .ok (.aload_n 0, 1) := by decide +kernel
theorem d_FK_count_47 : decode b_FK_count 47 = .ok (.getfield 19, 3) := by decide +kernel
theorem d_FK_count_50 : decode b_FK_count 50 = .ok (.invokevirtual 252, 3) := by decide +kernel
theorem d_FK_count_53 : decode b_FK_count 53 = .ok (.ireturn, 1) := by decide +kernel
theorem d_FK_count_54 : decode b_FK_count 54 = .ok (.aload_n 0, 1) := by decide +kernel
theorem d_FK_count_55 : decode b_FK_count 55 = .ok (.invokevirtual 256, 3) := by decide +kernel
theorem d_FK_count_58 : decode b_FK_count 58 = .ok (.ireturn, 1) := by decide +kernel
theorem d_FK_intsInOpenPipes_0 : decode b_FK_intsInOpenPipes 0 = .ok (.iconst 0, 1) := by decide +kernel
theorem d_FK_intsInOpenPipes_1 : decode b_FK_intsInOpenPipes 1 = .ok (.istore_n 1, 1) := by decide +kernel
theorem d_FK_intsInOpenPipes_2 : decode b_FK_intsInOpenPipes 2 = .ok (.iconst 0, 1) := by decide +kernel
theorem d_FK_intsInOpenPipes_3 : decode b_FK_intsInOpenPipes 3 = .ok (.istore_n 2, 1) := by decide +kernel
theorem d_FK_intsInOpenPipes_4 : decode b_FK_intsInOpenPipes 4 = .ok (.iload_n 2, 1) := by decide +kernel
theorem d_FK_intsInOpenPipes_5 : decode b_FK_intsInOpenPipes 5 = .ok (.iconst 3, 1) := by decide +kernel
theorem d_FK_intsInOpenPipes_6 : decode b_FK_intsInOpenPipes 6 = .ok (.if_icmp .ge 31, 3) := by decide +kernel
theorem d_FK_intsInOpenPipes_9 : decode b_FK_intsInOpenPipes 9 = .ok (.aload_n 0, 1) := by decide +kernel
theorem d_FK_intsInOpenPipes_10 : decode b_FK_intsInOpenPipes 10 = .ok (.getfield 19, 3) := by decide +kernel
theorem d_FK_intsInOpenPipes_13 : decode b_FK_intsInOpenPipes 13 = .ok (.iload_n 2, 1) := by decide +kernel
theorem d_FK_intsInOpenPipes_14 : decode b_FK_intsInOpenPipes 14 = .ok (.invokevirtual 166, 3) := by decide +kernel
theorem d_FK_intsInOpenPipes_17 : decode b_FK_intsInOpenPipes 17 = .ok (.ifCond .le 14, 3) := by decide +kernel
theorem d_FK_intsInOpenPipes_20 : decode b_FK_intsInOpenPipes 20 = .ok (.iload_n 1, 1) := by decide +kernel
theorem d_FK_intsInOpenPipes_21 : decode b_FK_intsInOpenPipes 21 = .ok (.aload_n 0, 1) := by decide +kernel
theorem d_FK_intsInOpenPipes_22 : decode b_FK_intsInOpenPipes 22 = .ok (.getfield 26, 3) := by decide +kernel
theorem d_FK_intsInOpenPipes_25 : decode b_FK_intsInOpenPipes 25 = .ok (.iload_n 2, 1) := by decide +kernel
theorem d_FK_intsInOpenPipes_26 : decode b_FK_intsInOpenPipes 26 = .ok (.invokevirtual 190, 3) := by decide +kernel
theorem d_FK_intsInOpenPipes_29 : decode b_FK_intsInOpenPipes 29 = .ok (.iadd, 1) := by decide +kernel
theorem d_FK_intsInOpenPipes_30 : decode b_FK_intsInOpenPipes 30 = .ok (.istore_n 1, 1) := by decide +kernel
theorem d_FK_intsInOpenPipes_31 : decode b_FK_intsInOpenPipes 31 = .ok (.iinc 2 1, 3) := by decide +kernel
theorem d_FK_intsInOpenPipes_34 : decode b_FK_intsInOpenPipes 34 = .ok (.goto (-30), 3) := by decide +kernel
theorem d_FK_intsInOpenPipes_37 : decode b_FK_intsInOpenPipes 37 = .ok (.iload_n 1, 1) := by decide +kernel
theorem d_FK_intsInOpenPipes_38 : decode b_FK_intsInOpenPipes 38 = .ok (.ireturn, 1) := by decide +kernel
