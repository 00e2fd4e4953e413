theorem d_Mem_init_0 : decode b_Mem_init 0 = .ok (.aload_n 0, 1) := by decide +kernel
theorem d_Mem_init_1 : decode b_Mem_init 1 = .ok (.invokespecial 3, 3) := by decide +kernel
theorem d_Mem_init_4 : decode b_Mem_init 4 = .ok (.aload_n 0, 1) := by decide +kernel
theorem d_Mem_init_5 : decode b_Mem_init 5 = .ok (.bipush 20, 2) := by decide +kernel
theorem d_Mem_init_7 : decode b_Mem_init 7 = .ok (.newarray .int, 2) := by decide +kernel
theorem d_Mem_init_9 : decode b_Mem_init 9 = .ok (.putfield 9, 3) := by decide +kernel
theorem d_Mem_init_12 : decode b_Mem_init 12 = .ok (.aload_n 0, 1) := by decide +kernel
theorem d_Mem_init_13 : decode b_Mem_init 13 = .ok (.bipush 20, 2) := by decide +kernel
theorem d_Mem_init_15 : decode b_Mem_init 15 = .ok (.newarray .int, 2) := by decide +kernel
theorem d_Mem_init_17 : decode b_Mem_init 17 = .ok (.putfield 15, 3) := by decide +kernel
theorem d_Mem_init_20 : decode b_Mem_init 20 = .ok (.aload_n 0, 1) := by decide +kernel
theorem d_Mem_init_21 : decode b_Mem_init 21 = .ok (.bipush 80, 2) := by decide +kernel
theorem d_Mem_init_23 : decode b_Mem_init 23 = .ok (.newarray .int, 2) := by decide +kernel
theorem d_Mem_init_25 : decode b_Mem_init 25 = .ok (.putfield 18, 3) := by decide +kernel
theorem d_Mem_init_28 : decode b_Mem_init 28 = .ok (.aload_n 0, 1) := by decide +kernel
theorem d_Mem_init_29 : decode b_Mem_init 29 = .ok (.bipush 80, 2) := by decide +kernel
theorem d_Mem_init_31 : decode b_Mem_init 31 = .ok (.newarray .int, 2) := by decide +kernel
theorem d_Mem_init_33 : decode b_Mem_init 33 = .ok (.putfield 21, 3) := by decide +kernel
theorem d_Mem_init_36 : decode b_Mem_init 36 = .ok (.aload_n 0, 1) := by decide +kernel
theorem d_Mem_init_37 : decode b_Mem_init 37 = .ok (.bipush 80, 2) := by decide +kernel
theorem d_Mem_init_39 : decode b_Mem_init 39 = .ok (.newarray .int, 2) := by decide +kernel
theorem d_Mem_init_41 : decode b_Mem_init 41 = .ok (.putfield 24, 3) := by decide +kernel
theorem d_Mem_init_44 : decode b_Mem_init 44 = .ok (.iconst 0, 1) := by decide +kernel
theorem d_Mem_init_45 : decode b_Mem_init 45 = .ok (.istore_n 1, 1) := by decide +kernel
theorem d_Mem_init_46 : decode b_Mem_init 46 = .ok (.iload_n 1, 1) := by decide +kernel
theorem d_Mem_init_47 : decode b_Mem_init 47 = .ok (.bipush 20, 2) := by decide +kernel
theorem d_Mem_init_49 : decode b_Mem_init 49 = .ok (.if_icmp .ge 14, 3) := by decide +kernel
theorem d_Mem_init_52 : decode b_Mem_init 52 = .ok (.aload_n 0, 1) := by decide +kernel
theorem d_Mem_init_53 : decode b_Mem_init 53 = .ok (.iload_n 1, 1) := by decide +kernel
theorem d_Mem_init_54 : decode b_Mem_init 54 = .ok (.invokevirtual 27, 3) := by decide +kernel
theorem d_Mem_init_57 : decode b_Mem_init 57 = .ok (.iinc 1 1, 3) := by decide +kernel
theorem d_Mem_init_60 : decode b_Mem_init 60 = .ok (.goto (-14), 3) := by decide +kernel
theorem d_Mem_init_63 : decode b_Mem_init 63 = .ok (.return_, 1) := by decide +kernel
theorem d_Mem_setFree_0 : decode b_Mem_setFree 0 = .ok (.aload_n 0, 1) := by decide +kernel
theorem d_Mem_setFree_1 : decode b_Mem_setFree 1 = .ok (.iload_n 1, 1) := by decide +kernel
theorem d_Mem_setFree_2 : decode b_Mem_setFree 2 = .ok (.iconst 0, 1) := by decide +kernel
theorem d_Mem_setFree_3 : decode b_Mem_setFree 3 = .ok (.iconst 0, 1) := by decide +kernel
theorem d_Mem_setFree_4 : decode b_Mem_setFree 4 = .ok (.invokevirtual 39, 3) := by decide +kernel
theorem d_Mem_setFree_7 : decode b_Mem_setFree 7 = .ok (.return_, 1) := by decide +kernel
theorem d_Mem_become_0 : decode b_Mem_become 0 = .ok (.aload_n 0, 1) := by decide +kernel
theorem d_Mem_become_1 : decode b_Mem_become 1 = .ok (.getfield 9, 3) := by decide +kernel
theorem d_Mem_become_4 : decode b_Mem_become 4 = .ok (.iload_n 1, 1) := by decide +kernel
theorem d_Mem_become_5 : decode b_Mem_become 5 = .ok (.iload_n 2, 1) := by decide +kernel
theorem d_Mem_become_6 : decode b_Mem_become 6 = .ok (.iastore, 1) := by decide +kernel
theorem d_Mem_become_7 : decode b_Mem_become 7 = .ok (.aload_n 0, 1) := by decide +kernel
theorem d_Mem_become_8 : decode b_Mem_become 8 = .ok (.getfield 15, 3) := by decide +kernel
theorem d_Mem_become_11 : decode b_Mem_become 11 = .ok (.iload_n 1, 1) := by decide +kernel
theorem d_Mem_become_12 : decode b_Mem_become 12 = .ok (.iload_n 3, 1) := by decide +kernel
theorem d_Mem_become_13 : decode b_Mem_become 13 = .ok (.iastore, 1) := by decide +kernel
theorem d_Mem_become_14 : decode b_Mem_become 14 = .ok (.iconst 0, 1) := by decide +kernel
theorem d_Mem_become_15 : decode b_Mem_become 15 = .ok (.istore 4, 2) := by decide +kernel
theorem d_Mem_become_17 : decode b_Mem_become 17 = .ok (.iload 4, 2) := by decide +kernel
theorem d_Mem_become_19 : decode b_Mem_become 19 = .ok (.iconst 4, 1) := by decide +kernel
theorem d_Mem_become_20 : decode b_Mem_become 20 = .ok (.if_icmp .ge 24, 3) := by decide +kernel
theorem d_Mem_become_23 : decode b_Mem_become 23 = .ok (.aload_n 0, 1) := by decide +kernel
theorem d_Mem_become_24 : decode b_Mem_become 24 = .ok (.iload_n 1, 1) := by decide +kernel
theorem d_Mem_become_25 : decode b_Mem_become 25 = .ok (.iload 4, 2) := by decide +kernel
theorem d_Mem_become_27 : decode b_Mem_become 27 = .ok (.invokevirtual 31, 3) := by decide +kernel
theorem d_Mem_become_30 : decode b_Mem_become 30 = .ok (.aload_n 0, 1) := by decide +kernel
theorem d_Mem_become_31 : decode b_Mem_become 31 = .ok (.iload_n 1, 1) := by decide +kernel
theorem d_Mem_become_32 : decode b_Mem_become 32 = .ok (.iload 4, 2) := by decide +kernel
theorem d_Mem_become_34 : decode b_Mem_become 34 = .ok (.iconst 0, 1) := by decide +kernel
theorem d_Mem_become_35 : decode b_Mem_become 35 = .ok (.invokevirtual 35, 3) := by decide +kernel
theorem d_Mem_become_38 : decode b_Mem_become 38 = .ok (.iinc 4 1, 3) := by decide +kernel
theorem d_Mem_become_41 : decode b_Mem_become 41 = .ok (.goto (-24), 3) := by decide +kernel
theorem d_Mem_become_44 : decode b_Mem_become 44 = .ok (.return_, 1) := by decide +kernel
theorem d_Mem_clearEntry_0 : decode b_Mem_clearEntry 0 = .ok (.aload_n 0, 1) := by decide +kernel
theorem d_Mem_clearEntry_1 : decode b_Mem_clearEntry 1 = .ok (.iload_n 1, 1) := by decide +kernel
theorem d_Mem_clearEntry_2 : decode b_Mem_clearEntry 2 = .ok (.iload_n 2, 1) := by decide +kernel
theorem d_Mem_clearEntry_3 : decode b_Mem_clearEntry 3 = .ok (.iconst (-1), 1) := by decide +kernel
theorem d_Mem_clearEntry_4 : decode b_Mem_clearEntry 4 = .ok (.iconst 0, 1) := by decide +kernel
theorem d_Mem_clearEntry_5 : decode b_Mem_clearEntry 5 = .ok (.invokevirtual 42, 3) := by decide +kernel
theorem d_Mem_clearEntry_8 : decode b_Mem_clearEntry 8 = .ok (.return_, 1) := by decide +kernel
theorem d_Mem_setEntry_0 : decode b_Mem_setEntry 0 = .ok (.aload_n 0, 1) := by decide +kernel
theorem d_Mem_setEntry_1 : decode b_Mem_setEntry 1 = .ok (.getfield 18, 3) := by decide +kernel
theorem d_Mem_setEntry_4 : decode b_Mem_setEntry 4 = .ok (.iload_n 1, 1) := by decide +kernel
theorem d_Mem_setEntry_5 : decode b_Mem_setEntry 5 = .ok (.iconst 4, 1) := by decide +kernel
theorem d_Mem_setEntry_6 : decode b_Mem_setEntry 6 = .ok (.imul, 1) := by decide +kernel
theorem d_Mem_setEntry_7 : decode b_Mem_setEntry 7 = .ok (.iload_n 2, 1) := by decide +kernel
theorem d_Mem_setEntry_8 : decode b_Mem_setEntry 8 = .ok (.iadd, 1) := by decide +kernel
theorem d_Mem_setEntry_9 : decode b_Mem_setEntry 9 = .ok (.iload_n 3, 1) := by decide +kernel
theorem d_Mem_setEntry_10 : decode b_Mem_setEntry 10 = .ok (.iastore, 1) := by decide +kernel
theorem d_Mem_setEntry_11 : decode b_Mem_setEntry 11 = .ok (.aload_n 0, 1) := by decide +kernel
theorem d_Mem_setEntry_12 : decode b_Mem_setEntry 12 = .ok (.getfield 21, 3) := by decide +kernel
theorem d_Mem_setEntry_15 : decode b_Mem_setEntry 15 = .ok (.iload_n 1, 1) := by decide +kernel
theorem d_Mem_setEntry_16 : decode b_Mem_setEntry 16 = .ok (.iconst 4, 1) := by decide +kernel
theorem d_Mem_setEntry_17 : decode b_Mem_setEntry 17 = .ok (.imul, 1) := by decide +kernel
theorem d_Mem_setEntry_18 : decode b_Mem_setEntry 18 = .ok (.iload_n 2, 1) := by decide +kernel
theorem d_Mem_setEntry_19 : decode b_Mem_setEntry 19 = .ok (.iadd, 1) := by decide +kernel
theorem d_Mem_setEntry_20 : decode b_Mem_setEntry 20 = .ok (.iload 4, 2) := by decide +kernel
theorem d_Mem_setEntry_22 : decode b_Mem_setEntry 22 = .ok (.iastore, 1) := by decide +kernel
theorem d_Mem_setEntry_23 : decode b_Mem_setEntry 23 = .ok (.return_, 1) := by decide +kernel
theorem d_Mem_setWord_0 : decode b_Mem_setWord 0 = .ok (.aload_n 0, 1) := by decide +kernel
theorem d_Mem_setWord_1 : decode b_Mem_setWord 1 = .ok (.getfield 24, 3) := by decide +kernel
theorem d_Mem_setWord_4 : decode b_Mem_setWord 4 = .ok (.iload_n 1, 1) := by decide +kernel
theorem d_Mem_setWord_5 : decode b_Mem_setWord 5 = .ok (.iconst 4, 1) := by decide +kernel
theorem d_Mem_setWord_6 : decode b_Mem_setWord 6 = .ok (.imul, 1) := by decide +kernel
theorem d_Mem_setWord_7 : decode b_Mem_setWord 7 = .ok (.iload_n 2, 1) := by decide +kernel
theorem d_Mem_setWord_8 : decode b_Mem_setWord 8 = .ok (.iadd, 1) := by decide +kernel
theorem d_Mem_setWord_9 : decode b_Mem_setWord 9 = .ok (.iload_n 3, 1) := by decide +kernel
theorem d_Mem_setWord_10 : decode b_Mem_setWord 10 = .ok (.iastore, 1) := by decide +kernel
theorem d_Mem_setWord_11 : decode b_Mem_setWord 11 = .ok (.return_, 1) := by decide +kernel
theorem d_Pro_init_0 : decode b_Pro_init 0 = .ok (.aload_n 0, 1) := by decide +kernel
theorem d_Pro_init_1 : decode b_Pro_init 1 = .ok (.invokespecial 3, 3) := by decide +kernel
theorem d_Pro_init_4 : decode b_Pro_init 4 = .ok (.aload_n 0, 1) := by decide +kernel
theorem d_Pro_init_5 : decode b_Pro_init 5 = .ok (.bipush 6, 2) := by decide +kernel
theorem d_Pro_init_7 : decode b_Pro_init 7 = .ok (.newarray .int, 2) := by decide +kernel
theorem d_Pro_init_9 : decode b_Pro_init 9 = .ok (.putfield 9, 3) := by decide +kernel
theorem d_Pro_init_12 : decode b_Pro_init 12 = .ok (.aload_n 0, 1) := by decide +kernel
theorem d_Pro_init_13 : decode b_Pro_init 13 = .ok (.bipush 6, 2) := by decide +kernel
theorem d_Pro_init_15 : decode b_Pro_init 15 = .ok (.newarray .int, 2) := by decide +kernel
theorem d_Pro_init_17 : decode b_Pro_init 17 = .ok (.putfield 15, 3) := by decide +kernel
theorem d_Pro_init_20 : decode b_Pro_init 20 = .ok (.aload_n 0, 1) := by decide +kernel
theorem d_Pro_init_21 : decode b_Pro_init 21 = .ok (.bipush 6, 2) := by decide +kernel
theorem d_Pro_init_23 : decode b_Pro_init 23 = .ok (.newarray .int, 2) := by decide +kernel
theorem d_Pro_init_25 : decode b_Pro_init 25 = .ok (.putfield 18, 3) := by decide +kernel
theorem d_Pro_init_28 : decode b_Pro_init 28 = .ok (.aload_n 0, 1) := by decide +kernel
theorem d_Pro_init_29 : decode b_Pro_init 29 = .ok (.bipush 24, 2) := by decide +kernel
theorem d_Pro_init_31 : decode b_Pro_init 31 = .ok (.newarray .int, 2) := by decide +kernel
theorem d_Pro_init_33 : decode b_Pro_init 33 = .ok (.putfield 21, 3) := by decide +kernel
theorem d_Pro_init_36 : decode b_Pro_init 36 = .ok (.aload_n 0, 1) := by decide +kernel
theorem d_Pro_init_37 : decode b_Pro_init 37 = .ok (.bipush 6, 2) := by decide +kernel
theorem d_Pro_init_39 : decode b_Pro_init 39 = .ok (.newarray .int, 2) := by decide +kernel
theorem d_Pro_init_41 : decode b_Pro_init 41 = .ok (.putfield 24, 3) := by decide +kernel
theorem d_Pro_init_44 : decode b_Pro_init 44 = .ok (.aload_n 0, 1) := by decide +kernel
theorem d_Pro_init_45 : decode b_Pro_init 45 = .ok (.bipush 6, 2) := by decide +kernel
theorem d_Pro_init_47 : decode b_Pro_init 47 = .ok (.newarray .int, 2) := by decide +kernel
theorem d_Pro_init_49 : decode b_Pro_init 49 = .ok (.putfield 27, 3) := by decide +kernel
theorem d_Pro_init_52 : decode b_Pro_init 52 = .ok (.iconst 0, 1) := by decide +kernel
theorem d_Pro_init_53 : decode b_Pro_init 53 = .ok (.istore_n 1, 1) := by decide +kernel
theorem d_Pro_init_54 : decode b_Pro_init 54 = .ok (.iload_n 1, 1) := by decide +kernel
theorem d_Pro_init_55 : decode b_Pro_init 55 = .ok (.iconst 5, 1) := by decide +kernel
theorem d_Pro_init_56 : decode b_Pro_init 56 = .ok (.if_icmp .gt 14, 3) := by decide +kernel
theorem d_Pro_init_59 : decode b_Pro_init 59 = .ok (.aload_n 0, 1) := by decide +kernel
theorem d_Pro_init_60 : decode b_Pro_init 60 = .ok (.iload_n 1, 1) := by decide +kernel
theorem d_Pro_init_61 : decode b_Pro_init 61 = .ok (.invokevirtual 30, 3) := by decide +kernel
theorem d_Pro_init_64 : decode b_Pro_init 64 = .ok (.iinc 1 1, 3) := by decide +kernel
theorem d_Pro_init_67 : decode b_Pro_init 67 = .ok (.goto (-13), 3) := by decide +kernel
theorem d_Pro_init_70 : decode b_Pro_init 70 = .ok (.return_, 1) := by decide +kernel
theorem d_Pro_end_0 : decode b_Pro_end 0 = .ok (.aload_n 0, 1) := by decide +kernel
theorem d_Pro_end_1 : decode b_Pro_end 1 = .ok (.iload_n 1, 1) := by decide +kernel
theorem d_Pro_end_2 : decode b_Pro_end 2 = .ok (.iconst 0, 1) := by decide +kernel
theorem d_Pro_end_3 : decode b_Pro_end 3 = .ok (.iconst 0, 1) := by decide +kernel
theorem d_Pro_end_4 : decode b_Pro_end 4 = .ok (.iconst (-1), 1) := by decide +kernel
theorem d_Pro_end_5 : decode b_Pro_end 5 = .ok (.invokevirtual 38, 3) := by decide +kernel
theorem d_Pro_end_8 : decode b_Pro_end 8 = .ok (.return_, 1) := by decide +kernel
theorem d_Pro_begin_0 : decode b_Pro_begin 0 = .ok (.aload_n 0, 1) := by decide +kernel
theorem d_Pro_begin_1 : decode b_Pro_begin 1 = .ok (.getfield 9, 3) := by decide +kernel
theorem d_Pro_begin_4 : decode b_Pro_begin 4 = .ok (.iload_n 1, 1) := by decide +kernel
theorem d_Pro_begin_5 : decode b_Pro_begin 5 = .ok (.iload_n 2, 1) := by decide +kernel
theorem d_Pro_begin_6 : decode b_Pro_begin 6 = .ok (.iastore, 1) := by decide +kernel
theorem d_Pro_begin_7 : decode b_Pro_begin 7 = .ok (.aload_n 0, 1) := by decide +kernel
theorem d_Pro_begin_8 : decode b_Pro_begin 8 = .ok (.getfield 15, 3) := by decide +kernel
theorem d_Pro_begin_11 : decode b_Pro_begin 11 = .ok (.iload_n 1, 1) := by decide +kernel
theorem d_Pro_begin_12 : decode b_Pro_begin 12 = .ok (.iload_n 3, 1) := by decide +kernel
theorem d_Pro_begin_13 : decode b_Pro_begin 13 = .ok (.iastore, 1) := by decide +kernel
theorem d_Pro_begin_14 : decode b_Pro_begin 14 = .ok (.aload_n 0, 1) := by decide +kernel
theorem d_Pro_begin_15 : decode b_Pro_begin 15 = .ok (.getfield 18, 3) := by decide +kernel
theorem d_Pro_begin_18 : decode b_Pro_begin 18 = .ok (.iload_n 1, 1) := by decide +kernel
theorem d_Pro_begin_19 : decode b_Pro_begin 19 = .ok (.iload 4, 2) := by decide +kernel
theorem d_Pro_begin_21 : decode b_Pro_begin 21 = .ok (.iastore, 1) := by decide +kernel
theorem d_Pro_begin_22 : decode b_Pro_begin 22 = .ok (.iconst 0, 1) := by decide +kernel
theorem d_Pro_begin_23 : decode b_Pro_begin 23 = .ok (.istore 5, 2) := by decide +kernel
theorem d_Pro_begin_25 : decode b_Pro_begin 25 = .ok (.iload 5, 2) := by decide +kernel
theorem d_Pro_begin_27 : decode b_Pro_begin 27 = .ok (.iconst 4, 1) := by decide +kernel
theorem d_Pro_begin_28 : decode b_Pro_begin 28 = .ok (.if_icmp .ge 17, 3) := by decide +kernel
theorem d_Pro_begin_31 : decode b_Pro_begin 31 = .ok (.aload_n 0, 1) := by decide +kernel
theorem d_Pro_begin_32 : decode b_Pro_begin 32 = .ok (.iload_n 1, 1) := by decide +kernel
theorem d_Pro_begin_33 : decode b_Pro_begin 33 = .ok (.iload 5, 2) := by decide +kernel
theorem d_Pro_begin_35 : decode b_Pro_begin 35 = .ok (.iconst (-1), 1) := by decide +kernel
theorem d_Pro_begin_36 : decode b_Pro_begin 36 = .ok (.invokevirtual 34, 3) := by decide +kernel
theorem d_Pro_begin_39 : decode b_Pro_begin 39 = .ok (.iinc 5 1, 3) := by decide +kernel
theorem d_Pro_begin_42 : decode b_Pro_begin 42 = .ok (.goto (-17), 3) := by decide +kernel
theorem d_Pro_begin_45 : decode b_Pro_begin 45 = .ok (.return_, 1) := by decide +kernel
theorem d_Pro_setPipe_0 : decode b_Pro_setPipe 0 = .ok (.aload_n 0, 1) := by decide +kernel
theorem d_Pro_setPipe_1 : decode b_Pro_setPipe 1 = .ok (.getfield 21, 3) := by decide +kernel
theorem d_Pro_setPipe_4 : decode b_Pro_setPipe 4 = .ok (.iload_n 1, 1) := by decide +kernel
theorem d_Pro_setPipe_5 : decode b_Pro_setPipe 5 = .ok (.iconst 4, 1) := by decide +kernel
theorem d_Pro_setPipe_6 : decode b_Pro_setPipe 6 = .ok (.imul, 1) := by decide +kernel
theorem d_Pro_setPipe_7 : decode b_Pro_setPipe 7 = .ok (.iload_n 2, 1) := by decide +kernel
theorem d_Pro_setPipe_8 : decode b_Pro_setPipe 8 = .ok (.iadd, 1) := by decide +kernel
theorem d_Pro_setPipe_9 : decode b_Pro_setPipe 9 = .ok (.iload_n 3, 1) := by decide +kernel
theorem d_Pro_setPipe_10 : decode b_Pro_setPipe 10 = .ok (.iastore, 1) := by decide +kernel
theorem d_Pro_setPipe_11 : decode b_Pro_setPipe 11 = .ok (.return_, 1) := by decide +kernel
theorem d_Pip_init_0 : decode b_Pip_init 0 = .ok (.aload_n 0, 1) := by decide +kernel
theorem d_Pip_init_1 : decode b_Pip_init 1 = .ok (.invokespecial 3, 3) := by decide +kernel
theorem d_Pip_init_4 : decode b_Pip_init 4 = .ok (.aload_n 0, 1) := by decide +kernel
theorem d_Pip_init_5 : decode b_Pip_init 5 = .ok (.iconst 3, 1) := by decide +kernel
theorem d_Pip_init_6 : decode b_Pip_init 6 = .ok (.newarray .int, 2) := by decide +kernel
theorem d_Pip_init_8 : decode b_Pip_init 8 = .ok (.putfield 9, 3) := by decide +kernel
theorem d_Pip_init_11 : decode b_Pip_init 11 = .ok (.aload_n 0, 1) := by decide +kernel
theorem d_Pip_init_12 : decode b_Pip_init 12 = .ok (.bipush 12, 2) := by decide +kernel
theorem d_Pip_init_14 : decode b_Pip_init 14 = .ok (.newarray .int, 2) := by decide +kernel
theorem d_Pip_init_16 : decode b_Pip_init 16 = .ok (.putfield 15, 3) := by decide +kernel
theorem d_Pip_init_19 : decode b_Pip_init 19 = .ok (.return_, 1) := by decide +kernel
theorem d_Pro_stateOf_0 : decode b_Pro_stateOf 0 = .ok (.aload_n 0, 1) := by decide +kernel
theorem d_Pro_stateOf_1 : decode b_Pro_stateOf 1 = .ok (.getfield 9, 3) := by decide +kernel
theorem d_Pro_stateOf_4 : decode b_Pro_stateOf 4 = .ok (.iload_n 1, 1) := by decide +kernel
theorem d_Pro_stateOf_5 : decode b_Pro_stateOf 5 = .ok (.iaload, 1) := by decide +kernel
theorem d_Pro_stateOf_6 : decode b_Pro_stateOf 6 = .ok (.ireturn, 1) := by decide +kernel
theorem d_Mem_kindOf_0 : decode b_Mem_kindOf 0 = .ok (.aload_n 0, 1) := by decide +kernel
theorem d_Mem_kindOf_1 : decode b_Mem_kindOf 1 = .ok (.getfield 9, 3) := by decide +kernel
theorem d_Mem_kindOf_4 : decode b_Mem_kindOf 4 = .ok (.iload_n 1, 1) := by decide +kernel
theorem d_Mem_kindOf_5 : decode b_Mem_kindOf 5 = .ok (.iaload, 1) := by decide +kernel
theorem d_Mem_kindOf_6 : decode b_Mem_kindOf 6 = .ok (.ireturn, 1) := by decide +kernel
theorem d_Mem_ownerOf_0 : decode b_Mem_ownerOf 0 = .ok (.aload_n 0, 1) := by decide +kernel
theorem d_Mem_ownerOf_1 : decode b_Mem_ownerOf 1 = .ok (.getfield 15, 3) := by decide +kernel
theorem d_Mem_ownerOf_4 : decode b_Mem_ownerOf 4 = .ok (.iload_n 1, 1) := by decide +kernel
theorem d_Mem_ownerOf_5 : decode b_Mem_ownerOf 5 = .ok (.iaload, 1) := by decide +kernel
theorem d_Mem_ownerOf_6 : decode b_Mem_ownerOf 6 = .ok (.ireturn, 1) := by decide +kernel
theorem d_Pro_parentOf_0 : decode b_Pro_parentOf 0 = .ok (.aload_n 0, 1) := by decide +kernel
theorem d_Pro_parentOf_1 : decode b_Pro_parentOf 1 = .ok (.getfield 15, 3) := by decide +kernel
theorem d_Pro_parentOf_4 : decode b_Pro_parentOf 4 = .ok (.iload_n 1, 1) := by decide +kernel
theorem d_Pro_parentOf_5 : decode b_Pro_parentOf 5 = .ok (.iaload, 1) := by decide +kernel
theorem d_Pro_parentOf_6 : decode b_Pro_parentOf 6 = .ok (.ireturn, 1) := by decide +kernel
theorem d_Mem_pageIn_0 : decode b_Mem_pageIn 0 = .ok (.aload_n 0, 1) := by decide +kernel
theorem d_Mem_pageIn_1 : decode b_Mem_pageIn 1 = .ok (.getfield 18, 3) := by decide +kernel
theorem d_Mem_pageIn_4 : decode b_Mem_pageIn 4 = .ok (.iload_n 1, 1) := by decide +kernel
theorem d_Mem_pageIn_5 : decode b_Mem_pageIn 5 = .ok (.iconst 4, 1) := by decide +kernel
theorem d_Mem_pageIn_6 : decode b_Mem_pageIn 6 = .ok (.imul, 1) := by decide +kernel
theorem d_Mem_pageIn_7 : decode b_Mem_pageIn 7 = .ok (.iload_n 2, 1) := by decide +kernel
theorem d_Mem_pageIn_8 : decode b_Mem_pageIn 8 = .ok (.iadd, 1) := by decide +kernel
theorem d_Mem_pageIn_9 : decode b_Mem_pageIn 9 = .ok (.iaload, 1) := by decide +kernel
theorem d_Mem_pageIn_10 : decode b_Mem_pageIn 10 = .ok (.ireturn, 1) := by decide +kernel
theorem d_Mem_rightsIn_0 : decode b_Mem_rightsIn 0 = .ok (.aload_n 0, 1) := by decide +kernel
theorem d_Mem_rightsIn_1 : decode b_Mem_rightsIn 1 = .ok (.getfield 21, 3) := by decide +kernel
theorem d_Mem_rightsIn_4 : decode b_Mem_rightsIn 4 = .ok (.iload_n 1, 1) := by decide +kernel
theorem d_Mem_rightsIn_5 : decode b_Mem_rightsIn 5 = .ok (.iconst 4, 1) := by decide +kernel
theorem d_Mem_rightsIn_6 : decode b_Mem_rightsIn 6 = .ok (.imul, 1) := by decide +kernel
theorem d_Mem_rightsIn_7 : decode b_Mem_rightsIn 7 = .ok (.iload_n 2, 1) := by decide +kernel
theorem d_Mem_rightsIn_8 : decode b_Mem_rightsIn 8 = .ok (.iadd, 1) := by decide +kernel
theorem d_Mem_rightsIn_9 : decode b_Mem_rightsIn 9 = .ok (.iaload, 1) := by decide +kernel
theorem d_Mem_rightsIn_10 : decode b_Mem_rightsIn 10 = .ok (.ireturn, 1) := by decide +kernel
theorem d_Mem_copyWords_0 : decode b_Mem_copyWords 0 = .ok (.iconst 0, 1) := by decide +kernel
theorem d_Mem_copyWords_1 : decode b_Mem_copyWords 1 = .ok (.istore_n 3, 1) := by decide +kernel
theorem d_Mem_copyWords_2 : decode b_Mem_copyWords 2 = .ok (.iload_n 3, 1) := by decide +kernel
theorem d_Mem_copyWords_3 : decode b_Mem_copyWords 3 = .ok (.iconst 4, 1) := by decide +kernel
theorem d_Mem_copyWords_4 : decode b_Mem_copyWords 4 = .ok (.if_icmp .ge 21, 3) := by decide +kernel
theorem d_Mem_copyWords_7 : decode b_Mem_copyWords 7 = .ok (.aload_n 0, 1) := by decide +kernel
theorem d_Mem_copyWords_8 : decode b_Mem_copyWords 8 = .ok (.iload_n 2, 1) := by decide +kernel
theorem d_Mem_copyWords_9 : decode b_Mem_copyWords 9 = .ok (.iload_n 3, 1) := by decide +kernel
theorem d_Mem_copyWords_10 : decode b_Mem_copyWords 10 = .ok (.aload_n 0, 1) := by decide +kernel
theorem d_Mem_copyWords_11 : decode b_Mem_copyWords 11 = .ok (.iload_n 1, 1) := by decide +kernel
theorem d_Mem_copyWords_12 : decode b_Mem_copyWords 12 = .ok (.iload_n 3, 1) := by decide +kernel
theorem d_Mem_copyWords_13 : decode b_Mem_copyWords 13 = .ok (.invokevirtual 50, 3) := by decide +kernel
theorem d_Mem_copyWords_16 : decode b_Mem_copyWords 16 = .ok (.invokevirtual 35, 3) := by decide +kernel
theorem d_Mem_copyWords_19 : decode b_Mem_copyWords 19 = .ok (.iinc 3 1, 3) := by decide +kernel
theorem d_Mem_copyWords_22 : decode b_Mem_copyWords 22 = .ok (.goto (-20), 3) := by decide +kernel
theorem d_Mem_copyWords_25 : decode b_Mem_copyWords 25 = .ok (.return_, 1) := by decide +kernel
theorem d_Mem_word_0 : decode b_Mem_word 0 = .ok (.aload_n 0, 1) := by decide +kernel
theorem d_Mem_word_1 : decode b_Mem_word 1 = .ok (.getfield 24, 3) := by decide +kernel
theorem d_Mem_word_4 : decode b_Mem_word 4 = .ok (.iload_n 1, 1) := by decide +kernel
theorem d_Mem_word_5 : decode b_Mem_word 5 = .ok (.iconst 4, 1) := by decide +kernel
theorem d_Mem_word_6 : decode b_Mem_word 6 = .ok (.imul, 1) := by decide +kernel
theorem d_Mem_word_7 : decode b_Mem_word 7 = .ok (.iload_n 2, 1) := by decide +kernel
theorem d_Mem_word_8 : decode b_Mem_word 8 = .ok (.iadd, 1) := by decide +kernel
theorem d_Mem_word_9 : decode b_Mem_word 9 = .ok (.iaload, 1) := by decide +kernel
theorem d_Mem_word_10 : decode b_Mem_word 10 = .ok (.ireturn, 1) := by decide +kernel
theorem d_Mem_filledEntries_0 : decode b_Mem_filledEntries 0 = .ok (.iconst 0, 1) := by decide +kernel
theorem d_Mem_filledEntries_1 : decode b_Mem_filledEntries 1 = .ok (.istore_n 2, 1) := by decide +kernel
theorem d_Mem_filledEntries_2 : decode b_Mem_filledEntries 2 = .ok (.iconst 0, 1) := by decide +kernel
theorem d_Mem_filledEntries_3 : decode b_Mem_filledEntries 3 = .ok (.istore_n 3, 1) := by decide +kernel
theorem d_Mem_filledEntries_4 : decode b_Mem_filledEntries 4 = .ok (.iload_n 3, 1) := by decide +kernel
theorem d_Mem_filledEntries_5 : decode b_Mem_filledEntries 5 = .ok (.iconst 4, 1) := by decide +kernel
theorem d_Mem_filledEntries_6 : decode b_Mem_filledEntries 6 = .ok (.if_icmp .ge 22, 3) := by decide +kernel
theorem d_Mem_filledEntries_9 : decode b_Mem_filledEntries 9 = .ok (.aload_n 0, 1) := by decide +kernel
theorem d_Mem_filledEntries_10 : decode b_Mem_filledEntries 10 = .ok (.iload_n 1, 1) := by decide +kernel
theorem d_Mem_filledEntries_11 : decode b_Mem_filledEntries 11 = .ok (.iload_n 3, 1) := by decide +kernel
theorem d_Mem_filledEntries_12 : decode b_Mem_filledEntries 12 = .ok (.invokevirtual 46, 3) := by decide +kernel
theorem d_Mem_filledEntries_15 : decode b_Mem_filledEntries 15 = .ok (.iconst (-1), 1) := by decide +kernel
theorem d_Mem_filledEntries_16 : decode b_Mem_filledEntries 16 = .ok (.if_icmp .eq 6, 3) := by decide +kernel
theorem d_Mem_filledEntries_19 : decode b_Mem_filledEntries 19 = .ok (.iinc 2 1, 3) := by decide +kernel
theorem d_Mem_filledEntries_22 : decode b_Mem_filledEntries 22 = .ok (.iinc 3 1, 3) := by decide +kernel
theorem d_Mem_filledEntries_25 : decode b_Mem_filledEntries 25 = .ok (.goto (-21), 3) := by decide +kernel
theorem d_Mem_filledEntries_28 : decode b_Mem_filledEntries 28 = .ok (.iload_n 2, 1) := by decide +kernel
theorem d_Mem_filledEntries_29 : decode b_Mem_filledEntries 29 = .ok (.ireturn, 1) := by decide +kernel
theorem d_Pro_setState_0 : decode b_Pro_setState 0 = .ok (.aload_n 0, 1) := by decide +kernel
theorem d_Pro_setState_1 : decode b_Pro_setState 1 = .ok (.getfield 9, 3) := by decide +kernel
theorem d_Pro_setState_4 : decode b_Pro_setState 4 = .ok (.iload_n 1, 1) := by decide +kernel
theorem d_Pro_setState_5 : decode b_Pro_setState 5 = .ok (.iload_n 2, 1) := by decide +kernel
theorem d_Pro_setState_6 : decode b_Pro_setState 6 = .ok (.iastore, 1) := by decide +kernel
theorem d_Pro_setState_7 : decode b_Pro_setState 7 = .ok (.return_, 1) := by decide +kernel
theorem d_Pro_nextReady_0 : decode b_Pro_nextReady 0 = .ok (.iconst 0, 1) := by decide +kernel
theorem d_Pro_nextReady_1 : decode b_Pro_nextReady 1 = .ok (.istore_n 2, 1) := by decide +kernel
theorem d_Pro_nextReady_2 : decode b_Pro_nextReady 2 = .ok (.iload_n 2, 1) := by decide +kernel
theorem d_Pro_nextReady_3 : decode b_Pro_nextReady 3 = .ok (.iconst 5, 1) := by decide +kernel
theorem d_Pro_nextReady_4 : decode b_Pro_nextReady 4 = .ok (.if_icmp .ge 29, 3) := by decide +kernel
theorem d_Pro_nextReady_7 : decode b_Pro_nextReady 7 = .ok (.iload_n 1, 1) := by decide +kernel
theorem d_Pro_nextReady_8 : decode b_Pro_nextReady 8 = .ok (.iload_n 2, 1) := by decide +kernel
theorem d_Pro_nextReady_9 : decode b_Pro_nextReady 9 = .ok (.iadd, 1) := by decide +kernel
theorem d_Pro_nextReady_10 : decode b_Pro_nextReady 10 = .ok (.iconst 5, 1) := by decide +kernel
theorem d_Pro_nextReady_11 : decode b_Pro_nextReady 11 = .ok (.irem, 1) := by decide +kernel
theorem d_Pro_nextReady_12 : decode b_Pro_nextReady 12 = .ok (.iconst 1, 1) := by decide +kernel
theorem d_Pro_nextReady_13 : decode b_Pro_nextReady 13 = .ok (.iadd, 1) := by decide +kernel
theorem d_Pro_nextReady_14 : decode b_Pro_nextReady 14 = .ok (.istore_n 3, 1) := by decide +kernel
theorem d_Pro_nextReady_15 : decode b_Pro_nextReady 15 = .ok (.aload_n 0, 1) := by decide +kernel
theorem d_Pro_nextReady_16 : decode b_Pro_nextReady 16 = .ok (.getfield 9, 3) := by decide +kernel
theorem d_Pro_nextReady_19 : decode b_Pro_nextReady 19 = .ok (.iload_n 3, 1) := by decide +kernel
theorem d_Pro_nextReady_20 : decode b_Pro_nextReady 20 = .ok (.iaload, 1) := by decide +kernel
theorem d_Pro_nextReady_21 : decode b_Pro_nextReady 21 = .ok (.iconst 2, 1) := by decide +kernel
theorem d_Pro_nextReady_22 : decode b_Pro_nextReady 22 = .ok (.if_icmp .ne 5, 3) := by decide +kernel
theorem d_Pro_nextReady_25 : decode b_Pro_nextReady 25 = .ok (.iload_n 3, 1) := by decide +kernel
theorem d_Pro_nextReady_26 : decode b_Pro_nextReady 26 = .ok (.ireturn, 1) := by decide +kernel
theorem d_Pro_nextReady_27 : decode b_Pro_nextReady 27 = .ok (.iinc 2 1, 3) := by decide +kernel
theorem d_Pro_nextReady_30 : decode b_Pro_nextReady 30 = .ok (.goto (-28), 3) := by decide +kernel
theorem d_Pro_nextReady_33 : decode b_Pro_nextReady 33 = .ok (.iconst 0, 1) := by decide +kernel
theorem d_Pro_nextReady_34 : decode b_Pro_nextReady 34 = .ok (.ireturn, 1) := by decide +kernel
theorem d_Pro_descriptorsInUse_0 : decode b_Pro_descriptorsInUse 0 = .ok (.iconst 0, 1) := by decide +kernel
theorem d_Pro_descriptorsInUse_1 : decode b_Pro_descriptorsInUse 1 = .ok (.istore_n 2, 1) := by decide +kernel
theorem d_Pro_descriptorsInUse_2 : decode b_Pro_descriptorsInUse 2 = .ok (.iconst 0, 1) := by decide +kernel
theorem d_Pro_descriptorsInUse_3 : decode b_Pro_descriptorsInUse 3 = .ok (.istore_n 3, 1) := by decide +kernel
theorem d_Pro_descriptorsInUse_4 : decode b_Pro_descriptorsInUse 4 = .ok (.iload_n 3, 1) := by decide +kernel
theorem d_Pro_descriptorsInUse_5 : decode b_Pro_descriptorsInUse 5 = .ok (.iconst 4, 1) := by decide +kernel
theorem d_Pro_descriptorsInUse_6 : decode b_Pro_descriptorsInUse 6 = .ok (.if_icmp .ge 22, 3) := by decide +kernel
theorem d_Pro_descriptorsInUse_9 : decode b_Pro_descriptorsInUse 9 = .ok (.aload_n 0, 1) := by decide +kernel
theorem d_Pro_descriptorsInUse_10 : decode b_Pro_descriptorsInUse 10 = .ok (.iload_n 1, 1) := by decide +kernel
theorem d_Pro_descriptorsInUse_11 : decode b_Pro_descriptorsInUse 11 = .ok (.iload_n 3, 1) := by decide +kernel
theorem d_Pro_descriptorsInUse_12 : decode b_Pro_descriptorsInUse 12 = .ok (.invokevirtual 42, 3) := by decide +kernel
theorem d_Pro_descriptorsInUse_15 : decode b_Pro_descriptorsInUse 15 = .ok (.iconst (-1), 1) := by decide +kernel
theorem d_Pro_descriptorsInUse_16 : decode b_Pro_descriptorsInUse 16 = .ok (.if_icmp .eq 6, 3) := by decide +kernel
theorem d_Pro_descriptorsInUse_19 : decode b_Pro_descriptorsInUse 19 = .ok (.iinc 2 1, 3) := by decide +kernel
theorem d_Pro_descriptorsInUse_22 : decode b_Pro_descriptorsInUse 22 = .ok (.iinc 3 1, 3) := by decide +kernel
theorem d_Pro_descriptorsInUse_25 : decode b_Pro_descriptorsInUse 25 = .ok (.goto (-21), 3) := by decide +kernel
theorem d_Pro_descriptorsInUse_28 : decode b_Pro_descriptorsInUse 28 = .ok (.iload_n 2, 1) := by decide +kernel
theorem d_Pro_descriptorsInUse_29 : decode b_Pro_descriptorsInUse 29 = .ok (.ireturn, 1) := by decide +kernel
theorem d_Pro_pipeOf_0 : decode b_Pro_pipeOf 0 = .ok (.aload_n 0, 1) := by decide +kernel
theorem d_Pro_pipeOf_1 : decode b_Pro_pipeOf 1 = .ok (.getfield 21, 3) := by decide +kernel
theorem d_Pro_pipeOf_4 : decode b_Pro_pipeOf 4 = .ok (.iload_n 1, 1) := by decide +kernel
theorem d_Pro_pipeOf_5 : decode b_Pro_pipeOf 5 = .ok (.iconst 4, 1) := by decide +kernel
theorem d_Pro_pipeOf_6 : decode b_Pro_pipeOf 6 = .ok (.imul, 1) := by decide +kernel
theorem d_Pro_pipeOf_7 : decode b_Pro_pipeOf 7 = .ok (.iload_n 2, 1) := by decide +kernel
theorem d_Pro_pipeOf_8 : decode b_Pro_pipeOf 8 = .ok (.iadd, 1) := by decide +kernel
theorem d_Pro_pipeOf_9 : decode b_Pro_pipeOf 9 = .ok (.iaload, 1) := by decide +kernel
theorem d_Pro_pipeOf_10 : decode b_Pro_pipeOf 10 = .ok (.ireturn, 1) := by decide +kernel
theorem d_Mem_pagesOf_0 : decode b_Mem_pagesOf 0 = .ok (.iconst 0, 1) := by decide +kernel
theorem d_Mem_pagesOf_1 : decode b_Mem_pagesOf 1 = .ok (.istore_n 2, 1) := by decide +kernel
theorem d_Mem_pagesOf_2 : decode b_Mem_pagesOf 2 = .ok (.iconst 0, 1) := by decide +kernel
theorem d_Mem_pagesOf_3 : decode b_Mem_pagesOf 3 = .ok (.istore_n 3, 1) := by decide +kernel
theorem d_Mem_pagesOf_4 : decode b_Mem_pagesOf 4 = .ok (.iload_n 3, 1) := by decide +kernel
theorem d_Mem_pagesOf_5 : decode b_Mem_pagesOf 5 = .ok (.bipush 20, 2) := by decide +kernel
theorem d_Mem_pagesOf_7 : decode b_Mem_pagesOf 7 = .ok (.if_icmp .ge 22, 3) := by decide +kernel
theorem d_Mem_pagesOf_10 : decode b_Mem_pagesOf 10 = .ok (.aload_n 0, 1) := by decide +kernel
theorem d_Mem_pagesOf_11 : decode b_Mem_pagesOf 11 = .ok (.getfield 15, 3) := by decide +kernel
theorem d_Mem_pagesOf_14 : decode b_Mem_pagesOf 14 = .ok (.iload_n 3, 1) := by decide +kernel
theorem d_Mem_pagesOf_15 : decode b_Mem_pagesOf 15 = .ok (.iaload, 1) := by decide +kernel
theorem d_Mem_pagesOf_16 : decode b_Mem_pagesOf 16 = .ok (.iload_n 1, 1) := by decide +kernel
theorem d_Mem_pagesOf_17 : decode b_Mem_pagesOf 17 = .ok (.if_icmp .ne 6, 3) := by decide +kernel
theorem d_Mem_pagesOf_20 : decode b_Mem_pagesOf 20 = .ok (.iinc 2 1, 3) := by decide +kernel
theorem d_Mem_pagesOf_23 : decode b_Mem_pagesOf 23 = .ok (.iinc 3 1, 3) := by decide +kernel
theorem d_Mem_pagesOf_26 : decode b_Mem_pagesOf 26 = .ok (.goto (-22), 3) := by decide +kernel
theorem d_Mem_pagesOf_29 : decode b_Mem_pagesOf 29 = .ok (.iload_n 2, 1) := by decide +kernel
theorem d_Mem_pagesOf_30 : decode b_Mem_pagesOf 30 = .ok (.ireturn, 1) := by decide +kernel
theorem d_Pro_rootOf_0 : decode b_Pro_rootOf 0 = .ok (.aload_n 0, 1) := by decide +kernel
theorem d_Pro_rootOf_1 : decode b_Pro_rootOf 1 = .ok (.getfield 18, 3) := by decide +kernel
theorem d_Pro_rootOf_4 : decode b_Pro_rootOf 4 = .ok (.iload_n 1, 1) := by decide +kernel
theorem d_Pro_rootOf_5 : decode b_Pro_rootOf 5 = .ok (.iaload, 1) := by decide +kernel
theorem d_Pro_rootOf_6 : decode b_Pro_rootOf 6 = .ok (.ireturn, 1) := by decide +kernel
theorem d_Pro_moveChildren_0 : decode b_Pro_moveChildren 0 = .ok (.iconst 0, 1) := by decide +kernel
theorem d_Pro_moveChildren_1 : decode b_Pro_moveChildren 1 = .ok (.istore_n 3, 1) := by decide +kernel
theorem d_Pro_moveChildren_2 : decode b_Pro_moveChildren 2 = .ok (.iconst 1, 1) := by decide +kernel
theorem d_Pro_moveChildren_3 : decode b_Pro_moveChildren 3 = .ok (.istore 4, 2) := by decide +kernel
theorem d_Pro_moveChildren_5 : decode b_Pro_moveChildren 5 = .ok (.iload 4, 2) := by decide +kernel
theorem d_Pro_moveChildren_7 : decode b_Pro_moveChildren 7 = .ok (.iconst 5, 1) := by decide +kernel
theorem d_Pro_moveChildren_8 : decode b_Pro_moveChildren 8 = .ok (.if_icmp .gt 31, 3) := by decide +kernel
theorem d_Pro_moveChildren_11 : decode b_Pro_moveChildren 11 = .ok (.aload_n 0, 1) := by decide +kernel
theorem d_Pro_moveChildren_12 : decode b_Pro_moveChildren 12 = .ok (.getfield 15, 3) := by decide +kernel
theorem d_Pro_moveChildren_15 : decode b_Pro_moveChildren 15 = .ok (.iload 4, 2) := by decide +kernel
theorem d_Pro_moveChildren_17 : decode b_Pro_moveChildren 17 = .ok (.iaload, 1) := by decide +kernel
theorem d_Pro_moveChildren_18 : decode b_Pro_moveChildren 18 = .ok (.iload_n 1, 1) := by decide +kernel
theorem d_Pro_moveChildren_19 : decode b_Pro_moveChildren 19 = .ok (.if_icmp .ne 14, 3) := by decide +kernel
theorem d_Pro_moveChildren_22 : decode b_Pro_moveChildren 22 = .ok (.aload_n 0, 1) := by decide +kernel
theorem d_Pro_moveChildren_23 : decode b_Pro_moveChildren 23 = .ok (.getfield 15, 3) := by decide +kernel
theorem d_Pro_moveChildren_26 : decode b_Pro_moveChildren 26 = .ok (.iload 4, 2) := by decide +kernel
theorem d_Pro_moveChildren_28 : decode b_Pro_moveChildren 28 = .ok (.iload_n 2, 1) := by decide +kernel
theorem d_Pro_moveChildren_29 : decode b_Pro_moveChildren 29 = .ok (.iastore, 1) := by decide +kernel
theorem d_Pro_moveChildren_30 : decode b_Pro_moveChildren 30 = .ok (.iinc 3 1, 3) := by decide +kernel
theorem d_Pro_moveChildren_33 : decode b_Pro_moveChildren 33 = .ok (.iinc 4 1, 3) := by decide +kernel
theorem d_Pro_moveChildren_36 : decode b_Pro_moveChildren 36 = .ok (.goto (-31), 3) := by decide +kernel
theorem d_Pro_moveChildren_39 : decode b_Pro_moveChildren 39 = .ok (.iload_n 3, 1) := by decide +kernel
theorem d_Pro_moveChildren_40 : decode b_Pro_moveChildren 40 = .ok (.ireturn, 1) := by decide +kernel
theorem d_Pro_descriptorsOfPipe_0 : decode b_Pro_descriptorsOfPipe 0 = .ok (.iconst 0, 1) := by decide +kernel
theorem d_Pro_descriptorsOfPipe_1 : decode b_Pro_descriptorsOfPipe 1 = .ok (.istore_n 2, 1) := by decide +kernel
theorem d_Pro_descriptorsOfPipe_2 : decode b_Pro_descriptorsOfPipe 2 = .ok (.iconst 0, 1) := by decide +kernel
theorem d_Pro_descriptorsOfPipe_3 : decode b_Pro_descriptorsOfPipe 3 = .ok (.istore_n 3, 1) := by decide +kernel
theorem d_Pro_descriptorsOfPipe_4 : decode b_Pro_descriptorsOfPipe 4 = .ok (.iload_n 3, 1) := by decide +kernel
theorem d_Pro_descriptorsOfPipe_5 : decode b_Pro_descriptorsOfPipe 5 = .ok (.aload_n 0, 1) := by decide +kernel
theorem d_Pro_descriptorsOfPipe_6 : decode b_Pro_descriptorsOfPipe 6 = .ok (.getfield 21, 3) := by decide +kernel
theorem d_Pro_descriptorsOfPipe_9 : decode b_Pro_descriptorsOfPipe 9 = .ok (.arraylength, 1) := by decide +kernel
theorem d_Pro_descriptorsOfPipe_10 : decode b_Pro_descriptorsOfPipe 10 = .ok (.if_icmp .ge 22, 3) := by decide +kernel
theorem d_Pro_descriptorsOfPipe_13 : decode b_Pro_descriptorsOfPipe 13 = .ok (.aload_n 0, 1) := by decide +kernel
theorem d_Pro_descriptorsOfPipe_14 : decode b_Pro_descriptorsOfPipe 14 = .ok (.getfield 21, 3) := by decide +kernel
theorem d_Pro_descriptorsOfPipe_17 : decode b_Pro_descriptorsOfPipe 17 = .ok (.iload_n 3, 1) := by decide +kernel
theorem d_Pro_descriptorsOfPipe_18 : decode b_Pro_descriptorsOfPipe 18 = .ok (.iaload, 1) := by decide +kernel
theorem d_Pro_descriptorsOfPipe_19 : decode b_Pro_descriptorsOfPipe 19 = .ok (.iload_n 1, 1) := by decide +kernel
theorem d_Pro_descriptorsOfPipe_20 : decode b_Pro_descriptorsOfPipe 20 = .ok (.if_icmp .ne 6, 3) := by decide +kernel
theorem d_Pro_descriptorsOfPipe_23 : decode b_Pro_descriptorsOfPipe 23 = .ok (.iinc 2 1, 3) := by decide +kernel
theorem d_Pro_descriptorsOfPipe_26 : decode b_Pro_descriptorsOfPipe 26 = .ok (.iinc 3 1, 3) := by decide +kernel
theorem d_Pro_descriptorsOfPipe_29 : decode b_Pro_descriptorsOfPipe 29 = .ok (.goto (-25), 3) := by decide +kernel
theorem d_Pro_descriptorsOfPipe_32 : decode b_Pro_descriptorsOfPipe 32 = .ok (.iload_n 2, 1) := by decide +kernel
theorem d_Pro_descriptorsOfPipe_33 : decode b_Pro_descriptorsOfPipe 33 = .ok (.ireturn, 1) := by decide +kernel
theorem d_Pip_makeEmpty_0 : decode b_Pip_makeEmpty 0 = .ok (.aload_n 0, 1) := by decide +kernel
theorem d_Pip_makeEmpty_1 : decode b_Pip_makeEmpty 1 = .ok (.getfield 9, 3) := by decide +kernel
theorem d_Pip_makeEmpty_4 : decode b_Pip_makeEmpty 4 = .ok (.iload_n 1, 1) := by decide +kernel
theorem d_Pip_makeEmpty_5 : decode b_Pip_makeEmpty 5 = .ok (.iconst 0, 1) := by decide +kernel
theorem d_Pip_makeEmpty_6 : decode b_Pip_makeEmpty 6 = .ok (.iastore, 1) := by decide +kernel
theorem d_Pip_makeEmpty_7 : decode b_Pip_makeEmpty 7 = .ok (.return_, 1) := by decide +kernel
theorem d_Pip_held_0 : decode b_Pip_held 0 = .ok (.aload_n 0, 1) := by decide +kernel
theorem d_Pip_held_1 : decode b_Pip_held 1 = .ok (.getfield 9, 3) := by decide +kernel
theorem d_Pip_held_4 : decode b_Pip_held 4 = .ok (.iload_n 1, 1) := by decide +kernel
theorem d_Pip_held_5 : decode b_Pip_held 5 = .ok (.iaload, 1) := by decide +kernel
theorem d_Pip_held_6 : decode b_Pip_held 6 = .ok (.ireturn, 1) := by decide +kernel
theorem d_Pip_append_0 : decode b_Pip_append 0 = .ok (.aload_n 0, 1) := by decide +kernel
theorem d_Pip_append_1 : decode b_Pip_append 1 = .ok (.getfield 15, 3) := by decide +kernel
theorem d_Pip_append_4 : decode b_Pip_append 4 = .ok (.iload_n 1, 1) := by decide +kernel
theorem d_Pip_append_5 : decode b_Pip_append 5 = .ok (.iconst 4, 1) := by decide +kernel
theorem d_Pip_append_6 : decode b_Pip_append 6 = .ok (.imul, 1) := by decide +kernel
theorem d_Pip_append_7 : decode b_Pip_append 7 = .ok (.aload_n 0, 1) := by decide +kernel
theorem d_Pip_append_8 : decode b_Pip_append 8 = .ok (.getfield 9, 3) := by decide +kernel
theorem d_Pip_append_11 : decode b_Pip_append 11 = .ok (.iload_n 1, 1) := by decide +kernel
theorem d_Pip_append_12 : decode b_Pip_append 12 = .ok (.iaload, 1) := by decide +kernel
theorem d_Pip_append_13 : decode b_Pip_append 13 = .ok (.iadd, 1) := by decide +kernel
theorem d_Pip_append_14 : decode b_Pip_append 14 = .ok (.iload_n 2, 1) := by decide +kernel
theorem d_Pip_append_15 : decode b_Pip_append 15 = .ok (.iastore, 1) := by decide +kernel
theorem d_Pip_append_16 : decode b_Pip_append 16 = .ok (.aload_n 0, 1) := by decide +kernel
theorem d_Pip_append_17 : decode b_Pip_append 17 = .ok (.getfield 9, 3) := by decide +kernel
theorem d_Pip_append_20 : decode b_Pip_append 20 = .ok (.iload_n 1, 1) := by decide +kernel
theorem d_Pip_append_21 : decode b_Pip_append 21 = .ok (.dup2, 1) := by decide +kernel
theorem d_Pip_append_22 : decode b_Pip_append 22 = .ok (.iaload, 1) := by decide +kernel
theorem d_Pip_append_23 : decode b_Pip_append 23 = .ok (.iconst 1, 1) := by decide +kernel
theorem d_Pip_append_24 : decode b_Pip_append 24 = .ok (.iadd, 1) := by decide +kernel
theorem d_Pip_append_25 : decode b_Pip_append 25 = .ok (.iastore, 1) := by decide +kernel
theorem d_Pip_append_26 : decode b_Pip_append 26 = .ok (.return_, 1) := by decide +kernel
theorem d_Pip_removeFirst_0 : decode b_Pip_removeFirst 0 = .ok (.aload_n 0, 1) := by decide +kernel
theorem d_Pip_removeFirst_1 : decode b_Pip_removeFirst 1 = .ok (.getfield 15, 3) := by decide +kernel
theorem d_Pip_removeFirst_4 : decode b_Pip_removeFirst 4 = .ok (.iload_n 1, 1) := by decide +kernel
theorem d_Pip_removeFirst_5 : decode b_Pip_removeFirst 5 = .ok (.iconst 4, 1) := by decide +kernel
theorem d_Pip_removeFirst_6 : decode b_Pip_removeFirst 6 = .ok (.imul, 1) := by decide +kernel
theorem d_Pip_removeFirst_7 : decode b_Pip_removeFirst 7 = .ok (.iaload, 1) := by decide +kernel
theorem d_Pip_removeFirst_8 : decode b_Pip_removeFirst 8 = .ok (.istore_n 2, 1) := by decide +kernel
theorem d_Pip_removeFirst_9 : decode b_Pip_removeFirst 9 = .ok (.aload_n 0, 1) := by decide +kernel
theorem d_Pip_removeFirst_10 : decode b_Pip_removeFirst 10 = .ok (.getfield 9, 3) := by decide +kernel
theorem d_Pip_removeFirst_13 : decode b_Pip_removeFirst 13 = .ok (.iload_n 1, 1) := by decide +kernel
theorem d_Pip_removeFirst_14 : decode b_Pip_removeFirst 14 = .ok (.dup2, 1) := by decide +kernel
theorem d_Pip_removeFirst_15 : decode b_Pip_removeFirst 15 = .ok (.iaload, 1) := by decide +kernel
theorem d_Pip_removeFirst_16 : decode b_Pip_removeFirst 16 = .ok (.iconst 1, 1) := by decide +kernel
theorem d_Pip_removeFirst_17 : decode b_Pip_removeFirst 17 = .ok (.isub, 1) := by decide +kernel
theorem d_Pip_removeFirst_18 : decode b_Pip_removeFirst 18 = .ok (.iastore, 1) := by decide +kernel
theorem d_Pip_removeFirst_19 : decode b_Pip_removeFirst 19 = .ok (.iconst 0, 1) := by decide +kernel
theorem d_Pip_removeFirst_20 : decode b_Pip_removeFirst 20 = .ok (.istore_n 3, 1) := by decide +kernel
theorem d_Pip_removeFirst_21 : decode b_Pip_removeFirst 21 = .ok (.iload_n 3, 1) := by decide +kernel
theorem d_Pip_removeFirst_22 : decode b_Pip_removeFirst 22 = .ok (.aload_n 0, 1) := by decide +kernel
theorem d_Pip_removeFirst_23 : decode b_Pip_removeFirst 23 = .ok (.getfield 9, 3) := by decide +kernel
theorem d_Pip_removeFirst_26 : decode b_Pip_removeFirst 26 = .ok (.iload_n 1, 1) := by decide +kernel
theorem d_Pip_removeFirst_27 : decode b_Pip_removeFirst 27 = .ok (.iaload, 1) := by decide +kernel
theorem d_Pip_removeFirst_28 : decode b_Pip_removeFirst 28 = .ok (.if_icmp .ge 31, 3) := by decide +kernel
theorem d_Pip_removeFirst_31 : decode b_Pip_removeFirst 31 = .ok (.aload_n 0, 1) := by decide +kernel
theorem d_Pip_removeFirst_32 : decode b_Pip_removeFirst 32 = .ok (.getfield 15, 3) := by decide +kernel
theorem d_Pip_removeFirst_35 : decode b_Pip_removeFirst 35 = .ok (.iload_n 1, 1) := by decide +kernel
theorem d_Pip_removeFirst_36 : decode b_Pip_removeFirst 36 = .ok (.iconst 4, 1) := by decide +kernel
theorem d_Pip_removeFirst_37 : decode b_Pip_removeFirst 37 = .ok (.imul, 1) := by decide +kernel
theorem d_Pip_removeFirst_38 : decode b_Pip_removeFirst 38 = .ok (.iload_n 3, 1) := by decide +kernel
theorem d_Pip_removeFirst_39 : decode b_Pip_removeFirst 39 = .ok (.iadd, 1) := by decide +kernel
theorem d_Pip_removeFirst_40 : decode b_Pip_removeFirst 40 = .ok (.aload_n 0, 1) := by decide +kernel
theorem d_Pip_removeFirst_41 : decode b_Pip_removeFirst 41 = .ok (.getfield 15, 3) := by decide +kernel
theorem d_Pip_removeFirst_44 : decode b_Pip_removeFirst 44 = .ok (.iload_n 1, 1) := by decide +kernel
theorem d_Pip_removeFirst_45 : decode b_Pip_removeFirst 45 = .ok (.iconst 4, 1) := by decide +kernel
theorem d_Pip_removeFirst_46 : decode b_Pip_removeFirst 46 = .ok (.imul, 1) := by decide +kernel
theorem d_Pip_removeFirst_47 : decode b_Pip_removeFirst 47 = .ok (.iload_n 3, 1) := by decide +kernel
theorem d_Pip_removeFirst_48 : decode b_Pip_removeFirst 48 = .ok (.iadd, 1) := by decide +kernel
theorem d_Pip_removeFirst_49 : decode b_Pip_removeFirst 49 = .ok (.iconst 1, 1) := by decide +kernel
theorem d_Pip_removeFirst_50 : decode b_Pip_removeFirst 50 = .ok (.iadd, 1) := by decide +kernel
theorem d_Pip_removeFirst_51 : decode b_Pip_removeFirst 51 = .ok (.iaload, 1) := by decide +kernel
theorem d_Pip_removeFirst_52 : decode b_Pip_removeFirst 52 = .ok (.iastore, 1) := by decide +kernel
theorem d_Pip_removeFirst_53 : decode b_Pip_removeFirst 53 = .ok (.iinc 3 1, 3) := by decide +kernel
theorem d_Pip_removeFirst_56 : decode b_Pip_removeFirst 56 = .ok (.goto (-35), 3) := by decide +kernel
theorem d_Pip_removeFirst_59 : decode b_Pip_removeFirst 59 = .ok (.iload_n 2, 1) := by decide +kernel
theorem d_Pip_removeFirst_60 : decode b_Pip_removeFirst 60 = .ok (.ireturn, 1) := by decide +kernel
theorem d_Pro_await_0 : decode b_Pro_await 0 = .ok (.aload_n 0, 1) := by decide +kernel
theorem d_Pro_await_1 : decode b_Pro_await 1 = .ok (.getfield 9, 3) := by decide +kernel
theorem d_Pro_await_4 : decode b_Pro_await 4 = .ok (.iload_n 1, 1) := by decide +kernel
theorem d_Pro_await_5 : decode b_Pro_await 5 = .ok (.iconst 4, 1) := by decide +kernel
theorem d_Pro_await_6 : decode b_Pro_await 6 = .ok (.iastore, 1) := by decide +kernel
theorem d_Pro_await_7 : decode b_Pro_await 7 = .ok (.aload_n 0, 1) := by decide +kernel
theorem d_Pro_await_8 : decode b_Pro_await 8 = .ok (.getfield 24, 3) := by decide +kernel
theorem d_Pro_await_11 : decode b_Pro_await 11 = .ok (.iload_n 1, 1) := by decide +kernel
theorem d_Pro_await_12 : decode b_Pro_await 12 = .ok (.iload_n 2, 1) := by decide +kernel
theorem d_Pro_await_13 : decode b_Pro_await 13 = .ok (.iastore, 1) := by decide +kernel
theorem d_Pro_await_14 : decode b_Pro_await 14 = .ok (.aload_n 0, 1) := by decide +kernel
theorem d_Pro_await_15 : decode b_Pro_await 15 = .ok (.getfield 27, 3) := by decide +kernel
theorem d_Pro_await_18 : decode b_Pro_await 18 = .ok (.iload_n 1, 1) := by decide +kernel
theorem d_Pro_await_19 : decode b_Pro_await 19 = .ok (.iload_n 3, 1) := by decide +kernel
theorem d_Pro_await_20 : decode b_Pro_await 20 = .ok (.iastore, 1) := by decide +kernel
theorem d_Pro_await_21 : decode b_Pro_await 21 = .ok (.return_, 1) := by decide +kernel
theorem d_Pro_awaitedTable_0 : decode b_Pro_awaitedTable 0 = .ok (.aload_n 0, 1) := by decide +kernel
theorem d_Pro_awaitedTable_1 : decode b_Pro_awaitedTable 1 = .ok (.getfield 24, 3) := by decide +kernel
theorem d_Pro_awaitedTable_4 : decode b_Pro_awaitedTable 4 = .ok (.iload_n 1, 1) := by decide +kernel
theorem d_Pro_awaitedTable_5 : decode b_Pro_awaitedTable 5 = .ok (.iaload, 1) := by decide +kernel
theorem d_Pro_awaitedTable_6 : decode b_Pro_awaitedTable 6 = .ok (.ireturn, 1) := by decide +kernel
theorem d_Pro_awaitedEntry_0 : decode b_Pro_awaitedEntry 0 = .ok (.aload_n 0, 1) := by decide +kernel
theorem d_Pro_awaitedEntry_1 : decode b_Pro_awaitedEntry 1 = .ok (.getfield 27, 3) := by decide +kernel
theorem d_Pro_awaitedEntry_4 : decode b_Pro_awaitedEntry 4 = .ok (.iload_n 1, 1) := by decide +kernel
theorem d_Pro_awaitedEntry_5 : decode b_Pro_awaitedEntry 5 = .ok (.iaload, 1) := by decide +kernel
theorem d_Pro_awaitedEntry_6 : decode b_Pro_awaitedEntry 6 = .ok (.ireturn, 1) := by decide +kernel
theorem d_Mem_setOwner_0 : decode b_Mem_setOwner 0 = .ok (.aload_n 0, 1) := by decide +kernel
theorem d_Mem_setOwner_1 : decode b_Mem_setOwner 1 = .ok (.getfield 15, 3) := by decide +kernel
theorem d_Mem_setOwner_4 : decode b_Mem_setOwner 4 = .ok (.iload_n 1, 1) := by decide +kernel
theorem d_Mem_setOwner_5 : decode b_Mem_setOwner 5 = .ok (.iload_n 2, 1) := by decide +kernel
theorem d_Mem_setOwner_6 : decode b_Mem_setOwner 6 = .ok (.iastore, 1) := by decide +kernel
theorem d_Mem_setOwner_7 : decode b_Mem_setOwner 7 = .ok (.return_, 1) := by decide +kernel
theorem d_Pro_notFree_0 : decode b_Pro_notFree 0 = .ok (.iconst 0, 1) := by decide +kernel
theorem d_Pro_notFree_1 : decode b_Pro_notFree 1 = .ok (.istore_n 1, 1) := by decide +kernel
theorem d_Pro_notFree_2 : decode b_Pro_notFree 2 = .ok (.iconst 1, 1) := by decide +kernel
theorem d_Pro_notFree_3 : decode b_Pro_notFree 3 = .ok (.istore_n 2, 1) := by decide +kernel
theorem d_Pro_notFree_4 : decode b_Pro_notFree 4 = .ok (.iload_n 2, 1) := by decide +kernel
theorem d_Pro_notFree_5 : decode b_Pro_notFree 5 = .ok (.iconst 5, 1) := by decide +kernel
theorem d_Pro_notFree_6 : decode b_Pro_notFree 6 = .ok (.if_icmp .gt 21, 3) := by decide +kernel
theorem d_Pro_notFree_9 : decode b_Pro_notFree 9 = .ok (.aload_n 0, 1) := by decide +kernel
theorem d_Pro_notFree_10 : decode b_Pro_notFree 10 = .ok (.getfield 9, 3) := by decide +kernel
theorem d_Pro_notFree_13 : decode b_Pro_notFree 13 = .ok (.iload_n 2, 1) := by decide +kernel
theorem d_Pro_notFree_14 : decode b_Pro_notFree 14 = .ok (.iaload, 1) := by decide +kernel
theorem d_Pro_notFree_15 : decode b_Pro_notFree 15 = .ok (.ifCond .eq 6, 3) := by decide +kernel
theorem d_Pro_notFree_18 : decode b_Pro_notFree 18 = .ok (.iinc 1 1, 3) := by decide +kernel
theorem d_Pro_notFree_21 : decode b_Pro_notFree 21 = .ok (.iinc 2 1, 3) := by decide +kernel
theorem d_Pro_notFree_24 : decode b_Pro_notFree 24 = .ok (.goto (-20), 3) := by decide +kernel
theorem d_Pro_notFree_27 : decode b_Pro_notFree 27 = .ok (.iload_n 1, 1) := by decide +kernel
theorem d_Pro_notFree_28 : decode b_Pro_notFree 28 = .ok (.ireturn, 1) := by decide +kernel
