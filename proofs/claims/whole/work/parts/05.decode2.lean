theorem d_Net_definedTasks_0 : decode b_Net_definedTasks 0 = .ok (.iconst 0, 1) := by decide +kernel
theorem d_Net_definedTasks_1 : decode b_Net_definedTasks 1 = .ok (.istore_n 1, 1) := by decide +kernel
theorem d_Net_definedTasks_2 : decode b_Net_definedTasks 2 = .ok (.iconst 0, 1) := by decide +kernel
theorem d_Net_definedTasks_3 : decode b_Net_definedTasks 3 = .ok (.istore_n 2, 1) := by decide +kernel
theorem d_Net_definedTasks_4 : decode b_Net_definedTasks 4 = .ok (.iload_n 2, 1) := by decide +kernel
theorem d_Net_definedTasks_5 : decode b_Net_definedTasks 5 = .ok (.bipush 6, 2) := by decide +kernel
theorem d_Net_definedTasks_7 : decode b_Net_definedTasks 7 = .ok (.if_icmp .ge 31, 3) := by decide +kernel
theorem d_Net_definedTasks_10 : decode b_Net_definedTasks 10 = .ok (.iload_n 1, 1) := by decide +kernel
theorem d_Net_definedTasks_11 : decode b_Net_definedTasks 11 = .ok (.aload_n 0, 1) := by decide +kernel
theorem d_Net_definedTasks_12 : decode b_Net_definedTasks 12 = .ok (.getfield 11, 3) := by decide +kernel
theorem d_Net_definedTasks_15 : decode b_Net_definedTasks 15 = .ok (.iload_n 2, 1) := by decide +kernel
theorem d_Net_definedTasks_16 : decode b_Net_definedTasks 16 = .ok (.aaload, 1) := by decide +kernel
theorem d_Net_definedTasks_17 : decode b_Net_definedTasks 17 = .ok (.getfield 37, 3) := by decide +kernel
theorem d_Net_definedTasks_20 : decode b_Net_definedTasks 20 = .ok (.ifCond .eq 9, 3) := by decide +kernel
theorem d_Net_definedTasks_23 : decode b_Net_definedTasks 23 = .ok (.iconst 1, 1) := by decide +kernel
theorem d_Net_definedTasks_24 : decode b_Net_definedTasks 24 = .ok (.iload_n 2, 1) := by decide +kernel
theorem d_Net_definedTasks_25 : decode b_Net_definedTasks 25 = .ok (.ishl, 1) := by decide +kernel
theorem d_Net_definedTasks_26 : decode b_Net_definedTasks 26 = .ok (.goto 4, 3) := by decide +kernel
theorem d_Net_definedTasks_29 : decode b_Net_definedTasks 29 = .ok (.iconst 0, 1) := by decide +kernel
theorem d_Net_definedTasks_30 : decode b_Net_definedTasks 30 = .ok (.ior, 1) := by decide +kernel
theorem d_Net_definedTasks_31 : decode b_Net_definedTasks 31 = .ok (.istore_n 1, 1) := by decide +kernel
theorem d_Net_definedTasks_32 : decode b_Net_definedTasks 32 = .ok (.iinc 2 1, 3) := by decide +kernel
theorem d_Net_definedTasks_35 : decode b_Net_definedTasks 35 = .ok (.goto (-31), 3) := by decide +kernel
theorem d_Net_definedTasks_38 : decode b_Net_definedTasks 38 = .ok (.iload_n 1, 1) := by decide +kernel
theorem d_Net_definedTasks_39 : decode b_Net_definedTasks 39 = .ok (.ireturn, 1) := by decide +kernel
theorem d_CN_launch_0 : decode b_CN_launch 0 = .ok (.aload_n 0, 1) := by decide +kernel
theorem d_CN_launch_1 : decode b_CN_launch 1 = .ok (.getfield 27, 3) := by decide +kernel
theorem d_CN_launch_4 : decode b_CN_launch 4 = .ok (.ifCond .ne 13, 3) := by decide +kernel
theorem d_CN_launch_7 : decode b_CN_launch 7 = .ok (.aload_n 0, 1) := by decide +kernel
theorem d_CN_launch_8 : decode b_CN_launch 8 = .ok (.getfield 12, 3) := by decide +kernel
theorem d_CN_launch_11 : decode b_CN_launch 11 = .ok (.invokevirtual 71, 3) := by decide +kernel
theorem d_CN_launch_14 : decode b_CN_launch 14 = .ok (.ifCond .ne 5, 3) := by decide +kernel
theorem d_CN_launch_17 : decode b_CN_launch 17 = .ok (.iconst 0, 1) := by decide +kernel
theorem d_CN_launch_18 : decode b_CN_launch 18 = .ok (.ireturn, 1) := by decide +kernel
theorem d_CN_launch_19 : decode b_CN_launch 19 = .ok (.aload_n 0, 1) := by decide +kernel
theorem d_CN_launch_20 : decode b_CN_launch 20 = .ok (.iconst 1, 1) := by decide +kernel
theorem d_CN_launch_21 : decode b_CN_launch 21 = .ok (.putfield 27, 3) := by decide +kernel
theorem d_CN_launch_24 : decode b_CN_launch 24 = .ok (.aload_n 0, 1) := by decide +kernel
theorem d_CN_launch_25 : decode b_CN_launch 25 = .ok (.iconst 1, 1) := by decide +kernel
theorem d_CN_launch_26 : decode b_CN_launch 26 = .ok (.putfield 75, 3) := by decide +kernel
theorem d_CN_launch_29 : decode b_CN_launch 29 = .ok (.iconst 1, 1) := by decide +kernel
theorem d_CN_launch_30 : decode b_CN_launch 30 = .ok (.ireturn, 1) := by decide +kernel
theorem d_Work_isOpen_0 : decode b_Work_isOpen 0 = .ok (.aload_n 0, 1) := by decide +kernel
theorem d_Work_isOpen_1 : decode b_Work_isOpen 1 = .ok (.getfield 15, 3) := by decide +kernel
theorem d_Work_isOpen_4 : decode b_Work_isOpen 4 = .ok (.iload_n 1, 1) := by decide +kernel
theorem d_Work_isOpen_5 : decode b_Work_isOpen 5 = .ok (.iaload, 1) := by decide +kernel
theorem d_Work_isOpen_6 : decode b_Work_isOpen 6 = .ok (.iconst 1, 1) := by decide +kernel
theorem d_Work_isOpen_7 : decode b_Work_isOpen 7 = .ok (.if_icmp .eq 13, 3) := by decide +kernel
theorem d_Work_isOpen_10 : decode b_Work_isOpen 10 = .ok (.aload_n 0, 1) := by decide +kernel
theorem d_Work_isOpen_11 : decode b_Work_isOpen 11 = .ok (.getfield 15, 3) := by decide +kernel
theorem d_Work_isOpen_14 : decode b_Work_isOpen 14 = .ok (.iload_n 1, 1) := by decide +kernel
theorem d_Work_isOpen_15 : decode b_Work_isOpen 15 = .ok (.iaload, 1) := by decide +kernel
theorem d_Work_isOpen_16 : decode b_Work_isOpen 16 = .ok (.iconst 2, 1) := by decide +kernel
theorem d_Work_isOpen_17 : decode b_Work_isOpen 17 = .ok (.if_icmp .ne 7, 3) := by decide +kernel
theorem d_Work_isOpen_20 : decode b_Work_isOpen 20 = .ok (.iconst 1, 1) := by decide +kernel
theorem d_Work_isOpen_21 : decode b_Work_isOpen 21 = .ok (.goto 4, 3) := by decide +kernel
theorem d_Work_isOpen_24 : decode b_Work_isOpen 24 = .ok (.iconst 0, 1) := by decide +kernel
theorem d_Work_isOpen_25 : decode b_Work_isOpen 25 = .ok (.ireturn, 1) := by decide +kernel
theorem d_Work_withdrawOpen_0 : decode b_Work_withdrawOpen 0 = .ok (.iload_n 1, 1) := by decide +kernel
theorem d_Work_withdrawOpen_1 : decode b_Work_withdrawOpen 1 = .ok (.istore_n 3, 1) := by decide +kernel
theorem d_Work_withdrawOpen_2 : decode b_Work_withdrawOpen 2 = .ok (.iload_n 3, 1) := by decide +kernel
theorem d_Work_withdrawOpen_3 : decode b_Work_withdrawOpen 3 = .ok (.iload_n 1, 1) := by decide +kernel
theorem d_Work_withdrawOpen_4 : decode b_Work_withdrawOpen 4 = .ok (.iload_n 2, 1) := by decide +kernel
theorem d_Work_withdrawOpen_5 : decode b_Work_withdrawOpen 5 = .ok (.iadd, 1) := by decide +kernel
theorem d_Work_withdrawOpen_6 : decode b_Work_withdrawOpen 6 = .ok (.if_icmp .ge 24, 3) := by decide +kernel
theorem d_Work_withdrawOpen_9 : decode b_Work_withdrawOpen 9 = .ok (.aload_n 0, 1) := by decide +kernel
theorem d_Work_withdrawOpen_10 : decode b_Work_withdrawOpen 10 = .ok (.iload_n 3, 1) := by decide +kernel
theorem d_Work_withdrawOpen_11 : decode b_Work_withdrawOpen 11 = .ok (.invokevirtual 25, 3) := by decide +kernel
theorem d_Work_withdrawOpen_14 : decode b_Work_withdrawOpen 14 = .ok (.ifCond .eq 10, 3) := by decide +kernel
theorem d_Work_withdrawOpen_17 : decode b_Work_withdrawOpen 17 = .ok (.aload_n 0, 1) := by decide +kernel
theorem d_Work_withdrawOpen_18 : decode b_Work_withdrawOpen 18 = .ok (.getfield 15, 3) := by decide +kernel
theorem d_Work_withdrawOpen_21 : decode b_Work_withdrawOpen 21 = .ok (.iload_n 3, 1) := by decide +kernel
theorem d_Work_withdrawOpen_22 : decode b_Work_withdrawOpen 22 = .ok (.iconst 5, 1) := by decide +kernel
theorem d_Work_withdrawOpen_23 : decode b_Work_withdrawOpen 23 = .ok (.iastore, 1) := by decide +kernel
theorem d_Work_withdrawOpen_24 : decode b_Work_withdrawOpen 24 = .ok (.iinc 3 1, 3) := by decide +kernel
theorem d_Work_withdrawOpen_27 : decode b_Work_withdrawOpen 27 = .ok (.goto (-25), 3) := by decide +kernel
theorem d_Work_withdrawOpen_30 : decode b_Work_withdrawOpen 30 = .ok (.return_, 1) := by decide +kernel
theorem d_CN_stop_0 : decode b_CN_stop 0 = .ok (.aload_n 0, 1) := by decide +kernel
theorem d_CN_stop_1 : decode b_CN_stop 1 = .ok (.getfield 19, 3) := by decide +kernel
theorem d_CN_stop_4 : decode b_CN_stop 4 = .ok (.aload_n 1, 1) := by decide +kernel
theorem d_CN_stop_5 : decode b_CN_stop 5 = .ok (.getfield 105, 3) := by decide +kernel
theorem d_CN_stop_8 : decode b_CN_stop 8 = .ok (.aload_n 1, 1) := by decide +kernel
theorem d_CN_stop_9 : decode b_CN_stop 9 = .ok (.getfield 85, 3) := by decide +kernel
theorem d_CN_stop_12 : decode b_CN_stop 12 = .ok (.invokevirtual 177, 3) := by decide +kernel
theorem d_CN_stop_15 : decode b_CN_stop 15 = .ok (.aload_n 0, 1) := by decide +kernel
theorem d_CN_stop_16 : decode b_CN_stop 16 = .ok (.dup, 1) := by decide +kernel
theorem d_CN_stop_17 : decode b_CN_stop 17 = .ok (.getfield 75, 3) := by decide +kernel
theorem d_CN_stop_20 : decode b_CN_stop 20 = .ok (.aload_n 1, 1) := by decide +kernel
theorem d_CN_stop_21 : decode b_CN_stop 21 = .ok (.getfield 95, 3) := by decide +kernel
theorem d_CN_stop_24 : decode b_CN_stop 24 = .ok (.iconst (-1), 1) := by decide +kernel
theorem d_CN_stop_25 : decode b_CN_stop 25 = .ok (.ixor, 1) := by decide +kernel
theorem d_CN_stop_26 : decode b_CN_stop 26 = .ok (.iand, 1) := by decide +kernel
theorem d_CN_stop_27 : decode b_CN_stop 27 = .ok (.putfield 75, 3) := by decide +kernel
theorem d_CN_stop_30 : decode b_CN_stop 30 = .ok (.return_, 1) := by decide +kernel
theorem d_CN_stopTasksAmong_0 : decode b_CN_stopTasksAmong 0 = .ok (.iconst 0, 1) := by decide +kernel
theorem d_CN_stopTasksAmong_1 : decode b_CN_stopTasksAmong 1 = .ok (.istore_n 2, 1) := by decide +kernel
theorem d_CN_stopTasksAmong_2 : decode b_CN_stopTasksAmong 2 = .ok (.iload_n 2, 1) := by decide +kernel
theorem d_CN_stopTasksAmong_3 : decode b_CN_stopTasksAmong 3 = .ok (.bipush 6, 2) := by decide +kernel
theorem d_CN_stopTasksAmong_5 : decode b_CN_stopTasksAmong 5 = .ok (.if_icmp .ge 38, 3) := by decide +kernel
theorem d_CN_stopTasksAmong_8 : decode b_CN_stopTasksAmong 8 = .ok (.aload_n 0, 1) := by decide +kernel
theorem d_CN_stopTasksAmong_9 : decode b_CN_stopTasksAmong 9 = .ok (.getfield 12, 3) := by decide +kernel
theorem d_CN_stopTasksAmong_12 : decode b_CN_stopTasksAmong 12 = .ok (.getfield 39, 3) := by decide +kernel
theorem d_CN_stopTasksAmong_15 : decode b_CN_stopTasksAmong 15 = .ok (.iload_n 2, 1) := by decide +kernel
theorem d_CN_stopTasksAmong_16 : decode b_CN_stopTasksAmong 16 = .ok (.aaload, 1) := by decide +kernel
theorem d_CN_stopTasksAmong_17 : decode b_CN_stopTasksAmong 17 = .ok (.astore_n 3, 1) := by decide +kernel
theorem d_CN_stopTasksAmong_18 : decode b_CN_stopTasksAmong 18 = .ok (.aload_n 0, 1) := by decide +kernel
theorem d_CN_stopTasksAmong_19 : decode b_CN_stopTasksAmong 19 = .ok (.getfield 75, 3) := by decide +kernel
theorem d_CN_stopTasksAmong_22 : decode b_CN_stopTasksAmong 22 = .ok (.iload_n 1, 1) := by decide +kernel
theorem d_CN_stopTasksAmong_23 : decode b_CN_stopTasksAmong 23 = .ok (.iand, 1) := by decide +kernel
theorem d_CN_stopTasksAmong_24 : decode b_CN_stopTasksAmong 24 = .ok (.aload_n 3, 1) := by decide +kernel
theorem d_CN_stopTasksAmong_25 : decode b_CN_stopTasksAmong 25 = .ok (.getfield 95, 3) := by decide +kernel
theorem d_CN_stopTasksAmong_28 : decode b_CN_stopTasksAmong 28 = .ok (.iand, 1) := by decide +kernel
theorem d_CN_stopTasksAmong_29 : decode b_CN_stopTasksAmong 29 = .ok (.ifCond .eq 8, 3) := by decide +kernel
theorem d_CN_stopTasksAmong_32 : decode b_CN_stopTasksAmong 32 = .ok (.aload_n 0, 1) := by decide +kernel
theorem d_CN_stopTasksAmong_33 : decode b_CN_stopTasksAmong 33 = .ok (.aload_n 3, 1) := by decide +kernel
theorem d_CN_stopTasksAmong_34 : decode b_CN_stopTasksAmong 34 = .ok (.invokevirtual 170, 3) := by decide +kernel
theorem d_CN_stopTasksAmong_37 : decode b_CN_stopTasksAmong 37 = .ok (.iinc 2 1, 3) := by decide +kernel
theorem d_CN_stopTasksAmong_40 : decode b_CN_stopTasksAmong 40 = .ok (.goto (-38), 3) := by decide +kernel
theorem d_CN_stopTasksAmong_43 : decode b_CN_stopTasksAmong 43 = .ok (.return_, 1) := by decide +kernel
theorem d_CN_cancel_0 : decode b_CN_cancel 0 = .ok (.aload_n 0, 1) := by decide +kernel
theorem d_CN_cancel_1 : decode b_CN_cancel 1 = .ok (.getfield 27, 3) := by decide +kernel
theorem d_CN_cancel_4 : decode b_CN_cancel 4 = .ok (.ifCond .ne 5, 3) := by decide +kernel
theorem d_CN_cancel_7 : decode b_CN_cancel 7 = .ok (.iconst 0, 1) := by decide +kernel
theorem d_CN_cancel_8 : decode b_CN_cancel 8 = .ok (.ireturn, 1) := by decide +kernel
theorem d_CN_cancel_9 : decode b_CN_cancel 9 = .ok (.aload_n 0, 1) := by decide +kernel
theorem d_CN_cancel_10 : decode b_CN_cancel 10 = .ok (.aload_n 0, 1) := by decide +kernel
theorem d_CN_cancel_11 : decode b_CN_cancel 11 = .ok (.getfield 75, 3) := by decide +kernel
theorem d_CN_cancel_14 : decode b_CN_cancel 14 = .ok (.invokevirtual 78, 3) := by decide +kernel
theorem d_CN_cancel_17 : decode b_CN_cancel 17 = .ok (.aload_n 0, 1) := by decide +kernel
theorem d_CN_cancel_18 : decode b_CN_cancel 18 = .ok (.iconst 0, 1) := by decide +kernel
theorem d_CN_cancel_19 : decode b_CN_cancel 19 = .ok (.putfield 75, 3) := by decide +kernel
theorem d_CN_cancel_22 : decode b_CN_cancel 22 = .ok (.aload_n 0, 1) := by decide +kernel
theorem d_CN_cancel_23 : decode b_CN_cancel 23 = .ok (.iconst 0, 1) := by decide +kernel
theorem d_CN_cancel_24 : decode b_CN_cancel 24 = .ok (.putfield 27, 3) := by decide +kernel
theorem d_CN_cancel_27 : decode b_CN_cancel 27 = .ok (.iconst 1, 1) := by decide +kernel
theorem d_CN_cancel_28 : decode b_CN_cancel 28 = .ok (.ireturn, 1) := by decide +kernel
theorem d_Arrays_fill_0 : decode b_Arrays_fill 0 = .ok (.iconst 0, 1) := by decide +kernel
theorem d_Arrays_fill_1 : decode b_Arrays_fill 1 = .ok (.istore_n 3, 1) := by decide +kernel
theorem d_Arrays_fill_2 : decode b_Arrays_fill 2 = .ok (.aload_n 0, 1) := by decide +kernel
theorem d_Arrays_fill_3 : decode b_Arrays_fill 3 = .ok (.arraylength, 1) := by decide +kernel
theorem d_Arrays_fill_4 : decode b_Arrays_fill 4 = .ok (.istore 4, 2) := by decide +kernel
theorem d_Arrays_fill_6 : decode b_Arrays_fill 6 = .ok (.iload_n 3, 1) := by decide +kernel
theorem d_Arrays_fill_7 : decode b_Arrays_fill 7 = .ok (.iload 4, 2) := by decide +kernel
theorem d_Arrays_fill_9 : decode b_Arrays_fill 9 = .ok (.if_icmp .ge 13, 3) := by decide +kernel
theorem d_Arrays_fill_12 : decode b_Arrays_fill 12 = .ok (.aload_n 0, 1) := by decide +kernel
theorem d_Arrays_fill_13 : decode b_Arrays_fill 13 = .ok (.iload_n 3, 1) := by decide +kernel
theorem d_Arrays_fill_14 : decode b_Arrays_fill 14 = .ok (.lload_n 1, 1) := by decide +kernel
theorem d_Arrays_fill_15 : decode b_Arrays_fill 15 = .ok (.lastore, 1) := by decide +kernel
theorem d_Arrays_fill_16 : decode b_Arrays_fill 16 = .ok (.iinc 3 1, 3) := by decide +kernel
theorem d_Arrays_fill_19 : decode b_Arrays_fill 19 = .ok (.goto (-13), 3) := by decide +kernel
theorem d_Arrays_fill_22 : decode b_Arrays_fill 22 = .ok (.return_, 1) := by decide +kernel
theorem d_MS_clear_0 : decode b_MS_clear 0 = .ok (.aload_n 0, 1) := by decide +kernel
theorem d_MS_clear_1 : decode b_MS_clear 1 = .ok (.getfield 11, 3) := by decide +kernel
theorem d_MS_clear_4 : decode b_MS_clear 4 = .ok (.lconst 0, 1) := by decide +kernel
theorem d_MS_clear_5 : decode b_MS_clear 5 = .ok (.invokestatic 19, 3) := by decide +kernel
theorem d_MS_clear_8 : decode b_MS_clear 8 = .ok (.aload_n 0, 1) := by decide +kernel
theorem d_MS_clear_9 : decode b_MS_clear 9 = .ok (.sipush 256, 3) := by decide +kernel
theorem d_MS_clear_12 : decode b_MS_clear 12 = .ok (.putfield 15, 3) := by decide +kernel
theorem d_MS_clear_15 : decode b_MS_clear 15 = .ok (.return_, 1) := by decide +kernel
theorem d_MS_has_0 : decode b_MS_has 0 = .ok (.aload_n 0, 1) := by decide +kernel
theorem d_MS_has_1 : decode b_MS_has 1 = .ok (.getfield 11, 3) := by decide +kernel
theorem d_MS_has_4 : decode b_MS_has 4 = .ok (.iload_n 1, 1) := by decide +kernel
theorem d_MS_has_5 : decode b_MS_has 5 = .ok (.bipush 6, 2) := by decide +kernel
theorem d_MS_has_7 : decode b_MS_has 7 = .ok (.ishr, 1) := by decide +kernel
theorem d_MS_has_8 : decode b_MS_has 8 = .ok (.laload, 1) := by decide +kernel
theorem d_MS_has_9 : decode b_MS_has 9 = .ok (.iload_n 1, 1) := by decide +kernel
theorem d_MS_has_10 : decode b_MS_has 10 = .ok (.bipush 63, 2) := by decide +kernel
theorem d_MS_has_12 : decode b_MS_has 12 = .ok (.iand, 1) := by decide +kernel
theorem d_MS_has_13 : decode b_MS_has 13 = .ok (.lushr, 1) := by decide +kernel
theorem d_MS_has_14 : decode b_MS_has 14 = .ok (.lconst 1, 1) := by decide +kernel
theorem d_MS_has_15 : decode b_MS_has 15 = .ok (.land, 1) := by decide +kernel
theorem d_MS_has_16 : decode b_MS_has 16 = .ok (.lconst 0, 1) := by decide +kernel
theorem d_MS_has_17 : decode b_MS_has 17 = .ok (.lcmp, 1) := by decide +kernel
theorem d_MS_has_18 : decode b_MS_has 18 = .ok (.ifCond .eq 7, 3) := by decide +kernel
theorem d_MS_has_21 : decode b_MS_has 21 = .ok (.iconst 1, 1) := by decide +kernel
theorem d_MS_has_22 : decode b_MS_has 22 = .ok (.goto 4, 3) := by decide +kernel
theorem d_MS_has_25 : decode b_MS_has 25 = .ok (.iconst 0, 1) := by decide +kernel
theorem d_MS_has_26 : decode b_MS_has 26 = .ok (.ireturn, 1) := by decide +kernel
theorem d_MS_addAllAbove_0 : decode b_MS_addAllAbove 0 = .ok (.ldc2_w 25, 3) := by decide +kernel
theorem d_MS_addAllAbove_3 : decode b_MS_addAllAbove 3 = .ok (.lstore_n 2, 1) := by decide +kernel
theorem d_MS_addAllAbove_4 : decode b_MS_addAllAbove 4 = .ok (.iconst 0, 1) := by decide +kernel
theorem d_MS_addAllAbove_5 : decode b_MS_addAllAbove 5 = .ok (.istore 4, 2) := by decide +kernel
theorem d_MS_addAllAbove_7 : decode b_MS_addAllAbove 7 = .ok (.iload 4, 2) := by decide +kernel
theorem d_MS_addAllAbove_9 : decode b_MS_addAllAbove 9 = .ok (.bipush 6, 2) := by decide +kernel
theorem d_MS_addAllAbove_11 : decode b_MS_addAllAbove 11 = .ok (.if_icmp .ge 27, 3) := by decide +kernel
theorem d_MS_addAllAbove_14 : decode b_MS_addAllAbove 14 = .ok (.iload_n 1, 1) := by decide +kernel
theorem d_MS_addAllAbove_15 : decode b_MS_addAllAbove 15 = .ok (.iconst 1, 1) := by decide +kernel
theorem d_MS_addAllAbove_16 : decode b_MS_addAllAbove 16 = .ok (.iload 4, 2) := by decide +kernel
theorem d_MS_addAllAbove_18 : decode b_MS_addAllAbove 18 = .ok (.ishl, 1) := by decide +kernel
theorem d_MS_addAllAbove_19 : decode b_MS_addAllAbove 19 = .ok (.iand, 1) := by decide +kernel
theorem d_MS_addAllAbove_20 : decode b_MS_addAllAbove 20 = .ok (.ifCond .eq 12, 3) := by decide +kernel
theorem d_MS_addAllAbove_23 : decode b_MS_addAllAbove 23 = .ok (.lload_n 2, 1) := by decide +kernel
theorem d_MS_addAllAbove_24 : decode b_MS_addAllAbove 24 = .ok (.getstatic 27, 3) := by decide +kernel
theorem d_MS_addAllAbove_27 : decode b_MS_addAllAbove 27 = .ok (.iload 4, 2) := by decide +kernel
theorem d_MS_addAllAbove_29 : decode b_MS_addAllAbove 29 = .ok (.laload, 1) := by decide +kernel
theorem d_MS_addAllAbove_30 : decode b_MS_addAllAbove 30 = .ok (.land, 1) := by decide +kernel
theorem d_MS_addAllAbove_31 : decode b_MS_addAllAbove 31 = .ok (.lstore_n 2, 1) := by decide +kernel
theorem d_MS_addAllAbove_32 : decode b_MS_addAllAbove 32 = .ok (.iinc 4 1, 3) := by decide +kernel
theorem d_MS_addAllAbove_35 : decode b_MS_addAllAbove 35 = .ok (.goto (-28), 3) := by decide +kernel
theorem d_MS_addAllAbove_38 : decode b_MS_addAllAbove 38 = .ok (.iload_n 1, 1) := by decide +kernel
theorem d_MS_addAllAbove_39 : decode b_MS_addAllAbove 39 = .ok (.bipush 6, 2) := by decide +kernel
theorem d_MS_addAllAbove_41 : decode b_MS_addAllAbove 41 = .ok (.ishr, 1) := by decide +kernel
theorem d_MS_addAllAbove_42 : decode b_MS_addAllAbove 42 = .ok (.istore 4, 2) := by decide +kernel
theorem d_MS_addAllAbove_44 : decode b_MS_addAllAbove 44 = .ok (.iload 4, 2) := by decide +kernel
theorem d_MS_addAllAbove_46 : decode b_MS_addAllAbove 46 = .ok (.istore 5, 2) := by decide +kernel
theorem d_MS_addAllAbove_48 : decode b_MS_addAllAbove 48 = .ok (.iload 5, 2) := by decide +kernel
theorem d_MS_addAllAbove_50 : decode b_MS_addAllAbove 50 = .ok (.sipush 256, 3) := by decide +kernel
theorem d_MS_addAllAbove_53 : decode b_MS_addAllAbove 53 = .ok (.if_icmp .ge 26, 3) := by decide +kernel
theorem d_MS_addAllAbove_56 : decode b_MS_addAllAbove 56 = .ok (.aload_n 0, 1) := by decide +kernel
theorem d_MS_addAllAbove_57 : decode b_MS_addAllAbove 57 = .ok (.getfield 11, 3) := by decide +kernel
theorem d_MS_addAllAbove_60 : decode b_MS_addAllAbove 60 = .ok (.iload 5, 2) := by decide +kernel
theorem d_MS_addAllAbove_62 : decode b_MS_addAllAbove 62 = .ok (.dup2, 1) := by decide +kernel
theorem d_MS_addAllAbove_63 : decode b_MS_addAllAbove 63 = .ok (.laload, 1) := by decide +kernel
theorem d_MS_addAllAbove_64 : decode b_MS_addAllAbove 64 = .ok (.lload_n 2, 1) := by decide +kernel
theorem d_MS_addAllAbove_65 : decode b_MS_addAllAbove 65 = .ok (.lor, 1) := by decide +kernel
theorem d_MS_addAllAbove_66 : decode b_MS_addAllAbove 66 = .ok (.lastore, 1) := by decide +kernel
theorem d_MS_addAllAbove_67 : decode b_MS_addAllAbove 67 = .ok (.iload 5, 2) := by decide +kernel
theorem d_MS_addAllAbove_69 : decode b_MS_addAllAbove 69 = .ok (.iconst 1, 1) := by decide +kernel
theorem d_MS_addAllAbove_70 : decode b_MS_addAllAbove 70 = .ok (.iadd, 1) := by decide +kernel
theorem d_MS_addAllAbove_71 : decode b_MS_addAllAbove 71 = .ok (.iload 4, 2) := by decide +kernel
theorem d_MS_addAllAbove_73 : decode b_MS_addAllAbove 73 = .ok (.ior, 1) := by decide +kernel
theorem d_MS_addAllAbove_74 : decode b_MS_addAllAbove 74 = .ok (.istore 5, 2) := by decide +kernel
theorem d_MS_addAllAbove_76 : decode b_MS_addAllAbove 76 = .ok (.goto (-28), 3) := by decide +kernel
theorem d_MS_addAllAbove_79 : decode b_MS_addAllAbove 79 = .ok (.aload_n 0, 1) := by decide +kernel
theorem d_MS_addAllAbove_80 : decode b_MS_addAllAbove 80 = .ok (.iload 4, 2) := by decide +kernel
theorem d_MS_addAllAbove_82 : decode b_MS_addAllAbove 82 = .ok (.aload_n 0, 1) := by decide +kernel
theorem d_MS_addAllAbove_83 : decode b_MS_addAllAbove 83 = .ok (.getfield 15, 3) := by decide +kernel
theorem d_MS_addAllAbove_86 : decode b_MS_addAllAbove 86 = .ok (.if_icmp .ge 8, 3) := by decide +kernel
theorem d_MS_addAllAbove_89 : decode b_MS_addAllAbove 89 = .ok (.iload 4, 2) := by decide +kernel
theorem d_MS_addAllAbove_91 : decode b_MS_addAllAbove 91 = .ok (.goto 7, 3) := by decide +kernel
theorem d_MS_addAllAbove_94 : decode b_MS_addAllAbove 94 = .ok (.aload_n 0, 1) := by decide +kernel
theorem d_MS_addAllAbove_95 : decode b_MS_addAllAbove 95 = .ok (.getfield 15, 3) := by decide +kernel
theorem d_MS_addAllAbove_98 : decode b_MS_addAllAbove 98 = .ok (.putfield 15, 3) := by decide +kernel
theorem d_MS_addAllAbove_101 : decode b_MS_addAllAbove 101 = .ok (.return_, 1) := by decide +kernel
theorem d_MS_add_0 : decode b_MS_add 0 = .ok (.iload_n 1, 1) := by decide +kernel
theorem d_MS_add_1 : decode b_MS_add 1 = .ok (.bipush 6, 2) := by decide +kernel
theorem d_MS_add_3 : decode b_MS_add 3 = .ok (.ishr, 1) := by decide +kernel
theorem d_MS_add_4 : decode b_MS_add 4 = .ok (.istore_n 2, 1) := by decide +kernel
theorem d_MS_add_5 : decode b_MS_add 5 = .ok (.aload_n 0, 1) := by decide +kernel
theorem d_MS_add_6 : decode b_MS_add 6 = .ok (.getfield 11, 3) := by decide +kernel
theorem d_MS_add_9 : decode b_MS_add 9 = .ok (.iload_n 2, 1) := by decide +kernel
theorem d_MS_add_10 : decode b_MS_add 10 = .ok (.dup2, 1) := by decide +kernel
theorem d_MS_add_11 : decode b_MS_add 11 = .ok (.laload, 1) := by decide +kernel
theorem d_MS_add_12 : decode b_MS_add 12 = .ok (.lconst 1, 1) := by decide +kernel
theorem d_MS_add_13 : decode b_MS_add 13 = .ok (.iload_n 1, 1) := by decide +kernel
theorem d_MS_add_14 : decode b_MS_add 14 = .ok (.bipush 63, 2) := by decide +kernel
theorem d_MS_add_16 : decode b_MS_add 16 = .ok (.iand, 1) := by decide +kernel
theorem d_MS_add_17 : decode b_MS_add 17 = .ok (.lshl, 1) := by decide +kernel
theorem d_MS_add_18 : decode b_MS_add 18 = .ok (.lor, 1) := by decide +kernel
theorem d_MS_add_19 : decode b_MS_add 19 = .ok (.lastore, 1) := by decide +kernel
theorem d_MS_add_20 : decode b_MS_add 20 = .ok (.aload_n 0, 1) := by decide +kernel
theorem d_MS_add_21 : decode b_MS_add 21 = .ok (.iload_n 2, 1) := by decide +kernel
theorem d_MS_add_22 : decode b_MS_add 22 = .ok (.aload_n 0, 1) := by decide +kernel
theorem d_MS_add_23 : decode b_MS_add 23 = .ok (.getfield 15, 3) := by decide +kernel
theorem d_MS_add_26 : decode b_MS_add 26 = .ok (.if_icmp .ge 7, 3) := by decide +kernel
theorem d_MS_add_29 : decode b_MS_add 29 = .ok (.iload_n 2, 1) := by decide +kernel
theorem d_MS_add_30 : decode b_MS_add 30 = .ok (.goto 7, 3) := by decide +kernel
theorem d_MS_add_33 : decode b_MS_add 33 = .ok (.aload_n 0, 1) := by decide +kernel
theorem d_MS_add_34 : decode b_MS_add 34 = .ok (.getfield 15, 3) := by decide +kernel
theorem d_MS_add_37 : decode b_MS_add 37 = .ok (.putfield 15, 3) := by decide +kernel
theorem d_MS_add_40 : decode b_MS_add 40 = .ok (.return_, 1) := by decide +kernel
theorem d_Net_addNeed_0 : decode b_Net_addNeed 0 = .ok (.aload_n 0, 1) := by decide +kernel
theorem d_Net_addNeed_1 : decode b_Net_addNeed 1 = .ok (.getfield 27, 3) := by decide +kernel
theorem d_Net_addNeed_4 : decode b_Net_addNeed 4 = .ok (.iload_n 1, 1) := by decide +kernel
theorem d_Net_addNeed_5 : decode b_Net_addNeed 5 = .ok (.invokevirtual 75, 3) := by decide +kernel
theorem d_Net_addNeed_8 : decode b_Net_addNeed 8 = .ok (.ifCond .ne 19, 3) := by decide +kernel
theorem d_Net_addNeed_11 : decode b_Net_addNeed 11 = .ok (.aload_n 0, 1) := by decide +kernel
theorem d_Net_addNeed_12 : decode b_Net_addNeed 12 = .ok (.getfield 27, 3) := by decide +kernel
theorem d_Net_addNeed_15 : decode b_Net_addNeed 15 = .ok (.iload_n 1, 1) := by decide +kernel
theorem d_Net_addNeed_16 : decode b_Net_addNeed 16 = .ok (.invokevirtual 108, 3) := by decide +kernel
theorem d_Net_addNeed_19 : decode b_Net_addNeed 19 = .ok (.aload_n 0, 1) := by decide +kernel
theorem d_Net_addNeed_20 : decode b_Net_addNeed 20 = .ok (.getfield 20, 3) := by decide +kernel
theorem d_Net_addNeed_23 : decode b_Net_addNeed 23 = .ok (.iload_n 1, 1) := by decide +kernel
theorem d_Net_addNeed_24 : decode b_Net_addNeed 24 = .ok (.invokevirtual 111, 3) := by decide +kernel
theorem d_Net_addNeed_27 : decode b_Net_addNeed 27 = .ok (.return_, 1) := by decide +kernel
theorem d_Long_bitCount_0 : decode b_Long_bitCount 0 = .ok (.lload_n 0, 1) := by decide +kernel
theorem d_Long_bitCount_1 : decode b_Long_bitCount 1 = .ok (.lload_n 0, 1) := by decide +kernel
theorem d_Long_bitCount_2 : decode b_Long_bitCount 2 = .ok (.iconst 1, 1) := by decide +kernel
theorem d_Long_bitCount_3 : decode b_Long_bitCount 3 = .ok (.lushr, 1) := by decide +kernel
theorem d_Long_bitCount_4 : decode b_Long_bitCount 4 = .ok (.ldc2_w 314, 3) := by decide +kernel
theorem d_Long_bitCount_7 : decode b_Long_bitCount 7 = .ok (.land, 1) := by decide +kernel
theorem d_Long_bitCount_8 : decode b_Long_bitCount 8 = .ok (.lsub, 1) := by decide +kernel
theorem d_Long_bitCount_9 : decode b_Long_bitCount 9 = .ok (.lstore_n 0, 1) := by decide +kernel
theorem d_Long_bitCount_10 : decode b_Long_bitCount 10 = .ok (.lload_n 0, 1) := by decide +kernel
theorem d_Long_bitCount_11 : decode b_Long_bitCount 11 = .ok (.ldc2_w 316, 3) := by decide +kernel
theorem d_Long_bitCount_14 : decode b_Long_bitCount 14 = .ok (.land, 1) := by decide +kernel
theorem d_Long_bitCount_15 : decode b_Long_bitCount 15 = .ok (.lload_n 0, 1) := by decide +kernel
theorem d_Long_bitCount_16 : decode b_Long_bitCount 16 = .ok (.iconst 2, 1) := by decide +kernel
theorem d_Long_bitCount_17 : decode b_Long_bitCount 17 = .ok (.lushr, 1) := by decide +kernel
theorem d_Long_bitCount_18 : decode b_Long_bitCount 18 = .ok (.ldc2_w 316, 3) := by decide +kernel
theorem d_Long_bitCount_21 : decode b_Long_bitCount 21 = .ok (.land, 1) := by decide +kernel
theorem d_Long_bitCount_22 : decode b_Long_bitCount 22 = .ok (.ladd, 1) := by decide +kernel
theorem d_Long_bitCount_23 : decode b_Long_bitCount 23 = .ok (.lstore_n 0, 1) := by decide +kernel
theorem d_Long_bitCount_24 : decode b_Long_bitCount 24 = .ok (.lload_n 0, 1) := by decide +kernel
theorem d_Long_bitCount_25 : decode b_Long_bitCount 25 = .ok (.lload_n 0, 1) := by decide +kernel
theorem d_Long_bitCount_26 : decode b_Long_bitCount 26 = .ok (.iconst 4, 1) := by decide +kernel
theorem d_Long_bitCount_27 : decode b_Long_bitCount 27 = .ok (.lushr, 1) := by decide +kernel
theorem d_Long_bitCount_28 : decode b_Long_bitCount 28 = .ok (.ladd, 1) := by decide +kernel
theorem d_Long_bitCount_29 : decode b_Long_bitCount 29 = .ok (.ldc2_w 318, 3) := by decide +kernel
theorem d_Long_bitCount_32 : decode b_Long_bitCount 32 = .ok (.land, 1) := by decide +kernel
theorem d_Long_bitCount_33 : decode b_Long_bitCount 33 = .ok (.lstore_n 0, 1) := by decide +kernel
theorem d_Long_bitCount_34 : decode b_Long_bitCount 34 = .ok (.lload_n 0, 1) := by decide +kernel
theorem d_Long_bitCount_35 : decode b_Long_bitCount 35 = .ok (.lload_n 0, 1) := by decide +kernel
theorem d_Long_bitCount_36 : decode b_Long_bitCount 36 = .ok (.bipush 8, 2) := by decide +kernel
theorem d_Long_bitCount_38 : decode b_Long_bitCount 38 = .ok (.lushr, 1) := by decide +kernel
theorem d_Long_bitCount_39 : decode b_Long_bitCount 39 = .ok (.ladd, 1) := by decide +kernel
theorem d_Long_bitCount_40 : decode b_Long_bitCount 40 = .ok (.lstore_n 0, 1) := by decide +kernel
theorem d_Long_bitCount_41 : decode b_Long_bitCount 41 = .ok (.lload_n 0, 1) := by decide +kernel
theorem d_Long_bitCount_42 : decode b_Long_bitCount 42 = .ok (.lload_n 0, 1) := by decide +kernel
theorem d_Long_bitCount_43 : decode b_Long_bitCount 43 = .ok (.bipush 16, 2) := by decide +kernel
theorem d_Long_bitCount_45 : decode b_Long_bitCount 45 = .ok (.lushr, 1) := by decide +kernel
theorem d_Long_bitCount_46 : decode b_Long_bitCount 46 = .ok (.ladd, 1) := by decide +kernel
theorem d_Long_bitCount_47 : decode b_Long_bitCount 47 = .ok (.lstore_n 0, 1) := by decide +kernel
theorem d_Long_bitCount_48 : decode b_Long_bitCount 48 = .ok (.lload_n 0, 1) := by decide +kernel
theorem d_Long_bitCount_49 : decode b_Long_bitCount 49 = .ok (.lload_n 0, 1) := by decide +kernel
theorem d_Long_bitCount_50 : decode b_Long_bitCount 50 = .ok (.bipush 32, 2) := by decide +kernel
theorem d_Long_bitCount_52 : decode b_Long_bitCount 52 = .ok (.lushr, 1) := by decide +kernel
theorem d_Long_bitCount_53 : decode b_Long_bitCount 53 = .ok (.ladd, 1) := by decide +kernel
theorem d_Long_bitCount_54 : decode b_Long_bitCount 54 = .ok (.lstore_n 0, 1) := by decide +kernel
theorem d_Long_bitCount_55 : decode b_Long_bitCount 55 = .ok (.lload_n 0, 1) := by decide +kernel
theorem d_Long_bitCount_56 : decode b_Long_bitCount 56 = .ok (.l2i, 1) := by decide +kernel
theorem d_Long_bitCount_57 : decode b_Long_bitCount 57 = .ok (.bipush 127, 2) := by decide +kernel
theorem d_Long_bitCount_59 : decode b_Long_bitCount 59 = .ok (.iand, 1) := by decide +kernel
theorem d_Long_bitCount_60 : decode b_Long_bitCount 60 = .ok (.ireturn, 1) := by decide +kernel
theorem d_MS_draw_0 : decode b_MS_draw 0 = .ok (.aload_n 0, 1) := by decide +kernel
theorem d_MS_draw_1 : decode b_MS_draw 1 = .ok (.getfield 15, 3) := by decide +kernel
theorem d_MS_draw_4 : decode b_MS_draw 4 = .ok (.sipush 256, 3) := by decide +kernel
theorem d_MS_draw_7 : decode b_MS_draw 7 = .ok (.if_icmp .ge 64, 3) := by decide +kernel
theorem d_MS_draw_10 : decode b_MS_draw 10 = .ok (.aload_n 0, 1) := by decide +kernel
theorem d_MS_draw_11 : decode b_MS_draw 11 = .ok (.getfield 11, 3) := by decide +kernel
theorem d_MS_draw_14 : decode b_MS_draw 14 = .ok (.aload_n 0, 1) := by decide +kernel
theorem d_MS_draw_15 : decode b_MS_draw 15 = .ok (.getfield 15, 3) := by decide +kernel
theorem d_MS_draw_18 : decode b_MS_draw 18 = .ok (.laload, 1) := by decide +kernel
theorem d_MS_draw_19 : decode b_MS_draw 19 = .ok (.lstore_n 1, 1) := by decide +kernel
theorem d_MS_draw_20 : decode b_MS_draw 20 = .ok (.lload_n 1, 1) := by decide +kernel
theorem d_MS_draw_21 : decode b_MS_draw 21 = .ok (.lconst 0, 1) := by decide +kernel
theorem d_MS_draw_22 : decode b_MS_draw 22 = .ok (.lcmp, 1) := by decide +kernel
theorem d_MS_draw_23 : decode b_MS_draw 23 = .ok (.ifCond .eq 35, 3) := by decide +kernel
theorem d_MS_draw_26 : decode b_MS_draw 26 = .ok (.lload_n 1, 1) := by decide +kernel
theorem d_MS_draw_27 : decode b_MS_draw 27 = .ok (.lload_n 1, 1) := by decide +kernel
theorem d_MS_draw_28 : decode b_MS_draw 28 = .ok (.lneg, 1) := by decide +kernel
theorem d_MS_draw_29 : decode b_MS_draw 29 = .ok (.land, 1) := by decide +kernel
theorem d_MS_draw_30 : decode b_MS_draw 30 = .ok (.lstore_n 3, 1) := by decide +kernel
theorem d_MS_draw_31 : decode b_MS_draw 31 = .ok (.aload_n 0, 1) := by decide +kernel
theorem d_MS_draw_32 : decode b_MS_draw 32 = .ok (.getfield 11, 3) := by decide +kernel
theorem d_MS_draw_35 : decode b_MS_draw 35 = .ok (.aload_n 0, 1) := by decide +kernel
theorem d_MS_draw_36 : decode b_MS_draw 36 = .ok (.getfield 15, 3) := by decide +kernel
theorem d_MS_draw_39 : decode b_MS_draw 39 = .ok (.lload_n 1, 1) := by decide +kernel
theorem d_MS_draw_40 : decode b_MS_draw 40 = .ok (.lload_n 3, 1) := by decide +kernel
theorem d_MS_draw_41 : decode b_MS_draw 41 = .ok (.lxor, 1) := by decide +kernel
theorem d_MS_draw_42 : decode b_MS_draw 42 = .ok (.lastore, 1) := by decide +kernel
theorem d_MS_draw_43 : decode b_MS_draw 43 = .ok (.aload_n 0, 1) := by decide +kernel
theorem d_MS_draw_44 : decode b_MS_draw 44 = .ok (.getfield 15, 3) := by decide +kernel
theorem d_MS_draw_47 : decode b_MS_draw 47 = .ok (.bipush 6, 2) := by decide +kernel
theorem d_MS_draw_49 : decode b_MS_draw 49 = .ok (.ishl, 1) := by decide +kernel
theorem d_MS_draw_50 : decode b_MS_draw 50 = .ok (.lload_n 3, 1) := by decide +kernel
theorem d_MS_draw_51 : decode b_MS_draw 51 = .ok (.lconst 1, 1) := by decide +kernel
theorem d_MS_draw_52 : decode b_MS_draw 52 = .ok (.lsub, 1) := by decide +kernel
theorem d_MS_draw_53 : decode b_MS_draw 53 = .ok (.invokestatic 30, 3) := by decide +kernel
theorem d_MS_draw_56 : decode b_MS_draw 56 = .ok (.iadd, 1) := by decide +kernel
theorem d_MS_draw_57 : decode b_MS_draw 57 = .ok (.ireturn, 1) := by decide +kernel
theorem d_MS_draw_58 : decode b_MS_draw 58 = .ok (.aload_n 0, 1) := by decide +kernel
theorem d_MS_draw_59 : decode b_MS_draw 59 = .ok (.dup, 1) := by decide +kernel
theorem d_MS_draw_60 : decode b_MS_draw 60 = .ok (.getfield 15, 3) := by decide +kernel
theorem d_MS_draw_63 : decode b_MS_draw 63 = .ok (.iconst 1, 1) := by decide +kernel
theorem d_MS_draw_64 : decode b_MS_draw 64 = .ok (.iadd, 1) := by decide +kernel
theorem d_MS_draw_65 : decode b_MS_draw 65 = .ok (.putfield 15, 3) := by decide +kernel
theorem d_MS_draw_68 : decode b_MS_draw 68 = .ok (.goto (-68), 3) := by decide +kernel
theorem d_MS_draw_71 : decode b_MS_draw 71 = .ok (.iconst (-1), 1) := by decide +kernel
theorem d_MS_draw_72 : decode b_MS_draw 72 = .ok (.ireturn, 1) := by decide +kernel
theorem d_Net_goBackBeforeEnd_0 : decode b_Net_goBackBeforeEnd 0 = .ok (.aload_n 1, 1) := by decide +kernel
theorem d_Net_goBackBeforeEnd_1 : decode b_Net_goBackBeforeEnd 1 = .ok (.getfield 89, 3) := by decide +kernel
theorem d_Net_goBackBeforeEnd_4 : decode b_Net_goBackBeforeEnd 4 = .ok (.aload_n 1, 1) := by decide +kernel
theorem d_Net_goBackBeforeEnd_5 : decode b_Net_goBackBeforeEnd 5 = .ok (.getfield 92, 3) := by decide +kernel
theorem d_Net_goBackBeforeEnd_8 : decode b_Net_goBackBeforeEnd 8 = .ok (.ior, 1) := by decide +kernel
theorem d_Net_goBackBeforeEnd_9 : decode b_Net_goBackBeforeEnd 9 = .ok (.istore_n 3, 1) := by decide +kernel
theorem d_Net_goBackBeforeEnd_10 : decode b_Net_goBackBeforeEnd 10 = .ok (.iconst 0, 1) := by decide +kernel
theorem d_Net_goBackBeforeEnd_11 : decode b_Net_goBackBeforeEnd 11 = .ok (.istore 4, 2) := by decide +kernel
theorem d_Net_goBackBeforeEnd_13 : decode b_Net_goBackBeforeEnd 13 = .ok (.iload 4, 2) := by decide +kernel
theorem d_Net_goBackBeforeEnd_15 : decode b_Net_goBackBeforeEnd 15 = .ok (.aload_n 1, 1) := by decide +kernel
theorem d_Net_goBackBeforeEnd_16 : decode b_Net_goBackBeforeEnd 16 = .ok (.getfield 95, 3) := by decide +kernel
theorem d_Net_goBackBeforeEnd_19 : decode b_Net_goBackBeforeEnd 19 = .ok (.if_icmp .ge 46, 3) := by decide +kernel
theorem d_Net_goBackBeforeEnd_22 : decode b_Net_goBackBeforeEnd 22 = .ok (.iload_n 2, 1) := by decide +kernel
theorem d_Net_goBackBeforeEnd_23 : decode b_Net_goBackBeforeEnd 23 = .ok (.aload_n 1, 1) := by decide +kernel
theorem d_Net_goBackBeforeEnd_24 : decode b_Net_goBackBeforeEnd 24 = .ok (.getfield 98, 3) := by decide +kernel
theorem d_Net_goBackBeforeEnd_27 : decode b_Net_goBackBeforeEnd 27 = .ok (.iload 4, 2) := by decide +kernel
theorem d_Net_goBackBeforeEnd_29 : decode b_Net_goBackBeforeEnd 29 = .ok (.iaload, 1) := by decide +kernel
theorem d_Net_goBackBeforeEnd_30 : decode b_Net_goBackBeforeEnd 30 = .ok (.iconst (-1), 1) := by decide +kernel
theorem d_Net_goBackBeforeEnd_31 : decode b_Net_goBackBeforeEnd 31 = .ok (.ixor, 1) := by decide +kernel
theorem d_Net_goBackBeforeEnd_32 : decode b_Net_goBackBeforeEnd 32 = .ok (.iand, 1) := by decide +kernel
theorem d_Net_goBackBeforeEnd_33 : decode b_Net_goBackBeforeEnd 33 = .ok (.istore 5, 2) := by decide +kernel
theorem d_Net_goBackBeforeEnd_35 : decode b_Net_goBackBeforeEnd 35 = .ok (.iload 5, 2) := by decide +kernel
theorem d_Net_goBackBeforeEnd_37 : decode b_Net_goBackBeforeEnd 37 = .ok (.iload_n 2, 1) := by decide +kernel
theorem d_Net_goBackBeforeEnd_38 : decode b_Net_goBackBeforeEnd 38 = .ok (.if_icmp .eq 21, 3) := by decide +kernel
theorem d_Net_goBackBeforeEnd_41 : decode b_Net_goBackBeforeEnd 41 = .ok (.iload 5, 2) := by decide +kernel
theorem d_Net_goBackBeforeEnd_43 : decode b_Net_goBackBeforeEnd 43 = .ok (.iload_n 3, 1) := by decide +kernel
theorem d_Net_goBackBeforeEnd_44 : decode b_Net_goBackBeforeEnd 44 = .ok (.iand, 1) := by decide +kernel
theorem d_Net_goBackBeforeEnd_45 : decode b_Net_goBackBeforeEnd 45 = .ok (.ifCond .ne 14, 3) := by decide +kernel
theorem d_Net_goBackBeforeEnd_48 : decode b_Net_goBackBeforeEnd 48 = .ok (.aload_n 0, 1) := by decide +kernel
theorem d_Net_goBackBeforeEnd_49 : decode b_Net_goBackBeforeEnd 49 = .ok (.iload 5, 2) := by decide +kernel
theorem d_Net_goBackBeforeEnd_51 : decode b_Net_goBackBeforeEnd 51 = .ok (.aload_n 1, 1) := by decide +kernel
theorem d_Net_goBackBeforeEnd_52 : decode b_Net_goBackBeforeEnd 52 = .ok (.getfield 92, 3) := by decide +kernel
theorem d_Net_goBackBeforeEnd_55 : decode b_Net_goBackBeforeEnd 55 = .ok (.ior, 1) := by decide +kernel
theorem d_Net_goBackBeforeEnd_56 : decode b_Net_goBackBeforeEnd 56 = .ok (.invokevirtual 72, 3) := by decide +kernel
theorem d_Net_goBackBeforeEnd_59 : decode b_Net_goBackBeforeEnd 59 = .ok (.iinc 4 1, 3) := by decide +kernel
theorem d_Net_goBackBeforeEnd_62 : decode b_Net_goBackBeforeEnd 62 = .ok (.goto (-49), 3) := by decide +kernel
theorem d_Net_goBackBeforeEnd_65 : decode b_Net_goBackBeforeEnd 65 = .ok (.return_, 1) := by decide +kernel
