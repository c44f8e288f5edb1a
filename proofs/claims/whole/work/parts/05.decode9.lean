theorem d_Md_start_0 : decode b_Md_start 0 = .ok (.aload_n 0, 1) := by decide +kernel
theorem d_Md_start_1 : decode b_Md_start 1 = .ok (.iload_n 1, 1) := by decide +kernel
theorem d_Md_start_2 : decode b_Md_start 2 = .ok (.invokevirtual 146, 3) := by decide +kernel
theorem d_Md_start_5 : decode b_Md_start 5 = .ok (.ifCond .ne 5, 3) := by decide +kernel
theorem d_Md_start_8 : decode b_Md_start 8 = .ok (.iconst (-1), 1) := by decide +kernel
theorem d_Md_start_9 : decode b_Md_start 9 = .ok (.ireturn, 1) := by decide +kernel
theorem d_Md_start_10 : decode b_Md_start 10 = .ok (.aload_n 0, 1) := by decide +kernel
theorem d_Md_start_11 : decode b_Md_start 11 = .ok (.getfield 62, 3) := by decide +kernel
theorem d_Md_start_14 : decode b_Md_start 14 = .ok (.iload_n 1, 1) := by decide +kernel
theorem d_Md_start_15 : decode b_Md_start 15 = .ok (.iaload, 1) := by decide +kernel
theorem d_Md_start_16 : decode b_Md_start 16 = .ok (.iconst 1, 1) := by decide +kernel
theorem d_Md_start_17 : decode b_Md_start 17 = .ok (.if_icmp .eq 6, 3) := by decide +kernel
theorem d_Md_start_20 : decode b_Md_start 20 = .ok (.bipush (-2), 2) := by decide +kernel
theorem d_Md_start_22 : decode b_Md_start 22 = .ok (.ireturn, 1) := by decide +kernel
theorem d_Md_start_23 : decode b_Md_start 23 = .ok (.aload_n 0, 1) := by decide +kernel
theorem d_Md_start_24 : decode b_Md_start 24 = .ok (.getfield 62, 3) := by decide +kernel
theorem d_Md_start_27 : decode b_Md_start 27 = .ok (.iload_n 1, 1) := by decide +kernel
theorem d_Md_start_28 : decode b_Md_start 28 = .ok (.iconst 2, 1) := by decide +kernel
theorem d_Md_start_29 : decode b_Md_start 29 = .ok (.iastore, 1) := by decide +kernel
theorem d_Md_start_30 : decode b_Md_start 30 = .ok (.iconst 0, 1) := by decide +kernel
theorem d_Md_start_31 : decode b_Md_start 31 = .ok (.ireturn, 1) := by decide +kernel
theorem d_Md_finish_0 : decode b_Md_finish 0 = .ok (.aload_n 0, 1) := by decide +kernel
theorem d_Md_finish_1 : decode b_Md_finish 1 = .ok (.iload_n 1, 1) := by decide +kernel
theorem d_Md_finish_2 : decode b_Md_finish 2 = .ok (.invokevirtual 146, 3) := by decide +kernel
theorem d_Md_finish_5 : decode b_Md_finish 5 = .ok (.ifCond .ne 5, 3) := by decide +kernel
theorem d_Md_finish_8 : decode b_Md_finish 8 = .ok (.iconst (-1), 1) := by decide +kernel
theorem d_Md_finish_9 : decode b_Md_finish 9 = .ok (.ireturn, 1) := by decide +kernel
theorem d_Md_finish_10 : decode b_Md_finish 10 = .ok (.aload_n 0, 1) := by decide +kernel
theorem d_Md_finish_11 : decode b_Md_finish 11 = .ok (.getfield 62, 3) := by decide +kernel
theorem d_Md_finish_14 : decode b_Md_finish 14 = .ok (.iload_n 1, 1) := by decide +kernel
theorem d_Md_finish_15 : decode b_Md_finish 15 = .ok (.iaload, 1) := by decide +kernel
theorem d_Md_finish_16 : decode b_Md_finish 16 = .ok (.iconst 2, 1) := by decide +kernel
theorem d_Md_finish_17 : decode b_Md_finish 17 = .ok (.if_icmp .eq 6, 3) := by decide +kernel
theorem d_Md_finish_20 : decode b_Md_finish 20 = .ok (.bipush (-2), 2) := by decide +kernel
theorem d_Md_finish_22 : decode b_Md_finish 22 = .ok (.ireturn, 1) := by decide +kernel
theorem d_Md_finish_23 : decode b_Md_finish 23 = .ok (.aload_n 0, 1) := by decide +kernel
theorem d_Md_finish_24 : decode b_Md_finish 24 = .ok (.getfield 59, 3) := by decide +kernel
theorem d_Md_finish_27 : decode b_Md_finish 27 = .ok (.iload_n 1, 1) := by decide +kernel
theorem d_Md_finish_28 : decode b_Md_finish 28 = .ok (.iaload, 1) := by decide +kernel
theorem d_Md_finish_29 : decode b_Md_finish 29 = .ok (.istore_n 3, 1) := by decide +kernel
theorem d_Md_finish_30 : decode b_Md_finish 30 = .ok (.aload_n 0, 1) := by decide +kernel
theorem d_Md_finish_31 : decode b_Md_finish 31 = .ok (.getfield 62, 3) := by decide +kernel
theorem d_Md_finish_34 : decode b_Md_finish 34 = .ok (.iload_n 1, 1) := by decide +kernel
theorem d_Md_finish_35 : decode b_Md_finish 35 = .ok (.iconst 3, 1) := by decide +kernel
theorem d_Md_finish_36 : decode b_Md_finish 36 = .ok (.iastore, 1) := by decide +kernel
theorem d_Md_finish_37 : decode b_Md_finish 37 = .ok (.aload_n 0, 1) := by decide +kernel
theorem d_Md_finish_38 : decode b_Md_finish 38 = .ok (.getfield 56, 3) := by decide +kernel
theorem d_Md_finish_41 : decode b_Md_finish 41 = .ok (.aload_n 0, 1) := by decide +kernel
theorem d_Md_finish_42 : decode b_Md_finish 42 = .ok (.getfield 50, 3) := by decide +kernel
theorem d_Md_finish_45 : decode b_Md_finish 45 = .ok (.iload_n 3, 1) := by decide +kernel
theorem d_Md_finish_46 : decode b_Md_finish 46 = .ok (.iaload, 1) := by decide +kernel
theorem d_Md_finish_47 : decode b_Md_finish 47 = .ok (.iload_n 2, 1) := by decide +kernel
theorem d_Md_finish_48 : decode b_Md_finish 48 = .ok (.iastore, 1) := by decide +kernel
theorem d_Md_finish_49 : decode b_Md_finish 49 = .ok (.aload_n 0, 1) := by decide +kernel
theorem d_Md_finish_50 : decode b_Md_finish 50 = .ok (.iload_n 3, 1) := by decide +kernel
theorem d_Md_finish_51 : decode b_Md_finish 51 = .ok (.iconst 3, 1) := by decide +kernel
theorem d_Md_finish_52 : decode b_Md_finish 52 = .ok (.iconst 3, 1) := by decide +kernel
theorem d_Md_finish_53 : decode b_Md_finish 53 = .ok (.invokevirtual 149, 3) := by decide +kernel
theorem d_Md_finish_56 : decode b_Md_finish 56 = .ok (.aload_n 0, 1) := by decide +kernel
theorem d_Md_finish_57 : decode b_Md_finish 57 = .ok (.getfield 47, 3) := by decide +kernel
theorem d_Md_finish_60 : decode b_Md_finish 60 = .ok (.iload_n 3, 1) := by decide +kernel
theorem d_Md_finish_61 : decode b_Md_finish 61 = .ok (.iaload, 1) := by decide +kernel
theorem d_Md_finish_62 : decode b_Md_finish 62 = .ok (.if_icmp .ne 10, 3) := by decide +kernel
theorem d_Md_finish_65 : decode b_Md_finish 65 = .ok (.aload_n 0, 1) := by decide +kernel
theorem d_Md_finish_66 : decode b_Md_finish 66 = .ok (.iload_n 3, 1) := by decide +kernel
theorem d_Md_finish_67 : decode b_Md_finish 67 = .ok (.invokevirtual 152, 3) := by decide +kernel
theorem d_Md_finish_70 : decode b_Md_finish 70 = .ok (.iconst 1, 1) := by decide +kernel
theorem d_Md_finish_71 : decode b_Md_finish 71 = .ok (.ireturn, 1) := by decide +kernel
theorem d_Md_finish_72 : decode b_Md_finish 72 = .ok (.aload_n 0, 1) := by decide +kernel
theorem d_Md_finish_73 : decode b_Md_finish 73 = .ok (.iload_n 3, 1) := by decide +kernel
theorem d_Md_finish_74 : decode b_Md_finish 74 = .ok (.iconst 1, 1) := by decide +kernel
theorem d_Md_finish_75 : decode b_Md_finish 75 = .ok (.iconst 2, 1) := by decide +kernel
theorem d_Md_finish_76 : decode b_Md_finish 76 = .ok (.invokevirtual 149, 3) := by decide +kernel
theorem d_Md_finish_79 : decode b_Md_finish 79 = .ok (.ifCond .ne 8, 3) := by decide +kernel
theorem d_Md_finish_82 : decode b_Md_finish 82 = .ok (.aload_n 0, 1) := by decide +kernel
theorem d_Md_finish_83 : decode b_Md_finish 83 = .ok (.iload_n 3, 1) := by decide +kernel
theorem d_Md_finish_84 : decode b_Md_finish 84 = .ok (.invokevirtual 134, 3) := by decide +kernel
theorem d_Md_finish_87 : decode b_Md_finish 87 = .ok (.iconst 0, 1) := by decide +kernel
theorem d_Md_finish_88 : decode b_Md_finish 88 = .ok (.ireturn, 1) := by decide +kernel
theorem d_Md_failed_0 : decode b_Md_failed 0 = .ok (.aload_n 0, 1) := by decide +kernel
theorem d_Md_failed_1 : decode b_Md_failed 1 = .ok (.getfield 59, 3) := by decide +kernel
theorem d_Md_failed_4 : decode b_Md_failed 4 = .ok (.iload_n 1, 1) := by decide +kernel
theorem d_Md_failed_5 : decode b_Md_failed 5 = .ok (.iaload, 1) := by decide +kernel
theorem d_Md_failed_6 : decode b_Md_failed 6 = .ok (.istore_n 2, 1) := by decide +kernel
theorem d_Md_failed_7 : decode b_Md_failed 7 = .ok (.aload_n 0, 1) := by decide +kernel
theorem d_Md_failed_8 : decode b_Md_failed 8 = .ok (.getfield 62, 3) := by decide +kernel
theorem d_Md_failed_11 : decode b_Md_failed 11 = .ok (.iload_n 1, 1) := by decide +kernel
theorem d_Md_failed_12 : decode b_Md_failed 12 = .ok (.iconst 4, 1) := by decide +kernel
theorem d_Md_failed_13 : decode b_Md_failed 13 = .ok (.iastore, 1) := by decide +kernel
theorem d_Md_failed_14 : decode b_Md_failed 14 = .ok (.aload_n 0, 1) := by decide +kernel
theorem d_Md_failed_15 : decode b_Md_failed 15 = .ok (.iload_n 2, 1) := by decide +kernel
theorem d_Md_failed_16 : decode b_Md_failed 16 = .ok (.iconst 1, 1) := by decide +kernel
theorem d_Md_failed_17 : decode b_Md_failed 17 = .ok (.iconst 2, 1) := by decide +kernel
theorem d_Md_failed_18 : decode b_Md_failed 18 = .ok (.invokevirtual 149, 3) := by decide +kernel
theorem d_Md_failed_21 : decode b_Md_failed 21 = .ok (.ifCond .le 5, 3) := by decide +kernel
theorem d_Md_failed_24 : decode b_Md_failed 24 = .ok (.iconst 0, 1) := by decide +kernel
theorem d_Md_failed_25 : decode b_Md_failed 25 = .ok (.ireturn, 1) := by decide +kernel
theorem d_Md_failed_26 : decode b_Md_failed 26 = .ok (.aload_n 0, 1) := by decide +kernel
theorem d_Md_failed_27 : decode b_Md_failed 27 = .ok (.iload_n 2, 1) := by decide +kernel
theorem d_Md_failed_28 : decode b_Md_failed 28 = .ok (.invokevirtual 134, 3) := by decide +kernel
theorem d_Md_failed_31 : decode b_Md_failed 31 = .ok (.iconst 1, 1) := by decide +kernel
theorem d_Md_failed_32 : decode b_Md_failed 32 = .ok (.ireturn, 1) := by decide +kernel
theorem d_Md_fail_0 : decode b_Md_fail 0 = .ok (.aload_n 0, 1) := by decide +kernel
theorem d_Md_fail_1 : decode b_Md_fail 1 = .ok (.iload_n 1, 1) := by decide +kernel
theorem d_Md_fail_2 : decode b_Md_fail 2 = .ok (.invokevirtual 146, 3) := by decide +kernel
theorem d_Md_fail_5 : decode b_Md_fail 5 = .ok (.ifCond .ne 5, 3) := by decide +kernel
theorem d_Md_fail_8 : decode b_Md_fail 8 = .ok (.iconst (-1), 1) := by decide +kernel
theorem d_Md_fail_9 : decode b_Md_fail 9 = .ok (.ireturn, 1) := by decide +kernel
theorem d_Md_fail_10 : decode b_Md_fail 10 = .ok (.aload_n 0, 1) := by decide +kernel
theorem d_Md_fail_11 : decode b_Md_fail 11 = .ok (.getfield 62, 3) := by decide +kernel
theorem d_Md_fail_14 : decode b_Md_fail 14 = .ok (.iload_n 1, 1) := by decide +kernel
theorem d_Md_fail_15 : decode b_Md_fail 15 = .ok (.iaload, 1) := by decide +kernel
theorem d_Md_fail_16 : decode b_Md_fail 16 = .ok (.iconst 2, 1) := by decide +kernel
theorem d_Md_fail_17 : decode b_Md_fail 17 = .ok (.if_icmp .le 8, 3) := by decide +kernel
theorem d_Md_fail_20 : decode b_Md_fail 20 = .ok (.bipush (-2), 2) := by decide +kernel
theorem d_Md_fail_22 : decode b_Md_fail 22 = .ok (.goto 8, 3) := by decide +kernel
theorem d_Md_fail_25 : decode b_Md_fail 25 = .ok (.aload_n 0, 1) := by decide +kernel
theorem d_Md_fail_26 : decode b_Md_fail 26 = .ok (.iload_n 1, 1) := by decide +kernel
theorem d_Md_fail_27 : decode b_Md_fail 27 = .ok (.invokevirtual 155, 3) := by decide +kernel
theorem d_Md_fail_30 : decode b_Md_fail 30 = .ok (.ireturn, 1) := by decide +kernel
theorem d_Md_tick_0 : decode b_Md_tick 0 = .ok (.aload_n 0, 1) := by decide +kernel
theorem d_Md_tick_1 : decode b_Md_tick 1 = .ok (.dup, 1) := by decide +kernel
theorem d_Md_tick_2 : decode b_Md_tick 2 = .ok (.getfield 143, 3) := by decide +kernel
theorem d_Md_tick_5 : decode b_Md_tick 5 = .ok (.iload_n 1, 1) := by decide +kernel
theorem d_Md_tick_6 : decode b_Md_tick 6 = .ok (.ifCond .lt 13, 3) := by decide +kernel
theorem d_Md_tick_9 : decode b_Md_tick 9 = .ok (.iload_n 1, 1) := by decide +kernel
theorem d_Md_tick_10 : decode b_Md_tick 10 = .ok (.bipush 100, 2) := by decide +kernel
theorem d_Md_tick_12 : decode b_Md_tick 12 = .ok (.if_icmp .gt 7, 3) := by decide +kernel
theorem d_Md_tick_15 : decode b_Md_tick 15 = .ok (.iload_n 1, 1) := by decide +kernel
theorem d_Md_tick_16 : decode b_Md_tick 16 = .ok (.goto 4, 3) := by decide +kernel
theorem d_Md_tick_19 : decode b_Md_tick 19 = .ok (.iconst 0, 1) := by decide +kernel
theorem d_Md_tick_20 : decode b_Md_tick 20 = .ok (.iadd, 1) := by decide +kernel
theorem d_Md_tick_21 : decode b_Md_tick 21 = .ok (.putfield 143, 3) := by decide +kernel
theorem d_Md_tick_24 : decode b_Md_tick 24 = .ok (.iconst 1, 1) := by decide +kernel
theorem d_Md_tick_25 : decode b_Md_tick 25 = .ok (.istore_n 2, 1) := by decide +kernel
theorem d_Md_tick_26 : decode b_Md_tick 26 = .ok (.iload_n 2, 1) := by decide +kernel
theorem d_Md_tick_27 : decode b_Md_tick 27 = .ok (.aload_n 0, 1) := by decide +kernel
theorem d_Md_tick_28 : decode b_Md_tick 28 = .ok (.getfield 128, 3) := by decide +kernel
theorem d_Md_tick_31 : decode b_Md_tick 31 = .ok (.if_icmp .gt 56, 3) := by decide +kernel
theorem d_Md_tick_34 : decode b_Md_tick 34 = .ok (.aload_n 0, 1) := by decide +kernel
theorem d_Md_tick_35 : decode b_Md_tick 35 = .ok (.getfield 53, 3) := by decide +kernel
theorem d_Md_tick_38 : decode b_Md_tick 38 = .ok (.aload_n 0, 1) := by decide +kernel
theorem d_Md_tick_39 : decode b_Md_tick 39 = .ok (.getfield 59, 3) := by decide +kernel
theorem d_Md_tick_42 : decode b_Md_tick 42 = .ok (.iload_n 2, 1) := by decide +kernel
theorem d_Md_tick_43 : decode b_Md_tick 43 = .ok (.iaload, 1) := by decide +kernel
theorem d_Md_tick_44 : decode b_Md_tick 44 = .ok (.iaload, 1) := by decide +kernel
theorem d_Md_tick_45 : decode b_Md_tick 45 = .ok (.istore_n 3, 1) := by decide +kernel
theorem d_Md_tick_46 : decode b_Md_tick 46 = .ok (.aload_n 0, 1) := by decide +kernel
theorem d_Md_tick_47 : decode b_Md_tick 47 = .ok (.getfield 62, 3) := by decide +kernel
theorem d_Md_tick_50 : decode b_Md_tick 50 = .ok (.iload_n 2, 1) := by decide +kernel
theorem d_Md_tick_51 : decode b_Md_tick 51 = .ok (.iaload, 1) := by decide +kernel
theorem d_Md_tick_52 : decode b_Md_tick 52 = .ok (.iconst 2, 1) := by decide +kernel
theorem d_Md_tick_53 : decode b_Md_tick 53 = .ok (.if_icmp .gt 28, 3) := by decide +kernel
theorem d_Md_tick_56 : decode b_Md_tick 56 = .ok (.iload_n 3, 1) := by decide +kernel
theorem d_Md_tick_57 : decode b_Md_tick 57 = .ok (.ifCond .le 24, 3) := by decide +kernel
theorem d_Md_tick_60 : decode b_Md_tick 60 = .ok (.aload_n 0, 1) := by decide +kernel
theorem d_Md_tick_61 : decode b_Md_tick 61 = .ok (.getfield 143, 3) := by decide +kernel
theorem d_Md_tick_64 : decode b_Md_tick 64 = .ok (.aload_n 0, 1) := by decide +kernel
theorem d_Md_tick_65 : decode b_Md_tick 65 = .ok (.getfield 65, 3) := by decide +kernel
theorem d_Md_tick_68 : decode b_Md_tick 68 = .ok (.iload_n 2, 1) := by decide +kernel
theorem d_Md_tick_69 : decode b_Md_tick 69 = .ok (.iaload, 1) := by decide +kernel
theorem d_Md_tick_70 : decode b_Md_tick 70 = .ok (.isub, 1) := by decide +kernel
theorem d_Md_tick_71 : decode b_Md_tick 71 = .ok (.iload_n 3, 1) := by decide +kernel
theorem d_Md_tick_72 : decode b_Md_tick 72 = .ok (.if_icmp .lt 9, 3) := by decide +kernel
theorem d_Md_tick_75 : decode b_Md_tick 75 = .ok (.aload_n 0, 1) := by decide +kernel
theorem d_Md_tick_76 : decode b_Md_tick 76 = .ok (.iload_n 2, 1) := by decide +kernel
theorem d_Md_tick_77 : decode b_Md_tick 77 = .ok (.invokevirtual 155, 3) := by decide +kernel
theorem d_Md_tick_80 : decode b_Md_tick 80 = .ok (.pop, 1) := by decide +kernel
theorem d_Md_tick_81 : decode b_Md_tick 81 = .ok (.iinc 2 1, 3) := by decide +kernel
theorem d_Md_tick_84 : decode b_Md_tick 84 = .ok (.goto (-58), 3) := by decide +kernel
theorem d_Md_tick_87 : decode b_Md_tick 87 = .ok (.aload_n 0, 1) := by decide +kernel
theorem d_Md_tick_88 : decode b_Md_tick 88 = .ok (.getfield 143, 3) := by decide +kernel
theorem d_Md_tick_91 : decode b_Md_tick 91 = .ok (.ireturn, 1) := by decide +kernel
theorem d_Md_set_0 : decode b_Md_set 0 = .ok (.iload_n 1, 1) := by decide +kernel
theorem d_Md_set_1 : decode b_Md_set 1 = .ok (.ifCond .lt 8, 3) := by decide +kernel
theorem d_Md_set_4 : decode b_Md_set 4 = .ok (.iload_n 1, 1) := by decide +kernel
theorem d_Md_set_5 : decode b_Md_set 5 = .ok (.iconst 3, 1) := by decide +kernel
theorem d_Md_set_6 : decode b_Md_set 6 = .ok (.if_icmp .le 5, 3) := by decide +kernel
theorem d_Md_set_9 : decode b_Md_set 9 = .ok (.iconst 0, 1) := by decide +kernel
theorem d_Md_set_10 : decode b_Md_set 10 = .ok (.ireturn, 1) := by decide +kernel
theorem d_Md_set_11 : decode b_Md_set 11 = .ok (.aload_n 0, 1) := by decide +kernel
theorem d_Md_set_12 : decode b_Md_set 12 = .ok (.getfield 56, 3) := by decide +kernel
theorem d_Md_set_15 : decode b_Md_set 15 = .ok (.iload_n 1, 1) := by decide +kernel
theorem d_Md_set_16 : decode b_Md_set 16 = .ok (.iload_n 2, 1) := by decide +kernel
theorem d_Md_set_17 : decode b_Md_set 17 = .ok (.iastore, 1) := by decide +kernel
theorem d_Md_set_18 : decode b_Md_set 18 = .ok (.iconst 1, 1) := by decide +kernel
theorem d_Md_set_19 : decode b_Md_set 19 = .ok (.ireturn, 1) := by decide +kernel
theorem d_Md_variable_0 : decode b_Md_variable 0 = .ok (.iload_n 1, 1) := by decide +kernel
theorem d_Md_variable_1 : decode b_Md_variable 1 = .ok (.ifCond .lt 17, 3) := by decide +kernel
theorem d_Md_variable_4 : decode b_Md_variable 4 = .ok (.iload_n 1, 1) := by decide +kernel
theorem d_Md_variable_5 : decode b_Md_variable 5 = .ok (.iconst 3, 1) := by decide +kernel
theorem d_Md_variable_6 : decode b_Md_variable 6 = .ok (.if_icmp .gt 12, 3) := by decide +kernel
theorem d_Md_variable_9 : decode b_Md_variable 9 = .ok (.aload_n 0, 1) := by decide +kernel
theorem d_Md_variable_10 : decode b_Md_variable 10 = .ok (.getfield 56, 3) := by decide +kernel
theorem d_Md_variable_13 : decode b_Md_variable 13 = .ok (.iload_n 1, 1) := by decide +kernel
theorem d_Md_variable_14 : decode b_Md_variable 14 = .ok (.iaload, 1) := by decide +kernel
theorem d_Md_variable_15 : decode b_Md_variable 15 = .ok (.goto 4, 3) := by decide +kernel
theorem d_Md_variable_18 : decode b_Md_variable 18 = .ok (.iconst 0, 1) := by decide +kernel
theorem d_Md_variable_19 : decode b_Md_variable 19 = .ok (.ireturn, 1) := by decide +kernel
theorem d_Md_marking_0 : decode b_Md_marking 0 = .ok (.aload_n 0, 1) := by decide +kernel
theorem d_Md_marking_1 : decode b_Md_marking 1 = .ok (.getfield 85, 3) := by decide +kernel
theorem d_Md_marking_4 : decode b_Md_marking 4 = .ok (.ireturn, 1) := by decide +kernel
theorem d_Md_item_0 : decode b_Md_item 0 = .ok (.aload_n 0, 1) := by decide +kernel
theorem d_Md_item_1 : decode b_Md_item 1 = .ok (.iload_n 1, 1) := by decide +kernel
theorem d_Md_item_2 : decode b_Md_item 2 = .ok (.invokevirtual 146, 3) := by decide +kernel
theorem d_Md_item_5 : decode b_Md_item 5 = .ok (.ifCond .eq 12, 3) := by decide +kernel
theorem d_Md_item_8 : decode b_Md_item 8 = .ok (.iload_n 2, 1) := by decide +kernel
theorem d_Md_item_9 : decode b_Md_item 9 = .ok (.ifCond .lt 8, 3) := by decide +kernel
theorem d_Md_item_12 : decode b_Md_item 12 = .ok (.iload_n 2, 1) := by decide +kernel
theorem d_Md_item_13 : decode b_Md_item 13 = .ok (.iconst 2, 1) := by decide +kernel
theorem d_Md_item_14 : decode b_Md_item 14 = .ok (.if_icmp .le 5, 3) := by decide +kernel
theorem d_Md_item_17 : decode b_Md_item 17 = .ok (.iconst (-1), 1) := by decide +kernel
theorem d_Md_item_18 : decode b_Md_item 18 = .ok (.ireturn, 1) := by decide +kernel
theorem d_Md_item_19 : decode b_Md_item 19 = .ok (.iload_n 2, 1) := by decide +kernel
theorem d_Md_item_20 : decode b_Md_item 20 = .ok (.ifCond .ne 12, 3) := by decide +kernel
theorem d_Md_item_23 : decode b_Md_item 23 = .ok (.aload_n 0, 1) := by decide +kernel
theorem d_Md_item_24 : decode b_Md_item 24 = .ok (.getfield 59, 3) := by decide +kernel
theorem d_Md_item_27 : decode b_Md_item 27 = .ok (.iload_n 1, 1) := by decide +kernel
theorem d_Md_item_28 : decode b_Md_item 28 = .ok (.iaload, 1) := by decide +kernel
theorem d_Md_item_29 : decode b_Md_item 29 = .ok (.goto 23, 3) := by decide +kernel
theorem d_Md_item_32 : decode b_Md_item 32 = .ok (.iload_n 2, 1) := by decide +kernel
theorem d_Md_item_33 : decode b_Md_item 33 = .ok (.iconst 1, 1) := by decide +kernel
theorem d_Md_item_34 : decode b_Md_item 34 = .ok (.if_icmp .ne 12, 3) := by decide +kernel
theorem d_Md_item_37 : decode b_Md_item 37 = .ok (.aload_n 0, 1) := by decide +kernel
theorem d_Md_item_38 : decode b_Md_item 38 = .ok (.getfield 62, 3) := by decide +kernel
theorem d_Md_item_41 : decode b_Md_item 41 = .ok (.iload_n 1, 1) := by decide +kernel
theorem d_Md_item_42 : decode b_Md_item 42 = .ok (.iaload, 1) := by decide +kernel
theorem d_Md_item_43 : decode b_Md_item 43 = .ok (.goto 9, 3) := by decide +kernel
theorem d_Md_item_46 : decode b_Md_item 46 = .ok (.aload_n 0, 1) := by decide +kernel
theorem d_Md_item_47 : decode b_Md_item 47 = .ok (.getfield 65, 3) := by decide +kernel
theorem d_Md_item_50 : decode b_Md_item 50 = .ok (.iload_n 1, 1) := by decide +kernel
theorem d_Md_item_51 : decode b_Md_item 51 = .ok (.iaload, 1) := by decide +kernel
theorem d_Md_item_52 : decode b_Md_item 52 = .ok (.ireturn, 1) := by decide +kernel
theorem d_Md_isGood_0 : decode b_Md_isGood 0 = .ok (.aload_n 0, 1) := by decide +kernel
theorem d_Md_isGood_1 : decode b_Md_isGood 1 = .ok (.getfield 78, 3) := by decide +kernel
theorem d_Md_isGood_4 : decode b_Md_isGood 4 = .ok (.iload_n 1, 1) := by decide +kernel
theorem d_Md_isGood_5 : decode b_Md_isGood 5 = .ok (.bipush 6, 2) := by decide +kernel
theorem d_Md_isGood_7 : decode b_Md_isGood 7 = .ok (.ishr, 1) := by decide +kernel
theorem d_Md_isGood_8 : decode b_Md_isGood 8 = .ok (.laload, 1) := by decide +kernel
theorem d_Md_isGood_9 : decode b_Md_isGood 9 = .ok (.iload_n 1, 1) := by decide +kernel
theorem d_Md_isGood_10 : decode b_Md_isGood 10 = .ok (.bipush 63, 2) := by decide +kernel
theorem d_Md_isGood_12 : decode b_Md_isGood 12 = .ok (.iand, 1) := by decide +kernel
theorem d_Md_isGood_13 : decode b_Md_isGood 13 = .ok (.lshr, 1) := by decide +kernel
theorem d_Md_isGood_14 : decode b_Md_isGood 14 = .ok (.lconst 1, 1) := by decide +kernel
theorem d_Md_isGood_15 : decode b_Md_isGood 15 = .ok (.land, 1) := by decide +kernel
theorem d_Md_isGood_16 : decode b_Md_isGood 16 = .ok (.lconst 0, 1) := by decide +kernel
theorem d_Md_isGood_17 : decode b_Md_isGood 17 = .ok (.lcmp, 1) := by decide +kernel
theorem d_Md_isGood_18 : decode b_Md_isGood 18 = .ok (.ifCond .eq 7, 3) := by decide +kernel
theorem d_Md_isGood_21 : decode b_Md_isGood 21 = .ok (.iconst 1, 1) := by decide +kernel
theorem d_Md_isGood_22 : decode b_Md_isGood 22 = .ok (.goto 4, 3) := by decide +kernel
theorem d_Md_isGood_25 : decode b_Md_isGood 25 = .ok (.iconst 0, 1) := by decide +kernel
theorem d_Md_isGood_26 : decode b_Md_isGood 26 = .ok (.ireturn, 1) := by decide +kernel
theorem d_Md_leads_0 : decode b_Md_leads 0 = .ok (.iconst 0, 1) := by decide +kernel
theorem d_Md_leads_1 : decode b_Md_leads 1 = .ok (.istore_n 2, 1) := by decide +kernel
theorem d_Md_leads_2 : decode b_Md_leads 2 = .ok (.iload_n 2, 1) := by decide +kernel
theorem d_Md_leads_3 : decode b_Md_leads 3 = .ok (.bipush 6, 2) := by decide +kernel
theorem d_Md_leads_5 : decode b_Md_leads 5 = .ok (.if_icmp .ge 57, 3) := by decide +kernel
theorem d_Md_leads_8 : decode b_Md_leads 8 = .ok (.iconst 0, 1) := by decide +kernel
theorem d_Md_leads_9 : decode b_Md_leads 9 = .ok (.istore_n 3, 1) := by decide +kernel
theorem d_Md_leads_10 : decode b_Md_leads 10 = .ok (.iload_n 3, 1) := by decide +kernel
theorem d_Md_leads_11 : decode b_Md_leads 11 = .ok (.bipush 10, 2) := by decide +kernel
theorem d_Md_leads_13 : decode b_Md_leads 13 = .ok (.if_icmp .ge 43, 3) := by decide +kernel
theorem d_Md_leads_16 : decode b_Md_leads 16 = .ok (.aload_n 0, 1) := by decide +kernel
theorem d_Md_leads_17 : decode b_Md_leads 17 = .ok (.getfield 7, 3) := by decide +kernel
theorem d_Md_leads_20 : decode b_Md_leads 20 = .ok (.iload_n 2, 1) := by decide +kernel
theorem d_Md_leads_21 : decode b_Md_leads 21 = .ok (.baload, 1) := by decide +kernel
theorem d_Md_leads_22 : decode b_Md_leads 22 = .ok (.ifCond .eq 34, 3) := by decide +kernel
theorem d_Md_leads_25 : decode b_Md_leads 25 = .ok (.aload_n 0, 1) := by decide +kernel
theorem d_Md_leads_26 : decode b_Md_leads 26 = .ok (.iload_n 1, 1) := by decide +kernel
theorem d_Md_leads_27 : decode b_Md_leads 27 = .ok (.iload_n 2, 1) := by decide +kernel
theorem d_Md_leads_28 : decode b_Md_leads 28 = .ok (.iload_n 3, 1) := by decide +kernel
theorem d_Md_leads_29 : decode b_Md_leads 29 = .ok (.invokevirtual 116, 3) := by decide +kernel
theorem d_Md_leads_32 : decode b_Md_leads 32 = .ok (.istore 4, 2) := by decide +kernel
theorem d_Md_leads_34 : decode b_Md_leads 34 = .ok (.iload 4, 2) := by decide +kernel
theorem d_Md_leads_36 : decode b_Md_leads 36 = .ok (.ifCond .lt 14, 3) := by decide +kernel
theorem d_Md_leads_39 : decode b_Md_leads 39 = .ok (.aload_n 0, 1) := by decide +kernel
theorem d_Md_leads_40 : decode b_Md_leads 40 = .ok (.iload 4, 2) := by decide +kernel
theorem d_Md_leads_42 : decode b_Md_leads 42 = .ok (.invokevirtual 158, 3) := by decide +kernel
theorem d_Md_leads_45 : decode b_Md_leads 45 = .ok (.ifCond .eq 5, 3) := by decide +kernel
theorem d_Md_leads_48 : decode b_Md_leads 48 = .ok (.iconst 1, 1) := by decide +kernel
theorem d_Md_leads_49 : decode b_Md_leads 49 = .ok (.ireturn, 1) := by decide +kernel
theorem d_Md_leads_50 : decode b_Md_leads 50 = .ok (.iinc 3 1, 3) := by decide +kernel
theorem d_Md_leads_53 : decode b_Md_leads 53 = .ok (.goto (-43), 3) := by decide +kernel
theorem d_Md_leads_56 : decode b_Md_leads 56 = .ok (.iinc 2 1, 3) := by decide +kernel
theorem d_Md_leads_59 : decode b_Md_leads 59 = .ok (.goto (-57), 3) := by decide +kernel
theorem d_Md_leads_62 : decode b_Md_leads 62 = .ok (.iconst 0, 1) := by decide +kernel
theorem d_Md_leads_63 : decode b_Md_leads 63 = .ok (.ireturn, 1) := by decide +kernel
theorem d_Md_allEnd_0 : decode b_Md_allEnd 0 = .ok (.iconst 0, 1) := by decide +kernel
theorem d_Md_allEnd_1 : decode b_Md_allEnd 1 = .ok (.istore_n 1, 1) := by decide +kernel
theorem d_Md_allEnd_2 : decode b_Md_allEnd 2 = .ok (.iload_n 1, 1) := by decide +kernel
theorem d_Md_allEnd_3 : decode b_Md_allEnd 3 = .ok (.sipush 256, 3) := by decide +kernel
theorem d_Md_allEnd_6 : decode b_Md_allEnd 6 = .ok (.if_icmp .ge 16, 3) := by decide +kernel
theorem d_Md_allEnd_9 : decode b_Md_allEnd 9 = .ok (.aload_n 0, 1) := by decide +kernel
theorem d_Md_allEnd_10 : decode b_Md_allEnd 10 = .ok (.getfield 78, 3) := by decide +kernel
theorem d_Md_allEnd_13 : decode b_Md_allEnd 13 = .ok (.iload_n 1, 1) := by decide +kernel
theorem d_Md_allEnd_14 : decode b_Md_allEnd 14 = .ok (.lconst 0, 1) := by decide +kernel
theorem d_Md_allEnd_15 : decode b_Md_allEnd 15 = .ok (.lastore, 1) := by decide +kernel
theorem d_Md_allEnd_16 : decode b_Md_allEnd 16 = .ok (.iinc 1 1, 3) := by decide +kernel
theorem d_Md_allEnd_19 : decode b_Md_allEnd 19 = .ok (.goto (-17), 3) := by decide +kernel
theorem d_Md_allEnd_22 : decode b_Md_allEnd 22 = .ok (.aload_n 0, 1) := by decide +kernel
theorem d_Md_allEnd_23 : decode b_Md_allEnd 23 = .ok (.getfield 109, 3) := by decide +kernel
theorem d_Md_allEnd_26 : decode b_Md_allEnd 26 = .ok (.istore_n 1, 1) := by decide +kernel
theorem d_Md_allEnd_27 : decode b_Md_allEnd 27 = .ok (.iconst 1, 1) := by decide +kernel
theorem d_Md_allEnd_28 : decode b_Md_allEnd 28 = .ok (.istore_n 2, 1) := by decide +kernel
theorem d_Md_allEnd_29 : decode b_Md_allEnd 29 = .ok (.iload_n 2, 1) := by decide +kernel
theorem d_Md_allEnd_30 : decode b_Md_allEnd 30 = .ok (.ifCond .eq 83, 3) := by decide +kernel
theorem d_Md_allEnd_33 : decode b_Md_allEnd 33 = .ok (.iconst 0, 1) := by decide +kernel
theorem d_Md_allEnd_34 : decode b_Md_allEnd 34 = .ok (.istore_n 2, 1) := by decide +kernel
theorem d_Md_allEnd_35 : decode b_Md_allEnd 35 = .ok (.aload_n 0, 1) := by decide +kernel
theorem d_Md_allEnd_36 : decode b_Md_allEnd 36 = .ok (.getfield 109, 3) := by decide +kernel
theorem d_Md_allEnd_39 : decode b_Md_allEnd 39 = .ok (.iconst 1, 1) := by decide +kernel
theorem d_Md_allEnd_40 : decode b_Md_allEnd 40 = .ok (.isub, 1) := by decide +kernel
theorem d_Md_allEnd_41 : decode b_Md_allEnd 41 = .ok (.istore_n 3, 1) := by decide +kernel
theorem d_Md_allEnd_42 : decode b_Md_allEnd 42 = .ok (.iload_n 3, 1) := by decide +kernel
theorem d_Md_allEnd_43 : decode b_Md_allEnd 43 = .ok (.ifCond .lt 67, 3) := by decide +kernel
theorem d_Md_allEnd_46 : decode b_Md_allEnd 46 = .ok (.aload_n 0, 1) := by decide +kernel
theorem d_Md_allEnd_47 : decode b_Md_allEnd 47 = .ok (.getfield 75, 3) := by decide +kernel
theorem d_Md_allEnd_50 : decode b_Md_allEnd 50 = .ok (.iload_n 3, 1) := by decide +kernel
theorem d_Md_allEnd_51 : decode b_Md_allEnd 51 = .ok (.iaload, 1) := by decide +kernel
theorem d_Md_allEnd_52 : decode b_Md_allEnd 52 = .ok (.istore 4, 2) := by decide +kernel
theorem d_Md_allEnd_54 : decode b_Md_allEnd 54 = .ok (.aload_n 0, 1) := by decide +kernel
theorem d_Md_allEnd_55 : decode b_Md_allEnd 55 = .ok (.iload 4, 2) := by decide +kernel
theorem d_Md_allEnd_57 : decode b_Md_allEnd 57 = .ok (.invokevirtual 158, 3) := by decide +kernel
theorem d_Md_allEnd_60 : decode b_Md_allEnd 60 = .ok (.ifCond .ne 44, 3) := by decide +kernel
theorem d_Md_allEnd_63 : decode b_Md_allEnd 63 = .ok (.iload 4, 2) := by decide +kernel
theorem d_Md_allEnd_65 : decode b_Md_allEnd 65 = .ok (.iconst 2, 1) := by decide +kernel
theorem d_Md_allEnd_66 : decode b_Md_allEnd 66 = .ok (.iand, 1) := by decide +kernel
theorem d_Md_allEnd_67 : decode b_Md_allEnd 67 = .ok (.ifCond .ne 12, 3) := by decide +kernel
theorem d_Md_allEnd_70 : decode b_Md_allEnd 70 = .ok (.aload_n 0, 1) := by decide +kernel
theorem d_Md_allEnd_71 : decode b_Md_allEnd 71 = .ok (.iload 4, 2) := by decide +kernel
theorem d_Md_allEnd_73 : decode b_Md_allEnd 73 = .ok (.invokevirtual 161, 3) := by decide +kernel
theorem d_Md_allEnd_76 : decode b_Md_allEnd 76 = .ok (.ifCond .eq 28, 3) := by decide +kernel
theorem d_Md_allEnd_79 : decode b_Md_allEnd 79 = .ok (.aload_n 0, 1) := by decide +kernel
theorem d_Md_allEnd_80 : decode b_Md_allEnd 80 = .ok (.getfield 78, 3) := by decide +kernel
theorem d_Md_allEnd_83 : decode b_Md_allEnd 83 = .ok (.iload 4, 2) := by decide +kernel
theorem d_Md_allEnd_85 : decode b_Md_allEnd 85 = .ok (.bipush 6, 2) := by decide +kernel
theorem d_Md_allEnd_87 : decode b_Md_allEnd 87 = .ok (.ishr, 1) := by decide +kernel
theorem d_Md_allEnd_88 : decode b_Md_allEnd 88 = .ok (.dup2, 1) := by decide +kernel
theorem d_Md_allEnd_89 : decode b_Md_allEnd 89 = .ok (.laload, 1) := by decide +kernel
theorem d_Md_allEnd_90 : decode b_Md_allEnd 90 = .ok (.lconst 1, 1) := by decide +kernel
theorem d_Md_allEnd_91 : decode b_Md_allEnd 91 = .ok (.iload 4, 2) := by decide +kernel
theorem d_Md_allEnd_93 : decode b_Md_allEnd 93 = .ok (.bipush 63, 2) := by decide +kernel
theorem d_Md_allEnd_95 : decode b_Md_allEnd 95 = .ok (.iand, 1) := by decide +kernel
theorem d_Md_allEnd_96 : decode b_Md_allEnd 96 = .ok (.lshl, 1) := by decide +kernel
theorem d_Md_allEnd_97 : decode b_Md_allEnd 97 = .ok (.lor, 1) := by decide +kernel
theorem d_Md_allEnd_98 : decode b_Md_allEnd 98 = .ok (.lastore, 1) := by decide +kernel
theorem d_Md_allEnd_99 : decode b_Md_allEnd 99 = .ok (.iinc 1 (-1), 3) := by decide +kernel
theorem d_Md_allEnd_102 : decode b_Md_allEnd 102 = .ok (.iconst 1, 1) := by decide +kernel
theorem d_Md_allEnd_103 : decode b_Md_allEnd 103 = .ok (.istore_n 2, 1) := by decide +kernel
theorem d_Md_allEnd_104 : decode b_Md_allEnd 104 = .ok (.iinc 3 (-1), 3) := by decide +kernel
theorem d_Md_allEnd_107 : decode b_Md_allEnd 107 = .ok (.goto (-65), 3) := by decide +kernel
theorem d_Md_allEnd_110 : decode b_Md_allEnd 110 = .ok (.goto (-81), 3) := by decide +kernel
theorem d_Md_allEnd_113 : decode b_Md_allEnd 113 = .ok (.iload_n 1, 1) := by decide +kernel
theorem d_Md_allEnd_114 : decode b_Md_allEnd 114 = .ok (.ifCond .ne 7, 3) := by decide +kernel
theorem d_Md_allEnd_117 : decode b_Md_allEnd 117 = .ok (.iconst 1, 1) := by decide +kernel
theorem d_Md_allEnd_118 : decode b_Md_allEnd 118 = .ok (.goto 4, 3) := by decide +kernel
theorem d_Md_allEnd_121 : decode b_Md_allEnd 121 = .ok (.iconst 0, 1) := by decide +kernel
theorem d_Md_allEnd_122 : decode b_Md_allEnd 122 = .ok (.ireturn, 1) := by decide +kernel
theorem d_Md_canBegin_0 : decode b_Md_canBegin 0 = .ok (.iconst 0, 1) := by decide +kernel
theorem d_Md_canBegin_1 : decode b_Md_canBegin 1 = .ok (.istore_n 2, 1) := by decide +kernel
theorem d_Md_canBegin_2 : decode b_Md_canBegin 2 = .ok (.iload_n 2, 1) := by decide +kernel
theorem d_Md_canBegin_3 : decode b_Md_canBegin 3 = .ok (.aload_n 0, 1) := by decide +kernel
theorem d_Md_canBegin_4 : decode b_Md_canBegin 4 = .ok (.getfield 109, 3) := by decide +kernel
theorem d_Md_canBegin_7 : decode b_Md_canBegin 7 = .ok (.if_icmp .ge 73, 3) := by decide +kernel
theorem d_Md_canBegin_10 : decode b_Md_canBegin 10 = .ok (.iconst 0, 1) := by decide +kernel
theorem d_Md_canBegin_11 : decode b_Md_canBegin 11 = .ok (.istore_n 3, 1) := by decide +kernel
theorem d_Md_canBegin_12 : decode b_Md_canBegin 12 = .ok (.iload_n 3, 1) := by decide +kernel
theorem d_Md_canBegin_13 : decode b_Md_canBegin 13 = .ok (.iconst 3, 1) := by decide +kernel
theorem d_Md_canBegin_14 : decode b_Md_canBegin 14 = .ok (.if_icmp .ge 60, 3) := by decide +kernel
theorem d_Md_canBegin_17 : decode b_Md_canBegin 17 = .ok (.aload_n 0, 1) := by decide +kernel
theorem d_Md_canBegin_18 : decode b_Md_canBegin 18 = .ok (.getfield 13, 3) := by decide +kernel
theorem d_Md_canBegin_21 : decode b_Md_canBegin 21 = .ok (.iload_n 1, 1) := by decide +kernel
theorem d_Md_canBegin_22 : decode b_Md_canBegin 22 = .ok (.iaload, 1) := by decide +kernel
theorem d_Md_canBegin_23 : decode b_Md_canBegin 23 = .ok (.ifCond .ne 12, 3) := by decide +kernel
theorem d_Md_canBegin_26 : decode b_Md_canBegin 26 = .ok (.aload_n 0, 1) := by decide +kernel
theorem d_Md_canBegin_27 : decode b_Md_canBegin 27 = .ok (.getfield 20, 3) := by decide +kernel
theorem d_Md_canBegin_30 : decode b_Md_canBegin 30 = .ok (.iload_n 1, 1) := by decide +kernel
theorem d_Md_canBegin_31 : decode b_Md_canBegin 31 = .ok (.iaload, 1) := by decide +kernel
theorem d_Md_canBegin_32 : decode b_Md_canBegin 32 = .ok (.goto 13, 3) := by decide +kernel
theorem d_Md_canBegin_35 : decode b_Md_canBegin 35 = .ok (.aload_n 0, 1) := by decide +kernel
theorem d_Md_canBegin_36 : decode b_Md_canBegin 36 = .ok (.getfield 26, 3) := by decide +kernel
theorem d_Md_canBegin_39 : decode b_Md_canBegin 39 = .ok (.iconst 3, 1) := by decide +kernel
theorem d_Md_canBegin_40 : decode b_Md_canBegin 40 = .ok (.iload_n 1, 1) := by decide +kernel
theorem d_Md_canBegin_41 : decode b_Md_canBegin 41 = .ok (.imul, 1) := by decide +kernel
theorem d_Md_canBegin_42 : decode b_Md_canBegin 42 = .ok (.iload_n 3, 1) := by decide +kernel
theorem d_Md_canBegin_43 : decode b_Md_canBegin 43 = .ok (.iadd, 1) := by decide +kernel
theorem d_Md_canBegin_44 : decode b_Md_canBegin 44 = .ok (.iaload, 1) := by decide +kernel
theorem d_Md_canBegin_45 : decode b_Md_canBegin 45 = .ok (.istore 4, 2) := by decide +kernel
theorem d_Md_canBegin_47 : decode b_Md_canBegin 47 = .ok (.iload 4, 2) := by decide +kernel
theorem d_Md_canBegin_49 : decode b_Md_canBegin 49 = .ok (.ifCond .eq 19, 3) := by decide +kernel
theorem d_Md_canBegin_52 : decode b_Md_canBegin 52 = .ok (.aload_n 0, 1) := by decide +kernel
theorem d_Md_canBegin_53 : decode b_Md_canBegin 53 = .ok (.getfield 75, 3) := by decide +kernel
theorem d_Md_canBegin_56 : decode b_Md_canBegin 56 = .ok (.iload_n 2, 1) := by decide +kernel
theorem d_Md_canBegin_57 : decode b_Md_canBegin 57 = .ok (.iaload, 1) := by decide +kernel
theorem d_Md_canBegin_58 : decode b_Md_canBegin 58 = .ok (.iload 4, 2) := by decide +kernel
theorem d_Md_canBegin_60 : decode b_Md_canBegin 60 = .ok (.iand, 1) := by decide +kernel
theorem d_Md_canBegin_61 : decode b_Md_canBegin 61 = .ok (.iload 4, 2) := by decide +kernel
theorem d_Md_canBegin_63 : decode b_Md_canBegin 63 = .ok (.if_icmp .ne 5, 3) := by decide +kernel
theorem d_Md_canBegin_66 : decode b_Md_canBegin 66 = .ok (.iconst 1, 1) := by decide +kernel
theorem d_Md_canBegin_67 : decode b_Md_canBegin 67 = .ok (.ireturn, 1) := by decide +kernel
theorem d_Md_canBegin_68 : decode b_Md_canBegin 68 = .ok (.iinc 3 1, 3) := by decide +kernel
theorem d_Md_canBegin_71 : decode b_Md_canBegin 71 = .ok (.goto (-59), 3) := by decide +kernel
theorem d_Md_canBegin_74 : decode b_Md_canBegin 74 = .ok (.iinc 2 1, 3) := by decide +kernel
theorem d_Md_canBegin_77 : decode b_Md_canBegin 77 = .ok (.goto (-75), 3) := by decide +kernel
theorem d_Md_canBegin_80 : decode b_Md_canBegin 80 = .ok (.iconst 0, 1) := by decide +kernel
theorem d_Md_canBegin_81 : decode b_Md_canBegin 81 = .ok (.ireturn, 1) := by decide +kernel
