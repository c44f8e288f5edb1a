theorem d_Task_chosenOutputs_0 : decode b_Task_chosenOutputs 0 = .ok (.aload_n 0, 1) := by decide +kernel
theorem d_Task_chosenOutputs_1 : decode b_Task_chosenOutputs 1 = .ok (.getfield 38, 3) := by decide +kernel
theorem d_Task_chosenOutputs_4 : decode b_Task_chosenOutputs 4 = .ok (.ifCond .ne 8, 3) := by decide +kernel
theorem d_Task_chosenOutputs_7 : decode b_Task_chosenOutputs 7 = .ok (.aload_n 0, 1) := by decide +kernel
theorem d_Task_chosenOutputs_8 : decode b_Task_chosenOutputs 8 = .ok (.getfield 44, 3) := by decide +kernel
theorem d_Task_chosenOutputs_11 : decode b_Task_chosenOutputs 11 = .ok (.ireturn, 1) := by decide +kernel
theorem d_Task_chosenOutputs_12 : decode b_Task_chosenOutputs 12 = .ok (.iconst 0, 1) := by decide +kernel
theorem d_Task_chosenOutputs_13 : decode b_Task_chosenOutputs 13 = .ok (.istore_n 2, 1) := by decide +kernel
theorem d_Task_chosenOutputs_14 : decode b_Task_chosenOutputs 14 = .ok (.iconst 0, 1) := by decide +kernel
theorem d_Task_chosenOutputs_15 : decode b_Task_chosenOutputs 15 = .ok (.istore_n 3, 1) := by decide +kernel
theorem d_Task_chosenOutputs_16 : decode b_Task_chosenOutputs 16 = .ok (.iconst 0, 1) := by decide +kernel
theorem d_Task_chosenOutputs_17 : decode b_Task_chosenOutputs 17 = .ok (.istore 4, 2) := by decide +kernel
theorem d_Task_chosenOutputs_19 : decode b_Task_chosenOutputs 19 = .ok (.iload 4, 2) := by decide +kernel
theorem d_Task_chosenOutputs_21 : decode b_Task_chosenOutputs 21 = .ok (.bipush 8, 2) := by decide +kernel
theorem d_Task_chosenOutputs_23 : decode b_Task_chosenOutputs 23 = .ok (.if_icmp .ge 44, 3) := by decide +kernel
theorem d_Task_chosenOutputs_26 : decode b_Task_chosenOutputs 26 = .ok (.aload_n 0, 1) := by decide +kernel
theorem d_Task_chosenOutputs_27 : decode b_Task_chosenOutputs 27 = .ok (.getfield 44, 3) := by decide +kernel
theorem d_Task_chosenOutputs_30 : decode b_Task_chosenOutputs 30 = .ok (.iconst 1, 1) := by decide +kernel
theorem d_Task_chosenOutputs_31 : decode b_Task_chosenOutputs 31 = .ok (.iload 4, 2) := by decide +kernel
theorem d_Task_chosenOutputs_33 : decode b_Task_chosenOutputs 33 = .ok (.ishl, 1) := by decide +kernel
theorem d_Task_chosenOutputs_34 : decode b_Task_chosenOutputs 34 = .ok (.iand, 1) := by decide +kernel
theorem d_Task_chosenOutputs_35 : decode b_Task_chosenOutputs 35 = .ok (.ifCond .eq 26, 3) := by decide +kernel
theorem d_Task_chosenOutputs_38 : decode b_Task_chosenOutputs 38 = .ok (.iconst 1, 1) := by decide +kernel
theorem d_Task_chosenOutputs_39 : decode b_Task_chosenOutputs 39 = .ok (.iload 4, 2) := by decide +kernel
theorem d_Task_chosenOutputs_41 : decode b_Task_chosenOutputs 41 = .ok (.ishl, 1) := by decide +kernel
theorem d_Task_chosenOutputs_42 : decode b_Task_chosenOutputs 42 = .ok (.istore_n 3, 1) := by decide +kernel
theorem d_Task_chosenOutputs_43 : decode b_Task_chosenOutputs 43 = .ok (.iload_n 2, 1) := by decide +kernel
theorem d_Task_chosenOutputs_44 : decode b_Task_chosenOutputs 44 = .ok (.aload_n 0, 1) := by decide +kernel
theorem d_Task_chosenOutputs_45 : decode b_Task_chosenOutputs 45 = .ok (.iload 4, 2) := by decide +kernel
theorem d_Task_chosenOutputs_47 : decode b_Task_chosenOutputs 47 = .ok (.aload_n 1, 1) := by decide +kernel
theorem d_Task_chosenOutputs_48 : decode b_Task_chosenOutputs 48 = .ok (.invokevirtual 93, 3) := by decide +kernel
theorem d_Task_chosenOutputs_51 : decode b_Task_chosenOutputs 51 = .ok (.ifCond .eq 7, 3) := by decide +kernel
theorem d_Task_chosenOutputs_54 : decode b_Task_chosenOutputs 54 = .ok (.iload_n 3, 1) := by decide +kernel
theorem d_Task_chosenOutputs_55 : decode b_Task_chosenOutputs 55 = .ok (.goto 4, 3) := by decide +kernel
theorem d_Task_chosenOutputs_58 : decode b_Task_chosenOutputs 58 = .ok (.iconst 0, 1) := by decide +kernel
theorem d_Task_chosenOutputs_59 : decode b_Task_chosenOutputs 59 = .ok (.ior, 1) := by decide +kernel
theorem d_Task_chosenOutputs_60 : decode b_Task_chosenOutputs 60 = .ok (.istore_n 2, 1) := by decide +kernel
theorem d_Task_chosenOutputs_61 : decode b_Task_chosenOutputs 61 = .ok (.iinc 4 1, 3) := by decide +kernel
theorem d_Task_chosenOutputs_64 : decode b_Task_chosenOutputs 64 = .ok (.goto (-45), 3) := by decide +kernel
theorem d_Task_chosenOutputs_67 : decode b_Task_chosenOutputs 67 = .ok (.iload_n 2, 1) := by decide +kernel
theorem d_Task_chosenOutputs_68 : decode b_Task_chosenOutputs 68 = .ok (.ifCond .ne 5, 3) := by decide +kernel
theorem d_Task_chosenOutputs_71 : decode b_Task_chosenOutputs 71 = .ok (.iload_n 3, 1) := by decide +kernel
theorem d_Task_chosenOutputs_72 : decode b_Task_chosenOutputs 72 = .ok (.ireturn, 1) := by decide +kernel
theorem d_Task_chosenOutputs_73 : decode b_Task_chosenOutputs 73 = .ok (.aload_n 0, 1) := by decide +kernel
theorem d_Task_chosenOutputs_74 : decode b_Task_chosenOutputs 74 = .ok (.getfield 38, 3) := by decide +kernel
theorem d_Task_chosenOutputs_77 : decode b_Task_chosenOutputs 77 = .ok (.iconst 1, 1) := by decide +kernel
theorem d_Task_chosenOutputs_78 : decode b_Task_chosenOutputs 78 = .ok (.if_icmp .ne 10, 3) := by decide +kernel
theorem d_Task_chosenOutputs_81 : decode b_Task_chosenOutputs 81 = .ok (.iload_n 2, 1) := by decide +kernel
theorem d_Task_chosenOutputs_82 : decode b_Task_chosenOutputs 82 = .ok (.iload_n 2, 1) := by decide +kernel
theorem d_Task_chosenOutputs_83 : decode b_Task_chosenOutputs 83 = .ok (.ineg, 1) := by decide +kernel
theorem d_Task_chosenOutputs_84 : decode b_Task_chosenOutputs 84 = .ok (.iand, 1) := by decide +kernel
theorem d_Task_chosenOutputs_85 : decode b_Task_chosenOutputs 85 = .ok (.goto 4, 3) := by decide +kernel
theorem d_Task_chosenOutputs_88 : decode b_Task_chosenOutputs 88 = .ok (.iload_n 2, 1) := by decide +kernel
theorem d_Task_chosenOutputs_89 : decode b_Task_chosenOutputs 89 = .ok (.ireturn, 1) := by decide +kernel
theorem d_CN_end_0 : decode b_CN_end 0 = .ok (.aload_n 0, 1) := by decide +kernel
theorem d_CN_end_1 : decode b_CN_end 1 = .ok (.aload_n 1, 1) := by decide +kernel
theorem d_CN_end_2 : decode b_CN_end 2 = .ok (.invokevirtual 170, 3) := by decide +kernel
theorem d_CN_end_5 : decode b_CN_end 5 = .ok (.aload_n 0, 1) := by decide +kernel
theorem d_CN_end_6 : decode b_CN_end 6 = .ok (.aload_n 1, 1) := by decide +kernel
theorem d_CN_end_7 : decode b_CN_end 7 = .ok (.getfield 55, 3) := by decide +kernel
theorem d_CN_end_10 : decode b_CN_end 10 = .ok (.invokevirtual 78, 3) := by decide +kernel
theorem d_CN_end_13 : decode b_CN_end 13 = .ok (.aload_n 0, 1) := by decide +kernel
theorem d_CN_end_14 : decode b_CN_end 14 = .ok (.aload_n 0, 1) := by decide +kernel
theorem d_CN_end_15 : decode b_CN_end 15 = .ok (.getfield 75, 3) := by decide +kernel
theorem d_CN_end_18 : decode b_CN_end 18 = .ok (.aload_n 1, 1) := by decide +kernel
theorem d_CN_end_19 : decode b_CN_end 19 = .ok (.getfield 55, 3) := by decide +kernel
theorem d_CN_end_22 : decode b_CN_end 22 = .ok (.iconst (-1), 1) := by decide +kernel
theorem d_CN_end_23 : decode b_CN_end 23 = .ok (.ixor, 1) := by decide +kernel
theorem d_CN_end_24 : decode b_CN_end 24 = .ok (.iand, 1) := by decide +kernel
theorem d_CN_end_25 : decode b_CN_end 25 = .ok (.aload_n 1, 1) := by decide +kernel
theorem d_CN_end_26 : decode b_CN_end 26 = .ok (.aload_n 0, 1) := by decide +kernel
theorem d_CN_end_27 : decode b_CN_end 27 = .ok (.getfield 23, 3) := by decide +kernel
theorem d_CN_end_30 : decode b_CN_end 30 = .ok (.invokevirtual 173, 3) := by decide +kernel
theorem d_CN_end_33 : decode b_CN_end 33 = .ok (.ior, 1) := by decide +kernel
theorem d_CN_end_34 : decode b_CN_end 34 = .ok (.putfield 75, 3) := by decide +kernel
theorem d_CN_end_37 : decode b_CN_end 37 = .ok (.return_, 1) := by decide +kernel
theorem d_Work_isAnyOpen_0 : decode b_Work_isAnyOpen 0 = .ok (.iload_n 1, 1) := by decide +kernel
theorem d_Work_isAnyOpen_1 : decode b_Work_isAnyOpen 1 = .ok (.istore_n 3, 1) := by decide +kernel
theorem d_Work_isAnyOpen_2 : decode b_Work_isAnyOpen 2 = .ok (.iload_n 3, 1) := by decide +kernel
theorem d_Work_isAnyOpen_3 : decode b_Work_isAnyOpen 3 = .ok (.iload_n 1, 1) := by decide +kernel
theorem d_Work_isAnyOpen_4 : decode b_Work_isAnyOpen 4 = .ok (.iload_n 2, 1) := by decide +kernel
theorem d_Work_isAnyOpen_5 : decode b_Work_isAnyOpen 5 = .ok (.iadd, 1) := by decide +kernel
theorem d_Work_isAnyOpen_6 : decode b_Work_isAnyOpen 6 = .ok (.if_icmp .ge 19, 3) := by decide +kernel
theorem d_Work_isAnyOpen_9 : decode b_Work_isAnyOpen 9 = .ok (.aload_n 0, 1) := by decide +kernel
theorem d_Work_isAnyOpen_10 : decode b_Work_isAnyOpen 10 = .ok (.iload_n 3, 1) := by decide +kernel
theorem d_Work_isAnyOpen_11 : decode b_Work_isAnyOpen 11 = .ok (.invokevirtual 25, 3) := by decide +kernel
theorem d_Work_isAnyOpen_14 : decode b_Work_isAnyOpen 14 = .ok (.ifCond .eq 5, 3) := by decide +kernel
theorem d_Work_isAnyOpen_17 : decode b_Work_isAnyOpen 17 = .ok (.iconst 1, 1) := by decide +kernel
theorem d_Work_isAnyOpen_18 : decode b_Work_isAnyOpen 18 = .ok (.ireturn, 1) := by decide +kernel
theorem d_Work_isAnyOpen_19 : decode b_Work_isAnyOpen 19 = .ok (.iinc 3 1, 3) := by decide +kernel
theorem d_Work_isAnyOpen_22 : decode b_Work_isAnyOpen 22 = .ok (.goto (-20), 3) := by decide +kernel
theorem d_Work_isAnyOpen_25 : decode b_Work_isAnyOpen 25 = .ok (.iconst 0, 1) := by decide +kernel
theorem d_Work_isAnyOpen_26 : decode b_Work_isAnyOpen 26 = .ok (.ireturn, 1) := by decide +kernel
theorem d_CN_stopIfNoneIsOpen_0 : decode b_CN_stopIfNoneIsOpen 0 = .ok (.aload_n 0, 1) := by decide +kernel
theorem d_CN_stopIfNoneIsOpen_1 : decode b_CN_stopIfNoneIsOpen 1 = .ok (.getfield 19, 3) := by decide +kernel
theorem d_CN_stopIfNoneIsOpen_4 : decode b_CN_stopIfNoneIsOpen 4 = .ok (.aload_n 1, 1) := by decide +kernel
theorem d_CN_stopIfNoneIsOpen_5 : decode b_CN_stopIfNoneIsOpen 5 = .ok (.getfield 105, 3) := by decide +kernel
theorem d_CN_stopIfNoneIsOpen_8 : decode b_CN_stopIfNoneIsOpen 8 = .ok (.aload_n 1, 1) := by decide +kernel
theorem d_CN_stopIfNoneIsOpen_9 : decode b_CN_stopIfNoneIsOpen 9 = .ok (.getfield 85, 3) := by decide +kernel
theorem d_CN_stopIfNoneIsOpen_12 : decode b_CN_stopIfNoneIsOpen 12 = .ok (.invokevirtual 181, 3) := by decide +kernel
theorem d_CN_stopIfNoneIsOpen_15 : decode b_CN_stopIfNoneIsOpen 15 = .ok (.ifCond .eq 5, 3) := by decide +kernel
theorem d_CN_stopIfNoneIsOpen_18 : decode b_CN_stopIfNoneIsOpen 18 = .ok (.iconst 0, 1) := by decide +kernel
theorem d_CN_stopIfNoneIsOpen_19 : decode b_CN_stopIfNoneIsOpen 19 = .ok (.ireturn, 1) := by decide +kernel
theorem d_CN_stopIfNoneIsOpen_20 : decode b_CN_stopIfNoneIsOpen 20 = .ok (.aload_n 0, 1) := by decide +kernel
theorem d_CN_stopIfNoneIsOpen_21 : decode b_CN_stopIfNoneIsOpen 21 = .ok (.aload_n 1, 1) := by decide +kernel
theorem d_CN_stopIfNoneIsOpen_22 : decode b_CN_stopIfNoneIsOpen 22 = .ok (.invokevirtual 170, 3) := by decide +kernel
theorem d_CN_stopIfNoneIsOpen_25 : decode b_CN_stopIfNoneIsOpen 25 = .ok (.iconst 1, 1) := by decide +kernel
theorem d_CN_stopIfNoneIsOpen_26 : decode b_CN_stopIfNoneIsOpen 26 = .ok (.ireturn, 1) := by decide +kernel
theorem d_CN_finish_0 : decode b_CN_finish 0 = .ok (.aload_n 0, 1) := by decide +kernel
theorem d_CN_finish_1 : decode b_CN_finish 1 = .ok (.getfield 19, 3) := by decide +kernel
theorem d_CN_finish_4 : decode b_CN_finish 4 = .ok (.iload_n 1, 1) := by decide +kernel
theorem d_CN_finish_5 : decode b_CN_finish 5 = .ok (.invokevirtual 108, 3) := by decide +kernel
theorem d_CN_finish_8 : decode b_CN_finish 8 = .ok (.ifCond .ne 5, 3) := by decide +kernel
theorem d_CN_finish_11 : decode b_CN_finish 11 = .ok (.iconst (-1), 1) := by decide +kernel
theorem d_CN_finish_12 : decode b_CN_finish 12 = .ok (.ireturn, 1) := by decide +kernel
theorem d_CN_finish_13 : decode b_CN_finish 13 = .ok (.aload_n 0, 1) := by decide +kernel
theorem d_CN_finish_14 : decode b_CN_finish 14 = .ok (.getfield 19, 3) := by decide +kernel
theorem d_CN_finish_17 : decode b_CN_finish 17 = .ok (.getfield 111, 3) := by decide +kernel
theorem d_CN_finish_20 : decode b_CN_finish 20 = .ok (.iload_n 1, 1) := by decide +kernel
theorem d_CN_finish_21 : decode b_CN_finish 21 = .ok (.iaload, 1) := by decide +kernel
theorem d_CN_finish_22 : decode b_CN_finish 22 = .ok (.iconst 2, 1) := by decide +kernel
theorem d_CN_finish_23 : decode b_CN_finish 23 = .ok (.if_icmp .eq 6, 3) := by decide +kernel
theorem d_CN_finish_26 : decode b_CN_finish 26 = .ok (.bipush (-2), 2) := by decide +kernel
theorem d_CN_finish_28 : decode b_CN_finish 28 = .ok (.ireturn, 1) := by decide +kernel
theorem d_CN_finish_29 : decode b_CN_finish 29 = .ok (.aload_n 0, 1) := by decide +kernel
theorem d_CN_finish_30 : decode b_CN_finish 30 = .ok (.getfield 12, 3) := by decide +kernel
theorem d_CN_finish_33 : decode b_CN_finish 33 = .ok (.getfield 39, 3) := by decide +kernel
theorem d_CN_finish_36 : decode b_CN_finish 36 = .ok (.aload_n 0, 1) := by decide +kernel
theorem d_CN_finish_37 : decode b_CN_finish 37 = .ok (.getfield 19, 3) := by decide +kernel
theorem d_CN_finish_40 : decode b_CN_finish 40 = .ok (.getfield 114, 3) := by decide +kernel
theorem d_CN_finish_43 : decode b_CN_finish 43 = .ok (.iload_n 1, 1) := by decide +kernel
theorem d_CN_finish_44 : decode b_CN_finish 44 = .ok (.iaload, 1) := by decide +kernel
theorem d_CN_finish_45 : decode b_CN_finish 45 = .ok (.aaload, 1) := by decide +kernel
theorem d_CN_finish_46 : decode b_CN_finish 46 = .ok (.astore_n 3, 1) := by decide +kernel
theorem d_CN_finish_47 : decode b_CN_finish 47 = .ok (.aload_n 0, 1) := by decide +kernel
theorem d_CN_finish_48 : decode b_CN_finish 48 = .ok (.getfield 19, 3) := by decide +kernel
theorem d_CN_finish_51 : decode b_CN_finish 51 = .ok (.getfield 111, 3) := by decide +kernel
theorem d_CN_finish_54 : decode b_CN_finish 54 = .ok (.iload_n 1, 1) := by decide +kernel
theorem d_CN_finish_55 : decode b_CN_finish 55 = .ok (.iconst 3, 1) := by decide +kernel
theorem d_CN_finish_56 : decode b_CN_finish 56 = .ok (.iastore, 1) := by decide +kernel
theorem d_CN_finish_57 : decode b_CN_finish 57 = .ok (.aload_n 0, 1) := by decide +kernel
theorem d_CN_finish_58 : decode b_CN_finish 58 = .ok (.getfield 23, 3) := by decide +kernel
theorem d_CN_finish_61 : decode b_CN_finish 61 = .ok (.aload_n 3, 1) := by decide +kernel
theorem d_CN_finish_62 : decode b_CN_finish 62 = .ok (.getfield 117, 3) := by decide +kernel
theorem d_CN_finish_65 : decode b_CN_finish 65 = .ok (.iload_n 2, 1) := by decide +kernel
theorem d_CN_finish_66 : decode b_CN_finish 66 = .ok (.iastore, 1) := by decide +kernel
theorem d_CN_finish_67 : decode b_CN_finish 67 = .ok (.aload_n 0, 1) := by decide +kernel
theorem d_CN_finish_68 : decode b_CN_finish 68 = .ok (.getfield 19, 3) := by decide +kernel
theorem d_CN_finish_71 : decode b_CN_finish 71 = .ok (.aload_n 3, 1) := by decide +kernel
theorem d_CN_finish_72 : decode b_CN_finish 72 = .ok (.getfield 105, 3) := by decide +kernel
theorem d_CN_finish_75 : decode b_CN_finish 75 = .ok (.aload_n 3, 1) := by decide +kernel
theorem d_CN_finish_76 : decode b_CN_finish 76 = .ok (.getfield 85, 3) := by decide +kernel
theorem d_CN_finish_79 : decode b_CN_finish 79 = .ok (.invokevirtual 120, 3) := by decide +kernel
theorem d_CN_finish_82 : decode b_CN_finish 82 = .ok (.aload_n 3, 1) := by decide +kernel
theorem d_CN_finish_83 : decode b_CN_finish 83 = .ok (.getfield 124, 3) := by decide +kernel
theorem d_CN_finish_86 : decode b_CN_finish 86 = .ok (.if_icmp .lt 10, 3) := by decide +kernel
theorem d_CN_finish_89 : decode b_CN_finish 89 = .ok (.aload_n 0, 1) := by decide +kernel
theorem d_CN_finish_90 : decode b_CN_finish 90 = .ok (.aload_n 3, 1) := by decide +kernel
theorem d_CN_finish_91 : decode b_CN_finish 91 = .ok (.invokevirtual 127, 3) := by decide +kernel
theorem d_CN_finish_94 : decode b_CN_finish 94 = .ok (.iconst 1, 1) := by decide +kernel
theorem d_CN_finish_95 : decode b_CN_finish 95 = .ok (.ireturn, 1) := by decide +kernel
theorem d_CN_finish_96 : decode b_CN_finish 96 = .ok (.aload_n 0, 1) := by decide +kernel
theorem d_CN_finish_97 : decode b_CN_finish 97 = .ok (.aload_n 3, 1) := by decide +kernel
theorem d_CN_finish_98 : decode b_CN_finish 98 = .ok (.invokevirtual 131, 3) := by decide +kernel
theorem d_CN_finish_101 : decode b_CN_finish 101 = .ok (.pop, 1) := by decide +kernel
theorem d_CN_finish_102 : decode b_CN_finish 102 = .ok (.iconst 0, 1) := by decide +kernel
theorem d_CN_finish_103 : decode b_CN_finish 103 = .ok (.ireturn, 1) := by decide +kernel
theorem d_CN_failOpen_0 : decode b_CN_failOpen 0 = .ok (.aload_n 0, 1) := by decide +kernel
theorem d_CN_failOpen_1 : decode b_CN_failOpen 1 = .ok (.getfield 19, 3) := by decide +kernel
theorem d_CN_failOpen_4 : decode b_CN_failOpen 4 = .ok (.getfield 111, 3) := by decide +kernel
theorem d_CN_failOpen_7 : decode b_CN_failOpen 7 = .ok (.iload_n 1, 1) := by decide +kernel
theorem d_CN_failOpen_8 : decode b_CN_failOpen 8 = .ok (.iconst 4, 1) := by decide +kernel
theorem d_CN_failOpen_9 : decode b_CN_failOpen 9 = .ok (.iastore, 1) := by decide +kernel
theorem d_CN_failOpen_10 : decode b_CN_failOpen 10 = .ok (.aload_n 0, 1) := by decide +kernel
theorem d_CN_failOpen_11 : decode b_CN_failOpen 11 = .ok (.aload_n 0, 1) := by decide +kernel
theorem d_CN_failOpen_12 : decode b_CN_failOpen 12 = .ok (.getfield 12, 3) := by decide +kernel
theorem d_CN_failOpen_15 : decode b_CN_failOpen 15 = .ok (.getfield 39, 3) := by decide +kernel
theorem d_CN_failOpen_18 : decode b_CN_failOpen 18 = .ok (.aload_n 0, 1) := by decide +kernel
theorem d_CN_failOpen_19 : decode b_CN_failOpen 19 = .ok (.getfield 19, 3) := by decide +kernel
theorem d_CN_failOpen_22 : decode b_CN_failOpen 22 = .ok (.getfield 114, 3) := by decide +kernel
theorem d_CN_failOpen_25 : decode b_CN_failOpen 25 = .ok (.iload_n 1, 1) := by decide +kernel
theorem d_CN_failOpen_26 : decode b_CN_failOpen 26 = .ok (.iaload, 1) := by decide +kernel
theorem d_CN_failOpen_27 : decode b_CN_failOpen 27 = .ok (.aaload, 1) := by decide +kernel
theorem d_CN_failOpen_28 : decode b_CN_failOpen 28 = .ok (.invokevirtual 131, 3) := by decide +kernel
theorem d_CN_failOpen_31 : decode b_CN_failOpen 31 = .ok (.ireturn, 1) := by decide +kernel
theorem d_CN_fail_0 : decode b_CN_fail 0 = .ok (.aload_n 0, 1) := by decide +kernel
theorem d_CN_fail_1 : decode b_CN_fail 1 = .ok (.getfield 19, 3) := by decide +kernel
theorem d_CN_fail_4 : decode b_CN_fail 4 = .ok (.iload_n 1, 1) := by decide +kernel
theorem d_CN_fail_5 : decode b_CN_fail 5 = .ok (.invokevirtual 108, 3) := by decide +kernel
theorem d_CN_fail_8 : decode b_CN_fail 8 = .ok (.ifCond .ne 5, 3) := by decide +kernel
theorem d_CN_fail_11 : decode b_CN_fail 11 = .ok (.iconst (-1), 1) := by decide +kernel
theorem d_CN_fail_12 : decode b_CN_fail 12 = .ok (.ireturn, 1) := by decide +kernel
theorem d_CN_fail_13 : decode b_CN_fail 13 = .ok (.aload_n 0, 1) := by decide +kernel
theorem d_CN_fail_14 : decode b_CN_fail 14 = .ok (.getfield 19, 3) := by decide +kernel
theorem d_CN_fail_17 : decode b_CN_fail 17 = .ok (.iload_n 1, 1) := by decide +kernel
theorem d_CN_fail_18 : decode b_CN_fail 18 = .ok (.invokevirtual 135, 3) := by decide +kernel
theorem d_CN_fail_21 : decode b_CN_fail 21 = .ok (.ifCond .ne 6, 3) := by decide +kernel
theorem d_CN_fail_24 : decode b_CN_fail 24 = .ok (.bipush (-2), 2) := by decide +kernel
theorem d_CN_fail_26 : decode b_CN_fail 26 = .ok (.ireturn, 1) := by decide +kernel
theorem d_CN_fail_27 : decode b_CN_fail 27 = .ok (.aload_n 0, 1) := by decide +kernel
theorem d_CN_fail_28 : decode b_CN_fail 28 = .ok (.iload_n 1, 1) := by decide +kernel
theorem d_CN_fail_29 : decode b_CN_fail 29 = .ok (.invokevirtual 138, 3) := by decide +kernel
theorem d_CN_fail_32 : decode b_CN_fail 32 = .ok (.ifCond .eq 7, 3) := by decide +kernel
theorem d_CN_fail_35 : decode b_CN_fail 35 = .ok (.iconst 1, 1) := by decide +kernel
theorem d_CN_fail_36 : decode b_CN_fail 36 = .ok (.goto 4, 3) := by decide +kernel
theorem d_CN_fail_39 : decode b_CN_fail 39 = .ok (.iconst 0, 1) := by decide +kernel
theorem d_CN_fail_40 : decode b_CN_fail 40 = .ok (.ireturn, 1) := by decide +kernel
theorem d_CN_isOverdue_0 : decode b_CN_isOverdue 0 = .ok (.aload_n 0, 1) := by decide +kernel
theorem d_CN_isOverdue_1 : decode b_CN_isOverdue 1 = .ok (.getfield 12, 3) := by decide +kernel
theorem d_CN_isOverdue_4 : decode b_CN_isOverdue 4 = .ok (.getfield 39, 3) := by decide +kernel
theorem d_CN_isOverdue_7 : decode b_CN_isOverdue 7 = .ok (.aload_n 0, 1) := by decide +kernel
theorem d_CN_isOverdue_8 : decode b_CN_isOverdue 8 = .ok (.getfield 19, 3) := by decide +kernel
theorem d_CN_isOverdue_11 : decode b_CN_isOverdue 11 = .ok (.getfield 114, 3) := by decide +kernel
theorem d_CN_isOverdue_14 : decode b_CN_isOverdue 14 = .ok (.iload_n 1, 1) := by decide +kernel
theorem d_CN_isOverdue_15 : decode b_CN_isOverdue 15 = .ok (.iaload, 1) := by decide +kernel
theorem d_CN_isOverdue_16 : decode b_CN_isOverdue 16 = .ok (.aaload, 1) := by decide +kernel
theorem d_CN_isOverdue_17 : decode b_CN_isOverdue 17 = .ok (.getfield 185, 3) := by decide +kernel
theorem d_CN_isOverdue_20 : decode b_CN_isOverdue 20 = .ok (.istore_n 2, 1) := by decide +kernel
theorem d_CN_isOverdue_21 : decode b_CN_isOverdue 21 = .ok (.iload_n 2, 1) := by decide +kernel
theorem d_CN_isOverdue_22 : decode b_CN_isOverdue 22 = .ok (.ifCond .le 25, 3) := by decide +kernel
theorem d_CN_isOverdue_25 : decode b_CN_isOverdue 25 = .ok (.aload_n 0, 1) := by decide +kernel
theorem d_CN_isOverdue_26 : decode b_CN_isOverdue 26 = .ok (.getfield 98, 3) := by decide +kernel
theorem d_CN_isOverdue_29 : decode b_CN_isOverdue 29 = .ok (.aload_n 0, 1) := by decide +kernel
theorem d_CN_isOverdue_30 : decode b_CN_isOverdue 30 = .ok (.getfield 19, 3) := by decide +kernel
theorem d_CN_isOverdue_33 : decode b_CN_isOverdue 33 = .ok (.getfield 147, 3) := by decide +kernel
theorem d_CN_isOverdue_36 : decode b_CN_isOverdue 36 = .ok (.iload_n 1, 1) := by decide +kernel
theorem d_CN_isOverdue_37 : decode b_CN_isOverdue 37 = .ok (.iaload, 1) := by decide +kernel
theorem d_CN_isOverdue_38 : decode b_CN_isOverdue 38 = .ok (.isub, 1) := by decide +kernel
theorem d_CN_isOverdue_39 : decode b_CN_isOverdue 39 = .ok (.iload_n 2, 1) := by decide +kernel
theorem d_CN_isOverdue_40 : decode b_CN_isOverdue 40 = .ok (.if_icmp .lt 7, 3) := by decide +kernel
theorem d_CN_isOverdue_43 : decode b_CN_isOverdue 43 = .ok (.iconst 1, 1) := by decide +kernel
theorem d_CN_isOverdue_44 : decode b_CN_isOverdue 44 = .ok (.goto 4, 3) := by decide +kernel
theorem d_CN_isOverdue_47 : decode b_CN_isOverdue 47 = .ok (.iconst 0, 1) := by decide +kernel
theorem d_CN_isOverdue_48 : decode b_CN_isOverdue 48 = .ok (.ireturn, 1) := by decide +kernel
theorem d_CN_tick_0 : decode b_CN_tick 0 = .ok (.iload_n 1, 1) := by decide +kernel
theorem d_CN_tick_1 : decode b_CN_tick 1 = .ok (.iconst 0, 1) := by decide +kernel
theorem d_CN_tick_2 : decode b_CN_tick 2 = .ok (.bipush 100, 2) := by decide +kernel
theorem d_CN_tick_4 : decode b_CN_tick 4 = .ok (.invokestatic 31, 3) := by decide +kernel
theorem d_CN_tick_7 : decode b_CN_tick 7 = .ok (.ifCond .eq 13, 3) := by decide +kernel
theorem d_CN_tick_10 : decode b_CN_tick 10 = .ok (.aload_n 0, 1) := by decide +kernel
theorem d_CN_tick_11 : decode b_CN_tick 11 = .ok (.dup, 1) := by decide +kernel
theorem d_CN_tick_12 : decode b_CN_tick 12 = .ok (.getfield 98, 3) := by decide +kernel
theorem d_CN_tick_15 : decode b_CN_tick 15 = .ok (.iload_n 1, 1) := by decide +kernel
theorem d_CN_tick_16 : decode b_CN_tick 16 = .ok (.iadd, 1) := by decide +kernel
theorem d_CN_tick_17 : decode b_CN_tick 17 = .ok (.putfield 98, 3) := by decide +kernel
theorem d_CN_tick_20 : decode b_CN_tick 20 = .ok (.iconst 1, 1) := by decide +kernel
theorem d_CN_tick_21 : decode b_CN_tick 21 = .ok (.istore_n 2, 1) := by decide +kernel
theorem d_CN_tick_22 : decode b_CN_tick 22 = .ok (.iload_n 2, 1) := by decide +kernel
theorem d_CN_tick_23 : decode b_CN_tick 23 = .ok (.aload_n 0, 1) := by decide +kernel
theorem d_CN_tick_24 : decode b_CN_tick 24 = .ok (.getfield 19, 3) := by decide +kernel
theorem d_CN_tick_27 : decode b_CN_tick 27 = .ok (.getfield 141, 3) := by decide +kernel
theorem d_CN_tick_30 : decode b_CN_tick 30 = .ok (.if_icmp .gt 34, 3) := by decide +kernel
theorem d_CN_tick_33 : decode b_CN_tick 33 = .ok (.aload_n 0, 1) := by decide +kernel
theorem d_CN_tick_34 : decode b_CN_tick 34 = .ok (.getfield 19, 3) := by decide +kernel
theorem d_CN_tick_37 : decode b_CN_tick 37 = .ok (.iload_n 2, 1) := by decide +kernel
theorem d_CN_tick_38 : decode b_CN_tick 38 = .ok (.invokevirtual 135, 3) := by decide +kernel
theorem d_CN_tick_41 : decode b_CN_tick 41 = .ok (.ifCond .eq 17, 3) := by decide +kernel
theorem d_CN_tick_44 : decode b_CN_tick 44 = .ok (.aload_n 0, 1) := by decide +kernel
theorem d_CN_tick_45 : decode b_CN_tick 45 = .ok (.iload_n 2, 1) := by decide +kernel
theorem d_CN_tick_46 : decode b_CN_tick 46 = .ok (.invokevirtual 144, 3) := by decide +kernel
theorem d_CN_tick_49 : decode b_CN_tick 49 = .ok (.ifCond .eq 9, 3) := by decide +kernel
theorem d_CN_tick_52 : decode b_CN_tick 52 = .ok (.aload_n 0, 1) := by decide +kernel
theorem d_CN_tick_53 : decode b_CN_tick 53 = .ok (.iload_n 2, 1) := by decide +kernel
theorem d_CN_tick_54 : decode b_CN_tick 54 = .ok (.invokevirtual 138, 3) := by decide +kernel
theorem d_CN_tick_57 : decode b_CN_tick 57 = .ok (.pop, 1) := by decide +kernel
theorem d_CN_tick_58 : decode b_CN_tick 58 = .ok (.iinc 2 1, 3) := by decide +kernel
theorem d_CN_tick_61 : decode b_CN_tick 61 = .ok (.goto (-39), 3) := by decide +kernel
theorem d_CN_tick_64 : decode b_CN_tick 64 = .ok (.aload_n 0, 1) := by decide +kernel
theorem d_CN_tick_65 : decode b_CN_tick 65 = .ok (.getfield 98, 3) := by decide +kernel
theorem d_CN_tick_68 : decode b_CN_tick 68 = .ok (.ireturn, 1) := by decide +kernel
theorem d_CN_set_0 : decode b_CN_set 0 = .ok (.iload_n 1, 1) := by decide +kernel
theorem d_CN_set_1 : decode b_CN_set 1 = .ok (.invokestatic 59, 3) := by decide +kernel
theorem d_CN_set_4 : decode b_CN_set 4 = .ok (.ifCond .ne 5, 3) := by decide +kernel
theorem d_CN_set_7 : decode b_CN_set 7 = .ok (.iconst 0, 1) := by decide +kernel
theorem d_CN_set_8 : decode b_CN_set 8 = .ok (.ireturn, 1) := by decide +kernel
theorem d_CN_set_9 : decode b_CN_set 9 = .ok (.aload_n 0, 1) := by decide +kernel
theorem d_CN_set_10 : decode b_CN_set 10 = .ok (.getfield 23, 3) := by decide +kernel
theorem d_CN_set_13 : decode b_CN_set 13 = .ok (.iload_n 1, 1) := by decide +kernel
theorem d_CN_set_14 : decode b_CN_set 14 = .ok (.iload_n 2, 1) := by decide +kernel
theorem d_CN_set_15 : decode b_CN_set 15 = .ok (.iastore, 1) := by decide +kernel
theorem d_CN_set_16 : decode b_CN_set 16 = .ok (.iconst 1, 1) := by decide +kernel
theorem d_CN_set_17 : decode b_CN_set 17 = .ok (.ireturn, 1) := by decide +kernel
theorem d_CN_variable_0 : decode b_CN_variable 0 = .ok (.iload_n 1, 1) := by decide +kernel
theorem d_CN_variable_1 : decode b_CN_variable 1 = .ok (.invokestatic 59, 3) := by decide +kernel
theorem d_CN_variable_4 : decode b_CN_variable 4 = .ok (.ifCond .eq 12, 3) := by decide +kernel
theorem d_CN_variable_7 : decode b_CN_variable 7 = .ok (.aload_n 0, 1) := by decide +kernel
theorem d_CN_variable_8 : decode b_CN_variable 8 = .ok (.getfield 23, 3) := by decide +kernel
theorem d_CN_variable_11 : decode b_CN_variable 11 = .ok (.iload_n 1, 1) := by decide +kernel
theorem d_CN_variable_12 : decode b_CN_variable 12 = .ok (.iaload, 1) := by decide +kernel
theorem d_CN_variable_13 : decode b_CN_variable 13 = .ok (.goto 4, 3) := by decide +kernel
theorem d_CN_variable_16 : decode b_CN_variable 16 = .ok (.iconst 0, 1) := by decide +kernel
theorem d_CN_variable_17 : decode b_CN_variable 17 = .ok (.ireturn, 1) := by decide +kernel
theorem d_CN_marking_0 : decode b_CN_marking 0 = .ok (.aload_n 0, 1) := by decide +kernel
theorem d_CN_marking_1 : decode b_CN_marking 1 = .ok (.getfield 75, 3) := by decide +kernel
theorem d_CN_marking_4 : decode b_CN_marking 4 = .ok (.ireturn, 1) := by decide +kernel
theorem d_CN_item_0 : decode b_CN_item 0 = .ok (.aload_n 0, 1) := by decide +kernel
theorem d_CN_item_1 : decode b_CN_item 1 = .ok (.getfield 19, 3) := by decide +kernel
theorem d_CN_item_4 : decode b_CN_item 4 = .ok (.iload_n 1, 1) := by decide +kernel
theorem d_CN_item_5 : decode b_CN_item 5 = .ok (.invokevirtual 108, 3) := by decide +kernel
theorem d_CN_item_8 : decode b_CN_item 8 = .ok (.ifCond .ne 5, 3) := by decide +kernel
theorem d_CN_item_11 : decode b_CN_item 11 = .ok (.iconst (-1), 1) := by decide +kernel
theorem d_CN_item_12 : decode b_CN_item 12 = .ok (.ireturn, 1) := by decide +kernel
theorem d_CN_item_13 : decode b_CN_item 13 = .ok (.iload_n 2, 1) := by decide +kernel
theorem d_CN_item_14 : decode b_CN_item 14 = .ok (.tableswitch 56 0 2 #[26, 36, 46], 26) := by decide +kernel
theorem d_CN_item_40 : decode b_CN_item 40 = .ok (.aload_n 0, 1) := by decide +kernel
theorem d_CN_item_41 : decode b_CN_item 41 = .ok (.getfield 19, 3) := by decide +kernel
theorem d_CN_item_44 : decode b_CN_item 44 = .ok (.getfield 114, 3) := by decide +kernel
theorem d_CN_item_47 : decode b_CN_item 47 = .ok (.iload_n 1, 1) := by decide +kernel
theorem d_CN_item_48 : decode b_CN_item 48 = .ok (.iaload, 1) := by decide +kernel
theorem d_CN_item_49 : decode b_CN_item 49 = .ok (.ireturn, 1) := by decide +kernel
theorem d_CN_item_50 : decode b_CN_item 50 = .ok (.aload_n 0, 1) := by decide +kernel
theorem d_CN_item_51 : decode b_CN_item 51 = .ok (.getfield 19, 3) := by decide +kernel
theorem d_CN_item_54 : decode b_CN_item 54 = .ok (.getfield 111, 3) := by decide +kernel
theorem d_CN_item_57 : decode b_CN_item 57 = .ok (.iload_n 1, 1) := by decide +kernel
theorem d_CN_item_58 : decode b_CN_item 58 = .ok (.iaload, 1) := by decide +kernel
theorem d_CN_item_59 : decode b_CN_item 59 = .ok (.ireturn, 1) := by decide +kernel
theorem d_CN_item_60 : decode b_CN_item 60 = .ok (.aload_n 0, 1) := by decide +kernel
theorem d_CN_item_61 : decode b_CN_item 61 = .ok (.getfield 19, 3) := by decide +kernel
theorem d_CN_item_64 : decode b_CN_item 64 = .ok (.getfield 147, 3) := by decide +kernel
theorem d_CN_item_67 : decode b_CN_item 67 = .ok (.iload_n 1, 1) := by decide +kernel
theorem d_CN_item_68 : decode b_CN_item 68 = .ok (.iaload, 1) := by decide +kernel
theorem d_CN_item_69 : decode b_CN_item 69 = .ok (.ireturn, 1) := by decide +kernel
theorem d_CN_item_70 : decode b_CN_item 70 = .ok (.iconst (-1), 1) := by decide +kernel
theorem d_CN_item_71 : decode b_CN_item 71 = .ok (.ireturn, 1) := by decide +kernel
theorem d_CN_covers_0 : decode b_CN_covers 0 = .ok (.iload_n 1, 1) := by decide +kernel
theorem d_CN_covers_1 : decode b_CN_covers 1 = .ok (.invokestatic 52, 3) := by decide +kernel
theorem d_CN_covers_4 : decode b_CN_covers 4 = .ok (.ifCond .eq 10, 3) := by decide +kernel
theorem d_CN_covers_7 : decode b_CN_covers 7 = .ok (.iload_n 2, 1) := by decide +kernel
theorem d_CN_covers_8 : decode b_CN_covers 8 = .ok (.invokestatic 52, 3) := by decide +kernel
theorem d_CN_covers_11 : decode b_CN_covers 11 = .ok (.ifCond .ne 5, 3) := by decide +kernel
theorem d_CN_covers_14 : decode b_CN_covers 14 = .ok (.iconst (-1), 1) := by decide +kernel
theorem d_CN_covers_15 : decode b_CN_covers 15 = .ok (.ireturn, 1) := by decide +kernel
theorem d_CN_covers_16 : decode b_CN_covers 16 = .ok (.iload_n 3, 1) := by decide +kernel
theorem d_CN_covers_17 : decode b_CN_covers 17 = .ok (.iconst (-1), 1) := by decide +kernel
theorem d_CN_covers_18 : decode b_CN_covers 18 = .ok (.iconst 5, 1) := by decide +kernel
theorem d_CN_covers_19 : decode b_CN_covers 19 = .ok (.invokestatic 31, 3) := by decide +kernel
theorem d_CN_covers_22 : decode b_CN_covers 22 = .ok (.ifCond .ne 5, 3) := by decide +kernel
theorem d_CN_covers_25 : decode b_CN_covers 25 = .ok (.iconst (-1), 1) := by decide +kernel
theorem d_CN_covers_26 : decode b_CN_covers 26 = .ok (.ireturn, 1) := by decide +kernel
theorem d_CN_covers_27 : decode b_CN_covers 27 = .ok (.aload_n 0, 1) := by decide +kernel
theorem d_CN_covers_28 : decode b_CN_covers 28 = .ok (.getfield 12, 3) := by decide +kernel
theorem d_CN_covers_31 : decode b_CN_covers 31 = .ok (.iload_n 2, 1) := by decide +kernel
theorem d_CN_covers_32 : decode b_CN_covers 32 = .ok (.iload_n 1, 1) := by decide +kernel
theorem d_CN_covers_33 : decode b_CN_covers 33 = .ok (.iload_n 3, 1) := by decide +kernel
theorem d_CN_covers_34 : decode b_CN_covers 34 = .ok (.invokevirtual 150, 3) := by decide +kernel
theorem d_CN_covers_37 : decode b_CN_covers 37 = .ok (.ifCond .eq 7, 3) := by decide +kernel
theorem d_CN_covers_40 : decode b_CN_covers 40 = .ok (.iconst 1, 1) := by decide +kernel
theorem d_CN_covers_41 : decode b_CN_covers 41 = .ok (.goto 4, 3) := by decide +kernel
theorem d_CN_covers_44 : decode b_CN_covers 44 = .ok (.iconst 0, 1) := by decide +kernel
theorem d_CN_covers_45 : decode b_CN_covers 45 = .ok (.ireturn, 1) := by decide +kernel
theorem d_Net_hasJoinSome_0 : decode b_Net_hasJoinSome 0 = .ok (.iconst 0, 1) := by decide +kernel
theorem d_Net_hasJoinSome_1 : decode b_Net_hasJoinSome 1 = .ok (.istore_n 1, 1) := by decide +kernel
theorem d_Net_hasJoinSome_2 : decode b_Net_hasJoinSome 2 = .ok (.iload_n 1, 1) := by decide +kernel
theorem d_Net_hasJoinSome_3 : decode b_Net_hasJoinSome 3 = .ok (.bipush 6, 2) := by decide +kernel
theorem d_Net_hasJoinSome_5 : decode b_Net_hasJoinSome 5 = .ok (.if_icmp .ge 36, 3) := by decide +kernel
theorem d_Net_hasJoinSome_8 : decode b_Net_hasJoinSome 8 = .ok (.aload_n 0, 1) := by decide +kernel
theorem d_Net_hasJoinSome_9 : decode b_Net_hasJoinSome 9 = .ok (.getfield 11, 3) := by decide +kernel
theorem d_Net_hasJoinSome_12 : decode b_Net_hasJoinSome 12 = .ok (.iload_n 1, 1) := by decide +kernel
theorem d_Net_hasJoinSome_13 : decode b_Net_hasJoinSome 13 = .ok (.aaload, 1) := by decide +kernel
theorem d_Net_hasJoinSome_14 : decode b_Net_hasJoinSome 14 = .ok (.getfield 37, 3) := by decide +kernel
theorem d_Net_hasJoinSome_17 : decode b_Net_hasJoinSome 17 = .ok (.ifCond .eq 18, 3) := by decide +kernel
theorem d_Net_hasJoinSome_20 : decode b_Net_hasJoinSome 20 = .ok (.aload_n 0, 1) := by decide +kernel
theorem d_Net_hasJoinSome_21 : decode b_Net_hasJoinSome 21 = .ok (.getfield 11, 3) := by decide +kernel
theorem d_Net_hasJoinSome_24 : decode b_Net_hasJoinSome 24 = .ok (.iload_n 1, 1) := by decide +kernel
theorem d_Net_hasJoinSome_25 : decode b_Net_hasJoinSome 25 = .ok (.aaload, 1) := by decide +kernel
theorem d_Net_hasJoinSome_26 : decode b_Net_hasJoinSome 26 = .ok (.getfield 66, 3) := by decide +kernel
theorem d_Net_hasJoinSome_29 : decode b_Net_hasJoinSome 29 = .ok (.iconst 2, 1) := by decide +kernel
theorem d_Net_hasJoinSome_30 : decode b_Net_hasJoinSome 30 = .ok (.if_icmp .ne 5, 3) := by decide +kernel
theorem d_Net_hasJoinSome_33 : decode b_Net_hasJoinSome 33 = .ok (.iconst 1, 1) := by decide +kernel
theorem d_Net_hasJoinSome_34 : decode b_Net_hasJoinSome 34 = .ok (.ireturn, 1) := by decide +kernel
theorem d_Net_hasJoinSome_35 : decode b_Net_hasJoinSome 35 = .ok (.iinc 1 1, 3) := by decide +kernel
theorem d_Net_hasJoinSome_38 : decode b_Net_hasJoinSome 38 = .ok (.goto (-36), 3) := by decide +kernel
theorem d_Net_hasJoinSome_41 : decode b_Net_hasJoinSome 41 = .ok (.iconst 0, 1) := by decide +kernel
theorem d_Net_hasJoinSome_42 : decode b_Net_hasJoinSome 42 = .ok (.ireturn, 1) := by decide +kernel
theorem d_Net_addReached_0 : decode b_Net_addReached 0 = .ok (.aload_n 0, 1) := by decide +kernel
theorem d_Net_addReached_1 : decode b_Net_addReached 1 = .ok (.getfield 24, 3) := by decide +kernel
theorem d_Net_addReached_4 : decode b_Net_addReached 4 = .ok (.iload_n 1, 1) := by decide +kernel
theorem d_Net_addReached_5 : decode b_Net_addReached 5 = .ok (.invokevirtual 75, 3) := by decide +kernel
theorem d_Net_addReached_8 : decode b_Net_addReached 8 = .ok (.ifCond .ne 19, 3) := by decide +kernel
theorem d_Net_addReached_11 : decode b_Net_addReached 11 = .ok (.aload_n 0, 1) := by decide +kernel
theorem d_Net_addReached_12 : decode b_Net_addReached 12 = .ok (.getfield 24, 3) := by decide +kernel
theorem d_Net_addReached_15 : decode b_Net_addReached 15 = .ok (.iload_n 1, 1) := by decide +kernel
theorem d_Net_addReached_16 : decode b_Net_addReached 16 = .ok (.invokevirtual 111, 3) := by decide +kernel
theorem d_Net_addReached_19 : decode b_Net_addReached 19 = .ok (.aload_n 0, 1) := by decide +kernel
theorem d_Net_addReached_20 : decode b_Net_addReached 20 = .ok (.getfield 20, 3) := by decide +kernel
theorem d_Net_addReached_23 : decode b_Net_addReached 23 = .ok (.iload_n 1, 1) := by decide +kernel
theorem d_Net_addReached_24 : decode b_Net_addReached 24 = .ok (.invokevirtual 111, 3) := by decide +kernel
theorem d_Net_addReached_27 : decode b_Net_addReached 27 = .ok (.return_, 1) := by decide +kernel
