theorem d_CN_isBetween_0 : decode b_CN_isBetween 0 = .ok (.iload_n 0, 1) := by decide +kernel
theorem d_CN_isBetween_1 : decode b_CN_isBetween 1 = .ok (.iload_n 1, 1) := by decide +kernel
theorem d_CN_isBetween_2 : decode b_CN_isBetween 2 = .ok (.if_icmp .lt 12, 3) := by decide +kernel
theorem d_CN_isBetween_5 : decode b_CN_isBetween 5 = .ok (.iload_n 0, 1) := by decide +kernel
theorem d_CN_isBetween_6 : decode b_CN_isBetween 6 = .ok (.iload_n 2, 1) := by decide +kernel
theorem d_CN_isBetween_7 : decode b_CN_isBetween 7 = .ok (.if_icmp .gt 7, 3) := by decide +kernel
theorem d_CN_isBetween_10 : decode b_CN_isBetween 10 = .ok (.iconst 1, 1) := by decide +kernel
theorem d_CN_isBetween_11 : decode b_CN_isBetween 11 = .ok (.goto 4, 3) := by decide +kernel
theorem d_CN_isBetween_14 : decode b_CN_isBetween 14 = .ok (.iconst 0, 1) := by decide +kernel
theorem d_CN_isBetween_15 : decode b_CN_isBetween 15 = .ok (.ireturn, 1) := by decide +kernel
theorem d_Integer_bitCount_0 : decode b_Integer_bitCount 0 = .ok (.iload_n 0, 1) := by decide +kernel
theorem d_Integer_bitCount_1 : decode b_Integer_bitCount 1 = .ok (.iload_n 0, 1) := by decide +kernel
theorem d_Integer_bitCount_2 : decode b_Integer_bitCount 2 = .ok (.iconst 1, 1) := by decide +kernel
theorem d_Integer_bitCount_3 : decode b_Integer_bitCount 3 = .ok (.iushr, 1) := by decide +kernel
theorem d_Integer_bitCount_4 : decode b_Integer_bitCount 4 = .ok (.ldc_w 265, 3) := by decide +kernel
theorem d_Integer_bitCount_7 : decode b_Integer_bitCount 7 = .ok (.iand, 1) := by decide +kernel
theorem d_Integer_bitCount_8 : decode b_Integer_bitCount 8 = .ok (.isub, 1) := by decide +kernel
theorem d_Integer_bitCount_9 : decode b_Integer_bitCount 9 = .ok (.istore_n 0, 1) := by decide +kernel
theorem d_Integer_bitCount_10 : decode b_Integer_bitCount 10 = .ok (.iload_n 0, 1) := by decide +kernel
theorem d_Integer_bitCount_11 : decode b_Integer_bitCount 11 = .ok (.ldc_w 266, 3) := by decide +kernel
theorem d_Integer_bitCount_14 : decode b_Integer_bitCount 14 = .ok (.iand, 1) := by decide +kernel
theorem d_Integer_bitCount_15 : decode b_Integer_bitCount 15 = .ok (.iload_n 0, 1) := by decide +kernel
theorem d_Integer_bitCount_16 : decode b_Integer_bitCount 16 = .ok (.iconst 2, 1) := by decide +kernel
theorem d_Integer_bitCount_17 : decode b_Integer_bitCount 17 = .ok (.iushr, 1) := by decide +kernel
theorem d_Integer_bitCount_18 : decode b_Integer_bitCount 18 = .ok (.ldc_w 266, 3) := by decide +kernel
theorem d_Integer_bitCount_21 : decode b_Integer_bitCount 21 = .ok (.iand, 1) := by decide +kernel
theorem d_Integer_bitCount_22 : decode b_Integer_bitCount 22 = .ok (.iadd, 1) := by decide +kernel
theorem d_Integer_bitCount_23 : decode b_Integer_bitCount 23 = .ok (.istore_n 0, 1) := by decide +kernel
theorem d_Integer_bitCount_24 : decode b_Integer_bitCount 24 = .ok (.iload_n 0, 1) := by decide +kernel
theorem d_Integer_bitCount_25 : decode b_Integer_bitCount 25 = .ok (.iload_n 0, 1) := by decide +kernel
theorem d_Integer_bitCount_26 : decode b_Integer_bitCount 26 = .ok (.iconst 4, 1) := by decide +kernel
theorem d_Integer_bitCount_27 : decode b_Integer_bitCount 27 = .ok (.iushr, 1) := by decide +kernel
theorem d_Integer_bitCount_28 : decode b_Integer_bitCount 28 = .ok (.iadd, 1) := by decide +kernel
theorem d_Integer_bitCount_29 : decode b_Integer_bitCount 29 = .ok (.ldc_w 267, 3) := by decide +kernel
theorem d_Integer_bitCount_32 : decode b_Integer_bitCount 32 = .ok (.iand, 1) := by decide +kernel
theorem d_Integer_bitCount_33 : decode b_Integer_bitCount 33 = .ok (.istore_n 0, 1) := by decide +kernel
theorem d_Integer_bitCount_34 : decode b_Integer_bitCount 34 = .ok (.iload_n 0, 1) := by decide +kernel
theorem d_Integer_bitCount_35 : decode b_Integer_bitCount 35 = .ok (.iload_n 0, 1) := by decide +kernel
theorem d_Integer_bitCount_36 : decode b_Integer_bitCount 36 = .ok (.bipush 8, 2) := by decide +kernel
theorem d_Integer_bitCount_38 : decode b_Integer_bitCount 38 = .ok (.iushr, 1) := by decide +kernel
theorem d_Integer_bitCount_39 : decode b_Integer_bitCount 39 = .ok (.iadd, 1) := by decide +kernel
theorem d_Integer_bitCount_40 : decode b_Integer_bitCount 40 = .ok (.istore_n 0, 1) := by decide +kernel
theorem d_Integer_bitCount_41 : decode b_Integer_bitCount 41 = .ok (.iload_n 0, 1) := by decide +kernel
theorem d_Integer_bitCount_42 : decode b_Integer_bitCount 42 = .ok (.iload_n 0, 1) := by decide +kernel
theorem d_Integer_bitCount_43 : decode b_Integer_bitCount 43 = .ok (.bipush 16, 2) := by decide +kernel
theorem d_Integer_bitCount_45 : decode b_Integer_bitCount 45 = .ok (.iushr, 1) := by decide +kernel
theorem d_Integer_bitCount_46 : decode b_Integer_bitCount 46 = .ok (.iadd, 1) := by decide +kernel
theorem d_Integer_bitCount_47 : decode b_Integer_bitCount 47 = .ok (.istore_n 0, 1) := by decide +kernel
theorem d_Integer_bitCount_48 : decode b_Integer_bitCount 48 = .ok (.iload_n 0, 1) := by decide +kernel
theorem d_Integer_bitCount_49 : decode b_Integer_bitCount 49 = .ok (.bipush 63, 2) := by decide +kernel
theorem d_Integer_bitCount_51 : decode b_Integer_bitCount 51 = .ok (.iand, 1) := by decide +kernel
theorem d_Integer_bitCount_52 : decode b_Integer_bitCount 52 = .ok (.ireturn, 1) := by decide +kernel
theorem d_CN_isOneToThreeConditions_0 : decode b_CN_isOneToThreeConditions 0 = .ok (.iload_n 0, 1) := by decide +kernel
theorem d_CN_isOneToThreeConditions_1 : decode b_CN_isOneToThreeConditions 1 = .ok (.bipush 8, 2) := by decide +kernel
theorem d_CN_isOneToThreeConditions_3 : decode b_CN_isOneToThreeConditions 3 = .ok (.iushr, 1) := by decide +kernel
theorem d_CN_isOneToThreeConditions_4 : decode b_CN_isOneToThreeConditions 4 = .ok (.ifCond .ne 19, 3) := by decide +kernel
theorem d_CN_isOneToThreeConditions_7 : decode b_CN_isOneToThreeConditions 7 = .ok (.iload_n 0, 1) := by decide +kernel
theorem d_CN_isOneToThreeConditions_8 : decode b_CN_isOneToThreeConditions 8 = .ok (.invokestatic 156, 3) := by decide +kernel
theorem d_CN_isOneToThreeConditions_11 : decode b_CN_isOneToThreeConditions 11 = .ok (.iconst 1, 1) := by decide +kernel
theorem d_CN_isOneToThreeConditions_12 : decode b_CN_isOneToThreeConditions 12 = .ok (.iconst 3, 1) := by decide +kernel
theorem d_CN_isOneToThreeConditions_13 : decode b_CN_isOneToThreeConditions 13 = .ok (.invokestatic 31, 3) := by decide +kernel
theorem d_CN_isOneToThreeConditions_16 : decode b_CN_isOneToThreeConditions 16 = .ok (.ifCond .eq 7, 3) := by decide +kernel
theorem d_CN_isOneToThreeConditions_19 : decode b_CN_isOneToThreeConditions 19 = .ok (.iconst 1, 1) := by decide +kernel
theorem d_CN_isOneToThreeConditions_20 : decode b_CN_isOneToThreeConditions 20 = .ok (.goto 4, 3) := by decide +kernel
theorem d_CN_isOneToThreeConditions_23 : decode b_CN_isOneToThreeConditions 23 = .ok (.iconst 0, 1) := by decide +kernel
theorem d_CN_isOneToThreeConditions_24 : decode b_CN_isOneToThreeConditions 24 = .ok (.ireturn, 1) := by decide +kernel
theorem d_Task_putWork_0 : decode b_Task_putWork 0 = .ok (.aload_n 0, 1) := by decide +kernel
theorem d_Task_putWork_1 : decode b_Task_putWork 1 = .ok (.iload_n 1, 1) := by decide +kernel
theorem d_Task_putWork_2 : decode b_Task_putWork 2 = .ok (.putfield 65, 3) := by decide +kernel
theorem d_Task_putWork_5 : decode b_Task_putWork 5 = .ok (.aload_n 0, 1) := by decide +kernel
theorem d_Task_putWork_6 : decode b_Task_putWork 6 = .ok (.iload_n 2, 1) := by decide +kernel
theorem d_Task_putWork_7 : decode b_Task_putWork 7 = .ok (.putfield 68, 3) := by decide +kernel
theorem d_Task_putWork_10 : decode b_Task_putWork 10 = .ok (.aload_n 0, 1) := by decide +kernel
theorem d_Task_putWork_11 : decode b_Task_putWork 11 = .ok (.iload_n 3, 1) := by decide +kernel
theorem d_Task_putWork_12 : decode b_Task_putWork 12 = .ok (.putfield 71, 3) := by decide +kernel
theorem d_Task_putWork_15 : decode b_Task_putWork 15 = .ok (.aload_n 0, 1) := by decide +kernel
theorem d_Task_putWork_16 : decode b_Task_putWork 16 = .ok (.iload 4, 2) := by decide +kernel
theorem d_Task_putWork_18 : decode b_Task_putWork 18 = .ok (.putfield 74, 3) := by decide +kernel
theorem d_Task_putWork_21 : decode b_Task_putWork 21 = .ok (.return_, 1) := by decide +kernel
theorem d_Task_putGuard_0 : decode b_Task_putGuard 0 = .ok (.aload_n 0, 1) := by decide +kernel
theorem d_Task_putGuard_1 : decode b_Task_putGuard 1 = .ok (.getfield 18, 3) := by decide +kernel
theorem d_Task_putGuard_4 : decode b_Task_putGuard 4 = .ok (.iload_n 1, 1) := by decide +kernel
theorem d_Task_putGuard_5 : decode b_Task_putGuard 5 = .ok (.iload_n 2, 1) := by decide +kernel
theorem d_Task_putGuard_6 : decode b_Task_putGuard 6 = .ok (.iastore, 1) := by decide +kernel
theorem d_Task_putGuard_7 : decode b_Task_putGuard 7 = .ok (.aload_n 0, 1) := by decide +kernel
theorem d_Task_putGuard_8 : decode b_Task_putGuard 8 = .ok (.getfield 21, 3) := by decide +kernel
theorem d_Task_putGuard_11 : decode b_Task_putGuard 11 = .ok (.iload_n 1, 1) := by decide +kernel
theorem d_Task_putGuard_12 : decode b_Task_putGuard 12 = .ok (.iload_n 3, 1) := by decide +kernel
theorem d_Task_putGuard_13 : decode b_Task_putGuard 13 = .ok (.iastore, 1) := by decide +kernel
theorem d_Task_putGuard_14 : decode b_Task_putGuard 14 = .ok (.aload_n 0, 1) := by decide +kernel
theorem d_Task_putGuard_15 : decode b_Task_putGuard 15 = .ok (.getfield 24, 3) := by decide +kernel
theorem d_Task_putGuard_18 : decode b_Task_putGuard 18 = .ok (.iload_n 1, 1) := by decide +kernel
theorem d_Task_putGuard_19 : decode b_Task_putGuard 19 = .ok (.iload 4, 2) := by decide +kernel
theorem d_Task_putGuard_21 : decode b_Task_putGuard 21 = .ok (.iastore, 1) := by decide +kernel
theorem d_Task_putGuard_22 : decode b_Task_putGuard 22 = .ok (.return_, 1) := by decide +kernel
theorem d_Task_isMoveOf_0 : decode b_Task_isMoveOf 0 = .ok (.iload_n 0, 1) := by decide +kernel
theorem d_Task_isMoveOf_1 : decode b_Task_isMoveOf 1 = .ok (.lookupswitch 52 #[(0, 27), (1, 38)], 27) := by decide +kernel
theorem d_Task_isMoveOf_28 : decode b_Task_isMoveOf 28 = .ok (.iload_n 1, 1) := by decide +kernel
theorem d_Task_isMoveOf_29 : decode b_Task_isMoveOf 29 = .ok (.iload_n 2, 1) := by decide +kernel
theorem d_Task_isMoveOf_30 : decode b_Task_isMoveOf 30 = .ok (.if_icmp .ne 7, 3) := by decide +kernel
theorem d_Task_isMoveOf_33 : decode b_Task_isMoveOf 33 = .ok (.iconst 1, 1) := by decide +kernel
theorem d_Task_isMoveOf_34 : decode b_Task_isMoveOf 34 = .ok (.goto 4, 3) := by decide +kernel
theorem d_Task_isMoveOf_37 : decode b_Task_isMoveOf 37 = .ok (.iconst 0, 1) := by decide +kernel
theorem d_Task_isMoveOf_38 : decode b_Task_isMoveOf 38 = .ok (.ireturn, 1) := by decide +kernel
theorem d_Task_isMoveOf_39 : decode b_Task_isMoveOf 39 = .ok (.iload_n 1, 1) := by decide +kernel
theorem d_Task_isMoveOf_40 : decode b_Task_isMoveOf 40 = .ok (.invokestatic 87, 3) := by decide +kernel
theorem d_Task_isMoveOf_43 : decode b_Task_isMoveOf 43 = .ok (.iconst 1, 1) := by decide +kernel
theorem d_Task_isMoveOf_44 : decode b_Task_isMoveOf 44 = .ok (.if_icmp .ne 7, 3) := by decide +kernel
theorem d_Task_isMoveOf_47 : decode b_Task_isMoveOf 47 = .ok (.iconst 1, 1) := by decide +kernel
theorem d_Task_isMoveOf_48 : decode b_Task_isMoveOf 48 = .ok (.goto 4, 3) := by decide +kernel
theorem d_Task_isMoveOf_51 : decode b_Task_isMoveOf 51 = .ok (.iconst 0, 1) := by decide +kernel
theorem d_Task_isMoveOf_52 : decode b_Task_isMoveOf 52 = .ok (.ireturn, 1) := by decide +kernel
theorem d_Task_isMoveOf_53 : decode b_Task_isMoveOf 53 = .ok (.iconst 1, 1) := by decide +kernel
theorem d_Task_isMoveOf_54 : decode b_Task_isMoveOf 54 = .ok (.ireturn, 1) := by decide +kernel
theorem d_Task_listTakes_0 : decode b_Task_listTakes 0 = .ok (.aload_n 0, 1) := by decide +kernel
theorem d_Task_listTakes_1 : decode b_Task_listTakes 1 = .ok (.iconst 0, 1) := by decide +kernel
theorem d_Task_listTakes_2 : decode b_Task_listTakes 2 = .ok (.putfield 77, 3) := by decide +kernel
theorem d_Task_listTakes_5 : decode b_Task_listTakes 5 = .ok (.iconst 1, 1) := by decide +kernel
theorem d_Task_listTakes_6 : decode b_Task_listTakes 6 = .ok (.istore_n 1, 1) := by decide +kernel
theorem d_Task_listTakes_7 : decode b_Task_listTakes 7 = .ok (.iload_n 1, 1) := by decide +kernel
theorem d_Task_listTakes_8 : decode b_Task_listTakes 8 = .ok (.aload_n 0, 1) := by decide +kernel
theorem d_Task_listTakes_9 : decode b_Task_listTakes 9 = .ok (.getfield 41, 3) := by decide +kernel
theorem d_Task_listTakes_12 : decode b_Task_listTakes 12 = .ok (.if_icmp .gt 63, 3) := by decide +kernel
theorem d_Task_listTakes_15 : decode b_Task_listTakes 15 = .ok (.iload_n 1, 1) := by decide +kernel
theorem d_Task_listTakes_16 : decode b_Task_listTakes 16 = .ok (.aload_n 0, 1) := by decide +kernel
theorem d_Task_listTakes_17 : decode b_Task_listTakes 17 = .ok (.getfield 41, 3) := by decide +kernel
theorem d_Task_listTakes_20 : decode b_Task_listTakes 20 = .ok (.iconst (-1), 1) := by decide +kernel
theorem d_Task_listTakes_21 : decode b_Task_listTakes 21 = .ok (.ixor, 1) := by decide +kernel
theorem d_Task_listTakes_22 : decode b_Task_listTakes 22 = .ok (.iand, 1) := by decide +kernel
theorem d_Task_listTakes_23 : decode b_Task_listTakes 23 = .ok (.ifCond .ne 46, 3) := by decide +kernel
theorem d_Task_listTakes_26 : decode b_Task_listTakes 26 = .ok (.aload_n 0, 1) := by decide +kernel
theorem d_Task_listTakes_27 : decode b_Task_listTakes 27 = .ok (.getfield 35, 3) := by decide +kernel
theorem d_Task_listTakes_30 : decode b_Task_listTakes 30 = .ok (.ifCond .ne 7, 3) := by decide +kernel
theorem d_Task_listTakes_33 : decode b_Task_listTakes 33 = .ok (.iconst 0, 1) := by decide +kernel
theorem d_Task_listTakes_34 : decode b_Task_listTakes 34 = .ok (.goto 4, 3) := by decide +kernel
theorem d_Task_listTakes_37 : decode b_Task_listTakes 37 = .ok (.iconst 1, 1) := by decide +kernel
theorem d_Task_listTakes_38 : decode b_Task_listTakes 38 = .ok (.iload_n 1, 1) := by decide +kernel
theorem d_Task_listTakes_39 : decode b_Task_listTakes 39 = .ok (.aload_n 0, 1) := by decide +kernel
theorem d_Task_listTakes_40 : decode b_Task_listTakes 40 = .ok (.getfield 41, 3) := by decide +kernel
theorem d_Task_listTakes_43 : decode b_Task_listTakes 43 = .ok (.invokestatic 80, 3) := by decide +kernel
theorem d_Task_listTakes_46 : decode b_Task_listTakes 46 = .ok (.ifCond .eq 23, 3) := by decide +kernel
theorem d_Task_listTakes_49 : decode b_Task_listTakes 49 = .ok (.aload_n 0, 1) := by decide +kernel
theorem d_Task_listTakes_50 : decode b_Task_listTakes 50 = .ok (.getfield 9, 3) := by decide +kernel
theorem d_Task_listTakes_53 : decode b_Task_listTakes 53 = .ok (.aload_n 0, 1) := by decide +kernel
theorem d_Task_listTakes_54 : decode b_Task_listTakes 54 = .ok (.getfield 77, 3) := by decide +kernel
theorem d_Task_listTakes_57 : decode b_Task_listTakes 57 = .ok (.iload_n 1, 1) := by decide +kernel
theorem d_Task_listTakes_58 : decode b_Task_listTakes 58 = .ok (.iastore, 1) := by decide +kernel
theorem d_Task_listTakes_59 : decode b_Task_listTakes 59 = .ok (.aload_n 0, 1) := by decide +kernel
theorem d_Task_listTakes_60 : decode b_Task_listTakes 60 = .ok (.dup, 1) := by decide +kernel
theorem d_Task_listTakes_61 : decode b_Task_listTakes 61 = .ok (.getfield 77, 3) := by decide +kernel
theorem d_Task_listTakes_64 : decode b_Task_listTakes 64 = .ok (.iconst 1, 1) := by decide +kernel
theorem d_Task_listTakes_65 : decode b_Task_listTakes 65 = .ok (.iadd, 1) := by decide +kernel
theorem d_Task_listTakes_66 : decode b_Task_listTakes 66 = .ok (.putfield 77, 3) := by decide +kernel
theorem d_Task_listTakes_69 : decode b_Task_listTakes 69 = .ok (.iinc 1 1, 3) := by decide +kernel
theorem d_Task_listTakes_72 : decode b_Task_listTakes 72 = .ok (.goto (-65), 3) := by decide +kernel
theorem d_Task_listTakes_75 : decode b_Task_listTakes 75 = .ok (.return_, 1) := by decide +kernel
theorem d_Task_listPuts_0 : decode b_Task_listPuts 0 = .ok (.aload_n 0, 1) := by decide +kernel
theorem d_Task_listPuts_1 : decode b_Task_listPuts 1 = .ok (.iconst 0, 1) := by decide +kernel
theorem d_Task_listPuts_2 : decode b_Task_listPuts 2 = .ok (.putfield 84, 3) := by decide +kernel
theorem d_Task_listPuts_5 : decode b_Task_listPuts 5 = .ok (.iconst 1, 1) := by decide +kernel
theorem d_Task_listPuts_6 : decode b_Task_listPuts 6 = .ok (.istore_n 1, 1) := by decide +kernel
theorem d_Task_listPuts_7 : decode b_Task_listPuts 7 = .ok (.iload_n 1, 1) := by decide +kernel
theorem d_Task_listPuts_8 : decode b_Task_listPuts 8 = .ok (.aload_n 0, 1) := by decide +kernel
theorem d_Task_listPuts_9 : decode b_Task_listPuts 9 = .ok (.getfield 44, 3) := by decide +kernel
theorem d_Task_listPuts_12 : decode b_Task_listPuts 12 = .ok (.if_icmp .gt 55, 3) := by decide +kernel
theorem d_Task_listPuts_15 : decode b_Task_listPuts 15 = .ok (.iload_n 1, 1) := by decide +kernel
theorem d_Task_listPuts_16 : decode b_Task_listPuts 16 = .ok (.aload_n 0, 1) := by decide +kernel
theorem d_Task_listPuts_17 : decode b_Task_listPuts 17 = .ok (.getfield 44, 3) := by decide +kernel
theorem d_Task_listPuts_20 : decode b_Task_listPuts 20 = .ok (.iconst (-1), 1) := by decide +kernel
theorem d_Task_listPuts_21 : decode b_Task_listPuts 21 = .ok (.ixor, 1) := by decide +kernel
theorem d_Task_listPuts_22 : decode b_Task_listPuts 22 = .ok (.iand, 1) := by decide +kernel
theorem d_Task_listPuts_23 : decode b_Task_listPuts 23 = .ok (.ifCond .ne 38, 3) := by decide +kernel
theorem d_Task_listPuts_26 : decode b_Task_listPuts 26 = .ok (.aload_n 0, 1) := by decide +kernel
theorem d_Task_listPuts_27 : decode b_Task_listPuts 27 = .ok (.getfield 38, 3) := by decide +kernel
theorem d_Task_listPuts_30 : decode b_Task_listPuts 30 = .ok (.iload_n 1, 1) := by decide +kernel
theorem d_Task_listPuts_31 : decode b_Task_listPuts 31 = .ok (.aload_n 0, 1) := by decide +kernel
theorem d_Task_listPuts_32 : decode b_Task_listPuts 32 = .ok (.getfield 44, 3) := by decide +kernel
theorem d_Task_listPuts_35 : decode b_Task_listPuts 35 = .ok (.invokestatic 80, 3) := by decide +kernel
theorem d_Task_listPuts_38 : decode b_Task_listPuts 38 = .ok (.ifCond .eq 23, 3) := by decide +kernel
theorem d_Task_listPuts_41 : decode b_Task_listPuts 41 = .ok (.aload_n 0, 1) := by decide +kernel
theorem d_Task_listPuts_42 : decode b_Task_listPuts 42 = .ok (.getfield 15, 3) := by decide +kernel
theorem d_Task_listPuts_45 : decode b_Task_listPuts 45 = .ok (.aload_n 0, 1) := by decide +kernel
theorem d_Task_listPuts_46 : decode b_Task_listPuts 46 = .ok (.getfield 84, 3) := by decide +kernel
theorem d_Task_listPuts_49 : decode b_Task_listPuts 49 = .ok (.iload_n 1, 1) := by decide +kernel
theorem d_Task_listPuts_50 : decode b_Task_listPuts 50 = .ok (.iastore, 1) := by decide +kernel
theorem d_Task_listPuts_51 : decode b_Task_listPuts 51 = .ok (.aload_n 0, 1) := by decide +kernel
theorem d_Task_listPuts_52 : decode b_Task_listPuts 52 = .ok (.dup, 1) := by decide +kernel
theorem d_Task_listPuts_53 : decode b_Task_listPuts 53 = .ok (.getfield 84, 3) := by decide +kernel
theorem d_Task_listPuts_56 : decode b_Task_listPuts 56 = .ok (.iconst 1, 1) := by decide +kernel
theorem d_Task_listPuts_57 : decode b_Task_listPuts 57 = .ok (.iadd, 1) := by decide +kernel
theorem d_Task_listPuts_58 : decode b_Task_listPuts 58 = .ok (.putfield 84, 3) := by decide +kernel
theorem d_Task_listPuts_61 : decode b_Task_listPuts 61 = .ok (.iinc 1 1, 3) := by decide +kernel
theorem d_Task_listPuts_64 : decode b_Task_listPuts 64 = .ok (.goto (-57), 3) := by decide +kernel
theorem d_Task_listPuts_67 : decode b_Task_listPuts 67 = .ok (.return_, 1) := by decide +kernel
theorem d_Task_define_0 : decode b_Task_define 0 = .ok (.aload_n 0, 1) := by decide +kernel
theorem d_Task_define_1 : decode b_Task_define 1 = .ok (.iconst 1, 1) := by decide +kernel
theorem d_Task_define_2 : decode b_Task_define 2 = .ok (.putfield 31, 3) := by decide +kernel
theorem d_Task_define_5 : decode b_Task_define 5 = .ok (.aload_n 0, 1) := by decide +kernel
theorem d_Task_define_6 : decode b_Task_define 6 = .ok (.iload_n 1, 1) := by decide +kernel
theorem d_Task_define_7 : decode b_Task_define 7 = .ok (.putfield 35, 3) := by decide +kernel
theorem d_Task_define_10 : decode b_Task_define 10 = .ok (.aload_n 0, 1) := by decide +kernel
theorem d_Task_define_11 : decode b_Task_define 11 = .ok (.iload_n 2, 1) := by decide +kernel
theorem d_Task_define_12 : decode b_Task_define 12 = .ok (.putfield 38, 3) := by decide +kernel
theorem d_Task_define_15 : decode b_Task_define 15 = .ok (.aload_n 0, 1) := by decide +kernel
theorem d_Task_define_16 : decode b_Task_define 16 = .ok (.iload_n 3, 1) := by decide +kernel
theorem d_Task_define_17 : decode b_Task_define 17 = .ok (.putfield 41, 3) := by decide +kernel
theorem d_Task_define_20 : decode b_Task_define 20 = .ok (.aload_n 0, 1) := by decide +kernel
theorem d_Task_define_21 : decode b_Task_define 21 = .ok (.iload 4, 2) := by decide +kernel
theorem d_Task_define_23 : decode b_Task_define 23 = .ok (.putfield 44, 3) := by decide +kernel
theorem d_Task_define_26 : decode b_Task_define 26 = .ok (.aload_n 0, 1) := by decide +kernel
theorem d_Task_define_27 : decode b_Task_define 27 = .ok (.iconst 0, 1) := by decide +kernel
theorem d_Task_define_28 : decode b_Task_define 28 = .ok (.putfield 47, 3) := by decide +kernel
theorem d_Task_define_31 : decode b_Task_define 31 = .ok (.aload_n 0, 1) := by decide +kernel
theorem d_Task_define_32 : decode b_Task_define 32 = .ok (.iconst 1, 1) := by decide +kernel
theorem d_Task_define_33 : decode b_Task_define 33 = .ok (.iconst 1, 1) := by decide +kernel
theorem d_Task_define_34 : decode b_Task_define 34 = .ok (.iconst 0, 1) := by decide +kernel
theorem d_Task_define_35 : decode b_Task_define 35 = .ok (.iconst 0, 1) := by decide +kernel
theorem d_Task_define_36 : decode b_Task_define 36 = .ok (.invokevirtual 50, 3) := by decide +kernel
theorem d_Task_define_39 : decode b_Task_define 39 = .ok (.iconst 0, 1) := by decide +kernel
theorem d_Task_define_40 : decode b_Task_define 40 = .ok (.istore 5, 2) := by decide +kernel
theorem d_Task_define_42 : decode b_Task_define 42 = .ok (.iload 5, 2) := by decide +kernel
theorem d_Task_define_44 : decode b_Task_define 44 = .ok (.bipush 8, 2) := by decide +kernel
theorem d_Task_define_46 : decode b_Task_define 46 = .ok (.if_icmp .ge 20, 3) := by decide +kernel
theorem d_Task_define_49 : decode b_Task_define 49 = .ok (.aload_n 0, 1) := by decide +kernel
theorem d_Task_define_50 : decode b_Task_define 50 = .ok (.iload 5, 2) := by decide +kernel
theorem d_Task_define_52 : decode b_Task_define 52 = .ok (.iconst 0, 1) := by decide +kernel
theorem d_Task_define_53 : decode b_Task_define 53 = .ok (.ldc 54, 2) := by decide +kernel
theorem d_Task_define_55 : decode b_Task_define 55 = .ok (.ldc 55, 2) := by decide +kernel
theorem d_Task_define_57 : decode b_Task_define 57 = .ok (.invokevirtual 56, 3) := by decide +kernel
theorem d_Task_define_60 : decode b_Task_define 60 = .ok (.iinc 5 1, 3) := by decide +kernel
theorem d_Task_define_63 : decode b_Task_define 63 = .ok (.goto (-21), 3) := by decide +kernel
theorem d_Task_define_66 : decode b_Task_define 66 = .ok (.aload_n 0, 1) := by decide +kernel
theorem d_Task_define_67 : decode b_Task_define 67 = .ok (.invokevirtual 59, 3) := by decide +kernel
theorem d_Task_define_70 : decode b_Task_define 70 = .ok (.aload_n 0, 1) := by decide +kernel
theorem d_Task_define_71 : decode b_Task_define 71 = .ok (.invokevirtual 62, 3) := by decide +kernel
theorem d_Task_define_74 : decode b_Task_define 74 = .ok (.return_, 1) := by decide +kernel
theorem d_CN_task_0 : decode b_CN_task 0 = .ok (.aload_n 0, 1) := by decide +kernel
theorem d_CN_task_1 : decode b_CN_task 1 = .ok (.getfield 27, 3) := by decide +kernel
theorem d_CN_task_4 : decode b_CN_task 4 = .ok (.ifCond .ne 12, 3) := by decide +kernel
theorem d_CN_task_7 : decode b_CN_task 7 = .ok (.iload_n 1, 1) := by decide +kernel
theorem d_CN_task_8 : decode b_CN_task 8 = .ok (.iconst 0, 1) := by decide +kernel
theorem d_CN_task_9 : decode b_CN_task 9 = .ok (.iconst 5, 1) := by decide +kernel
theorem d_CN_task_10 : decode b_CN_task 10 = .ok (.invokestatic 31, 3) := by decide +kernel
theorem d_CN_task_13 : decode b_CN_task 13 = .ok (.ifCond .ne 5, 3) := by decide +kernel
theorem d_CN_task_16 : decode b_CN_task 16 = .ok (.iconst 0, 1) := by decide +kernel
theorem d_CN_task_17 : decode b_CN_task 17 = .ok (.ireturn, 1) := by decide +kernel
theorem d_CN_task_18 : decode b_CN_task 18 = .ok (.iload_n 2, 1) := by decide +kernel
theorem d_CN_task_19 : decode b_CN_task 19 = .ok (.iconst 0, 1) := by decide +kernel
theorem d_CN_task_20 : decode b_CN_task 20 = .ok (.iconst 2, 1) := by decide +kernel
theorem d_CN_task_21 : decode b_CN_task 21 = .ok (.invokestatic 31, 3) := by decide +kernel
theorem d_CN_task_24 : decode b_CN_task 24 = .ok (.ifCond .eq 12, 3) := by decide +kernel
theorem d_CN_task_27 : decode b_CN_task 27 = .ok (.iload_n 3, 1) := by decide +kernel
theorem d_CN_task_28 : decode b_CN_task 28 = .ok (.iconst 0, 1) := by decide +kernel
theorem d_CN_task_29 : decode b_CN_task 29 = .ok (.iconst 2, 1) := by decide +kernel
theorem d_CN_task_30 : decode b_CN_task 30 = .ok (.invokestatic 31, 3) := by decide +kernel
theorem d_CN_task_33 : decode b_CN_task 33 = .ok (.ifCond .ne 5, 3) := by decide +kernel
theorem d_CN_task_36 : decode b_CN_task 36 = .ok (.iconst 0, 1) := by decide +kernel
theorem d_CN_task_37 : decode b_CN_task 37 = .ok (.ireturn, 1) := by decide +kernel
theorem d_CN_task_38 : decode b_CN_task 38 = .ok (.iload 4, 2) := by decide +kernel
theorem d_CN_task_40 : decode b_CN_task 40 = .ok (.invokestatic 35, 3) := by decide +kernel
theorem d_CN_task_43 : decode b_CN_task 43 = .ok (.ifCond .eq 11, 3) := by decide +kernel
theorem d_CN_task_46 : decode b_CN_task 46 = .ok (.iload 5, 2) := by decide +kernel
theorem d_CN_task_48 : decode b_CN_task 48 = .ok (.invokestatic 35, 3) := by decide +kernel
theorem d_CN_task_51 : decode b_CN_task 51 = .ok (.ifCond .ne 5, 3) := by decide +kernel
theorem d_CN_task_54 : decode b_CN_task 54 = .ok (.iconst 0, 1) := by decide +kernel
theorem d_CN_task_55 : decode b_CN_task 55 = .ok (.ireturn, 1) := by decide +kernel
theorem d_CN_task_56 : decode b_CN_task 56 = .ok (.aload_n 0, 1) := by decide +kernel
theorem d_CN_task_57 : decode b_CN_task 57 = .ok (.getfield 12, 3) := by decide +kernel
theorem d_CN_task_60 : decode b_CN_task 60 = .ok (.getfield 39, 3) := by decide +kernel
theorem d_CN_task_63 : decode b_CN_task 63 = .ok (.iload_n 1, 1) := by decide +kernel
theorem d_CN_task_64 : decode b_CN_task 64 = .ok (.aaload, 1) := by decide +kernel
theorem d_CN_task_65 : decode b_CN_task 65 = .ok (.iload_n 2, 1) := by decide +kernel
theorem d_CN_task_66 : decode b_CN_task 66 = .ok (.iload_n 3, 1) := by decide +kernel
theorem d_CN_task_67 : decode b_CN_task 67 = .ok (.iload 4, 2) := by decide +kernel
theorem d_CN_task_69 : decode b_CN_task 69 = .ok (.iload 5, 2) := by decide +kernel
theorem d_CN_task_71 : decode b_CN_task 71 = .ok (.invokevirtual 43, 3) := by decide +kernel
theorem d_CN_task_74 : decode b_CN_task 74 = .ok (.iconst 1, 1) := by decide +kernel
theorem d_CN_task_75 : decode b_CN_task 75 = .ok (.ireturn, 1) := by decide +kernel
theorem d_Net_isDefined_0 : decode b_Net_isDefined 0 = .ok (.iload_n 1, 1) := by decide +kernel
theorem d_Net_isDefined_1 : decode b_Net_isDefined 1 = .ok (.iconst 0, 1) := by decide +kernel
theorem d_Net_isDefined_2 : decode b_Net_isDefined 2 = .ok (.iconst 5, 1) := by decide +kernel
theorem d_Net_isDefined_3 : decode b_Net_isDefined 3 = .ok (.invokestatic 33, 3) := by decide +kernel
theorem d_Net_isDefined_6 : decode b_Net_isDefined 6 = .ok (.ifCond .eq 19, 3) := by decide +kernel
theorem d_Net_isDefined_9 : decode b_Net_isDefined 9 = .ok (.aload_n 0, 1) := by decide +kernel
theorem d_Net_isDefined_10 : decode b_Net_isDefined 10 = .ok (.getfield 11, 3) := by decide +kernel
theorem d_Net_isDefined_13 : decode b_Net_isDefined 13 = .ok (.iload_n 1, 1) := by decide +kernel
theorem d_Net_isDefined_14 : decode b_Net_isDefined 14 = .ok (.aaload, 1) := by decide +kernel
theorem d_Net_isDefined_15 : decode b_Net_isDefined 15 = .ok (.getfield 37, 3) := by decide +kernel
theorem d_Net_isDefined_18 : decode b_Net_isDefined 18 = .ok (.ifCond .eq 7, 3) := by decide +kernel
theorem d_Net_isDefined_21 : decode b_Net_isDefined 21 = .ok (.iconst 1, 1) := by decide +kernel
theorem d_Net_isDefined_22 : decode b_Net_isDefined 22 = .ok (.goto 4, 3) := by decide +kernel
theorem d_Net_isDefined_25 : decode b_Net_isDefined 25 = .ok (.iconst 0, 1) := by decide +kernel
theorem d_Net_isDefined_26 : decode b_Net_isDefined 26 = .ok (.ireturn, 1) := by decide +kernel
theorem d_CN_isMaskOfPlaces_0 : decode b_CN_isMaskOfPlaces 0 = .ok (.iload_n 0, 1) := by decide +kernel
theorem d_CN_isMaskOfPlaces_1 : decode b_CN_isMaskOfPlaces 1 = .ok (.bipush 14, 2) := by decide +kernel
theorem d_CN_isMaskOfPlaces_3 : decode b_CN_isMaskOfPlaces 3 = .ok (.iushr, 1) := by decide +kernel
theorem d_CN_isMaskOfPlaces_4 : decode b_CN_isMaskOfPlaces 4 = .ok (.ifCond .ne 7, 3) := by decide +kernel
theorem d_CN_isMaskOfPlaces_7 : decode b_CN_isMaskOfPlaces 7 = .ok (.iconst 1, 1) := by decide +kernel
theorem d_CN_isMaskOfPlaces_8 : decode b_CN_isMaskOfPlaces 8 = .ok (.goto 4, 3) := by decide +kernel
theorem d_CN_isMaskOfPlaces_11 : decode b_CN_isMaskOfPlaces 11 = .ok (.iconst 0, 1) := by decide +kernel
theorem d_CN_isMaskOfPlaces_12 : decode b_CN_isMaskOfPlaces 12 = .ok (.ireturn, 1) := by decide +kernel
theorem d_CN_region_0 : decode b_CN_region 0 = .ok (.aload_n 0, 1) := by decide +kernel
theorem d_CN_region_1 : decode b_CN_region 1 = .ok (.getfield 27, 3) := by decide +kernel
theorem d_CN_region_4 : decode b_CN_region 4 = .ok (.ifCond .ne 21, 3) := by decide +kernel
theorem d_CN_region_7 : decode b_CN_region 7 = .ok (.aload_n 0, 1) := by decide +kernel
theorem d_CN_region_8 : decode b_CN_region 8 = .ok (.getfield 12, 3) := by decide +kernel
theorem d_CN_region_11 : decode b_CN_region 11 = .ok (.iload_n 1, 1) := by decide +kernel
theorem d_CN_region_12 : decode b_CN_region 12 = .ok (.invokevirtual 49, 3) := by decide +kernel
theorem d_CN_region_15 : decode b_CN_region 15 = .ok (.ifCond .eq 10, 3) := by decide +kernel
theorem d_CN_region_18 : decode b_CN_region 18 = .ok (.iload_n 2, 1) := by decide +kernel
theorem d_CN_region_19 : decode b_CN_region 19 = .ok (.invokestatic 52, 3) := by decide +kernel
theorem d_CN_region_22 : decode b_CN_region 22 = .ok (.ifCond .ne 5, 3) := by decide +kernel
theorem d_CN_region_25 : decode b_CN_region 25 = .ok (.iconst 0, 1) := by decide +kernel
theorem d_CN_region_26 : decode b_CN_region 26 = .ok (.ireturn, 1) := by decide +kernel
theorem d_CN_region_27 : decode b_CN_region 27 = .ok (.aload_n 0, 1) := by decide +kernel
theorem d_CN_region_28 : decode b_CN_region 28 = .ok (.getfield 12, 3) := by decide +kernel
theorem d_CN_region_31 : decode b_CN_region 31 = .ok (.getfield 39, 3) := by decide +kernel
theorem d_CN_region_34 : decode b_CN_region 34 = .ok (.iload_n 1, 1) := by decide +kernel
theorem d_CN_region_35 : decode b_CN_region 35 = .ok (.aaload, 1) := by decide +kernel
theorem d_CN_region_36 : decode b_CN_region 36 = .ok (.iload_n 2, 1) := by decide +kernel
theorem d_CN_region_37 : decode b_CN_region 37 = .ok (.putfield 55, 3) := by decide +kernel
theorem d_CN_region_40 : decode b_CN_region 40 = .ok (.iconst 1, 1) := by decide +kernel
theorem d_CN_region_41 : decode b_CN_region 41 = .ok (.ireturn, 1) := by decide +kernel
theorem d_CN_isVariable_0 : decode b_CN_isVariable 0 = .ok (.iload_n 0, 1) := by decide +kernel
theorem d_CN_isVariable_1 : decode b_CN_isVariable 1 = .ok (.iconst 0, 1) := by decide +kernel
theorem d_CN_isVariable_2 : decode b_CN_isVariable 2 = .ok (.iconst 3, 1) := by decide +kernel
theorem d_CN_isVariable_3 : decode b_CN_isVariable 3 = .ok (.invokestatic 31, 3) := by decide +kernel
theorem d_CN_isVariable_6 : decode b_CN_isVariable 6 = .ok (.ireturn, 1) := by decide +kernel
theorem d_CN_guard_0 : decode b_CN_guard 0 = .ok (.aload_n 0, 1) := by decide +kernel
theorem d_CN_guard_1 : decode b_CN_guard 1 = .ok (.getfield 27, 3) := by decide +kernel
theorem d_CN_guard_4 : decode b_CN_guard 4 = .ok (.ifCond .ne 21, 3) := by decide +kernel
theorem d_CN_guard_7 : decode b_CN_guard 7 = .ok (.aload_n 0, 1) := by decide +kernel
theorem d_CN_guard_8 : decode b_CN_guard 8 = .ok (.getfield 12, 3) := by decide +kernel
theorem d_CN_guard_11 : decode b_CN_guard 11 = .ok (.iload_n 1, 1) := by decide +kernel
theorem d_CN_guard_12 : decode b_CN_guard 12 = .ok (.invokevirtual 49, 3) := by decide +kernel
theorem d_CN_guard_15 : decode b_CN_guard 15 = .ok (.ifCond .eq 10, 3) := by decide +kernel
theorem d_CN_guard_18 : decode b_CN_guard 18 = .ok (.iload_n 3, 1) := by decide +kernel
theorem d_CN_guard_19 : decode b_CN_guard 19 = .ok (.invokestatic 59, 3) := by decide +kernel
theorem d_CN_guard_22 : decode b_CN_guard 22 = .ok (.ifCond .ne 5, 3) := by decide +kernel
theorem d_CN_guard_25 : decode b_CN_guard 25 = .ok (.iconst 0, 1) := by decide +kernel
theorem d_CN_guard_26 : decode b_CN_guard 26 = .ok (.ireturn, 1) := by decide +kernel
theorem d_CN_guard_27 : decode b_CN_guard 27 = .ok (.iload_n 2, 1) := by decide +kernel
theorem d_CN_guard_28 : decode b_CN_guard 28 = .ok (.iconst 0, 1) := by decide +kernel
theorem d_CN_guard_29 : decode b_CN_guard 29 = .ok (.bipush 7, 2) := by decide +kernel
theorem d_CN_guard_31 : decode b_CN_guard 31 = .ok (.invokestatic 31, 3) := by decide +kernel
theorem d_CN_guard_34 : decode b_CN_guard 34 = .ok (.ifCond .eq 22, 3) := by decide +kernel
theorem d_CN_guard_37 : decode b_CN_guard 37 = .ok (.aload_n 0, 1) := by decide +kernel
theorem d_CN_guard_38 : decode b_CN_guard 38 = .ok (.getfield 12, 3) := by decide +kernel
theorem d_CN_guard_41 : decode b_CN_guard 41 = .ok (.getfield 39, 3) := by decide +kernel
theorem d_CN_guard_44 : decode b_CN_guard 44 = .ok (.iload_n 1, 1) := by decide +kernel
theorem d_CN_guard_45 : decode b_CN_guard 45 = .ok (.aaload, 1) := by decide +kernel
theorem d_CN_guard_46 : decode b_CN_guard 46 = .ok (.getfield 62, 3) := by decide +kernel
theorem d_CN_guard_49 : decode b_CN_guard 49 = .ok (.iconst 1, 1) := by decide +kernel
theorem d_CN_guard_50 : decode b_CN_guard 50 = .ok (.iload_n 2, 1) := by decide +kernel
theorem d_CN_guard_51 : decode b_CN_guard 51 = .ok (.ishl, 1) := by decide +kernel
theorem d_CN_guard_52 : decode b_CN_guard 52 = .ok (.iand, 1) := by decide +kernel
theorem d_CN_guard_53 : decode b_CN_guard 53 = .ok (.ifCond .ne 5, 3) := by decide +kernel
theorem d_CN_guard_56 : decode b_CN_guard 56 = .ok (.iconst 0, 1) := by decide +kernel
theorem d_CN_guard_57 : decode b_CN_guard 57 = .ok (.ireturn, 1) := by decide +kernel
theorem d_CN_guard_58 : decode b_CN_guard 58 = .ok (.aload_n 0, 1) := by decide +kernel
theorem d_CN_guard_59 : decode b_CN_guard 59 = .ok (.getfield 12, 3) := by decide +kernel
theorem d_CN_guard_62 : decode b_CN_guard 62 = .ok (.getfield 39, 3) := by decide +kernel
theorem d_CN_guard_65 : decode b_CN_guard 65 = .ok (.iload_n 1, 1) := by decide +kernel
theorem d_CN_guard_66 : decode b_CN_guard 66 = .ok (.aaload, 1) := by decide +kernel
theorem d_CN_guard_67 : decode b_CN_guard 67 = .ok (.iload_n 2, 1) := by decide +kernel
theorem d_CN_guard_68 : decode b_CN_guard 68 = .ok (.iload_n 3, 1) := by decide +kernel
theorem d_CN_guard_69 : decode b_CN_guard 69 = .ok (.iload 4, 2) := by decide +kernel
theorem d_CN_guard_71 : decode b_CN_guard 71 = .ok (.iload 5, 2) := by decide +kernel
theorem d_CN_guard_73 : decode b_CN_guard 73 = .ok (.invokevirtual 65, 3) := by decide +kernel
theorem d_CN_guard_76 : decode b_CN_guard 76 = .ok (.iconst 1, 1) := by decide +kernel
theorem d_CN_guard_77 : decode b_CN_guard 77 = .ok (.ireturn, 1) := by decide +kernel
theorem d_CN_items_0 : decode b_CN_items 0 = .ok (.aload_n 0, 1) := by decide +kernel
theorem d_CN_items_1 : decode b_CN_items 1 = .ok (.getfield 27, 3) := by decide +kernel
theorem d_CN_items_4 : decode b_CN_items 4 = .ok (.ifCond .ne 22, 3) := by decide +kernel
theorem d_CN_items_7 : decode b_CN_items 7 = .ok (.aload_n 0, 1) := by decide +kernel
theorem d_CN_items_8 : decode b_CN_items 8 = .ok (.getfield 12, 3) := by decide +kernel
theorem d_CN_items_11 : decode b_CN_items 11 = .ok (.iload_n 1, 1) := by decide +kernel
theorem d_CN_items_12 : decode b_CN_items 12 = .ok (.invokevirtual 49, 3) := by decide +kernel
theorem d_CN_items_15 : decode b_CN_items 15 = .ok (.ifCond .eq 11, 3) := by decide +kernel
theorem d_CN_items_18 : decode b_CN_items 18 = .ok (.iload 4, 2) := by decide +kernel
theorem d_CN_items_20 : decode b_CN_items 20 = .ok (.invokestatic 59, 3) := by decide +kernel
theorem d_CN_items_23 : decode b_CN_items 23 = .ok (.ifCond .ne 5, 3) := by decide +kernel
theorem d_CN_items_26 : decode b_CN_items 26 = .ok (.iconst 0, 1) := by decide +kernel
theorem d_CN_items_27 : decode b_CN_items 27 = .ok (.ireturn, 1) := by decide +kernel
theorem d_CN_items_28 : decode b_CN_items 28 = .ok (.iload_n 2, 1) := by decide +kernel
theorem d_CN_items_29 : decode b_CN_items 29 = .ok (.iconst 1, 1) := by decide +kernel
theorem d_CN_items_30 : decode b_CN_items 30 = .ok (.iconst 4, 1) := by decide +kernel
theorem d_CN_items_31 : decode b_CN_items 31 = .ok (.invokestatic 31, 3) := by decide +kernel
theorem d_CN_items_34 : decode b_CN_items 34 = .ok (.ifCond .eq 12, 3) := by decide +kernel
theorem d_CN_items_37 : decode b_CN_items 37 = .ok (.iload_n 3, 1) := by decide +kernel
theorem d_CN_items_38 : decode b_CN_items 38 = .ok (.iconst 1, 1) := by decide +kernel
theorem d_CN_items_39 : decode b_CN_items 39 = .ok (.iload_n 2, 1) := by decide +kernel
theorem d_CN_items_40 : decode b_CN_items 40 = .ok (.invokestatic 31, 3) := by decide +kernel
theorem d_CN_items_43 : decode b_CN_items 43 = .ok (.ifCond .ne 5, 3) := by decide +kernel
theorem d_CN_items_46 : decode b_CN_items 46 = .ok (.iconst 0, 1) := by decide +kernel
theorem d_CN_items_47 : decode b_CN_items 47 = .ok (.ireturn, 1) := by decide +kernel
theorem d_CN_items_48 : decode b_CN_items 48 = .ok (.iload 5, 2) := by decide +kernel
theorem d_CN_items_50 : decode b_CN_items 50 = .ok (.iconst 0, 1) := by decide +kernel
theorem d_CN_items_51 : decode b_CN_items 51 = .ok (.bipush 100, 2) := by decide +kernel
theorem d_CN_items_53 : decode b_CN_items 53 = .ok (.invokestatic 31, 3) := by decide +kernel
theorem d_CN_items_56 : decode b_CN_items 56 = .ok (.ifCond .ne 5, 3) := by decide +kernel
theorem d_CN_items_59 : decode b_CN_items 59 = .ok (.iconst 0, 1) := by decide +kernel
theorem d_CN_items_60 : decode b_CN_items 60 = .ok (.ireturn, 1) := by decide +kernel
theorem d_CN_items_61 : decode b_CN_items 61 = .ok (.aload_n 0, 1) := by decide +kernel
theorem d_CN_items_62 : decode b_CN_items 62 = .ok (.getfield 12, 3) := by decide +kernel
theorem d_CN_items_65 : decode b_CN_items 65 = .ok (.getfield 39, 3) := by decide +kernel
theorem d_CN_items_68 : decode b_CN_items 68 = .ok (.iload_n 1, 1) := by decide +kernel
theorem d_CN_items_69 : decode b_CN_items 69 = .ok (.aaload, 1) := by decide +kernel
theorem d_CN_items_70 : decode b_CN_items 70 = .ok (.iload_n 2, 1) := by decide +kernel
theorem d_CN_items_71 : decode b_CN_items 71 = .ok (.iload_n 3, 1) := by decide +kernel
theorem d_CN_items_72 : decode b_CN_items 72 = .ok (.iload 4, 2) := by decide +kernel
theorem d_CN_items_74 : decode b_CN_items 74 = .ok (.iload 5, 2) := by decide +kernel
theorem d_CN_items_76 : decode b_CN_items 76 = .ok (.invokevirtual 68, 3) := by decide +kernel
theorem d_CN_items_79 : decode b_CN_items 79 = .ok (.iconst 1, 1) := by decide +kernel
theorem d_CN_items_80 : decode b_CN_items 80 = .ok (.ireturn, 1) := by decide +kernel
