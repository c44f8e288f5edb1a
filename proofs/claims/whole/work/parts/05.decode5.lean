theorem d_Net_goOnByBegin_0 : decode b_Net_goOnByBegin 0 = .ok (.aload_n 0, 1) := by decide +kernel
theorem d_Net_goOnByBegin_1 : decode b_Net_goOnByBegin 1 = .ok (.getfield 11, 3) := by decide +kernel
theorem d_Net_goOnByBegin_4 : decode b_Net_goOnByBegin 4 = .ok (.iload_n 1, 1) := by decide +kernel
theorem d_Net_goOnByBegin_5 : decode b_Net_goOnByBegin 5 = .ok (.aaload, 1) := by decide +kernel
theorem d_Net_goOnByBegin_6 : decode b_Net_goOnByBegin 6 = .ok (.astore_n 3, 1) := by decide +kernel
theorem d_Net_goOnByBegin_7 : decode b_Net_goOnByBegin 7 = .ok (.iconst 0, 1) := by decide +kernel
theorem d_Net_goOnByBegin_8 : decode b_Net_goOnByBegin 8 = .ok (.istore 4, 2) := by decide +kernel
theorem d_Net_goOnByBegin_10 : decode b_Net_goOnByBegin 10 = .ok (.iload 4, 2) := by decide +kernel
theorem d_Net_goOnByBegin_12 : decode b_Net_goOnByBegin 12 = .ok (.aload_n 3, 1) := by decide +kernel
theorem d_Net_goOnByBegin_13 : decode b_Net_goOnByBegin 13 = .ok (.getfield 102, 3) := by decide +kernel
theorem d_Net_goOnByBegin_16 : decode b_Net_goOnByBegin 16 = .ok (.if_icmp .ge 54, 3) := by decide +kernel
theorem d_Net_goOnByBegin_19 : decode b_Net_goOnByBegin 19 = .ok (.aload_n 3, 1) := by decide +kernel
theorem d_Net_goOnByBegin_20 : decode b_Net_goOnByBegin 20 = .ok (.getfield 105, 3) := by decide +kernel
theorem d_Net_goOnByBegin_23 : decode b_Net_goOnByBegin 23 = .ok (.iload 4, 2) := by decide +kernel
theorem d_Net_goOnByBegin_25 : decode b_Net_goOnByBegin 25 = .ok (.iaload, 1) := by decide +kernel
theorem d_Net_goOnByBegin_26 : decode b_Net_goOnByBegin 26 = .ok (.istore 5, 2) := by decide +kernel
theorem d_Net_goOnByBegin_28 : decode b_Net_goOnByBegin 28 = .ok (.iload_n 2, 1) := by decide +kernel
theorem d_Net_goOnByBegin_29 : decode b_Net_goOnByBegin 29 = .ok (.iload 5, 2) := by decide +kernel
theorem d_Net_goOnByBegin_31 : decode b_Net_goOnByBegin 31 = .ok (.iand, 1) := by decide +kernel
theorem d_Net_goOnByBegin_32 : decode b_Net_goOnByBegin 32 = .ok (.iload 5, 2) := by decide +kernel
theorem d_Net_goOnByBegin_34 : decode b_Net_goOnByBegin 34 = .ok (.if_icmp .ne 30, 3) := by decide +kernel
theorem d_Net_goOnByBegin_37 : decode b_Net_goOnByBegin 37 = .ok (.aload_n 0, 1) := by decide +kernel
theorem d_Net_goOnByBegin_38 : decode b_Net_goOnByBegin 38 = .ok (.dup, 1) := by decide +kernel
theorem d_Net_goOnByBegin_39 : decode b_Net_goOnByBegin 39 = .ok (.getfield 62, 3) := by decide +kernel
theorem d_Net_goOnByBegin_42 : decode b_Net_goOnByBegin 42 = .ok (.iconst 1, 1) := by decide +kernel
theorem d_Net_goOnByBegin_43 : decode b_Net_goOnByBegin 43 = .ok (.iload_n 1, 1) := by decide +kernel
theorem d_Net_goOnByBegin_44 : decode b_Net_goOnByBegin 44 = .ok (.ishl, 1) := by decide +kernel
theorem d_Net_goOnByBegin_45 : decode b_Net_goOnByBegin 45 = .ok (.ior, 1) := by decide +kernel
theorem d_Net_goOnByBegin_46 : decode b_Net_goOnByBegin 46 = .ok (.putfield 62, 3) := by decide +kernel
theorem d_Net_goOnByBegin_49 : decode b_Net_goOnByBegin 49 = .ok (.aload_n 0, 1) := by decide +kernel
theorem d_Net_goOnByBegin_50 : decode b_Net_goOnByBegin 50 = .ok (.iload_n 2, 1) := by decide +kernel
theorem d_Net_goOnByBegin_51 : decode b_Net_goOnByBegin 51 = .ok (.iload 5, 2) := by decide +kernel
theorem d_Net_goOnByBegin_53 : decode b_Net_goOnByBegin 53 = .ok (.iconst (-1), 1) := by decide +kernel
theorem d_Net_goOnByBegin_54 : decode b_Net_goOnByBegin 54 = .ok (.ixor, 1) := by decide +kernel
theorem d_Net_goOnByBegin_55 : decode b_Net_goOnByBegin 55 = .ok (.iand, 1) := by decide +kernel
theorem d_Net_goOnByBegin_56 : decode b_Net_goOnByBegin 56 = .ok (.aload_n 3, 1) := by decide +kernel
theorem d_Net_goOnByBegin_57 : decode b_Net_goOnByBegin 57 = .ok (.getfield 92, 3) := by decide +kernel
theorem d_Net_goOnByBegin_60 : decode b_Net_goOnByBegin 60 = .ok (.ior, 1) := by decide +kernel
theorem d_Net_goOnByBegin_61 : decode b_Net_goOnByBegin 61 = .ok (.invokevirtual 114, 3) := by decide +kernel
theorem d_Net_goOnByBegin_64 : decode b_Net_goOnByBegin 64 = .ok (.iinc 4 1, 3) := by decide +kernel
theorem d_Net_goOnByBegin_67 : decode b_Net_goOnByBegin 67 = .ok (.goto (-57), 3) := by decide +kernel
theorem d_Net_goOnByBegin_70 : decode b_Net_goOnByBegin 70 = .ok (.return_, 1) := by decide +kernel
theorem d_Net_goOnByEnd_0 : decode b_Net_goOnByEnd 0 = .ok (.iload_n 2, 1) := by decide +kernel
theorem d_Net_goOnByEnd_1 : decode b_Net_goOnByEnd 1 = .ok (.aload_n 1, 1) := by decide +kernel
theorem d_Net_goOnByEnd_2 : decode b_Net_goOnByEnd 2 = .ok (.getfield 92, 3) := by decide +kernel
theorem d_Net_goOnByEnd_5 : decode b_Net_goOnByEnd 5 = .ok (.iand, 1) := by decide +kernel
theorem d_Net_goOnByEnd_6 : decode b_Net_goOnByEnd 6 = .ok (.ifCond .ne 4, 3) := by decide +kernel
theorem d_Net_goOnByEnd_9 : decode b_Net_goOnByEnd 9 = .ok (.return_, 1) := by decide +kernel
theorem d_Net_goOnByEnd_10 : decode b_Net_goOnByEnd 10 = .ok (.iload_n 2, 1) := by decide +kernel
theorem d_Net_goOnByEnd_11 : decode b_Net_goOnByEnd 11 = .ok (.aload_n 1, 1) := by decide +kernel
theorem d_Net_goOnByEnd_12 : decode b_Net_goOnByEnd 12 = .ok (.getfield 89, 3) := by decide +kernel
theorem d_Net_goOnByEnd_15 : decode b_Net_goOnByEnd 15 = .ok (.aload_n 1, 1) := by decide +kernel
theorem d_Net_goOnByEnd_16 : decode b_Net_goOnByEnd 16 = .ok (.getfield 92, 3) := by decide +kernel
theorem d_Net_goOnByEnd_19 : decode b_Net_goOnByEnd 19 = .ok (.ior, 1) := by decide +kernel
theorem d_Net_goOnByEnd_20 : decode b_Net_goOnByEnd 20 = .ok (.iconst (-1), 1) := by decide +kernel
theorem d_Net_goOnByEnd_21 : decode b_Net_goOnByEnd 21 = .ok (.ixor, 1) := by decide +kernel
theorem d_Net_goOnByEnd_22 : decode b_Net_goOnByEnd 22 = .ok (.iand, 1) := by decide +kernel
theorem d_Net_goOnByEnd_23 : decode b_Net_goOnByEnd 23 = .ok (.istore_n 3, 1) := by decide +kernel
theorem d_Net_goOnByEnd_24 : decode b_Net_goOnByEnd 24 = .ok (.iconst 0, 1) := by decide +kernel
theorem d_Net_goOnByEnd_25 : decode b_Net_goOnByEnd 25 = .ok (.istore 4, 2) := by decide +kernel
theorem d_Net_goOnByEnd_27 : decode b_Net_goOnByEnd 27 = .ok (.iload 4, 2) := by decide +kernel
theorem d_Net_goOnByEnd_29 : decode b_Net_goOnByEnd 29 = .ok (.aload_n 1, 1) := by decide +kernel
theorem d_Net_goOnByEnd_30 : decode b_Net_goOnByEnd 30 = .ok (.getfield 95, 3) := by decide +kernel
theorem d_Net_goOnByEnd_33 : decode b_Net_goOnByEnd 33 = .ok (.if_icmp .ge 22, 3) := by decide +kernel
theorem d_Net_goOnByEnd_36 : decode b_Net_goOnByEnd 36 = .ok (.aload_n 0, 1) := by decide +kernel
theorem d_Net_goOnByEnd_37 : decode b_Net_goOnByEnd 37 = .ok (.iload_n 3, 1) := by decide +kernel
theorem d_Net_goOnByEnd_38 : decode b_Net_goOnByEnd 38 = .ok (.aload_n 1, 1) := by decide +kernel
theorem d_Net_goOnByEnd_39 : decode b_Net_goOnByEnd 39 = .ok (.getfield 98, 3) := by decide +kernel
theorem d_Net_goOnByEnd_42 : decode b_Net_goOnByEnd 42 = .ok (.iload 4, 2) := by decide +kernel
theorem d_Net_goOnByEnd_44 : decode b_Net_goOnByEnd 44 = .ok (.iaload, 1) := by decide +kernel
theorem d_Net_goOnByEnd_45 : decode b_Net_goOnByEnd 45 = .ok (.ior, 1) := by decide +kernel
theorem d_Net_goOnByEnd_46 : decode b_Net_goOnByEnd 46 = .ok (.invokevirtual 114, 3) := by decide +kernel
theorem d_Net_goOnByEnd_49 : decode b_Net_goOnByEnd 49 = .ok (.iinc 4 1, 3) := by decide +kernel
theorem d_Net_goOnByEnd_52 : decode b_Net_goOnByEnd 52 = .ok (.goto (-25), 3) := by decide +kernel
theorem d_Net_goOnByEnd_55 : decode b_Net_goOnByEnd 55 = .ok (.return_, 1) := by decide +kernel
theorem d_Net_reachFromStart_0 : decode b_Net_reachFromStart 0 = .ok (.aload_n 0, 1) := by decide +kernel
theorem d_Net_reachFromStart_1 : decode b_Net_reachFromStart 1 = .ok (.getfield 24, 3) := by decide +kernel
theorem d_Net_reachFromStart_4 : decode b_Net_reachFromStart 4 = .ok (.invokevirtual 69, 3) := by decide +kernel
theorem d_Net_reachFromStart_7 : decode b_Net_reachFromStart 7 = .ok (.aload_n 0, 1) := by decide +kernel
theorem d_Net_reachFromStart_8 : decode b_Net_reachFromStart 8 = .ok (.getfield 20, 3) := by decide +kernel
theorem d_Net_reachFromStart_11 : decode b_Net_reachFromStart 11 = .ok (.invokevirtual 69, 3) := by decide +kernel
theorem d_Net_reachFromStart_14 : decode b_Net_reachFromStart 14 = .ok (.aload_n 0, 1) := by decide +kernel
theorem d_Net_reachFromStart_15 : decode b_Net_reachFromStart 15 = .ok (.iconst 0, 1) := by decide +kernel
theorem d_Net_reachFromStart_16 : decode b_Net_reachFromStart 16 = .ok (.putfield 62, 3) := by decide +kernel
theorem d_Net_reachFromStart_19 : decode b_Net_reachFromStart 19 = .ok (.aload_n 0, 1) := by decide +kernel
theorem d_Net_reachFromStart_20 : decode b_Net_reachFromStart 20 = .ok (.iconst 1, 1) := by decide +kernel
theorem d_Net_reachFromStart_21 : decode b_Net_reachFromStart 21 = .ok (.putfield 59, 3) := by decide +kernel
theorem d_Net_reachFromStart_24 : decode b_Net_reachFromStart 24 = .ok (.aload_n 0, 1) := by decide +kernel
theorem d_Net_reachFromStart_25 : decode b_Net_reachFromStart 25 = .ok (.iconst 1, 1) := by decide +kernel
theorem d_Net_reachFromStart_26 : decode b_Net_reachFromStart 26 = .ok (.invokevirtual 114, 3) := by decide +kernel
theorem d_Net_reachFromStart_29 : decode b_Net_reachFromStart 29 = .ok (.sipush 16384, 3) := by decide +kernel
theorem d_Net_reachFromStart_32 : decode b_Net_reachFromStart 32 = .ok (.istore_n 1, 1) := by decide +kernel
theorem d_Net_reachFromStart_33 : decode b_Net_reachFromStart 33 = .ok (.iload_n 1, 1) := by decide +kernel
theorem d_Net_reachFromStart_34 : decode b_Net_reachFromStart 34 = .ok (.ifCond .le 82, 3) := by decide +kernel
theorem d_Net_reachFromStart_37 : decode b_Net_reachFromStart 37 = .ok (.aload_n 0, 1) := by decide +kernel
theorem d_Net_reachFromStart_38 : decode b_Net_reachFromStart 38 = .ok (.getfield 20, 3) := by decide +kernel
theorem d_Net_reachFromStart_41 : decode b_Net_reachFromStart 41 = .ok (.invokevirtual 79, 3) := by decide +kernel
theorem d_Net_reachFromStart_44 : decode b_Net_reachFromStart 44 = .ok (.istore_n 2, 1) := by decide +kernel
theorem d_Net_reachFromStart_45 : decode b_Net_reachFromStart 45 = .ok (.iload_n 2, 1) := by decide +kernel
theorem d_Net_reachFromStart_46 : decode b_Net_reachFromStart 46 = .ok (.iconst (-1), 1) := by decide +kernel
theorem d_Net_reachFromStart_47 : decode b_Net_reachFromStart 47 = .ok (.if_icmp .ne 4, 3) := by decide +kernel
theorem d_Net_reachFromStart_50 : decode b_Net_reachFromStart 50 = .ok (.return_, 1) := by decide +kernel
theorem d_Net_reachFromStart_51 : decode b_Net_reachFromStart 51 = .ok (.iload_n 2, 1) := by decide +kernel
theorem d_Net_reachFromStart_52 : decode b_Net_reachFromStart 52 = .ok (.iconst 2, 1) := by decide +kernel
theorem d_Net_reachFromStart_53 : decode b_Net_reachFromStart 53 = .ok (.iand, 1) := by decide +kernel
theorem d_Net_reachFromStart_54 : decode b_Net_reachFromStart 54 = .ok (.ifCond .eq 13, 3) := by decide +kernel
theorem d_Net_reachFromStart_57 : decode b_Net_reachFromStart 57 = .ok (.iload_n 2, 1) := by decide +kernel
theorem d_Net_reachFromStart_58 : decode b_Net_reachFromStart 58 = .ok (.iconst 2, 1) := by decide +kernel
theorem d_Net_reachFromStart_59 : decode b_Net_reachFromStart 59 = .ok (.if_icmp .eq 8, 3) := by decide +kernel
theorem d_Net_reachFromStart_62 : decode b_Net_reachFromStart 62 = .ok (.aload_n 0, 1) := by decide +kernel
theorem d_Net_reachFromStart_63 : decode b_Net_reachFromStart 63 = .ok (.iconst 0, 1) := by decide +kernel
theorem d_Net_reachFromStart_64 : decode b_Net_reachFromStart 64 = .ok (.putfield 59, 3) := by decide +kernel
theorem d_Net_reachFromStart_67 : decode b_Net_reachFromStart 67 = .ok (.iconst 0, 1) := by decide +kernel
theorem d_Net_reachFromStart_68 : decode b_Net_reachFromStart 68 = .ok (.istore_n 3, 1) := by decide +kernel
theorem d_Net_reachFromStart_69 : decode b_Net_reachFromStart 69 = .ok (.iload_n 3, 1) := by decide +kernel
theorem d_Net_reachFromStart_70 : decode b_Net_reachFromStart 70 = .ok (.bipush 6, 2) := by decide +kernel
theorem d_Net_reachFromStart_72 : decode b_Net_reachFromStart 72 = .ok (.if_icmp .ge 38, 3) := by decide +kernel
theorem d_Net_reachFromStart_75 : decode b_Net_reachFromStart 75 = .ok (.aload_n 0, 1) := by decide +kernel
theorem d_Net_reachFromStart_76 : decode b_Net_reachFromStart 76 = .ok (.getfield 11, 3) := by decide +kernel
theorem d_Net_reachFromStart_79 : decode b_Net_reachFromStart 79 = .ok (.iload_n 3, 1) := by decide +kernel
theorem d_Net_reachFromStart_80 : decode b_Net_reachFromStart 80 = .ok (.aaload, 1) := by decide +kernel
theorem d_Net_reachFromStart_81 : decode b_Net_reachFromStart 81 = .ok (.getfield 37, 3) := by decide +kernel
theorem d_Net_reachFromStart_84 : decode b_Net_reachFromStart 84 = .ok (.ifCond .eq 20, 3) := by decide +kernel
theorem d_Net_reachFromStart_87 : decode b_Net_reachFromStart 87 = .ok (.aload_n 0, 1) := by decide +kernel
theorem d_Net_reachFromStart_88 : decode b_Net_reachFromStart 88 = .ok (.iload_n 3, 1) := by decide +kernel
theorem d_Net_reachFromStart_89 : decode b_Net_reachFromStart 89 = .ok (.iload_n 2, 1) := by decide +kernel
theorem d_Net_reachFromStart_90 : decode b_Net_reachFromStart 90 = .ok (.invokevirtual 117, 3) := by decide +kernel
theorem d_Net_reachFromStart_93 : decode b_Net_reachFromStart 93 = .ok (.aload_n 0, 1) := by decide +kernel
theorem d_Net_reachFromStart_94 : decode b_Net_reachFromStart 94 = .ok (.aload_n 0, 1) := by decide +kernel
theorem d_Net_reachFromStart_95 : decode b_Net_reachFromStart 95 = .ok (.getfield 11, 3) := by decide +kernel
theorem d_Net_reachFromStart_98 : decode b_Net_reachFromStart 98 = .ok (.iload_n 3, 1) := by decide +kernel
theorem d_Net_reachFromStart_99 : decode b_Net_reachFromStart 99 = .ok (.aaload, 1) := by decide +kernel
theorem d_Net_reachFromStart_100 : decode b_Net_reachFromStart 100 = .ok (.iload_n 2, 1) := by decide +kernel
theorem d_Net_reachFromStart_101 : decode b_Net_reachFromStart 101 = .ok (.invokevirtual 121, 3) := by decide +kernel
theorem d_Net_reachFromStart_104 : decode b_Net_reachFromStart 104 = .ok (.iinc 3 1, 3) := by decide +kernel
theorem d_Net_reachFromStart_107 : decode b_Net_reachFromStart 107 = .ok (.goto (-38), 3) := by decide +kernel
theorem d_Net_reachFromStart_110 : decode b_Net_reachFromStart 110 = .ok (.iinc 1 (-1), 3) := by decide +kernel
theorem d_Net_reachFromStart_113 : decode b_Net_reachFromStart 113 = .ok (.goto (-80), 3) := by decide +kernel
theorem d_Net_reachFromStart_116 : decode b_Net_reachFromStart 116 = .ok (.return_, 1) := by decide +kernel
theorem d_MS_isWithin_0 : decode b_MS_isWithin 0 = .ok (.iconst 0, 1) := by decide +kernel
theorem d_MS_isWithin_1 : decode b_MS_isWithin 1 = .ok (.istore_n 2, 1) := by decide +kernel
theorem d_MS_isWithin_2 : decode b_MS_isWithin 2 = .ok (.iload_n 2, 1) := by decide +kernel
theorem d_MS_isWithin_3 : decode b_MS_isWithin 3 = .ok (.sipush 256, 3) := by decide +kernel
theorem d_MS_isWithin_6 : decode b_MS_isWithin 6 = .ok (.if_icmp .ge 33, 3) := by decide +kernel
theorem d_MS_isWithin_9 : decode b_MS_isWithin 9 = .ok (.aload_n 0, 1) := by decide +kernel
theorem d_MS_isWithin_10 : decode b_MS_isWithin 10 = .ok (.getfield 11, 3) := by decide +kernel
theorem d_MS_isWithin_13 : decode b_MS_isWithin 13 = .ok (.iload_n 2, 1) := by decide +kernel
theorem d_MS_isWithin_14 : decode b_MS_isWithin 14 = .ok (.laload, 1) := by decide +kernel
theorem d_MS_isWithin_15 : decode b_MS_isWithin 15 = .ok (.aload_n 1, 1) := by decide +kernel
theorem d_MS_isWithin_16 : decode b_MS_isWithin 16 = .ok (.getfield 11, 3) := by decide +kernel
theorem d_MS_isWithin_19 : decode b_MS_isWithin 19 = .ok (.iload_n 2, 1) := by decide +kernel
theorem d_MS_isWithin_20 : decode b_MS_isWithin 20 = .ok (.laload, 1) := by decide +kernel
theorem d_MS_isWithin_21 : decode b_MS_isWithin 21 = .ok (.ldc2_w 25, 3) := by decide +kernel
theorem d_MS_isWithin_24 : decode b_MS_isWithin 24 = .ok (.lxor, 1) := by decide +kernel
theorem d_MS_isWithin_25 : decode b_MS_isWithin 25 = .ok (.land, 1) := by decide +kernel
theorem d_MS_isWithin_26 : decode b_MS_isWithin 26 = .ok (.lconst 0, 1) := by decide +kernel
theorem d_MS_isWithin_27 : decode b_MS_isWithin 27 = .ok (.lcmp, 1) := by decide +kernel
theorem d_MS_isWithin_28 : decode b_MS_isWithin 28 = .ok (.ifCond .eq 5, 3) := by decide +kernel
theorem d_MS_isWithin_31 : decode b_MS_isWithin 31 = .ok (.iconst 0, 1) := by decide +kernel
theorem d_MS_isWithin_32 : decode b_MS_isWithin 32 = .ok (.ireturn, 1) := by decide +kernel
theorem d_MS_isWithin_33 : decode b_MS_isWithin 33 = .ok (.iinc 2 1, 3) := by decide +kernel
theorem d_MS_isWithin_36 : decode b_MS_isWithin 36 = .ok (.goto (-34), 3) := by decide +kernel
theorem d_MS_isWithin_39 : decode b_MS_isWithin 39 = .ok (.iconst 1, 1) := by decide +kernel
theorem d_MS_isWithin_40 : decode b_MS_isWithin 40 = .ok (.ireturn, 1) := by decide +kernel
theorem d_Net_judge_0 : decode b_Net_judge 0 = .ok (.aload_n 0, 1) := by decide +kernel
theorem d_Net_judge_1 : decode b_Net_judge 1 = .ok (.invokevirtual 41, 3) := by decide +kernel
theorem d_Net_judge_4 : decode b_Net_judge 4 = .ok (.ifCond .eq 10, 3) := by decide +kernel
theorem d_Net_judge_7 : decode b_Net_judge 7 = .ok (.aload_n 0, 1) := by decide +kernel
theorem d_Net_judge_8 : decode b_Net_judge 8 = .ok (.invokevirtual 45, 3) := by decide +kernel
theorem d_Net_judge_11 : decode b_Net_judge 11 = .ok (.ifCond .eq 5, 3) := by decide +kernel
theorem d_Net_judge_14 : decode b_Net_judge 14 = .ok (.iconst (-1), 1) := by decide +kernel
theorem d_Net_judge_15 : decode b_Net_judge 15 = .ok (.ireturn, 1) := by decide +kernel
theorem d_Net_judge_16 : decode b_Net_judge 16 = .ok (.aload_n 0, 1) := by decide +kernel
theorem d_Net_judge_17 : decode b_Net_judge 17 = .ok (.invokevirtual 49, 3) := by decide +kernel
theorem d_Net_judge_20 : decode b_Net_judge 20 = .ok (.aload_n 0, 1) := by decide +kernel
theorem d_Net_judge_21 : decode b_Net_judge 21 = .ok (.iconst 2, 1) := by decide +kernel
theorem d_Net_judge_22 : decode b_Net_judge 22 = .ok (.iconst 0, 1) := by decide +kernel
theorem d_Net_judge_23 : decode b_Net_judge 23 = .ok (.iconst (-1), 1) := by decide +kernel
theorem d_Net_judge_24 : decode b_Net_judge 24 = .ok (.invokevirtual 52, 3) := by decide +kernel
theorem d_Net_judge_27 : decode b_Net_judge 27 = .ok (.pop, 1) := by decide +kernel
theorem d_Net_judge_28 : decode b_Net_judge 28 = .ok (.aload_n 0, 1) := by decide +kernel
theorem d_Net_judge_29 : decode b_Net_judge 29 = .ok (.getfield 24, 3) := by decide +kernel
theorem d_Net_judge_32 : decode b_Net_judge 32 = .ok (.aload_n 0, 1) := by decide +kernel
theorem d_Net_judge_33 : decode b_Net_judge 33 = .ok (.getfield 27, 3) := by decide +kernel
theorem d_Net_judge_36 : decode b_Net_judge 36 = .ok (.invokevirtual 55, 3) := by decide +kernel
theorem d_Net_judge_39 : decode b_Net_judge 39 = .ok (.ifCond .eq 7, 3) := by decide +kernel
theorem d_Net_judge_42 : decode b_Net_judge 42 = .ok (.iconst 1, 1) := by decide +kernel
theorem d_Net_judge_43 : decode b_Net_judge 43 = .ok (.goto 4, 3) := by decide +kernel
theorem d_Net_judge_46 : decode b_Net_judge 46 = .ok (.iconst 0, 1) := by decide +kernel
theorem d_Net_judge_47 : decode b_Net_judge 47 = .ok (.istore_n 1, 1) := by decide +kernel
theorem d_Net_judge_48 : decode b_Net_judge 48 = .ok (.iload_n 1, 1) := by decide +kernel
theorem d_Net_judge_49 : decode b_Net_judge 49 = .ok (.aload_n 0, 1) := by decide +kernel
theorem d_Net_judge_50 : decode b_Net_judge 50 = .ok (.getfield 59, 3) := by decide +kernel
theorem d_Net_judge_53 : decode b_Net_judge 53 = .ok (.ifCond .eq 7, 3) := by decide +kernel
theorem d_Net_judge_56 : decode b_Net_judge 56 = .ok (.iconst 2, 1) := by decide +kernel
theorem d_Net_judge_57 : decode b_Net_judge 57 = .ok (.goto 4, 3) := by decide +kernel
theorem d_Net_judge_60 : decode b_Net_judge 60 = .ok (.iconst 0, 1) := by decide +kernel
theorem d_Net_judge_61 : decode b_Net_judge 61 = .ok (.ior, 1) := by decide +kernel
theorem d_Net_judge_62 : decode b_Net_judge 62 = .ok (.istore_n 1, 1) := by decide +kernel
theorem d_Net_judge_63 : decode b_Net_judge 63 = .ok (.iload_n 1, 1) := by decide +kernel
theorem d_Net_judge_64 : decode b_Net_judge 64 = .ok (.aload_n 0, 1) := by decide +kernel
theorem d_Net_judge_65 : decode b_Net_judge 65 = .ok (.getfield 62, 3) := by decide +kernel
theorem d_Net_judge_68 : decode b_Net_judge 68 = .ok (.aload_n 0, 1) := by decide +kernel
theorem d_Net_judge_69 : decode b_Net_judge 69 = .ok (.invokevirtual 41, 3) := by decide +kernel
theorem d_Net_judge_72 : decode b_Net_judge 72 = .ok (.if_icmp .ne 7, 3) := by decide +kernel
theorem d_Net_judge_75 : decode b_Net_judge 75 = .ok (.iconst 4, 1) := by decide +kernel
theorem d_Net_judge_76 : decode b_Net_judge 76 = .ok (.goto 4, 3) := by decide +kernel
theorem d_Net_judge_79 : decode b_Net_judge 79 = .ok (.iconst 0, 1) := by decide +kernel
theorem d_Net_judge_80 : decode b_Net_judge 80 = .ok (.ior, 1) := by decide +kernel
theorem d_Net_judge_81 : decode b_Net_judge 81 = .ok (.istore_n 1, 1) := by decide +kernel
theorem d_Net_judge_82 : decode b_Net_judge 82 = .ok (.iload_n 1, 1) := by decide +kernel
theorem d_Net_judge_83 : decode b_Net_judge 83 = .ok (.ireturn, 1) := by decide +kernel
theorem d_CN_verdict_0 : decode b_CN_verdict 0 = .ok (.aload_n 0, 1) := by decide +kernel
theorem d_CN_verdict_1 : decode b_CN_verdict 1 = .ok (.getfield 12, 3) := by decide +kernel
theorem d_CN_verdict_4 : decode b_CN_verdict 4 = .ok (.invokevirtual 153, 3) := by decide +kernel
theorem d_CN_verdict_7 : decode b_CN_verdict 7 = .ok (.ireturn, 1) := by decide +kernel
theorem d_Md_isTask_0 : decode b_Md_isTask 0 = .ok (.iload_n 0, 1) := by decide +kernel
theorem d_Md_isTask_1 : decode b_Md_isTask 1 = .ok (.ifCond .lt 12, 3) := by decide +kernel
theorem d_Md_isTask_4 : decode b_Md_isTask 4 = .ok (.iload_n 0, 1) := by decide +kernel
theorem d_Md_isTask_5 : decode b_Md_isTask 5 = .ok (.iconst 5, 1) := by decide +kernel
theorem d_Md_isTask_6 : decode b_Md_isTask 6 = .ok (.if_icmp .gt 7, 3) := by decide +kernel
theorem d_Md_isTask_9 : decode b_Md_isTask 9 = .ok (.iconst 1, 1) := by decide +kernel
theorem d_Md_isTask_10 : decode b_Md_isTask 10 = .ok (.goto 4, 3) := by decide +kernel
theorem d_Md_isTask_13 : decode b_Md_isTask 13 = .ok (.iconst 0, 1) := by decide +kernel
theorem d_Md_isTask_14 : decode b_Md_isTask 14 = .ok (.ireturn, 1) := by decide +kernel
theorem d_Md_isDefined_0 : decode b_Md_isDefined 0 = .ok (.iload_n 1, 1) := by decide +kernel
theorem d_Md_isDefined_1 : decode b_Md_isDefined 1 = .ok (.invokestatic 81, 3) := by decide +kernel
theorem d_Md_isDefined_4 : decode b_Md_isDefined 4 = .ok (.ifCond .eq 16, 3) := by decide +kernel
theorem d_Md_isDefined_7 : decode b_Md_isDefined 7 = .ok (.aload_n 0, 1) := by decide +kernel
theorem d_Md_isDefined_8 : decode b_Md_isDefined 8 = .ok (.getfield 7, 3) := by decide +kernel
theorem d_Md_isDefined_11 : decode b_Md_isDefined 11 = .ok (.iload_n 1, 1) := by decide +kernel
theorem d_Md_isDefined_12 : decode b_Md_isDefined 12 = .ok (.baload, 1) := by decide +kernel
theorem d_Md_isDefined_13 : decode b_Md_isDefined 13 = .ok (.ifCond .eq 7, 3) := by decide +kernel
theorem d_Md_isDefined_16 : decode b_Md_isDefined 16 = .ok (.iconst 1, 1) := by decide +kernel
theorem d_Md_isDefined_17 : decode b_Md_isDefined 17 = .ok (.goto 4, 3) := by decide +kernel
theorem d_Md_isDefined_20 : decode b_Md_isDefined 20 = .ok (.iconst 0, 1) := by decide +kernel
theorem d_Md_isDefined_21 : decode b_Md_isDefined 21 = .ok (.ireturn, 1) := by decide +kernel
theorem d_Md_isPlaces_0 : decode b_Md_isPlaces 0 = .ok (.iload_n 0, 1) := by decide +kernel
theorem d_Md_isPlaces_1 : decode b_Md_isPlaces 1 = .ok (.ifCond .lt 14, 3) := by decide +kernel
theorem d_Md_isPlaces_4 : decode b_Md_isPlaces 4 = .ok (.iload_n 0, 1) := by decide +kernel
theorem d_Md_isPlaces_5 : decode b_Md_isPlaces 5 = .ok (.sipush 16384, 3) := by decide +kernel
theorem d_Md_isPlaces_8 : decode b_Md_isPlaces 8 = .ok (.if_icmp .ge 7, 3) := by decide +kernel
theorem d_Md_isPlaces_11 : decode b_Md_isPlaces 11 = .ok (.iconst 1, 1) := by decide +kernel
theorem d_Md_isPlaces_12 : decode b_Md_isPlaces 12 = .ok (.goto 4, 3) := by decide +kernel
theorem d_Md_isPlaces_15 : decode b_Md_isPlaces 15 = .ok (.iconst 0, 1) := by decide +kernel
theorem d_Md_isPlaces_16 : decode b_Md_isPlaces 16 = .ok (.ireturn, 1) := by decide +kernel
theorem d_Md_count_0 : decode b_Md_count 0 = .ok (.iconst 0, 1) := by decide +kernel
theorem d_Md_count_1 : decode b_Md_count 1 = .ok (.istore_n 1, 1) := by decide +kernel
theorem d_Md_count_2 : decode b_Md_count 2 = .ok (.iconst 0, 1) := by decide +kernel
theorem d_Md_count_3 : decode b_Md_count 3 = .ok (.istore_n 2, 1) := by decide +kernel
theorem d_Md_count_4 : decode b_Md_count 4 = .ok (.iload_n 2, 1) := by decide +kernel
theorem d_Md_count_5 : decode b_Md_count 5 = .ok (.bipush 14, 2) := by decide +kernel
theorem d_Md_count_7 : decode b_Md_count 7 = .ok (.if_icmp .ge 17, 3) := by decide +kernel
theorem d_Md_count_10 : decode b_Md_count 10 = .ok (.iload_n 1, 1) := by decide +kernel
theorem d_Md_count_11 : decode b_Md_count 11 = .ok (.iload_n 0, 1) := by decide +kernel
theorem d_Md_count_12 : decode b_Md_count 12 = .ok (.iload_n 2, 1) := by decide +kernel
theorem d_Md_count_13 : decode b_Md_count 13 = .ok (.ishr, 1) := by decide +kernel
theorem d_Md_count_14 : decode b_Md_count 14 = .ok (.iconst 1, 1) := by decide +kernel
theorem d_Md_count_15 : decode b_Md_count 15 = .ok (.iand, 1) := by decide +kernel
theorem d_Md_count_16 : decode b_Md_count 16 = .ok (.iadd, 1) := by decide +kernel
theorem d_Md_count_17 : decode b_Md_count 17 = .ok (.istore_n 1, 1) := by decide +kernel
theorem d_Md_count_18 : decode b_Md_count 18 = .ok (.iinc 2 1, 3) := by decide +kernel
theorem d_Md_count_21 : decode b_Md_count 21 = .ok (.goto (-17), 3) := by decide +kernel
theorem d_Md_count_24 : decode b_Md_count 24 = .ok (.iload_n 1, 1) := by decide +kernel
theorem d_Md_count_25 : decode b_Md_count 25 = .ok (.ireturn, 1) := by decide +kernel
theorem d_Md_runs_0 : decode b_Md_runs 0 = .ok (.aload_n 0, 1) := by decide +kernel
theorem d_Md_runs_1 : decode b_Md_runs 1 = .ok (.getfield 85, 3) := by decide +kernel
theorem d_Md_runs_4 : decode b_Md_runs 4 = .ok (.bipush 8, 2) := by decide +kernel
theorem d_Md_runs_6 : decode b_Md_runs 6 = .ok (.iload_n 1, 1) := by decide +kernel
theorem d_Md_runs_7 : decode b_Md_runs 7 = .ok (.iadd, 1) := by decide +kernel
theorem d_Md_runs_8 : decode b_Md_runs 8 = .ok (.ishr, 1) := by decide +kernel
theorem d_Md_runs_9 : decode b_Md_runs 9 = .ok (.iconst 1, 1) := by decide +kernel
theorem d_Md_runs_10 : decode b_Md_runs 10 = .ok (.iand, 1) := by decide +kernel
theorem d_Md_runs_11 : decode b_Md_runs 11 = .ok (.iconst 1, 1) := by decide +kernel
theorem d_Md_runs_12 : decode b_Md_runs 12 = .ok (.if_icmp .ne 7, 3) := by decide +kernel
theorem d_Md_runs_15 : decode b_Md_runs 15 = .ok (.iconst 1, 1) := by decide +kernel
theorem d_Md_runs_16 : decode b_Md_runs 16 = .ok (.goto 4, 3) := by decide +kernel
theorem d_Md_runs_19 : decode b_Md_runs 19 = .ok (.iconst 0, 1) := by decide +kernel
theorem d_Md_runs_20 : decode b_Md_runs 20 = .ok (.ireturn, 1) := by decide +kernel
