theorem d_Net_goBackBeforeBegin_0 : decode b_Net_goBackBeforeBegin 0 = .ok (.iload_n 2, 1) := by decide +kernel
theorem d_Net_goBackBeforeBegin_1 : decode b_Net_goBackBeforeBegin 1 = .ok (.aload_n 1, 1) := by decide +kernel
theorem d_Net_goBackBeforeBegin_2 : decode b_Net_goBackBeforeBegin 2 = .ok (.getfield 92, 3) := by decide +kernel
theorem d_Net_goBackBeforeBegin_5 : decode b_Net_goBackBeforeBegin 5 = .ok (.iconst (-1), 1) := by decide +kernel
theorem d_Net_goBackBeforeBegin_6 : decode b_Net_goBackBeforeBegin 6 = .ok (.ixor, 1) := by decide +kernel
theorem d_Net_goBackBeforeBegin_7 : decode b_Net_goBackBeforeBegin 7 = .ok (.iand, 1) := by decide +kernel
theorem d_Net_goBackBeforeBegin_8 : decode b_Net_goBackBeforeBegin 8 = .ok (.istore_n 3, 1) := by decide +kernel
theorem d_Net_goBackBeforeBegin_9 : decode b_Net_goBackBeforeBegin 9 = .ok (.iload_n 3, 1) := by decide +kernel
theorem d_Net_goBackBeforeBegin_10 : decode b_Net_goBackBeforeBegin 10 = .ok (.iload_n 2, 1) := by decide +kernel
theorem d_Net_goBackBeforeBegin_11 : decode b_Net_goBackBeforeBegin 11 = .ok (.if_icmp .ne 4, 3) := by decide +kernel
theorem d_Net_goBackBeforeBegin_14 : decode b_Net_goBackBeforeBegin 14 = .ok (.return_, 1) := by decide +kernel
theorem d_Net_goBackBeforeBegin_15 : decode b_Net_goBackBeforeBegin 15 = .ok (.iconst 0, 1) := by decide +kernel
theorem d_Net_goBackBeforeBegin_16 : decode b_Net_goBackBeforeBegin 16 = .ok (.istore 4, 2) := by decide +kernel
theorem d_Net_goBackBeforeBegin_18 : decode b_Net_goBackBeforeBegin 18 = .ok (.iload 4, 2) := by decide +kernel
theorem d_Net_goBackBeforeBegin_20 : decode b_Net_goBackBeforeBegin 20 = .ok (.aload_n 1, 1) := by decide +kernel
theorem d_Net_goBackBeforeBegin_21 : decode b_Net_goBackBeforeBegin 21 = .ok (.getfield 102, 3) := by decide +kernel
theorem d_Net_goBackBeforeBegin_24 : decode b_Net_goBackBeforeBegin 24 = .ok (.if_icmp .ge 34, 3) := by decide +kernel
theorem d_Net_goBackBeforeBegin_27 : decode b_Net_goBackBeforeBegin 27 = .ok (.iload_n 3, 1) := by decide +kernel
theorem d_Net_goBackBeforeBegin_28 : decode b_Net_goBackBeforeBegin 28 = .ok (.aload_n 1, 1) := by decide +kernel
theorem d_Net_goBackBeforeBegin_29 : decode b_Net_goBackBeforeBegin 29 = .ok (.getfield 105, 3) := by decide +kernel
theorem d_Net_goBackBeforeBegin_32 : decode b_Net_goBackBeforeBegin 32 = .ok (.iload 4, 2) := by decide +kernel
theorem d_Net_goBackBeforeBegin_34 : decode b_Net_goBackBeforeBegin 34 = .ok (.iaload, 1) := by decide +kernel
theorem d_Net_goBackBeforeBegin_35 : decode b_Net_goBackBeforeBegin 35 = .ok (.iand, 1) := by decide +kernel
theorem d_Net_goBackBeforeBegin_36 : decode b_Net_goBackBeforeBegin 36 = .ok (.ifCond .ne 16, 3) := by decide +kernel
theorem d_Net_goBackBeforeBegin_39 : decode b_Net_goBackBeforeBegin 39 = .ok (.aload_n 0, 1) := by decide +kernel
theorem d_Net_goBackBeforeBegin_40 : decode b_Net_goBackBeforeBegin 40 = .ok (.iload_n 3, 1) := by decide +kernel
theorem d_Net_goBackBeforeBegin_41 : decode b_Net_goBackBeforeBegin 41 = .ok (.aload_n 1, 1) := by decide +kernel
theorem d_Net_goBackBeforeBegin_42 : decode b_Net_goBackBeforeBegin 42 = .ok (.getfield 105, 3) := by decide +kernel
theorem d_Net_goBackBeforeBegin_45 : decode b_Net_goBackBeforeBegin 45 = .ok (.iload 4, 2) := by decide +kernel
theorem d_Net_goBackBeforeBegin_47 : decode b_Net_goBackBeforeBegin 47 = .ok (.iaload, 1) := by decide +kernel
theorem d_Net_goBackBeforeBegin_48 : decode b_Net_goBackBeforeBegin 48 = .ok (.ior, 1) := by decide +kernel
theorem d_Net_goBackBeforeBegin_49 : decode b_Net_goBackBeforeBegin 49 = .ok (.invokevirtual 72, 3) := by decide +kernel
theorem d_Net_goBackBeforeBegin_52 : decode b_Net_goBackBeforeBegin 52 = .ok (.iinc 4 1, 3) := by decide +kernel
theorem d_Net_goBackBeforeBegin_55 : decode b_Net_goBackBeforeBegin 55 = .ok (.goto (-37), 3) := by decide +kernel
theorem d_Net_goBackBeforeBegin_58 : decode b_Net_goBackBeforeBegin 58 = .ok (.return_, 1) := by decide +kernel
theorem d_Net_findCovering_0 : decode b_Net_findCovering 0 = .ok (.aload_n 0, 1) := by decide +kernel
theorem d_Net_findCovering_1 : decode b_Net_findCovering 1 = .ok (.getfield 27, 3) := by decide +kernel
theorem d_Net_findCovering_4 : decode b_Net_findCovering 4 = .ok (.invokevirtual 69, 3) := by decide +kernel
theorem d_Net_findCovering_7 : decode b_Net_findCovering 7 = .ok (.aload_n 0, 1) := by decide +kernel
theorem d_Net_findCovering_8 : decode b_Net_findCovering 8 = .ok (.getfield 20, 3) := by decide +kernel
theorem d_Net_findCovering_11 : decode b_Net_findCovering 11 = .ok (.invokevirtual 69, 3) := by decide +kernel
theorem d_Net_findCovering_14 : decode b_Net_findCovering 14 = .ok (.aload_n 0, 1) := by decide +kernel
theorem d_Net_findCovering_15 : decode b_Net_findCovering 15 = .ok (.iload_n 1, 1) := by decide +kernel
theorem d_Net_findCovering_16 : decode b_Net_findCovering 16 = .ok (.invokevirtual 72, 3) := by decide +kernel
theorem d_Net_findCovering_19 : decode b_Net_findCovering 19 = .ok (.sipush 16384, 3) := by decide +kernel
theorem d_Net_findCovering_22 : decode b_Net_findCovering 22 = .ok (.istore 4, 2) := by decide +kernel
theorem d_Net_findCovering_24 : decode b_Net_findCovering 24 = .ok (.iload 4, 2) := by decide +kernel
theorem d_Net_findCovering_26 : decode b_Net_findCovering 26 = .ok (.ifCond .le 98, 3) := by decide +kernel
theorem d_Net_findCovering_29 : decode b_Net_findCovering 29 = .ok (.aload_n 0, 1) := by decide +kernel
theorem d_Net_findCovering_30 : decode b_Net_findCovering 30 = .ok (.getfield 27, 3) := by decide +kernel
theorem d_Net_findCovering_33 : decode b_Net_findCovering 33 = .ok (.iload_n 2, 1) := by decide +kernel
theorem d_Net_findCovering_34 : decode b_Net_findCovering 34 = .ok (.invokevirtual 75, 3) := by decide +kernel
theorem d_Net_findCovering_37 : decode b_Net_findCovering 37 = .ok (.ifCond .ne 87, 3) := by decide +kernel
theorem d_Net_findCovering_40 : decode b_Net_findCovering 40 = .ok (.aload_n 0, 1) := by decide +kernel
theorem d_Net_findCovering_41 : decode b_Net_findCovering 41 = .ok (.getfield 20, 3) := by decide +kernel
theorem d_Net_findCovering_44 : decode b_Net_findCovering 44 = .ok (.invokevirtual 79, 3) := by decide +kernel
theorem d_Net_findCovering_47 : decode b_Net_findCovering 47 = .ok (.istore 5, 2) := by decide +kernel
theorem d_Net_findCovering_49 : decode b_Net_findCovering 49 = .ok (.iload 5, 2) := by decide +kernel
theorem d_Net_findCovering_51 : decode b_Net_findCovering 51 = .ok (.iconst (-1), 1) := by decide +kernel
theorem d_Net_findCovering_52 : decode b_Net_findCovering 52 = .ok (.if_icmp .ne 5, 3) := by decide +kernel
theorem d_Net_findCovering_55 : decode b_Net_findCovering 55 = .ok (.iconst 0, 1) := by decide +kernel
theorem d_Net_findCovering_56 : decode b_Net_findCovering 56 = .ok (.ireturn, 1) := by decide +kernel
theorem d_Net_findCovering_57 : decode b_Net_findCovering 57 = .ok (.iconst 0, 1) := by decide +kernel
theorem d_Net_findCovering_58 : decode b_Net_findCovering 58 = .ok (.istore 6, 2) := by decide +kernel
theorem d_Net_findCovering_60 : decode b_Net_findCovering 60 = .ok (.iload 6, 2) := by decide +kernel
theorem d_Net_findCovering_62 : decode b_Net_findCovering 62 = .ok (.bipush 6, 2) := by decide +kernel
theorem d_Net_findCovering_64 : decode b_Net_findCovering 64 = .ok (.if_icmp .ge 54, 3) := by decide +kernel
theorem d_Net_findCovering_67 : decode b_Net_findCovering 67 = .ok (.iload 6, 2) := by decide +kernel
theorem d_Net_findCovering_69 : decode b_Net_findCovering 69 = .ok (.iload_n 3, 1) := by decide +kernel
theorem d_Net_findCovering_70 : decode b_Net_findCovering 70 = .ok (.if_icmp .eq 42, 3) := by decide +kernel
theorem d_Net_findCovering_73 : decode b_Net_findCovering 73 = .ok (.aload_n 0, 1) := by decide +kernel
theorem d_Net_findCovering_74 : decode b_Net_findCovering 74 = .ok (.getfield 11, 3) := by decide +kernel
theorem d_Net_findCovering_77 : decode b_Net_findCovering 77 = .ok (.iload 6, 2) := by decide +kernel
theorem d_Net_findCovering_79 : decode b_Net_findCovering 79 = .ok (.aaload, 1) := by decide +kernel
theorem d_Net_findCovering_80 : decode b_Net_findCovering 80 = .ok (.getfield 37, 3) := by decide +kernel
theorem d_Net_findCovering_83 : decode b_Net_findCovering 83 = .ok (.ifCond .eq 29, 3) := by decide +kernel
theorem d_Net_findCovering_86 : decode b_Net_findCovering 86 = .ok (.aload_n 0, 1) := by decide +kernel
theorem d_Net_findCovering_87 : decode b_Net_findCovering 87 = .ok (.aload_n 0, 1) := by decide +kernel
theorem d_Net_findCovering_88 : decode b_Net_findCovering 88 = .ok (.getfield 11, 3) := by decide +kernel
theorem d_Net_findCovering_91 : decode b_Net_findCovering 91 = .ok (.iload 6, 2) := by decide +kernel
theorem d_Net_findCovering_93 : decode b_Net_findCovering 93 = .ok (.aaload, 1) := by decide +kernel
theorem d_Net_findCovering_94 : decode b_Net_findCovering 94 = .ok (.iload 5, 2) := by decide +kernel
theorem d_Net_findCovering_96 : decode b_Net_findCovering 96 = .ok (.invokevirtual 82, 3) := by decide +kernel
theorem d_Net_findCovering_99 : decode b_Net_findCovering 99 = .ok (.aload_n 0, 1) := by decide +kernel
theorem d_Net_findCovering_100 : decode b_Net_findCovering 100 = .ok (.aload_n 0, 1) := by decide +kernel
theorem d_Net_findCovering_101 : decode b_Net_findCovering 101 = .ok (.getfield 11, 3) := by decide +kernel
theorem d_Net_findCovering_104 : decode b_Net_findCovering 104 = .ok (.iload 6, 2) := by decide +kernel
theorem d_Net_findCovering_106 : decode b_Net_findCovering 106 = .ok (.aaload, 1) := by decide +kernel
theorem d_Net_findCovering_107 : decode b_Net_findCovering 107 = .ok (.iload 5, 2) := by decide +kernel
theorem d_Net_findCovering_109 : decode b_Net_findCovering 109 = .ok (.invokevirtual 86, 3) := by decide +kernel
theorem d_Net_findCovering_112 : decode b_Net_findCovering 112 = .ok (.iinc 6 1, 3) := by decide +kernel
theorem d_Net_findCovering_115 : decode b_Net_findCovering 115 = .ok (.goto (-55), 3) := by decide +kernel
theorem d_Net_findCovering_118 : decode b_Net_findCovering 118 = .ok (.iinc 4 (-1), 3) := by decide +kernel
theorem d_Net_findCovering_121 : decode b_Net_findCovering 121 = .ok (.goto (-97), 3) := by decide +kernel
theorem d_Net_findCovering_124 : decode b_Net_findCovering 124 = .ok (.aload_n 0, 1) := by decide +kernel
theorem d_Net_findCovering_125 : decode b_Net_findCovering 125 = .ok (.getfield 27, 3) := by decide +kernel
theorem d_Net_findCovering_128 : decode b_Net_findCovering 128 = .ok (.iload_n 2, 1) := by decide +kernel
theorem d_Net_findCovering_129 : decode b_Net_findCovering 129 = .ok (.invokevirtual 75, 3) := by decide +kernel
theorem d_Net_findCovering_132 : decode b_Net_findCovering 132 = .ok (.ireturn, 1) := by decide +kernel
theorem d_CN_canMoreInputsCome_0 : decode b_CN_canMoreInputsCome 0 = .ok (.aload_n 0, 1) := by decide +kernel
theorem d_CN_canMoreInputsCome_1 : decode b_CN_canMoreInputsCome 1 = .ok (.getfield 12, 3) := by decide +kernel
theorem d_CN_canMoreInputsCome_4 : decode b_CN_canMoreInputsCome 4 = .ok (.getfield 39, 3) := by decide +kernel
theorem d_CN_canMoreInputsCome_7 : decode b_CN_canMoreInputsCome 7 = .ok (.iload_n 1, 1) := by decide +kernel
theorem d_CN_canMoreInputsCome_8 : decode b_CN_canMoreInputsCome 8 = .ok (.aaload, 1) := by decide +kernel
theorem d_CN_canMoreInputsCome_9 : decode b_CN_canMoreInputsCome 9 = .ok (.getfield 161, 3) := by decide +kernel
theorem d_CN_canMoreInputsCome_12 : decode b_CN_canMoreInputsCome 12 = .ok (.istore_n 2, 1) := by decide +kernel
theorem d_CN_canMoreInputsCome_13 : decode b_CN_canMoreInputsCome 13 = .ok (.iconst 0, 1) := by decide +kernel
theorem d_CN_canMoreInputsCome_14 : decode b_CN_canMoreInputsCome 14 = .ok (.istore_n 3, 1) := by decide +kernel
theorem d_CN_canMoreInputsCome_15 : decode b_CN_canMoreInputsCome 15 = .ok (.iload_n 3, 1) := by decide +kernel
theorem d_CN_canMoreInputsCome_16 : decode b_CN_canMoreInputsCome 16 = .ok (.bipush 8, 2) := by decide +kernel
theorem d_CN_canMoreInputsCome_18 : decode b_CN_canMoreInputsCome 18 = .ok (.if_icmp .ge 54, 3) := by decide +kernel
theorem d_CN_canMoreInputsCome_21 : decode b_CN_canMoreInputsCome 21 = .ok (.iload_n 2, 1) := by decide +kernel
theorem d_CN_canMoreInputsCome_22 : decode b_CN_canMoreInputsCome 22 = .ok (.aload_n 0, 1) := by decide +kernel
theorem d_CN_canMoreInputsCome_23 : decode b_CN_canMoreInputsCome 23 = .ok (.getfield 75, 3) := by decide +kernel
theorem d_CN_canMoreInputsCome_26 : decode b_CN_canMoreInputsCome 26 = .ok (.iconst (-1), 1) := by decide +kernel
theorem d_CN_canMoreInputsCome_27 : decode b_CN_canMoreInputsCome 27 = .ok (.ixor, 1) := by decide +kernel
theorem d_CN_canMoreInputsCome_28 : decode b_CN_canMoreInputsCome 28 = .ok (.iand, 1) := by decide +kernel
theorem d_CN_canMoreInputsCome_29 : decode b_CN_canMoreInputsCome 29 = .ok (.iconst 1, 1) := by decide +kernel
theorem d_CN_canMoreInputsCome_30 : decode b_CN_canMoreInputsCome 30 = .ok (.iload_n 3, 1) := by decide +kernel
theorem d_CN_canMoreInputsCome_31 : decode b_CN_canMoreInputsCome 31 = .ok (.ishl, 1) := by decide +kernel
theorem d_CN_canMoreInputsCome_32 : decode b_CN_canMoreInputsCome 32 = .ok (.iand, 1) := by decide +kernel
theorem d_CN_canMoreInputsCome_33 : decode b_CN_canMoreInputsCome 33 = .ok (.istore 4, 2) := by decide +kernel
theorem d_CN_canMoreInputsCome_35 : decode b_CN_canMoreInputsCome 35 = .ok (.iload 4, 2) := by decide +kernel
theorem d_CN_canMoreInputsCome_37 : decode b_CN_canMoreInputsCome 37 = .ok (.ifCond .eq 29, 3) := by decide +kernel
theorem d_CN_canMoreInputsCome_40 : decode b_CN_canMoreInputsCome 40 = .ok (.aload_n 0, 1) := by decide +kernel
theorem d_CN_canMoreInputsCome_41 : decode b_CN_canMoreInputsCome 41 = .ok (.getfield 12, 3) := by decide +kernel
theorem d_CN_canMoreInputsCome_44 : decode b_CN_canMoreInputsCome 44 = .ok (.aload_n 0, 1) := by decide +kernel
theorem d_CN_canMoreInputsCome_45 : decode b_CN_canMoreInputsCome 45 = .ok (.getfield 75, 3) := by decide +kernel
theorem d_CN_canMoreInputsCome_48 : decode b_CN_canMoreInputsCome 48 = .ok (.iload_n 2, 1) := by decide +kernel
theorem d_CN_canMoreInputsCome_49 : decode b_CN_canMoreInputsCome 49 = .ok (.iand, 1) := by decide +kernel
theorem d_CN_canMoreInputsCome_50 : decode b_CN_canMoreInputsCome 50 = .ok (.iload 4, 2) := by decide +kernel
theorem d_CN_canMoreInputsCome_52 : decode b_CN_canMoreInputsCome 52 = .ok (.ior, 1) := by decide +kernel
theorem d_CN_canMoreInputsCome_53 : decode b_CN_canMoreInputsCome 53 = .ok (.aload_n 0, 1) := by decide +kernel
theorem d_CN_canMoreInputsCome_54 : decode b_CN_canMoreInputsCome 54 = .ok (.getfield 75, 3) := by decide +kernel
theorem d_CN_canMoreInputsCome_57 : decode b_CN_canMoreInputsCome 57 = .ok (.iload_n 1, 1) := by decide +kernel
theorem d_CN_canMoreInputsCome_58 : decode b_CN_canMoreInputsCome 58 = .ok (.invokevirtual 150, 3) := by decide +kernel
theorem d_CN_canMoreInputsCome_61 : decode b_CN_canMoreInputsCome 61 = .ok (.ifCond .eq 5, 3) := by decide +kernel
theorem d_CN_canMoreInputsCome_64 : decode b_CN_canMoreInputsCome 64 = .ok (.iconst 1, 1) := by decide +kernel
theorem d_CN_canMoreInputsCome_65 : decode b_CN_canMoreInputsCome 65 = .ok (.ireturn, 1) := by decide +kernel
theorem d_CN_canMoreInputsCome_66 : decode b_CN_canMoreInputsCome 66 = .ok (.iinc 3 1, 3) := by decide +kernel
theorem d_CN_canMoreInputsCome_69 : decode b_CN_canMoreInputsCome 69 = .ok (.goto (-54), 3) := by decide +kernel
theorem d_CN_canMoreInputsCome_72 : decode b_CN_canMoreInputsCome 72 = .ok (.iconst 0, 1) := by decide +kernel
theorem d_CN_canMoreInputsCome_73 : decode b_CN_canMoreInputsCome 73 = .ok (.ireturn, 1) := by decide +kernel
theorem d_CN_canFire_0 : decode b_CN_canFire 0 = .ok (.aload_n 0, 1) := by decide +kernel
theorem d_CN_canFire_1 : decode b_CN_canFire 1 = .ok (.getfield 27, 3) := by decide +kernel
theorem d_CN_canFire_4 : decode b_CN_canFire 4 = .ok (.ifCond .eq 14, 3) := by decide +kernel
theorem d_CN_canFire_7 : decode b_CN_canFire 7 = .ok (.aload_n 0, 1) := by decide +kernel
theorem d_CN_canFire_8 : decode b_CN_canFire 8 = .ok (.getfield 12, 3) := by decide +kernel
theorem d_CN_canFire_11 : decode b_CN_canFire 11 = .ok (.iload_n 1, 1) := by decide +kernel
theorem d_CN_canFire_12 : decode b_CN_canFire 12 = .ok (.invokevirtual 49, 3) := by decide +kernel
theorem d_CN_canFire_15 : decode b_CN_canFire 15 = .ok (.ifCond .ne 5, 3) := by decide +kernel
theorem d_CN_canFire_18 : decode b_CN_canFire 18 = .ok (.iconst 0, 1) := by decide +kernel
theorem d_CN_canFire_19 : decode b_CN_canFire 19 = .ok (.ireturn, 1) := by decide +kernel
theorem d_CN_canFire_20 : decode b_CN_canFire 20 = .ok (.aload_n 0, 1) := by decide +kernel
theorem d_CN_canFire_21 : decode b_CN_canFire 21 = .ok (.getfield 12, 3) := by decide +kernel
theorem d_CN_canFire_24 : decode b_CN_canFire 24 = .ok (.getfield 39, 3) := by decide +kernel
theorem d_CN_canFire_27 : decode b_CN_canFire 27 = .ok (.iload_n 1, 1) := by decide +kernel
theorem d_CN_canFire_28 : decode b_CN_canFire 28 = .ok (.aaload, 1) := by decide +kernel
theorem d_CN_canFire_29 : decode b_CN_canFire 29 = .ok (.astore_n 2, 1) := by decide +kernel
theorem d_CN_canFire_30 : decode b_CN_canFire 30 = .ok (.aload_n 0, 1) := by decide +kernel
theorem d_CN_canFire_31 : decode b_CN_canFire 31 = .ok (.getfield 75, 3) := by decide +kernel
theorem d_CN_canFire_34 : decode b_CN_canFire 34 = .ok (.aload_n 2, 1) := by decide +kernel
theorem d_CN_canFire_35 : decode b_CN_canFire 35 = .ok (.getfield 161, 3) := by decide +kernel
theorem d_CN_canFire_38 : decode b_CN_canFire 38 = .ok (.iand, 1) := by decide +kernel
theorem d_CN_canFire_39 : decode b_CN_canFire 39 = .ok (.istore_n 3, 1) := by decide +kernel
theorem d_CN_canFire_40 : decode b_CN_canFire 40 = .ok (.aload_n 0, 1) := by decide +kernel
theorem d_CN_canFire_41 : decode b_CN_canFire 41 = .ok (.getfield 75, 3) := by decide +kernel
theorem d_CN_canFire_44 : decode b_CN_canFire 44 = .ok (.aload_n 2, 1) := by decide +kernel
theorem d_CN_canFire_45 : decode b_CN_canFire 45 = .ok (.getfield 95, 3) := by decide +kernel
theorem d_CN_canFire_48 : decode b_CN_canFire 48 = .ok (.iand, 1) := by decide +kernel
theorem d_CN_canFire_49 : decode b_CN_canFire 49 = .ok (.ifCond .ne 7, 3) := by decide +kernel
theorem d_CN_canFire_52 : decode b_CN_canFire 52 = .ok (.iload_n 3, 1) := by decide +kernel
theorem d_CN_canFire_53 : decode b_CN_canFire 53 = .ok (.ifCond .ne 5, 3) := by decide +kernel
theorem d_CN_canFire_56 : decode b_CN_canFire 56 = .ok (.iconst 0, 1) := by decide +kernel
theorem d_CN_canFire_57 : decode b_CN_canFire 57 = .ok (.ireturn, 1) := by decide +kernel
theorem d_CN_canFire_58 : decode b_CN_canFire 58 = .ok (.aload_n 2, 1) := by decide +kernel
theorem d_CN_canFire_59 : decode b_CN_canFire 59 = .ok (.getfield 164, 3) := by decide +kernel
theorem d_CN_canFire_62 : decode b_CN_canFire 62 = .ok (.lookupswitch 42 #[(0, 26), (1, 40)], 26) := by decide +kernel
theorem d_CN_canFire_88 : decode b_CN_canFire 88 = .ok (.iload_n 3, 1) := by decide +kernel
theorem d_CN_canFire_89 : decode b_CN_canFire 89 = .ok (.aload_n 2, 1) := by decide +kernel
theorem d_CN_canFire_90 : decode b_CN_canFire 90 = .ok (.getfield 161, 3) := by decide +kernel
theorem d_CN_canFire_93 : decode b_CN_canFire 93 = .ok (.if_icmp .ne 7, 3) := by decide +kernel
theorem d_CN_canFire_96 : decode b_CN_canFire 96 = .ok (.iconst 1, 1) := by decide +kernel
theorem d_CN_canFire_97 : decode b_CN_canFire 97 = .ok (.goto 4, 3) := by decide +kernel
theorem d_CN_canFire_100 : decode b_CN_canFire 100 = .ok (.iconst 0, 1) := by decide +kernel
theorem d_CN_canFire_101 : decode b_CN_canFire 101 = .ok (.ireturn, 1) := by decide +kernel
theorem d_CN_canFire_102 : decode b_CN_canFire 102 = .ok (.iconst 1, 1) := by decide +kernel
theorem d_CN_canFire_103 : decode b_CN_canFire 103 = .ok (.ireturn, 1) := by decide +kernel
theorem d_CN_canFire_104 : decode b_CN_canFire 104 = .ok (.aload_n 0, 1) := by decide +kernel
theorem d_CN_canFire_105 : decode b_CN_canFire 105 = .ok (.iload_n 1, 1) := by decide +kernel
theorem d_CN_canFire_106 : decode b_CN_canFire 106 = .ok (.invokevirtual 167, 3) := by decide +kernel
theorem d_CN_canFire_109 : decode b_CN_canFire 109 = .ok (.ifCond .ne 7, 3) := by decide +kernel
theorem d_CN_canFire_112 : decode b_CN_canFire 112 = .ok (.iconst 1, 1) := by decide +kernel
theorem d_CN_canFire_113 : decode b_CN_canFire 113 = .ok (.goto 4, 3) := by decide +kernel
theorem d_CN_canFire_116 : decode b_CN_canFire 116 = .ok (.iconst 0, 1) := by decide +kernel
theorem d_CN_canFire_117 : decode b_CN_canFire 117 = .ok (.ireturn, 1) := by decide +kernel
theorem d_CN_enabled_0 : decode b_CN_enabled 0 = .ok (.iconst 0, 1) := by decide +kernel
theorem d_CN_enabled_1 : decode b_CN_enabled 1 = .ok (.istore_n 1, 1) := by decide +kernel
theorem d_CN_enabled_2 : decode b_CN_enabled 2 = .ok (.iconst 0, 1) := by decide +kernel
theorem d_CN_enabled_3 : decode b_CN_enabled 3 = .ok (.istore_n 2, 1) := by decide +kernel
theorem d_CN_enabled_4 : decode b_CN_enabled 4 = .ok (.iload_n 2, 1) := by decide +kernel
theorem d_CN_enabled_5 : decode b_CN_enabled 5 = .ok (.bipush 6, 2) := by decide +kernel
theorem d_CN_enabled_7 : decode b_CN_enabled 7 = .ok (.if_icmp .ge 23, 3) := by decide +kernel
theorem d_CN_enabled_10 : decode b_CN_enabled 10 = .ok (.aload_n 0, 1) := by decide +kernel
theorem d_CN_enabled_11 : decode b_CN_enabled 11 = .ok (.iload_n 2, 1) := by decide +kernel
theorem d_CN_enabled_12 : decode b_CN_enabled 12 = .ok (.invokevirtual 82, 3) := by decide +kernel
theorem d_CN_enabled_15 : decode b_CN_enabled 15 = .ok (.ifCond .eq 9, 3) := by decide +kernel
theorem d_CN_enabled_18 : decode b_CN_enabled 18 = .ok (.iload_n 1, 1) := by decide +kernel
theorem d_CN_enabled_19 : decode b_CN_enabled 19 = .ok (.iconst 1, 1) := by decide +kernel
theorem d_CN_enabled_20 : decode b_CN_enabled 20 = .ok (.iload_n 2, 1) := by decide +kernel
theorem d_CN_enabled_21 : decode b_CN_enabled 21 = .ok (.ishl, 1) := by decide +kernel
theorem d_CN_enabled_22 : decode b_CN_enabled 22 = .ok (.ior, 1) := by decide +kernel
theorem d_CN_enabled_23 : decode b_CN_enabled 23 = .ok (.istore_n 1, 1) := by decide +kernel
theorem d_CN_enabled_24 : decode b_CN_enabled 24 = .ok (.iinc 2 1, 3) := by decide +kernel
theorem d_CN_enabled_27 : decode b_CN_enabled 27 = .ok (.goto (-23), 3) := by decide +kernel
theorem d_CN_enabled_30 : decode b_CN_enabled 30 = .ok (.iload_n 1, 1) := by decide +kernel
theorem d_CN_enabled_31 : decode b_CN_enabled 31 = .ok (.ireturn, 1) := by decide +kernel
theorem d_Work_hasRoomFor_0 : decode b_Work_hasRoomFor 0 = .ok (.aload_n 0, 1) := by decide +kernel
theorem d_Work_hasRoomFor_1 : decode b_Work_hasRoomFor 1 = .ok (.getfield 21, 3) := by decide +kernel
theorem d_Work_hasRoomFor_4 : decode b_Work_hasRoomFor 4 = .ok (.iload_n 1, 1) := by decide +kernel
theorem d_Work_hasRoomFor_5 : decode b_Work_hasRoomFor 5 = .ok (.iadd, 1) := by decide +kernel
theorem d_Work_hasRoomFor_6 : decode b_Work_hasRoomFor 6 = .ok (.bipush 60, 2) := by decide +kernel
theorem d_Work_hasRoomFor_8 : decode b_Work_hasRoomFor 8 = .ok (.if_icmp .gt 7, 3) := by decide +kernel
theorem d_Work_hasRoomFor_11 : decode b_Work_hasRoomFor 11 = .ok (.iconst 1, 1) := by decide +kernel
theorem d_Work_hasRoomFor_12 : decode b_Work_hasRoomFor 12 = .ok (.goto 4, 3) := by decide +kernel
theorem d_Work_hasRoomFor_15 : decode b_Work_hasRoomFor 15 = .ok (.iconst 0, 1) := by decide +kernel
theorem d_Work_hasRoomFor_16 : decode b_Work_hasRoomFor 16 = .ok (.ireturn, 1) := by decide +kernel
theorem d_Task_inputsUsed_0 : decode b_Task_inputsUsed 0 = .ok (.iload_n 1, 1) := by decide +kernel
theorem d_Task_inputsUsed_1 : decode b_Task_inputsUsed 1 = .ok (.aload_n 0, 1) := by decide +kernel
theorem d_Task_inputsUsed_2 : decode b_Task_inputsUsed 2 = .ok (.getfield 41, 3) := by decide +kernel
theorem d_Task_inputsUsed_5 : decode b_Task_inputsUsed 5 = .ok (.iand, 1) := by decide +kernel
theorem d_Task_inputsUsed_6 : decode b_Task_inputsUsed 6 = .ok (.istore_n 2, 1) := by decide +kernel
theorem d_Task_inputsUsed_7 : decode b_Task_inputsUsed 7 = .ok (.aload_n 0, 1) := by decide +kernel
theorem d_Task_inputsUsed_8 : decode b_Task_inputsUsed 8 = .ok (.getfield 35, 3) := by decide +kernel
theorem d_Task_inputsUsed_11 : decode b_Task_inputsUsed 11 = .ok (.iconst 1, 1) := by decide +kernel
theorem d_Task_inputsUsed_12 : decode b_Task_inputsUsed 12 = .ok (.if_icmp .ne 10, 3) := by decide +kernel
theorem d_Task_inputsUsed_15 : decode b_Task_inputsUsed 15 = .ok (.iload_n 2, 1) := by decide +kernel
theorem d_Task_inputsUsed_16 : decode b_Task_inputsUsed 16 = .ok (.iload_n 2, 1) := by decide +kernel
theorem d_Task_inputsUsed_17 : decode b_Task_inputsUsed 17 = .ok (.ineg, 1) := by decide +kernel
theorem d_Task_inputsUsed_18 : decode b_Task_inputsUsed 18 = .ok (.iand, 1) := by decide +kernel
theorem d_Task_inputsUsed_19 : decode b_Task_inputsUsed 19 = .ok (.goto 4, 3) := by decide +kernel
theorem d_Task_inputsUsed_22 : decode b_Task_inputsUsed 22 = .ok (.iload_n 2, 1) := by decide +kernel
theorem d_Task_inputsUsed_23 : decode b_Task_inputsUsed 23 = .ok (.ireturn, 1) := by decide +kernel
theorem d_Work_offer_0 : decode b_Work_offer 0 = .ok (.aload_n 0, 1) := by decide +kernel
theorem d_Work_offer_1 : decode b_Work_offer 1 = .ok (.getfield 21, 3) := by decide +kernel
theorem d_Work_offer_4 : decode b_Work_offer 4 = .ok (.iconst 1, 1) := by decide +kernel
theorem d_Work_offer_5 : decode b_Work_offer 5 = .ok (.iadd, 1) := by decide +kernel
theorem d_Work_offer_6 : decode b_Work_offer 6 = .ok (.istore 4, 2) := by decide +kernel
theorem d_Work_offer_8 : decode b_Work_offer 8 = .ok (.iload 4, 2) := by decide +kernel
theorem d_Work_offer_10 : decode b_Work_offer 10 = .ok (.istore 5, 2) := by decide +kernel
theorem d_Work_offer_12 : decode b_Work_offer 12 = .ok (.iload 5, 2) := by decide +kernel
theorem d_Work_offer_14 : decode b_Work_offer 14 = .ok (.iload 4, 2) := by decide +kernel
theorem d_Work_offer_16 : decode b_Work_offer 16 = .ok (.iload_n 2, 1) := by decide +kernel
theorem d_Work_offer_17 : decode b_Work_offer 17 = .ok (.iadd, 1) := by decide +kernel
theorem d_Work_offer_18 : decode b_Work_offer 18 = .ok (.if_icmp .ge 33, 3) := by decide +kernel
theorem d_Work_offer_21 : decode b_Work_offer 21 = .ok (.aload_n 0, 1) := by decide +kernel
theorem d_Work_offer_22 : decode b_Work_offer 22 = .ok (.getfield 9, 3) := by decide +kernel
theorem d_Work_offer_25 : decode b_Work_offer 25 = .ok (.iload 5, 2) := by decide +kernel
theorem d_Work_offer_27 : decode b_Work_offer 27 = .ok (.iload_n 1, 1) := by decide +kernel
theorem d_Work_offer_28 : decode b_Work_offer 28 = .ok (.iastore, 1) := by decide +kernel
theorem d_Work_offer_29 : decode b_Work_offer 29 = .ok (.aload_n 0, 1) := by decide +kernel
theorem d_Work_offer_30 : decode b_Work_offer 30 = .ok (.getfield 15, 3) := by decide +kernel
theorem d_Work_offer_33 : decode b_Work_offer 33 = .ok (.iload 5, 2) := by decide +kernel
theorem d_Work_offer_35 : decode b_Work_offer 35 = .ok (.iconst 1, 1) := by decide +kernel
theorem d_Work_offer_36 : decode b_Work_offer 36 = .ok (.iastore, 1) := by decide +kernel
theorem d_Work_offer_37 : decode b_Work_offer 37 = .ok (.aload_n 0, 1) := by decide +kernel
theorem d_Work_offer_38 : decode b_Work_offer 38 = .ok (.getfield 18, 3) := by decide +kernel
theorem d_Work_offer_41 : decode b_Work_offer 41 = .ok (.iload 5, 2) := by decide +kernel
theorem d_Work_offer_43 : decode b_Work_offer 43 = .ok (.iload_n 3, 1) := by decide +kernel
theorem d_Work_offer_44 : decode b_Work_offer 44 = .ok (.iastore, 1) := by decide +kernel
theorem d_Work_offer_45 : decode b_Work_offer 45 = .ok (.iinc 5 1, 3) := by decide +kernel
theorem d_Work_offer_48 : decode b_Work_offer 48 = .ok (.goto (-36), 3) := by decide +kernel
theorem d_Work_offer_51 : decode b_Work_offer 51 = .ok (.aload_n 0, 1) := by decide +kernel
theorem d_Work_offer_52 : decode b_Work_offer 52 = .ok (.dup, 1) := by decide +kernel
theorem d_Work_offer_53 : decode b_Work_offer 53 = .ok (.getfield 21, 3) := by decide +kernel
theorem d_Work_offer_56 : decode b_Work_offer 56 = .ok (.iload_n 2, 1) := by decide +kernel
theorem d_Work_offer_57 : decode b_Work_offer 57 = .ok (.iadd, 1) := by decide +kernel
theorem d_Work_offer_58 : decode b_Work_offer 58 = .ok (.putfield 21, 3) := by decide +kernel
theorem d_Work_offer_61 : decode b_Work_offer 61 = .ok (.iload 4, 2) := by decide +kernel
theorem d_Work_offer_63 : decode b_Work_offer 63 = .ok (.ireturn, 1) := by decide +kernel
theorem d_CN_fire_0 : decode b_CN_fire 0 = .ok (.aload_n 0, 1) := by decide +kernel
theorem d_CN_fire_1 : decode b_CN_fire 1 = .ok (.getfield 12, 3) := by decide +kernel
theorem d_CN_fire_4 : decode b_CN_fire 4 = .ok (.iload_n 1, 1) := by decide +kernel
theorem d_CN_fire_5 : decode b_CN_fire 5 = .ok (.invokevirtual 49, 3) := by decide +kernel
theorem d_CN_fire_8 : decode b_CN_fire 8 = .ok (.ifCond .ne 5, 3) := by decide +kernel
theorem d_CN_fire_11 : decode b_CN_fire 11 = .ok (.iconst (-1), 1) := by decide +kernel
theorem d_CN_fire_12 : decode b_CN_fire 12 = .ok (.ireturn, 1) := by decide +kernel
theorem d_CN_fire_13 : decode b_CN_fire 13 = .ok (.aload_n 0, 1) := by decide +kernel
theorem d_CN_fire_14 : decode b_CN_fire 14 = .ok (.iload_n 1, 1) := by decide +kernel
theorem d_CN_fire_15 : decode b_CN_fire 15 = .ok (.invokevirtual 82, 3) := by decide +kernel
theorem d_CN_fire_18 : decode b_CN_fire 18 = .ok (.ifCond .ne 6, 3) := by decide +kernel
theorem d_CN_fire_21 : decode b_CN_fire 21 = .ok (.bipush (-2), 2) := by decide +kernel
theorem d_CN_fire_23 : decode b_CN_fire 23 = .ok (.ireturn, 1) := by decide +kernel
theorem d_CN_fire_24 : decode b_CN_fire 24 = .ok (.aload_n 0, 1) := by decide +kernel
theorem d_CN_fire_25 : decode b_CN_fire 25 = .ok (.getfield 12, 3) := by decide +kernel
theorem d_CN_fire_28 : decode b_CN_fire 28 = .ok (.getfield 39, 3) := by decide +kernel
theorem d_CN_fire_31 : decode b_CN_fire 31 = .ok (.iload_n 1, 1) := by decide +kernel
theorem d_CN_fire_32 : decode b_CN_fire 32 = .ok (.aaload, 1) := by decide +kernel
theorem d_CN_fire_33 : decode b_CN_fire 33 = .ok (.astore_n 2, 1) := by decide +kernel
theorem d_CN_fire_34 : decode b_CN_fire 34 = .ok (.aload_n 0, 1) := by decide +kernel
theorem d_CN_fire_35 : decode b_CN_fire 35 = .ok (.getfield 19, 3) := by decide +kernel
theorem d_CN_fire_38 : decode b_CN_fire 38 = .ok (.aload_n 2, 1) := by decide +kernel
theorem d_CN_fire_39 : decode b_CN_fire 39 = .ok (.getfield 85, 3) := by decide +kernel
theorem d_CN_fire_42 : decode b_CN_fire 42 = .ok (.invokevirtual 88, 3) := by decide +kernel
theorem d_CN_fire_45 : decode b_CN_fire 45 = .ok (.ifCond .ne 6, 3) := by decide +kernel
theorem d_CN_fire_48 : decode b_CN_fire 48 = .ok (.bipush (-3), 2) := by decide +kernel
theorem d_CN_fire_50 : decode b_CN_fire 50 = .ok (.ireturn, 1) := by decide +kernel
theorem d_CN_fire_51 : decode b_CN_fire 51 = .ok (.aload_n 0, 1) := by decide +kernel
theorem d_CN_fire_52 : decode b_CN_fire 52 = .ok (.aload_n 0, 1) := by decide +kernel
theorem d_CN_fire_53 : decode b_CN_fire 53 = .ok (.getfield 75, 3) := by decide +kernel
theorem d_CN_fire_56 : decode b_CN_fire 56 = .ok (.aload_n 2, 1) := by decide +kernel
theorem d_CN_fire_57 : decode b_CN_fire 57 = .ok (.aload_n 0, 1) := by decide +kernel
theorem d_CN_fire_58 : decode b_CN_fire 58 = .ok (.getfield 75, 3) := by decide +kernel
theorem d_CN_fire_61 : decode b_CN_fire 61 = .ok (.invokevirtual 91, 3) := by decide +kernel
theorem d_CN_fire_64 : decode b_CN_fire 64 = .ok (.iconst (-1), 1) := by decide +kernel
theorem d_CN_fire_65 : decode b_CN_fire 65 = .ok (.ixor, 1) := by decide +kernel
theorem d_CN_fire_66 : decode b_CN_fire 66 = .ok (.iand, 1) := by decide +kernel
theorem d_CN_fire_67 : decode b_CN_fire 67 = .ok (.aload_n 2, 1) := by decide +kernel
theorem d_CN_fire_68 : decode b_CN_fire 68 = .ok (.getfield 95, 3) := by decide +kernel
theorem d_CN_fire_71 : decode b_CN_fire 71 = .ok (.ior, 1) := by decide +kernel
theorem d_CN_fire_72 : decode b_CN_fire 72 = .ok (.putfield 75, 3) := by decide +kernel
theorem d_CN_fire_75 : decode b_CN_fire 75 = .ok (.aload_n 2, 1) := by decide +kernel
theorem d_CN_fire_76 : decode b_CN_fire 76 = .ok (.aload_n 0, 1) := by decide +kernel
theorem d_CN_fire_77 : decode b_CN_fire 77 = .ok (.getfield 19, 3) := by decide +kernel
theorem d_CN_fire_80 : decode b_CN_fire 80 = .ok (.iload_n 1, 1) := by decide +kernel
theorem d_CN_fire_81 : decode b_CN_fire 81 = .ok (.aload_n 2, 1) := by decide +kernel
theorem d_CN_fire_82 : decode b_CN_fire 82 = .ok (.getfield 85, 3) := by decide +kernel
theorem d_CN_fire_85 : decode b_CN_fire 85 = .ok (.aload_n 0, 1) := by decide +kernel
theorem d_CN_fire_86 : decode b_CN_fire 86 = .ok (.getfield 98, 3) := by decide +kernel
theorem d_CN_fire_89 : decode b_CN_fire 89 = .ok (.invokevirtual 101, 3) := by decide +kernel
theorem d_CN_fire_92 : decode b_CN_fire 92 = .ok (.putfield 105, 3) := by decide +kernel
theorem d_CN_fire_95 : decode b_CN_fire 95 = .ok (.aload_n 2, 1) := by decide +kernel
theorem d_CN_fire_96 : decode b_CN_fire 96 = .ok (.getfield 105, 3) := by decide +kernel
theorem d_CN_fire_99 : decode b_CN_fire 99 = .ok (.ireturn, 1) := by decide +kernel
theorem d_Work_has_0 : decode b_Work_has 0 = .ok (.iload_n 1, 1) := by decide +kernel
theorem d_Work_has_1 : decode b_Work_has 1 = .ok (.iconst 1, 1) := by decide +kernel
theorem d_Work_has_2 : decode b_Work_has 2 = .ok (.if_icmp .lt 15, 3) := by decide +kernel
theorem d_Work_has_5 : decode b_Work_has 5 = .ok (.iload_n 1, 1) := by decide +kernel
theorem d_Work_has_6 : decode b_Work_has 6 = .ok (.aload_n 0, 1) := by decide +kernel
theorem d_Work_has_7 : decode b_Work_has 7 = .ok (.getfield 21, 3) := by decide +kernel
theorem d_Work_has_10 : decode b_Work_has 10 = .ok (.if_icmp .gt 7, 3) := by decide +kernel
theorem d_Work_has_13 : decode b_Work_has 13 = .ok (.iconst 1, 1) := by decide +kernel
theorem d_Work_has_14 : decode b_Work_has 14 = .ok (.goto 4, 3) := by decide +kernel
theorem d_Work_has_17 : decode b_Work_has 17 = .ok (.iconst 0, 1) := by decide +kernel
theorem d_Work_has_18 : decode b_Work_has 18 = .ok (.ireturn, 1) := by decide +kernel
theorem d_CN_start_0 : decode b_CN_start 0 = .ok (.aload_n 0, 1) := by decide +kernel
theorem d_CN_start_1 : decode b_CN_start 1 = .ok (.getfield 19, 3) := by decide +kernel
theorem d_CN_start_4 : decode b_CN_start 4 = .ok (.iload_n 1, 1) := by decide +kernel
theorem d_CN_start_5 : decode b_CN_start 5 = .ok (.invokevirtual 108, 3) := by decide +kernel
theorem d_CN_start_8 : decode b_CN_start 8 = .ok (.ifCond .ne 5, 3) := by decide +kernel
theorem d_CN_start_11 : decode b_CN_start 11 = .ok (.iconst (-1), 1) := by decide +kernel
theorem d_CN_start_12 : decode b_CN_start 12 = .ok (.ireturn, 1) := by decide +kernel
theorem d_CN_start_13 : decode b_CN_start 13 = .ok (.aload_n 0, 1) := by decide +kernel
theorem d_CN_start_14 : decode b_CN_start 14 = .ok (.getfield 19, 3) := by decide +kernel
theorem d_CN_start_17 : decode b_CN_start 17 = .ok (.getfield 111, 3) := by decide +kernel
theorem d_CN_start_20 : decode b_CN_start 20 = .ok (.iload_n 1, 1) := by decide +kernel
theorem d_CN_start_21 : decode b_CN_start 21 = .ok (.iaload, 1) := by decide +kernel
theorem d_CN_start_22 : decode b_CN_start 22 = .ok (.iconst 1, 1) := by decide +kernel
theorem d_CN_start_23 : decode b_CN_start 23 = .ok (.if_icmp .eq 6, 3) := by decide +kernel
theorem d_CN_start_26 : decode b_CN_start 26 = .ok (.bipush (-2), 2) := by decide +kernel
theorem d_CN_start_28 : decode b_CN_start 28 = .ok (.ireturn, 1) := by decide +kernel
theorem d_CN_start_29 : decode b_CN_start 29 = .ok (.aload_n 0, 1) := by decide +kernel
theorem d_CN_start_30 : decode b_CN_start 30 = .ok (.getfield 19, 3) := by decide +kernel
theorem d_CN_start_33 : decode b_CN_start 33 = .ok (.getfield 111, 3) := by decide +kernel
theorem d_CN_start_36 : decode b_CN_start 36 = .ok (.iload_n 1, 1) := by decide +kernel
theorem d_CN_start_37 : decode b_CN_start 37 = .ok (.iconst 2, 1) := by decide +kernel
theorem d_CN_start_38 : decode b_CN_start 38 = .ok (.iastore, 1) := by decide +kernel
theorem d_CN_start_39 : decode b_CN_start 39 = .ok (.iconst 0, 1) := by decide +kernel
theorem d_CN_start_40 : decode b_CN_start 40 = .ok (.ireturn, 1) := by decide +kernel
theorem d_Work_countCompleted_0 : decode b_Work_countCompleted 0 = .ok (.iconst 0, 1) := by decide +kernel
theorem d_Work_countCompleted_1 : decode b_Work_countCompleted 1 = .ok (.istore_n 3, 1) := by decide +kernel
theorem d_Work_countCompleted_2 : decode b_Work_countCompleted 2 = .ok (.iload_n 1, 1) := by decide +kernel
theorem d_Work_countCompleted_3 : decode b_Work_countCompleted 3 = .ok (.istore 4, 2) := by decide +kernel
theorem d_Work_countCompleted_5 : decode b_Work_countCompleted 5 = .ok (.iload 4, 2) := by decide +kernel
theorem d_Work_countCompleted_7 : decode b_Work_countCompleted 7 = .ok (.iload_n 1, 1) := by decide +kernel
theorem d_Work_countCompleted_8 : decode b_Work_countCompleted 8 = .ok (.iload_n 2, 1) := by decide +kernel
theorem d_Work_countCompleted_9 : decode b_Work_countCompleted 9 = .ok (.iadd, 1) := by decide +kernel
theorem d_Work_countCompleted_10 : decode b_Work_countCompleted 10 = .ok (.if_icmp .ge 23, 3) := by decide +kernel
theorem d_Work_countCompleted_13 : decode b_Work_countCompleted 13 = .ok (.aload_n 0, 1) := by decide +kernel
theorem d_Work_countCompleted_14 : decode b_Work_countCompleted 14 = .ok (.getfield 15, 3) := by decide +kernel
theorem d_Work_countCompleted_17 : decode b_Work_countCompleted 17 = .ok (.iload 4, 2) := by decide +kernel
theorem d_Work_countCompleted_19 : decode b_Work_countCompleted 19 = .ok (.iaload, 1) := by decide +kernel
theorem d_Work_countCompleted_20 : decode b_Work_countCompleted 20 = .ok (.iconst 3, 1) := by decide +kernel
theorem d_Work_countCompleted_21 : decode b_Work_countCompleted 21 = .ok (.if_icmp .ne 6, 3) := by decide +kernel
theorem d_Work_countCompleted_24 : decode b_Work_countCompleted 24 = .ok (.iinc 3 1, 3) := by decide +kernel
theorem d_Work_countCompleted_27 : decode b_Work_countCompleted 27 = .ok (.iinc 4 1, 3) := by decide +kernel
theorem d_Work_countCompleted_30 : decode b_Work_countCompleted 30 = .ok (.goto (-25), 3) := by decide +kernel
theorem d_Work_countCompleted_33 : decode b_Work_countCompleted 33 = .ok (.iload_n 3, 1) := by decide +kernel
theorem d_Work_countCompleted_34 : decode b_Work_countCompleted 34 = .ok (.ireturn, 1) := by decide +kernel
theorem d_Task_guardHolds_0 : decode b_Task_guardHolds 0 = .ok (.aload_n 2, 1) := by decide +kernel
theorem d_Task_guardHolds_1 : decode b_Task_guardHolds 1 = .ok (.aload_n 0, 1) := by decide +kernel
theorem d_Task_guardHolds_2 : decode b_Task_guardHolds 2 = .ok (.getfield 18, 3) := by decide +kernel
theorem d_Task_guardHolds_5 : decode b_Task_guardHolds 5 = .ok (.iload_n 1, 1) := by decide +kernel
theorem d_Task_guardHolds_6 : decode b_Task_guardHolds 6 = .ok (.iaload, 1) := by decide +kernel
theorem d_Task_guardHolds_7 : decode b_Task_guardHolds 7 = .ok (.iaload, 1) := by decide +kernel
theorem d_Task_guardHolds_8 : decode b_Task_guardHolds 8 = .ok (.istore_n 3, 1) := by decide +kernel
theorem d_Task_guardHolds_9 : decode b_Task_guardHolds 9 = .ok (.iload_n 3, 1) := by decide +kernel
theorem d_Task_guardHolds_10 : decode b_Task_guardHolds 10 = .ok (.aload_n 0, 1) := by decide +kernel
theorem d_Task_guardHolds_11 : decode b_Task_guardHolds 11 = .ok (.getfield 21, 3) := by decide +kernel
theorem d_Task_guardHolds_14 : decode b_Task_guardHolds 14 = .ok (.iload_n 1, 1) := by decide +kernel
theorem d_Task_guardHolds_15 : decode b_Task_guardHolds 15 = .ok (.iaload, 1) := by decide +kernel
theorem d_Task_guardHolds_16 : decode b_Task_guardHolds 16 = .ok (.if_icmp .lt 17, 3) := by decide +kernel
theorem d_Task_guardHolds_19 : decode b_Task_guardHolds 19 = .ok (.iload_n 3, 1) := by decide +kernel
theorem d_Task_guardHolds_20 : decode b_Task_guardHolds 20 = .ok (.aload_n 0, 1) := by decide +kernel
theorem d_Task_guardHolds_21 : decode b_Task_guardHolds 21 = .ok (.getfield 24, 3) := by decide +kernel
theorem d_Task_guardHolds_24 : decode b_Task_guardHolds 24 = .ok (.iload_n 1, 1) := by decide +kernel
theorem d_Task_guardHolds_25 : decode b_Task_guardHolds 25 = .ok (.iaload, 1) := by decide +kernel
theorem d_Task_guardHolds_26 : decode b_Task_guardHolds 26 = .ok (.if_icmp .gt 7, 3) := by decide +kernel
theorem d_Task_guardHolds_29 : decode b_Task_guardHolds 29 = .ok (.iconst 1, 1) := by decide +kernel
theorem d_Task_guardHolds_30 : decode b_Task_guardHolds 30 = .ok (.goto 4, 3) := by decide +kernel
theorem d_Task_guardHolds_33 : decode b_Task_guardHolds 33 = .ok (.iconst 0, 1) := by decide +kernel
theorem d_Task_guardHolds_34 : decode b_Task_guardHolds 34 = .ok (.ireturn, 1) := by decide +kernel
