theorem d_Md_isEnabled_0 : decode b_Md_isEnabled 0 = .ok (.aload_n 0, 1) := by decide +kernel
theorem d_Md_isEnabled_1 : decode b_Md_isEnabled 1 = .ok (.getfield 89, 3) := by decide +kernel
theorem d_Md_isEnabled_4 : decode b_Md_isEnabled 4 = .ok (.ifCond .eq 20, 3) := by decide +kernel
theorem d_Md_isEnabled_7 : decode b_Md_isEnabled 7 = .ok (.aload_n 0, 1) := by decide +kernel
theorem d_Md_isEnabled_8 : decode b_Md_isEnabled 8 = .ok (.getfield 7, 3) := by decide +kernel
theorem d_Md_isEnabled_11 : decode b_Md_isEnabled 11 = .ok (.iload_n 1, 1) := by decide +kernel
theorem d_Md_isEnabled_12 : decode b_Md_isEnabled 12 = .ok (.baload, 1) := by decide +kernel
theorem d_Md_isEnabled_13 : decode b_Md_isEnabled 13 = .ok (.ifCond .eq 11, 3) := by decide +kernel
theorem d_Md_isEnabled_16 : decode b_Md_isEnabled 16 = .ok (.aload_n 0, 1) := by decide +kernel
theorem d_Md_isEnabled_17 : decode b_Md_isEnabled 17 = .ok (.iload_n 1, 1) := by decide +kernel
theorem d_Md_isEnabled_18 : decode b_Md_isEnabled 18 = .ok (.invokevirtual 131, 3) := by decide +kernel
theorem d_Md_isEnabled_21 : decode b_Md_isEnabled 21 = .ok (.ifCond .eq 5, 3) := by decide +kernel
theorem d_Md_isEnabled_24 : decode b_Md_isEnabled 24 = .ok (.iconst 0, 1) := by decide +kernel
theorem d_Md_isEnabled_25 : decode b_Md_isEnabled 25 = .ok (.ireturn, 1) := by decide +kernel
theorem d_Md_isEnabled_26 : decode b_Md_isEnabled 26 = .ok (.aload_n 0, 1) := by decide +kernel
theorem d_Md_isEnabled_27 : decode b_Md_isEnabled 27 = .ok (.getfield 20, 3) := by decide +kernel
theorem d_Md_isEnabled_30 : decode b_Md_isEnabled 30 = .ok (.iload_n 1, 1) := by decide +kernel
theorem d_Md_isEnabled_31 : decode b_Md_isEnabled 31 = .ok (.iaload, 1) := by decide +kernel
theorem d_Md_isEnabled_32 : decode b_Md_isEnabled 32 = .ok (.aload_n 0, 1) := by decide +kernel
theorem d_Md_isEnabled_33 : decode b_Md_isEnabled 33 = .ok (.getfield 85, 3) := by decide +kernel
theorem d_Md_isEnabled_36 : decode b_Md_isEnabled 36 = .ok (.iand, 1) := by decide +kernel
theorem d_Md_isEnabled_37 : decode b_Md_isEnabled 37 = .ok (.istore_n 2, 1) := by decide +kernel
theorem d_Md_isEnabled_38 : decode b_Md_isEnabled 38 = .ok (.aload_n 0, 1) := by decide +kernel
theorem d_Md_isEnabled_39 : decode b_Md_isEnabled 39 = .ok (.getfield 13, 3) := by decide +kernel
theorem d_Md_isEnabled_42 : decode b_Md_isEnabled 42 = .ok (.iload_n 1, 1) := by decide +kernel
theorem d_Md_isEnabled_43 : decode b_Md_isEnabled 43 = .ok (.iaload, 1) := by decide +kernel
theorem d_Md_isEnabled_44 : decode b_Md_isEnabled 44 = .ok (.ifCond .ne 19, 3) := by decide +kernel
theorem d_Md_isEnabled_47 : decode b_Md_isEnabled 47 = .ok (.iload_n 2, 1) := by decide +kernel
theorem d_Md_isEnabled_48 : decode b_Md_isEnabled 48 = .ok (.aload_n 0, 1) := by decide +kernel
theorem d_Md_isEnabled_49 : decode b_Md_isEnabled 49 = .ok (.getfield 20, 3) := by decide +kernel
theorem d_Md_isEnabled_52 : decode b_Md_isEnabled 52 = .ok (.iload_n 1, 1) := by decide +kernel
theorem d_Md_isEnabled_53 : decode b_Md_isEnabled 53 = .ok (.iaload, 1) := by decide +kernel
theorem d_Md_isEnabled_54 : decode b_Md_isEnabled 54 = .ok (.if_icmp .ne 7, 3) := by decide +kernel
theorem d_Md_isEnabled_57 : decode b_Md_isEnabled 57 = .ok (.iconst 1, 1) := by decide +kernel
theorem d_Md_isEnabled_58 : decode b_Md_isEnabled 58 = .ok (.goto 4, 3) := by decide +kernel
theorem d_Md_isEnabled_61 : decode b_Md_isEnabled 61 = .ok (.iconst 0, 1) := by decide +kernel
theorem d_Md_isEnabled_62 : decode b_Md_isEnabled 62 = .ok (.ireturn, 1) := by decide +kernel
theorem d_Md_isEnabled_63 : decode b_Md_isEnabled 63 = .ok (.iload_n 2, 1) := by decide +kernel
theorem d_Md_isEnabled_64 : decode b_Md_isEnabled 64 = .ok (.ifCond .eq 25, 3) := by decide +kernel
theorem d_Md_isEnabled_67 : decode b_Md_isEnabled 67 = .ok (.aload_n 0, 1) := by decide +kernel
theorem d_Md_isEnabled_68 : decode b_Md_isEnabled 68 = .ok (.getfield 13, 3) := by decide +kernel
theorem d_Md_isEnabled_71 : decode b_Md_isEnabled 71 = .ok (.iload_n 1, 1) := by decide +kernel
theorem d_Md_isEnabled_72 : decode b_Md_isEnabled 72 = .ok (.iaload, 1) := by decide +kernel
theorem d_Md_isEnabled_73 : decode b_Md_isEnabled 73 = .ok (.iconst 1, 1) := by decide +kernel
theorem d_Md_isEnabled_74 : decode b_Md_isEnabled 74 = .ok (.if_icmp .eq 11, 3) := by decide +kernel
theorem d_Md_isEnabled_77 : decode b_Md_isEnabled 77 = .ok (.aload_n 0, 1) := by decide +kernel
theorem d_Md_isEnabled_78 : decode b_Md_isEnabled 78 = .ok (.iload_n 1, 1) := by decide +kernel
theorem d_Md_isEnabled_79 : decode b_Md_isEnabled 79 = .ok (.invokevirtual 137, 3) := by decide +kernel
theorem d_Md_isEnabled_82 : decode b_Md_isEnabled 82 = .ok (.ifCond .eq 7, 3) := by decide +kernel
theorem d_Md_isEnabled_85 : decode b_Md_isEnabled 85 = .ok (.iconst 1, 1) := by decide +kernel
theorem d_Md_isEnabled_86 : decode b_Md_isEnabled 86 = .ok (.goto 4, 3) := by decide +kernel
theorem d_Md_isEnabled_89 : decode b_Md_isEnabled 89 = .ok (.iconst 0, 1) := by decide +kernel
theorem d_Md_isEnabled_90 : decode b_Md_isEnabled 90 = .ok (.ireturn, 1) := by decide +kernel
theorem d_Md_enabled_0 : decode b_Md_enabled 0 = .ok (.iconst 0, 1) := by decide +kernel
theorem d_Md_enabled_1 : decode b_Md_enabled 1 = .ok (.istore_n 1, 1) := by decide +kernel
theorem d_Md_enabled_2 : decode b_Md_enabled 2 = .ok (.iconst 0, 1) := by decide +kernel
theorem d_Md_enabled_3 : decode b_Md_enabled 3 = .ok (.istore_n 2, 1) := by decide +kernel
theorem d_Md_enabled_4 : decode b_Md_enabled 4 = .ok (.iload_n 2, 1) := by decide +kernel
theorem d_Md_enabled_5 : decode b_Md_enabled 5 = .ok (.bipush 6, 2) := by decide +kernel
theorem d_Md_enabled_7 : decode b_Md_enabled 7 = .ok (.if_icmp .ge 27, 3) := by decide +kernel
theorem d_Md_enabled_10 : decode b_Md_enabled 10 = .ok (.iload_n 1, 1) := by decide +kernel
theorem d_Md_enabled_11 : decode b_Md_enabled 11 = .ok (.aload_n 0, 1) := by decide +kernel
theorem d_Md_enabled_12 : decode b_Md_enabled 12 = .ok (.iload_n 2, 1) := by decide +kernel
theorem d_Md_enabled_13 : decode b_Md_enabled 13 = .ok (.invokevirtual 140, 3) := by decide +kernel
theorem d_Md_enabled_16 : decode b_Md_enabled 16 = .ok (.ifCond .eq 9, 3) := by decide +kernel
theorem d_Md_enabled_19 : decode b_Md_enabled 19 = .ok (.iconst 1, 1) := by decide +kernel
theorem d_Md_enabled_20 : decode b_Md_enabled 20 = .ok (.iload_n 2, 1) := by decide +kernel
theorem d_Md_enabled_21 : decode b_Md_enabled 21 = .ok (.ishl, 1) := by decide +kernel
theorem d_Md_enabled_22 : decode b_Md_enabled 22 = .ok (.goto 4, 3) := by decide +kernel
theorem d_Md_enabled_25 : decode b_Md_enabled 25 = .ok (.iconst 0, 1) := by decide +kernel
theorem d_Md_enabled_26 : decode b_Md_enabled 26 = .ok (.ior, 1) := by decide +kernel
theorem d_Md_enabled_27 : decode b_Md_enabled 27 = .ok (.istore_n 1, 1) := by decide +kernel
theorem d_Md_enabled_28 : decode b_Md_enabled 28 = .ok (.iinc 2 1, 3) := by decide +kernel
theorem d_Md_enabled_31 : decode b_Md_enabled 31 = .ok (.goto (-27), 3) := by decide +kernel
theorem d_Md_enabled_34 : decode b_Md_enabled 34 = .ok (.iload_n 1, 1) := by decide +kernel
theorem d_Md_enabled_35 : decode b_Md_enabled 35 = .ok (.ireturn, 1) := by decide +kernel
theorem d_Md_fire_0 : decode b_Md_fire 0 = .ok (.aload_n 0, 1) := by decide +kernel
theorem d_Md_fire_1 : decode b_Md_fire 1 = .ok (.iload_n 1, 1) := by decide +kernel
theorem d_Md_fire_2 : decode b_Md_fire 2 = .ok (.invokevirtual 99, 3) := by decide +kernel
theorem d_Md_fire_5 : decode b_Md_fire 5 = .ok (.ifCond .ne 5, 3) := by decide +kernel
theorem d_Md_fire_8 : decode b_Md_fire 8 = .ok (.iconst (-1), 1) := by decide +kernel
theorem d_Md_fire_9 : decode b_Md_fire 9 = .ok (.ireturn, 1) := by decide +kernel
theorem d_Md_fire_10 : decode b_Md_fire 10 = .ok (.aload_n 0, 1) := by decide +kernel
theorem d_Md_fire_11 : decode b_Md_fire 11 = .ok (.iload_n 1, 1) := by decide +kernel
theorem d_Md_fire_12 : decode b_Md_fire 12 = .ok (.invokevirtual 140, 3) := by decide +kernel
theorem d_Md_fire_15 : decode b_Md_fire 15 = .ok (.ifCond .ne 6, 3) := by decide +kernel
theorem d_Md_fire_18 : decode b_Md_fire 18 = .ok (.bipush (-2), 2) := by decide +kernel
theorem d_Md_fire_20 : decode b_Md_fire 20 = .ok (.ireturn, 1) := by decide +kernel
theorem d_Md_fire_21 : decode b_Md_fire 21 = .ok (.aload_n 0, 1) := by decide +kernel
theorem d_Md_fire_22 : decode b_Md_fire 22 = .ok (.getfield 128, 3) := by decide +kernel
theorem d_Md_fire_25 : decode b_Md_fire 25 = .ok (.aload_n 0, 1) := by decide +kernel
theorem d_Md_fire_26 : decode b_Md_fire 26 = .ok (.getfield 44, 3) := by decide +kernel
theorem d_Md_fire_29 : decode b_Md_fire 29 = .ok (.iload_n 1, 1) := by decide +kernel
theorem d_Md_fire_30 : decode b_Md_fire 30 = .ok (.iaload, 1) := by decide +kernel
theorem d_Md_fire_31 : decode b_Md_fire 31 = .ok (.iadd, 1) := by decide +kernel
theorem d_Md_fire_32 : decode b_Md_fire 32 = .ok (.bipush 60, 2) := by decide +kernel
theorem d_Md_fire_34 : decode b_Md_fire 34 = .ok (.if_icmp .le 6, 3) := by decide +kernel
theorem d_Md_fire_37 : decode b_Md_fire 37 = .ok (.bipush (-3), 2) := by decide +kernel
theorem d_Md_fire_39 : decode b_Md_fire 39 = .ok (.ireturn, 1) := by decide +kernel
theorem d_Md_fire_40 : decode b_Md_fire 40 = .ok (.aload_n 0, 1) := by decide +kernel
theorem d_Md_fire_41 : decode b_Md_fire 41 = .ok (.getfield 20, 3) := by decide +kernel
theorem d_Md_fire_44 : decode b_Md_fire 44 = .ok (.iload_n 1, 1) := by decide +kernel
theorem d_Md_fire_45 : decode b_Md_fire 45 = .ok (.iaload, 1) := by decide +kernel
theorem d_Md_fire_46 : decode b_Md_fire 46 = .ok (.aload_n 0, 1) := by decide +kernel
theorem d_Md_fire_47 : decode b_Md_fire 47 = .ok (.getfield 85, 3) := by decide +kernel
theorem d_Md_fire_50 : decode b_Md_fire 50 = .ok (.iand, 1) := by decide +kernel
theorem d_Md_fire_51 : decode b_Md_fire 51 = .ok (.istore_n 2, 1) := by decide +kernel
theorem d_Md_fire_52 : decode b_Md_fire 52 = .ok (.aload_n 0, 1) := by decide +kernel
theorem d_Md_fire_53 : decode b_Md_fire 53 = .ok (.dup, 1) := by decide +kernel
theorem d_Md_fire_54 : decode b_Md_fire 54 = .ok (.getfield 85, 3) := by decide +kernel
theorem d_Md_fire_57 : decode b_Md_fire 57 = .ok (.aload_n 0, 1) := by decide +kernel
theorem d_Md_fire_58 : decode b_Md_fire 58 = .ok (.getfield 13, 3) := by decide +kernel
theorem d_Md_fire_61 : decode b_Md_fire 61 = .ok (.iload_n 1, 1) := by decide +kernel
theorem d_Md_fire_62 : decode b_Md_fire 62 = .ok (.iaload, 1) := by decide +kernel
theorem d_Md_fire_63 : decode b_Md_fire 63 = .ok (.iconst 1, 1) := by decide +kernel
theorem d_Md_fire_64 : decode b_Md_fire 64 = .ok (.if_icmp .ne 10, 3) := by decide +kernel
theorem d_Md_fire_67 : decode b_Md_fire 67 = .ok (.iload_n 2, 1) := by decide +kernel
theorem d_Md_fire_68 : decode b_Md_fire 68 = .ok (.iload_n 2, 1) := by decide +kernel
theorem d_Md_fire_69 : decode b_Md_fire 69 = .ok (.ineg, 1) := by decide +kernel
theorem d_Md_fire_70 : decode b_Md_fire 70 = .ok (.iand, 1) := by decide +kernel
theorem d_Md_fire_71 : decode b_Md_fire 71 = .ok (.goto 4, 3) := by decide +kernel
theorem d_Md_fire_74 : decode b_Md_fire 74 = .ok (.iload_n 2, 1) := by decide +kernel
theorem d_Md_fire_75 : decode b_Md_fire 75 = .ok (.iconst (-1), 1) := by decide +kernel
theorem d_Md_fire_76 : decode b_Md_fire 76 = .ok (.ixor, 1) := by decide +kernel
theorem d_Md_fire_77 : decode b_Md_fire 77 = .ok (.iand, 1) := by decide +kernel
theorem d_Md_fire_78 : decode b_Md_fire 78 = .ok (.putfield 85, 3) := by decide +kernel
theorem d_Md_fire_81 : decode b_Md_fire 81 = .ok (.aload_n 0, 1) := by decide +kernel
theorem d_Md_fire_82 : decode b_Md_fire 82 = .ok (.dup, 1) := by decide +kernel
theorem d_Md_fire_83 : decode b_Md_fire 83 = .ok (.getfield 85, 3) := by decide +kernel
theorem d_Md_fire_86 : decode b_Md_fire 86 = .ok (.iconst 1, 1) := by decide +kernel
theorem d_Md_fire_87 : decode b_Md_fire 87 = .ok (.bipush 8, 2) := by decide +kernel
theorem d_Md_fire_89 : decode b_Md_fire 89 = .ok (.iload_n 1, 1) := by decide +kernel
theorem d_Md_fire_90 : decode b_Md_fire 90 = .ok (.iadd, 1) := by decide +kernel
theorem d_Md_fire_91 : decode b_Md_fire 91 = .ok (.ishl, 1) := by decide +kernel
theorem d_Md_fire_92 : decode b_Md_fire 92 = .ok (.ior, 1) := by decide +kernel
theorem d_Md_fire_93 : decode b_Md_fire 93 = .ok (.putfield 85, 3) := by decide +kernel
theorem d_Md_fire_96 : decode b_Md_fire 96 = .ok (.aload_n 0, 1) := by decide +kernel
theorem d_Md_fire_97 : decode b_Md_fire 97 = .ok (.getfield 68, 3) := by decide +kernel
theorem d_Md_fire_100 : decode b_Md_fire 100 = .ok (.iload_n 1, 1) := by decide +kernel
theorem d_Md_fire_101 : decode b_Md_fire 101 = .ok (.aload_n 0, 1) := by decide +kernel
theorem d_Md_fire_102 : decode b_Md_fire 102 = .ok (.getfield 128, 3) := by decide +kernel
theorem d_Md_fire_105 : decode b_Md_fire 105 = .ok (.iconst 1, 1) := by decide +kernel
theorem d_Md_fire_106 : decode b_Md_fire 106 = .ok (.iadd, 1) := by decide +kernel
theorem d_Md_fire_107 : decode b_Md_fire 107 = .ok (.iastore, 1) := by decide +kernel
theorem d_Md_fire_108 : decode b_Md_fire 108 = .ok (.iconst 0, 1) := by decide +kernel
theorem d_Md_fire_109 : decode b_Md_fire 109 = .ok (.istore_n 3, 1) := by decide +kernel
theorem d_Md_fire_110 : decode b_Md_fire 110 = .ok (.iload_n 3, 1) := by decide +kernel
theorem d_Md_fire_111 : decode b_Md_fire 111 = .ok (.aload_n 0, 1) := by decide +kernel
theorem d_Md_fire_112 : decode b_Md_fire 112 = .ok (.getfield 44, 3) := by decide +kernel
theorem d_Md_fire_115 : decode b_Md_fire 115 = .ok (.iload_n 1, 1) := by decide +kernel
theorem d_Md_fire_116 : decode b_Md_fire 116 = .ok (.iaload, 1) := by decide +kernel
theorem d_Md_fire_117 : decode b_Md_fire 117 = .ok (.if_icmp .ge 52, 3) := by decide +kernel
theorem d_Md_fire_120 : decode b_Md_fire 120 = .ok (.aload_n 0, 1) := by decide +kernel
theorem d_Md_fire_121 : decode b_Md_fire 121 = .ok (.dup, 1) := by decide +kernel
theorem d_Md_fire_122 : decode b_Md_fire 122 = .ok (.getfield 128, 3) := by decide +kernel
theorem d_Md_fire_125 : decode b_Md_fire 125 = .ok (.iconst 1, 1) := by decide +kernel
theorem d_Md_fire_126 : decode b_Md_fire 126 = .ok (.iadd, 1) := by decide +kernel
theorem d_Md_fire_127 : decode b_Md_fire 127 = .ok (.putfield 128, 3) := by decide +kernel
theorem d_Md_fire_130 : decode b_Md_fire 130 = .ok (.aload_n 0, 1) := by decide +kernel
theorem d_Md_fire_131 : decode b_Md_fire 131 = .ok (.getfield 59, 3) := by decide +kernel
theorem d_Md_fire_134 : decode b_Md_fire 134 = .ok (.aload_n 0, 1) := by decide +kernel
theorem d_Md_fire_135 : decode b_Md_fire 135 = .ok (.getfield 128, 3) := by decide +kernel
theorem d_Md_fire_138 : decode b_Md_fire 138 = .ok (.iload_n 1, 1) := by decide +kernel
theorem d_Md_fire_139 : decode b_Md_fire 139 = .ok (.iastore, 1) := by decide +kernel
theorem d_Md_fire_140 : decode b_Md_fire 140 = .ok (.aload_n 0, 1) := by decide +kernel
theorem d_Md_fire_141 : decode b_Md_fire 141 = .ok (.getfield 62, 3) := by decide +kernel
theorem d_Md_fire_144 : decode b_Md_fire 144 = .ok (.aload_n 0, 1) := by decide +kernel
theorem d_Md_fire_145 : decode b_Md_fire 145 = .ok (.getfield 128, 3) := by decide +kernel
theorem d_Md_fire_148 : decode b_Md_fire 148 = .ok (.iconst 1, 1) := by decide +kernel
theorem d_Md_fire_149 : decode b_Md_fire 149 = .ok (.iastore, 1) := by decide +kernel
theorem d_Md_fire_150 : decode b_Md_fire 150 = .ok (.aload_n 0, 1) := by decide +kernel
theorem d_Md_fire_151 : decode b_Md_fire 151 = .ok (.getfield 65, 3) := by decide +kernel
theorem d_Md_fire_154 : decode b_Md_fire 154 = .ok (.aload_n 0, 1) := by decide +kernel
theorem d_Md_fire_155 : decode b_Md_fire 155 = .ok (.getfield 128, 3) := by decide +kernel
theorem d_Md_fire_158 : decode b_Md_fire 158 = .ok (.aload_n 0, 1) := by decide +kernel
theorem d_Md_fire_159 : decode b_Md_fire 159 = .ok (.getfield 143, 3) := by decide +kernel
theorem d_Md_fire_162 : decode b_Md_fire 162 = .ok (.iastore, 1) := by decide +kernel
theorem d_Md_fire_163 : decode b_Md_fire 163 = .ok (.iinc 3 1, 3) := by decide +kernel
theorem d_Md_fire_166 : decode b_Md_fire 166 = .ok (.goto (-56), 3) := by decide +kernel
theorem d_Md_fire_169 : decode b_Md_fire 169 = .ok (.aload_n 0, 1) := by decide +kernel
theorem d_Md_fire_170 : decode b_Md_fire 170 = .ok (.getfield 68, 3) := by decide +kernel
theorem d_Md_fire_173 : decode b_Md_fire 173 = .ok (.iload_n 1, 1) := by decide +kernel
theorem d_Md_fire_174 : decode b_Md_fire 174 = .ok (.iaload, 1) := by decide +kernel
theorem d_Md_fire_175 : decode b_Md_fire 175 = .ok (.ireturn, 1) := by decide +kernel
theorem d_Md_isItem_0 : decode b_Md_isItem 0 = .ok (.iload_n 1, 1) := by decide +kernel
theorem d_Md_isItem_1 : decode b_Md_isItem 1 = .ok (.iconst 1, 1) := by decide +kernel
theorem d_Md_isItem_2 : decode b_Md_isItem 2 = .ok (.if_icmp .lt 15, 3) := by decide +kernel
theorem d_Md_isItem_5 : decode b_Md_isItem 5 = .ok (.iload_n 1, 1) := by decide +kernel
theorem d_Md_isItem_6 : decode b_Md_isItem 6 = .ok (.aload_n 0, 1) := by decide +kernel
theorem d_Md_isItem_7 : decode b_Md_isItem 7 = .ok (.getfield 128, 3) := by decide +kernel
theorem d_Md_isItem_10 : decode b_Md_isItem 10 = .ok (.if_icmp .gt 7, 3) := by decide +kernel
theorem d_Md_isItem_13 : decode b_Md_isItem 13 = .ok (.iconst 1, 1) := by decide +kernel
theorem d_Md_isItem_14 : decode b_Md_isItem 14 = .ok (.goto 4, 3) := by decide +kernel
theorem d_Md_isItem_17 : decode b_Md_isItem 17 = .ok (.iconst 0, 1) := by decide +kernel
theorem d_Md_isItem_18 : decode b_Md_isItem 18 = .ok (.ireturn, 1) := by decide +kernel
theorem d_Md_inState_0 : decode b_Md_inState 0 = .ok (.iconst 0, 1) := by decide +kernel
theorem d_Md_inState_1 : decode b_Md_inState 1 = .ok (.istore 4, 2) := by decide +kernel
theorem d_Md_inState_3 : decode b_Md_inState 3 = .ok (.aload_n 0, 1) := by decide +kernel
theorem d_Md_inState_4 : decode b_Md_inState 4 = .ok (.getfield 68, 3) := by decide +kernel
theorem d_Md_inState_7 : decode b_Md_inState 7 = .ok (.iload_n 1, 1) := by decide +kernel
theorem d_Md_inState_8 : decode b_Md_inState 8 = .ok (.iaload, 1) := by decide +kernel
theorem d_Md_inState_9 : decode b_Md_inState 9 = .ok (.istore 5, 2) := by decide +kernel
theorem d_Md_inState_11 : decode b_Md_inState 11 = .ok (.iload 5, 2) := by decide +kernel
theorem d_Md_inState_13 : decode b_Md_inState 13 = .ok (.aload_n 0, 1) := by decide +kernel
theorem d_Md_inState_14 : decode b_Md_inState 14 = .ok (.getfield 128, 3) := by decide +kernel
theorem d_Md_inState_17 : decode b_Md_inState 17 = .ok (.if_icmp .gt 52, 3) := by decide +kernel
theorem d_Md_inState_20 : decode b_Md_inState 20 = .ok (.iload 4, 2) := by decide +kernel
theorem d_Md_inState_22 : decode b_Md_inState 22 = .ok (.aload_n 0, 1) := by decide +kernel
theorem d_Md_inState_23 : decode b_Md_inState 23 = .ok (.getfield 59, 3) := by decide +kernel
theorem d_Md_inState_26 : decode b_Md_inState 26 = .ok (.iload 5, 2) := by decide +kernel
theorem d_Md_inState_28 : decode b_Md_inState 28 = .ok (.iaload, 1) := by decide +kernel
theorem d_Md_inState_29 : decode b_Md_inState 29 = .ok (.iload_n 1, 1) := by decide +kernel
theorem d_Md_inState_30 : decode b_Md_inState 30 = .ok (.if_icmp .ne 29, 3) := by decide +kernel
theorem d_Md_inState_33 : decode b_Md_inState 33 = .ok (.aload_n 0, 1) := by decide +kernel
theorem d_Md_inState_34 : decode b_Md_inState 34 = .ok (.getfield 62, 3) := by decide +kernel
theorem d_Md_inState_37 : decode b_Md_inState 37 = .ok (.iload 5, 2) := by decide +kernel
theorem d_Md_inState_39 : decode b_Md_inState 39 = .ok (.iaload, 1) := by decide +kernel
theorem d_Md_inState_40 : decode b_Md_inState 40 = .ok (.iload_n 2, 1) := by decide +kernel
theorem d_Md_inState_41 : decode b_Md_inState 41 = .ok (.if_icmp .lt 18, 3) := by decide +kernel
theorem d_Md_inState_44 : decode b_Md_inState 44 = .ok (.aload_n 0, 1) := by decide +kernel
theorem d_Md_inState_45 : decode b_Md_inState 45 = .ok (.getfield 62, 3) := by decide +kernel
theorem d_Md_inState_48 : decode b_Md_inState 48 = .ok (.iload 5, 2) := by decide +kernel
theorem d_Md_inState_50 : decode b_Md_inState 50 = .ok (.iaload, 1) := by decide +kernel
theorem d_Md_inState_51 : decode b_Md_inState 51 = .ok (.iload_n 3, 1) := by decide +kernel
theorem d_Md_inState_52 : decode b_Md_inState 52 = .ok (.if_icmp .gt 7, 3) := by decide +kernel
theorem d_Md_inState_55 : decode b_Md_inState 55 = .ok (.iconst 1, 1) := by decide +kernel
theorem d_Md_inState_56 : decode b_Md_inState 56 = .ok (.goto 4, 3) := by decide +kernel
theorem d_Md_inState_59 : decode b_Md_inState 59 = .ok (.iconst 0, 1) := by decide +kernel
theorem d_Md_inState_60 : decode b_Md_inState 60 = .ok (.iadd, 1) := by decide +kernel
theorem d_Md_inState_61 : decode b_Md_inState 61 = .ok (.istore 4, 2) := by decide +kernel
theorem d_Md_inState_63 : decode b_Md_inState 63 = .ok (.iinc 5 1, 3) := by decide +kernel
theorem d_Md_inState_66 : decode b_Md_inState 66 = .ok (.goto (-55), 3) := by decide +kernel
theorem d_Md_inState_69 : decode b_Md_inState 69 = .ok (.iload 4, 2) := by decide +kernel
theorem d_Md_inState_71 : decode b_Md_inState 71 = .ok (.ireturn, 1) := by decide +kernel
theorem d_Md_end_0 : decode b_Md_end 0 = .ok (.aload_n 0, 1) := by decide +kernel
theorem d_Md_end_1 : decode b_Md_end 1 = .ok (.iload_n 1, 1) := by decide +kernel
theorem d_Md_end_2 : decode b_Md_end 2 = .ok (.invokevirtual 134, 3) := by decide +kernel
theorem d_Md_end_5 : decode b_Md_end 5 = .ok (.iconst 0, 1) := by decide +kernel
theorem d_Md_end_6 : decode b_Md_end 6 = .ok (.istore_n 2, 1) := by decide +kernel
theorem d_Md_end_7 : decode b_Md_end 7 = .ok (.iload_n 2, 1) := by decide +kernel
theorem d_Md_end_8 : decode b_Md_end 8 = .ok (.bipush 6, 2) := by decide +kernel
theorem d_Md_end_10 : decode b_Md_end 10 = .ok (.if_icmp .ge 39, 3) := by decide +kernel
theorem d_Md_end_13 : decode b_Md_end 13 = .ok (.aload_n 0, 1) := by decide +kernel
theorem d_Md_end_14 : decode b_Md_end 14 = .ok (.getfield 32, 3) := by decide +kernel
theorem d_Md_end_17 : decode b_Md_end 17 = .ok (.iload_n 1, 1) := by decide +kernel
theorem d_Md_end_18 : decode b_Md_end 18 = .ok (.iaload, 1) := by decide +kernel
theorem d_Md_end_19 : decode b_Md_end 19 = .ok (.bipush 8, 2) := by decide +kernel
theorem d_Md_end_21 : decode b_Md_end 21 = .ok (.iload_n 2, 1) := by decide +kernel
theorem d_Md_end_22 : decode b_Md_end 22 = .ok (.iadd, 1) := by decide +kernel
theorem d_Md_end_23 : decode b_Md_end 23 = .ok (.ishr, 1) := by decide +kernel
theorem d_Md_end_24 : decode b_Md_end 24 = .ok (.iconst 1, 1) := by decide +kernel
theorem d_Md_end_25 : decode b_Md_end 25 = .ok (.iand, 1) := by decide +kernel
theorem d_Md_end_26 : decode b_Md_end 26 = .ok (.iconst 1, 1) := by decide +kernel
theorem d_Md_end_27 : decode b_Md_end 27 = .ok (.if_icmp .ne 16, 3) := by decide +kernel
theorem d_Md_end_30 : decode b_Md_end 30 = .ok (.aload_n 0, 1) := by decide +kernel
theorem d_Md_end_31 : decode b_Md_end 31 = .ok (.iload_n 2, 1) := by decide +kernel
theorem d_Md_end_32 : decode b_Md_end 32 = .ok (.invokevirtual 131, 3) := by decide +kernel
theorem d_Md_end_35 : decode b_Md_end 35 = .ok (.ifCond .eq 8, 3) := by decide +kernel
theorem d_Md_end_38 : decode b_Md_end 38 = .ok (.aload_n 0, 1) := by decide +kernel
theorem d_Md_end_39 : decode b_Md_end 39 = .ok (.iload_n 2, 1) := by decide +kernel
theorem d_Md_end_40 : decode b_Md_end 40 = .ok (.invokevirtual 134, 3) := by decide +kernel
theorem d_Md_end_43 : decode b_Md_end 43 = .ok (.iinc 2 1, 3) := by decide +kernel
theorem d_Md_end_46 : decode b_Md_end 46 = .ok (.goto (-39), 3) := by decide +kernel
theorem d_Md_end_49 : decode b_Md_end 49 = .ok (.aload_n 0, 1) := by decide +kernel
theorem d_Md_end_50 : decode b_Md_end 50 = .ok (.dup, 1) := by decide +kernel
theorem d_Md_end_51 : decode b_Md_end 51 = .ok (.getfield 85, 3) := by decide +kernel
theorem d_Md_end_54 : decode b_Md_end 54 = .ok (.aload_n 0, 1) := by decide +kernel
theorem d_Md_end_55 : decode b_Md_end 55 = .ok (.getfield 32, 3) := by decide +kernel
theorem d_Md_end_58 : decode b_Md_end 58 = .ok (.iload_n 1, 1) := by decide +kernel
theorem d_Md_end_59 : decode b_Md_end 59 = .ok (.iaload, 1) := by decide +kernel
theorem d_Md_end_60 : decode b_Md_end 60 = .ok (.sipush 255, 3) := by decide +kernel
theorem d_Md_end_63 : decode b_Md_end 63 = .ok (.iand, 1) := by decide +kernel
theorem d_Md_end_64 : decode b_Md_end 64 = .ok (.iconst (-1), 1) := by decide +kernel
theorem d_Md_end_65 : decode b_Md_end 65 = .ok (.ixor, 1) := by decide +kernel
theorem d_Md_end_66 : decode b_Md_end 66 = .ok (.iand, 1) := by decide +kernel
theorem d_Md_end_67 : decode b_Md_end 67 = .ok (.putfield 85, 3) := by decide +kernel
theorem d_Md_end_70 : decode b_Md_end 70 = .ok (.iconst 0, 1) := by decide +kernel
theorem d_Md_end_71 : decode b_Md_end 71 = .ok (.istore_n 2, 1) := by decide +kernel
theorem d_Md_end_72 : decode b_Md_end 72 = .ok (.iconst 0, 1) := by decide +kernel
theorem d_Md_end_73 : decode b_Md_end 73 = .ok (.istore_n 3, 1) := by decide +kernel
theorem d_Md_end_74 : decode b_Md_end 74 = .ok (.iload_n 3, 1) := by decide +kernel
theorem d_Md_end_75 : decode b_Md_end 75 = .ok (.bipush 8, 2) := by decide +kernel
theorem d_Md_end_77 : decode b_Md_end 77 = .ok (.if_icmp .ge 95, 3) := by decide +kernel
theorem d_Md_end_80 : decode b_Md_end 80 = .ok (.aload_n 0, 1) := by decide +kernel
theorem d_Md_end_81 : decode b_Md_end 81 = .ok (.getfield 56, 3) := by decide +kernel
theorem d_Md_end_84 : decode b_Md_end 84 = .ok (.aload_n 0, 1) := by decide +kernel
theorem d_Md_end_85 : decode b_Md_end 85 = .ok (.getfield 35, 3) := by decide +kernel
theorem d_Md_end_88 : decode b_Md_end 88 = .ok (.bipush 8, 2) := by decide +kernel
theorem d_Md_end_90 : decode b_Md_end 90 = .ok (.iload_n 1, 1) := by decide +kernel
theorem d_Md_end_91 : decode b_Md_end 91 = .ok (.imul, 1) := by decide +kernel
theorem d_Md_end_92 : decode b_Md_end 92 = .ok (.iload_n 3, 1) := by decide +kernel
theorem d_Md_end_93 : decode b_Md_end 93 = .ok (.iadd, 1) := by decide +kernel
theorem d_Md_end_94 : decode b_Md_end 94 = .ok (.iaload, 1) := by decide +kernel
theorem d_Md_end_95 : decode b_Md_end 95 = .ok (.iaload, 1) := by decide +kernel
theorem d_Md_end_96 : decode b_Md_end 96 = .ok (.istore 4, 2) := by decide +kernel
theorem d_Md_end_98 : decode b_Md_end 98 = .ok (.aload_n 0, 1) := by decide +kernel
theorem d_Md_end_99 : decode b_Md_end 99 = .ok (.getfield 23, 3) := by decide +kernel
theorem d_Md_end_102 : decode b_Md_end 102 = .ok (.iload_n 1, 1) := by decide +kernel
theorem d_Md_end_103 : decode b_Md_end 103 = .ok (.iaload, 1) := by decide +kernel
theorem d_Md_end_104 : decode b_Md_end 104 = .ok (.iload_n 3, 1) := by decide +kernel
theorem d_Md_end_105 : decode b_Md_end 105 = .ok (.ishr, 1) := by decide +kernel
theorem d_Md_end_106 : decode b_Md_end 106 = .ok (.iconst 1, 1) := by decide +kernel
theorem d_Md_end_107 : decode b_Md_end 107 = .ok (.iand, 1) := by decide +kernel
theorem d_Md_end_108 : decode b_Md_end 108 = .ok (.iconst 1, 1) := by decide +kernel
theorem d_Md_end_109 : decode b_Md_end 109 = .ok (.if_icmp .ne 39, 3) := by decide +kernel
theorem d_Md_end_112 : decode b_Md_end 112 = .ok (.iload 4, 2) := by decide +kernel
theorem d_Md_end_114 : decode b_Md_end 114 = .ok (.aload_n 0, 1) := by decide +kernel
theorem d_Md_end_115 : decode b_Md_end 115 = .ok (.getfield 38, 3) := by decide +kernel
theorem d_Md_end_118 : decode b_Md_end 118 = .ok (.bipush 8, 2) := by decide +kernel
theorem d_Md_end_120 : decode b_Md_end 120 = .ok (.iload_n 1, 1) := by decide +kernel
theorem d_Md_end_121 : decode b_Md_end 121 = .ok (.imul, 1) := by decide +kernel
theorem d_Md_end_122 : decode b_Md_end 122 = .ok (.iload_n 3, 1) := by decide +kernel
theorem d_Md_end_123 : decode b_Md_end 123 = .ok (.iadd, 1) := by decide +kernel
theorem d_Md_end_124 : decode b_Md_end 124 = .ok (.iaload, 1) := by decide +kernel
theorem d_Md_end_125 : decode b_Md_end 125 = .ok (.if_icmp .lt 23, 3) := by decide +kernel
theorem d_Md_end_128 : decode b_Md_end 128 = .ok (.iload 4, 2) := by decide +kernel
theorem d_Md_end_130 : decode b_Md_end 130 = .ok (.aload_n 0, 1) := by decide +kernel
theorem d_Md_end_131 : decode b_Md_end 131 = .ok (.getfield 41, 3) := by decide +kernel
theorem d_Md_end_134 : decode b_Md_end 134 = .ok (.bipush 8, 2) := by decide +kernel
theorem d_Md_end_136 : decode b_Md_end 136 = .ok (.iload_n 1, 1) := by decide +kernel
theorem d_Md_end_137 : decode b_Md_end 137 = .ok (.imul, 1) := by decide +kernel
theorem d_Md_end_138 : decode b_Md_end 138 = .ok (.iload_n 3, 1) := by decide +kernel
theorem d_Md_end_139 : decode b_Md_end 139 = .ok (.iadd, 1) := by decide +kernel
theorem d_Md_end_140 : decode b_Md_end 140 = .ok (.iaload, 1) := by decide +kernel
theorem d_Md_end_141 : decode b_Md_end 141 = .ok (.if_icmp .gt 7, 3) := by decide +kernel
theorem d_Md_end_144 : decode b_Md_end 144 = .ok (.iconst 1, 1) := by decide +kernel
theorem d_Md_end_145 : decode b_Md_end 145 = .ok (.goto 4, 3) := by decide +kernel
theorem d_Md_end_148 : decode b_Md_end 148 = .ok (.iconst 0, 1) := by decide +kernel
theorem d_Md_end_149 : decode b_Md_end 149 = .ok (.istore 5, 2) := by decide +kernel
theorem d_Md_end_151 : decode b_Md_end 151 = .ok (.iload_n 2, 1) := by decide +kernel
theorem d_Md_end_152 : decode b_Md_end 152 = .ok (.iload 5, 2) := by decide +kernel
theorem d_Md_end_154 : decode b_Md_end 154 = .ok (.ifCond .eq 9, 3) := by decide +kernel
theorem d_Md_end_157 : decode b_Md_end 157 = .ok (.iconst 1, 1) := by decide +kernel
theorem d_Md_end_158 : decode b_Md_end 158 = .ok (.iload_n 3, 1) := by decide +kernel
theorem d_Md_end_159 : decode b_Md_end 159 = .ok (.ishl, 1) := by decide +kernel
theorem d_Md_end_160 : decode b_Md_end 160 = .ok (.goto 4, 3) := by decide +kernel
theorem d_Md_end_163 : decode b_Md_end 163 = .ok (.iconst 0, 1) := by decide +kernel
theorem d_Md_end_164 : decode b_Md_end 164 = .ok (.ior, 1) := by decide +kernel
theorem d_Md_end_165 : decode b_Md_end 165 = .ok (.istore_n 2, 1) := by decide +kernel
theorem d_Md_end_166 : decode b_Md_end 166 = .ok (.iinc 3 1, 3) := by decide +kernel
theorem d_Md_end_169 : decode b_Md_end 169 = .ok (.goto (-95), 3) := by decide +kernel
theorem d_Md_end_172 : decode b_Md_end 172 = .ok (.iconst 0, 1) := by decide +kernel
theorem d_Md_end_173 : decode b_Md_end 173 = .ok (.istore_n 3, 1) := by decide +kernel
theorem d_Md_end_174 : decode b_Md_end 174 = .ok (.iconst 0, 1) := by decide +kernel
theorem d_Md_end_175 : decode b_Md_end 175 = .ok (.istore 4, 2) := by decide +kernel
theorem d_Md_end_177 : decode b_Md_end 177 = .ok (.iload 4, 2) := by decide +kernel
theorem d_Md_end_179 : decode b_Md_end 179 = .ok (.iconst 3, 1) := by decide +kernel
theorem d_Md_end_180 : decode b_Md_end 180 = .ok (.if_icmp .ge 39, 3) := by decide +kernel
theorem d_Md_end_183 : decode b_Md_end 183 = .ok (.aload_n 0, 1) := by decide +kernel
theorem d_Md_end_184 : decode b_Md_end 184 = .ok (.getfield 29, 3) := by decide +kernel
theorem d_Md_end_187 : decode b_Md_end 187 = .ok (.iconst 3, 1) := by decide +kernel
theorem d_Md_end_188 : decode b_Md_end 188 = .ok (.iload_n 1, 1) := by decide +kernel
theorem d_Md_end_189 : decode b_Md_end 189 = .ok (.imul, 1) := by decide +kernel
theorem d_Md_end_190 : decode b_Md_end 190 = .ok (.iload 4, 2) := by decide +kernel
theorem d_Md_end_192 : decode b_Md_end 192 = .ok (.iadd, 1) := by decide +kernel
theorem d_Md_end_193 : decode b_Md_end 193 = .ok (.iaload, 1) := by decide +kernel
theorem d_Md_end_194 : decode b_Md_end 194 = .ok (.ifCond .eq 17, 3) := by decide +kernel
theorem d_Md_end_197 : decode b_Md_end 197 = .ok (.aload_n 0, 1) := by decide +kernel
theorem d_Md_end_198 : decode b_Md_end 198 = .ok (.getfield 29, 3) := by decide +kernel
theorem d_Md_end_201 : decode b_Md_end 201 = .ok (.iconst 3, 1) := by decide +kernel
theorem d_Md_end_202 : decode b_Md_end 202 = .ok (.iload_n 1, 1) := by decide +kernel
theorem d_Md_end_203 : decode b_Md_end 203 = .ok (.imul, 1) := by decide +kernel
theorem d_Md_end_204 : decode b_Md_end 204 = .ok (.iload 4, 2) := by decide +kernel
theorem d_Md_end_206 : decode b_Md_end 206 = .ok (.iadd, 1) := by decide +kernel
theorem d_Md_end_207 : decode b_Md_end 207 = .ok (.iaload, 1) := by decide +kernel
theorem d_Md_end_208 : decode b_Md_end 208 = .ok (.goto 4, 3) := by decide +kernel
theorem d_Md_end_211 : decode b_Md_end 211 = .ok (.iload_n 3, 1) := by decide +kernel
theorem d_Md_end_212 : decode b_Md_end 212 = .ok (.istore_n 3, 1) := by decide +kernel
theorem d_Md_end_213 : decode b_Md_end 213 = .ok (.iinc 4 1, 3) := by decide +kernel
theorem d_Md_end_216 : decode b_Md_end 216 = .ok (.goto (-39), 3) := by decide +kernel
theorem d_Md_end_219 : decode b_Md_end 219 = .ok (.aload_n 0, 1) := by decide +kernel
theorem d_Md_end_220 : decode b_Md_end 220 = .ok (.getfield 17, 3) := by decide +kernel
theorem d_Md_end_223 : decode b_Md_end 223 = .ok (.iload_n 1, 1) := by decide +kernel
theorem d_Md_end_224 : decode b_Md_end 224 = .ok (.iaload, 1) := by decide +kernel
theorem d_Md_end_225 : decode b_Md_end 225 = .ok (.ifCond .ne 12, 3) := by decide +kernel
theorem d_Md_end_228 : decode b_Md_end 228 = .ok (.aload_n 0, 1) := by decide +kernel
theorem d_Md_end_229 : decode b_Md_end 229 = .ok (.getfield 23, 3) := by decide +kernel
theorem d_Md_end_232 : decode b_Md_end 232 = .ok (.iload_n 1, 1) := by decide +kernel
theorem d_Md_end_233 : decode b_Md_end 233 = .ok (.iaload, 1) := by decide +kernel
theorem d_Md_end_234 : decode b_Md_end 234 = .ok (.goto 29, 3) := by decide +kernel
theorem d_Md_end_237 : decode b_Md_end 237 = .ok (.iload_n 2, 1) := by decide +kernel
theorem d_Md_end_238 : decode b_Md_end 238 = .ok (.ifCond .ne 7, 3) := by decide +kernel
theorem d_Md_end_241 : decode b_Md_end 241 = .ok (.iload_n 3, 1) := by decide +kernel
theorem d_Md_end_242 : decode b_Md_end 242 = .ok (.goto 21, 3) := by decide +kernel
theorem d_Md_end_245 : decode b_Md_end 245 = .ok (.aload_n 0, 1) := by decide +kernel
theorem d_Md_end_246 : decode b_Md_end 246 = .ok (.getfield 17, 3) := by decide +kernel
theorem d_Md_end_249 : decode b_Md_end 249 = .ok (.iload_n 1, 1) := by decide +kernel
theorem d_Md_end_250 : decode b_Md_end 250 = .ok (.iaload, 1) := by decide +kernel
theorem d_Md_end_251 : decode b_Md_end 251 = .ok (.iconst 1, 1) := by decide +kernel
theorem d_Md_end_252 : decode b_Md_end 252 = .ok (.if_icmp .ne 10, 3) := by decide +kernel
theorem d_Md_end_255 : decode b_Md_end 255 = .ok (.iload_n 2, 1) := by decide +kernel
theorem d_Md_end_256 : decode b_Md_end 256 = .ok (.iload_n 2, 1) := by decide +kernel
theorem d_Md_end_257 : decode b_Md_end 257 = .ok (.ineg, 1) := by decide +kernel
theorem d_Md_end_258 : decode b_Md_end 258 = .ok (.iand, 1) := by decide +kernel
theorem d_Md_end_259 : decode b_Md_end 259 = .ok (.goto 4, 3) := by decide +kernel
theorem d_Md_end_262 : decode b_Md_end 262 = .ok (.iload_n 2, 1) := by decide +kernel
theorem d_Md_end_263 : decode b_Md_end 263 = .ok (.istore 4, 2) := by decide +kernel
theorem d_Md_end_265 : decode b_Md_end 265 = .ok (.aload_n 0, 1) := by decide +kernel
theorem d_Md_end_266 : decode b_Md_end 266 = .ok (.dup, 1) := by decide +kernel
theorem d_Md_end_267 : decode b_Md_end 267 = .ok (.getfield 85, 3) := by decide +kernel
theorem d_Md_end_270 : decode b_Md_end 270 = .ok (.iload 4, 2) := by decide +kernel
theorem d_Md_end_272 : decode b_Md_end 272 = .ok (.ior, 1) := by decide +kernel
theorem d_Md_end_273 : decode b_Md_end 273 = .ok (.putfield 85, 3) := by decide +kernel
theorem d_Md_end_276 : decode b_Md_end 276 = .ok (.return_, 1) := by decide +kernel
