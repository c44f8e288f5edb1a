theorem d_Md_after_0 : decode b_Md_after 0 = .ok (.iconst 1, 1) := by decide +kernel
theorem d_Md_after_1 : decode b_Md_after 1 = .ok (.bipush 8, 2) := by decide +kernel
theorem d_Md_after_3 : decode b_Md_after 3 = .ok (.iload_n 2, 1) := by decide +kernel
theorem d_Md_after_4 : decode b_Md_after 4 = .ok (.iadd, 1) := by decide +kernel
theorem d_Md_after_5 : decode b_Md_after 5 = .ok (.ishl, 1) := by decide +kernel
theorem d_Md_after_6 : decode b_Md_after 6 = .ok (.istore 4, 2) := by decide +kernel
theorem d_Md_after_8 : decode b_Md_after 8 = .ok (.iload_n 3, 1) := by decide +kernel
theorem d_Md_after_9 : decode b_Md_after 9 = .ok (.iconst 3, 1) := by decide +kernel
theorem d_Md_after_10 : decode b_Md_after 10 = .ok (.if_icmp .ge 69, 3) := by decide +kernel
theorem d_Md_after_13 : decode b_Md_after 13 = .ok (.aload_n 0, 1) := by decide +kernel
theorem d_Md_after_14 : decode b_Md_after 14 = .ok (.getfield 13, 3) := by decide +kernel
theorem d_Md_after_17 : decode b_Md_after 17 = .ok (.iload_n 2, 1) := by decide +kernel
theorem d_Md_after_18 : decode b_Md_after 18 = .ok (.iaload, 1) := by decide +kernel
theorem d_Md_after_19 : decode b_Md_after 19 = .ok (.ifCond .ne 20, 3) := by decide +kernel
theorem d_Md_after_22 : decode b_Md_after 22 = .ok (.iload_n 3, 1) := by decide +kernel
theorem d_Md_after_23 : decode b_Md_after 23 = .ok (.ifCond .ne 12, 3) := by decide +kernel
theorem d_Md_after_26 : decode b_Md_after 26 = .ok (.aload_n 0, 1) := by decide +kernel
theorem d_Md_after_27 : decode b_Md_after 27 = .ok (.getfield 20, 3) := by decide +kernel
theorem d_Md_after_30 : decode b_Md_after 30 = .ok (.iload_n 2, 1) := by decide +kernel
theorem d_Md_after_31 : decode b_Md_after 31 = .ok (.iaload, 1) := by decide +kernel
theorem d_Md_after_32 : decode b_Md_after 32 = .ok (.goto 17, 3) := by decide +kernel
theorem d_Md_after_35 : decode b_Md_after 35 = .ok (.iconst 0, 1) := by decide +kernel
theorem d_Md_after_36 : decode b_Md_after 36 = .ok (.goto 13, 3) := by decide +kernel
theorem d_Md_after_39 : decode b_Md_after 39 = .ok (.aload_n 0, 1) := by decide +kernel
theorem d_Md_after_40 : decode b_Md_after 40 = .ok (.getfield 26, 3) := by decide +kernel
theorem d_Md_after_43 : decode b_Md_after 43 = .ok (.iconst 3, 1) := by decide +kernel
theorem d_Md_after_44 : decode b_Md_after 44 = .ok (.iload_n 2, 1) := by decide +kernel
theorem d_Md_after_45 : decode b_Md_after 45 = .ok (.imul, 1) := by decide +kernel
theorem d_Md_after_46 : decode b_Md_after 46 = .ok (.iload_n 3, 1) := by decide +kernel
theorem d_Md_after_47 : decode b_Md_after 47 = .ok (.iadd, 1) := by decide +kernel
theorem d_Md_after_48 : decode b_Md_after 48 = .ok (.iaload, 1) := by decide +kernel
theorem d_Md_after_49 : decode b_Md_after 49 = .ok (.istore 5, 2) := by decide +kernel
theorem d_Md_after_51 : decode b_Md_after 51 = .ok (.iload 5, 2) := by decide +kernel
theorem d_Md_after_53 : decode b_Md_after 53 = .ok (.ifCond .eq 12, 3) := by decide +kernel
theorem d_Md_after_56 : decode b_Md_after 56 = .ok (.iload_n 1, 1) := by decide +kernel
theorem d_Md_after_57 : decode b_Md_after 57 = .ok (.iload 5, 2) := by decide +kernel
theorem d_Md_after_59 : decode b_Md_after 59 = .ok (.iand, 1) := by decide +kernel
theorem d_Md_after_60 : decode b_Md_after 60 = .ok (.iload 5, 2) := by decide +kernel
theorem d_Md_after_62 : decode b_Md_after 62 = .ok (.if_icmp .eq 7, 3) := by decide +kernel
theorem d_Md_after_65 : decode b_Md_after 65 = .ok (.iconst (-1), 1) := by decide +kernel
theorem d_Md_after_66 : decode b_Md_after 66 = .ok (.goto 12, 3) := by decide +kernel
theorem d_Md_after_69 : decode b_Md_after 69 = .ok (.iload_n 1, 1) := by decide +kernel
theorem d_Md_after_70 : decode b_Md_after 70 = .ok (.iload 5, 2) := by decide +kernel
theorem d_Md_after_72 : decode b_Md_after 72 = .ok (.iconst (-1), 1) := by decide +kernel
theorem d_Md_after_73 : decode b_Md_after 73 = .ok (.ixor, 1) := by decide +kernel
theorem d_Md_after_74 : decode b_Md_after 74 = .ok (.iand, 1) := by decide +kernel
theorem d_Md_after_75 : decode b_Md_after 75 = .ok (.iload 4, 2) := by decide +kernel
theorem d_Md_after_77 : decode b_Md_after 77 = .ok (.ior, 1) := by decide +kernel
theorem d_Md_after_78 : decode b_Md_after 78 = .ok (.ireturn, 1) := by decide +kernel
theorem d_Md_after_79 : decode b_Md_after 79 = .ok (.iload_n 3, 1) := by decide +kernel
theorem d_Md_after_80 : decode b_Md_after 80 = .ok (.iconst 2, 1) := by decide +kernel
theorem d_Md_after_81 : decode b_Md_after 81 = .ok (.isub, 1) := by decide +kernel
theorem d_Md_after_82 : decode b_Md_after 82 = .ok (.istore 5, 2) := by decide +kernel
theorem d_Md_after_84 : decode b_Md_after 84 = .ok (.aload_n 0, 1) := by decide +kernel
theorem d_Md_after_85 : decode b_Md_after 85 = .ok (.iload_n 2, 1) := by decide +kernel
theorem d_Md_after_86 : decode b_Md_after 86 = .ok (.iload 5, 2) := by decide +kernel
theorem d_Md_after_88 : decode b_Md_after 88 = .ok (.invokevirtual 105, 3) := by decide +kernel
theorem d_Md_after_91 : decode b_Md_after 91 = .ok (.istore 6, 2) := by decide +kernel
theorem d_Md_after_93 : decode b_Md_after 93 = .ok (.iload 6, 2) := by decide +kernel
theorem d_Md_after_95 : decode b_Md_after 95 = .ok (.invokestatic 93, 3) := by decide +kernel
theorem d_Md_after_98 : decode b_Md_after 98 = .ok (.iload 5, 2) := by decide +kernel
theorem d_Md_after_100 : decode b_Md_after 100 = .ok (.invokestatic 93, 3) := by decide +kernel
theorem d_Md_after_103 : decode b_Md_after 103 = .ok (.if_icmp .ne 49, 3) := by decide +kernel
theorem d_Md_after_106 : decode b_Md_after 106 = .ok (.aload_n 0, 1) := by decide +kernel
theorem d_Md_after_107 : decode b_Md_after 107 = .ok (.getfield 17, 3) := by decide +kernel
theorem d_Md_after_110 : decode b_Md_after 110 = .ok (.iload_n 2, 1) := by decide +kernel
theorem d_Md_after_111 : decode b_Md_after 111 = .ok (.iaload, 1) := by decide +kernel
theorem d_Md_after_112 : decode b_Md_after 112 = .ok (.ifCond .ne 17, 3) := by decide +kernel
theorem d_Md_after_115 : decode b_Md_after 115 = .ok (.iload 6, 2) := by decide +kernel
theorem d_Md_after_117 : decode b_Md_after 117 = .ok (.aload_n 0, 1) := by decide +kernel
theorem d_Md_after_118 : decode b_Md_after 118 = .ok (.getfield 23, 3) := by decide +kernel
theorem d_Md_after_121 : decode b_Md_after 121 = .ok (.iload_n 2, 1) := by decide +kernel
theorem d_Md_after_122 : decode b_Md_after 122 = .ok (.iaload, 1) := by decide +kernel
theorem d_Md_after_123 : decode b_Md_after 123 = .ok (.if_icmp .ne 29, 3) := by decide +kernel
theorem d_Md_after_126 : decode b_Md_after 126 = .ok (.goto 22, 3) := by decide +kernel
theorem d_Md_after_129 : decode b_Md_after 129 = .ok (.aload_n 0, 1) := by decide +kernel
theorem d_Md_after_130 : decode b_Md_after 130 = .ok (.getfield 17, 3) := by decide +kernel
theorem d_Md_after_133 : decode b_Md_after 133 = .ok (.iload_n 2, 1) := by decide +kernel
theorem d_Md_after_134 : decode b_Md_after 134 = .ok (.iaload, 1) := by decide +kernel
theorem d_Md_after_135 : decode b_Md_after 135 = .ok (.iconst 1, 1) := by decide +kernel
theorem d_Md_after_136 : decode b_Md_after 136 = .ok (.if_icmp .ne 12, 3) := by decide +kernel
theorem d_Md_after_139 : decode b_Md_after 139 = .ok (.iload 5, 2) := by decide +kernel
theorem d_Md_after_141 : decode b_Md_after 141 = .ok (.invokestatic 93, 3) := by decide +kernel
theorem d_Md_after_144 : decode b_Md_after 144 = .ok (.iconst 1, 1) := by decide +kernel
theorem d_Md_after_145 : decode b_Md_after 145 = .ok (.if_icmp .ne 7, 3) := by decide +kernel
theorem d_Md_after_148 : decode b_Md_after 148 = .ok (.iconst 1, 1) := by decide +kernel
theorem d_Md_after_149 : decode b_Md_after 149 = .ok (.goto 4, 3) := by decide +kernel
theorem d_Md_after_152 : decode b_Md_after 152 = .ok (.iconst 0, 1) := by decide +kernel
theorem d_Md_after_153 : decode b_Md_after 153 = .ok (.istore 7, 2) := by decide +kernel
theorem d_Md_after_155 : decode b_Md_after 155 = .ok (.iload 7, 2) := by decide +kernel
theorem d_Md_after_157 : decode b_Md_after 157 = .ok (.ifCond .eq 10, 3) := by decide +kernel
theorem d_Md_after_160 : decode b_Md_after 160 = .ok (.iload_n 1, 1) := by decide +kernel
theorem d_Md_after_161 : decode b_Md_after 161 = .ok (.iload 4, 2) := by decide +kernel
theorem d_Md_after_163 : decode b_Md_after 163 = .ok (.iand, 1) := by decide +kernel
theorem d_Md_after_164 : decode b_Md_after 164 = .ok (.ifCond .ne 7, 3) := by decide +kernel
theorem d_Md_after_167 : decode b_Md_after 167 = .ok (.iconst (-1), 1) := by decide +kernel
theorem d_Md_after_168 : decode b_Md_after 168 = .ok (.goto 21, 3) := by decide +kernel
theorem d_Md_after_171 : decode b_Md_after 171 = .ok (.iload_n 1, 1) := by decide +kernel
theorem d_Md_after_172 : decode b_Md_after 172 = .ok (.iload 4, 2) := by decide +kernel
theorem d_Md_after_174 : decode b_Md_after 174 = .ok (.iconst (-1), 1) := by decide +kernel
theorem d_Md_after_175 : decode b_Md_after 175 = .ok (.ixor, 1) := by decide +kernel
theorem d_Md_after_176 : decode b_Md_after 176 = .ok (.iand, 1) := by decide +kernel
theorem d_Md_after_177 : decode b_Md_after 177 = .ok (.aload_n 0, 1) := by decide +kernel
theorem d_Md_after_178 : decode b_Md_after 178 = .ok (.getfield 32, 3) := by decide +kernel
theorem d_Md_after_181 : decode b_Md_after 181 = .ok (.iload_n 2, 1) := by decide +kernel
theorem d_Md_after_182 : decode b_Md_after 182 = .ok (.iaload, 1) := by decide +kernel
theorem d_Md_after_183 : decode b_Md_after 183 = .ok (.iconst (-1), 1) := by decide +kernel
theorem d_Md_after_184 : decode b_Md_after 184 = .ok (.ixor, 1) := by decide +kernel
theorem d_Md_after_185 : decode b_Md_after 185 = .ok (.iand, 1) := by decide +kernel
theorem d_Md_after_186 : decode b_Md_after 186 = .ok (.iload 6, 2) := by decide +kernel
theorem d_Md_after_188 : decode b_Md_after 188 = .ok (.ior, 1) := by decide +kernel
theorem d_Md_after_189 : decode b_Md_after 189 = .ok (.ireturn, 1) := by decide +kernel
theorem d_Md_meet_0 : decode b_Md_meet 0 = .ok (.aload_n 0, 1) := by decide +kernel
theorem d_Md_meet_1 : decode b_Md_meet 1 = .ok (.getfield 71, 3) := by decide +kernel
theorem d_Md_meet_4 : decode b_Md_meet 4 = .ok (.iload_n 1, 1) := by decide +kernel
theorem d_Md_meet_5 : decode b_Md_meet 5 = .ok (.bipush 6, 2) := by decide +kernel
theorem d_Md_meet_7 : decode b_Md_meet 7 = .ok (.ishr, 1) := by decide +kernel
theorem d_Md_meet_8 : decode b_Md_meet 8 = .ok (.laload, 1) := by decide +kernel
theorem d_Md_meet_9 : decode b_Md_meet 9 = .ok (.iload_n 1, 1) := by decide +kernel
theorem d_Md_meet_10 : decode b_Md_meet 10 = .ok (.bipush 63, 2) := by decide +kernel
theorem d_Md_meet_12 : decode b_Md_meet 12 = .ok (.iand, 1) := by decide +kernel
theorem d_Md_meet_13 : decode b_Md_meet 13 = .ok (.lshr, 1) := by decide +kernel
theorem d_Md_meet_14 : decode b_Md_meet 14 = .ok (.lconst 1, 1) := by decide +kernel
theorem d_Md_meet_15 : decode b_Md_meet 15 = .ok (.land, 1) := by decide +kernel
theorem d_Md_meet_16 : decode b_Md_meet 16 = .ok (.lconst 0, 1) := by decide +kernel
theorem d_Md_meet_17 : decode b_Md_meet 17 = .ok (.lcmp, 1) := by decide +kernel
theorem d_Md_meet_18 : decode b_Md_meet 18 = .ok (.ifCond .eq 4, 3) := by decide +kernel
theorem d_Md_meet_21 : decode b_Md_meet 21 = .ok (.return_, 1) := by decide +kernel
theorem d_Md_meet_22 : decode b_Md_meet 22 = .ok (.aload_n 0, 1) := by decide +kernel
theorem d_Md_meet_23 : decode b_Md_meet 23 = .ok (.getfield 71, 3) := by decide +kernel
theorem d_Md_meet_26 : decode b_Md_meet 26 = .ok (.iload_n 1, 1) := by decide +kernel
theorem d_Md_meet_27 : decode b_Md_meet 27 = .ok (.bipush 6, 2) := by decide +kernel
theorem d_Md_meet_29 : decode b_Md_meet 29 = .ok (.ishr, 1) := by decide +kernel
theorem d_Md_meet_30 : decode b_Md_meet 30 = .ok (.dup2, 1) := by decide +kernel
theorem d_Md_meet_31 : decode b_Md_meet 31 = .ok (.laload, 1) := by decide +kernel
theorem d_Md_meet_32 : decode b_Md_meet 32 = .ok (.lconst 1, 1) := by decide +kernel
theorem d_Md_meet_33 : decode b_Md_meet 33 = .ok (.iload_n 1, 1) := by decide +kernel
theorem d_Md_meet_34 : decode b_Md_meet 34 = .ok (.bipush 63, 2) := by decide +kernel
theorem d_Md_meet_36 : decode b_Md_meet 36 = .ok (.iand, 1) := by decide +kernel
theorem d_Md_meet_37 : decode b_Md_meet 37 = .ok (.lshl, 1) := by decide +kernel
theorem d_Md_meet_38 : decode b_Md_meet 38 = .ok (.lor, 1) := by decide +kernel
theorem d_Md_meet_39 : decode b_Md_meet 39 = .ok (.lastore, 1) := by decide +kernel
theorem d_Md_meet_40 : decode b_Md_meet 40 = .ok (.aload_n 0, 1) := by decide +kernel
theorem d_Md_meet_41 : decode b_Md_meet 41 = .ok (.getfield 75, 3) := by decide +kernel
theorem d_Md_meet_44 : decode b_Md_meet 44 = .ok (.aload_n 0, 1) := by decide +kernel
theorem d_Md_meet_45 : decode b_Md_meet 45 = .ok (.getfield 109, 3) := by decide +kernel
theorem d_Md_meet_48 : decode b_Md_meet 48 = .ok (.iload_n 1, 1) := by decide +kernel
theorem d_Md_meet_49 : decode b_Md_meet 49 = .ok (.iastore, 1) := by decide +kernel
theorem d_Md_meet_50 : decode b_Md_meet 50 = .ok (.aload_n 0, 1) := by decide +kernel
theorem d_Md_meet_51 : decode b_Md_meet 51 = .ok (.dup, 1) := by decide +kernel
theorem d_Md_meet_52 : decode b_Md_meet 52 = .ok (.getfield 109, 3) := by decide +kernel
theorem d_Md_meet_55 : decode b_Md_meet 55 = .ok (.iconst 1, 1) := by decide +kernel
theorem d_Md_meet_56 : decode b_Md_meet 56 = .ok (.iadd, 1) := by decide +kernel
theorem d_Md_meet_57 : decode b_Md_meet 57 = .ok (.putfield 109, 3) := by decide +kernel
theorem d_Md_meet_60 : decode b_Md_meet 60 = .ok (.return_, 1) := by decide +kernel
theorem d_Md_search_0 : decode b_Md_search 0 = .ok (.iconst 0, 1) := by decide +kernel
theorem d_Md_search_1 : decode b_Md_search 1 = .ok (.istore 4, 2) := by decide +kernel
theorem d_Md_search_3 : decode b_Md_search 3 = .ok (.iload 4, 2) := by decide +kernel
theorem d_Md_search_5 : decode b_Md_search 5 = .ok (.sipush 256, 3) := by decide +kernel
theorem d_Md_search_8 : decode b_Md_search 8 = .ok (.if_icmp .ge 17, 3) := by decide +kernel
theorem d_Md_search_11 : decode b_Md_search 11 = .ok (.aload_n 0, 1) := by decide +kernel
theorem d_Md_search_12 : decode b_Md_search 12 = .ok (.getfield 71, 3) := by decide +kernel
theorem d_Md_search_15 : decode b_Md_search 15 = .ok (.iload 4, 2) := by decide +kernel
theorem d_Md_search_17 : decode b_Md_search 17 = .ok (.lconst 0, 1) := by decide +kernel
theorem d_Md_search_18 : decode b_Md_search 18 = .ok (.lastore, 1) := by decide +kernel
theorem d_Md_search_19 : decode b_Md_search 19 = .ok (.iinc 4 1, 3) := by decide +kernel
theorem d_Md_search_22 : decode b_Md_search 22 = .ok (.goto (-19), 3) := by decide +kernel
theorem d_Md_search_25 : decode b_Md_search 25 = .ok (.aload_n 0, 1) := by decide +kernel
theorem d_Md_search_26 : decode b_Md_search 26 = .ok (.iconst 0, 1) := by decide +kernel
theorem d_Md_search_27 : decode b_Md_search 27 = .ok (.putfield 109, 3) := by decide +kernel
theorem d_Md_search_30 : decode b_Md_search 30 = .ok (.aload_n 0, 1) := by decide +kernel
theorem d_Md_search_31 : decode b_Md_search 31 = .ok (.iload_n 1, 1) := by decide +kernel
theorem d_Md_search_32 : decode b_Md_search 32 = .ok (.invokevirtual 112, 3) := by decide +kernel
theorem d_Md_search_35 : decode b_Md_search 35 = .ok (.iconst 0, 1) := by decide +kernel
theorem d_Md_search_36 : decode b_Md_search 36 = .ok (.istore 4, 2) := by decide +kernel
theorem d_Md_search_38 : decode b_Md_search 38 = .ok (.iload 4, 2) := by decide +kernel
theorem d_Md_search_40 : decode b_Md_search 40 = .ok (.aload_n 0, 1) := by decide +kernel
theorem d_Md_search_41 : decode b_Md_search 41 = .ok (.getfield 109, 3) := by decide +kernel
theorem d_Md_search_44 : decode b_Md_search 44 = .ok (.if_icmp .ge 99, 3) := by decide +kernel
theorem d_Md_search_47 : decode b_Md_search 47 = .ok (.aload_n 0, 1) := by decide +kernel
theorem d_Md_search_48 : decode b_Md_search 48 = .ok (.getfield 75, 3) := by decide +kernel
theorem d_Md_search_51 : decode b_Md_search 51 = .ok (.iload 4, 2) := by decide +kernel
theorem d_Md_search_53 : decode b_Md_search 53 = .ok (.iaload, 1) := by decide +kernel
theorem d_Md_search_54 : decode b_Md_search 54 = .ok (.istore 5, 2) := by decide +kernel
theorem d_Md_search_56 : decode b_Md_search 56 = .ok (.iload 5, 2) := by decide +kernel
theorem d_Md_search_58 : decode b_Md_search 58 = .ok (.iload_n 2, 1) := by decide +kernel
theorem d_Md_search_59 : decode b_Md_search 59 = .ok (.iand, 1) := by decide +kernel
theorem d_Md_search_60 : decode b_Md_search 60 = .ok (.iload_n 2, 1) := by decide +kernel
theorem d_Md_search_61 : decode b_Md_search 61 = .ok (.if_icmp .ne 5, 3) := by decide +kernel
theorem d_Md_search_64 : decode b_Md_search 64 = .ok (.iconst 1, 1) := by decide +kernel
theorem d_Md_search_65 : decode b_Md_search 65 = .ok (.ireturn, 1) := by decide +kernel
theorem d_Md_search_66 : decode b_Md_search 66 = .ok (.iconst 0, 1) := by decide +kernel
theorem d_Md_search_67 : decode b_Md_search 67 = .ok (.istore 6, 2) := by decide +kernel
theorem d_Md_search_69 : decode b_Md_search 69 = .ok (.iload 6, 2) := by decide +kernel
theorem d_Md_search_71 : decode b_Md_search 71 = .ok (.bipush 6, 2) := by decide +kernel
theorem d_Md_search_73 : decode b_Md_search 73 = .ok (.if_icmp .ge 64, 3) := by decide +kernel
theorem d_Md_search_76 : decode b_Md_search 76 = .ok (.iconst 0, 1) := by decide +kernel
theorem d_Md_search_77 : decode b_Md_search 77 = .ok (.istore 7, 2) := by decide +kernel
theorem d_Md_search_79 : decode b_Md_search 79 = .ok (.iload 7, 2) := by decide +kernel
theorem d_Md_search_81 : decode b_Md_search 81 = .ok (.bipush 10, 2) := by decide +kernel
theorem d_Md_search_83 : decode b_Md_search 83 = .ok (.if_icmp .ge 48, 3) := by decide +kernel
theorem d_Md_search_86 : decode b_Md_search 86 = .ok (.aload_n 0, 1) := by decide +kernel
theorem d_Md_search_87 : decode b_Md_search 87 = .ok (.getfield 7, 3) := by decide +kernel
theorem d_Md_search_90 : decode b_Md_search 90 = .ok (.iload 6, 2) := by decide +kernel
theorem d_Md_search_92 : decode b_Md_search 92 = .ok (.baload, 1) := by decide +kernel
theorem d_Md_search_93 : decode b_Md_search 93 = .ok (.ifCond .eq 38, 3) := by decide +kernel
theorem d_Md_search_96 : decode b_Md_search 96 = .ok (.iload 6, 2) := by decide +kernel
theorem d_Md_search_98 : decode b_Md_search 98 = .ok (.iload_n 3, 1) := by decide +kernel
theorem d_Md_search_99 : decode b_Md_search 99 = .ok (.if_icmp .eq 32, 3) := by decide +kernel
theorem d_Md_search_102 : decode b_Md_search 102 = .ok (.aload_n 0, 1) := by decide +kernel
theorem d_Md_search_103 : decode b_Md_search 103 = .ok (.iload 5, 2) := by decide +kernel
theorem d_Md_search_105 : decode b_Md_search 105 = .ok (.iload 6, 2) := by decide +kernel
theorem d_Md_search_107 : decode b_Md_search 107 = .ok (.iload 7, 2) := by decide +kernel
theorem d_Md_search_109 : decode b_Md_search 109 = .ok (.invokevirtual 116, 3) := by decide +kernel
theorem d_Md_search_112 : decode b_Md_search 112 = .ok (.istore 8, 2) := by decide +kernel
theorem d_Md_search_114 : decode b_Md_search 114 = .ok (.iload 8, 2) := by decide +kernel
theorem d_Md_search_116 : decode b_Md_search 116 = .ok (.ifCond .lt 9, 3) := by decide +kernel
theorem d_Md_search_119 : decode b_Md_search 119 = .ok (.aload_n 0, 1) := by decide +kernel
theorem d_Md_search_120 : decode b_Md_search 120 = .ok (.iload 8, 2) := by decide +kernel
theorem d_Md_search_122 : decode b_Md_search 122 = .ok (.invokevirtual 112, 3) := by decide +kernel
theorem d_Md_search_125 : decode b_Md_search 125 = .ok (.iinc 7 1, 3) := by decide +kernel
theorem d_Md_search_128 : decode b_Md_search 128 = .ok (.goto (-49), 3) := by decide +kernel
theorem d_Md_search_131 : decode b_Md_search 131 = .ok (.iinc 6 1, 3) := by decide +kernel
theorem d_Md_search_134 : decode b_Md_search 134 = .ok (.goto (-65), 3) := by decide +kernel
theorem d_Md_search_137 : decode b_Md_search 137 = .ok (.iinc 4 1, 3) := by decide +kernel
theorem d_Md_search_140 : decode b_Md_search 140 = .ok (.goto (-102), 3) := by decide +kernel
theorem d_Md_search_143 : decode b_Md_search 143 = .ok (.iconst 0, 1) := by decide +kernel
theorem d_Md_search_144 : decode b_Md_search 144 = .ok (.ireturn, 1) := by decide +kernel
theorem d_Md_covers_0 : decode b_Md_covers 0 = .ok (.iload_n 1, 1) := by decide +kernel
theorem d_Md_covers_1 : decode b_Md_covers 1 = .ok (.invokestatic 102, 3) := by decide +kernel
theorem d_Md_covers_4 : decode b_Md_covers 4 = .ok (.ifCond .eq 20, 3) := by decide +kernel
theorem d_Md_covers_7 : decode b_Md_covers 7 = .ok (.iload_n 2, 1) := by decide +kernel
theorem d_Md_covers_8 : decode b_Md_covers 8 = .ok (.invokestatic 102, 3) := by decide +kernel
theorem d_Md_covers_11 : decode b_Md_covers 11 = .ok (.ifCond .eq 13, 3) := by decide +kernel
theorem d_Md_covers_14 : decode b_Md_covers 14 = .ok (.iload_n 3, 1) := by decide +kernel
theorem d_Md_covers_15 : decode b_Md_covers 15 = .ok (.iconst (-1), 1) := by decide +kernel
theorem d_Md_covers_16 : decode b_Md_covers 16 = .ok (.if_icmp .lt 8, 3) := by decide +kernel
theorem d_Md_covers_19 : decode b_Md_covers 19 = .ok (.iload_n 3, 1) := by decide +kernel
theorem d_Md_covers_20 : decode b_Md_covers 20 = .ok (.iconst 5, 1) := by decide +kernel
theorem d_Md_covers_21 : decode b_Md_covers 21 = .ok (.if_icmp .le 5, 3) := by decide +kernel
theorem d_Md_covers_24 : decode b_Md_covers 24 = .ok (.iconst (-1), 1) := by decide +kernel
theorem d_Md_covers_25 : decode b_Md_covers 25 = .ok (.ireturn, 1) := by decide +kernel
theorem d_Md_covers_26 : decode b_Md_covers 26 = .ok (.aload_n 0, 1) := by decide +kernel
theorem d_Md_covers_27 : decode b_Md_covers 27 = .ok (.iload_n 1, 1) := by decide +kernel
theorem d_Md_covers_28 : decode b_Md_covers 28 = .ok (.iload_n 2, 1) := by decide +kernel
theorem d_Md_covers_29 : decode b_Md_covers 29 = .ok (.iload_n 3, 1) := by decide +kernel
theorem d_Md_covers_30 : decode b_Md_covers 30 = .ok (.invokevirtual 120, 3) := by decide +kernel
theorem d_Md_covers_33 : decode b_Md_covers 33 = .ok (.ifCond .eq 7, 3) := by decide +kernel
theorem d_Md_covers_36 : decode b_Md_covers 36 = .ok (.iconst 1, 1) := by decide +kernel
theorem d_Md_covers_37 : decode b_Md_covers 37 = .ok (.goto 4, 3) := by decide +kernel
theorem d_Md_covers_40 : decode b_Md_covers 40 = .ok (.iconst 0, 1) := by decide +kernel
theorem d_Md_covers_41 : decode b_Md_covers 41 = .ok (.ireturn, 1) := by decide +kernel
theorem d_Md_launch_0 : decode b_Md_launch 0 = .ok (.aload_n 0, 1) := by decide +kernel
theorem d_Md_launch_1 : decode b_Md_launch 1 = .ok (.getfield 89, 3) := by decide +kernel
theorem d_Md_launch_4 : decode b_Md_launch 4 = .ok (.ifCond .ne 10, 3) := by decide +kernel
theorem d_Md_launch_7 : decode b_Md_launch 7 = .ok (.aload_n 0, 1) := by decide +kernel
theorem d_Md_launch_8 : decode b_Md_launch 8 = .ok (.invokevirtual 124, 3) := by decide +kernel
theorem d_Md_launch_11 : decode b_Md_launch 11 = .ok (.ifCond .ne 5, 3) := by decide +kernel
theorem d_Md_launch_14 : decode b_Md_launch 14 = .ok (.iconst 0, 1) := by decide +kernel
theorem d_Md_launch_15 : decode b_Md_launch 15 = .ok (.ireturn, 1) := by decide +kernel
theorem d_Md_launch_16 : decode b_Md_launch 16 = .ok (.aload_n 0, 1) := by decide +kernel
theorem d_Md_launch_17 : decode b_Md_launch 17 = .ok (.iconst 1, 1) := by decide +kernel
theorem d_Md_launch_18 : decode b_Md_launch 18 = .ok (.putfield 89, 3) := by decide +kernel
theorem d_Md_launch_21 : decode b_Md_launch 21 = .ok (.aload_n 0, 1) := by decide +kernel
theorem d_Md_launch_22 : decode b_Md_launch 22 = .ok (.iconst 1, 1) := by decide +kernel
theorem d_Md_launch_23 : decode b_Md_launch 23 = .ok (.putfield 85, 3) := by decide +kernel
theorem d_Md_launch_26 : decode b_Md_launch 26 = .ok (.iconst 1, 1) := by decide +kernel
theorem d_Md_launch_27 : decode b_Md_launch 27 = .ok (.ireturn, 1) := by decide +kernel
theorem d_Md_stop_0 : decode b_Md_stop 0 = .ok (.aload_n 0, 1) := by decide +kernel
theorem d_Md_stop_1 : decode b_Md_stop 1 = .ok (.getfield 68, 3) := by decide +kernel
theorem d_Md_stop_4 : decode b_Md_stop 4 = .ok (.iload_n 1, 1) := by decide +kernel
theorem d_Md_stop_5 : decode b_Md_stop 5 = .ok (.iaload, 1) := by decide +kernel
theorem d_Md_stop_6 : decode b_Md_stop 6 = .ok (.istore_n 2, 1) := by decide +kernel
theorem d_Md_stop_7 : decode b_Md_stop 7 = .ok (.iload_n 2, 1) := by decide +kernel
theorem d_Md_stop_8 : decode b_Md_stop 8 = .ok (.aload_n 0, 1) := by decide +kernel
theorem d_Md_stop_9 : decode b_Md_stop 9 = .ok (.getfield 128, 3) := by decide +kernel
theorem d_Md_stop_12 : decode b_Md_stop 12 = .ok (.if_icmp .gt 40, 3) := by decide +kernel
theorem d_Md_stop_15 : decode b_Md_stop 15 = .ok (.iload_n 2, 1) := by decide +kernel
theorem d_Md_stop_16 : decode b_Md_stop 16 = .ok (.ifCond .le 36, 3) := by decide +kernel
theorem d_Md_stop_19 : decode b_Md_stop 19 = .ok (.aload_n 0, 1) := by decide +kernel
theorem d_Md_stop_20 : decode b_Md_stop 20 = .ok (.getfield 59, 3) := by decide +kernel
theorem d_Md_stop_23 : decode b_Md_stop 23 = .ok (.iload_n 2, 1) := by decide +kernel
theorem d_Md_stop_24 : decode b_Md_stop 24 = .ok (.iaload, 1) := by decide +kernel
theorem d_Md_stop_25 : decode b_Md_stop 25 = .ok (.iload_n 1, 1) := by decide +kernel
theorem d_Md_stop_26 : decode b_Md_stop 26 = .ok (.if_icmp .ne 20, 3) := by decide +kernel
theorem d_Md_stop_29 : decode b_Md_stop 29 = .ok (.aload_n 0, 1) := by decide +kernel
theorem d_Md_stop_30 : decode b_Md_stop 30 = .ok (.getfield 62, 3) := by decide +kernel
theorem d_Md_stop_33 : decode b_Md_stop 33 = .ok (.iload_n 2, 1) := by decide +kernel
theorem d_Md_stop_34 : decode b_Md_stop 34 = .ok (.iaload, 1) := by decide +kernel
theorem d_Md_stop_35 : decode b_Md_stop 35 = .ok (.iconst 2, 1) := by decide +kernel
theorem d_Md_stop_36 : decode b_Md_stop 36 = .ok (.if_icmp .gt 10, 3) := by decide +kernel
theorem d_Md_stop_39 : decode b_Md_stop 39 = .ok (.aload_n 0, 1) := by decide +kernel
theorem d_Md_stop_40 : decode b_Md_stop 40 = .ok (.getfield 62, 3) := by decide +kernel
theorem d_Md_stop_43 : decode b_Md_stop 43 = .ok (.iload_n 2, 1) := by decide +kernel
theorem d_Md_stop_44 : decode b_Md_stop 44 = .ok (.iconst 5, 1) := by decide +kernel
theorem d_Md_stop_45 : decode b_Md_stop 45 = .ok (.iastore, 1) := by decide +kernel
theorem d_Md_stop_46 : decode b_Md_stop 46 = .ok (.iinc 2 1, 3) := by decide +kernel
theorem d_Md_stop_49 : decode b_Md_stop 49 = .ok (.goto (-42), 3) := by decide +kernel
theorem d_Md_stop_52 : decode b_Md_stop 52 = .ok (.aload_n 0, 1) := by decide +kernel
theorem d_Md_stop_53 : decode b_Md_stop 53 = .ok (.dup, 1) := by decide +kernel
theorem d_Md_stop_54 : decode b_Md_stop 54 = .ok (.getfield 85, 3) := by decide +kernel
theorem d_Md_stop_57 : decode b_Md_stop 57 = .ok (.iconst 1, 1) := by decide +kernel
theorem d_Md_stop_58 : decode b_Md_stop 58 = .ok (.bipush 8, 2) := by decide +kernel
theorem d_Md_stop_60 : decode b_Md_stop 60 = .ok (.iload_n 1, 1) := by decide +kernel
theorem d_Md_stop_61 : decode b_Md_stop 61 = .ok (.iadd, 1) := by decide +kernel
theorem d_Md_stop_62 : decode b_Md_stop 62 = .ok (.ishl, 1) := by decide +kernel
theorem d_Md_stop_63 : decode b_Md_stop 63 = .ok (.iconst (-1), 1) := by decide +kernel
theorem d_Md_stop_64 : decode b_Md_stop 64 = .ok (.ixor, 1) := by decide +kernel
theorem d_Md_stop_65 : decode b_Md_stop 65 = .ok (.iand, 1) := by decide +kernel
theorem d_Md_stop_66 : decode b_Md_stop 66 = .ok (.putfield 85, 3) := by decide +kernel
theorem d_Md_stop_69 : decode b_Md_stop 69 = .ok (.return_, 1) := by decide +kernel
theorem d_Md_cancel_0 : decode b_Md_cancel 0 = .ok (.aload_n 0, 1) := by decide +kernel
theorem d_Md_cancel_1 : decode b_Md_cancel 1 = .ok (.getfield 89, 3) := by decide +kernel
theorem d_Md_cancel_4 : decode b_Md_cancel 4 = .ok (.ifCond .ne 5, 3) := by decide +kernel
theorem d_Md_cancel_7 : decode b_Md_cancel 7 = .ok (.iconst 0, 1) := by decide +kernel
theorem d_Md_cancel_8 : decode b_Md_cancel 8 = .ok (.ireturn, 1) := by decide +kernel
theorem d_Md_cancel_9 : decode b_Md_cancel 9 = .ok (.iconst 0, 1) := by decide +kernel
theorem d_Md_cancel_10 : decode b_Md_cancel 10 = .ok (.istore_n 1, 1) := by decide +kernel
theorem d_Md_cancel_11 : decode b_Md_cancel 11 = .ok (.iload_n 1, 1) := by decide +kernel
theorem d_Md_cancel_12 : decode b_Md_cancel 12 = .ok (.bipush 6, 2) := by decide +kernel
theorem d_Md_cancel_14 : decode b_Md_cancel 14 = .ok (.if_icmp .ge 22, 3) := by decide +kernel
theorem d_Md_cancel_17 : decode b_Md_cancel 17 = .ok (.aload_n 0, 1) := by decide +kernel
theorem d_Md_cancel_18 : decode b_Md_cancel 18 = .ok (.iload_n 1, 1) := by decide +kernel
theorem d_Md_cancel_19 : decode b_Md_cancel 19 = .ok (.invokevirtual 131, 3) := by decide +kernel
theorem d_Md_cancel_22 : decode b_Md_cancel 22 = .ok (.ifCond .eq 8, 3) := by decide +kernel
theorem d_Md_cancel_25 : decode b_Md_cancel 25 = .ok (.aload_n 0, 1) := by decide +kernel
theorem d_Md_cancel_26 : decode b_Md_cancel 26 = .ok (.iload_n 1, 1) := by decide +kernel
theorem d_Md_cancel_27 : decode b_Md_cancel 27 = .ok (.invokevirtual 134, 3) := by decide +kernel
theorem d_Md_cancel_30 : decode b_Md_cancel 30 = .ok (.iinc 1 1, 3) := by decide +kernel
theorem d_Md_cancel_33 : decode b_Md_cancel 33 = .ok (.goto (-22), 3) := by decide +kernel
theorem d_Md_cancel_36 : decode b_Md_cancel 36 = .ok (.aload_n 0, 1) := by decide +kernel
theorem d_Md_cancel_37 : decode b_Md_cancel 37 = .ok (.iconst 0, 1) := by decide +kernel
theorem d_Md_cancel_38 : decode b_Md_cancel 38 = .ok (.putfield 85, 3) := by decide +kernel
theorem d_Md_cancel_41 : decode b_Md_cancel 41 = .ok (.aload_n 0, 1) := by decide +kernel
theorem d_Md_cancel_42 : decode b_Md_cancel 42 = .ok (.iconst 0, 1) := by decide +kernel
theorem d_Md_cancel_43 : decode b_Md_cancel 43 = .ok (.putfield 89, 3) := by decide +kernel
theorem d_Md_cancel_46 : decode b_Md_cancel 46 = .ok (.iconst 1, 1) := by decide +kernel
theorem d_Md_cancel_47 : decode b_Md_cancel 47 = .ok (.ireturn, 1) := by decide +kernel
theorem d_Md_isLast_0 : decode b_Md_isLast 0 = .ok (.aload_n 0, 1) := by decide +kernel
theorem d_Md_isLast_1 : decode b_Md_isLast 1 = .ok (.getfield 20, 3) := by decide +kernel
theorem d_Md_isLast_4 : decode b_Md_isLast 4 = .ok (.iload_n 1, 1) := by decide +kernel
theorem d_Md_isLast_5 : decode b_Md_isLast 5 = .ok (.iaload, 1) := by decide +kernel
theorem d_Md_isLast_6 : decode b_Md_isLast 6 = .ok (.aload_n 0, 1) := by decide +kernel
theorem d_Md_isLast_7 : decode b_Md_isLast 7 = .ok (.getfield 85, 3) := by decide +kernel
theorem d_Md_isLast_10 : decode b_Md_isLast 10 = .ok (.iand, 1) := by decide +kernel
theorem d_Md_isLast_11 : decode b_Md_isLast 11 = .ok (.istore_n 2, 1) := by decide +kernel
theorem d_Md_isLast_12 : decode b_Md_isLast 12 = .ok (.iconst 0, 1) := by decide +kernel
theorem d_Md_isLast_13 : decode b_Md_isLast 13 = .ok (.istore_n 3, 1) := by decide +kernel
theorem d_Md_isLast_14 : decode b_Md_isLast 14 = .ok (.iload_n 3, 1) := by decide +kernel
theorem d_Md_isLast_15 : decode b_Md_isLast 15 = .ok (.iconst 3, 1) := by decide +kernel
theorem d_Md_isLast_16 : decode b_Md_isLast 16 = .ok (.if_icmp .ge 51, 3) := by decide +kernel
theorem d_Md_isLast_19 : decode b_Md_isLast 19 = .ok (.aload_n 0, 1) := by decide +kernel
theorem d_Md_isLast_20 : decode b_Md_isLast 20 = .ok (.getfield 26, 3) := by decide +kernel
theorem d_Md_isLast_23 : decode b_Md_isLast 23 = .ok (.iconst 3, 1) := by decide +kernel
theorem d_Md_isLast_24 : decode b_Md_isLast 24 = .ok (.iload_n 1, 1) := by decide +kernel
theorem d_Md_isLast_25 : decode b_Md_isLast 25 = .ok (.imul, 1) := by decide +kernel
theorem d_Md_isLast_26 : decode b_Md_isLast 26 = .ok (.iload_n 3, 1) := by decide +kernel
theorem d_Md_isLast_27 : decode b_Md_isLast 27 = .ok (.iadd, 1) := by decide +kernel
theorem d_Md_isLast_28 : decode b_Md_isLast 28 = .ok (.iaload, 1) := by decide +kernel
theorem d_Md_isLast_29 : decode b_Md_isLast 29 = .ok (.istore 4, 2) := by decide +kernel
theorem d_Md_isLast_31 : decode b_Md_isLast 31 = .ok (.iload 4, 2) := by decide +kernel
theorem d_Md_isLast_33 : decode b_Md_isLast 33 = .ok (.ifCond .eq 28, 3) := by decide +kernel
theorem d_Md_isLast_36 : decode b_Md_isLast 36 = .ok (.iload_n 2, 1) := by decide +kernel
theorem d_Md_isLast_37 : decode b_Md_isLast 37 = .ok (.iload 4, 2) := by decide +kernel
theorem d_Md_isLast_39 : decode b_Md_isLast 39 = .ok (.iand, 1) := by decide +kernel
theorem d_Md_isLast_40 : decode b_Md_isLast 40 = .ok (.ifCond .ne 21, 3) := by decide +kernel
theorem d_Md_isLast_43 : decode b_Md_isLast 43 = .ok (.aload_n 0, 1) := by decide +kernel
theorem d_Md_isLast_44 : decode b_Md_isLast 44 = .ok (.aload_n 0, 1) := by decide +kernel
theorem d_Md_isLast_45 : decode b_Md_isLast 45 = .ok (.getfield 85, 3) := by decide +kernel
theorem d_Md_isLast_48 : decode b_Md_isLast 48 = .ok (.iload_n 2, 1) := by decide +kernel
theorem d_Md_isLast_49 : decode b_Md_isLast 49 = .ok (.iload 4, 2) := by decide +kernel
theorem d_Md_isLast_51 : decode b_Md_isLast 51 = .ok (.ior, 1) := by decide +kernel
theorem d_Md_isLast_52 : decode b_Md_isLast 52 = .ok (.iload_n 1, 1) := by decide +kernel
theorem d_Md_isLast_53 : decode b_Md_isLast 53 = .ok (.invokevirtual 120, 3) := by decide +kernel
theorem d_Md_isLast_56 : decode b_Md_isLast 56 = .ok (.ifCond .eq 5, 3) := by decide +kernel
theorem d_Md_isLast_59 : decode b_Md_isLast 59 = .ok (.iconst 0, 1) := by decide +kernel
theorem d_Md_isLast_60 : decode b_Md_isLast 60 = .ok (.ireturn, 1) := by decide +kernel
theorem d_Md_isLast_61 : decode b_Md_isLast 61 = .ok (.iinc 3 1, 3) := by decide +kernel
theorem d_Md_isLast_64 : decode b_Md_isLast 64 = .ok (.goto (-50), 3) := by decide +kernel
theorem d_Md_isLast_67 : decode b_Md_isLast 67 = .ok (.iconst 1, 1) := by decide +kernel
theorem d_Md_isLast_68 : decode b_Md_isLast 68 = .ok (.ireturn, 1) := by decide +kernel
