theorem d_Md_verdict_0 : decode b_Md_verdict 0 = .ok (.iconst 0, 1) := by decide +kernel
theorem d_Md_verdict_1 : decode b_Md_verdict 1 = .ok (.istore_n 1, 1) := by decide +kernel
theorem d_Md_verdict_2 : decode b_Md_verdict 2 = .ok (.iload_n 1, 1) := by decide +kernel
theorem d_Md_verdict_3 : decode b_Md_verdict 3 = .ok (.bipush 6, 2) := by decide +kernel
theorem d_Md_verdict_5 : decode b_Md_verdict 5 = .ok (.if_icmp .ge 30, 3) := by decide +kernel
theorem d_Md_verdict_8 : decode b_Md_verdict 8 = .ok (.aload_n 0, 1) := by decide +kernel
theorem d_Md_verdict_9 : decode b_Md_verdict 9 = .ok (.getfield 7, 3) := by decide +kernel
theorem d_Md_verdict_12 : decode b_Md_verdict 12 = .ok (.iload_n 1, 1) := by decide +kernel
theorem d_Md_verdict_13 : decode b_Md_verdict 13 = .ok (.baload, 1) := by decide +kernel
theorem d_Md_verdict_14 : decode b_Md_verdict 14 = .ok (.ifCond .eq 15, 3) := by decide +kernel
theorem d_Md_verdict_17 : decode b_Md_verdict 17 = .ok (.aload_n 0, 1) := by decide +kernel
theorem d_Md_verdict_18 : decode b_Md_verdict 18 = .ok (.getfield 13, 3) := by decide +kernel
theorem d_Md_verdict_21 : decode b_Md_verdict 21 = .ok (.iload_n 1, 1) := by decide +kernel
theorem d_Md_verdict_22 : decode b_Md_verdict 22 = .ok (.iaload, 1) := by decide +kernel
theorem d_Md_verdict_23 : decode b_Md_verdict 23 = .ok (.iconst 2, 1) := by decide +kernel
theorem d_Md_verdict_24 : decode b_Md_verdict 24 = .ok (.if_icmp .ne 5, 3) := by decide +kernel
theorem d_Md_verdict_27 : decode b_Md_verdict 27 = .ok (.iconst (-1), 1) := by decide +kernel
theorem d_Md_verdict_28 : decode b_Md_verdict 28 = .ok (.ireturn, 1) := by decide +kernel
theorem d_Md_verdict_29 : decode b_Md_verdict 29 = .ok (.iinc 1 1, 3) := by decide +kernel
theorem d_Md_verdict_32 : decode b_Md_verdict 32 = .ok (.goto (-30), 3) := by decide +kernel
theorem d_Md_verdict_35 : decode b_Md_verdict 35 = .ok (.aload_n 0, 1) := by decide +kernel
theorem d_Md_verdict_36 : decode b_Md_verdict 36 = .ok (.invokevirtual 124, 3) := by decide +kernel
theorem d_Md_verdict_39 : decode b_Md_verdict 39 = .ok (.ifCond .ne 5, 3) := by decide +kernel
theorem d_Md_verdict_42 : decode b_Md_verdict 42 = .ok (.iconst (-1), 1) := by decide +kernel
theorem d_Md_verdict_43 : decode b_Md_verdict 43 = .ok (.ireturn, 1) := by decide +kernel
theorem d_Md_verdict_44 : decode b_Md_verdict 44 = .ok (.aload_n 0, 1) := by decide +kernel
theorem d_Md_verdict_45 : decode b_Md_verdict 45 = .ok (.iconst 1, 1) := by decide +kernel
theorem d_Md_verdict_46 : decode b_Md_verdict 46 = .ok (.sipush 16384, 3) := by decide +kernel
theorem d_Md_verdict_49 : decode b_Md_verdict 49 = .ok (.iconst (-1), 1) := by decide +kernel
theorem d_Md_verdict_50 : decode b_Md_verdict 50 = .ok (.invokevirtual 120, 3) := by decide +kernel
theorem d_Md_verdict_53 : decode b_Md_verdict 53 = .ok (.istore_n 1, 1) := by decide +kernel
theorem d_Md_verdict_54 : decode b_Md_verdict 54 = .ok (.iload_n 1, 1) := by decide +kernel
theorem d_Md_verdict_55 : decode b_Md_verdict 55 = .ok (.ifCond .ne 7, 3) := by decide +kernel
theorem d_Md_verdict_58 : decode b_Md_verdict 58 = .ok (.iconst 1, 1) := by decide +kernel
theorem d_Md_verdict_59 : decode b_Md_verdict 59 = .ok (.goto 4, 3) := by decide +kernel
theorem d_Md_verdict_62 : decode b_Md_verdict 62 = .ok (.iconst 0, 1) := by decide +kernel
theorem d_Md_verdict_63 : decode b_Md_verdict 63 = .ok (.istore_n 2, 1) := by decide +kernel
theorem d_Md_verdict_64 : decode b_Md_verdict 64 = .ok (.iconst 1, 1) := by decide +kernel
theorem d_Md_verdict_65 : decode b_Md_verdict 65 = .ok (.istore_n 3, 1) := by decide +kernel
theorem d_Md_verdict_66 : decode b_Md_verdict 66 = .ok (.iconst 0, 1) := by decide +kernel
theorem d_Md_verdict_67 : decode b_Md_verdict 67 = .ok (.istore 4, 2) := by decide +kernel
theorem d_Md_verdict_69 : decode b_Md_verdict 69 = .ok (.iload 4, 2) := by decide +kernel
theorem d_Md_verdict_71 : decode b_Md_verdict 71 = .ok (.aload_n 0, 1) := by decide +kernel
theorem d_Md_verdict_72 : decode b_Md_verdict 72 = .ok (.getfield 109, 3) := by decide +kernel
theorem d_Md_verdict_75 : decode b_Md_verdict 75 = .ok (.if_icmp .ge 42, 3) := by decide +kernel
theorem d_Md_verdict_78 : decode b_Md_verdict 78 = .ok (.iload_n 2, 1) := by decide +kernel
theorem d_Md_verdict_79 : decode b_Md_verdict 79 = .ok (.ifCond .eq 30, 3) := by decide +kernel
theorem d_Md_verdict_82 : decode b_Md_verdict 82 = .ok (.aload_n 0, 1) := by decide +kernel
theorem d_Md_verdict_83 : decode b_Md_verdict 83 = .ok (.getfield 75, 3) := by decide +kernel
theorem d_Md_verdict_86 : decode b_Md_verdict 86 = .ok (.iload 4, 2) := by decide +kernel
theorem d_Md_verdict_88 : decode b_Md_verdict 88 = .ok (.iaload, 1) := by decide +kernel
theorem d_Md_verdict_89 : decode b_Md_verdict 89 = .ok (.iconst 2, 1) := by decide +kernel
theorem d_Md_verdict_90 : decode b_Md_verdict 90 = .ok (.iand, 1) := by decide +kernel
theorem d_Md_verdict_91 : decode b_Md_verdict 91 = .ok (.ifCond .eq 14, 3) := by decide +kernel
theorem d_Md_verdict_94 : decode b_Md_verdict 94 = .ok (.aload_n 0, 1) := by decide +kernel
theorem d_Md_verdict_95 : decode b_Md_verdict 95 = .ok (.getfield 75, 3) := by decide +kernel
theorem d_Md_verdict_98 : decode b_Md_verdict 98 = .ok (.iload 4, 2) := by decide +kernel
theorem d_Md_verdict_100 : decode b_Md_verdict 100 = .ok (.iaload, 1) := by decide +kernel
theorem d_Md_verdict_101 : decode b_Md_verdict 101 = .ok (.iconst 2, 1) := by decide +kernel
theorem d_Md_verdict_102 : decode b_Md_verdict 102 = .ok (.if_icmp .ne 7, 3) := by decide +kernel
theorem d_Md_verdict_105 : decode b_Md_verdict 105 = .ok (.iconst 1, 1) := by decide +kernel
theorem d_Md_verdict_106 : decode b_Md_verdict 106 = .ok (.goto 4, 3) := by decide +kernel
theorem d_Md_verdict_109 : decode b_Md_verdict 109 = .ok (.iconst 0, 1) := by decide +kernel
theorem d_Md_verdict_110 : decode b_Md_verdict 110 = .ok (.istore_n 2, 1) := by decide +kernel
theorem d_Md_verdict_111 : decode b_Md_verdict 111 = .ok (.iinc 4 1, 3) := by decide +kernel
theorem d_Md_verdict_114 : decode b_Md_verdict 114 = .ok (.goto (-45), 3) := by decide +kernel
theorem d_Md_verdict_117 : decode b_Md_verdict 117 = .ok (.iconst 0, 1) := by decide +kernel
theorem d_Md_verdict_118 : decode b_Md_verdict 118 = .ok (.istore 4, 2) := by decide +kernel
theorem d_Md_verdict_120 : decode b_Md_verdict 120 = .ok (.iload 4, 2) := by decide +kernel
theorem d_Md_verdict_122 : decode b_Md_verdict 122 = .ok (.bipush 6, 2) := by decide +kernel
theorem d_Md_verdict_124 : decode b_Md_verdict 124 = .ok (.if_icmp .ge 38, 3) := by decide +kernel
theorem d_Md_verdict_127 : decode b_Md_verdict 127 = .ok (.iload_n 3, 1) := by decide +kernel
theorem d_Md_verdict_128 : decode b_Md_verdict 128 = .ok (.ifCond .eq 26, 3) := by decide +kernel
theorem d_Md_verdict_131 : decode b_Md_verdict 131 = .ok (.aload_n 0, 1) := by decide +kernel
theorem d_Md_verdict_132 : decode b_Md_verdict 132 = .ok (.getfield 7, 3) := by decide +kernel
theorem d_Md_verdict_135 : decode b_Md_verdict 135 = .ok (.iload 4, 2) := by decide +kernel
theorem d_Md_verdict_137 : decode b_Md_verdict 137 = .ok (.baload, 1) := by decide +kernel
theorem d_Md_verdict_138 : decode b_Md_verdict 138 = .ok (.ifCond .eq 12, 3) := by decide +kernel
theorem d_Md_verdict_141 : decode b_Md_verdict 141 = .ok (.aload_n 0, 1) := by decide +kernel
theorem d_Md_verdict_142 : decode b_Md_verdict 142 = .ok (.iload 4, 2) := by decide +kernel
theorem d_Md_verdict_144 : decode b_Md_verdict 144 = .ok (.invokevirtual 164, 3) := by decide +kernel
theorem d_Md_verdict_147 : decode b_Md_verdict 147 = .ok (.ifCond .eq 7, 3) := by decide +kernel
theorem d_Md_verdict_150 : decode b_Md_verdict 150 = .ok (.iconst 1, 1) := by decide +kernel
theorem d_Md_verdict_151 : decode b_Md_verdict 151 = .ok (.goto 4, 3) := by decide +kernel
theorem d_Md_verdict_154 : decode b_Md_verdict 154 = .ok (.iconst 0, 1) := by decide +kernel
theorem d_Md_verdict_155 : decode b_Md_verdict 155 = .ok (.istore_n 3, 1) := by decide +kernel
theorem d_Md_verdict_156 : decode b_Md_verdict 156 = .ok (.iinc 4 1, 3) := by decide +kernel
theorem d_Md_verdict_159 : decode b_Md_verdict 159 = .ok (.goto (-39), 3) := by decide +kernel
theorem d_Md_verdict_162 : decode b_Md_verdict 162 = .ok (.aload_n 0, 1) := by decide +kernel
theorem d_Md_verdict_163 : decode b_Md_verdict 163 = .ok (.invokevirtual 167, 3) := by decide +kernel
theorem d_Md_verdict_166 : decode b_Md_verdict 166 = .ok (.istore 4, 2) := by decide +kernel
theorem d_Md_verdict_168 : decode b_Md_verdict 168 = .ok (.iload 4, 2) := by decide +kernel
theorem d_Md_verdict_170 : decode b_Md_verdict 170 = .ok (.ifCond .eq 7, 3) := by decide +kernel
theorem d_Md_verdict_173 : decode b_Md_verdict 173 = .ok (.iconst 1, 1) := by decide +kernel
theorem d_Md_verdict_174 : decode b_Md_verdict 174 = .ok (.goto 4, 3) := by decide +kernel
theorem d_Md_verdict_177 : decode b_Md_verdict 177 = .ok (.iconst 0, 1) := by decide +kernel
theorem d_Md_verdict_178 : decode b_Md_verdict 178 = .ok (.iload_n 2, 1) := by decide +kernel
theorem d_Md_verdict_179 : decode b_Md_verdict 179 = .ok (.ifCond .eq 7, 3) := by decide +kernel
theorem d_Md_verdict_182 : decode b_Md_verdict 182 = .ok (.iconst 2, 1) := by decide +kernel
theorem d_Md_verdict_183 : decode b_Md_verdict 183 = .ok (.goto 4, 3) := by decide +kernel
theorem d_Md_verdict_186 : decode b_Md_verdict 186 = .ok (.iconst 0, 1) := by decide +kernel
theorem d_Md_verdict_187 : decode b_Md_verdict 187 = .ok (.iadd, 1) := by decide +kernel
theorem d_Md_verdict_188 : decode b_Md_verdict 188 = .ok (.iload_n 3, 1) := by decide +kernel
theorem d_Md_verdict_189 : decode b_Md_verdict 189 = .ok (.ifCond .eq 7, 3) := by decide +kernel
theorem d_Md_verdict_192 : decode b_Md_verdict 192 = .ok (.iconst 4, 1) := by decide +kernel
theorem d_Md_verdict_193 : decode b_Md_verdict 193 = .ok (.goto 4, 3) := by decide +kernel
theorem d_Md_verdict_196 : decode b_Md_verdict 196 = .ok (.iconst 0, 1) := by decide +kernel
theorem d_Md_verdict_197 : decode b_Md_verdict 197 = .ok (.iadd, 1) := by decide +kernel
theorem d_Md_verdict_198 : decode b_Md_verdict 198 = .ok (.ireturn, 1) := by decide +kernel
