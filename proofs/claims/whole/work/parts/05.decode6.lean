theorem d_Md_task_0 : decode b_Md_task 0 = .ok (.aload_n 0, 1) := by decide +kernel
theorem d_Md_task_1 : decode b_Md_task 1 = .ok (.getfield 89, 3) := by decide +kernel
theorem d_Md_task_4 : decode b_Md_task 4 = .ok (.ifCond .ne 28, 3) := by decide +kernel
theorem d_Md_task_7 : decode b_Md_task 7 = .ok (.iload_n 1, 1) := by decide +kernel
theorem d_Md_task_8 : decode b_Md_task 8 = .ok (.invokestatic 81, 3) := by decide +kernel
theorem d_Md_task_11 : decode b_Md_task 11 = .ok (.ifCond .eq 21, 3) := by decide +kernel
theorem d_Md_task_14 : decode b_Md_task 14 = .ok (.iload_n 2, 1) := by decide +kernel
theorem d_Md_task_15 : decode b_Md_task 15 = .ok (.ifCond .lt 17, 3) := by decide +kernel
theorem d_Md_task_18 : decode b_Md_task 18 = .ok (.iload_n 2, 1) := by decide +kernel
theorem d_Md_task_19 : decode b_Md_task 19 = .ok (.iconst 2, 1) := by decide +kernel
theorem d_Md_task_20 : decode b_Md_task 20 = .ok (.if_icmp .gt 12, 3) := by decide +kernel
theorem d_Md_task_23 : decode b_Md_task 23 = .ok (.iload_n 3, 1) := by decide +kernel
theorem d_Md_task_24 : decode b_Md_task 24 = .ok (.ifCond .lt 8, 3) := by decide +kernel
theorem d_Md_task_27 : decode b_Md_task 27 = .ok (.iload_n 3, 1) := by decide +kernel
theorem d_Md_task_28 : decode b_Md_task 28 = .ok (.iconst 2, 1) := by decide +kernel
theorem d_Md_task_29 : decode b_Md_task 29 = .ok (.if_icmp .le 5, 3) := by decide +kernel
theorem d_Md_task_32 : decode b_Md_task 32 = .ok (.iconst 0, 1) := by decide +kernel
theorem d_Md_task_33 : decode b_Md_task 33 = .ok (.ireturn, 1) := by decide +kernel
theorem d_Md_task_34 : decode b_Md_task 34 = .ok (.iload 4, 2) := by decide +kernel
theorem d_Md_task_36 : decode b_Md_task 36 = .ok (.iconst 1, 1) := by decide +kernel
theorem d_Md_task_37 : decode b_Md_task 37 = .ok (.if_icmp .lt 43, 3) := by decide +kernel
theorem d_Md_task_40 : decode b_Md_task 40 = .ok (.iload 4, 2) := by decide +kernel
theorem d_Md_task_42 : decode b_Md_task 42 = .ok (.sipush 255, 3) := by decide +kernel
theorem d_Md_task_45 : decode b_Md_task 45 = .ok (.if_icmp .gt 35, 3) := by decide +kernel
theorem d_Md_task_48 : decode b_Md_task 48 = .ok (.iload 5, 2) := by decide +kernel
theorem d_Md_task_50 : decode b_Md_task 50 = .ok (.iconst 1, 1) := by decide +kernel
theorem d_Md_task_51 : decode b_Md_task 51 = .ok (.if_icmp .lt 29, 3) := by decide +kernel
theorem d_Md_task_54 : decode b_Md_task 54 = .ok (.iload 5, 2) := by decide +kernel
theorem d_Md_task_56 : decode b_Md_task 56 = .ok (.sipush 255, 3) := by decide +kernel
theorem d_Md_task_59 : decode b_Md_task 59 = .ok (.if_icmp .gt 21, 3) := by decide +kernel
theorem d_Md_task_62 : decode b_Md_task 62 = .ok (.iload 4, 2) := by decide +kernel
theorem d_Md_task_64 : decode b_Md_task 64 = .ok (.invokestatic 93, 3) := by decide +kernel
theorem d_Md_task_67 : decode b_Md_task 67 = .ok (.iconst 3, 1) := by decide +kernel
theorem d_Md_task_68 : decode b_Md_task 68 = .ok (.if_icmp .gt 12, 3) := by decide +kernel
theorem d_Md_task_71 : decode b_Md_task 71 = .ok (.iload 5, 2) := by decide +kernel
theorem d_Md_task_73 : decode b_Md_task 73 = .ok (.invokestatic 93, 3) := by decide +kernel
theorem d_Md_task_76 : decode b_Md_task 76 = .ok (.iconst 3, 1) := by decide +kernel
theorem d_Md_task_77 : decode b_Md_task 77 = .ok (.if_icmp .le 5, 3) := by decide +kernel
theorem d_Md_task_80 : decode b_Md_task 80 = .ok (.iconst 0, 1) := by decide +kernel
theorem d_Md_task_81 : decode b_Md_task 81 = .ok (.ireturn, 1) := by decide +kernel
theorem d_Md_task_82 : decode b_Md_task 82 = .ok (.aload_n 0, 1) := by decide +kernel
theorem d_Md_task_83 : decode b_Md_task 83 = .ok (.getfield 7, 3) := by decide +kernel
theorem d_Md_task_86 : decode b_Md_task 86 = .ok (.iload_n 1, 1) := by decide +kernel
theorem d_Md_task_87 : decode b_Md_task 87 = .ok (.iconst 1, 1) := by decide +kernel
theorem d_Md_task_88 : decode b_Md_task 88 = .ok (.bastore, 1) := by decide +kernel
theorem d_Md_task_89 : decode b_Md_task 89 = .ok (.aload_n 0, 1) := by decide +kernel
theorem d_Md_task_90 : decode b_Md_task 90 = .ok (.getfield 13, 3) := by decide +kernel
theorem d_Md_task_93 : decode b_Md_task 93 = .ok (.iload_n 1, 1) := by decide +kernel
theorem d_Md_task_94 : decode b_Md_task 94 = .ok (.iload_n 2, 1) := by decide +kernel
theorem d_Md_task_95 : decode b_Md_task 95 = .ok (.iastore, 1) := by decide +kernel
theorem d_Md_task_96 : decode b_Md_task 96 = .ok (.aload_n 0, 1) := by decide +kernel
theorem d_Md_task_97 : decode b_Md_task 97 = .ok (.getfield 17, 3) := by decide +kernel
theorem d_Md_task_100 : decode b_Md_task 100 = .ok (.iload_n 1, 1) := by decide +kernel
theorem d_Md_task_101 : decode b_Md_task 101 = .ok (.iload_n 3, 1) := by decide +kernel
theorem d_Md_task_102 : decode b_Md_task 102 = .ok (.iastore, 1) := by decide +kernel
theorem d_Md_task_103 : decode b_Md_task 103 = .ok (.aload_n 0, 1) := by decide +kernel
theorem d_Md_task_104 : decode b_Md_task 104 = .ok (.getfield 20, 3) := by decide +kernel
theorem d_Md_task_107 : decode b_Md_task 107 = .ok (.iload_n 1, 1) := by decide +kernel
theorem d_Md_task_108 : decode b_Md_task 108 = .ok (.iload 4, 2) := by decide +kernel
theorem d_Md_task_110 : decode b_Md_task 110 = .ok (.iastore, 1) := by decide +kernel
theorem d_Md_task_111 : decode b_Md_task 111 = .ok (.aload_n 0, 1) := by decide +kernel
theorem d_Md_task_112 : decode b_Md_task 112 = .ok (.getfield 23, 3) := by decide +kernel
theorem d_Md_task_115 : decode b_Md_task 115 = .ok (.iload_n 1, 1) := by decide +kernel
theorem d_Md_task_116 : decode b_Md_task 116 = .ok (.iload 5, 2) := by decide +kernel
theorem d_Md_task_118 : decode b_Md_task 118 = .ok (.iastore, 1) := by decide +kernel
theorem d_Md_task_119 : decode b_Md_task 119 = .ok (.iconst 0, 1) := by decide +kernel
theorem d_Md_task_120 : decode b_Md_task 120 = .ok (.istore 6, 2) := by decide +kernel
theorem d_Md_task_122 : decode b_Md_task 122 = .ok (.iconst 0, 1) := by decide +kernel
theorem d_Md_task_123 : decode b_Md_task 123 = .ok (.istore 7, 2) := by decide +kernel
theorem d_Md_task_125 : decode b_Md_task 125 = .ok (.iconst 0, 1) := by decide +kernel
theorem d_Md_task_126 : decode b_Md_task 126 = .ok (.istore 8, 2) := by decide +kernel
theorem d_Md_task_128 : decode b_Md_task 128 = .ok (.iload 8, 2) := by decide +kernel
theorem d_Md_task_130 : decode b_Md_task 130 = .ok (.iconst 3, 1) := by decide +kernel
theorem d_Md_task_131 : decode b_Md_task 131 = .ok (.if_icmp .ge 33, 3) := by decide +kernel
theorem d_Md_task_134 : decode b_Md_task 134 = .ok (.aload_n 0, 1) := by decide +kernel
theorem d_Md_task_135 : decode b_Md_task 135 = .ok (.getfield 26, 3) := by decide +kernel
theorem d_Md_task_138 : decode b_Md_task 138 = .ok (.iconst 3, 1) := by decide +kernel
theorem d_Md_task_139 : decode b_Md_task 139 = .ok (.iload_n 1, 1) := by decide +kernel
theorem d_Md_task_140 : decode b_Md_task 140 = .ok (.imul, 1) := by decide +kernel
theorem d_Md_task_141 : decode b_Md_task 141 = .ok (.iload 8, 2) := by decide +kernel
theorem d_Md_task_143 : decode b_Md_task 143 = .ok (.iadd, 1) := by decide +kernel
theorem d_Md_task_144 : decode b_Md_task 144 = .ok (.iconst 0, 1) := by decide +kernel
theorem d_Md_task_145 : decode b_Md_task 145 = .ok (.iastore, 1) := by decide +kernel
theorem d_Md_task_146 : decode b_Md_task 146 = .ok (.aload_n 0, 1) := by decide +kernel
theorem d_Md_task_147 : decode b_Md_task 147 = .ok (.getfield 29, 3) := by decide +kernel
theorem d_Md_task_150 : decode b_Md_task 150 = .ok (.iconst 3, 1) := by decide +kernel
theorem d_Md_task_151 : decode b_Md_task 151 = .ok (.iload_n 1, 1) := by decide +kernel
theorem d_Md_task_152 : decode b_Md_task 152 = .ok (.imul, 1) := by decide +kernel
theorem d_Md_task_153 : decode b_Md_task 153 = .ok (.iload 8, 2) := by decide +kernel
theorem d_Md_task_155 : decode b_Md_task 155 = .ok (.iadd, 1) := by decide +kernel
theorem d_Md_task_156 : decode b_Md_task 156 = .ok (.iconst 0, 1) := by decide +kernel
theorem d_Md_task_157 : decode b_Md_task 157 = .ok (.iastore, 1) := by decide +kernel
theorem d_Md_task_158 : decode b_Md_task 158 = .ok (.iinc 8 1, 3) := by decide +kernel
theorem d_Md_task_161 : decode b_Md_task 161 = .ok (.goto (-33), 3) := by decide +kernel
theorem d_Md_task_164 : decode b_Md_task 164 = .ok (.iconst 0, 1) := by decide +kernel
theorem d_Md_task_165 : decode b_Md_task 165 = .ok (.istore 8, 2) := by decide +kernel
theorem d_Md_task_167 : decode b_Md_task 167 = .ok (.iload 8, 2) := by decide +kernel
theorem d_Md_task_169 : decode b_Md_task 169 = .ok (.bipush 8, 2) := by decide +kernel
theorem d_Md_task_171 : decode b_Md_task 171 = .ok (.if_icmp .ge 108, 3) := by decide +kernel
theorem d_Md_task_174 : decode b_Md_task 174 = .ok (.iload 4, 2) := by decide +kernel
theorem d_Md_task_176 : decode b_Md_task 176 = .ok (.iload 8, 2) := by decide +kernel
theorem d_Md_task_178 : decode b_Md_task 178 = .ok (.ishr, 1) := by decide +kernel
theorem d_Md_task_179 : decode b_Md_task 179 = .ok (.iconst 1, 1) := by decide +kernel
theorem d_Md_task_180 : decode b_Md_task 180 = .ok (.iand, 1) := by decide +kernel
theorem d_Md_task_181 : decode b_Md_task 181 = .ok (.iconst 1, 1) := by decide +kernel
theorem d_Md_task_182 : decode b_Md_task 182 = .ok (.if_icmp .ne 21, 3) := by decide +kernel
theorem d_Md_task_185 : decode b_Md_task 185 = .ok (.aload_n 0, 1) := by decide +kernel
theorem d_Md_task_186 : decode b_Md_task 186 = .ok (.getfield 26, 3) := by decide +kernel
theorem d_Md_task_189 : decode b_Md_task 189 = .ok (.iconst 3, 1) := by decide +kernel
theorem d_Md_task_190 : decode b_Md_task 190 = .ok (.iload_n 1, 1) := by decide +kernel
theorem d_Md_task_191 : decode b_Md_task 191 = .ok (.imul, 1) := by decide +kernel
theorem d_Md_task_192 : decode b_Md_task 192 = .ok (.iload 6, 2) := by decide +kernel
theorem d_Md_task_194 : decode b_Md_task 194 = .ok (.iadd, 1) := by decide +kernel
theorem d_Md_task_195 : decode b_Md_task 195 = .ok (.iconst 1, 1) := by decide +kernel
theorem d_Md_task_196 : decode b_Md_task 196 = .ok (.iload 8, 2) := by decide +kernel
theorem d_Md_task_198 : decode b_Md_task 198 = .ok (.ishl, 1) := by decide +kernel
theorem d_Md_task_199 : decode b_Md_task 199 = .ok (.iastore, 1) := by decide +kernel
theorem d_Md_task_200 : decode b_Md_task 200 = .ok (.iinc 6 1, 3) := by decide +kernel
theorem d_Md_task_203 : decode b_Md_task 203 = .ok (.iload 5, 2) := by decide +kernel
theorem d_Md_task_205 : decode b_Md_task 205 = .ok (.iload 8, 2) := by decide +kernel
theorem d_Md_task_207 : decode b_Md_task 207 = .ok (.ishr, 1) := by decide +kernel
theorem d_Md_task_208 : decode b_Md_task 208 = .ok (.iconst 1, 1) := by decide +kernel
theorem d_Md_task_209 : decode b_Md_task 209 = .ok (.iand, 1) := by decide +kernel
theorem d_Md_task_210 : decode b_Md_task 210 = .ok (.iconst 1, 1) := by decide +kernel
theorem d_Md_task_211 : decode b_Md_task 211 = .ok (.if_icmp .ne 21, 3) := by decide +kernel
theorem d_Md_task_214 : decode b_Md_task 214 = .ok (.aload_n 0, 1) := by decide +kernel
theorem d_Md_task_215 : decode b_Md_task 215 = .ok (.getfield 29, 3) := by decide +kernel
theorem d_Md_task_218 : decode b_Md_task 218 = .ok (.iconst 3, 1) := by decide +kernel
theorem d_Md_task_219 : decode b_Md_task 219 = .ok (.iload_n 1, 1) := by decide +kernel
theorem d_Md_task_220 : decode b_Md_task 220 = .ok (.imul, 1) := by decide +kernel
theorem d_Md_task_221 : decode b_Md_task 221 = .ok (.iload 7, 2) := by decide +kernel
theorem d_Md_task_223 : decode b_Md_task 223 = .ok (.iadd, 1) := by decide +kernel
theorem d_Md_task_224 : decode b_Md_task 224 = .ok (.iconst 1, 1) := by decide +kernel
theorem d_Md_task_225 : decode b_Md_task 225 = .ok (.iload 8, 2) := by decide +kernel
theorem d_Md_task_227 : decode b_Md_task 227 = .ok (.ishl, 1) := by decide +kernel
theorem d_Md_task_228 : decode b_Md_task 228 = .ok (.iastore, 1) := by decide +kernel
theorem d_Md_task_229 : decode b_Md_task 229 = .ok (.iinc 7 1, 3) := by decide +kernel
theorem d_Md_task_232 : decode b_Md_task 232 = .ok (.aload_n 0, 1) := by decide +kernel
theorem d_Md_task_233 : decode b_Md_task 233 = .ok (.getfield 35, 3) := by decide +kernel
theorem d_Md_task_236 : decode b_Md_task 236 = .ok (.bipush 8, 2) := by decide +kernel
theorem d_Md_task_238 : decode b_Md_task 238 = .ok (.iload_n 1, 1) := by decide +kernel
theorem d_Md_task_239 : decode b_Md_task 239 = .ok (.imul, 1) := by decide +kernel
theorem d_Md_task_240 : decode b_Md_task 240 = .ok (.iload 8, 2) := by decide +kernel
theorem d_Md_task_242 : decode b_Md_task 242 = .ok (.iadd, 1) := by decide +kernel
theorem d_Md_task_243 : decode b_Md_task 243 = .ok (.iconst 0, 1) := by decide +kernel
theorem d_Md_task_244 : decode b_Md_task 244 = .ok (.iastore, 1) := by decide +kernel
theorem d_Md_task_245 : decode b_Md_task 245 = .ok (.aload_n 0, 1) := by decide +kernel
theorem d_Md_task_246 : decode b_Md_task 246 = .ok (.getfield 38, 3) := by decide +kernel
theorem d_Md_task_249 : decode b_Md_task 249 = .ok (.bipush 8, 2) := by decide +kernel
theorem d_Md_task_251 : decode b_Md_task 251 = .ok (.iload_n 1, 1) := by decide +kernel
theorem d_Md_task_252 : decode b_Md_task 252 = .ok (.imul, 1) := by decide +kernel
theorem d_Md_task_253 : decode b_Md_task 253 = .ok (.iload 8, 2) := by decide +kernel
theorem d_Md_task_255 : decode b_Md_task 255 = .ok (.iadd, 1) := by decide +kernel
theorem d_Md_task_256 : decode b_Md_task 256 = .ok (.ldc 97, 2) := by decide +kernel
theorem d_Md_task_258 : decode b_Md_task 258 = .ok (.iastore, 1) := by decide +kernel
theorem d_Md_task_259 : decode b_Md_task 259 = .ok (.aload_n 0, 1) := by decide +kernel
theorem d_Md_task_260 : decode b_Md_task 260 = .ok (.getfield 41, 3) := by decide +kernel
theorem d_Md_task_263 : decode b_Md_task 263 = .ok (.bipush 8, 2) := by decide +kernel
theorem d_Md_task_265 : decode b_Md_task 265 = .ok (.iload_n 1, 1) := by decide +kernel
theorem d_Md_task_266 : decode b_Md_task 266 = .ok (.imul, 1) := by decide +kernel
theorem d_Md_task_267 : decode b_Md_task 267 = .ok (.iload 8, 2) := by decide +kernel
theorem d_Md_task_269 : decode b_Md_task 269 = .ok (.iadd, 1) := by decide +kernel
theorem d_Md_task_270 : decode b_Md_task 270 = .ok (.ldc 98, 2) := by decide +kernel
theorem d_Md_task_272 : decode b_Md_task 272 = .ok (.iastore, 1) := by decide +kernel
theorem d_Md_task_273 : decode b_Md_task 273 = .ok (.iinc 8 1, 3) := by decide +kernel
theorem d_Md_task_276 : decode b_Md_task 276 = .ok (.goto (-109), 3) := by decide +kernel
theorem d_Md_task_279 : decode b_Md_task 279 = .ok (.aload_n 0, 1) := by decide +kernel
theorem d_Md_task_280 : decode b_Md_task 280 = .ok (.getfield 32, 3) := by decide +kernel
theorem d_Md_task_283 : decode b_Md_task 283 = .ok (.iload_n 1, 1) := by decide +kernel
theorem d_Md_task_284 : decode b_Md_task 284 = .ok (.iconst 0, 1) := by decide +kernel
theorem d_Md_task_285 : decode b_Md_task 285 = .ok (.iastore, 1) := by decide +kernel
theorem d_Md_task_286 : decode b_Md_task 286 = .ok (.aload_n 0, 1) := by decide +kernel
theorem d_Md_task_287 : decode b_Md_task 287 = .ok (.getfield 44, 3) := by decide +kernel
theorem d_Md_task_290 : decode b_Md_task 290 = .ok (.iload_n 1, 1) := by decide +kernel
theorem d_Md_task_291 : decode b_Md_task 291 = .ok (.iconst 1, 1) := by decide +kernel
theorem d_Md_task_292 : decode b_Md_task 292 = .ok (.iastore, 1) := by decide +kernel
theorem d_Md_task_293 : decode b_Md_task 293 = .ok (.aload_n 0, 1) := by decide +kernel
theorem d_Md_task_294 : decode b_Md_task 294 = .ok (.getfield 47, 3) := by decide +kernel
theorem d_Md_task_297 : decode b_Md_task 297 = .ok (.iload_n 1, 1) := by decide +kernel
theorem d_Md_task_298 : decode b_Md_task 298 = .ok (.iconst 1, 1) := by decide +kernel
theorem d_Md_task_299 : decode b_Md_task 299 = .ok (.iastore, 1) := by decide +kernel
theorem d_Md_task_300 : decode b_Md_task 300 = .ok (.aload_n 0, 1) := by decide +kernel
theorem d_Md_task_301 : decode b_Md_task 301 = .ok (.getfield 50, 3) := by decide +kernel
theorem d_Md_task_304 : decode b_Md_task 304 = .ok (.iload_n 1, 1) := by decide +kernel
theorem d_Md_task_305 : decode b_Md_task 305 = .ok (.iconst 0, 1) := by decide +kernel
theorem d_Md_task_306 : decode b_Md_task 306 = .ok (.iastore, 1) := by decide +kernel
theorem d_Md_task_307 : decode b_Md_task 307 = .ok (.aload_n 0, 1) := by decide +kernel
theorem d_Md_task_308 : decode b_Md_task 308 = .ok (.getfield 53, 3) := by decide +kernel
theorem d_Md_task_311 : decode b_Md_task 311 = .ok (.iload_n 1, 1) := by decide +kernel
theorem d_Md_task_312 : decode b_Md_task 312 = .ok (.iconst 0, 1) := by decide +kernel
theorem d_Md_task_313 : decode b_Md_task 313 = .ok (.iastore, 1) := by decide +kernel
theorem d_Md_task_314 : decode b_Md_task 314 = .ok (.iconst 1, 1) := by decide +kernel
theorem d_Md_task_315 : decode b_Md_task 315 = .ok (.ireturn, 1) := by decide +kernel
theorem d_Md_region_0 : decode b_Md_region 0 = .ok (.aload_n 0, 1) := by decide +kernel
theorem d_Md_region_1 : decode b_Md_region 1 = .ok (.getfield 89, 3) := by decide +kernel
theorem d_Md_region_4 : decode b_Md_region 4 = .ok (.ifCond .ne 18, 3) := by decide +kernel
theorem d_Md_region_7 : decode b_Md_region 7 = .ok (.aload_n 0, 1) := by decide +kernel
theorem d_Md_region_8 : decode b_Md_region 8 = .ok (.iload_n 1, 1) := by decide +kernel
theorem d_Md_region_9 : decode b_Md_region 9 = .ok (.invokevirtual 99, 3) := by decide +kernel
theorem d_Md_region_12 : decode b_Md_region 12 = .ok (.ifCond .eq 10, 3) := by decide +kernel
theorem d_Md_region_15 : decode b_Md_region 15 = .ok (.iload_n 2, 1) := by decide +kernel
theorem d_Md_region_16 : decode b_Md_region 16 = .ok (.invokestatic 102, 3) := by decide +kernel
theorem d_Md_region_19 : decode b_Md_region 19 = .ok (.ifCond .ne 5, 3) := by decide +kernel
theorem d_Md_region_22 : decode b_Md_region 22 = .ok (.iconst 0, 1) := by decide +kernel
theorem d_Md_region_23 : decode b_Md_region 23 = .ok (.ireturn, 1) := by decide +kernel
theorem d_Md_region_24 : decode b_Md_region 24 = .ok (.aload_n 0, 1) := by decide +kernel
theorem d_Md_region_25 : decode b_Md_region 25 = .ok (.getfield 32, 3) := by decide +kernel
theorem d_Md_region_28 : decode b_Md_region 28 = .ok (.iload_n 1, 1) := by decide +kernel
theorem d_Md_region_29 : decode b_Md_region 29 = .ok (.iload_n 2, 1) := by decide +kernel
theorem d_Md_region_30 : decode b_Md_region 30 = .ok (.iastore, 1) := by decide +kernel
theorem d_Md_region_31 : decode b_Md_region 31 = .ok (.iconst 1, 1) := by decide +kernel
theorem d_Md_region_32 : decode b_Md_region 32 = .ok (.ireturn, 1) := by decide +kernel
theorem d_Md_guard_0 : decode b_Md_guard 0 = .ok (.aload_n 0, 1) := by decide +kernel
theorem d_Md_guard_1 : decode b_Md_guard 1 = .ok (.getfield 89, 3) := by decide +kernel
theorem d_Md_guard_4 : decode b_Md_guard 4 = .ok (.ifCond .ne 30, 3) := by decide +kernel
theorem d_Md_guard_7 : decode b_Md_guard 7 = .ok (.aload_n 0, 1) := by decide +kernel
theorem d_Md_guard_8 : decode b_Md_guard 8 = .ok (.iload_n 1, 1) := by decide +kernel
theorem d_Md_guard_9 : decode b_Md_guard 9 = .ok (.invokevirtual 99, 3) := by decide +kernel
theorem d_Md_guard_12 : decode b_Md_guard 12 = .ok (.ifCond .eq 22, 3) := by decide +kernel
theorem d_Md_guard_15 : decode b_Md_guard 15 = .ok (.iload_n 2, 1) := by decide +kernel
theorem d_Md_guard_16 : decode b_Md_guard 16 = .ok (.ifCond .lt 18, 3) := by decide +kernel
theorem d_Md_guard_19 : decode b_Md_guard 19 = .ok (.iload_n 2, 1) := by decide +kernel
theorem d_Md_guard_20 : decode b_Md_guard 20 = .ok (.bipush 7, 2) := by decide +kernel
theorem d_Md_guard_22 : decode b_Md_guard 22 = .ok (.if_icmp .gt 12, 3) := by decide +kernel
theorem d_Md_guard_25 : decode b_Md_guard 25 = .ok (.iload_n 3, 1) := by decide +kernel
theorem d_Md_guard_26 : decode b_Md_guard 26 = .ok (.ifCond .lt 8, 3) := by decide +kernel
theorem d_Md_guard_29 : decode b_Md_guard 29 = .ok (.iload_n 3, 1) := by decide +kernel
theorem d_Md_guard_30 : decode b_Md_guard 30 = .ok (.iconst 3, 1) := by decide +kernel
theorem d_Md_guard_31 : decode b_Md_guard 31 = .ok (.if_icmp .le 5, 3) := by decide +kernel
theorem d_Md_guard_34 : decode b_Md_guard 34 = .ok (.iconst 0, 1) := by decide +kernel
theorem d_Md_guard_35 : decode b_Md_guard 35 = .ok (.ireturn, 1) := by decide +kernel
theorem d_Md_guard_36 : decode b_Md_guard 36 = .ok (.aload_n 0, 1) := by decide +kernel
theorem d_Md_guard_37 : decode b_Md_guard 37 = .ok (.getfield 23, 3) := by decide +kernel
theorem d_Md_guard_40 : decode b_Md_guard 40 = .ok (.iload_n 1, 1) := by decide +kernel
theorem d_Md_guard_41 : decode b_Md_guard 41 = .ok (.iaload, 1) := by decide +kernel
theorem d_Md_guard_42 : decode b_Md_guard 42 = .ok (.iload_n 2, 1) := by decide +kernel
theorem d_Md_guard_43 : decode b_Md_guard 43 = .ok (.ishr, 1) := by decide +kernel
theorem d_Md_guard_44 : decode b_Md_guard 44 = .ok (.iconst 1, 1) := by decide +kernel
theorem d_Md_guard_45 : decode b_Md_guard 45 = .ok (.iand, 1) := by decide +kernel
theorem d_Md_guard_46 : decode b_Md_guard 46 = .ok (.ifCond .ne 5, 3) := by decide +kernel
theorem d_Md_guard_49 : decode b_Md_guard 49 = .ok (.iconst 0, 1) := by decide +kernel
theorem d_Md_guard_50 : decode b_Md_guard 50 = .ok (.ireturn, 1) := by decide +kernel
theorem d_Md_guard_51 : decode b_Md_guard 51 = .ok (.aload_n 0, 1) := by decide +kernel
theorem d_Md_guard_52 : decode b_Md_guard 52 = .ok (.getfield 35, 3) := by decide +kernel
theorem d_Md_guard_55 : decode b_Md_guard 55 = .ok (.bipush 8, 2) := by decide +kernel
theorem d_Md_guard_57 : decode b_Md_guard 57 = .ok (.iload_n 1, 1) := by decide +kernel
theorem d_Md_guard_58 : decode b_Md_guard 58 = .ok (.imul, 1) := by decide +kernel
theorem d_Md_guard_59 : decode b_Md_guard 59 = .ok (.iload_n 2, 1) := by decide +kernel
theorem d_Md_guard_60 : decode b_Md_guard 60 = .ok (.iadd, 1) := by decide +kernel
theorem d_Md_guard_61 : decode b_Md_guard 61 = .ok (.iload_n 3, 1) := by decide +kernel
theorem d_Md_guard_62 : decode b_Md_guard 62 = .ok (.iastore, 1) := by decide +kernel
theorem d_Md_guard_63 : decode b_Md_guard 63 = .ok (.aload_n 0, 1) := by decide +kernel
theorem d_Md_guard_64 : decode b_Md_guard 64 = .ok (.getfield 38, 3) := by decide +kernel
theorem d_Md_guard_67 : decode b_Md_guard 67 = .ok (.bipush 8, 2) := by decide +kernel
theorem d_Md_guard_69 : decode b_Md_guard 69 = .ok (.iload_n 1, 1) := by decide +kernel
theorem d_Md_guard_70 : decode b_Md_guard 70 = .ok (.imul, 1) := by decide +kernel
theorem d_Md_guard_71 : decode b_Md_guard 71 = .ok (.iload_n 2, 1) := by decide +kernel
theorem d_Md_guard_72 : decode b_Md_guard 72 = .ok (.iadd, 1) := by decide +kernel
theorem d_Md_guard_73 : decode b_Md_guard 73 = .ok (.iload 4, 2) := by decide +kernel
theorem d_Md_guard_75 : decode b_Md_guard 75 = .ok (.iastore, 1) := by decide +kernel
theorem d_Md_guard_76 : decode b_Md_guard 76 = .ok (.aload_n 0, 1) := by decide +kernel
theorem d_Md_guard_77 : decode b_Md_guard 77 = .ok (.getfield 41, 3) := by decide +kernel
theorem d_Md_guard_80 : decode b_Md_guard 80 = .ok (.bipush 8, 2) := by decide +kernel
theorem d_Md_guard_82 : decode b_Md_guard 82 = .ok (.iload_n 1, 1) := by decide +kernel
theorem d_Md_guard_83 : decode b_Md_guard 83 = .ok (.imul, 1) := by decide +kernel
theorem d_Md_guard_84 : decode b_Md_guard 84 = .ok (.iload_n 2, 1) := by decide +kernel
theorem d_Md_guard_85 : decode b_Md_guard 85 = .ok (.iadd, 1) := by decide +kernel
theorem d_Md_guard_86 : decode b_Md_guard 86 = .ok (.iload 5, 2) := by decide +kernel
theorem d_Md_guard_88 : decode b_Md_guard 88 = .ok (.iastore, 1) := by decide +kernel
theorem d_Md_guard_89 : decode b_Md_guard 89 = .ok (.iconst 1, 1) := by decide +kernel
theorem d_Md_guard_90 : decode b_Md_guard 90 = .ok (.ireturn, 1) := by decide +kernel
theorem d_Md_items_0 : decode b_Md_items 0 = .ok (.aload_n 0, 1) := by decide +kernel
theorem d_Md_items_1 : decode b_Md_items 1 = .ok (.getfield 89, 3) := by decide +kernel
theorem d_Md_items_4 : decode b_Md_items 4 = .ok (.ifCond .ne 31, 3) := by decide +kernel
theorem d_Md_items_7 : decode b_Md_items 7 = .ok (.aload_n 0, 1) := by decide +kernel
theorem d_Md_items_8 : decode b_Md_items 8 = .ok (.iload_n 1, 1) := by decide +kernel
theorem d_Md_items_9 : decode b_Md_items 9 = .ok (.invokevirtual 99, 3) := by decide +kernel
theorem d_Md_items_12 : decode b_Md_items 12 = .ok (.ifCond .eq 23, 3) := by decide +kernel
theorem d_Md_items_15 : decode b_Md_items 15 = .ok (.iload_n 2, 1) := by decide +kernel
theorem d_Md_items_16 : decode b_Md_items 16 = .ok (.iconst 1, 1) := by decide +kernel
theorem d_Md_items_17 : decode b_Md_items 17 = .ok (.if_icmp .lt 18, 3) := by decide +kernel
theorem d_Md_items_20 : decode b_Md_items 20 = .ok (.iload_n 2, 1) := by decide +kernel
theorem d_Md_items_21 : decode b_Md_items 21 = .ok (.iconst 4, 1) := by decide +kernel
theorem d_Md_items_22 : decode b_Md_items 22 = .ok (.if_icmp .gt 13, 3) := by decide +kernel
theorem d_Md_items_25 : decode b_Md_items 25 = .ok (.iload_n 3, 1) := by decide +kernel
theorem d_Md_items_26 : decode b_Md_items 26 = .ok (.iconst 1, 1) := by decide +kernel
theorem d_Md_items_27 : decode b_Md_items 27 = .ok (.if_icmp .lt 8, 3) := by decide +kernel
theorem d_Md_items_30 : decode b_Md_items 30 = .ok (.iload_n 3, 1) := by decide +kernel
theorem d_Md_items_31 : decode b_Md_items 31 = .ok (.iload_n 2, 1) := by decide +kernel
theorem d_Md_items_32 : decode b_Md_items 32 = .ok (.if_icmp .le 5, 3) := by decide +kernel
theorem d_Md_items_35 : decode b_Md_items 35 = .ok (.iconst 0, 1) := by decide +kernel
theorem d_Md_items_36 : decode b_Md_items 36 = .ok (.ireturn, 1) := by decide +kernel
theorem d_Md_items_37 : decode b_Md_items 37 = .ok (.iload 4, 2) := by decide +kernel
theorem d_Md_items_39 : decode b_Md_items 39 = .ok (.ifCond .lt 21, 3) := by decide +kernel
theorem d_Md_items_42 : decode b_Md_items 42 = .ok (.iload 4, 2) := by decide +kernel
theorem d_Md_items_44 : decode b_Md_items 44 = .ok (.iconst 3, 1) := by decide +kernel
theorem d_Md_items_45 : decode b_Md_items 45 = .ok (.if_icmp .gt 15, 3) := by decide +kernel
theorem d_Md_items_48 : decode b_Md_items 48 = .ok (.iload 5, 2) := by decide +kernel
theorem d_Md_items_50 : decode b_Md_items 50 = .ok (.ifCond .lt 10, 3) := by decide +kernel
theorem d_Md_items_53 : decode b_Md_items 53 = .ok (.iload 5, 2) := by decide +kernel
theorem d_Md_items_55 : decode b_Md_items 55 = .ok (.bipush 100, 2) := by decide +kernel
theorem d_Md_items_57 : decode b_Md_items 57 = .ok (.if_icmp .le 5, 3) := by decide +kernel
theorem d_Md_items_60 : decode b_Md_items 60 = .ok (.iconst 0, 1) := by decide +kernel
theorem d_Md_items_61 : decode b_Md_items 61 = .ok (.ireturn, 1) := by decide +kernel
theorem d_Md_items_62 : decode b_Md_items 62 = .ok (.aload_n 0, 1) := by decide +kernel
theorem d_Md_items_63 : decode b_Md_items 63 = .ok (.getfield 44, 3) := by decide +kernel
theorem d_Md_items_66 : decode b_Md_items 66 = .ok (.iload_n 1, 1) := by decide +kernel
theorem d_Md_items_67 : decode b_Md_items 67 = .ok (.iload_n 2, 1) := by decide +kernel
theorem d_Md_items_68 : decode b_Md_items 68 = .ok (.iastore, 1) := by decide +kernel
theorem d_Md_items_69 : decode b_Md_items 69 = .ok (.aload_n 0, 1) := by decide +kernel
theorem d_Md_items_70 : decode b_Md_items 70 = .ok (.getfield 47, 3) := by decide +kernel
theorem d_Md_items_73 : decode b_Md_items 73 = .ok (.iload_n 1, 1) := by decide +kernel
theorem d_Md_items_74 : decode b_Md_items 74 = .ok (.iload_n 3, 1) := by decide +kernel
theorem d_Md_items_75 : decode b_Md_items 75 = .ok (.iastore, 1) := by decide +kernel
theorem d_Md_items_76 : decode b_Md_items 76 = .ok (.aload_n 0, 1) := by decide +kernel
theorem d_Md_items_77 : decode b_Md_items 77 = .ok (.getfield 50, 3) := by decide +kernel
theorem d_Md_items_80 : decode b_Md_items 80 = .ok (.iload_n 1, 1) := by decide +kernel
theorem d_Md_items_81 : decode b_Md_items 81 = .ok (.iload 4, 2) := by decide +kernel
theorem d_Md_items_83 : decode b_Md_items 83 = .ok (.iastore, 1) := by decide +kernel
theorem d_Md_items_84 : decode b_Md_items 84 = .ok (.aload_n 0, 1) := by decide +kernel
theorem d_Md_items_85 : decode b_Md_items 85 = .ok (.getfield 53, 3) := by decide +kernel
theorem d_Md_items_88 : decode b_Md_items 88 = .ok (.iload_n 1, 1) := by decide +kernel
theorem d_Md_items_89 : decode b_Md_items 89 = .ok (.iload 5, 2) := by decide +kernel
theorem d_Md_items_91 : decode b_Md_items 91 = .ok (.iastore, 1) := by decide +kernel
theorem d_Md_items_92 : decode b_Md_items 92 = .ok (.iconst 1, 1) := by decide +kernel
theorem d_Md_items_93 : decode b_Md_items 93 = .ok (.ireturn, 1) := by decide +kernel
theorem d_Md_isAny_0 : decode b_Md_isAny 0 = .ok (.iconst 0, 1) := by decide +kernel
theorem d_Md_isAny_1 : decode b_Md_isAny 1 = .ok (.istore_n 1, 1) := by decide +kernel
theorem d_Md_isAny_2 : decode b_Md_isAny 2 = .ok (.iconst 0, 1) := by decide +kernel
theorem d_Md_isAny_3 : decode b_Md_isAny 3 = .ok (.istore_n 2, 1) := by decide +kernel
theorem d_Md_isAny_4 : decode b_Md_isAny 4 = .ok (.iload_n 2, 1) := by decide +kernel
theorem d_Md_isAny_5 : decode b_Md_isAny 5 = .ok (.bipush 6, 2) := by decide +kernel
theorem d_Md_isAny_7 : decode b_Md_isAny 7 = .ok (.if_icmp .ge 28, 3) := by decide +kernel
theorem d_Md_isAny_10 : decode b_Md_isAny 10 = .ok (.iload_n 1, 1) := by decide +kernel
theorem d_Md_isAny_11 : decode b_Md_isAny 11 = .ok (.ifCond .ne 12, 3) := by decide +kernel
theorem d_Md_isAny_14 : decode b_Md_isAny 14 = .ok (.aload_n 0, 1) := by decide +kernel
theorem d_Md_isAny_15 : decode b_Md_isAny 15 = .ok (.getfield 7, 3) := by decide +kernel
theorem d_Md_isAny_18 : decode b_Md_isAny 18 = .ok (.iload_n 2, 1) := by decide +kernel
theorem d_Md_isAny_19 : decode b_Md_isAny 19 = .ok (.baload, 1) := by decide +kernel
theorem d_Md_isAny_20 : decode b_Md_isAny 20 = .ok (.ifCond .eq 7, 3) := by decide +kernel
theorem d_Md_isAny_23 : decode b_Md_isAny 23 = .ok (.iconst 1, 1) := by decide +kernel
theorem d_Md_isAny_24 : decode b_Md_isAny 24 = .ok (.goto 4, 3) := by decide +kernel
theorem d_Md_isAny_27 : decode b_Md_isAny 27 = .ok (.iconst 0, 1) := by decide +kernel
theorem d_Md_isAny_28 : decode b_Md_isAny 28 = .ok (.istore_n 1, 1) := by decide +kernel
theorem d_Md_isAny_29 : decode b_Md_isAny 29 = .ok (.iinc 2 1, 3) := by decide +kernel
theorem d_Md_isAny_32 : decode b_Md_isAny 32 = .ok (.goto (-28), 3) := by decide +kernel
theorem d_Md_isAny_35 : decode b_Md_isAny 35 = .ok (.iload_n 1, 1) := by decide +kernel
theorem d_Md_isAny_36 : decode b_Md_isAny 36 = .ok (.ireturn, 1) := by decide +kernel
theorem d_Md_outputs_0 : decode b_Md_outputs 0 = .ok (.iconst 0, 1) := by decide +kernel
theorem d_Md_outputs_1 : decode b_Md_outputs 1 = .ok (.istore_n 3, 1) := by decide +kernel
theorem d_Md_outputs_2 : decode b_Md_outputs 2 = .ok (.iconst 0, 1) := by decide +kernel
theorem d_Md_outputs_3 : decode b_Md_outputs 3 = .ok (.istore 4, 2) := by decide +kernel
theorem d_Md_outputs_5 : decode b_Md_outputs 5 = .ok (.iload 4, 2) := by decide +kernel
theorem d_Md_outputs_7 : decode b_Md_outputs 7 = .ok (.iconst 3, 1) := by decide +kernel
theorem d_Md_outputs_8 : decode b_Md_outputs 8 = .ok (.if_icmp .ge 37, 3) := by decide +kernel
theorem d_Md_outputs_11 : decode b_Md_outputs 11 = .ok (.iload_n 3, 1) := by decide +kernel
theorem d_Md_outputs_12 : decode b_Md_outputs 12 = .ok (.iload_n 2, 1) := by decide +kernel
theorem d_Md_outputs_13 : decode b_Md_outputs 13 = .ok (.iload 4, 2) := by decide +kernel
theorem d_Md_outputs_15 : decode b_Md_outputs 15 = .ok (.ishr, 1) := by decide +kernel
theorem d_Md_outputs_16 : decode b_Md_outputs 16 = .ok (.iconst 1, 1) := by decide +kernel
theorem d_Md_outputs_17 : decode b_Md_outputs 17 = .ok (.iand, 1) := by decide +kernel
theorem d_Md_outputs_18 : decode b_Md_outputs 18 = .ok (.iconst 1, 1) := by decide +kernel
theorem d_Md_outputs_19 : decode b_Md_outputs 19 = .ok (.if_icmp .ne 17, 3) := by decide +kernel
theorem d_Md_outputs_22 : decode b_Md_outputs 22 = .ok (.aload_n 0, 1) := by decide +kernel
theorem d_Md_outputs_23 : decode b_Md_outputs 23 = .ok (.getfield 29, 3) := by decide +kernel
theorem d_Md_outputs_26 : decode b_Md_outputs 26 = .ok (.iconst 3, 1) := by decide +kernel
theorem d_Md_outputs_27 : decode b_Md_outputs 27 = .ok (.iload_n 1, 1) := by decide +kernel
theorem d_Md_outputs_28 : decode b_Md_outputs 28 = .ok (.imul, 1) := by decide +kernel
theorem d_Md_outputs_29 : decode b_Md_outputs 29 = .ok (.iload 4, 2) := by decide +kernel
theorem d_Md_outputs_31 : decode b_Md_outputs 31 = .ok (.iadd, 1) := by decide +kernel
theorem d_Md_outputs_32 : decode b_Md_outputs 32 = .ok (.iaload, 1) := by decide +kernel
theorem d_Md_outputs_33 : decode b_Md_outputs 33 = .ok (.goto 4, 3) := by decide +kernel
theorem d_Md_outputs_36 : decode b_Md_outputs 36 = .ok (.iconst 0, 1) := by decide +kernel
theorem d_Md_outputs_37 : decode b_Md_outputs 37 = .ok (.ior, 1) := by decide +kernel
theorem d_Md_outputs_38 : decode b_Md_outputs 38 = .ok (.istore_n 3, 1) := by decide +kernel
theorem d_Md_outputs_39 : decode b_Md_outputs 39 = .ok (.iinc 4 1, 3) := by decide +kernel
theorem d_Md_outputs_42 : decode b_Md_outputs 42 = .ok (.goto (-37), 3) := by decide +kernel
theorem d_Md_outputs_45 : decode b_Md_outputs 45 = .ok (.iload_n 3, 1) := by decide +kernel
theorem d_Md_outputs_46 : decode b_Md_outputs 46 = .ok (.ireturn, 1) := by decide +kernel
