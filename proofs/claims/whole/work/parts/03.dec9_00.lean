theorem dX9_init_0 : decode cX9_init 0 = .ok (.aload_n 0, 1) := by decide +kernel
theorem dX9_init_1 : decode cX9_init 1 = .ok (.invokespecial 1, 3) := by decide +kernel
theorem dX9_init_4 : decode cX9_init 4 = .ok (.aload_n 0, 1) := by decide +kernel
theorem dX9_init_5 : decode cX9_init 5 = .ok (.bipush 9, 2) := by decide +kernel
theorem dX9_init_7 : decode cX9_init 7 = .ok (.anewarray 7, 3) := by decide +kernel
theorem dX9_init_10 : decode cX9_init 10 = .ok (.dup, 1) := by decide +kernel
theorem dX9_init_11 : decode cX9_init 11 = .ok (.iconst 0, 1) := by decide +kernel
theorem dX9_init_12 : decode cX9_init 12 = .ok (.ldc 9, 2) := by decide +kernel
theorem dX9_init_14 : decode cX9_init 14 = .ok (.aastore, 1) := by decide +kernel
theorem dX9_init_15 : decode cX9_init 15 = .ok (.dup, 1) := by decide +kernel
theorem dX9_init_16 : decode cX9_init 16 = .ok (.iconst 1, 1) := by decide +kernel
theorem dX9_init_17 : decode cX9_init 17 = .ok (.ldc 11, 2) := by decide +kernel
theorem dX9_init_19 : decode cX9_init 19 = .ok (.aastore, 1) := by decide +kernel
theorem dX9_init_20 : decode cX9_init 20 = .ok (.dup, 1) := by decide +kernel
theorem dX9_init_21 : decode cX9_init 21 = .ok (.iconst 2, 1) := by decide +kernel
theorem dX9_init_22 : decode cX9_init 22 = .ok (.ldc 13, 2) := by decide +kernel
theorem dX9_init_24 : decode cX9_init 24 = .ok (.aastore, 1) := by decide +kernel
theorem dX9_init_25 : decode cX9_init 25 = .ok (.dup, 1) := by decide +kernel
theorem dX9_init_26 : decode cX9_init 26 = .ok (.iconst 3, 1) := by decide +kernel
theorem dX9_init_27 : decode cX9_init 27 = .ok (.ldc 15, 2) := by decide +kernel
theorem dX9_init_29 : decode cX9_init 29 = .ok (.aastore, 1) := by decide +kernel
theorem dX9_init_30 : decode cX9_init 30 = .ok (.dup, 1) := by decide +kernel
theorem dX9_init_31 : decode cX9_init 31 = .ok (.iconst 4, 1) := by decide +kernel
theorem dX9_init_32 : decode cX9_init 32 = .ok (.ldc 17, 2) := by decide +kernel
theorem dX9_init_34 : decode cX9_init 34 = .ok (.aastore, 1) := by decide +kernel
theorem dX9_init_35 : decode cX9_init 35 = .ok (.dup, 1) := by decide +kernel
theorem dX9_init_36 : decode cX9_init 36 = .ok (.iconst 5, 1) := by decide +kernel
theorem dX9_init_37 : decode cX9_init 37 = .ok (.ldc 19, 2) := by decide +kernel
theorem dX9_init_39 : decode cX9_init 39 = .ok (.aastore, 1) := by decide +kernel
theorem dX9_init_40 : decode cX9_init 40 = .ok (.dup, 1) := by decide +kernel
theorem dX9_init_41 : decode cX9_init 41 = .ok (.bipush 6, 2) := by decide +kernel
theorem dX9_init_43 : decode cX9_init 43 = .ok (.ldc 21, 2) := by decide +kernel
theorem dX9_init_45 : decode cX9_init 45 = .ok (.aastore, 1) := by decide +kernel
theorem dX9_init_46 : decode cX9_init 46 = .ok (.dup, 1) := by decide +kernel
theorem dX9_init_47 : decode cX9_init 47 = .ok (.bipush 7, 2) := by decide +kernel
theorem dX9_init_49 : decode cX9_init 49 = .ok (.ldc 23, 2) := by decide +kernel
theorem dX9_init_51 : decode cX9_init 51 = .ok (.aastore, 1) := by decide +kernel
theorem dX9_init_52 : decode cX9_init 52 = .ok (.dup, 1) := by decide +kernel
theorem dX9_init_53 : decode cX9_init 53 = .ok (.bipush 8, 2) := by decide +kernel
theorem dX9_init_55 : decode cX9_init 55 = .ok (.ldc 25, 2) := by decide +kernel
theorem dX9_init_57 : decode cX9_init 57 = .ok (.aastore, 1) := by decide +kernel
theorem dX9_init_58 : decode cX9_init 58 = .ok (.putfield 27, 3) := by decide +kernel
theorem dX9_init_61 : decode cX9_init 61 = .ok (.aload_n 0, 1) := by decide +kernel
theorem dX9_init_62 : decode cX9_init 62 = .ok (.sipush 644, 3) := by decide +kernel
theorem dX9_init_65 : decode cX9_init 65 = .ok (.newarray .int, 2) := by decide +kernel
theorem dX9_init_67 : decode cX9_init 67 = .ok (.putfield 33, 3) := by decide +kernel
theorem dX9_init_70 : decode cX9_init 70 = .ok (.aload_n 0, 1) := by decide +kernel
theorem dX9_init_71 : decode cX9_init 71 = .ok (.iconst 3, 1) := by decide +kernel
theorem dX9_init_72 : decode cX9_init 72 = .ok (.newarray .int, 2) := by decide +kernel
theorem dX9_init_74 : decode cX9_init 74 = .ok (.putfield 37, 3) := by decide +kernel
theorem dX9_init_77 : decode cX9_init 77 = .ok (.aload_n 0, 1) := by decide +kernel
theorem dX9_init_78 : decode cX9_init 78 = .ok (.sipush 10003, 3) := by decide +kernel
theorem dX9_init_81 : decode cX9_init 81 = .ok (.newarray .int, 2) := by decide +kernel
theorem dX9_init_83 : decode cX9_init 83 = .ok (.putfield 40, 3) := by decide +kernel
theorem dX9_init_86 : decode cX9_init 86 = .ok (.aload_n 0, 1) := by decide +kernel
theorem dX9_init_87 : decode cX9_init 87 = .ok (.sipush 10003, 3) := by decide +kernel
theorem dX9_init_90 : decode cX9_init 90 = .ok (.newarray .int, 2) := by decide +kernel
theorem dX9_init_92 : decode cX9_init 92 = .ok (.putfield 43, 3) := by decide +kernel
theorem dX9_init_95 : decode cX9_init 95 = .ok (.aload_n 0, 1) := by decide +kernel
theorem dX9_init_96 : decode cX9_init 96 = .ok (.sipush 10003, 3) := by decide +kernel
theorem dX9_init_99 : decode cX9_init 99 = .ok (.newarray .int, 2) := by decide +kernel
theorem dX9_init_101 : decode cX9_init 101 = .ok (.putfield 46, 3) := by decide +kernel
theorem dX9_init_104 : decode cX9_init 104 = .ok (.aload_n 0, 1) := by decide +kernel
theorem dX9_init_105 : decode cX9_init 105 = .ok (.sipush 1000, 3) := by decide +kernel
theorem dX9_init_108 : decode cX9_init 108 = .ok (.anewarray 49, 3) := by decide +kernel
theorem dX9_init_111 : decode cX9_init 111 = .ok (.putfield 50, 3) := by decide +kernel
theorem dX9_init_114 : decode cX9_init 114 = .ok (.aload_n 0, 1) := by decide +kernel
theorem dX9_init_115 : decode cX9_init 115 = .ok (.sipush 1000, 3) := by decide +kernel
theorem dX9_init_118 : decode cX9_init 118 = .ok (.newarray .boolean, 2) := by decide +kernel
theorem dX9_init_120 : decode cX9_init 120 = .ok (.putfield 54, 3) := by decide +kernel
theorem dX9_init_123 : decode cX9_init 123 = .ok (.aload_n 0, 1) := by decide +kernel
theorem dX9_init_124 : decode cX9_init 124 = .ok (.bipush 40, 2) := by decide +kernel
theorem dX9_init_126 : decode cX9_init 126 = .ok (.newarray .int, 2) := by decide +kernel
theorem dX9_init_128 : decode cX9_init 128 = .ok (.putfield 58, 3) := by decide +kernel
theorem dX9_init_131 : decode cX9_init 131 = .ok (.aload_n 0, 1) := by decide +kernel
theorem dX9_init_132 : decode cX9_init 132 = .ok (.bipush 40, 2) := by decide +kernel
theorem dX9_init_134 : decode cX9_init 134 = .ok (.newarray .int, 2) := by decide +kernel
theorem dX9_init_136 : decode cX9_init 136 = .ok (.putfield 61, 3) := by decide +kernel
theorem dX9_init_139 : decode cX9_init 139 = .ok (.aload_n 0, 1) := by decide +kernel
theorem dX9_init_140 : decode cX9_init 140 = .ok (.iconst (-1), 1) := by decide +kernel
theorem dX9_init_141 : decode cX9_init 141 = .ok (.putfield 64, 3) := by decide +kernel
theorem dX9_init_144 : decode cX9_init 144 = .ok (.aload_n 0, 1) := by decide +kernel
theorem dX9_init_145 : decode cX9_init 145 = .ok (.iconst (-1), 1) := by decide +kernel
theorem dX9_init_146 : decode cX9_init 146 = .ok (.putfield 68, 3) := by decide +kernel
theorem dX9_init_149 : decode cX9_init 149 = .ok (.aload_n 0, 1) := by decide +kernel
theorem dX9_init_150 : decode cX9_init 150 = .ok (.iconst 4, 1) := by decide +kernel
theorem dX9_init_151 : decode cX9_init 151 = .ok (.newarray .int, 2) := by decide +kernel
theorem dX9_init_153 : decode cX9_init 153 = .ok (.putfield 71, 3) := by decide +kernel
theorem dX9_init_156 : decode cX9_init 156 = .ok (.aload_n 0, 1) := by decide +kernel
theorem dX9_init_157 : decode cX9_init 157 = .ok (.sipush 600, 3) := by decide +kernel
theorem dX9_init_160 : decode cX9_init 160 = .ok (.newarray .int, 2) := by decide +kernel
theorem dX9_init_162 : decode cX9_init 162 = .ok (.putfield 74, 3) := by decide +kernel
theorem dX9_init_165 : decode cX9_init 165 = .ok (.aload_n 0, 1) := by decide +kernel
theorem dX9_init_166 : decode cX9_init 166 = .ok (.sipush 644, 3) := by decide +kernel
theorem dX9_init_169 : decode cX9_init 169 = .ok (.newarray .int, 2) := by decide +kernel
theorem dX9_init_171 : decode cX9_init 171 = .ok (.putfield 77, 3) := by decide +kernel
theorem dX9_init_174 : decode cX9_init 174 = .ok (.aload_n 0, 1) := by decide +kernel
theorem dX9_init_175 : decode cX9_init 175 = .ok (.bipush 40, 2) := by decide +kernel
theorem dX9_init_177 : decode cX9_init 177 = .ok (.newarray .int, 2) := by decide +kernel
theorem dX9_init_179 : decode cX9_init 179 = .ok (.putfield 80, 3) := by decide +kernel
theorem dX9_init_182 : decode cX9_init 182 = .ok (.aload_n 0, 1) := by decide +kernel
theorem dX9_init_183 : decode cX9_init 183 = .ok (.iconst (-1), 1) := by decide +kernel
theorem dX9_init_184 : decode cX9_init 184 = .ok (.putfield 83, 3) := by decide +kernel
theorem dX9_init_187 : decode cX9_init 187 = .ok (.aload_n 0, 1) := by decide +kernel
theorem dX9_init_188 : decode cX9_init 188 = .ok (.bipush 41, 2) := by decide +kernel
theorem dX9_init_190 : decode cX9_init 190 = .ok (.newarray .int, 2) := by decide +kernel
theorem dX9_init_192 : decode cX9_init 192 = .ok (.putfield 86, 3) := by decide +kernel
theorem dX9_init_195 : decode cX9_init 195 = .ok (.aload_n 0, 1) := by decide +kernel
theorem dX9_init_196 : decode cX9_init 196 = .ok (.sipush 10001, 3) := by decide +kernel
theorem dX9_init_199 : decode cX9_init 199 = .ok (.newarray .long, 2) := by decide +kernel
theorem dX9_init_201 : decode cX9_init 201 = .ok (.putfield 89, 3) := by decide +kernel
theorem dX9_init_204 : decode cX9_init 204 = .ok (.aload_n 0, 1) := by decide +kernel
theorem dX9_init_205 : decode cX9_init 205 = .ok (.sipush 10001, 3) := by decide +kernel
theorem dX9_init_208 : decode cX9_init 208 = .ok (.newarray .long, 2) := by decide +kernel
theorem dX9_init_210 : decode cX9_init 210 = .ok (.putfield 93, 3) := by decide +kernel
theorem dX9_init_213 : decode cX9_init 213 = .ok (.aload_n 0, 1) := by decide +kernel
theorem dX9_init_214 : decode cX9_init 214 = .ok (.sipush 2001, 3) := by decide +kernel
theorem dX9_init_217 : decode cX9_init 217 = .ok (.newarray .long, 2) := by decide +kernel
theorem dX9_init_219 : decode cX9_init 219 = .ok (.putfield 96, 3) := by decide +kernel
theorem dX9_init_222 : decode cX9_init 222 = .ok (.aload_n 0, 1) := by decide +kernel
theorem dX9_init_223 : decode cX9_init 223 = .ok (.sipush 2001, 3) := by decide +kernel
theorem dX9_init_226 : decode cX9_init 226 = .ok (.newarray .long, 2) := by decide +kernel
theorem dX9_init_228 : decode cX9_init 228 = .ok (.putfield 99, 3) := by decide +kernel
theorem dX9_init_231 : decode cX9_init 231 = .ok (.aload_n 0, 1) := by decide +kernel
theorem dX9_init_232 : decode cX9_init 232 = .ok (.sipush 25760, 3) := by decide +kernel
theorem dX9_init_235 : decode cX9_init 235 = .ok (.newarray .int, 2) := by decide +kernel
theorem dX9_init_237 : decode cX9_init 237 = .ok (.putfield 102, 3) := by decide +kernel
theorem dX9_init_240 : decode cX9_init 240 = .ok (.aload_n 0, 1) := by decide +kernel
theorem dX9_init_241 : decode cX9_init 241 = .ok (.bipush 8, 2) := by decide +kernel
theorem dX9_init_243 : decode cX9_init 243 = .ok (.newarray .int, 2) := by decide +kernel
theorem dX9_init_245 : decode cX9_init 245 = .ok (.putfield 105, 3) := by decide +kernel
theorem dX9_init_248 : decode cX9_init 248 = .ok (.aload_n 0, 1) := by decide +kernel
theorem dX9_init_249 : decode cX9_init 249 = .ok (.bipush 8, 2) := by decide +kernel
theorem dX9_init_251 : decode cX9_init 251 = .ok (.newarray .long, 2) := by decide +kernel
theorem dX9_init_253 : decode cX9_init 253 = .ok (.putfield 108, 3) := by decide +kernel
theorem dX9_init_256 : decode cX9_init 256 = .ok (.aload_n 0, 1) := by decide +kernel
theorem dX9_init_257 : decode cX9_init 257 = .ok (.bipush 41, 2) := by decide +kernel
theorem dX9_init_259 : decode cX9_init 259 = .ok (.newarray .boolean, 2) := by decide +kernel
theorem dX9_init_261 : decode cX9_init 261 = .ok (.putfield 111, 3) := by decide +kernel
theorem dX9_init_264 : decode cX9_init 264 = .ok (.aload_n 0, 1) := by decide +kernel
theorem dX9_init_265 : decode cX9_init 265 = .ok (.sipush 1681, 3) := by decide +kernel
theorem dX9_init_268 : decode cX9_init 268 = .ok (.newarray .long, 2) := by decide +kernel
theorem dX9_init_270 : decode cX9_init 270 = .ok (.putfield 114, 3) := by decide +kernel
theorem dX9_init_273 : decode cX9_init 273 = .ok (.aload_n 0, 1) := by decide +kernel
theorem dX9_init_274 : decode cX9_init 274 = .ok (.sipush 644, 3) := by decide +kernel
theorem dX9_init_277 : decode cX9_init 277 = .ok (.newarray .int, 2) := by decide +kernel
theorem dX9_init_279 : decode cX9_init 279 = .ok (.putfield 117, 3) := by decide +kernel
theorem dX9_init_282 : decode cX9_init 282 = .ok (.aload_n 0, 1) := by decide +kernel
theorem dX9_init_283 : decode cX9_init 283 = .ok (.sipush 25760, 3) := by decide +kernel
theorem dX9_init_286 : decode cX9_init 286 = .ok (.newarray .int, 2) := by decide +kernel
theorem dX9_init_288 : decode cX9_init 288 = .ok (.putfield 120, 3) := by decide +kernel
theorem dX9_init_291 : decode cX9_init 291 = .ok (.aload_n 0, 1) := by decide +kernel
theorem dX9_init_292 : decode cX9_init 292 = .ok (.bipush 8, 2) := by decide +kernel
theorem dX9_init_294 : decode cX9_init 294 = .ok (.newarray .int, 2) := by decide +kernel
theorem dX9_init_296 : decode cX9_init 296 = .ok (.putfield 123, 3) := by decide +kernel
theorem dX9_init_299 : decode cX9_init 299 = .ok (.aload_n 0, 1) := by decide +kernel
theorem dX9_init_300 : decode cX9_init 300 = .ok (.iconst 3, 1) := by decide +kernel
theorem dX9_init_301 : decode cX9_init 301 = .ok (.newarray .int, 2) := by decide +kernel
theorem dX9_init_303 : decode cX9_init 303 = .ok (.putfield 126, 3) := by decide +kernel
theorem dX9_init_306 : decode cX9_init 306 = .ok (.aload_n 0, 1) := by decide +kernel
theorem dX9_init_307 : decode cX9_init 307 = .ok (.bipush 8, 2) := by decide +kernel
theorem dX9_init_309 : decode cX9_init 309 = .ok (.newarray .long, 2) := by decide +kernel
theorem dX9_init_311 : decode cX9_init 311 = .ok (.putfield 129, 3) := by decide +kernel
theorem dX9_init_314 : decode cX9_init 314 = .ok (.return_, 1) := by decide +kernel
theorem dX9_thrown_0 : decode cX9_thrown 0 = .ok (.aload_n 0, 1) := by decide +kernel
theorem dX9_thrown_1 : decode cX9_thrown 1 = .ok (.getfield 132, 3) := by decide +kernel
theorem dX9_thrown_4 : decode cX9_thrown 4 = .ok (.ireturn, 1) := by decide +kernel
theorem dX9_fail_0 : decode cX9_fail 0 = .ok (.aload_n 0, 1) := by decide +kernel
theorem dX9_fail_1 : decode cX9_fail 1 = .ok (.iload_n 1, 1) := by decide +kernel
theorem dX9_fail_2 : decode cX9_fail 2 = .ok (.putfield 132, 3) := by decide +kernel
theorem dX9_fail_5 : decode cX9_fail 5 = .ok (.iconst 0, 1) := by decide +kernel
theorem dX9_fail_6 : decode cX9_fail 6 = .ok (.ireturn, 1) := by decide +kernel
theorem dX9_isIn_0 : decode cX9_isIn 0 = .ok (.lload_n 0, 1) := by decide +kernel
theorem dX9_isIn_1 : decode cX9_isIn 1 = .ok (.lload_n 2, 1) := by decide +kernel
theorem dX9_isIn_2 : decode cX9_isIn 2 = .ok (.lcmp, 1) := by decide +kernel
theorem dX9_isIn_3 : decode cX9_isIn 3 = .ok (.ifCond .lt 14, 3) := by decide +kernel
theorem dX9_isIn_6 : decode cX9_isIn 6 = .ok (.lload_n 0, 1) := by decide +kernel
theorem dX9_isIn_7 : decode cX9_isIn 7 = .ok (.lload 4, 2) := by decide +kernel
theorem dX9_isIn_9 : decode cX9_isIn 9 = .ok (.lcmp, 1) := by decide +kernel
theorem dX9_isIn_10 : decode cX9_isIn 10 = .ok (.ifCond .gt 7, 3) := by decide +kernel
theorem dX9_isIn_13 : decode cX9_isIn 13 = .ok (.iconst 1, 1) := by decide +kernel
theorem dX9_isIn_14 : decode cX9_isIn 14 = .ok (.goto 4, 3) := by decide +kernel
theorem dX9_isIn_17 : decode cX9_isIn 17 = .ok (.iconst 0, 1) := by decide +kernel
theorem dX9_isIn_18 : decode cX9_isIn 18 = .ok (.ireturn, 1) := by decide +kernel
theorem dX9_copyTo_0 : decode cX9_copyTo 0 = .ok (.iconst 0, 1) := by decide +kernel
theorem dX9_copyTo_1 : decode cX9_copyTo 1 = .ok (.istore_n 2, 1) := by decide +kernel
theorem dX9_copyTo_2 : decode cX9_copyTo 2 = .ok (.iload_n 2, 1) := by decide +kernel
theorem dX9_copyTo_3 : decode cX9_copyTo 3 = .ok (.aload_n 0, 1) := by decide +kernel
theorem dX9_copyTo_4 : decode cX9_copyTo 4 = .ok (.arraylength, 1) := by decide +kernel
theorem dX9_copyTo_5 : decode cX9_copyTo 5 = .ok (.if_icmp .ge 15, 3) := by decide +kernel
theorem dX9_copyTo_8 : decode cX9_copyTo 8 = .ok (.aload_n 0, 1) := by decide +kernel
theorem dX9_copyTo_9 : decode cX9_copyTo 9 = .ok (.iload_n 2, 1) := by decide +kernel
theorem dX9_copyTo_10 : decode cX9_copyTo 10 = .ok (.aload_n 1, 1) := by decide +kernel
theorem dX9_copyTo_11 : decode cX9_copyTo 11 = .ok (.iload_n 2, 1) := by decide +kernel
theorem dX9_copyTo_12 : decode cX9_copyTo 12 = .ok (.iaload, 1) := by decide +kernel
theorem dX9_copyTo_13 : decode cX9_copyTo 13 = .ok (.iastore, 1) := by decide +kernel
theorem dX9_copyTo_14 : decode cX9_copyTo 14 = .ok (.iinc 2 1, 3) := by decide +kernel
theorem dX9_copyTo_17 : decode cX9_copyTo 17 = .ok (.goto (-15), 3) := by decide +kernel
theorem dX9_copyTo_20 : decode cX9_copyTo 20 = .ok (.return_, 1) := by decide +kernel
theorem dX9_clear_0 : decode cX9_clear 0 = .ok (.iconst 0, 1) := by decide +kernel
theorem dX9_clear_1 : decode cX9_clear 1 = .ok (.istore_n 1, 1) := by decide +kernel
theorem dX9_clear_2 : decode cX9_clear 2 = .ok (.iload_n 1, 1) := by decide +kernel
theorem dX9_clear_3 : decode cX9_clear 3 = .ok (.aload_n 0, 1) := by decide +kernel
theorem dX9_clear_4 : decode cX9_clear 4 = .ok (.arraylength, 1) := by decide +kernel
theorem dX9_clear_5 : decode cX9_clear 5 = .ok (.if_icmp .ge 13, 3) := by decide +kernel
theorem dX9_clear_8 : decode cX9_clear 8 = .ok (.aload_n 0, 1) := by decide +kernel
theorem dX9_clear_9 : decode cX9_clear 9 = .ok (.iload_n 1, 1) := by decide +kernel
theorem dX9_clear_10 : decode cX9_clear 10 = .ok (.iconst 0, 1) := by decide +kernel
theorem dX9_clear_11 : decode cX9_clear 11 = .ok (.iastore, 1) := by decide +kernel
theorem dX9_clear_12 : decode cX9_clear 12 = .ok (.iinc 1 1, 3) := by decide +kernel
theorem dX9_clear_15 : decode cX9_clear 15 = .ok (.goto (-13), 3) := by decide +kernel
theorem dX9_clear_18 : decode cX9_clear 18 = .ok (.return_, 1) := by decide +kernel
theorem dX9_valueAt_0 : decode cX9_valueAt 0 = .ok (.aload_n 0, 1) := by decide +kernel
theorem dX9_valueAt_1 : decode cX9_valueAt 1 = .ok (.iconst 1, 1) := by decide +kernel
theorem dX9_valueAt_2 : decode cX9_valueAt 2 = .ok (.iaload, 1) := by decide +kernel
theorem dX9_valueAt_3 : decode cX9_valueAt 3 = .ok (.i2l, 1) := by decide +kernel
theorem dX9_valueAt_4 : decode cX9_valueAt 4 = .ok (.lstore_n 2, 1) := by decide +kernel
theorem dX9_valueAt_5 : decode cX9_valueAt 5 = .ok (.iload_n 1, 1) := by decide +kernel
theorem dX9_valueAt_6 : decode cX9_valueAt 6 = .ok (.sipush (-5000), 3) := by decide +kernel
theorem dX9_valueAt_9 : decode cX9_valueAt 9 = .ok (.if_icmp .gt 17, 3) := by decide +kernel
theorem dX9_valueAt_12 : decode cX9_valueAt 12 = .ok (.lload_n 2, 1) := by decide +kernel
theorem dX9_valueAt_13 : decode cX9_valueAt 13 = .ok (.aload_n 0, 1) := by decide +kernel
theorem dX9_valueAt_14 : decode cX9_valueAt 14 = .ok (.iconst 0, 1) := by decide +kernel
theorem dX9_valueAt_15 : decode cX9_valueAt 15 = .ok (.iaload, 1) := by decide +kernel
theorem dX9_valueAt_16 : decode cX9_valueAt 16 = .ok (.i2l, 1) := by decide +kernel
theorem dX9_valueAt_17 : decode cX9_valueAt 17 = .ok (.iload_n 1, 1) := by decide +kernel
theorem dX9_valueAt_18 : decode cX9_valueAt 18 = .ok (.sipush 5000, 3) := by decide +kernel
theorem dX9_valueAt_21 : decode cX9_valueAt 21 = .ok (.iadd, 1) := by decide +kernel
theorem dX9_valueAt_22 : decode cX9_valueAt 22 = .ok (.i2l, 1) := by decide +kernel
theorem dX9_valueAt_23 : decode cX9_valueAt 23 = .ok (.lmul, 1) := by decide +kernel
theorem dX9_valueAt_24 : decode cX9_valueAt 24 = .ok (.ladd, 1) := by decide +kernel
theorem dX9_valueAt_25 : decode cX9_valueAt 25 = .ok (.lreturn, 1) := by decide +kernel
theorem dX9_valueAt_26 : decode cX9_valueAt 26 = .ok (.aload_n 0, 1) := by decide +kernel
theorem dX9_valueAt_27 : decode cX9_valueAt 27 = .ok (.iconst 0, 1) := by decide +kernel
theorem dX9_valueAt_28 : decode cX9_valueAt 28 = .ok (.iaload, 1) := by decide +kernel
theorem dX9_valueAt_29 : decode cX9_valueAt 29 = .ok (.i2l, 1) := by decide +kernel
theorem dX9_valueAt_30 : decode cX9_valueAt 30 = .ok (.lstore 4, 2) := by decide +kernel
theorem dX9_valueAt_32 : decode cX9_valueAt 32 = .ok (.iload_n 1, 1) := by decide +kernel
theorem dX9_valueAt_33 : decode cX9_valueAt 33 = .ok (.sipush 5000, 3) := by decide +kernel
theorem dX9_valueAt_36 : decode cX9_valueAt 36 = .ok (.invokestatic 135, 3) := by decide +kernel
theorem dX9_valueAt_39 : decode cX9_valueAt 39 = .ok (.istore 6, 2) := by decide +kernel
theorem dX9_valueAt_41 : decode cX9_valueAt 41 = .ok (.sipush (-5000), 3) := by decide +kernel
theorem dX9_valueAt_44 : decode cX9_valueAt 44 = .ok (.istore 7, 2) := by decide +kernel
theorem dX9_valueAt_46 : decode cX9_valueAt 46 = .ok (.iload 7, 2) := by decide +kernel
theorem dX9_valueAt_48 : decode cX9_valueAt 48 = .ok (.iload 6, 2) := by decide +kernel
theorem dX9_valueAt_50 : decode cX9_valueAt 50 = .ok (.if_icmp .ge 28, 3) := by decide +kernel
theorem dX9_valueAt_53 : decode cX9_valueAt 53 = .ok (.lload 4, 2) := by decide +kernel
theorem dX9_valueAt_55 : decode cX9_valueAt 55 = .ok (.aload_n 0, 1) := by decide +kernel
theorem dX9_valueAt_56 : decode cX9_valueAt 56 = .ok (.sipush 5002, 3) := by decide +kernel
theorem dX9_valueAt_59 : decode cX9_valueAt 59 = .ok (.iload 7, 2) := by decide +kernel
theorem dX9_valueAt_61 : decode cX9_valueAt 61 = .ok (.iadd, 1) := by decide +kernel
theorem dX9_valueAt_62 : decode cX9_valueAt 62 = .ok (.iaload, 1) := by decide +kernel
theorem dX9_valueAt_63 : decode cX9_valueAt 63 = .ok (.i2l, 1) := by decide +kernel
theorem dX9_valueAt_64 : decode cX9_valueAt 64 = .ok (.ladd, 1) := by decide +kernel
theorem dX9_valueAt_65 : decode cX9_valueAt 65 = .ok (.lstore 4, 2) := by decide +kernel
theorem dX9_valueAt_67 : decode cX9_valueAt 67 = .ok (.lload_n 2, 1) := by decide +kernel
theorem dX9_valueAt_68 : decode cX9_valueAt 68 = .ok (.lload 4, 2) := by decide +kernel
theorem dX9_valueAt_70 : decode cX9_valueAt 70 = .ok (.ladd, 1) := by decide +kernel
theorem dX9_valueAt_71 : decode cX9_valueAt 71 = .ok (.lstore_n 2, 1) := by decide +kernel
theorem dX9_valueAt_72 : decode cX9_valueAt 72 = .ok (.iinc 7 1, 3) := by decide +kernel
theorem dX9_valueAt_75 : decode cX9_valueAt 75 = .ok (.goto (-29), 3) := by decide +kernel
theorem dX9_valueAt_78 : decode cX9_valueAt 78 = .ok (.iload_n 1, 1) := by decide +kernel
theorem dX9_valueAt_79 : decode cX9_valueAt 79 = .ok (.sipush 5000, 3) := by decide +kernel
theorem dX9_valueAt_82 : decode cX9_valueAt 82 = .ok (.if_icmp .gt 7, 3) := by decide +kernel
theorem dX9_valueAt_85 : decode cX9_valueAt 85 = .ok (.lload_n 2, 1) := by decide +kernel
theorem dX9_valueAt_86 : decode cX9_valueAt 86 = .ok (.goto 21, 3) := by decide +kernel
theorem dX9_valueAt_89 : decode cX9_valueAt 89 = .ok (.lload_n 2, 1) := by decide +kernel
theorem dX9_valueAt_90 : decode cX9_valueAt 90 = .ok (.lload 4, 2) := by decide +kernel
theorem dX9_valueAt_92 : decode cX9_valueAt 92 = .ok (.aload_n 0, 1) := by decide +kernel
theorem dX9_valueAt_93 : decode cX9_valueAt 93 = .ok (.sipush 10002, 3) := by decide +kernel
theorem dX9_valueAt_96 : decode cX9_valueAt 96 = .ok (.iaload, 1) := by decide +kernel
theorem dX9_valueAt_97 : decode cX9_valueAt 97 = .ok (.i2l, 1) := by decide +kernel
theorem dX9_valueAt_98 : decode cX9_valueAt 98 = .ok (.ladd, 1) := by decide +kernel
theorem dX9_valueAt_99 : decode cX9_valueAt 99 = .ok (.iload_n 1, 1) := by decide +kernel
theorem dX9_valueAt_100 : decode cX9_valueAt 100 = .ok (.sipush 5000, 3) := by decide +kernel
theorem dX9_valueAt_103 : decode cX9_valueAt 103 = .ok (.isub, 1) := by decide +kernel
theorem dX9_valueAt_104 : decode cX9_valueAt 104 = .ok (.i2l, 1) := by decide +kernel
theorem dX9_valueAt_105 : decode cX9_valueAt 105 = .ok (.lmul, 1) := by decide +kernel
theorem dX9_valueAt_106 : decode cX9_valueAt 106 = .ok (.ladd, 1) := by decide +kernel
theorem dX9_valueAt_107 : decode cX9_valueAt 107 = .ok (.lreturn, 1) := by decide +kernel
theorem dX9_weights_0 : decode cX9_weights 0 = .ok (.iconst 0, 1) := by decide +kernel
theorem dX9_weights_1 : decode cX9_weights 1 = .ok (.istore_n 1, 1) := by decide +kernel
theorem dX9_weights_2 : decode cX9_weights 2 = .ok (.iconst 0, 1) := by decide +kernel
theorem dX9_weights_3 : decode cX9_weights 3 = .ok (.istore_n 2, 1) := by decide +kernel
theorem dX9_weights_4 : decode cX9_weights 4 = .ok (.iload_n 2, 1) := by decide +kernel
theorem dX9_weights_5 : decode cX9_weights 5 = .ok (.sipush 10001, 3) := by decide +kernel
theorem dX9_weights_8 : decode cX9_weights 8 = .ok (.if_icmp .ge 17, 3) := by decide +kernel
theorem dX9_weights_11 : decode cX9_weights 11 = .ok (.iload_n 1, 1) := by decide +kernel
theorem dX9_weights_12 : decode cX9_weights 12 = .ok (.aload_n 0, 1) := by decide +kernel
theorem dX9_weights_13 : decode cX9_weights 13 = .ok (.iconst 2, 1) := by decide +kernel
theorem dX9_weights_14 : decode cX9_weights 14 = .ok (.iload_n 2, 1) := by decide +kernel
theorem dX9_weights_15 : decode cX9_weights 15 = .ok (.iadd, 1) := by decide +kernel
theorem dX9_weights_16 : decode cX9_weights 16 = .ok (.iaload, 1) := by decide +kernel
theorem dX9_weights_17 : decode cX9_weights 17 = .ok (.iadd, 1) := by decide +kernel
theorem dX9_weights_18 : decode cX9_weights 18 = .ok (.istore_n 1, 1) := by decide +kernel
theorem dX9_weights_19 : decode cX9_weights 19 = .ok (.iinc 2 1, 3) := by decide +kernel
theorem dX9_weights_22 : decode cX9_weights 22 = .ok (.goto (-18), 3) := by decide +kernel
theorem dX9_weights_25 : decode cX9_weights 25 = .ok (.iload_n 1, 1) := by decide +kernel
theorem dX9_weights_26 : decode cX9_weights 26 = .ok (.ireturn, 1) := by decide +kernel
theorem dX9_kinks_0 : decode cX9_kinks 0 = .ok (.iconst 0, 1) := by decide +kernel
theorem dX9_kinks_1 : decode cX9_kinks 1 = .ok (.istore_n 1, 1) := by decide +kernel
theorem dX9_kinks_2 : decode cX9_kinks 2 = .ok (.iconst 0, 1) := by decide +kernel
theorem dX9_kinks_3 : decode cX9_kinks 3 = .ok (.istore_n 2, 1) := by decide +kernel
theorem dX9_kinks_4 : decode cX9_kinks 4 = .ok (.iload_n 2, 1) := by decide +kernel
theorem dX9_kinks_5 : decode cX9_kinks 5 = .ok (.sipush 10001, 3) := by decide +kernel
theorem dX9_kinks_8 : decode cX9_kinks 8 = .ok (.if_icmp .ge 25, 3) := by decide +kernel
theorem dX9_kinks_11 : decode cX9_kinks 11 = .ok (.iload_n 1, 1) := by decide +kernel
theorem dX9_kinks_12 : decode cX9_kinks 12 = .ok (.aload_n 0, 1) := by decide +kernel
theorem dX9_kinks_13 : decode cX9_kinks 13 = .ok (.iconst 2, 1) := by decide +kernel
theorem dX9_kinks_14 : decode cX9_kinks 14 = .ok (.iload_n 2, 1) := by decide +kernel
theorem dX9_kinks_15 : decode cX9_kinks 15 = .ok (.iadd, 1) := by decide +kernel
theorem dX9_kinks_16 : decode cX9_kinks 16 = .ok (.iaload, 1) := by decide +kernel
theorem dX9_kinks_17 : decode cX9_kinks 17 = .ok (.ifCond .le 7, 3) := by decide +kernel
theorem dX9_kinks_20 : decode cX9_kinks 20 = .ok (.iconst 1, 1) := by decide +kernel
theorem dX9_kinks_21 : decode cX9_kinks 21 = .ok (.goto 4, 3) := by decide +kernel
theorem dX9_kinks_24 : decode cX9_kinks 24 = .ok (.iconst 0, 1) := by decide +kernel
theorem dX9_kinks_25 : decode cX9_kinks 25 = .ok (.iadd, 1) := by decide +kernel
theorem dX9_kinks_26 : decode cX9_kinks 26 = .ok (.istore_n 1, 1) := by decide +kernel
theorem dX9_kinks_27 : decode cX9_kinks 27 = .ok (.iinc 2 1, 3) := by decide +kernel
theorem dX9_kinks_30 : decode cX9_kinks 30 = .ok (.goto (-26), 3) := by decide +kernel
theorem dX9_kinks_33 : decode cX9_kinks 33 = .ok (.iload_n 1, 1) := by decide +kernel
theorem dX9_kinks_34 : decode cX9_kinks 34 = .ok (.ireturn, 1) := by decide +kernel
theorem dX9_turnsTo_0 : decode cX9_turnsTo 0 = .ok (.aload_n 0, 1) := by decide +kernel
theorem dX9_turnsTo_1 : decode cX9_turnsTo 1 = .ok (.iconst 0, 1) := by decide +kernel
theorem dX9_turnsTo_2 : decode cX9_turnsTo 2 = .ok (.iaload, 1) := by decide +kernel
theorem dX9_turnsTo_3 : decode cX9_turnsTo 3 = .ok (.istore_n 2, 1) := by decide +kernel
theorem dX9_turnsTo_4 : decode cX9_turnsTo 4 = .ok (.iload_n 2, 1) := by decide +kernel
theorem dX9_turnsTo_5 : decode cX9_turnsTo 5 = .ok (.iload_n 1, 1) := by decide +kernel
theorem dX9_turnsTo_6 : decode cX9_turnsTo 6 = .ok (.if_icmp .lt 6, 3) := by decide +kernel
theorem dX9_turnsTo_9 : decode cX9_turnsTo 9 = .ok (.ldc 141, 2) := by decide +kernel
theorem dX9_turnsTo_11 : decode cX9_turnsTo 11 = .ok (.ireturn, 1) := by decide +kernel
theorem dX9_turnsTo_12 : decode cX9_turnsTo 12 = .ok (.iconst 0, 1) := by decide +kernel
theorem dX9_turnsTo_13 : decode cX9_turnsTo 13 = .ok (.istore_n 3, 1) := by decide +kernel
theorem dX9_turnsTo_14 : decode cX9_turnsTo 14 = .ok (.iload_n 3, 1) := by decide +kernel
theorem dX9_turnsTo_15 : decode cX9_turnsTo 15 = .ok (.sipush 10001, 3) := by decide +kernel
theorem dX9_turnsTo_18 : decode cX9_turnsTo 18 = .ok (.if_icmp .ge 28, 3) := by decide +kernel
theorem dX9_turnsTo_21 : decode cX9_turnsTo 21 = .ok (.iload_n 2, 1) := by decide +kernel
theorem dX9_turnsTo_22 : decode cX9_turnsTo 22 = .ok (.aload_n 0, 1) := by decide +kernel
theorem dX9_turnsTo_23 : decode cX9_turnsTo 23 = .ok (.iconst 2, 1) := by decide +kernel
theorem dX9_turnsTo_24 : decode cX9_turnsTo 24 = .ok (.iload_n 3, 1) := by decide +kernel
theorem dX9_turnsTo_25 : decode cX9_turnsTo 25 = .ok (.iadd, 1) := by decide +kernel
theorem dX9_turnsTo_26 : decode cX9_turnsTo 26 = .ok (.iaload, 1) := by decide +kernel
theorem dX9_turnsTo_27 : decode cX9_turnsTo 27 = .ok (.iadd, 1) := by decide +kernel
theorem dX9_turnsTo_28 : decode cX9_turnsTo 28 = .ok (.istore_n 2, 1) := by decide +kernel
theorem dX9_turnsTo_29 : decode cX9_turnsTo 29 = .ok (.iload_n 2, 1) := by decide +kernel
theorem dX9_turnsTo_30 : decode cX9_turnsTo 30 = .ok (.iload_n 1, 1) := by decide +kernel
theorem dX9_turnsTo_31 : decode cX9_turnsTo 31 = .ok (.if_icmp .lt 9, 3) := by decide +kernel
theorem dX9_turnsTo_34 : decode cX9_turnsTo 34 = .ok (.iload_n 3, 1) := by decide +kernel
theorem dX9_turnsTo_35 : decode cX9_turnsTo 35 = .ok (.sipush 5000, 3) := by decide +kernel
theorem dX9_turnsTo_38 : decode cX9_turnsTo 38 = .ok (.isub, 1) := by decide +kernel
theorem dX9_turnsTo_39 : decode cX9_turnsTo 39 = .ok (.ireturn, 1) := by decide +kernel
theorem dX9_turnsTo_40 : decode cX9_turnsTo 40 = .ok (.iinc 3 1, 3) := by decide +kernel
theorem dX9_turnsTo_43 : decode cX9_turnsTo 43 = .ok (.goto (-29), 3) := by decide +kernel
theorem dX9_turnsTo_46 : decode cX9_turnsTo 46 = .ok (.ldc 142, 2) := by decide +kernel
theorem dX9_turnsTo_48 : decode cX9_turnsTo 48 = .ok (.ireturn, 1) := by decide +kernel
theorem dX9_flatFrom_0 : decode cX9_flatFrom 0 = .ok (.aload_n 0, 1) := by decide +kernel
theorem dX9_flatFrom_1 : decode cX9_flatFrom 1 = .ok (.iconst 0, 1) := by decide +kernel
theorem dX9_flatFrom_2 : decode cX9_flatFrom 2 = .ok (.invokestatic 143, 3) := by decide +kernel
theorem dX9_flatFrom_5 : decode cX9_flatFrom 5 = .ok (.ireturn, 1) := by decide +kernel
theorem dX9_flatTo_0 : decode cX9_flatTo 0 = .ok (.aload_n 0, 1) := by decide +kernel
theorem dX9_flatTo_1 : decode cX9_flatTo 1 = .ok (.iconst 1, 1) := by decide +kernel
theorem dX9_flatTo_2 : decode cX9_flatTo 2 = .ok (.invokestatic 143, 3) := by decide +kernel
theorem dX9_flatTo_5 : decode cX9_flatTo 5 = .ok (.ireturn, 1) := by decide +kernel
theorem dX9_nearest_0 : decode cX9_nearest 0 = .ok (.iload_n 2, 1) := by decide +kernel
theorem dX9_nearest_1 : decode cX9_nearest 1 = .ok (.iload_n 0, 1) := by decide +kernel
theorem dX9_nearest_2 : decode cX9_nearest 2 = .ok (.if_icmp .ge 7, 3) := by decide +kernel
theorem dX9_nearest_5 : decode cX9_nearest 5 = .ok (.iload_n 0, 1) := by decide +kernel
theorem dX9_nearest_6 : decode cX9_nearest 6 = .ok (.goto 13, 3) := by decide +kernel
theorem dX9_nearest_9 : decode cX9_nearest 9 = .ok (.iload_n 2, 1) := by decide +kernel
theorem dX9_nearest_10 : decode cX9_nearest 10 = .ok (.iload_n 1, 1) := by decide +kernel
theorem dX9_nearest_11 : decode cX9_nearest 11 = .ok (.if_icmp .le 7, 3) := by decide +kernel
theorem dX9_nearest_14 : decode cX9_nearest 14 = .ok (.iload_n 1, 1) := by decide +kernel
theorem dX9_nearest_15 : decode cX9_nearest 15 = .ok (.goto 4, 3) := by decide +kernel
theorem dX9_nearest_18 : decode cX9_nearest 18 = .ok (.iload_n 2, 1) := by decide +kernel
theorem dX9_nearest_19 : decode cX9_nearest 19 = .ok (.ireturn, 1) := by decide +kernel
theorem dX9_leastOf_0 : decode cX9_leastOf 0 = .ok (.aload_n 0, 1) := by decide +kernel
theorem dX9_leastOf_1 : decode cX9_leastOf 1 = .ok (.aload_n 0, 1) := by decide +kernel
theorem dX9_leastOf_2 : decode cX9_leastOf 2 = .ok (.invokestatic 147, 3) := by decide +kernel
theorem dX9_leastOf_5 : decode cX9_leastOf 5 = .ok (.aload_n 0, 1) := by decide +kernel
theorem dX9_leastOf_6 : decode cX9_leastOf 6 = .ok (.invokestatic 151, 3) := by decide +kernel
theorem dX9_leastOf_9 : decode cX9_leastOf 9 = .ok (.iconst 0, 1) := by decide +kernel
theorem dX9_leastOf_10 : decode cX9_leastOf 10 = .ok (.invokestatic 154, 3) := by decide +kernel
theorem dX9_leastOf_13 : decode cX9_leastOf 13 = .ok (.invokestatic 158, 3) := by decide +kernel
theorem dX9_leastOf_16 : decode cX9_leastOf 16 = .ok (.lreturn, 1) := by decide +kernel
theorem dX9_adds_0 : decode cX9_adds 0 = .ok (.iload_n 2, 1) := by decide +kernel
theorem dX9_adds_1 : decode cX9_adds 1 = .ok (.ifCond .ne 4, 3) := by decide +kernel
theorem dX9_adds_4 : decode cX9_adds 4 = .ok (.return_, 1) := by decide +kernel
theorem dX9_adds_5 : decode cX9_adds 5 = .ok (.iload_n 1, 1) := by decide +kernel
theorem dX9_adds_6 : decode cX9_adds 6 = .ok (.i2l, 1) := by decide +kernel
theorem dX9_adds_7 : decode cX9_adds 7 = .ok (.ldc2_w 162, 3) := by decide +kernel
theorem dX9_adds_10 : decode cX9_adds 10 = .ok (.ldc2_w 164, 3) := by decide +kernel
theorem dX9_adds_13 : decode cX9_adds 13 = .ok (.invokestatic 166, 3) := by decide +kernel
theorem dX9_adds_16 : decode cX9_adds 16 = .ok (.ifCond .eq 20, 3) := by decide +kernel
theorem dX9_adds_19 : decode cX9_adds 19 = .ok (.aload_n 0, 1) := by decide +kernel
theorem dX9_adds_20 : decode cX9_adds 20 = .ok (.getfield 40, 3) := by decide +kernel
theorem dX9_adds_23 : decode cX9_adds 23 = .ok (.sipush 5002, 3) := by decide +kernel
theorem dX9_adds_26 : decode cX9_adds 26 = .ok (.iload_n 1, 1) := by decide +kernel
theorem dX9_adds_27 : decode cX9_adds 27 = .ok (.iadd, 1) := by decide +kernel
theorem dX9_adds_28 : decode cX9_adds 28 = .ok (.dup2, 1) := by decide +kernel
theorem dX9_adds_29 : decode cX9_adds 29 = .ok (.iaload, 1) := by decide +kernel
theorem dX9_adds_30 : decode cX9_adds 30 = .ok (.iload_n 2, 1) := by decide +kernel
theorem dX9_adds_31 : decode cX9_adds 31 = .ok (.iadd, 1) := by decide +kernel
theorem dX9_adds_32 : decode cX9_adds 32 = .ok (.iastore, 1) := by decide +kernel
theorem dX9_adds_33 : decode cX9_adds 33 = .ok (.goto 8, 3) := by decide +kernel
theorem dX9_adds_36 : decode cX9_adds 36 = .ok (.aload_n 0, 1) := by decide +kernel
theorem dX9_adds_37 : decode cX9_adds 37 = .ok (.iconst 1, 1) := by decide +kernel
theorem dX9_adds_38 : decode cX9_adds 38 = .ok (.putfield 170, 3) := by decide +kernel
theorem dX9_adds_41 : decode cX9_adds 41 = .ok (.return_, 1) := by decide +kernel
theorem dX9_leans_0 : decode cX9_leans 0 = .ok (.aload_n 0, 1) := by decide +kernel
theorem dX9_leans_1 : decode cX9_leans 1 = .ok (.getfield 40, 3) := by decide +kernel
theorem dX9_leans_4 : decode cX9_leans 4 = .ok (.iconst 0, 1) := by decide +kernel
theorem dX9_leans_5 : decode cX9_leans 5 = .ok (.dup2, 1) := by decide +kernel
theorem dX9_leans_6 : decode cX9_leans 6 = .ok (.iaload, 1) := by decide +kernel
theorem dX9_leans_7 : decode cX9_leans 7 = .ok (.iload_n 2, 1) := by decide +kernel
theorem dX9_leans_8 : decode cX9_leans 8 = .ok (.isub, 1) := by decide +kernel
theorem dX9_leans_9 : decode cX9_leans 9 = .ok (.iastore, 1) := by decide +kernel
theorem dX9_leans_10 : decode cX9_leans 10 = .ok (.aload_n 0, 1) := by decide +kernel
theorem dX9_leans_11 : decode cX9_leans 11 = .ok (.getfield 40, 3) := by decide +kernel
theorem dX9_leans_14 : decode cX9_leans 14 = .ok (.iconst 1, 1) := by decide +kernel
theorem dX9_leans_15 : decode cX9_leans 15 = .ok (.dup2, 1) := by decide +kernel
theorem dX9_leans_16 : decode cX9_leans 16 = .ok (.iaload, 1) := by decide +kernel
theorem dX9_leans_17 : decode cX9_leans 17 = .ok (.iload_n 2, 1) := by decide +kernel
theorem dX9_leans_18 : decode cX9_leans 18 = .ok (.iload_n 1, 1) := by decide +kernel
theorem dX9_leans_19 : decode cX9_leans 19 = .ok (.sipush 5000, 3) := by decide +kernel
theorem dX9_leans_22 : decode cX9_leans 22 = .ok (.iadd, 1) := by decide +kernel
theorem dX9_leans_23 : decode cX9_leans 23 = .ok (.imul, 1) := by decide +kernel
theorem dX9_leans_24 : decode cX9_leans 24 = .ok (.iadd, 1) := by decide +kernel
theorem dX9_leans_25 : decode cX9_leans 25 = .ok (.iastore, 1) := by decide +kernel
theorem dX9_leans_26 : decode cX9_leans 26 = .ok (.aload_n 0, 1) := by decide +kernel
theorem dX9_leans_27 : decode cX9_leans 27 = .ok (.iload_n 1, 1) := by decide +kernel
theorem dX9_leans_28 : decode cX9_leans 28 = .ok (.iload_n 2, 1) := by decide +kernel
theorem dX9_leans_29 : decode cX9_leans 29 = .ok (.iload_n 3, 1) := by decide +kernel
theorem dX9_leans_30 : decode cX9_leans 30 = .ok (.iadd, 1) := by decide +kernel
theorem dX9_leans_31 : decode cX9_leans 31 = .ok (.invokevirtual 174, 3) := by decide +kernel
theorem dX9_leans_34 : decode cX9_leans 34 = .ok (.return_, 1) := by decide +kernel
theorem dX9_drifts_0 : decode cX9_drifts 0 = .ok (.aload_n 0, 1) := by decide +kernel
theorem dX9_drifts_1 : decode cX9_drifts 1 = .ok (.getfield 46, 3) := by decide +kernel
theorem dX9_drifts_4 : decode cX9_drifts 4 = .ok (.aload_n 0, 1) := by decide +kernel
theorem dX9_drifts_5 : decode cX9_drifts 5 = .ok (.getfield 40, 3) := by decide +kernel
theorem dX9_drifts_8 : decode cX9_drifts 8 = .ok (.invokestatic 178, 3) := by decide +kernel
theorem dX9_drifts_11 : decode cX9_drifts 11 = .ok (.aload_n 0, 1) := by decide +kernel
theorem dX9_drifts_12 : decode cX9_drifts 12 = .ok (.getfield 40, 3) := by decide +kernel
theorem dX9_drifts_15 : decode cX9_drifts 15 = .ok (.iconst 1, 1) := by decide +kernel
theorem dX9_drifts_16 : decode cX9_drifts 16 = .ok (.aload_n 0, 1) := by decide +kernel
theorem dX9_drifts_17 : decode cX9_drifts 17 = .ok (.getfield 46, 3) := by decide +kernel
theorem dX9_drifts_20 : decode cX9_drifts 20 = .ok (.sipush (-5000), 3) := by decide +kernel
theorem dX9_drifts_23 : decode cX9_drifts 23 = .ok (.iload_n 1, 1) := by decide +kernel
theorem dX9_drifts_24 : decode cX9_drifts 24 = .ok (.isub, 1) := by decide +kernel
theorem dX9_drifts_25 : decode cX9_drifts 25 = .ok (.invokestatic 158, 3) := by decide +kernel
theorem dX9_drifts_28 : decode cX9_drifts 28 = .ok (.l2i, 1) := by decide +kernel
