theorem dX12_init_0 : decode cX12_init 0 = .ok (.aload_n 0, 1) := by decide +kernel
theorem dX12_init_1 : decode cX12_init 1 = .ok (.invokespecial 1, 3) := by decide +kernel
theorem dX12_init_4 : decode cX12_init 4 = .ok (.aload_n 0, 1) := by decide +kernel
theorem dX12_init_5 : decode cX12_init 5 = .ok (.bipush 9, 2) := by decide +kernel
theorem dX12_init_7 : decode cX12_init 7 = .ok (.anewarray 7, 3) := by decide +kernel
theorem dX12_init_10 : decode cX12_init 10 = .ok (.dup, 1) := by decide +kernel
theorem dX12_init_11 : decode cX12_init 11 = .ok (.iconst 0, 1) := by decide +kernel
theorem dX12_init_12 : decode cX12_init 12 = .ok (.ldc 9, 2) := by decide +kernel
theorem dX12_init_14 : decode cX12_init 14 = .ok (.aastore, 1) := by decide +kernel
theorem dX12_init_15 : decode cX12_init 15 = .ok (.dup, 1) := by decide +kernel
theorem dX12_init_16 : decode cX12_init 16 = .ok (.iconst 1, 1) := by decide +kernel
theorem dX12_init_17 : decode cX12_init 17 = .ok (.ldc 11, 2) := by decide +kernel
theorem dX12_init_19 : decode cX12_init 19 = .ok (.aastore, 1) := by decide +kernel
theorem dX12_init_20 : decode cX12_init 20 = .ok (.dup, 1) := by decide +kernel
theorem dX12_init_21 : decode cX12_init 21 = .ok (.iconst 2, 1) := by decide +kernel
theorem dX12_init_22 : decode cX12_init 22 = .ok (.ldc 13, 2) := by decide +kernel
theorem dX12_init_24 : decode cX12_init 24 = .ok (.aastore, 1) := by decide +kernel
theorem dX12_init_25 : decode cX12_init 25 = .ok (.dup, 1) := by decide +kernel
theorem dX12_init_26 : decode cX12_init 26 = .ok (.iconst 3, 1) := by decide +kernel
theorem dX12_init_27 : decode cX12_init 27 = .ok (.ldc 15, 2) := by decide +kernel
theorem dX12_init_29 : decode cX12_init 29 = .ok (.aastore, 1) := by decide +kernel
theorem dX12_init_30 : decode cX12_init 30 = .ok (.dup, 1) := by decide +kernel
theorem dX12_init_31 : decode cX12_init 31 = .ok (.iconst 4, 1) := by decide +kernel
theorem dX12_init_32 : decode cX12_init 32 = .ok (.ldc 17, 2) := by decide +kernel
theorem dX12_init_34 : decode cX12_init 34 = .ok (.aastore, 1) := by decide +kernel
theorem dX12_init_35 : decode cX12_init 35 = .ok (.dup, 1) := by decide +kernel
theorem dX12_init_36 : decode cX12_init 36 = .ok (.iconst 5, 1) := by decide +kernel
theorem dX12_init_37 : decode cX12_init 37 = .ok (.ldc 19, 2) := by decide +kernel
theorem dX12_init_39 : decode cX12_init 39 = .ok (.aastore, 1) := by decide +kernel
theorem dX12_init_40 : decode cX12_init 40 = .ok (.dup, 1) := by decide +kernel
theorem dX12_init_41 : decode cX12_init 41 = .ok (.bipush 6, 2) := by decide +kernel
theorem dX12_init_43 : decode cX12_init 43 = .ok (.ldc 21, 2) := by decide +kernel
theorem dX12_init_45 : decode cX12_init 45 = .ok (.aastore, 1) := by decide +kernel
theorem dX12_init_46 : decode cX12_init 46 = .ok (.dup, 1) := by decide +kernel
theorem dX12_init_47 : decode cX12_init 47 = .ok (.bipush 7, 2) := by decide +kernel
theorem dX12_init_49 : decode cX12_init 49 = .ok (.ldc 23, 2) := by decide +kernel
theorem dX12_init_51 : decode cX12_init 51 = .ok (.aastore, 1) := by decide +kernel
theorem dX12_init_52 : decode cX12_init 52 = .ok (.dup, 1) := by decide +kernel
theorem dX12_init_53 : decode cX12_init 53 = .ok (.bipush 8, 2) := by decide +kernel
theorem dX12_init_55 : decode cX12_init 55 = .ok (.ldc 25, 2) := by decide +kernel
theorem dX12_init_57 : decode cX12_init 57 = .ok (.aastore, 1) := by decide +kernel
theorem dX12_init_58 : decode cX12_init 58 = .ok (.putfield 27, 3) := by decide +kernel
theorem dX12_init_61 : decode cX12_init 61 = .ok (.aload_n 0, 1) := by decide +kernel
theorem dX12_init_62 : decode cX12_init 62 = .ok (.sipush 644, 3) := by decide +kernel
theorem dX12_init_65 : decode cX12_init 65 = .ok (.newarray .int, 2) := by decide +kernel
theorem dX12_init_67 : decode cX12_init 67 = .ok (.putfield 33, 3) := by decide +kernel
theorem dX12_init_70 : decode cX12_init 70 = .ok (.aload_n 0, 1) := by decide +kernel
theorem dX12_init_71 : decode cX12_init 71 = .ok (.iconst 3, 1) := by decide +kernel
theorem dX12_init_72 : decode cX12_init 72 = .ok (.newarray .int, 2) := by decide +kernel
theorem dX12_init_74 : decode cX12_init 74 = .ok (.putfield 37, 3) := by decide +kernel
theorem dX12_init_77 : decode cX12_init 77 = .ok (.aload_n 0, 1) := by decide +kernel
theorem dX12_init_78 : decode cX12_init 78 = .ok (.sipush 10003, 3) := by decide +kernel
theorem dX12_init_81 : decode cX12_init 81 = .ok (.newarray .int, 2) := by decide +kernel
theorem dX12_init_83 : decode cX12_init 83 = .ok (.putfield 40, 3) := by decide +kernel
theorem dX12_init_86 : decode cX12_init 86 = .ok (.aload_n 0, 1) := by decide +kernel
theorem dX12_init_87 : decode cX12_init 87 = .ok (.sipush 10003, 3) := by decide +kernel
theorem dX12_init_90 : decode cX12_init 90 = .ok (.newarray .int, 2) := by decide +kernel
theorem dX12_init_92 : decode cX12_init 92 = .ok (.putfield 43, 3) := by decide +kernel
theorem dX12_init_95 : decode cX12_init 95 = .ok (.aload_n 0, 1) := by decide +kernel
theorem dX12_init_96 : decode cX12_init 96 = .ok (.sipush 10003, 3) := by decide +kernel
theorem dX12_init_99 : decode cX12_init 99 = .ok (.newarray .int, 2) := by decide +kernel
theorem dX12_init_101 : decode cX12_init 101 = .ok (.putfield 46, 3) := by decide +kernel
theorem dX12_init_104 : decode cX12_init 104 = .ok (.aload_n 0, 1) := by decide +kernel
theorem dX12_init_105 : decode cX12_init 105 = .ok (.sipush 1000, 3) := by decide +kernel
theorem dX12_init_108 : decode cX12_init 108 = .ok (.anewarray 49, 3) := by decide +kernel
theorem dX12_init_111 : decode cX12_init 111 = .ok (.putfield 50, 3) := by decide +kernel
theorem dX12_init_114 : decode cX12_init 114 = .ok (.aload_n 0, 1) := by decide +kernel
theorem dX12_init_115 : decode cX12_init 115 = .ok (.sipush 1000, 3) := by decide +kernel
theorem dX12_init_118 : decode cX12_init 118 = .ok (.newarray .boolean, 2) := by decide +kernel
theorem dX12_init_120 : decode cX12_init 120 = .ok (.putfield 54, 3) := by decide +kernel
theorem dX12_init_123 : decode cX12_init 123 = .ok (.aload_n 0, 1) := by decide +kernel
theorem dX12_init_124 : decode cX12_init 124 = .ok (.bipush 40, 2) := by decide +kernel
theorem dX12_init_126 : decode cX12_init 126 = .ok (.newarray .int, 2) := by decide +kernel
theorem dX12_init_128 : decode cX12_init 128 = .ok (.putfield 58, 3) := by decide +kernel
theorem dX12_init_131 : decode cX12_init 131 = .ok (.aload_n 0, 1) := by decide +kernel
theorem dX12_init_132 : decode cX12_init 132 = .ok (.bipush 40, 2) := by decide +kernel
theorem dX12_init_134 : decode cX12_init 134 = .ok (.newarray .int, 2) := by decide +kernel
theorem dX12_init_136 : decode cX12_init 136 = .ok (.putfield 61, 3) := by decide +kernel
theorem dX12_init_139 : decode cX12_init 139 = .ok (.aload_n 0, 1) := by decide +kernel
theorem dX12_init_140 : decode cX12_init 140 = .ok (.iconst (-1), 1) := by decide +kernel
theorem dX12_init_141 : decode cX12_init 141 = .ok (.putfield 64, 3) := by decide +kernel
theorem dX12_init_144 : decode cX12_init 144 = .ok (.aload_n 0, 1) := by decide +kernel
theorem dX12_init_145 : decode cX12_init 145 = .ok (.iconst (-1), 1) := by decide +kernel
theorem dX12_init_146 : decode cX12_init 146 = .ok (.putfield 68, 3) := by decide +kernel
theorem dX12_init_149 : decode cX12_init 149 = .ok (.aload_n 0, 1) := by decide +kernel
theorem dX12_init_150 : decode cX12_init 150 = .ok (.iconst 4, 1) := by decide +kernel
theorem dX12_init_151 : decode cX12_init 151 = .ok (.newarray .int, 2) := by decide +kernel
theorem dX12_init_153 : decode cX12_init 153 = .ok (.putfield 71, 3) := by decide +kernel
theorem dX12_init_156 : decode cX12_init 156 = .ok (.aload_n 0, 1) := by decide +kernel
theorem dX12_init_157 : decode cX12_init 157 = .ok (.sipush 600, 3) := by decide +kernel
theorem dX12_init_160 : decode cX12_init 160 = .ok (.newarray .int, 2) := by decide +kernel
theorem dX12_init_162 : decode cX12_init 162 = .ok (.putfield 74, 3) := by decide +kernel
theorem dX12_init_165 : decode cX12_init 165 = .ok (.aload_n 0, 1) := by decide +kernel
theorem dX12_init_166 : decode cX12_init 166 = .ok (.sipush 644, 3) := by decide +kernel
theorem dX12_init_169 : decode cX12_init 169 = .ok (.newarray .int, 2) := by decide +kernel
theorem dX12_init_171 : decode cX12_init 171 = .ok (.putfield 77, 3) := by decide +kernel
theorem dX12_init_174 : decode cX12_init 174 = .ok (.aload_n 0, 1) := by decide +kernel
theorem dX12_init_175 : decode cX12_init 175 = .ok (.bipush 40, 2) := by decide +kernel
theorem dX12_init_177 : decode cX12_init 177 = .ok (.newarray .int, 2) := by decide +kernel
theorem dX12_init_179 : decode cX12_init 179 = .ok (.putfield 80, 3) := by decide +kernel
theorem dX12_init_182 : decode cX12_init 182 = .ok (.aload_n 0, 1) := by decide +kernel
theorem dX12_init_183 : decode cX12_init 183 = .ok (.iconst (-1), 1) := by decide +kernel
theorem dX12_init_184 : decode cX12_init 184 = .ok (.putfield 83, 3) := by decide +kernel
theorem dX12_init_187 : decode cX12_init 187 = .ok (.aload_n 0, 1) := by decide +kernel
theorem dX12_init_188 : decode cX12_init 188 = .ok (.bipush 41, 2) := by decide +kernel
theorem dX12_init_190 : decode cX12_init 190 = .ok (.newarray .int, 2) := by decide +kernel
theorem dX12_init_192 : decode cX12_init 192 = .ok (.putfield 86, 3) := by decide +kernel
theorem dX12_init_195 : decode cX12_init 195 = .ok (.aload_n 0, 1) := by decide +kernel
theorem dX12_init_196 : decode cX12_init 196 = .ok (.sipush 10001, 3) := by decide +kernel
theorem dX12_init_199 : decode cX12_init 199 = .ok (.newarray .long, 2) := by decide +kernel
theorem dX12_init_201 : decode cX12_init 201 = .ok (.putfield 89, 3) := by decide +kernel
theorem dX12_init_204 : decode cX12_init 204 = .ok (.aload_n 0, 1) := by decide +kernel
theorem dX12_init_205 : decode cX12_init 205 = .ok (.sipush 10001, 3) := by decide +kernel
theorem dX12_init_208 : decode cX12_init 208 = .ok (.newarray .long, 2) := by decide +kernel
theorem dX12_init_210 : decode cX12_init 210 = .ok (.putfield 93, 3) := by decide +kernel
theorem dX12_init_213 : decode cX12_init 213 = .ok (.aload_n 0, 1) := by decide +kernel
theorem dX12_init_214 : decode cX12_init 214 = .ok (.sipush 2001, 3) := by decide +kernel
theorem dX12_init_217 : decode cX12_init 217 = .ok (.newarray .long, 2) := by decide +kernel
theorem dX12_init_219 : decode cX12_init 219 = .ok (.putfield 96, 3) := by decide +kernel
theorem dX12_init_222 : decode cX12_init 222 = .ok (.aload_n 0, 1) := by decide +kernel
theorem dX12_init_223 : decode cX12_init 223 = .ok (.sipush 2001, 3) := by decide +kernel
theorem dX12_init_226 : decode cX12_init 226 = .ok (.newarray .long, 2) := by decide +kernel
theorem dX12_init_228 : decode cX12_init 228 = .ok (.putfield 99, 3) := by decide +kernel
theorem dX12_init_231 : decode cX12_init 231 = .ok (.aload_n 0, 1) := by decide +kernel
theorem dX12_init_232 : decode cX12_init 232 = .ok (.sipush 25760, 3) := by decide +kernel
theorem dX12_init_235 : decode cX12_init 235 = .ok (.newarray .int, 2) := by decide +kernel
theorem dX12_init_237 : decode cX12_init 237 = .ok (.putfield 102, 3) := by decide +kernel
theorem dX12_init_240 : decode cX12_init 240 = .ok (.aload_n 0, 1) := by decide +kernel
theorem dX12_init_241 : decode cX12_init 241 = .ok (.bipush 8, 2) := by decide +kernel
theorem dX12_init_243 : decode cX12_init 243 = .ok (.newarray .int, 2) := by decide +kernel
theorem dX12_init_245 : decode cX12_init 245 = .ok (.putfield 105, 3) := by decide +kernel
theorem dX12_init_248 : decode cX12_init 248 = .ok (.aload_n 0, 1) := by decide +kernel
theorem dX12_init_249 : decode cX12_init 249 = .ok (.bipush 8, 2) := by decide +kernel
theorem dX12_init_251 : decode cX12_init 251 = .ok (.newarray .long, 2) := by decide +kernel
theorem dX12_init_253 : decode cX12_init 253 = .ok (.putfield 108, 3) := by decide +kernel
theorem dX12_init_256 : decode cX12_init 256 = .ok (.aload_n 0, 1) := by decide +kernel
theorem dX12_init_257 : decode cX12_init 257 = .ok (.bipush 41, 2) := by decide +kernel
theorem dX12_init_259 : decode cX12_init 259 = .ok (.newarray .boolean, 2) := by decide +kernel
theorem dX12_init_261 : decode cX12_init 261 = .ok (.putfield 111, 3) := by decide +kernel
theorem dX12_init_264 : decode cX12_init 264 = .ok (.aload_n 0, 1) := by decide +kernel
theorem dX12_init_265 : decode cX12_init 265 = .ok (.sipush 1681, 3) := by decide +kernel
theorem dX12_init_268 : decode cX12_init 268 = .ok (.newarray .long, 2) := by decide +kernel
theorem dX12_init_270 : decode cX12_init 270 = .ok (.putfield 114, 3) := by decide +kernel
theorem dX12_init_273 : decode cX12_init 273 = .ok (.aload_n 0, 1) := by decide +kernel
theorem dX12_init_274 : decode cX12_init 274 = .ok (.sipush 644, 3) := by decide +kernel
theorem dX12_init_277 : decode cX12_init 277 = .ok (.newarray .int, 2) := by decide +kernel
theorem dX12_init_279 : decode cX12_init 279 = .ok (.putfield 117, 3) := by decide +kernel
theorem dX12_init_282 : decode cX12_init 282 = .ok (.aload_n 0, 1) := by decide +kernel
theorem dX12_init_283 : decode cX12_init 283 = .ok (.sipush 25760, 3) := by decide +kernel
theorem dX12_init_286 : decode cX12_init 286 = .ok (.newarray .int, 2) := by decide +kernel
theorem dX12_init_288 : decode cX12_init 288 = .ok (.putfield 120, 3) := by decide +kernel
theorem dX12_init_291 : decode cX12_init 291 = .ok (.aload_n 0, 1) := by decide +kernel
theorem dX12_init_292 : decode cX12_init 292 = .ok (.bipush 8, 2) := by decide +kernel
theorem dX12_init_294 : decode cX12_init 294 = .ok (.newarray .int, 2) := by decide +kernel
theorem dX12_init_296 : decode cX12_init 296 = .ok (.putfield 123, 3) := by decide +kernel
theorem dX12_init_299 : decode cX12_init 299 = .ok (.aload_n 0, 1) := by decide +kernel
theorem dX12_init_300 : decode cX12_init 300 = .ok (.iconst 3, 1) := by decide +kernel
theorem dX12_init_301 : decode cX12_init 301 = .ok (.newarray .int, 2) := by decide +kernel
theorem dX12_init_303 : decode cX12_init 303 = .ok (.putfield 126, 3) := by decide +kernel
theorem dX12_init_306 : decode cX12_init 306 = .ok (.aload_n 0, 1) := by decide +kernel
theorem dX12_init_307 : decode cX12_init 307 = .ok (.bipush 8, 2) := by decide +kernel
theorem dX12_init_309 : decode cX12_init 309 = .ok (.newarray .long, 2) := by decide +kernel
theorem dX12_init_311 : decode cX12_init 311 = .ok (.putfield 129, 3) := by decide +kernel
theorem dX12_init_314 : decode cX12_init 314 = .ok (.return_, 1) := by decide +kernel
theorem dX12_thrown_0 : decode cX12_thrown 0 = .ok (.aload_n 0, 1) := by decide +kernel
theorem dX12_thrown_1 : decode cX12_thrown 1 = .ok (.getfield 132, 3) := by decide +kernel
theorem dX12_thrown_4 : decode cX12_thrown 4 = .ok (.ireturn, 1) := by decide +kernel
theorem dX12_fail_0 : decode cX12_fail 0 = .ok (.aload_n 0, 1) := by decide +kernel
theorem dX12_fail_1 : decode cX12_fail 1 = .ok (.iload_n 1, 1) := by decide +kernel
theorem dX12_fail_2 : decode cX12_fail 2 = .ok (.putfield 132, 3) := by decide +kernel
theorem dX12_fail_5 : decode cX12_fail 5 = .ok (.iconst 0, 1) := by decide +kernel
theorem dX12_fail_6 : decode cX12_fail 6 = .ok (.ireturn, 1) := by decide +kernel
theorem dX12_isIn_0 : decode cX12_isIn 0 = .ok (.lload_n 0, 1) := by decide +kernel
theorem dX12_isIn_1 : decode cX12_isIn 1 = .ok (.lload_n 2, 1) := by decide +kernel
theorem dX12_isIn_2 : decode cX12_isIn 2 = .ok (.lcmp, 1) := by decide +kernel
theorem dX12_isIn_3 : decode cX12_isIn 3 = .ok (.ifCond .lt 14, 3) := by decide +kernel
theorem dX12_isIn_6 : decode cX12_isIn 6 = .ok (.lload_n 0, 1) := by decide +kernel
theorem dX12_isIn_7 : decode cX12_isIn 7 = .ok (.lload 4, 2) := by decide +kernel
theorem dX12_isIn_9 : decode cX12_isIn 9 = .ok (.lcmp, 1) := by decide +kernel
theorem dX12_isIn_10 : decode cX12_isIn 10 = .ok (.ifCond .gt 7, 3) := by decide +kernel
theorem dX12_isIn_13 : decode cX12_isIn 13 = .ok (.iconst 1, 1) := by decide +kernel
theorem dX12_isIn_14 : decode cX12_isIn 14 = .ok (.goto 4, 3) := by decide +kernel
theorem dX12_isIn_17 : decode cX12_isIn 17 = .ok (.iconst 0, 1) := by decide +kernel
theorem dX12_isIn_18 : decode cX12_isIn 18 = .ok (.ireturn, 1) := by decide +kernel
theorem dX12_copyTo_0 : decode cX12_copyTo 0 = .ok (.iconst 0, 1) := by decide +kernel
theorem dX12_copyTo_1 : decode cX12_copyTo 1 = .ok (.istore_n 2, 1) := by decide +kernel
theorem dX12_copyTo_2 : decode cX12_copyTo 2 = .ok (.iload_n 2, 1) := by decide +kernel
theorem dX12_copyTo_3 : decode cX12_copyTo 3 = .ok (.aload_n 0, 1) := by decide +kernel
theorem dX12_copyTo_4 : decode cX12_copyTo 4 = .ok (.arraylength, 1) := by decide +kernel
theorem dX12_copyTo_5 : decode cX12_copyTo 5 = .ok (.if_icmp .ge 15, 3) := by decide +kernel
theorem dX12_copyTo_8 : decode cX12_copyTo 8 = .ok (.aload_n 0, 1) := by decide +kernel
theorem dX12_copyTo_9 : decode cX12_copyTo 9 = .ok (.iload_n 2, 1) := by decide +kernel
theorem dX12_copyTo_10 : decode cX12_copyTo 10 = .ok (.aload_n 1, 1) := by decide +kernel
theorem dX12_copyTo_11 : decode cX12_copyTo 11 = .ok (.iload_n 2, 1) := by decide +kernel
theorem dX12_copyTo_12 : decode cX12_copyTo 12 = .ok (.iaload, 1) := by decide +kernel
theorem dX12_copyTo_13 : decode cX12_copyTo 13 = .ok (.iastore, 1) := by decide +kernel
theorem dX12_copyTo_14 : decode cX12_copyTo 14 = .ok (.iinc 2 1, 3) := by decide +kernel
theorem dX12_copyTo_17 : decode cX12_copyTo 17 = .ok (.goto (-15), 3) := by decide +kernel
theorem dX12_copyTo_20 : decode cX12_copyTo 20 = .ok (.return_, 1) := by decide +kernel
theorem dX12_clear_0 : decode cX12_clear 0 = .ok (.iconst 0, 1) := by decide +kernel
theorem dX12_clear_1 : decode cX12_clear 1 = .ok (.istore_n 1, 1) := by decide +kernel
theorem dX12_clear_2 : decode cX12_clear 2 = .ok (.iload_n 1, 1) := by decide +kernel
theorem dX12_clear_3 : decode cX12_clear 3 = .ok (.aload_n 0, 1) := by decide +kernel
theorem dX12_clear_4 : decode cX12_clear 4 = .ok (.arraylength, 1) := by decide +kernel
theorem dX12_clear_5 : decode cX12_clear 5 = .ok (.if_icmp .ge 13, 3) := by decide +kernel
theorem dX12_clear_8 : decode cX12_clear 8 = .ok (.aload_n 0, 1) := by decide +kernel
theorem dX12_clear_9 : decode cX12_clear 9 = .ok (.iload_n 1, 1) := by decide +kernel
theorem dX12_clear_10 : decode cX12_clear 10 = .ok (.iconst 0, 1) := by decide +kernel
theorem dX12_clear_11 : decode cX12_clear 11 = .ok (.iastore, 1) := by decide +kernel
theorem dX12_clear_12 : decode cX12_clear 12 = .ok (.iinc 1 1, 3) := by decide +kernel
theorem dX12_clear_15 : decode cX12_clear 15 = .ok (.goto (-13), 3) := by decide +kernel
theorem dX12_clear_18 : decode cX12_clear 18 = .ok (.return_, 1) := by decide +kernel
theorem dX12_valueAt_0 : decode cX12_valueAt 0 = .ok (.aload_n 0, 1) := by decide +kernel
theorem dX12_valueAt_1 : decode cX12_valueAt 1 = .ok (.iconst 1, 1) := by decide +kernel
theorem dX12_valueAt_2 : decode cX12_valueAt 2 = .ok (.iaload, 1) := by decide +kernel
theorem dX12_valueAt_3 : decode cX12_valueAt 3 = .ok (.i2l, 1) := by decide +kernel
theorem dX12_valueAt_4 : decode cX12_valueAt 4 = .ok (.lstore_n 2, 1) := by decide +kernel
theorem dX12_valueAt_5 : decode cX12_valueAt 5 = .ok (.iload_n 1, 1) := by decide +kernel
theorem dX12_valueAt_6 : decode cX12_valueAt 6 = .ok (.sipush (-5000), 3) := by decide +kernel
theorem dX12_valueAt_9 : decode cX12_valueAt 9 = .ok (.if_icmp .gt 17, 3) := by decide +kernel
theorem dX12_valueAt_12 : decode cX12_valueAt 12 = .ok (.lload_n 2, 1) := by decide +kernel
theorem dX12_valueAt_13 : decode cX12_valueAt 13 = .ok (.aload_n 0, 1) := by decide +kernel
theorem dX12_valueAt_14 : decode cX12_valueAt 14 = .ok (.iconst 0, 1) := by decide +kernel
theorem dX12_valueAt_15 : decode cX12_valueAt 15 = .ok (.iaload, 1) := by decide +kernel
theorem dX12_valueAt_16 : decode cX12_valueAt 16 = .ok (.i2l, 1) := by decide +kernel
theorem dX12_valueAt_17 : decode cX12_valueAt 17 = .ok (.iload_n 1, 1) := by decide +kernel
theorem dX12_valueAt_18 : decode cX12_valueAt 18 = .ok (.sipush 5000, 3) := by decide +kernel
theorem dX12_valueAt_21 : decode cX12_valueAt 21 = .ok (.iadd, 1) := by decide +kernel
theorem dX12_valueAt_22 : decode cX12_valueAt 22 = .ok (.i2l, 1) := by decide +kernel
theorem dX12_valueAt_23 : decode cX12_valueAt 23 = .ok (.lmul, 1) := by decide +kernel
theorem dX12_valueAt_24 : decode cX12_valueAt 24 = .ok (.ladd, 1) := by decide +kernel
theorem dX12_valueAt_25 : decode cX12_valueAt 25 = .ok (.lreturn, 1) := by decide +kernel
theorem dX12_valueAt_26 : decode cX12_valueAt 26 = .ok (.aload_n 0, 1) := by decide +kernel
theorem dX12_valueAt_27 : decode cX12_valueAt 27 = .ok (.iconst 0, 1) := by decide +kernel
theorem dX12_valueAt_28 : decode cX12_valueAt 28 = .ok (.iaload, 1) := by decide +kernel
theorem dX12_valueAt_29 : decode cX12_valueAt 29 = .ok (.i2l, 1) := by decide +kernel
theorem dX12_valueAt_30 : decode cX12_valueAt 30 = .ok (.lstore 4, 2) := by decide +kernel
theorem dX12_valueAt_32 : decode cX12_valueAt 32 = .ok (.iload_n 1, 1) := by decide +kernel
theorem dX12_valueAt_33 : decode cX12_valueAt 33 = .ok (.sipush 5000, 3) := by decide +kernel
theorem dX12_valueAt_36 : decode cX12_valueAt 36 = .ok (.invokestatic 135, 3) := by decide +kernel
theorem dX12_valueAt_39 : decode cX12_valueAt 39 = .ok (.istore 6, 2) := by decide +kernel
theorem dX12_valueAt_41 : decode cX12_valueAt 41 = .ok (.sipush (-5000), 3) := by decide +kernel
theorem dX12_valueAt_44 : decode cX12_valueAt 44 = .ok (.istore 7, 2) := by decide +kernel
theorem dX12_valueAt_46 : decode cX12_valueAt 46 = .ok (.iload 7, 2) := by decide +kernel
theorem dX12_valueAt_48 : decode cX12_valueAt 48 = .ok (.iload 6, 2) := by decide +kernel
theorem dX12_valueAt_50 : decode cX12_valueAt 50 = .ok (.if_icmp .ge 28, 3) := by decide +kernel
theorem dX12_valueAt_53 : decode cX12_valueAt 53 = .ok (.lload 4, 2) := by decide +kernel
theorem dX12_valueAt_55 : decode cX12_valueAt 55 = .ok (.aload_n 0, 1) := by decide +kernel
theorem dX12_valueAt_56 : decode cX12_valueAt 56 = .ok (.sipush 5002, 3) := by decide +kernel
theorem dX12_valueAt_59 : decode cX12_valueAt 59 = .ok (.iload 7, 2) := by decide +kernel
theorem dX12_valueAt_61 : decode cX12_valueAt 61 = .ok (.iadd, 1) := by decide +kernel
theorem dX12_valueAt_62 : decode cX12_valueAt 62 = .ok (.iaload, 1) := by decide +kernel
theorem dX12_valueAt_63 : decode cX12_valueAt 63 = .ok (.i2l, 1) := by decide +kernel
theorem dX12_valueAt_64 : decode cX12_valueAt 64 = .ok (.ladd, 1) := by decide +kernel
theorem dX12_valueAt_65 : decode cX12_valueAt 65 = .ok (.lstore 4, 2) := by decide +kernel
theorem dX12_valueAt_67 : decode cX12_valueAt 67 = .ok (.lload_n 2, 1) := by decide +kernel
theorem dX12_valueAt_68 : decode cX12_valueAt 68 = .ok (.lload 4, 2) := by decide +kernel
theorem dX12_valueAt_70 : decode cX12_valueAt 70 = .ok (.ladd, 1) := by decide +kernel
theorem dX12_valueAt_71 : decode cX12_valueAt 71 = .ok (.lstore_n 2, 1) := by decide +kernel
theorem dX12_valueAt_72 : decode cX12_valueAt 72 = .ok (.iinc 7 1, 3) := by decide +kernel
theorem dX12_valueAt_75 : decode cX12_valueAt 75 = .ok (.goto (-29), 3) := by decide +kernel
theorem dX12_valueAt_78 : decode cX12_valueAt 78 = .ok (.iload_n 1, 1) := by decide +kernel
theorem dX12_valueAt_79 : decode cX12_valueAt 79 = .ok (.sipush 5000, 3) := by decide +kernel
theorem dX12_valueAt_82 : decode cX12_valueAt 82 = .ok (.if_icmp .gt 7, 3) := by decide +kernel
theorem dX12_valueAt_85 : decode cX12_valueAt 85 = .ok (.lload_n 2, 1) := by decide +kernel
theorem dX12_valueAt_86 : decode cX12_valueAt 86 = .ok (.goto 21, 3) := by decide +kernel
theorem dX12_valueAt_89 : decode cX12_valueAt 89 = .ok (.lload_n 2, 1) := by decide +kernel
theorem dX12_valueAt_90 : decode cX12_valueAt 90 = .ok (.lload 4, 2) := by decide +kernel
theorem dX12_valueAt_92 : decode cX12_valueAt 92 = .ok (.aload_n 0, 1) := by decide +kernel
theorem dX12_valueAt_93 : decode cX12_valueAt 93 = .ok (.sipush 10002, 3) := by decide +kernel
theorem dX12_valueAt_96 : decode cX12_valueAt 96 = .ok (.iaload, 1) := by decide +kernel
theorem dX12_valueAt_97 : decode cX12_valueAt 97 = .ok (.i2l, 1) := by decide +kernel
theorem dX12_valueAt_98 : decode cX12_valueAt 98 = .ok (.ladd, 1) := by decide +kernel
theorem dX12_valueAt_99 : decode cX12_valueAt 99 = .ok (.iload_n 1, 1) := by decide +kernel
theorem dX12_valueAt_100 : decode cX12_valueAt 100 = .ok (.sipush 5000, 3) := by decide +kernel
theorem dX12_valueAt_103 : decode cX12_valueAt 103 = .ok (.isub, 1) := by decide +kernel
theorem dX12_valueAt_104 : decode cX12_valueAt 104 = .ok (.i2l, 1) := by decide +kernel
theorem dX12_valueAt_105 : decode cX12_valueAt 105 = .ok (.lmul, 1) := by decide +kernel
theorem dX12_valueAt_106 : decode cX12_valueAt 106 = .ok (.ladd, 1) := by decide +kernel
theorem dX12_valueAt_107 : decode cX12_valueAt 107 = .ok (.lreturn, 1) := by decide +kernel
theorem dX12_weights_0 : decode cX12_weights 0 = .ok (.iconst 0, 1) := by decide +kernel
theorem dX12_weights_1 : decode cX12_weights 1 = .ok (.istore_n 1, 1) := by decide +kernel
theorem dX12_weights_2 : decode cX12_weights 2 = .ok (.iconst 0, 1) := by decide +kernel
theorem dX12_weights_3 : decode cX12_weights 3 = .ok (.istore_n 2, 1) := by decide +kernel
theorem dX12_weights_4 : decode cX12_weights 4 = .ok (.iload_n 2, 1) := by decide +kernel
theorem dX12_weights_5 : decode cX12_weights 5 = .ok (.sipush 10001, 3) := by decide +kernel
theorem dX12_weights_8 : decode cX12_weights 8 = .ok (.if_icmp .ge 17, 3) := by decide +kernel
theorem dX12_weights_11 : decode cX12_weights 11 = .ok (.iload_n 1, 1) := by decide +kernel
theorem dX12_weights_12 : decode cX12_weights 12 = .ok (.aload_n 0, 1) := by decide +kernel
theorem dX12_weights_13 : decode cX12_weights 13 = .ok (.iconst 2, 1) := by decide +kernel
theorem dX12_weights_14 : decode cX12_weights 14 = .ok (.iload_n 2, 1) := by decide +kernel
theorem dX12_weights_15 : decode cX12_weights 15 = .ok (.iadd, 1) := by decide +kernel
theorem dX12_weights_16 : decode cX12_weights 16 = .ok (.iaload, 1) := by decide +kernel
theorem dX12_weights_17 : decode cX12_weights 17 = .ok (.iadd, 1) := by decide +kernel
theorem dX12_weights_18 : decode cX12_weights 18 = .ok (.istore_n 1, 1) := by decide +kernel
theorem dX12_weights_19 : decode cX12_weights 19 = .ok (.iinc 2 1, 3) := by decide +kernel
theorem dX12_weights_22 : decode cX12_weights 22 = .ok (.goto (-18), 3) := by decide +kernel
theorem dX12_weights_25 : decode cX12_weights 25 = .ok (.iload_n 1, 1) := by decide +kernel
theorem dX12_weights_26 : decode cX12_weights 26 = .ok (.ireturn, 1) := by decide +kernel
theorem dX12_kinks_0 : decode cX12_kinks 0 = .ok (.iconst 0, 1) := by decide +kernel
theorem dX12_kinks_1 : decode cX12_kinks 1 = .ok (.istore_n 1, 1) := by decide +kernel
theorem dX12_kinks_2 : decode cX12_kinks 2 = .ok (.iconst 0, 1) := by decide +kernel
theorem dX12_kinks_3 : decode cX12_kinks 3 = .ok (.istore_n 2, 1) := by decide +kernel
theorem dX12_kinks_4 : decode cX12_kinks 4 = .ok (.iload_n 2, 1) := by decide +kernel
theorem dX12_kinks_5 : decode cX12_kinks 5 = .ok (.sipush 10001, 3) := by decide +kernel
theorem dX12_kinks_8 : decode cX12_kinks 8 = .ok (.if_icmp .ge 25, 3) := by decide +kernel
theorem dX12_kinks_11 : decode cX12_kinks 11 = .ok (.iload_n 1, 1) := by decide +kernel
theorem dX12_kinks_12 : decode cX12_kinks 12 = .ok (.aload_n 0, 1) := by decide +kernel
theorem dX12_kinks_13 : decode cX12_kinks 13 = .ok (.iconst 2, 1) := by decide +kernel
theorem dX12_kinks_14 : decode cX12_kinks 14 = .ok (.iload_n 2, 1) := by decide +kernel
theorem dX12_kinks_15 : decode cX12_kinks 15 = .ok (.iadd, 1) := by decide +kernel
theorem dX12_kinks_16 : decode cX12_kinks 16 = .ok (.iaload, 1) := by decide +kernel
theorem dX12_kinks_17 : decode cX12_kinks 17 = .ok (.ifCond .le 7, 3) := by decide +kernel
theorem dX12_kinks_20 : decode cX12_kinks 20 = .ok (.iconst 1, 1) := by decide +kernel
theorem dX12_kinks_21 : decode cX12_kinks 21 = .ok (.goto 4, 3) := by decide +kernel
theorem dX12_kinks_24 : decode cX12_kinks 24 = .ok (.iconst 0, 1) := by decide +kernel
theorem dX12_kinks_25 : decode cX12_kinks 25 = .ok (.iadd, 1) := by decide +kernel
theorem dX12_kinks_26 : decode cX12_kinks 26 = .ok (.istore_n 1, 1) := by decide +kernel
theorem dX12_kinks_27 : decode cX12_kinks 27 = .ok (.iinc 2 1, 3) := by decide +kernel
theorem dX12_kinks_30 : decode cX12_kinks 30 = .ok (.goto (-26), 3) := by decide +kernel
theorem dX12_kinks_33 : decode cX12_kinks 33 = .ok (.iload_n 1, 1) := by decide +kernel
theorem dX12_kinks_34 : decode cX12_kinks 34 = .ok (.ireturn, 1) := by decide +kernel
theorem dX12_turnsTo_0 : decode cX12_turnsTo 0 = .ok (.aload_n 0, 1) := by decide +kernel
theorem dX12_turnsTo_1 : decode cX12_turnsTo 1 = .ok (.iconst 0, 1) := by decide +kernel
theorem dX12_turnsTo_2 : decode cX12_turnsTo 2 = .ok (.iaload, 1) := by decide +kernel
theorem dX12_turnsTo_3 : decode cX12_turnsTo 3 = .ok (.istore_n 2, 1) := by decide +kernel
theorem dX12_turnsTo_4 : decode cX12_turnsTo 4 = .ok (.iload_n 2, 1) := by decide +kernel
theorem dX12_turnsTo_5 : decode cX12_turnsTo 5 = .ok (.iload_n 1, 1) := by decide +kernel
theorem dX12_turnsTo_6 : decode cX12_turnsTo 6 = .ok (.if_icmp .lt 6, 3) := by decide +kernel
theorem dX12_turnsTo_9 : decode cX12_turnsTo 9 = .ok (.ldc 141, 2) := by decide +kernel
theorem dX12_turnsTo_11 : decode cX12_turnsTo 11 = .ok (.ireturn, 1) := by decide +kernel
theorem dX12_turnsTo_12 : decode cX12_turnsTo 12 = .ok (.iconst 0, 1) := by decide +kernel
theorem dX12_turnsTo_13 : decode cX12_turnsTo 13 = .ok (.istore_n 3, 1) := by decide +kernel
theorem dX12_turnsTo_14 : decode cX12_turnsTo 14 = .ok (.iload_n 3, 1) := by decide +kernel
theorem dX12_turnsTo_15 : decode cX12_turnsTo 15 = .ok (.sipush 10001, 3) := by decide +kernel
theorem dX12_turnsTo_18 : decode cX12_turnsTo 18 = .ok (.if_icmp .ge 28, 3) := by decide +kernel
theorem dX12_turnsTo_21 : decode cX12_turnsTo 21 = .ok (.iload_n 2, 1) := by decide +kernel
theorem dX12_turnsTo_22 : decode cX12_turnsTo 22 = .ok (.aload_n 0, 1) := by decide +kernel
theorem dX12_turnsTo_23 : decode cX12_turnsTo 23 = .ok (.iconst 2, 1) := by decide +kernel
theorem dX12_turnsTo_24 : decode cX12_turnsTo 24 = .ok (.iload_n 3, 1) := by decide +kernel
theorem dX12_turnsTo_25 : decode cX12_turnsTo 25 = .ok (.iadd, 1) := by decide +kernel
theorem dX12_turnsTo_26 : decode cX12_turnsTo 26 = .ok (.iaload, 1) := by decide +kernel
theorem dX12_turnsTo_27 : decode cX12_turnsTo 27 = .ok (.iadd, 1) := by decide +kernel
theorem dX12_turnsTo_28 : decode cX12_turnsTo 28 = .ok (.istore_n 2, 1) := by decide +kernel
theorem dX12_turnsTo_29 : decode cX12_turnsTo 29 = .ok (.iload_n 2, 1) := by decide +kernel
theorem dX12_turnsTo_30 : decode cX12_turnsTo 30 = .ok (.iload_n 1, 1) := by decide +kernel
theorem dX12_turnsTo_31 : decode cX12_turnsTo 31 = .ok (.if_icmp .lt 9, 3) := by decide +kernel
theorem dX12_turnsTo_34 : decode cX12_turnsTo 34 = .ok (.iload_n 3, 1) := by decide +kernel
theorem dX12_turnsTo_35 : decode cX12_turnsTo 35 = .ok (.sipush 5000, 3) := by decide +kernel
theorem dX12_turnsTo_38 : decode cX12_turnsTo 38 = .ok (.isub, 1) := by decide +kernel
theorem dX12_turnsTo_39 : decode cX12_turnsTo 39 = .ok (.ireturn, 1) := by decide +kernel
theorem dX12_turnsTo_40 : decode cX12_turnsTo 40 = .ok (.iinc 3 1, 3) := by decide +kernel
theorem dX12_turnsTo_43 : decode cX12_turnsTo 43 = .ok (.goto (-29), 3) := by decide +kernel
theorem dX12_turnsTo_46 : decode cX12_turnsTo 46 = .ok (.ldc 142, 2) := by decide +kernel
theorem dX12_turnsTo_48 : decode cX12_turnsTo 48 = .ok (.ireturn, 1) := by decide +kernel
theorem dX12_flatFrom_0 : decode cX12_flatFrom 0 = .ok (.aload_n 0, 1) := by decide +kernel
theorem dX12_flatFrom_1 : decode cX12_flatFrom 1 = .ok (.iconst 0, 1) := by decide +kernel
theorem dX12_flatFrom_2 : decode cX12_flatFrom 2 = .ok (.invokestatic 143, 3) := by decide +kernel
theorem dX12_flatFrom_5 : decode cX12_flatFrom 5 = .ok (.ireturn, 1) := by decide +kernel
theorem dX12_flatTo_0 : decode cX12_flatTo 0 = .ok (.aload_n 0, 1) := by decide +kernel
theorem dX12_flatTo_1 : decode cX12_flatTo 1 = .ok (.iconst 1, 1) := by decide +kernel
theorem dX12_flatTo_2 : decode cX12_flatTo 2 = .ok (.invokestatic 143, 3) := by decide +kernel
theorem dX12_flatTo_5 : decode cX12_flatTo 5 = .ok (.ireturn, 1) := by decide +kernel
theorem dX12_nearest_0 : decode cX12_nearest 0 = .ok (.iload_n 2, 1) := by decide +kernel
theorem dX12_nearest_1 : decode cX12_nearest 1 = .ok (.iload_n 0, 1) := by decide +kernel
theorem dX12_nearest_2 : decode cX12_nearest 2 = .ok (.if_icmp .ge 7, 3) := by decide +kernel
theorem dX12_nearest_5 : decode cX12_nearest 5 = .ok (.iload_n 0, 1) := by decide +kernel
theorem dX12_nearest_6 : decode cX12_nearest 6 = .ok (.goto 13, 3) := by decide +kernel
theorem dX12_nearest_9 : decode cX12_nearest 9 = .ok (.iload_n 2, 1) := by decide +kernel
theorem dX12_nearest_10 : decode cX12_nearest 10 = .ok (.iload_n 1, 1) := by decide +kernel
theorem dX12_nearest_11 : decode cX12_nearest 11 = .ok (.if_icmp .le 7, 3) := by decide +kernel
theorem dX12_nearest_14 : decode cX12_nearest 14 = .ok (.iload_n 1, 1) := by decide +kernel
theorem dX12_nearest_15 : decode cX12_nearest 15 = .ok (.goto 4, 3) := by decide +kernel
theorem dX12_nearest_18 : decode cX12_nearest 18 = .ok (.iload_n 2, 1) := by decide +kernel
theorem dX12_nearest_19 : decode cX12_nearest 19 = .ok (.ireturn, 1) := by decide +kernel
theorem dX12_leastOf_0 : decode cX12_leastOf 0 = .ok (.aload_n 0, 1) := by decide +kernel
theorem dX12_leastOf_1 : decode cX12_leastOf 1 = .ok (.aload_n 0, 1) := by decide +kernel
theorem dX12_leastOf_2 : decode cX12_leastOf 2 = .ok (.invokestatic 147, 3) := by decide +kernel
theorem dX12_leastOf_5 : decode cX12_leastOf 5 = .ok (.aload_n 0, 1) := by decide +kernel
theorem dX12_leastOf_6 : decode cX12_leastOf 6 = .ok (.invokestatic 151, 3) := by decide +kernel
theorem dX12_leastOf_9 : decode cX12_leastOf 9 = .ok (.iconst 0, 1) := by decide +kernel
theorem dX12_leastOf_10 : decode cX12_leastOf 10 = .ok (.invokestatic 154, 3) := by decide +kernel
theorem dX12_leastOf_13 : decode cX12_leastOf 13 = .ok (.invokestatic 158, 3) := by decide +kernel
theorem dX12_leastOf_16 : decode cX12_leastOf 16 = .ok (.lreturn, 1) := by decide +kernel
theorem dX12_adds_0 : decode cX12_adds 0 = .ok (.iload_n 2, 1) := by decide +kernel
theorem dX12_adds_1 : decode cX12_adds 1 = .ok (.ifCond .ne 4, 3) := by decide +kernel
theorem dX12_adds_4 : decode cX12_adds 4 = .ok (.return_, 1) := by decide +kernel
theorem dX12_adds_5 : decode cX12_adds 5 = .ok (.iload_n 1, 1) := by decide +kernel
theorem dX12_adds_6 : decode cX12_adds 6 = .ok (.i2l, 1) := by decide +kernel
theorem dX12_adds_7 : decode cX12_adds 7 = .ok (.ldc2_w 162, 3) := by decide +kernel
theorem dX12_adds_10 : decode cX12_adds 10 = .ok (.ldc2_w 164, 3) := by decide +kernel
theorem dX12_adds_13 : decode cX12_adds 13 = .ok (.invokestatic 166, 3) := by decide +kernel
theorem dX12_adds_16 : decode cX12_adds 16 = .ok (.ifCond .eq 20, 3) := by decide +kernel
theorem dX12_adds_19 : decode cX12_adds 19 = .ok (.aload_n 0, 1) := by decide +kernel
theorem dX12_adds_20 : decode cX12_adds 20 = .ok (.getfield 40, 3) := by decide +kernel
theorem dX12_adds_23 : decode cX12_adds 23 = .ok (.sipush 5002, 3) := by decide +kernel
theorem dX12_adds_26 : decode cX12_adds 26 = .ok (.iload_n 1, 1) := by decide +kernel
theorem dX12_adds_27 : decode cX12_adds 27 = .ok (.iadd, 1) := by decide +kernel
theorem dX12_adds_28 : decode cX12_adds 28 = .ok (.dup2, 1) := by decide +kernel
theorem dX12_adds_29 : decode cX12_adds 29 = .ok (.iaload, 1) := by decide +kernel
theorem dX12_adds_30 : decode cX12_adds 30 = .ok (.iload_n 2, 1) := by decide +kernel
theorem dX12_adds_31 : decode cX12_adds 31 = .ok (.iadd, 1) := by decide +kernel
theorem dX12_adds_32 : decode cX12_adds 32 = .ok (.iastore, 1) := by decide +kernel
theorem dX12_adds_33 : decode cX12_adds 33 = .ok (.goto 8, 3) := by decide +kernel
theorem dX12_adds_36 : decode cX12_adds 36 = .ok (.aload_n 0, 1) := by decide +kernel
theorem dX12_adds_37 : decode cX12_adds 37 = .ok (.iconst 1, 1) := by decide +kernel
theorem dX12_adds_38 : decode cX12_adds 38 = .ok (.putfield 170, 3) := by decide +kernel
theorem dX12_adds_41 : decode cX12_adds 41 = .ok (.return_, 1) := by decide +kernel
theorem dX12_leans_0 : decode cX12_leans 0 = .ok (.aload_n 0, 1) := by decide +kernel
theorem dX12_leans_1 : decode cX12_leans 1 = .ok (.getfield 40, 3) := by decide +kernel
theorem dX12_leans_4 : decode cX12_leans 4 = .ok (.iconst 0, 1) := by decide +kernel
theorem dX12_leans_5 : decode cX12_leans 5 = .ok (.dup2, 1) := by decide +kernel
theorem dX12_leans_6 : decode cX12_leans 6 = .ok (.iaload, 1) := by decide +kernel
theorem dX12_leans_7 : decode cX12_leans 7 = .ok (.iload_n 2, 1) := by decide +kernel
theorem dX12_leans_8 : decode cX12_leans 8 = .ok (.isub, 1) := by decide +kernel
theorem dX12_leans_9 : decode cX12_leans 9 = .ok (.iastore, 1) := by decide +kernel
theorem dX12_leans_10 : decode cX12_leans 10 = .ok (.aload_n 0, 1) := by decide +kernel
theorem dX12_leans_11 : decode cX12_leans 11 = .ok (.getfield 40, 3) := by decide +kernel
theorem dX12_leans_14 : decode cX12_leans 14 = .ok (.iconst 1, 1) := by decide +kernel
theorem dX12_leans_15 : decode cX12_leans 15 = .ok (.dup2, 1) := by decide +kernel
theorem dX12_leans_16 : decode cX12_leans 16 = .ok (.iaload, 1) := by decide +kernel
theorem dX12_leans_17 : decode cX12_leans 17 = .ok (.iload_n 2, 1) := by decide +kernel
theorem dX12_leans_18 : decode cX12_leans 18 = .ok (.iload_n 1, 1) := by decide +kernel
theorem dX12_leans_19 : decode cX12_leans 19 = .ok (.sipush 5000, 3) := by decide +kernel
theorem dX12_leans_22 : decode cX12_leans 22 = .ok (.iadd, 1) := by decide +kernel
theorem dX12_leans_23 : decode cX12_leans 23 = .ok (.imul, 1) := by decide +kernel
theorem dX12_leans_24 : decode cX12_leans 24 = .ok (.iadd, 1) := by decide +kernel
theorem dX12_leans_25 : decode cX12_leans 25 = .ok (.iastore, 1) := by decide +kernel
theorem dX12_leans_26 : decode cX12_leans 26 = .ok (.aload_n 0, 1) := by decide +kernel
theorem dX12_leans_27 : decode cX12_leans 27 = .ok (.iload_n 1, 1) := by decide +kernel
theorem dX12_leans_28 : decode cX12_leans 28 = .ok (.iload_n 2, 1) := by decide +kernel
theorem dX12_leans_29 : decode cX12_leans 29 = .ok (.iload_n 3, 1) := by decide +kernel
theorem dX12_leans_30 : decode cX12_leans 30 = .ok (.iadd, 1) := by decide +kernel
theorem dX12_leans_31 : decode cX12_leans 31 = .ok (.invokevirtual 174, 3) := by decide +kernel
theorem dX12_leans_34 : decode cX12_leans 34 = .ok (.return_, 1) := by decide +kernel
theorem dX12_drifts_0 : decode cX12_drifts 0 = .ok (.aload_n 0, 1) := by decide +kernel
theorem dX12_drifts_1 : decode cX12_drifts 1 = .ok (.getfield 46, 3) := by decide +kernel
theorem dX12_drifts_4 : decode cX12_drifts 4 = .ok (.aload_n 0, 1) := by decide +kernel
theorem dX12_drifts_5 : decode cX12_drifts 5 = .ok (.getfield 40, 3) := by decide +kernel
theorem dX12_drifts_8 : decode cX12_drifts 8 = .ok (.invokestatic 178, 3) := by decide +kernel
theorem dX12_drifts_11 : decode cX12_drifts 11 = .ok (.aload_n 0, 1) := by decide +kernel
theorem dX12_drifts_12 : decode cX12_drifts 12 = .ok (.getfield 40, 3) := by decide +kernel
theorem dX12_drifts_15 : decode cX12_drifts 15 = .ok (.iconst 1, 1) := by decide +kernel
theorem dX12_drifts_16 : decode cX12_drifts 16 = .ok (.aload_n 0, 1) := by decide +kernel
theorem dX12_drifts_17 : decode cX12_drifts 17 = .ok (.getfield 46, 3) := by decide +kernel
theorem dX12_drifts_20 : decode cX12_drifts 20 = .ok (.sipush (-5000), 3) := by decide +kernel
theorem dX12_drifts_23 : decode cX12_drifts 23 = .ok (.iload_n 1, 1) := by decide +kernel
theorem dX12_drifts_24 : decode cX12_drifts 24 = .ok (.isub, 1) := by decide +kernel
theorem dX12_drifts_25 : decode cX12_drifts 25 = .ok (.invokestatic 158, 3) := by decide +kernel
theorem dX12_drifts_28 : decode cX12_drifts 28 = .ok (.l2i, 1) := by decide +kernel
