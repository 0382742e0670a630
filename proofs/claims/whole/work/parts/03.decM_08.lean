theorem dX12_puts_1 : decode cX12_puts 1 = .ok (.iconst 0, 1) := by decide +kernel
theorem dX12_puts_2 : decode cX12_puts 2 = .ok (.putfield 132, 3) := by decide +kernel
theorem dX12_puts_5 : decode cX12_puts 5 = .ok (.aload_n 0, 1) := by decide +kernel
theorem dX12_puts_6 : decode cX12_puts 6 = .ok (.iload_n 1, 1) := by decide +kernel
theorem dX12_puts_7 : decode cX12_puts 7 = .ok (.invokevirtual 310, 3) := by decide +kernel
theorem dX12_puts_10 : decode cX12_puts 10 = .ok (.ifCond .eq 40, 3) := by decide +kernel
theorem dX12_puts_13 : decode cX12_puts 13 = .ok (.iload_n 2, 1) := by decide +kernel
theorem dX12_puts_14 : decode cX12_puts 14 = .ok (.i2l, 1) := by decide +kernel
theorem dX12_puts_15 : decode cX12_puts 15 = .ok (.lconst 0, 1) := by decide +kernel
theorem dX12_puts_16 : decode cX12_puts 16 = .ok (.aload_n 0, 1) := by decide +kernel
theorem dX12_puts_17 : decode cX12_puts 17 = .ok (.iload_n 1, 1) := by decide +kernel
theorem dX12_puts_18 : decode cX12_puts 18 = .ok (.invokevirtual 337, 3) := by decide +kernel
theorem dX12_puts_21 : decode cX12_puts 21 = .ok (.i2l, 1) := by decide +kernel
theorem dX12_puts_22 : decode cX12_puts 22 = .ok (.invokestatic 166, 3) := by decide +kernel
theorem dX12_puts_25 : decode cX12_puts 25 = .ok (.ifCond .eq 25, 3) := by decide +kernel
theorem dX12_puts_28 : decode cX12_puts 28 = .ok (.iload_n 1, 1) := by decide +kernel
theorem dX12_puts_29 : decode cX12_puts 29 = .ok (.iload_n 3, 1) := by decide +kernel
theorem dX12_puts_30 : decode cX12_puts 30 = .ok (.iload 4, 2) := by decide +kernel
theorem dX12_puts_32 : decode cX12_puts 32 = .ok (.iload 5, 2) := by decide +kernel
theorem dX12_puts_34 : decode cX12_puts 34 = .ok (.invokestatic 492, 3) := by decide +kernel
theorem dX12_puts_37 : decode cX12_puts 37 = .ok (.ifCond .eq 13, 3) := by decide +kernel
theorem dX12_puts_40 : decode cX12_puts 40 = .ok (.aload_n 0, 1) := by decide +kernel
theorem dX12_puts_41 : decode cX12_puts 41 = .ok (.iload_n 1, 1) := by decide +kernel
theorem dX12_puts_42 : decode cX12_puts 42 = .ok (.invokevirtual 337, 3) := by decide +kernel
theorem dX12_puts_45 : decode cX12_puts 45 = .ok (.bipush 40, 2) := by decide +kernel
theorem dX12_puts_47 : decode cX12_puts 47 = .ok (.if_icmp .ne 9, 3) := by decide +kernel
theorem dX12_puts_50 : decode cX12_puts 50 = .ok (.aload_n 0, 1) := by decide +kernel
theorem dX12_puts_51 : decode cX12_puts 51 = .ok (.iconst 1, 1) := by decide +kernel
theorem dX12_puts_52 : decode cX12_puts 52 = .ok (.invokevirtual 485, 3) := by decide +kernel
theorem dX12_puts_55 : decode cX12_puts 55 = .ok (.ireturn, 1) := by decide +kernel
theorem dX12_puts_56 : decode cX12_puts 56 = .ok (.iload_n 3, 1) := by decide +kernel
theorem dX12_puts_57 : decode cX12_puts 57 = .ok (.iconst 2, 1) := by decide +kernel
theorem dX12_puts_58 : decode cX12_puts 58 = .ok (.if_icmp .le 8, 3) := by decide +kernel
theorem dX12_puts_61 : decode cX12_puts 61 = .ok (.iload_n 3, 1) := by decide +kernel
theorem dX12_puts_62 : decode cX12_puts 62 = .ok (.iconst 4, 1) := by decide +kernel
theorem dX12_puts_63 : decode cX12_puts 63 = .ok (.if_icmp .ne 7, 3) := by decide +kernel
theorem dX12_puts_66 : decode cX12_puts 66 = .ok (.iconst 1, 1) := by decide +kernel
theorem dX12_puts_67 : decode cX12_puts 67 = .ok (.goto 4, 3) := by decide +kernel
theorem dX12_puts_70 : decode cX12_puts 70 = .ok (.iconst 0, 1) := by decide +kernel
theorem dX12_puts_71 : decode cX12_puts 71 = .ok (.istore 6, 2) := by decide +kernel
theorem dX12_puts_73 : decode cX12_puts 73 = .ok (.iconst 0, 1) := by decide +kernel
theorem dX12_puts_74 : decode cX12_puts 74 = .ok (.istore 7, 2) := by decide +kernel
theorem dX12_puts_76 : decode cX12_puts 76 = .ok (.iload 7, 2) := by decide +kernel
theorem dX12_puts_78 : decode cX12_puts 78 = .ok (.sipush 161, 3) := by decide +kernel
theorem dX12_puts_81 : decode cX12_puts 81 = .ok (.if_icmp .ge 29, 3) := by decide +kernel
theorem dX12_puts_84 : decode cX12_puts 84 = .ok (.aload_n 0, 1) := by decide +kernel
theorem dX12_puts_85 : decode cX12_puts 85 = .ok (.getfield 77, 3) := by decide +kernel
theorem dX12_puts_88 : decode cX12_puts 88 = .ok (.iload 7, 2) := by decide +kernel
theorem dX12_puts_90 : decode cX12_puts 90 = .ok (.aload_n 0, 1) := by decide +kernel
theorem dX12_puts_91 : decode cX12_puts 91 = .ok (.getfield 33, 3) := by decide +kernel
theorem dX12_puts_94 : decode cX12_puts 94 = .ok (.sipush 161, 3) := by decide +kernel
theorem dX12_puts_97 : decode cX12_puts 97 = .ok (.iload_n 1, 1) := by decide +kernel
theorem dX12_puts_98 : decode cX12_puts 98 = .ok (.imul, 1) := by decide +kernel
theorem dX12_puts_99 : decode cX12_puts 99 = .ok (.iload 7, 2) := by decide +kernel
theorem dX12_puts_101 : decode cX12_puts 101 = .ok (.iadd, 1) := by decide +kernel
theorem dX12_puts_102 : decode cX12_puts 102 = .ok (.iaload, 1) := by decide +kernel
theorem dX12_puts_103 : decode cX12_puts 103 = .ok (.iastore, 1) := by decide +kernel
theorem dX12_puts_104 : decode cX12_puts 104 = .ok (.iinc 7 1, 3) := by decide +kernel
theorem dX12_puts_107 : decode cX12_puts 107 = .ok (.goto (-31), 3) := by decide +kernel
theorem dX12_puts_110 : decode cX12_puts 110 = .ok (.iconst 4, 1) := by decide +kernel
theorem dX12_puts_111 : decode cX12_puts 111 = .ok (.aload_n 0, 1) := by decide +kernel
theorem dX12_puts_112 : decode cX12_puts 112 = .ok (.getfield 77, 3) := by decide +kernel
theorem dX12_puts_115 : decode cX12_puts 115 = .ok (.iconst 0, 1) := by decide +kernel
theorem dX12_puts_116 : decode cX12_puts 116 = .ok (.iaload, 1) := by decide +kernel
theorem dX12_puts_117 : decode cX12_puts 117 = .ok (.imul, 1) := by decide +kernel
theorem dX12_puts_118 : decode cX12_puts 118 = .ok (.istore 7, 2) := by decide +kernel
theorem dX12_puts_120 : decode cX12_puts 120 = .ok (.iload 7, 2) := by decide +kernel
theorem dX12_puts_122 : decode cX12_puts 122 = .ok (.iconst 4, 1) := by decide +kernel
theorem dX12_puts_123 : decode cX12_puts 123 = .ok (.iload_n 2, 1) := by decide +kernel
theorem dX12_puts_124 : decode cX12_puts 124 = .ok (.imul, 1) := by decide +kernel
theorem dX12_puts_125 : decode cX12_puts 125 = .ok (.if_icmp .le 25, 3) := by decide +kernel
theorem dX12_puts_128 : decode cX12_puts 128 = .ok (.aload_n 0, 1) := by decide +kernel
theorem dX12_puts_129 : decode cX12_puts 129 = .ok (.getfield 77, 3) := by decide +kernel
theorem dX12_puts_132 : decode cX12_puts 132 = .ok (.iconst 4, 1) := by decide +kernel
theorem dX12_puts_133 : decode cX12_puts 133 = .ok (.iload 7, 2) := by decide +kernel
theorem dX12_puts_135 : decode cX12_puts 135 = .ok (.iadd, 1) := by decide +kernel
theorem dX12_puts_136 : decode cX12_puts 136 = .ok (.aload_n 0, 1) := by decide +kernel
theorem dX12_puts_137 : decode cX12_puts 137 = .ok (.getfield 77, 3) := by decide +kernel
theorem dX12_puts_140 : decode cX12_puts 140 = .ok (.iload 7, 2) := by decide +kernel
theorem dX12_puts_142 : decode cX12_puts 142 = .ok (.iaload, 1) := by decide +kernel
theorem dX12_puts_143 : decode cX12_puts 143 = .ok (.iastore, 1) := by decide +kernel
theorem dX12_puts_144 : decode cX12_puts 144 = .ok (.iinc 7 (-1), 3) := by decide +kernel
theorem dX12_puts_147 : decode cX12_puts 147 = .ok (.goto (-27), 3) := by decide +kernel
theorem dX12_puts_150 : decode cX12_puts 150 = .ok (.aload_n 0, 1) := by decide +kernel
theorem dX12_puts_151 : decode cX12_puts 151 = .ok (.getfield 77, 3) := by decide +kernel
theorem dX12_puts_154 : decode cX12_puts 154 = .ok (.iconst 0, 1) := by decide +kernel
theorem dX12_puts_155 : decode cX12_puts 155 = .ok (.dup2, 1) := by decide +kernel
theorem dX12_puts_156 : decode cX12_puts 156 = .ok (.iaload, 1) := by decide +kernel
theorem dX12_puts_157 : decode cX12_puts 157 = .ok (.iconst 1, 1) := by decide +kernel
theorem dX12_puts_158 : decode cX12_puts 158 = .ok (.iadd, 1) := by decide +kernel
theorem dX12_puts_159 : decode cX12_puts 159 = .ok (.iastore, 1) := by decide +kernel
theorem dX12_puts_160 : decode cX12_puts 160 = .ok (.aload_n 0, 1) := by decide +kernel
theorem dX12_puts_161 : decode cX12_puts 161 = .ok (.getfield 77, 3) := by decide +kernel
theorem dX12_puts_164 : decode cX12_puts 164 = .ok (.iconst 1, 1) := by decide +kernel
theorem dX12_puts_165 : decode cX12_puts 165 = .ok (.iconst 4, 1) := by decide +kernel
theorem dX12_puts_166 : decode cX12_puts 166 = .ok (.iload_n 2, 1) := by decide +kernel
theorem dX12_puts_167 : decode cX12_puts 167 = .ok (.imul, 1) := by decide +kernel
theorem dX12_puts_168 : decode cX12_puts 168 = .ok (.iadd, 1) := by decide +kernel
theorem dX12_puts_169 : decode cX12_puts 169 = .ok (.iload_n 3, 1) := by decide +kernel
theorem dX12_puts_170 : decode cX12_puts 170 = .ok (.iastore, 1) := by decide +kernel
theorem dX12_puts_171 : decode cX12_puts 171 = .ok (.aload_n 0, 1) := by decide +kernel
theorem dX12_puts_172 : decode cX12_puts 172 = .ok (.getfield 77, 3) := by decide +kernel
theorem dX12_puts_175 : decode cX12_puts 175 = .ok (.iconst 2, 1) := by decide +kernel
theorem dX12_puts_176 : decode cX12_puts 176 = .ok (.iconst 4, 1) := by decide +kernel
theorem dX12_puts_177 : decode cX12_puts 177 = .ok (.iload_n 2, 1) := by decide +kernel
theorem dX12_puts_178 : decode cX12_puts 178 = .ok (.imul, 1) := by decide +kernel
theorem dX12_puts_179 : decode cX12_puts 179 = .ok (.iadd, 1) := by decide +kernel
theorem dX12_puts_180 : decode cX12_puts 180 = .ok (.iload_n 3, 1) := by decide +kernel
theorem dX12_puts_181 : decode cX12_puts 181 = .ok (.iconst 5, 1) := by decide +kernel
theorem dX12_puts_182 : decode cX12_puts 182 = .ok (.if_icmp .eq 9, 3) := by decide +kernel
theorem dX12_puts_185 : decode cX12_puts 185 = .ok (.iload_n 3, 1) := by decide +kernel
theorem dX12_puts_186 : decode cX12_puts 186 = .ok (.bipush 6, 2) := by decide +kernel
theorem dX12_puts_188 : decode cX12_puts 188 = .ok (.if_icmp .ne 7, 3) := by decide +kernel
theorem dX12_puts_191 : decode cX12_puts 191 = .ok (.iconst 0, 1) := by decide +kernel
theorem dX12_puts_192 : decode cX12_puts 192 = .ok (.goto 5, 3) := by decide +kernel
theorem dX12_puts_195 : decode cX12_puts 195 = .ok (.iload 4, 2) := by decide +kernel
theorem dX12_puts_197 : decode cX12_puts 197 = .ok (.iastore, 1) := by decide +kernel
theorem dX12_puts_198 : decode cX12_puts 198 = .ok (.aload_n 0, 1) := by decide +kernel
theorem dX12_puts_199 : decode cX12_puts 199 = .ok (.getfield 77, 3) := by decide +kernel
theorem dX12_puts_202 : decode cX12_puts 202 = .ok (.iconst 3, 1) := by decide +kernel
theorem dX12_puts_203 : decode cX12_puts 203 = .ok (.iconst 4, 1) := by decide +kernel
theorem dX12_puts_204 : decode cX12_puts 204 = .ok (.iload_n 2, 1) := by decide +kernel
theorem dX12_puts_205 : decode cX12_puts 205 = .ok (.imul, 1) := by decide +kernel
theorem dX12_puts_206 : decode cX12_puts 206 = .ok (.iadd, 1) := by decide +kernel
theorem dX12_puts_207 : decode cX12_puts 207 = .ok (.iload 6, 2) := by decide +kernel
theorem dX12_puts_209 : decode cX12_puts 209 = .ok (.ifCond .eq 8, 3) := by decide +kernel
theorem dX12_puts_212 : decode cX12_puts 212 = .ok (.iload 5, 2) := by decide +kernel
theorem dX12_puts_214 : decode cX12_puts 214 = .ok (.goto 4, 3) := by decide +kernel
theorem dX12_puts_217 : decode cX12_puts 217 = .ok (.iconst 0, 1) := by decide +kernel
theorem dX12_puts_218 : decode cX12_puts 218 = .ok (.iastore, 1) := by decide +kernel
theorem dX12_puts_219 : decode cX12_puts 219 = .ok (.aload_n 0, 1) := by decide +kernel
theorem dX12_puts_220 : decode cX12_puts 220 = .ok (.invokevirtual 325, 3) := by decide +kernel
theorem dX12_puts_223 : decode cX12_puts 223 = .ok (.aload_n 0, 1) := by decide +kernel
theorem dX12_puts_224 : decode cX12_puts 224 = .ok (.getfield 77, 3) := by decide +kernel
theorem dX12_puts_227 : decode cX12_puts 227 = .ok (.iconst 4, 1) := by decide +kernel
theorem dX12_puts_228 : decode cX12_puts 228 = .ok (.iconst 4, 1) := by decide +kernel
theorem dX12_puts_229 : decode cX12_puts 229 = .ok (.iload_n 2, 1) := by decide +kernel
theorem dX12_puts_230 : decode cX12_puts 230 = .ok (.imul, 1) := by decide +kernel
theorem dX12_puts_231 : decode cX12_puts 231 = .ok (.iadd, 1) := by decide +kernel
theorem dX12_puts_232 : decode cX12_puts 232 = .ok (.iload_n 3, 1) := by decide +kernel
theorem dX12_puts_233 : decode cX12_puts 233 = .ok (.bipush 8, 2) := by decide +kernel
theorem dX12_puts_235 : decode cX12_puts 235 = .ok (.if_icmp .ne 12, 3) := by decide +kernel
theorem dX12_puts_238 : decode cX12_puts 238 = .ok (.aload_n 0, 1) := by decide +kernel
theorem dX12_puts_239 : decode cX12_puts 239 = .ok (.iload 4, 2) := by decide +kernel
theorem dX12_puts_241 : decode cX12_puts 241 = .ok (.invokevirtual 328, 3) := by decide +kernel
theorem dX12_puts_244 : decode cX12_puts 244 = .ok (.goto 4, 3) := by decide +kernel
theorem dX12_puts_247 : decode cX12_puts 247 = .ok (.iconst 0, 1) := by decide +kernel
theorem dX12_puts_248 : decode cX12_puts 248 = .ok (.iastore, 1) := by decide +kernel
theorem dX12_puts_249 : decode cX12_puts 249 = .ok (.aload_n 0, 1) := by decide +kernel
theorem dX12_puts_250 : decode cX12_puts 250 = .ok (.iload_n 1, 1) := by decide +kernel
theorem dX12_puts_251 : decode cX12_puts 251 = .ok (.invokevirtual 495, 3) := by decide +kernel
theorem dX12_puts_254 : decode cX12_puts 254 = .ok (.ireturn, 1) := by decide +kernel
theorem dX12_takes_0 : decode cX12_takes 0 = .ok (.aload_n 0, 1) := by decide +kernel
theorem dX12_takes_1 : decode cX12_takes 1 = .ok (.iconst 0, 1) := by decide +kernel
theorem dX12_takes_2 : decode cX12_takes 2 = .ok (.putfield 132, 3) := by decide +kernel
theorem dX12_takes_5 : decode cX12_takes 5 = .ok (.aload_n 0, 1) := by decide +kernel
theorem dX12_takes_6 : decode cX12_takes 6 = .ok (.iload_n 1, 1) := by decide +kernel
theorem dX12_takes_7 : decode cX12_takes 7 = .ok (.iload_n 2, 1) := by decide +kernel
theorem dX12_takes_8 : decode cX12_takes 8 = .ok (.invokevirtual 340, 3) := by decide +kernel
theorem dX12_takes_11 : decode cX12_takes 11 = .ok (.ifCond .ne 9, 3) := by decide +kernel
theorem dX12_takes_14 : decode cX12_takes 14 = .ok (.aload_n 0, 1) := by decide +kernel
theorem dX12_takes_15 : decode cX12_takes 15 = .ok (.iconst 1, 1) := by decide +kernel
theorem dX12_takes_16 : decode cX12_takes 16 = .ok (.invokevirtual 485, 3) := by decide +kernel
theorem dX12_takes_19 : decode cX12_takes 19 = .ok (.ireturn, 1) := by decide +kernel
theorem dX12_takes_20 : decode cX12_takes 20 = .ok (.iconst 0, 1) := by decide +kernel
theorem dX12_takes_21 : decode cX12_takes 21 = .ok (.istore_n 3, 1) := by decide +kernel
theorem dX12_takes_22 : decode cX12_takes 22 = .ok (.iload_n 3, 1) := by decide +kernel
theorem dX12_takes_23 : decode cX12_takes 23 = .ok (.sipush 161, 3) := by decide +kernel
theorem dX12_takes_26 : decode cX12_takes 26 = .ok (.if_icmp .ge 27, 3) := by decide +kernel
theorem dX12_takes_29 : decode cX12_takes 29 = .ok (.aload_n 0, 1) := by decide +kernel
theorem dX12_takes_30 : decode cX12_takes 30 = .ok (.getfield 77, 3) := by decide +kernel
theorem dX12_takes_33 : decode cX12_takes 33 = .ok (.iload_n 3, 1) := by decide +kernel
theorem dX12_takes_34 : decode cX12_takes 34 = .ok (.aload_n 0, 1) := by decide +kernel
theorem dX12_takes_35 : decode cX12_takes 35 = .ok (.getfield 33, 3) := by decide +kernel
theorem dX12_takes_38 : decode cX12_takes 38 = .ok (.sipush 161, 3) := by decide +kernel
theorem dX12_takes_41 : decode cX12_takes 41 = .ok (.iload_n 1, 1) := by decide +kernel
theorem dX12_takes_42 : decode cX12_takes 42 = .ok (.imul, 1) := by decide +kernel
theorem dX12_takes_43 : decode cX12_takes 43 = .ok (.iload_n 3, 1) := by decide +kernel
theorem dX12_takes_44 : decode cX12_takes 44 = .ok (.iadd, 1) := by decide +kernel
theorem dX12_takes_45 : decode cX12_takes 45 = .ok (.iaload, 1) := by decide +kernel
theorem dX12_takes_46 : decode cX12_takes 46 = .ok (.iastore, 1) := by decide +kernel
theorem dX12_takes_47 : decode cX12_takes 47 = .ok (.iinc 3 1, 3) := by decide +kernel
theorem dX12_takes_50 : decode cX12_takes 50 = .ok (.goto (-28), 3) := by decide +kernel
theorem dX12_takes_53 : decode cX12_takes 53 = .ok (.iconst 1, 1) := by decide +kernel
theorem dX12_takes_54 : decode cX12_takes 54 = .ok (.iconst 4, 1) := by decide +kernel
theorem dX12_takes_55 : decode cX12_takes 55 = .ok (.iload_n 2, 1) := by decide +kernel
theorem dX12_takes_56 : decode cX12_takes 56 = .ok (.imul, 1) := by decide +kernel
theorem dX12_takes_57 : decode cX12_takes 57 = .ok (.iadd, 1) := by decide +kernel
theorem dX12_takes_58 : decode cX12_takes 58 = .ok (.istore_n 3, 1) := by decide +kernel
theorem dX12_takes_59 : decode cX12_takes 59 = .ok (.iload_n 3, 1) := by decide +kernel
theorem dX12_takes_60 : decode cX12_takes 60 = .ok (.iconst 4, 1) := by decide +kernel
theorem dX12_takes_61 : decode cX12_takes 61 = .ok (.iadd, 1) := by decide +kernel
theorem dX12_takes_62 : decode cX12_takes 62 = .ok (.sipush 161, 3) := by decide +kernel
theorem dX12_takes_65 : decode cX12_takes 65 = .ok (.if_icmp .ge 23, 3) := by decide +kernel
theorem dX12_takes_68 : decode cX12_takes 68 = .ok (.aload_n 0, 1) := by decide +kernel
theorem dX12_takes_69 : decode cX12_takes 69 = .ok (.getfield 77, 3) := by decide +kernel
theorem dX12_takes_72 : decode cX12_takes 72 = .ok (.iload_n 3, 1) := by decide +kernel
theorem dX12_takes_73 : decode cX12_takes 73 = .ok (.aload_n 0, 1) := by decide +kernel
theorem dX12_takes_74 : decode cX12_takes 74 = .ok (.getfield 77, 3) := by decide +kernel
theorem dX12_takes_77 : decode cX12_takes 77 = .ok (.iload_n 3, 1) := by decide +kernel
theorem dX12_takes_78 : decode cX12_takes 78 = .ok (.iconst 4, 1) := by decide +kernel
theorem dX12_takes_79 : decode cX12_takes 79 = .ok (.iadd, 1) := by decide +kernel
theorem dX12_takes_80 : decode cX12_takes 80 = .ok (.iaload, 1) := by decide +kernel
theorem dX12_takes_81 : decode cX12_takes 81 = .ok (.iastore, 1) := by decide +kernel
theorem dX12_takes_82 : decode cX12_takes 82 = .ok (.iinc 3 1, 3) := by decide +kernel
theorem dX12_takes_85 : decode cX12_takes 85 = .ok (.goto (-26), 3) := by decide +kernel
theorem dX12_takes_88 : decode cX12_takes 88 = .ok (.aload_n 0, 1) := by decide +kernel
theorem dX12_takes_89 : decode cX12_takes 89 = .ok (.getfield 77, 3) := by decide +kernel
theorem dX12_takes_92 : decode cX12_takes 92 = .ok (.iconst 0, 1) := by decide +kernel
theorem dX12_takes_93 : decode cX12_takes 93 = .ok (.dup2, 1) := by decide +kernel
theorem dX12_takes_94 : decode cX12_takes 94 = .ok (.iaload, 1) := by decide +kernel
theorem dX12_takes_95 : decode cX12_takes 95 = .ok (.iconst 1, 1) := by decide +kernel
theorem dX12_takes_96 : decode cX12_takes 96 = .ok (.isub, 1) := by decide +kernel
theorem dX12_takes_97 : decode cX12_takes 97 = .ok (.iastore, 1) := by decide +kernel
theorem dX12_takes_98 : decode cX12_takes 98 = .ok (.aload_n 0, 1) := by decide +kernel
theorem dX12_takes_99 : decode cX12_takes 99 = .ok (.iload_n 1, 1) := by decide +kernel
theorem dX12_takes_100 : decode cX12_takes 100 = .ok (.invokevirtual 495, 3) := by decide +kernel
theorem dX12_takes_103 : decode cX12_takes 103 = .ok (.ireturn, 1) := by decide +kernel
theorem dX12_copy_0 : decode cX12_copy 0 = .ok (.aload_n 0, 1) := by decide +kernel
theorem dX12_copy_1 : decode cX12_copy 1 = .ok (.iconst 0, 1) := by decide +kernel
theorem dX12_copy_2 : decode cX12_copy 2 = .ok (.putfield 132, 3) := by decide +kernel
theorem dX12_copy_5 : decode cX12_copy 5 = .ok (.aload_n 0, 1) := by decide +kernel
theorem dX12_copy_6 : decode cX12_copy 6 = .ok (.iload_n 1, 1) := by decide +kernel
theorem dX12_copy_7 : decode cX12_copy 7 = .ok (.invokevirtual 310, 3) := by decide +kernel
theorem dX12_copy_10 : decode cX12_copy 10 = .ok (.ifCond .eq 16, 3) := by decide +kernel
theorem dX12_copy_13 : decode cX12_copy 13 = .ok (.aload_n 0, 1) := by decide +kernel
theorem dX12_copy_14 : decode cX12_copy 14 = .ok (.iload_n 2, 1) := by decide +kernel
theorem dX12_copy_15 : decode cX12_copy 15 = .ok (.invokevirtual 310, 3) := by decide +kernel
theorem dX12_copy_18 : decode cX12_copy 18 = .ok (.ifCond .eq 8, 3) := by decide +kernel
theorem dX12_copy_21 : decode cX12_copy 21 = .ok (.iload_n 1, 1) := by decide +kernel
theorem dX12_copy_22 : decode cX12_copy 22 = .ok (.iload_n 2, 1) := by decide +kernel
theorem dX12_copy_23 : decode cX12_copy 23 = .ok (.if_icmp .ne 9, 3) := by decide +kernel
theorem dX12_copy_26 : decode cX12_copy 26 = .ok (.aload_n 0, 1) := by decide +kernel
theorem dX12_copy_27 : decode cX12_copy 27 = .ok (.iconst 1, 1) := by decide +kernel
theorem dX12_copy_28 : decode cX12_copy 28 = .ok (.invokevirtual 485, 3) := by decide +kernel
theorem dX12_copy_31 : decode cX12_copy 31 = .ok (.ireturn, 1) := by decide +kernel
theorem dX12_copy_32 : decode cX12_copy 32 = .ok (.iconst 0, 1) := by decide +kernel
theorem dX12_copy_33 : decode cX12_copy 33 = .ok (.istore_n 3, 1) := by decide +kernel
theorem dX12_copy_34 : decode cX12_copy 34 = .ok (.iconst 0, 1) := by decide +kernel
theorem dX12_copy_35 : decode cX12_copy 35 = .ok (.istore 4, 2) := by decide +kernel
theorem dX12_copy_37 : decode cX12_copy 37 = .ok (.iload 4, 2) := by decide +kernel
theorem dX12_copy_39 : decode cX12_copy 39 = .ok (.aload_n 0, 1) := by decide +kernel
theorem dX12_copy_40 : decode cX12_copy 40 = .ok (.iload_n 2, 1) := by decide +kernel
theorem dX12_copy_41 : decode cX12_copy 41 = .ok (.invokevirtual 337, 3) := by decide +kernel
theorem dX12_copy_44 : decode cX12_copy 44 = .ok (.if_icmp .ge 44, 3) := by decide +kernel
theorem dX12_copy_47 : decode cX12_copy 47 = .ok (.iload_n 3, 1) := by decide +kernel
theorem dX12_copy_48 : decode cX12_copy 48 = .ok (.ifCond .ne 28, 3) := by decide +kernel
theorem dX12_copy_51 : decode cX12_copy 51 = .ok (.aload_n 0, 1) := by decide +kernel
theorem dX12_copy_52 : decode cX12_copy 52 = .ok (.iload_n 2, 1) := by decide +kernel
theorem dX12_copy_53 : decode cX12_copy 53 = .ok (.iload 4, 2) := by decide +kernel
theorem dX12_copy_55 : decode cX12_copy 55 = .ok (.iconst 0, 1) := by decide +kernel
theorem dX12_copy_56 : decode cX12_copy 56 = .ok (.invokevirtual 346, 3) := by decide +kernel
theorem dX12_copy_59 : decode cX12_copy 59 = .ok (.bipush 8, 2) := by decide +kernel
theorem dX12_copy_61 : decode cX12_copy 61 = .ok (.if_icmp .ne 19, 3) := by decide +kernel
theorem dX12_copy_64 : decode cX12_copy 64 = .ok (.aload_n 0, 1) := by decide +kernel
theorem dX12_copy_65 : decode cX12_copy 65 = .ok (.iload_n 2, 1) := by decide +kernel
theorem dX12_copy_66 : decode cX12_copy 66 = .ok (.iload 4, 2) := by decide +kernel
theorem dX12_copy_68 : decode cX12_copy 68 = .ok (.iconst 1, 1) := by decide +kernel
theorem dX12_copy_69 : decode cX12_copy 69 = .ok (.invokevirtual 346, 3) := by decide +kernel
theorem dX12_copy_72 : decode cX12_copy 72 = .ok (.iload_n 1, 1) := by decide +kernel
theorem dX12_copy_73 : decode cX12_copy 73 = .ok (.if_icmp .ne 7, 3) := by decide +kernel
theorem dX12_copy_76 : decode cX12_copy 76 = .ok (.iconst 1, 1) := by decide +kernel
theorem dX12_copy_77 : decode cX12_copy 77 = .ok (.goto 4, 3) := by decide +kernel
theorem dX12_copy_80 : decode cX12_copy 80 = .ok (.iconst 0, 1) := by decide +kernel
theorem dX12_copy_81 : decode cX12_copy 81 = .ok (.istore_n 3, 1) := by decide +kernel
theorem dX12_copy_82 : decode cX12_copy 82 = .ok (.iinc 4 1, 3) := by decide +kernel
theorem dX12_copy_85 : decode cX12_copy 85 = .ok (.goto (-48), 3) := by decide +kernel
theorem dX12_copy_88 : decode cX12_copy 88 = .ok (.iload_n 3, 1) := by decide +kernel
theorem dX12_copy_89 : decode cX12_copy 89 = .ok (.ifCond .eq 9, 3) := by decide +kernel
theorem dX12_copy_92 : decode cX12_copy 92 = .ok (.aload_n 0, 1) := by decide +kernel
theorem dX12_copy_93 : decode cX12_copy 93 = .ok (.iconst 1, 1) := by decide +kernel
theorem dX12_copy_94 : decode cX12_copy 94 = .ok (.invokevirtual 485, 3) := by decide +kernel
theorem dX12_copy_97 : decode cX12_copy 97 = .ok (.ireturn, 1) := by decide +kernel
theorem dX12_copy_98 : decode cX12_copy 98 = .ok (.iconst 0, 1) := by decide +kernel
theorem dX12_copy_99 : decode cX12_copy 99 = .ok (.istore 4, 2) := by decide +kernel
theorem dX12_copy_101 : decode cX12_copy 101 = .ok (.iload 4, 2) := by decide +kernel
theorem dX12_copy_103 : decode cX12_copy 103 = .ok (.sipush 161, 3) := by decide +kernel
theorem dX12_copy_106 : decode cX12_copy 106 = .ok (.if_icmp .ge 29, 3) := by decide +kernel
theorem dX12_copy_109 : decode cX12_copy 109 = .ok (.aload_n 0, 1) := by decide +kernel
theorem dX12_copy_110 : decode cX12_copy 110 = .ok (.getfield 77, 3) := by decide +kernel
theorem dX12_copy_113 : decode cX12_copy 113 = .ok (.iload 4, 2) := by decide +kernel
theorem dX12_copy_115 : decode cX12_copy 115 = .ok (.aload_n 0, 1) := by decide +kernel
theorem dX12_copy_116 : decode cX12_copy 116 = .ok (.getfield 33, 3) := by decide +kernel
theorem dX12_copy_119 : decode cX12_copy 119 = .ok (.sipush 161, 3) := by decide +kernel
theorem dX12_copy_122 : decode cX12_copy 122 = .ok (.iload_n 2, 1) := by decide +kernel
theorem dX12_copy_123 : decode cX12_copy 123 = .ok (.imul, 1) := by decide +kernel
theorem dX12_copy_124 : decode cX12_copy 124 = .ok (.iload 4, 2) := by decide +kernel
theorem dX12_copy_126 : decode cX12_copy 126 = .ok (.iadd, 1) := by decide +kernel
theorem dX12_copy_127 : decode cX12_copy 127 = .ok (.iaload, 1) := by decide +kernel
theorem dX12_copy_128 : decode cX12_copy 128 = .ok (.iastore, 1) := by decide +kernel
theorem dX12_copy_129 : decode cX12_copy 129 = .ok (.iinc 4 1, 3) := by decide +kernel
theorem dX12_copy_132 : decode cX12_copy 132 = .ok (.goto (-31), 3) := by decide +kernel
theorem dX12_copy_135 : decode cX12_copy 135 = .ok (.aload_n 0, 1) := by decide +kernel
theorem dX12_copy_136 : decode cX12_copy 136 = .ok (.iload_n 1, 1) := by decide +kernel
theorem dX12_copy_137 : decode cX12_copy 137 = .ok (.invokevirtual 495, 3) := by decide +kernel
theorem dX12_copy_140 : decode cX12_copy 140 = .ok (.ireturn, 1) := by decide +kernel
theorem dX12_undo_0 : decode cX12_undo 0 = .ok (.aload_n 0, 1) := by decide +kernel
theorem dX12_undo_1 : decode cX12_undo 1 = .ok (.iconst 0, 1) := by decide +kernel
theorem dX12_undo_2 : decode cX12_undo 2 = .ok (.putfield 132, 3) := by decide +kernel
theorem dX12_undo_5 : decode cX12_undo 5 = .ok (.aload_n 0, 1) := by decide +kernel
theorem dX12_undo_6 : decode cX12_undo 6 = .ok (.getfield 331, 3) := by decide +kernel
theorem dX12_undo_9 : decode cX12_undo 9 = .ok (.ifCond .ne 5, 3) := by decide +kernel
theorem dX12_undo_12 : decode cX12_undo 12 = .ok (.iconst (-1), 1) := by decide +kernel
theorem dX12_undo_13 : decode cX12_undo 13 = .ok (.ireturn, 1) := by decide +kernel
theorem dX12_undo_14 : decode cX12_undo 14 = .ok (.aload_n 0, 1) := by decide +kernel
theorem dX12_undo_15 : decode cX12_undo 15 = .ok (.dup, 1) := by decide +kernel
theorem dX12_undo_16 : decode cX12_undo 16 = .ok (.getfield 331, 3) := by decide +kernel
theorem dX12_undo_19 : decode cX12_undo 19 = .ok (.iconst 1, 1) := by decide +kernel
theorem dX12_undo_20 : decode cX12_undo 20 = .ok (.isub, 1) := by decide +kernel
theorem dX12_undo_21 : decode cX12_undo 21 = .ok (.putfield 331, 3) := by decide +kernel
theorem dX12_undo_24 : decode cX12_undo 24 = .ok (.iconst 0, 1) := by decide +kernel
theorem dX12_undo_25 : decode cX12_undo 25 = .ok (.istore_n 1, 1) := by decide +kernel
theorem dX12_undo_26 : decode cX12_undo 26 = .ok (.iload_n 1, 1) := by decide +kernel
theorem dX12_undo_27 : decode cX12_undo 27 = .ok (.sipush 644, 3) := by decide +kernel
theorem dX12_undo_30 : decode cX12_undo 30 = .ok (.if_icmp .ge 46, 3) := by decide +kernel
theorem dX12_undo_33 : decode cX12_undo 33 = .ok (.aload_n 0, 1) := by decide +kernel
theorem dX12_undo_34 : decode cX12_undo 34 = .ok (.getfield 33, 3) := by decide +kernel
theorem dX12_undo_37 : decode cX12_undo 37 = .ok (.iload_n 1, 1) := by decide +kernel
theorem dX12_undo_38 : decode cX12_undo 38 = .ok (.aload_n 0, 1) := by decide +kernel
theorem dX12_undo_39 : decode cX12_undo 39 = .ok (.getfield 102, 3) := by decide +kernel
theorem dX12_undo_42 : decode cX12_undo 42 = .ok (.sipush 644, 3) := by decide +kernel
theorem dX12_undo_45 : decode cX12_undo 45 = .ok (.aload_n 0, 1) := by decide +kernel
theorem dX12_undo_46 : decode cX12_undo 46 = .ok (.getfield 331, 3) := by decide +kernel
theorem dX12_undo_49 : decode cX12_undo 49 = .ok (.imul, 1) := by decide +kernel
theorem dX12_undo_50 : decode cX12_undo 50 = .ok (.iload_n 1, 1) := by decide +kernel
theorem dX12_undo_51 : decode cX12_undo 51 = .ok (.iadd, 1) := by decide +kernel
theorem dX12_undo_52 : decode cX12_undo 52 = .ok (.iaload, 1) := by decide +kernel
theorem dX12_undo_53 : decode cX12_undo 53 = .ok (.iastore, 1) := by decide +kernel
theorem dX12_undo_54 : decode cX12_undo 54 = .ok (.aload_n 0, 1) := by decide +kernel
theorem dX12_undo_55 : decode cX12_undo 55 = .ok (.getfield 102, 3) := by decide +kernel
theorem dX12_undo_58 : decode cX12_undo 58 = .ok (.sipush 644, 3) := by decide +kernel
theorem dX12_undo_61 : decode cX12_undo 61 = .ok (.aload_n 0, 1) := by decide +kernel
theorem dX12_undo_62 : decode cX12_undo 62 = .ok (.getfield 331, 3) := by decide +kernel
theorem dX12_undo_65 : decode cX12_undo 65 = .ok (.imul, 1) := by decide +kernel
theorem dX12_undo_66 : decode cX12_undo 66 = .ok (.iload_n 1, 1) := by decide +kernel
theorem dX12_undo_67 : decode cX12_undo 67 = .ok (.iadd, 1) := by decide +kernel
theorem dX12_undo_68 : decode cX12_undo 68 = .ok (.iconst 0, 1) := by decide +kernel
theorem dX12_undo_69 : decode cX12_undo 69 = .ok (.iastore, 1) := by decide +kernel
theorem dX12_undo_70 : decode cX12_undo 70 = .ok (.iinc 1 1, 3) := by decide +kernel
theorem dX12_undo_73 : decode cX12_undo 73 = .ok (.goto (-47), 3) := by decide +kernel
theorem dX12_undo_76 : decode cX12_undo 76 = .ok (.aload_n 0, 1) := by decide +kernel
theorem dX12_undo_77 : decode cX12_undo 77 = .ok (.getfield 331, 3) := by decide +kernel
theorem dX12_undo_80 : decode cX12_undo 80 = .ok (.ireturn, 1) := by decide +kernel
theorem dX12_note_0 : decode cX12_note 0 = .ok (.aload_n 0, 1) := by decide +kernel
theorem dX12_note_1 : decode cX12_note 1 = .ok (.iconst 0, 1) := by decide +kernel
theorem dX12_note_2 : decode cX12_note 2 = .ok (.putfield 132, 3) := by decide +kernel
theorem dX12_note_5 : decode cX12_note 5 = .ok (.aload_n 0, 1) := by decide +kernel
theorem dX12_note_6 : decode cX12_note 6 = .ok (.getfield 334, 3) := by decide +kernel
theorem dX12_note_9 : decode cX12_note 9 = .ok (.bipush 8, 2) := by decide +kernel
theorem dX12_note_11 : decode cX12_note 11 = .ok (.if_icmp .eq 10, 3) := by decide +kernel
theorem dX12_note_14 : decode cX12_note 14 = .ok (.iload_n 1, 1) := by decide +kernel
theorem dX12_note_15 : decode cX12_note 15 = .ok (.invokestatic 353, 3) := by decide +kernel
theorem dX12_note_18 : decode cX12_note 18 = .ok (.ifCond .ne 9, 3) := by decide +kernel
theorem dX12_note_21 : decode cX12_note 21 = .ok (.aload_n 0, 1) := by decide +kernel
theorem dX12_note_22 : decode cX12_note 22 = .ok (.iconst 2, 1) := by decide +kernel
theorem dX12_note_23 : decode cX12_note 23 = .ok (.invokevirtual 485, 3) := by decide +kernel
theorem dX12_note_26 : decode cX12_note 26 = .ok (.ireturn, 1) := by decide +kernel
theorem dX12_note_27 : decode cX12_note 27 = .ok (.aload_n 0, 1) := by decide +kernel
theorem dX12_note_28 : decode cX12_note 28 = .ok (.getfield 105, 3) := by decide +kernel
theorem dX12_note_31 : decode cX12_note 31 = .ok (.aload_n 0, 1) := by decide +kernel
theorem dX12_note_32 : decode cX12_note 32 = .ok (.getfield 334, 3) := by decide +kernel
theorem dX12_note_35 : decode cX12_note 35 = .ok (.iload_n 1, 1) := by decide +kernel
theorem dX12_note_36 : decode cX12_note 36 = .ok (.iastore, 1) := by decide +kernel
theorem dX12_note_37 : decode cX12_note 37 = .ok (.aload_n 0, 1) := by decide +kernel
theorem dX12_note_38 : decode cX12_note 38 = .ok (.getfield 108, 3) := by decide +kernel
theorem dX12_note_41 : decode cX12_note 41 = .ok (.aload_n 0, 1) := by decide +kernel
theorem dX12_note_42 : decode cX12_note 42 = .ok (.getfield 334, 3) := by decide +kernel
theorem dX12_note_45 : decode cX12_note 45 = .ok (.lload_n 2, 1) := by decide +kernel
theorem dX12_note_46 : decode cX12_note 46 = .ok (.lastore, 1) := by decide +kernel
theorem dX12_note_47 : decode cX12_note 47 = .ok (.aload_n 0, 1) := by decide +kernel
theorem dX12_note_48 : decode cX12_note 48 = .ok (.dup, 1) := by decide +kernel
theorem dX12_note_49 : decode cX12_note 49 = .ok (.getfield 334, 3) := by decide +kernel
theorem dX12_note_52 : decode cX12_note 52 = .ok (.iconst 1, 1) := by decide +kernel
theorem dX12_note_53 : decode cX12_note 53 = .ok (.iadd, 1) := by decide +kernel
theorem dX12_note_54 : decode cX12_note 54 = .ok (.putfield 334, 3) := by decide +kernel
theorem dX12_note_57 : decode cX12_note 57 = .ok (.aload_n 0, 1) := by decide +kernel
theorem dX12_note_58 : decode cX12_note 58 = .ok (.getfield 334, 3) := by decide +kernel
theorem dX12_note_61 : decode cX12_note 61 = .ok (.ireturn, 1) := by decide +kernel
theorem dX12_forget_0 : decode cX12_forget 0 = .ok (.aload_n 0, 1) := by decide +kernel
theorem dX12_forget_1 : decode cX12_forget 1 = .ok (.iconst 0, 1) := by decide +kernel
theorem dX12_forget_2 : decode cX12_forget 2 = .ok (.putfield 132, 3) := by decide +kernel
theorem dX12_forget_5 : decode cX12_forget 5 = .ok (.aload_n 0, 1) := by decide +kernel
theorem dX12_forget_6 : decode cX12_forget 6 = .ok (.iconst 0, 1) := by decide +kernel
theorem dX12_forget_7 : decode cX12_forget 7 = .ok (.putfield 334, 3) := by decide +kernel
theorem dX12_forget_10 : decode cX12_forget 10 = .ok (.return_, 1) := by decide +kernel
theorem dX12_tellFits_0 : decode cX12_tellFits 0 = .ok (.iconst 0, 1) := by decide +kernel
theorem dX12_tellFits_1 : decode cX12_tellFits 1 = .ok (.istore_n 2, 1) := by decide +kernel
theorem dX12_tellFits_2 : decode cX12_tellFits 2 = .ok (.iload_n 2, 1) := by decide +kernel
theorem dX12_tellFits_3 : decode cX12_tellFits 3 = .ok (.bipush 40, 2) := by decide +kernel
theorem dX12_tellFits_5 : decode cX12_tellFits 5 = .ok (.if_icmp .gt 122, 3) := by decide +kernel
theorem dX12_tellFits_8 : decode cX12_tellFits 8 = .ok (.aload_n 0, 1) := by decide +kernel
theorem dX12_tellFits_9 : decode cX12_tellFits 9 = .ok (.iconst 0, 1) := by decide +kernel
theorem dX12_tellFits_10 : decode cX12_tellFits 10 = .ok (.iload_n 1, 1) := by decide +kernel
theorem dX12_tellFits_11 : decode cX12_tellFits 11 = .ok (.iload_n 2, 1) := by decide +kernel
theorem dX12_tellFits_12 : decode cX12_tellFits 12 = .ok (.invokevirtual 443, 3) := by decide +kernel
theorem dX12_tellFits_15 : decode cX12_tellFits 15 = .ok (.istore_n 3, 1) := by decide +kernel
theorem dX12_tellFits_16 : decode cX12_tellFits 16 = .ok (.iconst 0, 1) := by decide +kernel
theorem dX12_tellFits_17 : decode cX12_tellFits 17 = .ok (.istore 4, 2) := by decide +kernel
theorem dX12_tellFits_19 : decode cX12_tellFits 19 = .ok (.iload 4, 2) := by decide +kernel
theorem dX12_tellFits_21 : decode cX12_tellFits 21 = .ok (.aload_n 0, 1) := by decide +kernel
theorem dX12_tellFits_22 : decode cX12_tellFits 22 = .ok (.getfield 334, 3) := by decide +kernel
theorem dX12_tellFits_25 : decode cX12_tellFits 25 = .ok (.if_icmp .ge 44, 3) := by decide +kernel
theorem dX12_tellFits_28 : decode cX12_tellFits 28 = .ok (.iload_n 3, 1) := by decide +kernel
theorem dX12_tellFits_29 : decode cX12_tellFits 29 = .ok (.ifCond .eq 40, 3) := by decide +kernel
theorem dX12_tellFits_32 : decode cX12_tellFits 32 = .ok (.aload_n 0, 1) := by decide +kernel
theorem dX12_tellFits_33 : decode cX12_tellFits 33 = .ok (.getfield 40, 3) := by decide +kernel
theorem dX12_tellFits_36 : decode cX12_tellFits 36 = .ok (.aload_n 0, 1) := by decide +kernel
theorem dX12_tellFits_37 : decode cX12_tellFits 37 = .ok (.getfield 105, 3) := by decide +kernel
theorem dX12_tellFits_40 : decode cX12_tellFits 40 = .ok (.iload 4, 2) := by decide +kernel
theorem dX12_tellFits_42 : decode cX12_tellFits 42 = .ok (.iaload, 1) := by decide +kernel
theorem dX12_tellFits_43 : decode cX12_tellFits 43 = .ok (.invokestatic 158, 3) := by decide +kernel
theorem dX12_tellFits_46 : decode cX12_tellFits 46 = .ok (.aload_n 0, 1) := by decide +kernel
theorem dX12_tellFits_47 : decode cX12_tellFits 47 = .ok (.getfield 108, 3) := by decide +kernel
theorem dX12_tellFits_50 : decode cX12_tellFits 50 = .ok (.iload 4, 2) := by decide +kernel
theorem dX12_tellFits_52 : decode cX12_tellFits 52 = .ok (.laload, 1) := by decide +kernel
theorem dX12_tellFits_53 : decode cX12_tellFits 53 = .ok (.lcmp, 1) := by decide +kernel
theorem dX12_tellFits_54 : decode cX12_tellFits 54 = .ok (.ifCond .ne 7, 3) := by decide +kernel
theorem dX12_tellFits_57 : decode cX12_tellFits 57 = .ok (.iconst 1, 1) := by decide +kernel
theorem dX12_tellFits_58 : decode cX12_tellFits 58 = .ok (.goto 4, 3) := by decide +kernel
theorem dX12_tellFits_61 : decode cX12_tellFits 61 = .ok (.iconst 0, 1) := by decide +kernel
theorem dX12_tellFits_62 : decode cX12_tellFits 62 = .ok (.istore_n 3, 1) := by decide +kernel
theorem dX12_tellFits_63 : decode cX12_tellFits 63 = .ok (.iinc 4 1, 3) := by decide +kernel
theorem dX12_tellFits_66 : decode cX12_tellFits 66 = .ok (.goto (-47), 3) := by decide +kernel
theorem dX12_tellFits_69 : decode cX12_tellFits 69 = .ok (.aload_n 0, 1) := by decide +kernel
theorem dX12_tellFits_70 : decode cX12_tellFits 70 = .ok (.getfield 111, 3) := by decide +kernel
theorem dX12_tellFits_73 : decode cX12_tellFits 73 = .ok (.iload_n 2, 1) := by decide +kernel
theorem dX12_tellFits_74 : decode cX12_tellFits 74 = .ok (.iload_n 3, 1) := by decide +kernel
theorem dX12_tellFits_75 : decode cX12_tellFits 75 = .ok (.bastore, 1) := by decide +kernel
theorem dX12_tellFits_76 : decode cX12_tellFits 76 = .ok (.bipush (-20), 2) := by decide +kernel
theorem dX12_tellFits_78 : decode cX12_tellFits 78 = .ok (.istore 4, 2) := by decide +kernel
theorem dX12_tellFits_80 : decode cX12_tellFits 80 = .ok (.iload 4, 2) := by decide +kernel
theorem dX12_tellFits_82 : decode cX12_tellFits 82 = .ok (.bipush 20, 2) := by decide +kernel
theorem dX12_tellFits_84 : decode cX12_tellFits 84 = .ok (.if_icmp .gt 37, 3) := by decide +kernel
theorem dX12_tellFits_87 : decode cX12_tellFits 87 = .ok (.iload_n 3, 1) := by decide +kernel
theorem dX12_tellFits_88 : decode cX12_tellFits 88 = .ok (.ifCond .eq 33, 3) := by decide +kernel
theorem dX12_tellFits_91 : decode cX12_tellFits 91 = .ok (.aload_n 0, 1) := by decide +kernel
theorem dX12_tellFits_92 : decode cX12_tellFits 92 = .ok (.getfield 114, 3) := by decide +kernel
theorem dX12_tellFits_95 : decode cX12_tellFits 95 = .ok (.bipush 41, 2) := by decide +kernel
theorem dX12_tellFits_97 : decode cX12_tellFits 97 = .ok (.iload_n 2, 1) := by decide +kernel
theorem dX12_tellFits_98 : decode cX12_tellFits 98 = .ok (.imul, 1) := by decide +kernel
theorem dX12_tellFits_99 : decode cX12_tellFits 99 = .ok (.iload 4, 2) := by decide +kernel
theorem dX12_tellFits_101 : decode cX12_tellFits 101 = .ok (.iadd, 1) := by decide +kernel
theorem dX12_tellFits_102 : decode cX12_tellFits 102 = .ok (.bipush 20, 2) := by decide +kernel
theorem dX12_tellFits_104 : decode cX12_tellFits 104 = .ok (.iadd, 1) := by decide +kernel
theorem dX12_tellFits_105 : decode cX12_tellFits 105 = .ok (.aload_n 0, 1) := by decide +kernel
theorem dX12_tellFits_106 : decode cX12_tellFits 106 = .ok (.getfield 40, 3) := by decide +kernel
theorem dX12_tellFits_109 : decode cX12_tellFits 109 = .ok (.iload 4, 2) := by decide +kernel
theorem dX12_tellFits_111 : decode cX12_tellFits 111 = .ok (.invokestatic 158, 3) := by decide +kernel
theorem dX12_tellFits_114 : decode cX12_tellFits 114 = .ok (.lastore, 1) := by decide +kernel
theorem dX12_tellFits_115 : decode cX12_tellFits 115 = .ok (.iinc 4 1, 3) := by decide +kernel
