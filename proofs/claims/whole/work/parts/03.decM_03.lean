theorem dX12_readCost_6 : decode cX12_readCost 6 = .ok (.aload_n 0, 1) := by decide +kernel
theorem dX12_readCost_7 : decode cX12_readCost 7 = .ok (.getfield 266, 3) := by decide +kernel
theorem dX12_readCost_10 : decode cX12_readCost 10 = .ok (.ifCond .ne 13, 3) := by decide +kernel
theorem dX12_readCost_13 : decode cX12_readCost 13 = .ok (.iload_n 2, 1) := by decide +kernel
theorem dX12_readCost_14 : decode cX12_readCost 14 = .ok (.iload_n 1, 1) := by decide +kernel
theorem dX12_readCost_15 : decode cX12_readCost 15 = .ok (.if_icmp .ne 8, 3) := by decide +kernel
theorem dX12_readCost_18 : decode cX12_readCost 18 = .ok (.aload_n 0, 1) := by decide +kernel
theorem dX12_readCost_19 : decode cX12_readCost 19 = .ok (.iconst 3, 1) := by decide +kernel
theorem dX12_readCost_20 : decode cX12_readCost 20 = .ok (.invokevirtual 284, 3) := by decide +kernel
theorem dX12_readCost_23 : decode cX12_readCost 23 = .ok (.aload_n 0, 1) := by decide +kernel
theorem dX12_readCost_24 : decode cX12_readCost 24 = .ok (.getfield 266, 3) := by decide +kernel
theorem dX12_readCost_27 : decode cX12_readCost 27 = .ok (.ifCond .ne 7, 3) := by decide +kernel
theorem dX12_readCost_30 : decode cX12_readCost 30 = .ok (.aload_n 0, 1) := by decide +kernel
theorem dX12_readCost_31 : decode cX12_readCost 31 = .ok (.invokevirtual 290, 3) := by decide +kernel
theorem dX12_readCost_34 : decode cX12_readCost 34 = .ok (.iload_n 2, 1) := by decide +kernel
theorem dX12_readCost_35 : decode cX12_readCost 35 = .ok (.ireturn, 1) := by decide +kernel
theorem dX12_readClause_0 : decode cX12_readClause 0 = .ok (.aload_n 0, 1) := by decide +kernel
theorem dX12_readClause_1 : decode cX12_readClause 1 = .ok (.invokevirtual 299, 3) := by decide +kernel
theorem dX12_readClause_4 : decode cX12_readClause 4 = .ok (.istore_n 2, 1) := by decide +kernel
theorem dX12_readClause_5 : decode cX12_readClause 5 = .ok (.iload_n 2, 1) := by decide +kernel
theorem dX12_readClause_6 : decode cX12_readClause 6 = .ok (.iconst (-1), 1) := by decide +kernel
theorem dX12_readClause_7 : decode cX12_readClause 7 = .ok (.if_icmp .ne 8, 3) := by decide +kernel
theorem dX12_readClause_10 : decode cX12_readClause 10 = .ok (.aload_n 0, 1) := by decide +kernel
theorem dX12_readClause_11 : decode cX12_readClause 11 = .ok (.iconst 1, 1) := by decide +kernel
theorem dX12_readClause_12 : decode cX12_readClause 12 = .ok (.invokevirtual 284, 3) := by decide +kernel
theorem dX12_readClause_15 : decode cX12_readClause 15 = .ok (.aload_n 0, 1) := by decide +kernel
theorem dX12_readClause_16 : decode cX12_readClause 16 = .ok (.getfield 266, 3) := by decide +kernel
theorem dX12_readClause_19 : decode cX12_readClause 19 = .ok (.ifCond .ne 19, 3) := by decide +kernel
theorem dX12_readClause_22 : decode cX12_readClause 22 = .ok (.aload_n 0, 1) := by decide +kernel
theorem dX12_readClause_23 : decode cX12_readClause 23 = .ok (.getfield 77, 3) := by decide +kernel
theorem dX12_readClause_26 : decode cX12_readClause 26 = .ok (.iconst 0, 1) := by decide +kernel
theorem dX12_readClause_27 : decode cX12_readClause 27 = .ok (.iaload, 1) := by decide +kernel
theorem dX12_readClause_28 : decode cX12_readClause 28 = .ok (.bipush 40, 2) := by decide +kernel
theorem dX12_readClause_30 : decode cX12_readClause 30 = .ok (.if_icmp .ne 8, 3) := by decide +kernel
theorem dX12_readClause_33 : decode cX12_readClause 33 = .ok (.aload_n 0, 1) := by decide +kernel
theorem dX12_readClause_34 : decode cX12_readClause 34 = .ok (.iconst 3, 1) := by decide +kernel
theorem dX12_readClause_35 : decode cX12_readClause 35 = .ok (.invokevirtual 284, 3) := by decide +kernel
theorem dX12_readClause_38 : decode cX12_readClause 38 = .ok (.aload_n 0, 1) := by decide +kernel
theorem dX12_readClause_39 : decode cX12_readClause 39 = .ok (.getfield 266, 3) := by decide +kernel
theorem dX12_readClause_42 : decode cX12_readClause 42 = .ok (.ifCond .eq 4, 3) := by decide +kernel
theorem dX12_readClause_45 : decode cX12_readClause 45 = .ok (.return_, 1) := by decide +kernel
theorem dX12_readClause_46 : decode cX12_readClause 46 = .ok (.iconst 1, 1) := by decide +kernel
theorem dX12_readClause_47 : decode cX12_readClause 47 = .ok (.iconst 4, 1) := by decide +kernel
theorem dX12_readClause_48 : decode cX12_readClause 48 = .ok (.aload_n 0, 1) := by decide +kernel
theorem dX12_readClause_49 : decode cX12_readClause 49 = .ok (.getfield 77, 3) := by decide +kernel
theorem dX12_readClause_52 : decode cX12_readClause 52 = .ok (.iconst 0, 1) := by decide +kernel
theorem dX12_readClause_53 : decode cX12_readClause 53 = .ok (.iaload, 1) := by decide +kernel
theorem dX12_readClause_54 : decode cX12_readClause 54 = .ok (.imul, 1) := by decide +kernel
theorem dX12_readClause_55 : decode cX12_readClause 55 = .ok (.iadd, 1) := by decide +kernel
theorem dX12_readClause_56 : decode cX12_readClause 56 = .ok (.istore_n 3, 1) := by decide +kernel
theorem dX12_readClause_57 : decode cX12_readClause 57 = .ok (.aload_n 0, 1) := by decide +kernel
theorem dX12_readClause_58 : decode cX12_readClause 58 = .ok (.getfield 80, 3) := by decide +kernel
theorem dX12_readClause_61 : decode cX12_readClause 61 = .ok (.aload_n 0, 1) := by decide +kernel
theorem dX12_readClause_62 : decode cX12_readClause 62 = .ok (.getfield 77, 3) := by decide +kernel
theorem dX12_readClause_65 : decode cX12_readClause 65 = .ok (.iconst 0, 1) := by decide +kernel
theorem dX12_readClause_66 : decode cX12_readClause 66 = .ok (.iaload, 1) := by decide +kernel
theorem dX12_readClause_67 : decode cX12_readClause 67 = .ok (.aload_n 0, 1) := by decide +kernel
theorem dX12_readClause_68 : decode cX12_readClause 68 = .ok (.getfield 246, 3) := by decide +kernel
theorem dX12_readClause_71 : decode cX12_readClause 71 = .ok (.iastore, 1) := by decide +kernel
theorem dX12_readClause_72 : decode cX12_readClause 72 = .ok (.aload_n 0, 1) := by decide +kernel
theorem dX12_readClause_73 : decode cX12_readClause 73 = .ok (.invokevirtual 290, 3) := by decide +kernel
theorem dX12_readClause_76 : decode cX12_readClause 76 = .ok (.aload_n 0, 1) := by decide +kernel
theorem dX12_readClause_77 : decode cX12_readClause 77 = .ok (.getfield 77, 3) := by decide +kernel
theorem dX12_readClause_80 : decode cX12_readClause 80 = .ok (.iload_n 3, 1) := by decide +kernel
theorem dX12_readClause_81 : decode cX12_readClause 81 = .ok (.iload_n 2, 1) := by decide +kernel
theorem dX12_readClause_82 : decode cX12_readClause 82 = .ok (.iastore, 1) := by decide +kernel
theorem dX12_readClause_83 : decode cX12_readClause 83 = .ok (.aload_n 0, 1) := by decide +kernel
theorem dX12_readClause_84 : decode cX12_readClause 84 = .ok (.getfield 77, 3) := by decide +kernel
theorem dX12_readClause_87 : decode cX12_readClause 87 = .ok (.iload_n 3, 1) := by decide +kernel
theorem dX12_readClause_88 : decode cX12_readClause 88 = .ok (.iconst 1, 1) := by decide +kernel
theorem dX12_readClause_89 : decode cX12_readClause 89 = .ok (.iadd, 1) := by decide +kernel
theorem dX12_readClause_90 : decode cX12_readClause 90 = .ok (.iload_n 2, 1) := by decide +kernel
theorem dX12_readClause_91 : decode cX12_readClause 91 = .ok (.iconst 3, 1) := by decide +kernel
theorem dX12_readClause_92 : decode cX12_readClause 92 = .ok (.if_icmp .gt 10, 3) := by decide +kernel
theorem dX12_readClause_95 : decode cX12_readClause 95 = .ok (.aload_n 0, 1) := by decide +kernel
theorem dX12_readClause_96 : decode cX12_readClause 96 = .ok (.invokevirtual 302, 3) := by decide +kernel
theorem dX12_readClause_99 : decode cX12_readClause 99 = .ok (.goto 48, 3) := by decide +kernel
theorem dX12_readClause_102 : decode cX12_readClause 102 = .ok (.iload_n 2, 1) := by decide +kernel
theorem dX12_readClause_103 : decode cX12_readClause 103 = .ok (.iconst 4, 1) := by decide +kernel
theorem dX12_readClause_104 : decode cX12_readClause 104 = .ok (.if_icmp .ne 12, 3) := by decide +kernel
theorem dX12_readClause_107 : decode cX12_readClause 107 = .ok (.aload_n 0, 1) := by decide +kernel
theorem dX12_readClause_108 : decode cX12_readClause 108 = .ok (.bipush 99, 2) := by decide +kernel
theorem dX12_readClause_110 : decode cX12_readClause 110 = .ok (.invokevirtual 296, 3) := by decide +kernel
theorem dX12_readClause_113 : decode cX12_readClause 113 = .ok (.goto 34, 3) := by decide +kernel
theorem dX12_readClause_116 : decode cX12_readClause 116 = .ok (.iload_n 2, 1) := by decide +kernel
theorem dX12_readClause_117 : decode cX12_readClause 117 = .ok (.bipush 7, 2) := by decide +kernel
theorem dX12_readClause_119 : decode cX12_readClause 119 = .ok (.if_icmp .ne 13, 3) := by decide +kernel
theorem dX12_readClause_122 : decode cX12_readClause 122 = .ok (.aload_n 0, 1) := by decide +kernel
theorem dX12_readClause_123 : decode cX12_readClause 123 = .ok (.sipush 999, 3) := by decide +kernel
theorem dX12_readClause_126 : decode cX12_readClause 126 = .ok (.invokevirtual 296, 3) := by decide +kernel
theorem dX12_readClause_129 : decode cX12_readClause 129 = .ok (.goto 18, 3) := by decide +kernel
theorem dX12_readClause_132 : decode cX12_readClause 132 = .ok (.iload_n 2, 1) := by decide +kernel
theorem dX12_readClause_133 : decode cX12_readClause 133 = .ok (.bipush 8, 2) := by decide +kernel
theorem dX12_readClause_135 : decode cX12_readClause 135 = .ok (.if_icmp .ne 11, 3) := by decide +kernel
theorem dX12_readClause_138 : decode cX12_readClause 138 = .ok (.aload_n 0, 1) := by decide +kernel
theorem dX12_readClause_139 : decode cX12_readClause 139 = .ok (.iload_n 1, 1) := by decide +kernel
theorem dX12_readClause_140 : decode cX12_readClause 140 = .ok (.invokevirtual 305, 3) := by decide +kernel
theorem dX12_readClause_143 : decode cX12_readClause 143 = .ok (.goto 4, 3) := by decide +kernel
theorem dX12_readClause_146 : decode cX12_readClause 146 = .ok (.iconst 0, 1) := by decide +kernel
theorem dX12_readClause_147 : decode cX12_readClause 147 = .ok (.iastore, 1) := by decide +kernel
theorem dX12_readClause_148 : decode cX12_readClause 148 = .ok (.aload_n 0, 1) := by decide +kernel
theorem dX12_readClause_149 : decode cX12_readClause 149 = .ok (.getfield 77, 3) := by decide +kernel
theorem dX12_readClause_152 : decode cX12_readClause 152 = .ok (.iload_n 3, 1) := by decide +kernel
theorem dX12_readClause_153 : decode cX12_readClause 153 = .ok (.iconst 2, 1) := by decide +kernel
theorem dX12_readClause_154 : decode cX12_readClause 154 = .ok (.iadd, 1) := by decide +kernel
theorem dX12_readClause_155 : decode cX12_readClause 155 = .ok (.iload_n 2, 1) := by decide +kernel
theorem dX12_readClause_156 : decode cX12_readClause 156 = .ok (.iconst 2, 1) := by decide +kernel
theorem dX12_readClause_157 : decode cX12_readClause 157 = .ok (.if_icmp .le 8, 3) := by decide +kernel
theorem dX12_readClause_160 : decode cX12_readClause 160 = .ok (.iload_n 2, 1) := by decide +kernel
theorem dX12_readClause_161 : decode cX12_readClause 161 = .ok (.iconst 4, 1) := by decide +kernel
theorem dX12_readClause_162 : decode cX12_readClause 162 = .ok (.if_icmp .ne 12, 3) := by decide +kernel
theorem dX12_readClause_165 : decode cX12_readClause 165 = .ok (.aload_n 0, 1) := by decide +kernel
theorem dX12_readClause_166 : decode cX12_readClause 166 = .ok (.bipush 99, 2) := by decide +kernel
theorem dX12_readClause_168 : decode cX12_readClause 168 = .ok (.invokevirtual 296, 3) := by decide +kernel
theorem dX12_readClause_171 : decode cX12_readClause 171 = .ok (.goto 4, 3) := by decide +kernel
theorem dX12_readClause_174 : decode cX12_readClause 174 = .ok (.iconst 0, 1) := by decide +kernel
theorem dX12_readClause_175 : decode cX12_readClause 175 = .ok (.iastore, 1) := by decide +kernel
theorem dX12_readClause_176 : decode cX12_readClause 176 = .ok (.aload_n 0, 1) := by decide +kernel
theorem dX12_readClause_177 : decode cX12_readClause 177 = .ok (.getfield 77, 3) := by decide +kernel
theorem dX12_readClause_180 : decode cX12_readClause 180 = .ok (.iload_n 3, 1) := by decide +kernel
theorem dX12_readClause_181 : decode cX12_readClause 181 = .ok (.iconst 3, 1) := by decide +kernel
theorem dX12_readClause_182 : decode cX12_readClause 182 = .ok (.iadd, 1) := by decide +kernel
theorem dX12_readClause_183 : decode cX12_readClause 183 = .ok (.iconst 0, 1) := by decide +kernel
theorem dX12_readClause_184 : decode cX12_readClause 184 = .ok (.iastore, 1) := by decide +kernel
theorem dX12_readClause_185 : decode cX12_readClause 185 = .ok (.aload_n 0, 1) := by decide +kernel
theorem dX12_readClause_186 : decode cX12_readClause 186 = .ok (.bipush 59, 2) := by decide +kernel
theorem dX12_readClause_188 : decode cX12_readClause 188 = .ok (.invokevirtual 293, 3) := by decide +kernel
theorem dX12_readClause_191 : decode cX12_readClause 191 = .ok (.ifCond .ne 8, 3) := by decide +kernel
theorem dX12_readClause_194 : decode cX12_readClause 194 = .ok (.aload_n 0, 1) := by decide +kernel
theorem dX12_readClause_195 : decode cX12_readClause 195 = .ok (.iconst 1, 1) := by decide +kernel
theorem dX12_readClause_196 : decode cX12_readClause 196 = .ok (.invokevirtual 284, 3) := by decide +kernel
theorem dX12_readClause_199 : decode cX12_readClause 199 = .ok (.aload_n 0, 1) := by decide +kernel
theorem dX12_readClause_200 : decode cX12_readClause 200 = .ok (.getfield 266, 3) := by decide +kernel
theorem dX12_readClause_203 : decode cX12_readClause 203 = .ok (.ifCond .ne 7, 3) := by decide +kernel
theorem dX12_readClause_206 : decode cX12_readClause 206 = .ok (.aload_n 0, 1) := by decide +kernel
theorem dX12_readClause_207 : decode cX12_readClause 207 = .ok (.invokevirtual 290, 3) := by decide +kernel
theorem dX12_readClause_210 : decode cX12_readClause 210 = .ok (.aload_n 0, 1) := by decide +kernel
theorem dX12_readClause_211 : decode cX12_readClause 211 = .ok (.getfield 77, 3) := by decide +kernel
theorem dX12_readClause_214 : decode cX12_readClause 214 = .ok (.iconst 0, 1) := by decide +kernel
theorem dX12_readClause_215 : decode cX12_readClause 215 = .ok (.dup2, 1) := by decide +kernel
theorem dX12_readClause_216 : decode cX12_readClause 216 = .ok (.iaload, 1) := by decide +kernel
theorem dX12_readClause_217 : decode cX12_readClause 217 = .ok (.iconst 1, 1) := by decide +kernel
theorem dX12_readClause_218 : decode cX12_readClause 218 = .ok (.iadd, 1) := by decide +kernel
theorem dX12_readClause_219 : decode cX12_readClause 219 = .ok (.iastore, 1) := by decide +kernel
theorem dX12_readClause_220 : decode cX12_readClause 220 = .ok (.return_, 1) := by decide +kernel
theorem dX12_isCost_0 : decode cX12_isCost 0 = .ok (.iload_n 1, 1) := by decide +kernel
theorem dX12_isCost_1 : decode cX12_isCost 1 = .ok (.i2l, 1) := by decide +kernel
theorem dX12_isCost_2 : decode cX12_isCost 2 = .ok (.lconst 0, 1) := by decide +kernel
theorem dX12_isCost_3 : decode cX12_isCost 3 = .ok (.ldc2_w 308, 3) := by decide +kernel
theorem dX12_isCost_6 : decode cX12_isCost 6 = .ok (.invokestatic 166, 3) := by decide +kernel
theorem dX12_isCost_9 : decode cX12_isCost 9 = .ok (.ireturn, 1) := by decide +kernel
theorem dX12_text_0 : decode cX12_text 0 = .ok (.aload_n 0, 1) := by decide +kernel
theorem dX12_text_1 : decode cX12_text 1 = .ok (.iconst 0, 1) := by decide +kernel
theorem dX12_text_2 : decode cX12_text 2 = .ok (.putfield 132, 3) := by decide +kernel
theorem dX12_text_5 : decode cX12_text 5 = .ok (.aload_n 0, 1) := by decide +kernel
theorem dX12_text_6 : decode cX12_text 6 = .ok (.iload_n 1, 1) := by decide +kernel
theorem dX12_text_7 : decode cX12_text 7 = .ok (.invokevirtual 310, 3) := by decide +kernel
theorem dX12_text_10 : decode cX12_text 10 = .ok (.ifCond .ne 9, 3) := by decide +kernel
theorem dX12_text_13 : decode cX12_text 13 = .ok (.aload_n 0, 1) := by decide +kernel
theorem dX12_text_14 : decode cX12_text 14 = .ok (.iconst 1, 1) := by decide +kernel
theorem dX12_text_15 : decode cX12_text 15 = .ok (.invokevirtual 313, 3) := by decide +kernel
theorem dX12_text_18 : decode cX12_text 18 = .ok (.ireturn, 1) := by decide +kernel
theorem dX12_text_19 : decode cX12_text 19 = .ok (.iload_n 2, 1) := by decide +kernel
theorem dX12_text_20 : decode cX12_text 20 = .ok (.ifCond .lt 11, 3) := by decide +kernel
theorem dX12_text_23 : decode cX12_text 23 = .ok (.iload_n 2, 1) := by decide +kernel
theorem dX12_text_24 : decode cX12_text 24 = .ok (.aload_n 0, 1) := by decide +kernel
theorem dX12_text_25 : decode cX12_text 25 = .ok (.getfield 233, 3) := by decide +kernel
theorem dX12_text_28 : decode cX12_text 28 = .ok (.if_icmp .le 9, 3) := by decide +kernel
theorem dX12_text_31 : decode cX12_text 31 = .ok (.aload_n 0, 1) := by decide +kernel
theorem dX12_text_32 : decode cX12_text 32 = .ok (.iconst 2, 1) := by decide +kernel
theorem dX12_text_33 : decode cX12_text 33 = .ok (.invokevirtual 313, 3) := by decide +kernel
theorem dX12_text_36 : decode cX12_text 36 = .ok (.ireturn, 1) := by decide +kernel
theorem dX12_text_37 : decode cX12_text 37 = .ok (.aload_n 0, 1) := by decide +kernel
theorem dX12_text_38 : decode cX12_text 38 = .ok (.iconst 0, 1) := by decide +kernel
theorem dX12_text_39 : decode cX12_text 39 = .ok (.putfield 233, 3) := by decide +kernel
theorem dX12_text_42 : decode cX12_text 42 = .ok (.aload_n 0, 1) := by decide +kernel
theorem dX12_text_43 : decode cX12_text 43 = .ok (.iload_n 2, 1) := by decide +kernel
theorem dX12_text_44 : decode cX12_text 44 = .ok (.putfield 236, 3) := by decide +kernel
theorem dX12_text_47 : decode cX12_text 47 = .ok (.aload_n 0, 1) := by decide +kernel
theorem dX12_text_48 : decode cX12_text 48 = .ok (.iconst 0, 1) := by decide +kernel
theorem dX12_text_49 : decode cX12_text 49 = .ok (.putfield 239, 3) := by decide +kernel
theorem dX12_text_52 : decode cX12_text 52 = .ok (.aload_n 0, 1) := by decide +kernel
theorem dX12_text_53 : decode cX12_text 53 = .ok (.iconst 0, 1) := by decide +kernel
theorem dX12_text_54 : decode cX12_text 54 = .ok (.putfield 266, 3) := by decide +kernel
theorem dX12_text_57 : decode cX12_text 57 = .ok (.aload_n 0, 1) := by decide +kernel
theorem dX12_text_58 : decode cX12_text 58 = .ok (.iconst (-1), 1) := by decide +kernel
theorem dX12_text_59 : decode cX12_text 59 = .ok (.putfield 83, 3) := by decide +kernel
theorem dX12_text_62 : decode cX12_text 62 = .ok (.aload_n 0, 1) := by decide +kernel
theorem dX12_text_63 : decode cX12_text 63 = .ok (.getfield 77, 3) := by decide +kernel
theorem dX12_text_66 : decode cX12_text 66 = .ok (.iconst 0, 1) := by decide +kernel
theorem dX12_text_67 : decode cX12_text 67 = .ok (.iconst 0, 1) := by decide +kernel
theorem dX12_text_68 : decode cX12_text 68 = .ok (.iastore, 1) := by decide +kernel
theorem dX12_text_69 : decode cX12_text 69 = .ok (.aload_n 0, 1) := by decide +kernel
theorem dX12_text_70 : decode cX12_text 70 = .ok (.invokevirtual 290, 3) := by decide +kernel
theorem dX12_text_73 : decode cX12_text 73 = .ok (.aload_n 0, 1) := by decide +kernel
theorem dX12_text_74 : decode cX12_text 74 = .ok (.getfield 266, 3) := by decide +kernel
theorem dX12_text_77 : decode cX12_text 77 = .ok (.ifCond .ne 18, 3) := by decide +kernel
theorem dX12_text_80 : decode cX12_text 80 = .ok (.aload_n 0, 1) := by decide +kernel
theorem dX12_text_81 : decode cX12_text 81 = .ok (.getfield 249, 3) := by decide +kernel
theorem dX12_text_84 : decode cX12_text 84 = .ok (.ifCond .eq 11, 3) := by decide +kernel
theorem dX12_text_87 : decode cX12_text 87 = .ok (.aload_n 0, 1) := by decide +kernel
theorem dX12_text_88 : decode cX12_text 88 = .ok (.iload_n 1, 1) := by decide +kernel
theorem dX12_text_89 : decode cX12_text 89 = .ok (.invokevirtual 316, 3) := by decide +kernel
theorem dX12_text_92 : decode cX12_text 92 = .ok (.goto (-19), 3) := by decide +kernel
theorem dX12_text_95 : decode cX12_text 95 = .ok (.aload_n 0, 1) := by decide +kernel
theorem dX12_text_96 : decode cX12_text 96 = .ok (.getfield 266, 3) := by decide +kernel
theorem dX12_text_99 : decode cX12_text 99 = .ok (.ifCond .ne 11, 3) := by decide +kernel
theorem dX12_text_102 : decode cX12_text 102 = .ok (.aload_n 0, 1) := by decide +kernel
theorem dX12_text_103 : decode cX12_text 103 = .ok (.aload_n 0, 1) := by decide +kernel
theorem dX12_text_104 : decode cX12_text 104 = .ok (.getfield 77, 3) := by decide +kernel
theorem dX12_text_107 : decode cX12_text 107 = .ok (.invokevirtual 319, 3) := by decide +kernel
theorem dX12_text_110 : decode cX12_text 110 = .ok (.aload_n 0, 1) := by decide +kernel
theorem dX12_text_111 : decode cX12_text 111 = .ok (.getfield 266, 3) := by decide +kernel
theorem dX12_text_114 : decode cX12_text 114 = .ok (.ifCond .ne 33, 3) := by decide +kernel
theorem dX12_text_117 : decode cX12_text 117 = .ok (.aload_n 0, 1) := by decide +kernel
theorem dX12_text_118 : decode cX12_text 118 = .ok (.aload_n 0, 1) := by decide +kernel
theorem dX12_text_119 : decode cX12_text 119 = .ok (.getfield 77, 3) := by decide +kernel
theorem dX12_text_122 : decode cX12_text 122 = .ok (.iconst 0, 1) := by decide +kernel
theorem dX12_text_123 : decode cX12_text 123 = .ok (.invokevirtual 223, 3) := by decide +kernel
theorem dX12_text_126 : decode cX12_text 126 = .ok (.ifCond .ne 21, 3) := by decide +kernel
theorem dX12_text_129 : decode cX12_text 129 = .ok (.aload_n 0, 1) := by decide +kernel
theorem dX12_text_130 : decode cX12_text 130 = .ok (.iconst 4, 1) := by decide +kernel
theorem dX12_text_131 : decode cX12_text 131 = .ok (.putfield 266, 3) := by decide +kernel
theorem dX12_text_134 : decode cX12_text 134 = .ok (.aload_n 0, 1) := by decide +kernel
theorem dX12_text_135 : decode cX12_text 135 = .ok (.aload_n 0, 1) := by decide +kernel
theorem dX12_text_136 : decode cX12_text 136 = .ok (.getfield 80, 3) := by decide +kernel
theorem dX12_text_139 : decode cX12_text 139 = .ok (.aload_n 0, 1) := by decide +kernel
theorem dX12_text_140 : decode cX12_text 140 = .ok (.getfield 213, 3) := by decide +kernel
theorem dX12_text_143 : decode cX12_text 143 = .ok (.iaload, 1) := by decide +kernel
theorem dX12_text_144 : decode cX12_text 144 = .ok (.putfield 269, 3) := by decide +kernel
theorem dX12_text_147 : decode cX12_text 147 = .ok (.aload_n 0, 1) := by decide +kernel
theorem dX12_text_148 : decode cX12_text 148 = .ok (.getfield 266, 3) := by decide +kernel
theorem dX12_text_151 : decode cX12_text 151 = .ok (.ifCond .eq 26, 3) := by decide +kernel
theorem dX12_text_154 : decode cX12_text 154 = .ok (.aload_n 0, 1) := by decide +kernel
theorem dX12_text_155 : decode cX12_text 155 = .ok (.aload_n 0, 1) := by decide +kernel
theorem dX12_text_156 : decode cX12_text 156 = .ok (.getfield 269, 3) := by decide +kernel
theorem dX12_text_159 : decode cX12_text 159 = .ok (.putfield 83, 3) := by decide +kernel
theorem dX12_text_162 : decode cX12_text 162 = .ok (.aload_n 0, 1) := by decide +kernel
theorem dX12_text_163 : decode cX12_text 163 = .ok (.getfield 37, 3) := by decide +kernel
theorem dX12_text_166 : decode cX12_text 166 = .ok (.iconst 0, 1) := by decide +kernel
theorem dX12_text_167 : decode cX12_text 167 = .ok (.dup2, 1) := by decide +kernel
theorem dX12_text_168 : decode cX12_text 168 = .ok (.iaload, 1) := by decide +kernel
theorem dX12_text_169 : decode cX12_text 169 = .ok (.iconst 1, 1) := by decide +kernel
theorem dX12_text_170 : decode cX12_text 170 = .ok (.iadd, 1) := by decide +kernel
theorem dX12_text_171 : decode cX12_text 171 = .ok (.iastore, 1) := by decide +kernel
theorem dX12_text_172 : decode cX12_text 172 = .ok (.aload_n 0, 1) := by decide +kernel
theorem dX12_text_173 : decode cX12_text 173 = .ok (.getfield 266, 3) := by decide +kernel
theorem dX12_text_176 : decode cX12_text 176 = .ok (.ireturn, 1) := by decide +kernel
theorem dX12_text_177 : decode cX12_text 177 = .ok (.aload_n 0, 1) := by decide +kernel
theorem dX12_text_178 : decode cX12_text 178 = .ok (.invokevirtual 322, 3) := by decide +kernel
theorem dX12_text_181 : decode cX12_text 181 = .ok (.iconst 0, 1) := by decide +kernel
theorem dX12_text_182 : decode cX12_text 182 = .ok (.istore_n 3, 1) := by decide +kernel
theorem dX12_text_183 : decode cX12_text 183 = .ok (.iload_n 3, 1) := by decide +kernel
theorem dX12_text_184 : decode cX12_text 184 = .ok (.sipush 161, 3) := by decide +kernel
theorem dX12_text_187 : decode cX12_text 187 = .ok (.if_icmp .ge 27, 3) := by decide +kernel
theorem dX12_text_190 : decode cX12_text 190 = .ok (.aload_n 0, 1) := by decide +kernel
theorem dX12_text_191 : decode cX12_text 191 = .ok (.getfield 33, 3) := by decide +kernel
theorem dX12_text_194 : decode cX12_text 194 = .ok (.sipush 161, 3) := by decide +kernel
theorem dX12_text_197 : decode cX12_text 197 = .ok (.iload_n 1, 1) := by decide +kernel
theorem dX12_text_198 : decode cX12_text 198 = .ok (.imul, 1) := by decide +kernel
theorem dX12_text_199 : decode cX12_text 199 = .ok (.iload_n 3, 1) := by decide +kernel
theorem dX12_text_200 : decode cX12_text 200 = .ok (.iadd, 1) := by decide +kernel
theorem dX12_text_201 : decode cX12_text 201 = .ok (.aload_n 0, 1) := by decide +kernel
theorem dX12_text_202 : decode cX12_text 202 = .ok (.getfield 77, 3) := by decide +kernel
theorem dX12_text_205 : decode cX12_text 205 = .ok (.iload_n 3, 1) := by decide +kernel
theorem dX12_text_206 : decode cX12_text 206 = .ok (.iaload, 1) := by decide +kernel
theorem dX12_text_207 : decode cX12_text 207 = .ok (.iastore, 1) := by decide +kernel
theorem dX12_text_208 : decode cX12_text 208 = .ok (.iinc 3 1, 3) := by decide +kernel
theorem dX12_text_211 : decode cX12_text 211 = .ok (.goto (-28), 3) := by decide +kernel
theorem dX12_text_214 : decode cX12_text 214 = .ok (.iconst 0, 1) := by decide +kernel
theorem dX12_text_215 : decode cX12_text 215 = .ok (.ireturn, 1) := by decide +kernel
theorem dX12_laysOnTop_0 : decode cX12_laysOnTop 0 = .ok (.aload_n 0, 1) := by decide +kernel
theorem dX12_laysOnTop_1 : decode cX12_laysOnTop 1 = .ok (.invokevirtual 325, 3) := by decide +kernel
theorem dX12_laysOnTop_4 : decode cX12_laysOnTop 4 = .ok (.iconst 0, 1) := by decide +kernel
theorem dX12_laysOnTop_5 : decode cX12_laysOnTop 5 = .ok (.istore_n 2, 1) := by decide +kernel
theorem dX12_laysOnTop_6 : decode cX12_laysOnTop 6 = .ok (.iload_n 2, 1) := by decide +kernel
theorem dX12_laysOnTop_7 : decode cX12_laysOnTop 7 = .ok (.aload_n 1, 1) := by decide +kernel
theorem dX12_laysOnTop_8 : decode cX12_laysOnTop 8 = .ok (.iconst 0, 1) := by decide +kernel
theorem dX12_laysOnTop_9 : decode cX12_laysOnTop 9 = .ok (.iaload, 1) := by decide +kernel
theorem dX12_laysOnTop_10 : decode cX12_laysOnTop 10 = .ok (.if_icmp .ge 39, 3) := by decide +kernel
theorem dX12_laysOnTop_13 : decode cX12_laysOnTop 13 = .ok (.aload_n 1, 1) := by decide +kernel
theorem dX12_laysOnTop_14 : decode cX12_laysOnTop 14 = .ok (.iconst 1, 1) := by decide +kernel
theorem dX12_laysOnTop_15 : decode cX12_laysOnTop 15 = .ok (.iconst 4, 1) := by decide +kernel
theorem dX12_laysOnTop_16 : decode cX12_laysOnTop 16 = .ok (.iload_n 2, 1) := by decide +kernel
theorem dX12_laysOnTop_17 : decode cX12_laysOnTop 17 = .ok (.imul, 1) := by decide +kernel
theorem dX12_laysOnTop_18 : decode cX12_laysOnTop 18 = .ok (.iadd, 1) := by decide +kernel
theorem dX12_laysOnTop_19 : decode cX12_laysOnTop 19 = .ok (.iaload, 1) := by decide +kernel
theorem dX12_laysOnTop_20 : decode cX12_laysOnTop 20 = .ok (.bipush 8, 2) := by decide +kernel
theorem dX12_laysOnTop_22 : decode cX12_laysOnTop 22 = .ok (.if_icmp .ne 21, 3) := by decide +kernel
theorem dX12_laysOnTop_25 : decode cX12_laysOnTop 25 = .ok (.aload_n 1, 1) := by decide +kernel
theorem dX12_laysOnTop_26 : decode cX12_laysOnTop 26 = .ok (.iconst 4, 1) := by decide +kernel
theorem dX12_laysOnTop_27 : decode cX12_laysOnTop 27 = .ok (.iconst 4, 1) := by decide +kernel
theorem dX12_laysOnTop_28 : decode cX12_laysOnTop 28 = .ok (.iload_n 2, 1) := by decide +kernel
theorem dX12_laysOnTop_29 : decode cX12_laysOnTop 29 = .ok (.imul, 1) := by decide +kernel
theorem dX12_laysOnTop_30 : decode cX12_laysOnTop 30 = .ok (.iadd, 1) := by decide +kernel
theorem dX12_laysOnTop_31 : decode cX12_laysOnTop 31 = .ok (.aload_n 0, 1) := by decide +kernel
theorem dX12_laysOnTop_32 : decode cX12_laysOnTop 32 = .ok (.aload_n 1, 1) := by decide +kernel
theorem dX12_laysOnTop_33 : decode cX12_laysOnTop 33 = .ok (.iconst 2, 1) := by decide +kernel
theorem dX12_laysOnTop_34 : decode cX12_laysOnTop 34 = .ok (.iconst 4, 1) := by decide +kernel
theorem dX12_laysOnTop_35 : decode cX12_laysOnTop 35 = .ok (.iload_n 2, 1) := by decide +kernel
theorem dX12_laysOnTop_36 : decode cX12_laysOnTop 36 = .ok (.imul, 1) := by decide +kernel
theorem dX12_laysOnTop_37 : decode cX12_laysOnTop 37 = .ok (.iadd, 1) := by decide +kernel
theorem dX12_laysOnTop_38 : decode cX12_laysOnTop 38 = .ok (.iaload, 1) := by decide +kernel
theorem dX12_laysOnTop_39 : decode cX12_laysOnTop 39 = .ok (.invokevirtual 328, 3) := by decide +kernel
theorem dX12_laysOnTop_42 : decode cX12_laysOnTop 42 = .ok (.iastore, 1) := by decide +kernel
theorem dX12_laysOnTop_43 : decode cX12_laysOnTop 43 = .ok (.iinc 2 1, 3) := by decide +kernel
theorem dX12_laysOnTop_46 : decode cX12_laysOnTop 46 = .ok (.goto (-40), 3) := by decide +kernel
theorem dX12_laysOnTop_49 : decode cX12_laysOnTop 49 = .ok (.return_, 1) := by decide +kernel
theorem dX12_fault_0 : decode cX12_fault 0 = .ok (.aload_n 0, 1) := by decide +kernel
theorem dX12_fault_1 : decode cX12_fault 1 = .ok (.iconst 0, 1) := by decide +kernel
theorem dX12_fault_2 : decode cX12_fault 2 = .ok (.putfield 132, 3) := by decide +kernel
theorem dX12_fault_5 : decode cX12_fault 5 = .ok (.aload_n 0, 1) := by decide +kernel
theorem dX12_fault_6 : decode cX12_fault 6 = .ok (.getfield 83, 3) := by decide +kernel
theorem dX12_fault_9 : decode cX12_fault 9 = .ok (.ireturn, 1) := by decide +kernel
theorem dX12_count_0 : decode cX12_count 0 = .ok (.aload_n 0, 1) := by decide +kernel
theorem dX12_count_1 : decode cX12_count 1 = .ok (.iconst 0, 1) := by decide +kernel
theorem dX12_count_2 : decode cX12_count 2 = .ok (.putfield 132, 3) := by decide +kernel
theorem dX12_count_5 : decode cX12_count 5 = .ok (.iload_n 1, 1) := by decide +kernel
theorem dX12_count_6 : decode cX12_count 6 = .ok (.tableswitch 90 0 9 #[54, 54, 54, 54, 65, 70, 75, 80, 80, 80], 54) := by decide +kernel
theorem dX12_count_60 : decode cX12_count 60 = .ok (.aload_n 0, 1) := by decide +kernel
theorem dX12_count_61 : decode cX12_count 61 = .ok (.getfield 33, 3) := by decide +kernel
theorem dX12_count_64 : decode cX12_count 64 = .ok (.sipush 161, 3) := by decide +kernel
theorem dX12_count_67 : decode cX12_count 67 = .ok (.iload_n 1, 1) := by decide +kernel
theorem dX12_count_68 : decode cX12_count 68 = .ok (.imul, 1) := by decide +kernel
theorem dX12_count_69 : decode cX12_count 69 = .ok (.iaload, 1) := by decide +kernel
theorem dX12_count_70 : decode cX12_count 70 = .ok (.ireturn, 1) := by decide +kernel
theorem dX12_count_71 : decode cX12_count 71 = .ok (.aload_n 0, 1) := by decide +kernel
theorem dX12_count_72 : decode cX12_count 72 = .ok (.getfield 331, 3) := by decide +kernel
theorem dX12_count_75 : decode cX12_count 75 = .ok (.ireturn, 1) := by decide +kernel
theorem dX12_count_76 : decode cX12_count 76 = .ok (.aload_n 0, 1) := by decide +kernel
theorem dX12_count_77 : decode cX12_count 77 = .ok (.getfield 334, 3) := by decide +kernel
theorem dX12_count_80 : decode cX12_count 80 = .ok (.ireturn, 1) := by decide +kernel
theorem dX12_count_81 : decode cX12_count 81 = .ok (.aload_n 0, 1) := by decide +kernel
theorem dX12_count_82 : decode cX12_count 82 = .ok (.getfield 233, 3) := by decide +kernel
theorem dX12_count_85 : decode cX12_count 85 = .ok (.ireturn, 1) := by decide +kernel
theorem dX12_count_86 : decode cX12_count 86 = .ok (.aload_n 0, 1) := by decide +kernel
theorem dX12_count_87 : decode cX12_count 87 = .ok (.getfield 37, 3) := by decide +kernel
theorem dX12_count_90 : decode cX12_count 90 = .ok (.iload_n 1, 1) := by decide +kernel
theorem dX12_count_91 : decode cX12_count 91 = .ok (.bipush 7, 2) := by decide +kernel
theorem dX12_count_93 : decode cX12_count 93 = .ok (.isub, 1) := by decide +kernel
theorem dX12_count_94 : decode cX12_count 94 = .ok (.iaload, 1) := by decide +kernel
theorem dX12_count_95 : decode cX12_count 95 = .ok (.ireturn, 1) := by decide +kernel
theorem dX12_count_96 : decode cX12_count 96 = .ok (.aload_n 0, 1) := by decide +kernel
theorem dX12_count_97 : decode cX12_count 97 = .ok (.iconst 1, 1) := by decide +kernel
theorem dX12_count_98 : decode cX12_count 98 = .ok (.invokevirtual 313, 3) := by decide +kernel
theorem dX12_count_101 : decode cX12_count 101 = .ok (.ireturn, 1) := by decide +kernel
theorem dX12_steps_0 : decode cX12_steps 0 = .ok (.aload_n 0, 1) := by decide +kernel
theorem dX12_steps_1 : decode cX12_steps 1 = .ok (.getfield 33, 3) := by decide +kernel
theorem dX12_steps_4 : decode cX12_steps 4 = .ok (.sipush 161, 3) := by decide +kernel
theorem dX12_steps_7 : decode cX12_steps 7 = .ok (.iload_n 1, 1) := by decide +kernel
theorem dX12_steps_8 : decode cX12_steps 8 = .ok (.imul, 1) := by decide +kernel
theorem dX12_steps_9 : decode cX12_steps 9 = .ok (.iaload, 1) := by decide +kernel
theorem dX12_steps_10 : decode cX12_steps 10 = .ok (.ireturn, 1) := by decide +kernel
theorem dX12_isStep_0 : decode cX12_isStep 0 = .ok (.aload_n 0, 1) := by decide +kernel
theorem dX12_isStep_1 : decode cX12_isStep 1 = .ok (.iload_n 1, 1) := by decide +kernel
theorem dX12_isStep_2 : decode cX12_isStep 2 = .ok (.invokevirtual 310, 3) := by decide +kernel
theorem dX12_isStep_5 : decode cX12_isStep 5 = .ok (.ifCond .eq 24, 3) := by decide +kernel
theorem dX12_isStep_8 : decode cX12_isStep 8 = .ok (.iload_n 2, 1) := by decide +kernel
theorem dX12_isStep_9 : decode cX12_isStep 9 = .ok (.i2l, 1) := by decide +kernel
theorem dX12_isStep_10 : decode cX12_isStep 10 = .ok (.lconst 0, 1) := by decide +kernel
theorem dX12_isStep_11 : decode cX12_isStep 11 = .ok (.aload_n 0, 1) := by decide +kernel
theorem dX12_isStep_12 : decode cX12_isStep 12 = .ok (.iload_n 1, 1) := by decide +kernel
theorem dX12_isStep_13 : decode cX12_isStep 13 = .ok (.invokevirtual 337, 3) := by decide +kernel
theorem dX12_isStep_16 : decode cX12_isStep 16 = .ok (.iconst 1, 1) := by decide +kernel
theorem dX12_isStep_17 : decode cX12_isStep 17 = .ok (.isub, 1) := by decide +kernel
theorem dX12_isStep_18 : decode cX12_isStep 18 = .ok (.i2l, 1) := by decide +kernel
theorem dX12_isStep_19 : decode cX12_isStep 19 = .ok (.invokestatic 166, 3) := by decide +kernel
theorem dX12_isStep_22 : decode cX12_isStep 22 = .ok (.ifCond .eq 7, 3) := by decide +kernel
theorem dX12_isStep_25 : decode cX12_isStep 25 = .ok (.iconst 1, 1) := by decide +kernel
theorem dX12_isStep_26 : decode cX12_isStep 26 = .ok (.goto 4, 3) := by decide +kernel
theorem dX12_isStep_29 : decode cX12_isStep 29 = .ok (.iconst 0, 1) := by decide +kernel
theorem dX12_isStep_30 : decode cX12_isStep 30 = .ok (.ireturn, 1) := by decide +kernel
theorem dX12_stepAt_0 : decode cX12_stepAt 0 = .ok (.aload_n 0, 1) := by decide +kernel
theorem dX12_stepAt_1 : decode cX12_stepAt 1 = .ok (.getfield 33, 3) := by decide +kernel
theorem dX12_stepAt_4 : decode cX12_stepAt 4 = .ok (.sipush 161, 3) := by decide +kernel
theorem dX12_stepAt_7 : decode cX12_stepAt 7 = .ok (.iload_n 1, 1) := by decide +kernel
theorem dX12_stepAt_8 : decode cX12_stepAt 8 = .ok (.imul, 1) := by decide +kernel
theorem dX12_stepAt_9 : decode cX12_stepAt 9 = .ok (.iconst 1, 1) := by decide +kernel
theorem dX12_stepAt_10 : decode cX12_stepAt 10 = .ok (.iadd, 1) := by decide +kernel
theorem dX12_stepAt_11 : decode cX12_stepAt 11 = .ok (.iconst 4, 1) := by decide +kernel
theorem dX12_stepAt_12 : decode cX12_stepAt 12 = .ok (.iload_n 2, 1) := by decide +kernel
theorem dX12_stepAt_13 : decode cX12_stepAt 13 = .ok (.imul, 1) := by decide +kernel
theorem dX12_stepAt_14 : decode cX12_stepAt 14 = .ok (.iadd, 1) := by decide +kernel
theorem dX12_stepAt_15 : decode cX12_stepAt 15 = .ok (.iload_n 3, 1) := by decide +kernel
theorem dX12_stepAt_16 : decode cX12_stepAt 16 = .ok (.iadd, 1) := by decide +kernel
theorem dX12_stepAt_17 : decode cX12_stepAt 17 = .ok (.iaload, 1) := by decide +kernel
theorem dX12_stepAt_18 : decode cX12_stepAt 18 = .ok (.ireturn, 1) := by decide +kernel
theorem dX12_step_0 : decode cX12_step 0 = .ok (.aload_n 0, 1) := by decide +kernel
theorem dX12_step_1 : decode cX12_step 1 = .ok (.iconst 0, 1) := by decide +kernel
theorem dX12_step_2 : decode cX12_step 2 = .ok (.putfield 132, 3) := by decide +kernel
theorem dX12_step_5 : decode cX12_step 5 = .ok (.aload_n 0, 1) := by decide +kernel
theorem dX12_step_6 : decode cX12_step 6 = .ok (.iload_n 1, 1) := by decide +kernel
theorem dX12_step_7 : decode cX12_step 7 = .ok (.iload_n 2, 1) := by decide +kernel
theorem dX12_step_8 : decode cX12_step 8 = .ok (.invokevirtual 340, 3) := by decide +kernel
theorem dX12_step_11 : decode cX12_step 11 = .ok (.ifCond .eq 25, 3) := by decide +kernel
theorem dX12_step_14 : decode cX12_step 14 = .ok (.iload_n 3, 1) := by decide +kernel
theorem dX12_step_15 : decode cX12_step 15 = .ok (.i2l, 1) := by decide +kernel
theorem dX12_step_16 : decode cX12_step 16 = .ok (.lconst 0, 1) := by decide +kernel
theorem dX12_step_17 : decode cX12_step 17 = .ok (.ldc2_w 344, 3) := by decide +kernel
theorem dX12_step_20 : decode cX12_step 20 = .ok (.invokestatic 166, 3) := by decide +kernel
theorem dX12_step_23 : decode cX12_step 23 = .ok (.ifCond .eq 13, 3) := by decide +kernel
theorem dX12_step_26 : decode cX12_step 26 = .ok (.aload_n 0, 1) := by decide +kernel
theorem dX12_step_27 : decode cX12_step 27 = .ok (.iload_n 1, 1) := by decide +kernel
theorem dX12_step_28 : decode cX12_step 28 = .ok (.iload_n 2, 1) := by decide +kernel
theorem dX12_step_29 : decode cX12_step 29 = .ok (.iload_n 3, 1) := by decide +kernel
theorem dX12_step_30 : decode cX12_step 30 = .ok (.invokevirtual 346, 3) := by decide +kernel
theorem dX12_step_33 : decode cX12_step 33 = .ok (.goto 8, 3) := by decide +kernel
theorem dX12_step_36 : decode cX12_step 36 = .ok (.aload_n 0, 1) := by decide +kernel
theorem dX12_step_37 : decode cX12_step 37 = .ok (.iconst 1, 1) := by decide +kernel
theorem dX12_step_38 : decode cX12_step 38 = .ok (.invokevirtual 313, 3) := by decide +kernel
theorem dX12_step_41 : decode cX12_step 41 = .ok (.ireturn, 1) := by decide +kernel
theorem dX12_isX_0 : decode cX12_isX 0 = .ok (.iload_n 0, 1) := by decide +kernel
theorem dX12_isX_1 : decode cX12_isX 1 = .ok (.i2l, 1) := by decide +kernel
theorem dX12_isX_2 : decode cX12_isX 2 = .ok (.ldc2_w 349, 3) := by decide +kernel
theorem dX12_isX_5 : decode cX12_isX 5 = .ok (.ldc2_w 351, 3) := by decide +kernel
theorem dX12_isX_8 : decode cX12_isX 8 = .ok (.invokestatic 166, 3) := by decide +kernel
theorem dX12_isX_11 : decode cX12_isX 11 = .ok (.ireturn, 1) := by decide +kernel
theorem dX12_at_0 : decode cX12_at 0 = .ok (.aload_n 0, 1) := by decide +kernel
theorem dX12_at_1 : decode cX12_at 1 = .ok (.iconst 0, 1) := by decide +kernel
theorem dX12_at_2 : decode cX12_at 2 = .ok (.putfield 132, 3) := by decide +kernel
theorem dX12_at_5 : decode cX12_at 5 = .ok (.aload_n 0, 1) := by decide +kernel
theorem dX12_at_6 : decode cX12_at 6 = .ok (.iload_n 1, 1) := by decide +kernel
theorem dX12_at_7 : decode cX12_at 7 = .ok (.invokevirtual 310, 3) := by decide +kernel
theorem dX12_at_10 : decode cX12_at 10 = .ok (.ifCond .eq 10, 3) := by decide +kernel
theorem dX12_at_13 : decode cX12_at 13 = .ok (.iload_n 2, 1) := by decide +kernel
theorem dX12_at_14 : decode cX12_at 14 = .ok (.invokestatic 353, 3) := by decide +kernel
theorem dX12_at_17 : decode cX12_at 17 = .ok (.ifCond .ne 22, 3) := by decide +kernel
theorem dX12_at_20 : decode cX12_at 20 = .ok (.aload_n 0, 1) := by decide +kernel
theorem dX12_at_21 : decode cX12_at 21 = .ok (.aload_n 0, 1) := by decide +kernel
theorem dX12_at_22 : decode cX12_at 22 = .ok (.iload_n 1, 1) := by decide +kernel
theorem dX12_at_23 : decode cX12_at 23 = .ok (.invokevirtual 310, 3) := by decide +kernel
theorem dX12_at_26 : decode cX12_at 26 = .ok (.ifCond .eq 7, 3) := by decide +kernel
theorem dX12_at_29 : decode cX12_at 29 = .ok (.iconst 2, 1) := by decide +kernel
theorem dX12_at_30 : decode cX12_at 30 = .ok (.goto 4, 3) := by decide +kernel
theorem dX12_at_33 : decode cX12_at 33 = .ok (.iconst 1, 1) := by decide +kernel
theorem dX12_at_34 : decode cX12_at 34 = .ok (.invokevirtual 313, 3) := by decide +kernel
theorem dX12_at_37 : decode cX12_at 37 = .ok (.i2l, 1) := by decide +kernel
theorem dX12_at_38 : decode cX12_at 38 = .ok (.lreturn, 1) := by decide +kernel
theorem dX12_at_39 : decode cX12_at 39 = .ok (.aload_n 0, 1) := by decide +kernel
theorem dX12_at_40 : decode cX12_at 40 = .ok (.iload_n 1, 1) := by decide +kernel
theorem dX12_at_41 : decode cX12_at 41 = .ok (.invokevirtual 227, 3) := by decide +kernel
theorem dX12_at_44 : decode cX12_at 44 = .ok (.aload_n 0, 1) := by decide +kernel
theorem dX12_at_45 : decode cX12_at 45 = .ok (.getfield 40, 3) := by decide +kernel
theorem dX12_at_48 : decode cX12_at 48 = .ok (.iload_n 2, 1) := by decide +kernel
theorem dX12_at_49 : decode cX12_at 49 = .ok (.invokestatic 158, 3) := by decide +kernel
theorem dX12_at_52 : decode cX12_at 52 = .ok (.lreturn, 1) := by decide +kernel
theorem dX12_least_0 : decode cX12_least 0 = .ok (.aload_n 0, 1) := by decide +kernel
theorem dX12_least_1 : decode cX12_least 1 = .ok (.iconst 0, 1) := by decide +kernel
theorem dX12_least_2 : decode cX12_least 2 = .ok (.putfield 132, 3) := by decide +kernel
theorem dX12_least_5 : decode cX12_least 5 = .ok (.aload_n 0, 1) := by decide +kernel
