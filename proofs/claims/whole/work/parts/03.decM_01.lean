theorem dX12_drifts_29 : decode cX12_drifts 29 = .ok (.iastore, 1) := by decide +kernel
theorem dX12_drifts_30 : decode cX12_drifts 30 = .ok (.iconst 0, 1) := by decide +kernel
theorem dX12_drifts_31 : decode cX12_drifts 31 = .ok (.istore_n 2, 1) := by decide +kernel
theorem dX12_drifts_32 : decode cX12_drifts 32 = .ok (.iload_n 2, 1) := by decide +kernel
theorem dX12_drifts_33 : decode cX12_drifts 33 = .ok (.sipush 10001, 3) := by decide +kernel
theorem dX12_drifts_36 : decode cX12_drifts 36 = .ok (.if_icmp .ge 18, 3) := by decide +kernel
theorem dX12_drifts_39 : decode cX12_drifts 39 = .ok (.aload_n 0, 1) := by decide +kernel
theorem dX12_drifts_40 : decode cX12_drifts 40 = .ok (.getfield 40, 3) := by decide +kernel
theorem dX12_drifts_43 : decode cX12_drifts 43 = .ok (.iconst 2, 1) := by decide +kernel
theorem dX12_drifts_44 : decode cX12_drifts 44 = .ok (.iload_n 2, 1) := by decide +kernel
theorem dX12_drifts_45 : decode cX12_drifts 45 = .ok (.iadd, 1) := by decide +kernel
theorem dX12_drifts_46 : decode cX12_drifts 46 = .ok (.iconst 0, 1) := by decide +kernel
theorem dX12_drifts_47 : decode cX12_drifts 47 = .ok (.iastore, 1) := by decide +kernel
theorem dX12_drifts_48 : decode cX12_drifts 48 = .ok (.iinc 2 1, 3) := by decide +kernel
theorem dX12_drifts_51 : decode cX12_drifts 51 = .ok (.goto (-19), 3) := by decide +kernel
theorem dX12_drifts_54 : decode cX12_drifts 54 = .ok (.iconst 0, 1) := by decide +kernel
theorem dX12_drifts_55 : decode cX12_drifts 55 = .ok (.istore_n 2, 1) := by decide +kernel
theorem dX12_drifts_56 : decode cX12_drifts 56 = .ok (.iload_n 2, 1) := by decide +kernel
theorem dX12_drifts_57 : decode cX12_drifts 57 = .ok (.sipush 10001, 3) := by decide +kernel
theorem dX12_drifts_60 : decode cX12_drifts 60 = .ok (.if_icmp .ge 28, 3) := by decide +kernel
theorem dX12_drifts_63 : decode cX12_drifts 63 = .ok (.aload_n 0, 1) := by decide +kernel
theorem dX12_drifts_64 : decode cX12_drifts 64 = .ok (.iload_n 2, 1) := by decide +kernel
theorem dX12_drifts_65 : decode cX12_drifts 65 = .ok (.sipush 5000, 3) := by decide +kernel
theorem dX12_drifts_68 : decode cX12_drifts 68 = .ok (.isub, 1) := by decide +kernel
theorem dX12_drifts_69 : decode cX12_drifts 69 = .ok (.iload_n 1, 1) := by decide +kernel
theorem dX12_drifts_70 : decode cX12_drifts 70 = .ok (.iadd, 1) := by decide +kernel
theorem dX12_drifts_71 : decode cX12_drifts 71 = .ok (.aload_n 0, 1) := by decide +kernel
theorem dX12_drifts_72 : decode cX12_drifts 72 = .ok (.getfield 46, 3) := by decide +kernel
theorem dX12_drifts_75 : decode cX12_drifts 75 = .ok (.iconst 2, 1) := by decide +kernel
theorem dX12_drifts_76 : decode cX12_drifts 76 = .ok (.iload_n 2, 1) := by decide +kernel
theorem dX12_drifts_77 : decode cX12_drifts 77 = .ok (.iadd, 1) := by decide +kernel
theorem dX12_drifts_78 : decode cX12_drifts 78 = .ok (.iaload, 1) := by decide +kernel
theorem dX12_drifts_79 : decode cX12_drifts 79 = .ok (.invokevirtual 174, 3) := by decide +kernel
theorem dX12_drifts_82 : decode cX12_drifts 82 = .ok (.iinc 2 1, 3) := by decide +kernel
theorem dX12_drifts_85 : decode cX12_drifts 85 = .ok (.goto (-29), 3) := by decide +kernel
theorem dX12_drifts_88 : decode cX12_drifts 88 = .ok (.return_, 1) := by decide +kernel
theorem dX12_parts_0 : decode cX12_parts 0 = .ok (.aload_n 0, 1) := by decide +kernel
theorem dX12_parts_1 : decode cX12_parts 1 = .ok (.getfield 46, 3) := by decide +kernel
theorem dX12_parts_4 : decode cX12_parts 4 = .ok (.aload_n 0, 1) := by decide +kernel
theorem dX12_parts_5 : decode cX12_parts 5 = .ok (.getfield 40, 3) := by decide +kernel
theorem dX12_parts_8 : decode cX12_parts 8 = .ok (.invokestatic 178, 3) := by decide +kernel
theorem dX12_parts_11 : decode cX12_parts 11 = .ok (.aload_n 0, 1) := by decide +kernel
theorem dX12_parts_12 : decode cX12_parts 12 = .ok (.getfield 46, 3) := by decide +kernel
theorem dX12_parts_15 : decode cX12_parts 15 = .ok (.invokestatic 182, 3) := by decide +kernel
theorem dX12_parts_18 : decode cX12_parts 18 = .ok (.lstore 5, 2) := by decide +kernel
theorem dX12_parts_20 : decode cX12_parts 20 = .ok (.aload_n 0, 1) := by decide +kernel
theorem dX12_parts_21 : decode cX12_parts 21 = .ok (.getfield 46, 3) := by decide +kernel
theorem dX12_parts_24 : decode cX12_parts 24 = .ok (.invokestatic 147, 3) := by decide +kernel
theorem dX12_parts_27 : decode cX12_parts 27 = .ok (.istore 7, 2) := by decide +kernel
theorem dX12_parts_29 : decode cX12_parts 29 = .ok (.iconst 0, 1) := by decide +kernel
theorem dX12_parts_30 : decode cX12_parts 30 = .ok (.istore 8, 2) := by decide +kernel
theorem dX12_parts_32 : decode cX12_parts 32 = .ok (.iload 8, 2) := by decide +kernel
theorem dX12_parts_34 : decode cX12_parts 34 = .ok (.sipush 10001, 3) := by decide +kernel
theorem dX12_parts_37 : decode cX12_parts 37 = .ok (.if_icmp .ge 19, 3) := by decide +kernel
theorem dX12_parts_40 : decode cX12_parts 40 = .ok (.aload_n 0, 1) := by decide +kernel
theorem dX12_parts_41 : decode cX12_parts 41 = .ok (.getfield 40, 3) := by decide +kernel
theorem dX12_parts_44 : decode cX12_parts 44 = .ok (.iconst 2, 1) := by decide +kernel
theorem dX12_parts_45 : decode cX12_parts 45 = .ok (.iload 8, 2) := by decide +kernel
theorem dX12_parts_47 : decode cX12_parts 47 = .ok (.iadd, 1) := by decide +kernel
theorem dX12_parts_48 : decode cX12_parts 48 = .ok (.iconst 0, 1) := by decide +kernel
theorem dX12_parts_49 : decode cX12_parts 49 = .ok (.iastore, 1) := by decide +kernel
theorem dX12_parts_50 : decode cX12_parts 50 = .ok (.iinc 8 1, 3) := by decide +kernel
theorem dX12_parts_53 : decode cX12_parts 53 = .ok (.goto (-21), 3) := by decide +kernel
theorem dX12_parts_56 : decode cX12_parts 56 = .ok (.aload_n 0, 1) := by decide +kernel
theorem dX12_parts_57 : decode cX12_parts 57 = .ok (.getfield 40, 3) := by decide +kernel
theorem dX12_parts_60 : decode cX12_parts 60 = .ok (.iconst 0, 1) := by decide +kernel
theorem dX12_parts_61 : decode cX12_parts 61 = .ok (.iload_n 3, 1) := by decide +kernel
theorem dX12_parts_62 : decode cX12_parts 62 = .ok (.ifCond .eq 12, 3) := by decide +kernel
theorem dX12_parts_65 : decode cX12_parts 65 = .ok (.aload_n 0, 1) := by decide +kernel
theorem dX12_parts_66 : decode cX12_parts 66 = .ok (.getfield 46, 3) := by decide +kernel
theorem dX12_parts_69 : decode cX12_parts 69 = .ok (.iconst 0, 1) := by decide +kernel
theorem dX12_parts_70 : decode cX12_parts 70 = .ok (.iaload, 1) := by decide +kernel
theorem dX12_parts_71 : decode cX12_parts 71 = .ok (.goto 4, 3) := by decide +kernel
theorem dX12_parts_74 : decode cX12_parts 74 = .ok (.iconst 0, 1) := by decide +kernel
theorem dX12_parts_75 : decode cX12_parts 75 = .ok (.iastore, 1) := by decide +kernel
theorem dX12_parts_76 : decode cX12_parts 76 = .ok (.aload_n 0, 1) := by decide +kernel
theorem dX12_parts_77 : decode cX12_parts 77 = .ok (.getfield 46, 3) := by decide +kernel
theorem dX12_parts_80 : decode cX12_parts 80 = .ok (.iconst 0, 1) := by decide +kernel
theorem dX12_parts_81 : decode cX12_parts 81 = .ok (.iaload, 1) := by decide +kernel
theorem dX12_parts_82 : decode cX12_parts 82 = .ok (.istore 8, 2) := by decide +kernel
theorem dX12_parts_84 : decode cX12_parts 84 = .ok (.iconst 0, 1) := by decide +kernel
theorem dX12_parts_85 : decode cX12_parts 85 = .ok (.istore 9, 2) := by decide +kernel
theorem dX12_parts_87 : decode cX12_parts 87 = .ok (.iload 9, 2) := by decide +kernel
theorem dX12_parts_89 : decode cX12_parts 89 = .ok (.sipush 10001, 3) := by decide +kernel
theorem dX12_parts_92 : decode cX12_parts 92 = .ok (.if_icmp .ge 81, 3) := by decide +kernel
theorem dX12_parts_95 : decode cX12_parts 95 = .ok (.aload_n 0, 1) := by decide +kernel
theorem dX12_parts_96 : decode cX12_parts 96 = .ok (.getfield 46, 3) := by decide +kernel
theorem dX12_parts_99 : decode cX12_parts 99 = .ok (.iconst 2, 1) := by decide +kernel
theorem dX12_parts_100 : decode cX12_parts 100 = .ok (.iload 9, 2) := by decide +kernel
theorem dX12_parts_102 : decode cX12_parts 102 = .ok (.iadd, 1) := by decide +kernel
theorem dX12_parts_103 : decode cX12_parts 103 = .ok (.iaload, 1) := by decide +kernel
theorem dX12_parts_104 : decode cX12_parts 104 = .ok (.istore 10, 2) := by decide +kernel
theorem dX12_parts_106 : decode cX12_parts 106 = .ok (.iload 10, 2) := by decide +kernel
theorem dX12_parts_108 : decode cX12_parts 108 = .ok (.iconst 0, 1) := by decide +kernel
theorem dX12_parts_109 : decode cX12_parts 109 = .ok (.iload 8, 2) := by decide +kernel
theorem dX12_parts_111 : decode cX12_parts 111 = .ok (.ineg, 1) := by decide +kernel
theorem dX12_parts_112 : decode cX12_parts 112 = .ok (.invokestatic 186, 3) := by decide +kernel
theorem dX12_parts_115 : decode cX12_parts 115 = .ok (.invokestatic 135, 3) := by decide +kernel
theorem dX12_parts_118 : decode cX12_parts 118 = .ok (.istore 11, 2) := by decide +kernel
theorem dX12_parts_120 : decode cX12_parts 120 = .ok (.iload_n 3, 1) := by decide +kernel
theorem dX12_parts_121 : decode cX12_parts 121 = .ok (.ifCond .eq 17, 3) := by decide +kernel
theorem dX12_parts_124 : decode cX12_parts 124 = .ok (.aload_n 0, 1) := by decide +kernel
theorem dX12_parts_125 : decode cX12_parts 125 = .ok (.iload 9, 2) := by decide +kernel
theorem dX12_parts_127 : decode cX12_parts 127 = .ok (.sipush 5000, 3) := by decide +kernel
theorem dX12_parts_130 : decode cX12_parts 130 = .ok (.isub, 1) := by decide +kernel
theorem dX12_parts_131 : decode cX12_parts 131 = .ok (.iload_n 1, 1) := by decide +kernel
theorem dX12_parts_132 : decode cX12_parts 132 = .ok (.isub, 1) := by decide +kernel
theorem dX12_parts_133 : decode cX12_parts 133 = .ok (.iload 11, 2) := by decide +kernel
theorem dX12_parts_135 : decode cX12_parts 135 = .ok (.invokevirtual 174, 3) := by decide +kernel
theorem dX12_parts_138 : decode cX12_parts 138 = .ok (.iload 4, 2) := by decide +kernel
theorem dX12_parts_140 : decode cX12_parts 140 = .ok (.ifCond .eq 20, 3) := by decide +kernel
theorem dX12_parts_143 : decode cX12_parts 143 = .ok (.aload_n 0, 1) := by decide +kernel
theorem dX12_parts_144 : decode cX12_parts 144 = .ok (.iload 9, 2) := by decide +kernel
theorem dX12_parts_146 : decode cX12_parts 146 = .ok (.sipush 5000, 3) := by decide +kernel
theorem dX12_parts_149 : decode cX12_parts 149 = .ok (.isub, 1) := by decide +kernel
theorem dX12_parts_150 : decode cX12_parts 150 = .ok (.iload_n 2, 1) := by decide +kernel
theorem dX12_parts_151 : decode cX12_parts 151 = .ok (.iadd, 1) := by decide +kernel
theorem dX12_parts_152 : decode cX12_parts 152 = .ok (.iload 10, 2) := by decide +kernel
theorem dX12_parts_154 : decode cX12_parts 154 = .ok (.iload 11, 2) := by decide +kernel
theorem dX12_parts_156 : decode cX12_parts 156 = .ok (.isub, 1) := by decide +kernel
theorem dX12_parts_157 : decode cX12_parts 157 = .ok (.invokevirtual 174, 3) := by decide +kernel
theorem dX12_parts_160 : decode cX12_parts 160 = .ok (.iload 8, 2) := by decide +kernel
theorem dX12_parts_162 : decode cX12_parts 162 = .ok (.iload 10, 2) := by decide +kernel
theorem dX12_parts_164 : decode cX12_parts 164 = .ok (.iadd, 1) := by decide +kernel
theorem dX12_parts_165 : decode cX12_parts 165 = .ok (.istore 8, 2) := by decide +kernel
theorem dX12_parts_167 : decode cX12_parts 167 = .ok (.iinc 9 1, 3) := by decide +kernel
theorem dX12_parts_170 : decode cX12_parts 170 = .ok (.goto (-83), 3) := by decide +kernel
theorem dX12_parts_173 : decode cX12_parts 173 = .ok (.iload_n 3, 1) := by decide +kernel
theorem dX12_parts_174 : decode cX12_parts 174 = .ok (.ifCond .eq 20, 3) := by decide +kernel
theorem dX12_parts_177 : decode cX12_parts 177 = .ok (.iload 7, 2) := by decide +kernel
theorem dX12_parts_179 : decode cX12_parts 179 = .ok (.ldc 141, 2) := by decide +kernel
theorem dX12_parts_181 : decode cX12_parts 181 = .ok (.if_icmp .eq 13, 3) := by decide +kernel
theorem dX12_parts_184 : decode cX12_parts 184 = .ok (.iload 7, 2) := by decide +kernel
theorem dX12_parts_186 : decode cX12_parts 186 = .ok (.iload_n 1, 1) := by decide +kernel
theorem dX12_parts_187 : decode cX12_parts 187 = .ok (.isub, 1) := by decide +kernel
theorem dX12_parts_188 : decode cX12_parts 188 = .ok (.sipush (-5000), 3) := by decide +kernel
theorem dX12_parts_191 : decode cX12_parts 191 = .ok (.if_icmp .gt 7, 3) := by decide +kernel
theorem dX12_parts_194 : decode cX12_parts 194 = .ok (.iconst 1, 1) := by decide +kernel
theorem dX12_parts_195 : decode cX12_parts 195 = .ok (.goto 4, 3) := by decide +kernel
theorem dX12_parts_198 : decode cX12_parts 198 = .ok (.iconst 0, 1) := by decide +kernel
theorem dX12_parts_199 : decode cX12_parts 199 = .ok (.istore 9, 2) := by decide +kernel
theorem dX12_parts_201 : decode cX12_parts 201 = .ok (.aload_n 0, 1) := by decide +kernel
theorem dX12_parts_202 : decode cX12_parts 202 = .ok (.getfield 40, 3) := by decide +kernel
theorem dX12_parts_205 : decode cX12_parts 205 = .ok (.iconst 1, 1) := by decide +kernel
theorem dX12_parts_206 : decode cX12_parts 206 = .ok (.iload 9, 2) := by decide +kernel
theorem dX12_parts_208 : decode cX12_parts 208 = .ok (.ifCond .eq 9, 3) := by decide +kernel
theorem dX12_parts_211 : decode cX12_parts 211 = .ok (.lload 5, 2) := by decide +kernel
theorem dX12_parts_213 : decode cX12_parts 213 = .ok (.l2i, 1) := by decide +kernel
theorem dX12_parts_214 : decode cX12_parts 214 = .ok (.goto 16, 3) := by decide +kernel
theorem dX12_parts_217 : decode cX12_parts 217 = .ok (.aload_n 0, 1) := by decide +kernel
theorem dX12_parts_218 : decode cX12_parts 218 = .ok (.getfield 46, 3) := by decide +kernel
theorem dX12_parts_221 : decode cX12_parts 221 = .ok (.sipush (-5000), 3) := by decide +kernel
theorem dX12_parts_224 : decode cX12_parts 224 = .ok (.iload_n 1, 1) := by decide +kernel
theorem dX12_parts_225 : decode cX12_parts 225 = .ok (.iadd, 1) := by decide +kernel
theorem dX12_parts_226 : decode cX12_parts 226 = .ok (.invokestatic 158, 3) := by decide +kernel
theorem dX12_parts_229 : decode cX12_parts 229 = .ok (.l2i, 1) := by decide +kernel
theorem dX12_parts_230 : decode cX12_parts 230 = .ok (.iastore, 1) := by decide +kernel
theorem dX12_parts_231 : decode cX12_parts 231 = .ok (.return_, 1) := by decide +kernel
theorem dX12_putsOn_0 : decode cX12_putsOn 0 = .ok (.iconst 0, 1) := by decide +kernel
theorem dX12_putsOn_1 : decode cX12_putsOn 1 = .ok (.istore_n 2, 1) := by decide +kernel
theorem dX12_putsOn_2 : decode cX12_putsOn 2 = .ok (.iload_n 2, 1) := by decide +kernel
theorem dX12_putsOn_3 : decode cX12_putsOn 3 = .ok (.aload_n 1, 1) := by decide +kernel
theorem dX12_putsOn_4 : decode cX12_putsOn 4 = .ok (.arraylength, 1) := by decide +kernel
theorem dX12_putsOn_5 : decode cX12_putsOn 5 = .ok (.if_icmp .ge 21, 3) := by decide +kernel
theorem dX12_putsOn_8 : decode cX12_putsOn 8 = .ok (.aload_n 0, 1) := by decide +kernel
theorem dX12_putsOn_9 : decode cX12_putsOn 9 = .ok (.getfield 40, 3) := by decide +kernel
theorem dX12_putsOn_12 : decode cX12_putsOn 12 = .ok (.iload_n 2, 1) := by decide +kernel
theorem dX12_putsOn_13 : decode cX12_putsOn 13 = .ok (.dup2, 1) := by decide +kernel
theorem dX12_putsOn_14 : decode cX12_putsOn 14 = .ok (.iaload, 1) := by decide +kernel
theorem dX12_putsOn_15 : decode cX12_putsOn 15 = .ok (.aload_n 1, 1) := by decide +kernel
theorem dX12_putsOn_16 : decode cX12_putsOn 16 = .ok (.iload_n 2, 1) := by decide +kernel
theorem dX12_putsOn_17 : decode cX12_putsOn 17 = .ok (.iaload, 1) := by decide +kernel
theorem dX12_putsOn_18 : decode cX12_putsOn 18 = .ok (.iadd, 1) := by decide +kernel
theorem dX12_putsOn_19 : decode cX12_putsOn 19 = .ok (.iastore, 1) := by decide +kernel
theorem dX12_putsOn_20 : decode cX12_putsOn 20 = .ok (.iinc 2 1, 3) := by decide +kernel
theorem dX12_putsOn_23 : decode cX12_putsOn 23 = .ok (.goto (-21), 3) := by decide +kernel
theorem dX12_putsOn_26 : decode cX12_putsOn 26 = .ok (.return_, 1) := by decide +kernel
theorem dX12_goes_0 : decode cX12_goes 0 = .ok (.aload_n 0, 1) := by decide +kernel
theorem dX12_goes_1 : decode cX12_goes 1 = .ok (.iconst 0, 1) := by decide +kernel
theorem dX12_goes_2 : decode cX12_goes 2 = .ok (.putfield 170, 3) := by decide +kernel
theorem dX12_goes_5 : decode cX12_goes 5 = .ok (.iload_n 1, 1) := by decide +kernel
theorem dX12_goes_6 : decode cX12_goes 6 = .ok (.tableswitch 130 0 7 #[46, 56, 66, 76, 84, 95, 106, 117], 46) := by decide +kernel
theorem dX12_goes_52 : decode cX12_goes 52 = .ok (.aload_n 0, 1) := by decide +kernel
theorem dX12_goes_53 : decode cX12_goes 53 = .ok (.iload_n 2, 1) := by decide +kernel
theorem dX12_goes_54 : decode cX12_goes 54 = .ok (.iload_n 3, 1) := by decide +kernel
theorem dX12_goes_55 : decode cX12_goes 55 = .ok (.iload_n 3, 1) := by decide +kernel
theorem dX12_goes_56 : decode cX12_goes 56 = .ok (.invokevirtual 189, 3) := by decide +kernel
theorem dX12_goes_59 : decode cX12_goes 59 = .ok (.goto 88, 3) := by decide +kernel
theorem dX12_goes_62 : decode cX12_goes 62 = .ok (.aload_n 0, 1) := by decide +kernel
theorem dX12_goes_63 : decode cX12_goes 63 = .ok (.iload_n 2, 1) := by decide +kernel
theorem dX12_goes_64 : decode cX12_goes 64 = .ok (.iconst 0, 1) := by decide +kernel
theorem dX12_goes_65 : decode cX12_goes 65 = .ok (.iload_n 3, 1) := by decide +kernel
theorem dX12_goes_66 : decode cX12_goes 66 = .ok (.invokevirtual 189, 3) := by decide +kernel
theorem dX12_goes_69 : decode cX12_goes 69 = .ok (.goto 78, 3) := by decide +kernel
theorem dX12_goes_72 : decode cX12_goes 72 = .ok (.aload_n 0, 1) := by decide +kernel
theorem dX12_goes_73 : decode cX12_goes 73 = .ok (.iload_n 2, 1) := by decide +kernel
theorem dX12_goes_74 : decode cX12_goes 74 = .ok (.iload_n 3, 1) := by decide +kernel
theorem dX12_goes_75 : decode cX12_goes 75 = .ok (.iconst 0, 1) := by decide +kernel
theorem dX12_goes_76 : decode cX12_goes 76 = .ok (.invokevirtual 189, 3) := by decide +kernel
theorem dX12_goes_79 : decode cX12_goes 79 = .ok (.goto 68, 3) := by decide +kernel
theorem dX12_goes_82 : decode cX12_goes 82 = .ok (.aload_n 0, 1) := by decide +kernel
theorem dX12_goes_83 : decode cX12_goes 83 = .ok (.iload_n 2, 1) := by decide +kernel
theorem dX12_goes_84 : decode cX12_goes 84 = .ok (.invokevirtual 193, 3) := by decide +kernel
theorem dX12_goes_87 : decode cX12_goes 87 = .ok (.goto 60, 3) := by decide +kernel
theorem dX12_goes_90 : decode cX12_goes 90 = .ok (.aload_n 0, 1) := by decide +kernel
theorem dX12_goes_91 : decode cX12_goes 91 = .ok (.iload_n 2, 1) := by decide +kernel
theorem dX12_goes_92 : decode cX12_goes 92 = .ok (.iload_n 3, 1) := by decide +kernel
theorem dX12_goes_93 : decode cX12_goes 93 = .ok (.iconst 1, 1) := by decide +kernel
theorem dX12_goes_94 : decode cX12_goes 94 = .ok (.iconst 1, 1) := by decide +kernel
theorem dX12_goes_95 : decode cX12_goes 95 = .ok (.invokevirtual 197, 3) := by decide +kernel
theorem dX12_goes_98 : decode cX12_goes 98 = .ok (.goto 49, 3) := by decide +kernel
theorem dX12_goes_101 : decode cX12_goes 101 = .ok (.aload_n 0, 1) := by decide +kernel
theorem dX12_goes_102 : decode cX12_goes 102 = .ok (.iconst 0, 1) := by decide +kernel
theorem dX12_goes_103 : decode cX12_goes 103 = .ok (.iconst 0, 1) := by decide +kernel
theorem dX12_goes_104 : decode cX12_goes 104 = .ok (.iconst 1, 1) := by decide +kernel
theorem dX12_goes_105 : decode cX12_goes 105 = .ok (.iconst 0, 1) := by decide +kernel
theorem dX12_goes_106 : decode cX12_goes 106 = .ok (.invokevirtual 197, 3) := by decide +kernel
theorem dX12_goes_109 : decode cX12_goes 109 = .ok (.goto 38, 3) := by decide +kernel
theorem dX12_goes_112 : decode cX12_goes 112 = .ok (.aload_n 0, 1) := by decide +kernel
theorem dX12_goes_113 : decode cX12_goes 113 = .ok (.iconst 0, 1) := by decide +kernel
theorem dX12_goes_114 : decode cX12_goes 114 = .ok (.iconst 0, 1) := by decide +kernel
theorem dX12_goes_115 : decode cX12_goes 115 = .ok (.iconst 0, 1) := by decide +kernel
theorem dX12_goes_116 : decode cX12_goes 116 = .ok (.iconst 1, 1) := by decide +kernel
theorem dX12_goes_117 : decode cX12_goes 117 = .ok (.invokevirtual 197, 3) := by decide +kernel
theorem dX12_goes_120 : decode cX12_goes 120 = .ok (.goto 27, 3) := by decide +kernel
theorem dX12_goes_123 : decode cX12_goes 123 = .ok (.aload_n 0, 1) := by decide +kernel
theorem dX12_goes_124 : decode cX12_goes 124 = .ok (.getfield 40, 3) := by decide +kernel
theorem dX12_goes_127 : decode cX12_goes 127 = .ok (.iconst 1, 1) := by decide +kernel
theorem dX12_goes_128 : decode cX12_goes 128 = .ok (.dup2, 1) := by decide +kernel
theorem dX12_goes_129 : decode cX12_goes 129 = .ok (.iaload, 1) := by decide +kernel
theorem dX12_goes_130 : decode cX12_goes 130 = .ok (.iload_n 2, 1) := by decide +kernel
theorem dX12_goes_131 : decode cX12_goes 131 = .ok (.iadd, 1) := by decide +kernel
theorem dX12_goes_132 : decode cX12_goes 132 = .ok (.iastore, 1) := by decide +kernel
theorem dX12_goes_133 : decode cX12_goes 133 = .ok (.goto 14, 3) := by decide +kernel
theorem dX12_goes_136 : decode cX12_goes 136 = .ok (.aload_n 0, 1) := by decide +kernel
theorem dX12_goes_137 : decode cX12_goes 137 = .ok (.aload_n 0, 1) := by decide +kernel
theorem dX12_goes_138 : decode cX12_goes 138 = .ok (.getfield 50, 3) := by decide +kernel
theorem dX12_goes_141 : decode cX12_goes 141 = .ok (.iload 4, 2) := by decide +kernel
theorem dX12_goes_143 : decode cX12_goes 143 = .ok (.aaload, 1) := by decide +kernel
theorem dX12_goes_144 : decode cX12_goes 144 = .ok (.invokevirtual 201, 3) := by decide +kernel
theorem dX12_goes_147 : decode cX12_goes 147 = .ok (.aload_n 0, 1) := by decide +kernel
theorem dX12_goes_148 : decode cX12_goes 148 = .ok (.getfield 170, 3) := by decide +kernel
theorem dX12_goes_151 : decode cX12_goes 151 = .ok (.ifCond .ne 34, 3) := by decide +kernel
theorem dX12_goes_154 : decode cX12_goes 154 = .ok (.aload_n 0, 1) := by decide +kernel
theorem dX12_goes_155 : decode cX12_goes 155 = .ok (.getfield 40, 3) := by decide +kernel
theorem dX12_goes_158 : decode cX12_goes 158 = .ok (.invokestatic 205, 3) := by decide +kernel
theorem dX12_goes_161 : decode cX12_goes 161 = .ok (.sipush 5000, 3) := by decide +kernel
theorem dX12_goes_164 : decode cX12_goes 164 = .ok (.if_icmp .gt 21, 3) := by decide +kernel
theorem dX12_goes_167 : decode cX12_goes 167 = .ok (.aload_n 0, 1) := by decide +kernel
theorem dX12_goes_168 : decode cX12_goes 168 = .ok (.getfield 40, 3) := by decide +kernel
theorem dX12_goes_171 : decode cX12_goes 171 = .ok (.invokestatic 182, 3) := by decide +kernel
theorem dX12_goes_174 : decode cX12_goes 174 = .ok (.ldc2_w 208, 3) := by decide +kernel
theorem dX12_goes_177 : decode cX12_goes 177 = .ok (.lcmp, 1) := by decide +kernel
theorem dX12_goes_178 : decode cX12_goes 178 = .ok (.ifCond .gt 7, 3) := by decide +kernel
theorem dX12_goes_181 : decode cX12_goes 181 = .ok (.iconst 1, 1) := by decide +kernel
theorem dX12_goes_182 : decode cX12_goes 182 = .ok (.goto 4, 3) := by decide +kernel
theorem dX12_goes_185 : decode cX12_goes 185 = .ok (.iconst 0, 1) := by decide +kernel
theorem dX12_goes_186 : decode cX12_goes 186 = .ok (.ireturn, 1) := by decide +kernel
theorem dX12_runs_0 : decode cX12_runs 0 = .ok (.aload_n 0, 1) := by decide +kernel
theorem dX12_runs_1 : decode cX12_runs 1 = .ok (.getfield 40, 3) := by decide +kernel
theorem dX12_runs_4 : decode cX12_runs 4 = .ok (.invokestatic 210, 3) := by decide +kernel
theorem dX12_runs_7 : decode cX12_runs 7 = .ok (.aload_n 0, 1) := by decide +kernel
theorem dX12_runs_8 : decode cX12_runs 8 = .ok (.iconst (-1), 1) := by decide +kernel
theorem dX12_runs_9 : decode cX12_runs 9 = .ok (.putfield 213, 3) := by decide +kernel
theorem dX12_runs_12 : decode cX12_runs 12 = .ok (.sipush 161, 3) := by decide +kernel
theorem dX12_runs_15 : decode cX12_runs 15 = .ok (.iload_n 2, 1) := by decide +kernel
theorem dX12_runs_16 : decode cX12_runs 16 = .ok (.imul, 1) := by decide +kernel
theorem dX12_runs_17 : decode cX12_runs 17 = .ok (.istore_n 3, 1) := by decide +kernel
theorem dX12_runs_18 : decode cX12_runs 18 = .ok (.iconst 0, 1) := by decide +kernel
theorem dX12_runs_19 : decode cX12_runs 19 = .ok (.istore 4, 2) := by decide +kernel
theorem dX12_runs_21 : decode cX12_runs 21 = .ok (.iload 4, 2) := by decide +kernel
theorem dX12_runs_23 : decode cX12_runs 23 = .ok (.aload_n 1, 1) := by decide +kernel
theorem dX12_runs_24 : decode cX12_runs 24 = .ok (.iload_n 3, 1) := by decide +kernel
theorem dX12_runs_25 : decode cX12_runs 25 = .ok (.iaload, 1) := by decide +kernel
theorem dX12_runs_26 : decode cX12_runs 26 = .ok (.if_icmp .ge 118, 3) := by decide +kernel
theorem dX12_runs_29 : decode cX12_runs 29 = .ok (.aload_n 0, 1) := by decide +kernel
theorem dX12_runs_30 : decode cX12_runs 30 = .ok (.getfield 213, 3) := by decide +kernel
theorem dX12_runs_33 : decode cX12_runs 33 = .ok (.iconst (-1), 1) := by decide +kernel
theorem dX12_runs_34 : decode cX12_runs 34 = .ok (.if_icmp .ne 110, 3) := by decide +kernel
theorem dX12_runs_37 : decode cX12_runs 37 = .ok (.aload_n 0, 1) := by decide +kernel
theorem dX12_runs_38 : decode cX12_runs 38 = .ok (.getfield 58, 3) := by decide +kernel
theorem dX12_runs_41 : decode cX12_runs 41 = .ok (.iload 4, 2) := by decide +kernel
theorem dX12_runs_43 : decode cX12_runs 43 = .ok (.aload_n 0, 1) := by decide +kernel
theorem dX12_runs_44 : decode cX12_runs 44 = .ok (.getfield 40, 3) := by decide +kernel
theorem dX12_runs_47 : decode cX12_runs 47 = .ok (.invokestatic 147, 3) := by decide +kernel
theorem dX12_runs_50 : decode cX12_runs 50 = .ok (.iastore, 1) := by decide +kernel
theorem dX12_runs_51 : decode cX12_runs 51 = .ok (.aload_n 0, 1) := by decide +kernel
theorem dX12_runs_52 : decode cX12_runs 52 = .ok (.getfield 61, 3) := by decide +kernel
theorem dX12_runs_55 : decode cX12_runs 55 = .ok (.iload 4, 2) := by decide +kernel
theorem dX12_runs_57 : decode cX12_runs 57 = .ok (.aload_n 0, 1) := by decide +kernel
theorem dX12_runs_58 : decode cX12_runs 58 = .ok (.getfield 40, 3) := by decide +kernel
theorem dX12_runs_61 : decode cX12_runs 61 = .ok (.invokestatic 151, 3) := by decide +kernel
theorem dX12_runs_64 : decode cX12_runs 64 = .ok (.iastore, 1) := by decide +kernel
theorem dX12_runs_65 : decode cX12_runs 65 = .ok (.iload 4, 2) := by decide +kernel
theorem dX12_runs_67 : decode cX12_runs 67 = .ok (.aload_n 0, 1) := by decide +kernel
theorem dX12_runs_68 : decode cX12_runs 68 = .ok (.getfield 64, 3) := by decide +kernel
theorem dX12_runs_71 : decode cX12_runs 71 = .ok (.if_icmp .ne 6, 3) := by decide +kernel
theorem dX12_runs_74 : decode cX12_runs 74 = .ok (.goto 64, 3) := by decide +kernel
theorem dX12_runs_77 : decode cX12_runs 77 = .ok (.iload_n 3, 1) := by decide +kernel
theorem dX12_runs_78 : decode cX12_runs 78 = .ok (.iconst 1, 1) := by decide +kernel
theorem dX12_runs_79 : decode cX12_runs 79 = .ok (.iadd, 1) := by decide +kernel
theorem dX12_runs_80 : decode cX12_runs 80 = .ok (.iconst 4, 1) := by decide +kernel
theorem dX12_runs_81 : decode cX12_runs 81 = .ok (.iload 4, 2) := by decide +kernel
theorem dX12_runs_83 : decode cX12_runs 83 = .ok (.imul, 1) := by decide +kernel
theorem dX12_runs_84 : decode cX12_runs 84 = .ok (.iadd, 1) := by decide +kernel
theorem dX12_runs_85 : decode cX12_runs 85 = .ok (.istore 5, 2) := by decide +kernel
theorem dX12_runs_87 : decode cX12_runs 87 = .ok (.aload_n 0, 1) := by decide +kernel
theorem dX12_runs_88 : decode cX12_runs 88 = .ok (.aload_n 1, 1) := by decide +kernel
theorem dX12_runs_89 : decode cX12_runs 89 = .ok (.iload 5, 2) := by decide +kernel
theorem dX12_runs_91 : decode cX12_runs 91 = .ok (.iaload, 1) := by decide +kernel
theorem dX12_runs_92 : decode cX12_runs 92 = .ok (.aload_n 1, 1) := by decide +kernel
theorem dX12_runs_93 : decode cX12_runs 93 = .ok (.iload 5, 2) := by decide +kernel
theorem dX12_runs_95 : decode cX12_runs 95 = .ok (.iconst 1, 1) := by decide +kernel
theorem dX12_runs_96 : decode cX12_runs 96 = .ok (.iadd, 1) := by decide +kernel
theorem dX12_runs_97 : decode cX12_runs 97 = .ok (.iaload, 1) := by decide +kernel
theorem dX12_runs_98 : decode cX12_runs 98 = .ok (.iload 4, 2) := by decide +kernel
theorem dX12_runs_100 : decode cX12_runs 100 = .ok (.aload_n 0, 1) := by decide +kernel
theorem dX12_runs_101 : decode cX12_runs 101 = .ok (.getfield 68, 3) := by decide +kernel
theorem dX12_runs_104 : decode cX12_runs 104 = .ok (.if_icmp .ne 10, 3) := by decide +kernel
theorem dX12_runs_107 : decode cX12_runs 107 = .ok (.aload_n 0, 1) := by decide +kernel
theorem dX12_runs_108 : decode cX12_runs 108 = .ok (.getfield 216, 3) := by decide +kernel
theorem dX12_runs_111 : decode cX12_runs 111 = .ok (.goto 9, 3) := by decide +kernel
theorem dX12_runs_114 : decode cX12_runs 114 = .ok (.aload_n 1, 1) := by decide +kernel
theorem dX12_runs_115 : decode cX12_runs 115 = .ok (.iload 5, 2) := by decide +kernel
theorem dX12_runs_117 : decode cX12_runs 117 = .ok (.iconst 2, 1) := by decide +kernel
theorem dX12_runs_118 : decode cX12_runs 118 = .ok (.iadd, 1) := by decide +kernel
theorem dX12_runs_119 : decode cX12_runs 119 = .ok (.iaload, 1) := by decide +kernel
theorem dX12_runs_120 : decode cX12_runs 120 = .ok (.aload_n 1, 1) := by decide +kernel
theorem dX12_runs_121 : decode cX12_runs 121 = .ok (.iload 5, 2) := by decide +kernel
theorem dX12_runs_123 : decode cX12_runs 123 = .ok (.iconst 3, 1) := by decide +kernel
theorem dX12_runs_124 : decode cX12_runs 124 = .ok (.iadd, 1) := by decide +kernel
theorem dX12_runs_125 : decode cX12_runs 125 = .ok (.iaload, 1) := by decide +kernel
theorem dX12_runs_126 : decode cX12_runs 126 = .ok (.invokevirtual 219, 3) := by decide +kernel
theorem dX12_runs_129 : decode cX12_runs 129 = .ok (.ifCond .ne 9, 3) := by decide +kernel
theorem dX12_runs_132 : decode cX12_runs 132 = .ok (.aload_n 0, 1) := by decide +kernel
theorem dX12_runs_133 : decode cX12_runs 133 = .ok (.iload 4, 2) := by decide +kernel
theorem dX12_runs_135 : decode cX12_runs 135 = .ok (.putfield 213, 3) := by decide +kernel
theorem dX12_runs_138 : decode cX12_runs 138 = .ok (.iinc 4 1, 3) := by decide +kernel
theorem dX12_runs_141 : decode cX12_runs 141 = .ok (.goto (-120), 3) := by decide +kernel
theorem dX12_runs_144 : decode cX12_runs 144 = .ok (.aload_n 0, 1) := by decide +kernel
theorem dX12_runs_145 : decode cX12_runs 145 = .ok (.getfield 213, 3) := by decide +kernel
theorem dX12_runs_148 : decode cX12_runs 148 = .ok (.iconst (-1), 1) := by decide +kernel
theorem dX12_runs_149 : decode cX12_runs 149 = .ok (.if_icmp .ne 7, 3) := by decide +kernel
theorem dX12_runs_152 : decode cX12_runs 152 = .ok (.iconst 1, 1) := by decide +kernel
theorem dX12_runs_153 : decode cX12_runs 153 = .ok (.goto 4, 3) := by decide +kernel
theorem dX12_runs_156 : decode cX12_runs 156 = .ok (.iconst 0, 1) := by decide +kernel
theorem dX12_runs_157 : decode cX12_runs 157 = .ok (.ireturn, 1) := by decide +kernel
theorem dX12_tell_0 : decode cX12_tell 0 = .ok (.aload_n 0, 1) := by decide +kernel
theorem dX12_tell_1 : decode cX12_tell 1 = .ok (.aload_n 0, 1) := by decide +kernel
theorem dX12_tell_2 : decode cX12_tell 2 = .ok (.getfield 33, 3) := by decide +kernel
theorem dX12_tell_5 : decode cX12_tell 5 = .ok (.iload_n 1, 1) := by decide +kernel
theorem dX12_tell_6 : decode cX12_tell 6 = .ok (.invokevirtual 223, 3) := by decide +kernel
theorem dX12_tell_9 : decode cX12_tell 9 = .ok (.istore_n 2, 1) := by decide +kernel
theorem dX12_tell_10 : decode cX12_tell 10 = .ok (.return_, 1) := by decide +kernel
theorem dX12_tellBoth_0 : decode cX12_tellBoth 0 = .ok (.aload_n 0, 1) := by decide +kernel
theorem dX12_tellBoth_1 : decode cX12_tellBoth 1 = .ok (.iload_n 2, 1) := by decide +kernel
theorem dX12_tellBoth_2 : decode cX12_tellBoth 2 = .ok (.invokevirtual 227, 3) := by decide +kernel
theorem dX12_tellBoth_5 : decode cX12_tellBoth 5 = .ok (.aload_n 0, 1) := by decide +kernel
theorem dX12_tellBoth_6 : decode cX12_tellBoth 6 = .ok (.getfield 43, 3) := by decide +kernel
theorem dX12_tellBoth_9 : decode cX12_tellBoth 9 = .ok (.aload_n 0, 1) := by decide +kernel
theorem dX12_tellBoth_10 : decode cX12_tellBoth 10 = .ok (.getfield 40, 3) := by decide +kernel
theorem dX12_tellBoth_13 : decode cX12_tellBoth 13 = .ok (.invokestatic 178, 3) := by decide +kernel
theorem dX12_tellBoth_16 : decode cX12_tellBoth 16 = .ok (.aload_n 0, 1) := by decide +kernel
theorem dX12_tellBoth_17 : decode cX12_tellBoth 17 = .ok (.iload_n 1, 1) := by decide +kernel
theorem dX12_tellBoth_18 : decode cX12_tellBoth 18 = .ok (.invokevirtual 227, 3) := by decide +kernel
theorem dX12_tellBoth_21 : decode cX12_tellBoth 21 = .ok (.return_, 1) := by decide +kernel
theorem dX12_names_0 : decode cX12_names 0 = .ok (.iconst 0, 1) := by decide +kernel
theorem dX12_names_1 : decode cX12_names 1 = .ok (.istore_n 2, 1) := by decide +kernel
theorem dX12_names_2 : decode cX12_names 2 = .ok (.iload_n 2, 1) := by decide +kernel
theorem dX12_names_3 : decode cX12_names 3 = .ok (.aload_n 1, 1) := by decide +kernel
theorem dX12_names_4 : decode cX12_names 4 = .ok (.arraylength, 1) := by decide +kernel
theorem dX12_names_5 : decode cX12_names 5 = .ok (.sipush 161, 3) := by decide +kernel
theorem dX12_names_8 : decode cX12_names 8 = .ok (.idiv, 1) := by decide +kernel
theorem dX12_names_9 : decode cX12_names 9 = .ok (.if_icmp .ge 62, 3) := by decide +kernel
theorem dX12_names_12 : decode cX12_names 12 = .ok (.iconst 0, 1) := by decide +kernel
theorem dX12_names_13 : decode cX12_names 13 = .ok (.istore_n 3, 1) := by decide +kernel
theorem dX12_names_14 : decode cX12_names 14 = .ok (.iload_n 3, 1) := by decide +kernel
theorem dX12_names_15 : decode cX12_names 15 = .ok (.aload_n 1, 1) := by decide +kernel
theorem dX12_names_16 : decode cX12_names 16 = .ok (.sipush 161, 3) := by decide +kernel
theorem dX12_names_19 : decode cX12_names 19 = .ok (.iload_n 2, 1) := by decide +kernel
theorem dX12_names_20 : decode cX12_names 20 = .ok (.imul, 1) := by decide +kernel
theorem dX12_names_21 : decode cX12_names 21 = .ok (.iaload, 1) := by decide +kernel
theorem dX12_names_22 : decode cX12_names 22 = .ok (.if_icmp .ge 43, 3) := by decide +kernel
theorem dX12_names_25 : decode cX12_names 25 = .ok (.sipush 161, 3) := by decide +kernel
theorem dX12_names_28 : decode cX12_names 28 = .ok (.iload_n 2, 1) := by decide +kernel
theorem dX12_names_29 : decode cX12_names 29 = .ok (.imul, 1) := by decide +kernel
theorem dX12_names_30 : decode cX12_names 30 = .ok (.iconst 1, 1) := by decide +kernel
theorem dX12_names_31 : decode cX12_names 31 = .ok (.iadd, 1) := by decide +kernel
theorem dX12_names_32 : decode cX12_names 32 = .ok (.iconst 4, 1) := by decide +kernel
theorem dX12_names_33 : decode cX12_names 33 = .ok (.iload_n 3, 1) := by decide +kernel
theorem dX12_names_34 : decode cX12_names 34 = .ok (.imul, 1) := by decide +kernel
theorem dX12_names_35 : decode cX12_names 35 = .ok (.iadd, 1) := by decide +kernel
theorem dX12_names_36 : decode cX12_names 36 = .ok (.istore 4, 2) := by decide +kernel
theorem dX12_names_38 : decode cX12_names 38 = .ok (.aload_n 1, 1) := by decide +kernel
theorem dX12_names_39 : decode cX12_names 39 = .ok (.iload 4, 2) := by decide +kernel
theorem dX12_names_41 : decode cX12_names 41 = .ok (.iaload, 1) := by decide +kernel
theorem dX12_names_42 : decode cX12_names 42 = .ok (.bipush 8, 2) := by decide +kernel
theorem dX12_names_44 : decode cX12_names 44 = .ok (.if_icmp .ne 15, 3) := by decide +kernel
theorem dX12_names_47 : decode cX12_names 47 = .ok (.aload_n 0, 1) := by decide +kernel
theorem dX12_names_48 : decode cX12_names 48 = .ok (.getfield 54, 3) := by decide +kernel
theorem dX12_names_51 : decode cX12_names 51 = .ok (.aload_n 1, 1) := by decide +kernel
theorem dX12_names_52 : decode cX12_names 52 = .ok (.iload 4, 2) := by decide +kernel
theorem dX12_names_54 : decode cX12_names 54 = .ok (.iconst 3, 1) := by decide +kernel
theorem dX12_names_55 : decode cX12_names 55 = .ok (.iadd, 1) := by decide +kernel
theorem dX12_names_56 : decode cX12_names 56 = .ok (.iaload, 1) := by decide +kernel
theorem dX12_names_57 : decode cX12_names 57 = .ok (.iconst 1, 1) := by decide +kernel
theorem dX12_names_58 : decode cX12_names 58 = .ok (.bastore, 1) := by decide +kernel
theorem dX12_names_59 : decode cX12_names 59 = .ok (.iinc 3 1, 3) := by decide +kernel
theorem dX12_names_62 : decode cX12_names 62 = .ok (.goto (-48), 3) := by decide +kernel
theorem dX12_names_65 : decode cX12_names 65 = .ok (.iinc 2 1, 3) := by decide +kernel
theorem dX12_names_68 : decode cX12_names 68 = .ok (.goto (-66), 3) := by decide +kernel
theorem dX12_names_71 : decode cX12_names 71 = .ok (.return_, 1) := by decide +kernel
theorem dX12_forgetLaid_0 : decode cX12_forgetLaid 0 = .ok (.iconst 0, 1) := by decide +kernel
theorem dX12_forgetLaid_1 : decode cX12_forgetLaid 1 = .ok (.istore_n 1, 1) := by decide +kernel
theorem dX12_forgetLaid_2 : decode cX12_forgetLaid 2 = .ok (.iload_n 1, 1) := by decide +kernel
theorem dX12_forgetLaid_3 : decode cX12_forgetLaid 3 = .ok (.iconst 4, 1) := by decide +kernel
theorem dX12_forgetLaid_4 : decode cX12_forgetLaid 4 = .ok (.if_icmp .ge 16, 3) := by decide +kernel
theorem dX12_forgetLaid_7 : decode cX12_forgetLaid 7 = .ok (.aload_n 0, 1) := by decide +kernel
theorem dX12_forgetLaid_8 : decode cX12_forgetLaid 8 = .ok (.getfield 71, 3) := by decide +kernel
theorem dX12_forgetLaid_11 : decode cX12_forgetLaid 11 = .ok (.iload_n 1, 1) := by decide +kernel
theorem dX12_forgetLaid_12 : decode cX12_forgetLaid 12 = .ok (.iconst (-1), 1) := by decide +kernel
theorem dX12_forgetLaid_13 : decode cX12_forgetLaid 13 = .ok (.iastore, 1) := by decide +kernel
theorem dX12_forgetLaid_14 : decode cX12_forgetLaid 14 = .ok (.iinc 1 1, 3) := by decide +kernel
theorem dX12_forgetLaid_17 : decode cX12_forgetLaid 17 = .ok (.goto (-15), 3) := by decide +kernel
theorem dX12_forgetLaid_20 : decode cX12_forgetLaid 20 = .ok (.return_, 1) := by decide +kernel
theorem dX12_onTop_0 : decode cX12_onTop 0 = .ok (.aload_n 0, 1) := by decide +kernel
theorem dX12_onTop_1 : decode cX12_onTop 1 = .ok (.getfield 71, 3) := by decide +kernel
theorem dX12_onTop_4 : decode cX12_onTop 4 = .ok (.iload_n 1, 1) := by decide +kernel
theorem dX12_onTop_5 : decode cX12_onTop 5 = .ok (.iaload, 1) := by decide +kernel
theorem dX12_onTop_6 : decode cX12_onTop 6 = .ok (.iconst (-1), 1) := by decide +kernel
theorem dX12_onTop_7 : decode cX12_onTop 7 = .ok (.if_icmp .eq 10, 3) := by decide +kernel
theorem dX12_onTop_10 : decode cX12_onTop 10 = .ok (.aload_n 0, 1) := by decide +kernel
theorem dX12_onTop_11 : decode cX12_onTop 11 = .ok (.getfield 71, 3) := by decide +kernel
theorem dX12_onTop_14 : decode cX12_onTop 14 = .ok (.iload_n 1, 1) := by decide +kernel
theorem dX12_onTop_15 : decode cX12_onTop 15 = .ok (.iaload, 1) := by decide +kernel
theorem dX12_onTop_16 : decode cX12_onTop 16 = .ok (.ireturn, 1) := by decide +kernel
theorem dX12_onTop_17 : decode cX12_onTop 17 = .ok (.iconst 0, 1) := by decide +kernel
theorem dX12_onTop_18 : decode cX12_onTop 18 = .ok (.istore_n 2, 1) := by decide +kernel
theorem dX12_onTop_19 : decode cX12_onTop 19 = .ok (.iload_n 2, 1) := by decide +kernel
theorem dX12_onTop_20 : decode cX12_onTop 20 = .ok (.aload_n 0, 1) := by decide +kernel
theorem dX12_onTop_21 : decode cX12_onTop 21 = .ok (.getfield 54, 3) := by decide +kernel
theorem dX12_onTop_24 : decode cX12_onTop 24 = .ok (.arraylength, 1) := by decide +kernel
theorem dX12_onTop_25 : decode cX12_onTop 25 = .ok (.if_icmp .ge 16, 3) := by decide +kernel
theorem dX12_onTop_28 : decode cX12_onTop 28 = .ok (.aload_n 0, 1) := by decide +kernel
theorem dX12_onTop_29 : decode cX12_onTop 29 = .ok (.getfield 54, 3) := by decide +kernel
theorem dX12_onTop_32 : decode cX12_onTop 32 = .ok (.iload_n 2, 1) := by decide +kernel
theorem dX12_onTop_33 : decode cX12_onTop 33 = .ok (.iconst 0, 1) := by decide +kernel
theorem dX12_onTop_34 : decode cX12_onTop 34 = .ok (.bastore, 1) := by decide +kernel
theorem dX12_onTop_35 : decode cX12_onTop 35 = .ok (.iinc 2 1, 3) := by decide +kernel
theorem dX12_onTop_38 : decode cX12_onTop 38 = .ok (.goto (-19), 3) := by decide +kernel
