theorem dX9_stretch_49 : decode cX9_stretch 49 = .ok (.iload 4, 2) := by decide +kernel
theorem dX9_stretch_51 : decode cX9_stretch 51 = .ok (.aload_n 0, 1) := by decide +kernel
theorem dX9_stretch_52 : decode cX9_stretch 52 = .ok (.iload_n 1, 1) := by decide +kernel
theorem dX9_stretch_53 : decode cX9_stretch 53 = .ok (.invokevirtual 337, 3) := by decide +kernel
theorem dX9_stretch_56 : decode cX9_stretch 56 = .ok (.if_icmp .ge 32, 3) := by decide +kernel
theorem dX9_stretch_59 : decode cX9_stretch 59 = .ok (.iload_n 3, 1) := by decide +kernel
theorem dX9_stretch_60 : decode cX9_stretch 60 = .ok (.aload_n 0, 1) := by decide +kernel
theorem dX9_stretch_61 : decode cX9_stretch 61 = .ok (.getfield 86, 3) := by decide +kernel
theorem dX9_stretch_64 : decode cX9_stretch 64 = .ok (.iload 4, 2) := by decide +kernel
theorem dX9_stretch_66 : decode cX9_stretch 66 = .ok (.iconst 1, 1) := by decide +kernel
theorem dX9_stretch_67 : decode cX9_stretch 67 = .ok (.iadd, 1) := by decide +kernel
theorem dX9_stretch_68 : decode cX9_stretch 68 = .ok (.iaload, 1) := by decide +kernel
theorem dX9_stretch_69 : decode cX9_stretch 69 = .ok (.aload_n 0, 1) := by decide +kernel
theorem dX9_stretch_70 : decode cX9_stretch 70 = .ok (.getfield 86, 3) := by decide +kernel
theorem dX9_stretch_73 : decode cX9_stretch 73 = .ok (.iload 4, 2) := by decide +kernel
theorem dX9_stretch_75 : decode cX9_stretch 75 = .ok (.iaload, 1) := by decide +kernel
theorem dX9_stretch_76 : decode cX9_stretch 76 = .ok (.isub, 1) := by decide +kernel
theorem dX9_stretch_77 : decode cX9_stretch 77 = .ok (.invokestatic 372, 3) := by decide +kernel
theorem dX9_stretch_80 : decode cX9_stretch 80 = .ok (.iadd, 1) := by decide +kernel
theorem dX9_stretch_81 : decode cX9_stretch 81 = .ok (.istore_n 3, 1) := by decide +kernel
theorem dX9_stretch_82 : decode cX9_stretch 82 = .ok (.iinc 4 1, 3) := by decide +kernel
theorem dX9_stretch_85 : decode cX9_stretch 85 = .ok (.goto (-36), 3) := by decide +kernel
theorem dX9_stretch_88 : decode cX9_stretch 88 = .ok (.iload_n 3, 1) := by decide +kernel
theorem dX9_stretch_89 : decode cX9_stretch 89 = .ok (.ireturn, 1) := by decide +kernel
theorem dX9_off_0 : decode cX9_off 0 = .ok (.aload_n 0, 1) := by decide +kernel
theorem dX9_off_1 : decode cX9_off 1 = .ok (.iconst 0, 1) := by decide +kernel
theorem dX9_off_2 : decode cX9_off 2 = .ok (.putfield 132, 3) := by decide +kernel
theorem dX9_off_5 : decode cX9_off 5 = .ok (.aload_n 0, 1) := by decide +kernel
theorem dX9_off_6 : decode cX9_off 6 = .ok (.iload_n 1, 1) := by decide +kernel
theorem dX9_off_7 : decode cX9_off 7 = .ok (.invokevirtual 310, 3) := by decide +kernel
theorem dX9_off_10 : decode cX9_off 10 = .ok (.ifCond .eq 13, 3) := by decide +kernel
theorem dX9_off_13 : decode cX9_off 13 = .ok (.iload_n 3, 1) := by decide +kernel
theorem dX9_off_14 : decode cX9_off 14 = .ok (.i2l, 1) := by decide +kernel
theorem dX9_off_15 : decode cX9_off 15 = .ok (.lconst 0, 1) := by decide +kernel
theorem dX9_off_16 : decode cX9_off 16 = .ok (.lconst 1, 1) := by decide +kernel
theorem dX9_off_17 : decode cX9_off 17 = .ok (.invokestatic 166, 3) := by decide +kernel
theorem dX9_off_20 : decode cX9_off 20 = .ok (.ifCond .ne 9, 3) := by decide +kernel
theorem dX9_off_23 : decode cX9_off 23 = .ok (.aload_n 0, 1) := by decide +kernel
theorem dX9_off_24 : decode cX9_off 24 = .ok (.iconst 1, 1) := by decide +kernel
theorem dX9_off_25 : decode cX9_off 25 = .ok (.invokevirtual 313, 3) := by decide +kernel
theorem dX9_off_28 : decode cX9_off 28 = .ok (.ireturn, 1) := by decide +kernel
theorem dX9_off_29 : decode cX9_off 29 = .ok (.iload_n 2, 1) := by decide +kernel
theorem dX9_off_30 : decode cX9_off 30 = .ok (.i2l, 1) := by decide +kernel
theorem dX9_off_31 : decode cX9_off 31 = .ok (.lconst 0, 1) := by decide +kernel
theorem dX9_off_32 : decode cX9_off 32 = .ok (.ldc2_w 375, 3) := by decide +kernel
theorem dX9_off_35 : decode cX9_off 35 = .ok (.invokestatic 166, 3) := by decide +kernel
theorem dX9_off_38 : decode cX9_off 38 = .ok (.ifCond .ne 9, 3) := by decide +kernel
theorem dX9_off_41 : decode cX9_off 41 = .ok (.aload_n 0, 1) := by decide +kernel
theorem dX9_off_42 : decode cX9_off 42 = .ok (.iconst 2, 1) := by decide +kernel
theorem dX9_off_43 : decode cX9_off 43 = .ok (.invokevirtual 313, 3) := by decide +kernel
theorem dX9_off_46 : decode cX9_off 46 = .ok (.ireturn, 1) := by decide +kernel
theorem dX9_off_47 : decode cX9_off 47 = .ok (.aload_n 0, 1) := by decide +kernel
theorem dX9_off_48 : decode cX9_off 48 = .ok (.iload_n 1, 1) := by decide +kernel
theorem dX9_off_49 : decode cX9_off 49 = .ok (.invokevirtual 227, 3) := by decide +kernel
theorem dX9_off_52 : decode cX9_off 52 = .ok (.iload_n 3, 1) := by decide +kernel
theorem dX9_off_53 : decode cX9_off 53 = .ok (.ifCond .ne 13, 3) := by decide +kernel
theorem dX9_off_56 : decode cX9_off 56 = .ok (.aload_n 0, 1) := by decide +kernel
theorem dX9_off_57 : decode cX9_off 57 = .ok (.getfield 40, 3) := by decide +kernel
theorem dX9_off_60 : decode cX9_off 60 = .ok (.invokestatic 147, 3) := by decide +kernel
theorem dX9_off_63 : decode cX9_off 63 = .ok (.goto 10, 3) := by decide +kernel
theorem dX9_off_66 : decode cX9_off 66 = .ok (.aload_n 0, 1) := by decide +kernel
theorem dX9_off_67 : decode cX9_off 67 = .ok (.getfield 40, 3) := by decide +kernel
theorem dX9_off_70 : decode cX9_off 70 = .ok (.invokestatic 151, 3) := by decide +kernel
theorem dX9_off_73 : decode cX9_off 73 = .ok (.istore 4, 2) := by decide +kernel
theorem dX9_off_75 : decode cX9_off 75 = .ok (.iload 4, 2) := by decide +kernel
theorem dX9_off_77 : decode cX9_off 77 = .ok (.invokestatic 363, 3) := by decide +kernel
theorem dX9_off_80 : decode cX9_off 80 = .ok (.ldc_w 360, 3) := by decide +kernel
theorem dX9_off_83 : decode cX9_off 83 = .ok (.if_icmp .ne 7, 3) := by decide +kernel
theorem dX9_off_86 : decode cX9_off 86 = .ok (.ldc_w 360, 3) := by decide +kernel
theorem dX9_off_89 : decode cX9_off 89 = .ok (.ireturn, 1) := by decide +kernel
theorem dX9_off_90 : decode cX9_off 90 = .ok (.aload_n 0, 1) := by decide +kernel
theorem dX9_off_91 : decode cX9_off 91 = .ok (.getfield 40, 3) := by decide +kernel
theorem dX9_off_94 : decode cX9_off 94 = .ok (.invokestatic 182, 3) := by decide +kernel
theorem dX9_off_97 : decode cX9_off 97 = .ok (.iload_n 2, 1) := by decide +kernel
theorem dX9_off_98 : decode cX9_off 98 = .ok (.i2l, 1) := by decide +kernel
theorem dX9_off_99 : decode cX9_off 99 = .ok (.ladd, 1) := by decide +kernel
theorem dX9_off_100 : decode cX9_off 100 = .ok (.lstore 5, 2) := by decide +kernel
theorem dX9_off_102 : decode cX9_off 102 = .ok (.iload_n 3, 1) := by decide +kernel
theorem dX9_off_103 : decode cX9_off 103 = .ok (.ifCond .ne 7, 3) := by decide +kernel
theorem dX9_off_106 : decode cX9_off 106 = .ok (.iconst (-1), 1) := by decide +kernel
theorem dX9_off_107 : decode cX9_off 107 = .ok (.goto 4, 3) := by decide +kernel
theorem dX9_off_110 : decode cX9_off 110 = .ok (.iconst 1, 1) := by decide +kernel
theorem dX9_off_111 : decode cX9_off 111 = .ok (.istore 7, 2) := by decide +kernel
theorem dX9_off_113 : decode cX9_off 113 = .ok (.iload 4, 2) := by decide +kernel
theorem dX9_off_115 : decode cX9_off 115 = .ok (.istore 8, 2) := by decide +kernel
theorem dX9_off_117 : decode cX9_off 117 = .ok (.iload 4, 2) := by decide +kernel
theorem dX9_off_119 : decode cX9_off 119 = .ok (.iload 7, 2) := by decide +kernel
theorem dX9_off_121 : decode cX9_off 121 = .ok (.ldc_w 377, 3) := by decide +kernel
theorem dX9_off_124 : decode cX9_off 124 = .ok (.imul, 1) := by decide +kernel
theorem dX9_off_125 : decode cX9_off 125 = .ok (.iadd, 1) := by decide +kernel
theorem dX9_off_126 : decode cX9_off 126 = .ok (.istore 9, 2) := by decide +kernel
theorem dX9_off_128 : decode cX9_off 128 = .ok (.iload 9, 2) := by decide +kernel
theorem dX9_off_130 : decode cX9_off 130 = .ok (.iload 8, 2) := by decide +kernel
theorem dX9_off_132 : decode cX9_off 132 = .ok (.isub, 1) := by decide +kernel
theorem dX9_off_133 : decode cX9_off 133 = .ok (.invokestatic 372, 3) := by decide +kernel
theorem dX9_off_136 : decode cX9_off 136 = .ok (.iconst 1, 1) := by decide +kernel
theorem dX9_off_137 : decode cX9_off 137 = .ok (.if_icmp .le 44, 3) := by decide +kernel
theorem dX9_off_140 : decode cX9_off 140 = .ok (.iload 8, 2) := by decide +kernel
theorem dX9_off_142 : decode cX9_off 142 = .ok (.iload 9, 2) := by decide +kernel
theorem dX9_off_144 : decode cX9_off 144 = .ok (.iload 8, 2) := by decide +kernel
theorem dX9_off_146 : decode cX9_off 146 = .ok (.isub, 1) := by decide +kernel
theorem dX9_off_147 : decode cX9_off 147 = .ok (.iconst 2, 1) := by decide +kernel
theorem dX9_off_148 : decode cX9_off 148 = .ok (.idiv, 1) := by decide +kernel
theorem dX9_off_149 : decode cX9_off 149 = .ok (.iadd, 1) := by decide +kernel
theorem dX9_off_150 : decode cX9_off 150 = .ok (.istore 10, 2) := by decide +kernel
theorem dX9_off_152 : decode cX9_off 152 = .ok (.aload_n 0, 1) := by decide +kernel
theorem dX9_off_153 : decode cX9_off 153 = .ok (.getfield 40, 3) := by decide +kernel
theorem dX9_off_156 : decode cX9_off 156 = .ok (.iload 10, 2) := by decide +kernel
theorem dX9_off_158 : decode cX9_off 158 = .ok (.invokestatic 158, 3) := by decide +kernel
theorem dX9_off_161 : decode cX9_off 161 = .ok (.lload 5, 2) := by decide +kernel
theorem dX9_off_163 : decode cX9_off 163 = .ok (.lcmp, 1) := by decide +kernel
theorem dX9_off_164 : decode cX9_off 164 = .ok (.ifCond .gt 10, 3) := by decide +kernel
theorem dX9_off_167 : decode cX9_off 167 = .ok (.iload 10, 2) := by decide +kernel
theorem dX9_off_169 : decode cX9_off 169 = .ok (.istore 8, 2) := by decide +kernel
theorem dX9_off_171 : decode cX9_off 171 = .ok (.goto 7, 3) := by decide +kernel
theorem dX9_off_174 : decode cX9_off 174 = .ok (.iload 10, 2) := by decide +kernel
theorem dX9_off_176 : decode cX9_off 176 = .ok (.istore 9, 2) := by decide +kernel
theorem dX9_off_178 : decode cX9_off 178 = .ok (.goto (-50), 3) := by decide +kernel
theorem dX9_off_181 : decode cX9_off 181 = .ok (.iload 8, 2) := by decide +kernel
theorem dX9_off_183 : decode cX9_off 183 = .ok (.ireturn, 1) := by decide +kernel
theorem dX9_last_0 : decode cX9_last 0 = .ok (.aload_n 0, 1) := by decide +kernel
theorem dX9_last_1 : decode cX9_last 1 = .ok (.iconst 0, 1) := by decide +kernel
theorem dX9_last_2 : decode cX9_last 2 = .ok (.iaload, 1) := by decide +kernel
theorem dX9_last_3 : decode cX9_last 3 = .ok (.aload_n 0, 1) := by decide +kernel
theorem dX9_last_4 : decode cX9_last 4 = .ok (.invokestatic 205, 3) := by decide +kernel
theorem dX9_last_7 : decode cX9_last 7 = .ok (.iadd, 1) := by decide +kernel
theorem dX9_last_8 : decode cX9_last 8 = .ok (.ireturn, 1) := by decide +kernel
theorem dX9_isBound_0 : decode cX9_isBound 0 = .ok (.iload_n 1, 1) := by decide +kernel
theorem dX9_isBound_1 : decode cX9_isBound 1 = .ok (.aload_n 0, 1) := by decide +kernel
theorem dX9_isBound_2 : decode cX9_isBound 2 = .ok (.iconst 0, 1) := by decide +kernel
theorem dX9_isBound_3 : decode cX9_isBound 3 = .ok (.iaload, 1) := by decide +kernel
theorem dX9_isBound_4 : decode cX9_isBound 4 = .ok (.if_icmp .lt 15, 3) := by decide +kernel
theorem dX9_isBound_7 : decode cX9_isBound 7 = .ok (.iload_n 1, 1) := by decide +kernel
theorem dX9_isBound_8 : decode cX9_isBound 8 = .ok (.aload_n 0, 1) := by decide +kernel
theorem dX9_isBound_9 : decode cX9_isBound 9 = .ok (.invokestatic 378, 3) := by decide +kernel
theorem dX9_isBound_12 : decode cX9_isBound 12 = .ok (.if_icmp .gt 7, 3) := by decide +kernel
theorem dX9_isBound_15 : decode cX9_isBound 15 = .ok (.iconst 1, 1) := by decide +kernel
theorem dX9_isBound_16 : decode cX9_isBound 16 = .ok (.goto 4, 3) := by decide +kernel
theorem dX9_isBound_19 : decode cX9_isBound 19 = .ok (.iconst 0, 1) := by decide +kernel
theorem dX9_isBound_20 : decode cX9_isBound 20 = .ok (.ireturn, 1) := by decide +kernel
theorem dX9_standsAt_0 : decode cX9_standsAt 0 = .ok (.aload_n 0, 1) := by decide +kernel
theorem dX9_standsAt_1 : decode cX9_standsAt 1 = .ok (.iload_n 1, 1) := by decide +kernel
theorem dX9_standsAt_2 : decode cX9_standsAt 2 = .ok (.invokestatic 143, 3) := by decide +kernel
theorem dX9_standsAt_5 : decode cX9_standsAt 5 = .ok (.aload_n 0, 1) := by decide +kernel
theorem dX9_standsAt_6 : decode cX9_standsAt 6 = .ok (.iload_n 1, 1) := by decide +kernel
theorem dX9_standsAt_7 : decode cX9_standsAt 7 = .ok (.iconst 1, 1) := by decide +kernel
theorem dX9_standsAt_8 : decode cX9_standsAt 8 = .ok (.iadd, 1) := by decide +kernel
theorem dX9_standsAt_9 : decode cX9_standsAt 9 = .ok (.invokestatic 143, 3) := by decide +kernel
theorem dX9_standsAt_12 : decode cX9_standsAt 12 = .ok (.iconst 0, 1) := by decide +kernel
theorem dX9_standsAt_13 : decode cX9_standsAt 13 = .ok (.invokestatic 154, 3) := by decide +kernel
theorem dX9_standsAt_16 : decode cX9_standsAt 16 = .ok (.ireturn, 1) := by decide +kernel
theorem dX9_againstOf_0 : decode cX9_againstOf 0 = .ok (.aload_n 0, 1) := by decide +kernel
theorem dX9_againstOf_1 : decode cX9_againstOf 1 = .ok (.iload_n 1, 1) := by decide +kernel
theorem dX9_againstOf_2 : decode cX9_againstOf 2 = .ok (.invokestatic 381, 3) := by decide +kernel
theorem dX9_againstOf_5 : decode cX9_againstOf 5 = .ok (.istore_n 2, 1) := by decide +kernel
theorem dX9_againstOf_6 : decode cX9_againstOf 6 = .ok (.iload_n 1, 1) := by decide +kernel
theorem dX9_againstOf_7 : decode cX9_againstOf 7 = .ok (.i2l, 1) := by decide +kernel
theorem dX9_againstOf_8 : decode cX9_againstOf 8 = .ok (.iload_n 2, 1) := by decide +kernel
theorem dX9_againstOf_9 : decode cX9_againstOf 9 = .ok (.i2l, 1) := by decide +kernel
theorem dX9_againstOf_10 : decode cX9_againstOf 10 = .ok (.lmul, 1) := by decide +kernel
theorem dX9_againstOf_11 : decode cX9_againstOf 11 = .ok (.aload_n 0, 1) := by decide +kernel
theorem dX9_againstOf_12 : decode cX9_againstOf 12 = .ok (.iload_n 2, 1) := by decide +kernel
theorem dX9_againstOf_13 : decode cX9_againstOf 13 = .ok (.invokestatic 158, 3) := by decide +kernel
theorem dX9_againstOf_16 : decode cX9_againstOf 16 = .ok (.lsub, 1) := by decide +kernel
theorem dX9_againstOf_17 : decode cX9_againstOf 17 = .ok (.lreturn, 1) := by decide +kernel
theorem dX9_against_0 : decode cX9_against 0 = .ok (.aload_n 0, 1) := by decide +kernel
theorem dX9_against_1 : decode cX9_against 1 = .ok (.iconst 0, 1) := by decide +kernel
theorem dX9_against_2 : decode cX9_against 2 = .ok (.putfield 132, 3) := by decide +kernel
theorem dX9_against_5 : decode cX9_against 5 = .ok (.aload_n 0, 1) := by decide +kernel
theorem dX9_against_6 : decode cX9_against 6 = .ok (.iload_n 1, 1) := by decide +kernel
theorem dX9_against_7 : decode cX9_against 7 = .ok (.invokevirtual 310, 3) := by decide +kernel
theorem dX9_against_10 : decode cX9_against 10 = .ok (.ifCond .eq 13, 3) := by decide +kernel
theorem dX9_against_13 : decode cX9_against 13 = .ok (.iload_n 3, 1) := by decide +kernel
theorem dX9_against_14 : decode cX9_against 14 = .ok (.i2l, 1) := by decide +kernel
theorem dX9_against_15 : decode cX9_against 15 = .ok (.lconst 0, 1) := by decide +kernel
theorem dX9_against_16 : decode cX9_against 16 = .ok (.lconst 1, 1) := by decide +kernel
theorem dX9_against_17 : decode cX9_against 17 = .ok (.invokestatic 166, 3) := by decide +kernel
theorem dX9_against_20 : decode cX9_against 20 = .ok (.ifCond .ne 10, 3) := by decide +kernel
theorem dX9_against_23 : decode cX9_against 23 = .ok (.aload_n 0, 1) := by decide +kernel
theorem dX9_against_24 : decode cX9_against 24 = .ok (.iconst 1, 1) := by decide +kernel
theorem dX9_against_25 : decode cX9_against 25 = .ok (.invokevirtual 313, 3) := by decide +kernel
theorem dX9_against_28 : decode cX9_against 28 = .ok (.i2l, 1) := by decide +kernel
theorem dX9_against_29 : decode cX9_against 29 = .ok (.lreturn, 1) := by decide +kernel
theorem dX9_against_30 : decode cX9_against 30 = .ok (.iload_n 2, 1) := by decide +kernel
theorem dX9_against_31 : decode cX9_against 31 = .ok (.i2l, 1) := by decide +kernel
theorem dX9_against_32 : decode cX9_against 32 = .ok (.ldc2_w 384, 3) := by decide +kernel
theorem dX9_against_35 : decode cX9_against 35 = .ok (.ldc2_w 386, 3) := by decide +kernel
theorem dX9_against_38 : decode cX9_against 38 = .ok (.invokestatic 166, 3) := by decide +kernel
theorem dX9_against_41 : decode cX9_against 41 = .ok (.ifCond .ne 10, 3) := by decide +kernel
theorem dX9_against_44 : decode cX9_against 44 = .ok (.aload_n 0, 1) := by decide +kernel
theorem dX9_against_45 : decode cX9_against 45 = .ok (.iconst 2, 1) := by decide +kernel
theorem dX9_against_46 : decode cX9_against 46 = .ok (.invokevirtual 313, 3) := by decide +kernel
theorem dX9_against_49 : decode cX9_against 49 = .ok (.i2l, 1) := by decide +kernel
theorem dX9_against_50 : decode cX9_against 50 = .ok (.lreturn, 1) := by decide +kernel
theorem dX9_against_51 : decode cX9_against 51 = .ok (.aload_n 0, 1) := by decide +kernel
theorem dX9_against_52 : decode cX9_against 52 = .ok (.iload_n 1, 1) := by decide +kernel
theorem dX9_against_53 : decode cX9_against 53 = .ok (.invokevirtual 227, 3) := by decide +kernel
theorem dX9_against_56 : decode cX9_against 56 = .ok (.aload_n 0, 1) := by decide +kernel
theorem dX9_against_57 : decode cX9_against 57 = .ok (.getfield 40, 3) := by decide +kernel
theorem dX9_against_60 : decode cX9_against 60 = .ok (.iload_n 2, 1) := by decide +kernel
theorem dX9_against_61 : decode cX9_against 61 = .ok (.invokestatic 388, 3) := by decide +kernel
theorem dX9_against_64 : decode cX9_against 64 = .ok (.ifCond .ne 7, 3) := by decide +kernel
theorem dX9_against_67 : decode cX9_against 67 = .ok (.ldc2_w 391, 3) := by decide +kernel
theorem dX9_against_70 : decode cX9_against 70 = .ok (.lreturn, 1) := by decide +kernel
theorem dX9_against_71 : decode cX9_against 71 = .ok (.iload_n 3, 1) := by decide +kernel
theorem dX9_against_72 : decode cX9_against 72 = .ok (.ifCond .ne 14, 3) := by decide +kernel
theorem dX9_against_75 : decode cX9_against 75 = .ok (.aload_n 0, 1) := by decide +kernel
theorem dX9_against_76 : decode cX9_against 76 = .ok (.getfield 40, 3) := by decide +kernel
theorem dX9_against_79 : decode cX9_against 79 = .ok (.iload_n 2, 1) := by decide +kernel
theorem dX9_against_80 : decode cX9_against 80 = .ok (.invokestatic 393, 3) := by decide +kernel
theorem dX9_against_83 : decode cX9_against 83 = .ok (.goto 12, 3) := by decide +kernel
theorem dX9_against_86 : decode cX9_against 86 = .ok (.aload_n 0, 1) := by decide +kernel
theorem dX9_against_87 : decode cX9_against 87 = .ok (.getfield 40, 3) := by decide +kernel
theorem dX9_against_90 : decode cX9_against 90 = .ok (.iload_n 2, 1) := by decide +kernel
theorem dX9_against_91 : decode cX9_against 91 = .ok (.invokestatic 381, 3) := by decide +kernel
theorem dX9_against_94 : decode cX9_against 94 = .ok (.i2l, 1) := by decide +kernel
theorem dX9_against_95 : decode cX9_against 95 = .ok (.lreturn, 1) := by decide +kernel
theorem dX9_addStands_0 : decode cX9_addStands 0 = .ok (.aload_n 0, 1) := by decide +kernel
theorem dX9_addStands_1 : decode cX9_addStands 1 = .ok (.aload_n 0, 1) := by decide +kernel
theorem dX9_addStands_2 : decode cX9_addStands 2 = .ok (.getfield 396, 3) := by decide +kernel
theorem dX9_addStands_5 : decode cX9_addStands 5 = .ok (.aload_n 1, 1) := by decide +kernel
theorem dX9_addStands_6 : decode cX9_addStands 6 = .ok (.iconst 0, 1) := by decide +kernel
theorem dX9_addStands_7 : decode cX9_addStands 7 = .ok (.iaload, 1) := by decide +kernel
theorem dX9_addStands_8 : decode cX9_addStands 8 = .ok (.invokestatic 186, 3) := by decide +kernel
theorem dX9_addStands_11 : decode cX9_addStands 11 = .ok (.putfield 396, 3) := by decide +kernel
theorem dX9_addStands_14 : decode cX9_addStands 14 = .ok (.aload_n 0, 1) := by decide +kernel
theorem dX9_addStands_15 : decode cX9_addStands 15 = .ok (.aload_n 0, 1) := by decide +kernel
theorem dX9_addStands_16 : decode cX9_addStands 16 = .ok (.getfield 399, 3) := by decide +kernel
theorem dX9_addStands_19 : decode cX9_addStands 19 = .ok (.aload_n 1, 1) := by decide +kernel
theorem dX9_addStands_20 : decode cX9_addStands 20 = .ok (.invokestatic 378, 3) := by decide +kernel
theorem dX9_addStands_23 : decode cX9_addStands 23 = .ok (.invokestatic 135, 3) := by decide +kernel
theorem dX9_addStands_26 : decode cX9_addStands 26 = .ok (.putfield 399, 3) := by decide +kernel
theorem dX9_addStands_29 : decode cX9_addStands 29 = .ok (.aload_n 1, 1) := by decide +kernel
theorem dX9_addStands_30 : decode cX9_addStands 30 = .ok (.iconst 0, 1) := by decide +kernel
theorem dX9_addStands_31 : decode cX9_addStands 31 = .ok (.iaload, 1) := by decide +kernel
theorem dX9_addStands_32 : decode cX9_addStands 32 = .ok (.istore_n 2, 1) := by decide +kernel
theorem dX9_addStands_33 : decode cX9_addStands 33 = .ok (.aload_n 1, 1) := by decide +kernel
theorem dX9_addStands_34 : decode cX9_addStands 34 = .ok (.iconst 1, 1) := by decide +kernel
theorem dX9_addStands_35 : decode cX9_addStands 35 = .ok (.iaload, 1) := by decide +kernel
theorem dX9_addStands_36 : decode cX9_addStands 36 = .ok (.i2l, 1) := by decide +kernel
theorem dX9_addStands_37 : decode cX9_addStands 37 = .ok (.lstore_n 3, 1) := by decide +kernel
theorem dX9_addStands_38 : decode cX9_addStands 38 = .ok (.aload_n 0, 1) := by decide +kernel
theorem dX9_addStands_39 : decode cX9_addStands 39 = .ok (.getfield 93, 3) := by decide +kernel
theorem dX9_addStands_42 : decode cX9_addStands 42 = .ok (.sipush 5000, 3) := by decide +kernel
theorem dX9_addStands_45 : decode cX9_addStands 45 = .ok (.iload_n 2, 1) := by decide +kernel
theorem dX9_addStands_46 : decode cX9_addStands 46 = .ok (.iadd, 1) := by decide +kernel
theorem dX9_addStands_47 : decode cX9_addStands 47 = .ok (.iload_n 2, 1) := by decide +kernel
theorem dX9_addStands_48 : decode cX9_addStands 48 = .ok (.i2l, 1) := by decide +kernel
theorem dX9_addStands_49 : decode cX9_addStands 49 = .ok (.ldc2_w 162, 3) := by decide +kernel
theorem dX9_addStands_52 : decode cX9_addStands 52 = .ok (.lmul, 1) := by decide +kernel
theorem dX9_addStands_53 : decode cX9_addStands 53 = .ok (.lload_n 3, 1) := by decide +kernel
theorem dX9_addStands_54 : decode cX9_addStands 54 = .ok (.lsub, 1) := by decide +kernel
theorem dX9_addStands_55 : decode cX9_addStands 55 = .ok (.lastore, 1) := by decide +kernel
theorem dX9_addStands_56 : decode cX9_addStands 56 = .ok (.iconst 0, 1) := by decide +kernel
theorem dX9_addStands_57 : decode cX9_addStands 57 = .ok (.istore 5, 2) := by decide +kernel
theorem dX9_addStands_59 : decode cX9_addStands 59 = .ok (.iload 5, 2) := by decide +kernel
theorem dX9_addStands_61 : decode cX9_addStands 61 = .ok (.sipush 10001, 3) := by decide +kernel
theorem dX9_addStands_64 : decode cX9_addStands 64 = .ok (.if_icmp .ge 71, 3) := by decide +kernel
theorem dX9_addStands_67 : decode cX9_addStands 67 = .ok (.aload_n 1, 1) := by decide +kernel
theorem dX9_addStands_68 : decode cX9_addStands 68 = .ok (.iconst 2, 1) := by decide +kernel
theorem dX9_addStands_69 : decode cX9_addStands 69 = .ok (.iload 5, 2) := by decide +kernel
theorem dX9_addStands_71 : decode cX9_addStands 71 = .ok (.iadd, 1) := by decide +kernel
theorem dX9_addStands_72 : decode cX9_addStands 72 = .ok (.iaload, 1) := by decide +kernel
theorem dX9_addStands_73 : decode cX9_addStands 73 = .ok (.istore 6, 2) := by decide +kernel
theorem dX9_addStands_75 : decode cX9_addStands 75 = .ok (.iload_n 2, 1) := by decide +kernel
theorem dX9_addStands_76 : decode cX9_addStands 76 = .ok (.iconst 1, 1) := by decide +kernel
theorem dX9_addStands_77 : decode cX9_addStands 77 = .ok (.iadd, 1) := by decide +kernel
theorem dX9_addStands_78 : decode cX9_addStands 78 = .ok (.istore 7, 2) := by decide +kernel
theorem dX9_addStands_80 : decode cX9_addStands 80 = .ok (.iload 7, 2) := by decide +kernel
theorem dX9_addStands_82 : decode cX9_addStands 82 = .ok (.iload_n 2, 1) := by decide +kernel
theorem dX9_addStands_83 : decode cX9_addStands 83 = .ok (.iload 6, 2) := by decide +kernel
theorem dX9_addStands_85 : decode cX9_addStands 85 = .ok (.iadd, 1) := by decide +kernel
theorem dX9_addStands_86 : decode cX9_addStands 86 = .ok (.if_icmp .gt 33, 3) := by decide +kernel
theorem dX9_addStands_89 : decode cX9_addStands 89 = .ok (.aload_n 0, 1) := by decide +kernel
theorem dX9_addStands_90 : decode cX9_addStands 90 = .ok (.getfield 93, 3) := by decide +kernel
theorem dX9_addStands_93 : decode cX9_addStands 93 = .ok (.sipush 5000, 3) := by decide +kernel
theorem dX9_addStands_96 : decode cX9_addStands 96 = .ok (.iload 7, 2) := by decide +kernel
theorem dX9_addStands_98 : decode cX9_addStands 98 = .ok (.iadd, 1) := by decide +kernel
theorem dX9_addStands_99 : decode cX9_addStands 99 = .ok (.iload 7, 2) := by decide +kernel
theorem dX9_addStands_101 : decode cX9_addStands 101 = .ok (.i2l, 1) := by decide +kernel
theorem dX9_addStands_102 : decode cX9_addStands 102 = .ok (.iload 5, 2) := by decide +kernel
theorem dX9_addStands_104 : decode cX9_addStands 104 = .ok (.sipush 5000, 3) := by decide +kernel
theorem dX9_addStands_107 : decode cX9_addStands 107 = .ok (.isub, 1) := by decide +kernel
theorem dX9_addStands_108 : decode cX9_addStands 108 = .ok (.i2l, 1) := by decide +kernel
theorem dX9_addStands_109 : decode cX9_addStands 109 = .ok (.lmul, 1) := by decide +kernel
theorem dX9_addStands_110 : decode cX9_addStands 110 = .ok (.lload_n 3, 1) := by decide +kernel
theorem dX9_addStands_111 : decode cX9_addStands 111 = .ok (.lsub, 1) := by decide +kernel
theorem dX9_addStands_112 : decode cX9_addStands 112 = .ok (.lastore, 1) := by decide +kernel
theorem dX9_addStands_113 : decode cX9_addStands 113 = .ok (.iinc 7 1, 3) := by decide +kernel
theorem dX9_addStands_116 : decode cX9_addStands 116 = .ok (.goto (-36), 3) := by decide +kernel
theorem dX9_addStands_119 : decode cX9_addStands 119 = .ok (.iload_n 2, 1) := by decide +kernel
theorem dX9_addStands_120 : decode cX9_addStands 120 = .ok (.iload 6, 2) := by decide +kernel
theorem dX9_addStands_122 : decode cX9_addStands 122 = .ok (.iadd, 1) := by decide +kernel
theorem dX9_addStands_123 : decode cX9_addStands 123 = .ok (.istore_n 2, 1) := by decide +kernel
theorem dX9_addStands_124 : decode cX9_addStands 124 = .ok (.lload_n 3, 1) := by decide +kernel
theorem dX9_addStands_125 : decode cX9_addStands 125 = .ok (.iload_n 2, 1) := by decide +kernel
theorem dX9_addStands_126 : decode cX9_addStands 126 = .ok (.i2l, 1) := by decide +kernel
theorem dX9_addStands_127 : decode cX9_addStands 127 = .ok (.ladd, 1) := by decide +kernel
theorem dX9_addStands_128 : decode cX9_addStands 128 = .ok (.lstore_n 3, 1) := by decide +kernel
theorem dX9_addStands_129 : decode cX9_addStands 129 = .ok (.iinc 5 1, 3) := by decide +kernel
theorem dX9_addStands_132 : decode cX9_addStands 132 = .ok (.goto (-73), 3) := by decide +kernel
theorem dX9_addStands_135 : decode cX9_addStands 135 = .ok (.aload_n 1, 1) := by decide +kernel
theorem dX9_addStands_136 : decode cX9_addStands 136 = .ok (.iconst 0, 1) := by decide +kernel
theorem dX9_addStands_137 : decode cX9_addStands 137 = .ok (.iaload, 1) := by decide +kernel
theorem dX9_addStands_138 : decode cX9_addStands 138 = .ok (.istore 5, 2) := by decide +kernel
theorem dX9_addStands_140 : decode cX9_addStands 140 = .ok (.iload 5, 2) := by decide +kernel
theorem dX9_addStands_142 : decode cX9_addStands 142 = .ok (.iload_n 2, 1) := by decide +kernel
theorem dX9_addStands_143 : decode cX9_addStands 143 = .ok (.if_icmp .gt 34, 3) := by decide +kernel
theorem dX9_addStands_146 : decode cX9_addStands 146 = .ok (.aload_n 0, 1) := by decide +kernel
theorem dX9_addStands_147 : decode cX9_addStands 147 = .ok (.getfield 89, 3) := by decide +kernel
theorem dX9_addStands_150 : decode cX9_addStands 150 = .ok (.sipush 5000, 3) := by decide +kernel
theorem dX9_addStands_153 : decode cX9_addStands 153 = .ok (.iload 5, 2) := by decide +kernel
theorem dX9_addStands_155 : decode cX9_addStands 155 = .ok (.iadd, 1) := by decide +kernel
theorem dX9_addStands_156 : decode cX9_addStands 156 = .ok (.dup2, 1) := by decide +kernel
theorem dX9_addStands_157 : decode cX9_addStands 157 = .ok (.laload, 1) := by decide +kernel
theorem dX9_addStands_158 : decode cX9_addStands 158 = .ok (.aload_n 0, 1) := by decide +kernel
theorem dX9_addStands_159 : decode cX9_addStands 159 = .ok (.getfield 93, 3) := by decide +kernel
theorem dX9_addStands_162 : decode cX9_addStands 162 = .ok (.sipush 5000, 3) := by decide +kernel
theorem dX9_addStands_165 : decode cX9_addStands 165 = .ok (.iload 5, 2) := by decide +kernel
theorem dX9_addStands_167 : decode cX9_addStands 167 = .ok (.iadd, 1) := by decide +kernel
theorem dX9_addStands_168 : decode cX9_addStands 168 = .ok (.laload, 1) := by decide +kernel
theorem dX9_addStands_169 : decode cX9_addStands 169 = .ok (.ladd, 1) := by decide +kernel
theorem dX9_addStands_170 : decode cX9_addStands 170 = .ok (.lastore, 1) := by decide +kernel
theorem dX9_addStands_171 : decode cX9_addStands 171 = .ok (.iinc 5 1, 3) := by decide +kernel
theorem dX9_addStands_174 : decode cX9_addStands 174 = .ok (.goto (-34), 3) := by decide +kernel
theorem dX9_addStands_177 : decode cX9_addStands 177 = .ok (.return_, 1) := by decide +kernel
theorem dX9_clearStands_0 : decode cX9_clearStands 0 = .ok (.aload_n 0, 1) := by decide +kernel
theorem dX9_clearStands_1 : decode cX9_clearStands 1 = .ok (.sipush (-5000), 3) := by decide +kernel
theorem dX9_clearStands_4 : decode cX9_clearStands 4 = .ok (.putfield 396, 3) := by decide +kernel
theorem dX9_clearStands_7 : decode cX9_clearStands 7 = .ok (.aload_n 0, 1) := by decide +kernel
theorem dX9_clearStands_8 : decode cX9_clearStands 8 = .ok (.sipush 5000, 3) := by decide +kernel
theorem dX9_clearStands_11 : decode cX9_clearStands 11 = .ok (.putfield 399, 3) := by decide +kernel
theorem dX9_clearStands_14 : decode cX9_clearStands 14 = .ok (.iconst 0, 1) := by decide +kernel
theorem dX9_clearStands_15 : decode cX9_clearStands 15 = .ok (.istore_n 1, 1) := by decide +kernel
theorem dX9_clearStands_16 : decode cX9_clearStands 16 = .ok (.iload_n 1, 1) := by decide +kernel
theorem dX9_clearStands_17 : decode cX9_clearStands 17 = .ok (.aload_n 0, 1) := by decide +kernel
theorem dX9_clearStands_18 : decode cX9_clearStands 18 = .ok (.getfield 89, 3) := by decide +kernel
theorem dX9_clearStands_21 : decode cX9_clearStands 21 = .ok (.arraylength, 1) := by decide +kernel
theorem dX9_clearStands_22 : decode cX9_clearStands 22 = .ok (.if_icmp .ge 16, 3) := by decide +kernel
theorem dX9_clearStands_25 : decode cX9_clearStands 25 = .ok (.aload_n 0, 1) := by decide +kernel
theorem dX9_clearStands_26 : decode cX9_clearStands 26 = .ok (.getfield 89, 3) := by decide +kernel
theorem dX9_clearStands_29 : decode cX9_clearStands 29 = .ok (.iload_n 1, 1) := by decide +kernel
theorem dX9_clearStands_30 : decode cX9_clearStands 30 = .ok (.lconst 0, 1) := by decide +kernel
theorem dX9_clearStands_31 : decode cX9_clearStands 31 = .ok (.lastore, 1) := by decide +kernel
theorem dX9_clearStands_32 : decode cX9_clearStands 32 = .ok (.iinc 1 1, 3) := by decide +kernel
theorem dX9_clearStands_35 : decode cX9_clearStands 35 = .ok (.goto (-19), 3) := by decide +kernel
theorem dX9_clearStands_38 : decode cX9_clearStands 38 = .ok (.return_, 1) := by decide +kernel
theorem dX9_together_0 : decode cX9_together 0 = .ok (.aload_n 0, 1) := by decide +kernel
theorem dX9_together_1 : decode cX9_together 1 = .ok (.aload_n 0, 1) := by decide +kernel
theorem dX9_together_2 : decode cX9_together 2 = .ok (.getfield 396, 3) := by decide +kernel
theorem dX9_together_5 : decode cX9_together 5 = .ok (.putfield 402, 3) := by decide +kernel
theorem dX9_together_8 : decode cX9_together 8 = .ok (.aload_n 0, 1) := by decide +kernel
theorem dX9_together_9 : decode cX9_together 9 = .ok (.getfield 396, 3) := by decide +kernel
theorem dX9_together_12 : decode cX9_together 12 = .ok (.i2l, 1) := by decide +kernel
theorem dX9_together_13 : decode cX9_together 13 = .ok (.iload_n 1, 1) := by decide +kernel
theorem dX9_together_14 : decode cX9_together 14 = .ok (.i2l, 1) := by decide +kernel
theorem dX9_together_15 : decode cX9_together 15 = .ok (.lmul, 1) := by decide +kernel
theorem dX9_together_16 : decode cX9_together 16 = .ok (.aload_n 0, 1) := by decide +kernel
theorem dX9_together_17 : decode cX9_together 17 = .ok (.getfield 89, 3) := by decide +kernel
theorem dX9_together_20 : decode cX9_together 20 = .ok (.sipush 5000, 3) := by decide +kernel
theorem dX9_together_23 : decode cX9_together 23 = .ok (.aload_n 0, 1) := by decide +kernel
theorem dX9_together_24 : decode cX9_together 24 = .ok (.getfield 396, 3) := by decide +kernel
theorem dX9_together_27 : decode cX9_together 27 = .ok (.iadd, 1) := by decide +kernel
theorem dX9_together_28 : decode cX9_together 28 = .ok (.laload, 1) := by decide +kernel
theorem dX9_together_29 : decode cX9_together 29 = .ok (.lsub, 1) := by decide +kernel
theorem dX9_together_30 : decode cX9_together 30 = .ok (.lstore_n 2, 1) := by decide +kernel
theorem dX9_together_31 : decode cX9_together 31 = .ok (.aload_n 0, 1) := by decide +kernel
theorem dX9_together_32 : decode cX9_together 32 = .ok (.getfield 396, 3) := by decide +kernel
theorem dX9_together_35 : decode cX9_together 35 = .ok (.iconst 1, 1) := by decide +kernel
theorem dX9_together_36 : decode cX9_together 36 = .ok (.iadd, 1) := by decide +kernel
theorem dX9_together_37 : decode cX9_together 37 = .ok (.istore 4, 2) := by decide +kernel
theorem dX9_together_39 : decode cX9_together 39 = .ok (.iload 4, 2) := by decide +kernel
theorem dX9_together_41 : decode cX9_together 41 = .ok (.aload_n 0, 1) := by decide +kernel
theorem dX9_together_42 : decode cX9_together 42 = .ok (.getfield 399, 3) := by decide +kernel
theorem dX9_together_45 : decode cX9_together 45 = .ok (.if_icmp .gt 48, 3) := by decide +kernel
theorem dX9_together_48 : decode cX9_together 48 = .ok (.iload 4, 2) := by decide +kernel
theorem dX9_together_50 : decode cX9_together 50 = .ok (.i2l, 1) := by decide +kernel
theorem dX9_together_51 : decode cX9_together 51 = .ok (.iload_n 1, 1) := by decide +kernel
theorem dX9_together_52 : decode cX9_together 52 = .ok (.i2l, 1) := by decide +kernel
theorem dX9_together_53 : decode cX9_together 53 = .ok (.lmul, 1) := by decide +kernel
theorem dX9_together_54 : decode cX9_together 54 = .ok (.aload_n 0, 1) := by decide +kernel
theorem dX9_together_55 : decode cX9_together 55 = .ok (.getfield 89, 3) := by decide +kernel
theorem dX9_together_58 : decode cX9_together 58 = .ok (.sipush 5000, 3) := by decide +kernel
theorem dX9_together_61 : decode cX9_together 61 = .ok (.iload 4, 2) := by decide +kernel
theorem dX9_together_63 : decode cX9_together 63 = .ok (.iadd, 1) := by decide +kernel
theorem dX9_together_64 : decode cX9_together 64 = .ok (.laload, 1) := by decide +kernel
theorem dX9_together_65 : decode cX9_together 65 = .ok (.lsub, 1) := by decide +kernel
theorem dX9_together_66 : decode cX9_together 66 = .ok (.lstore 5, 2) := by decide +kernel
theorem dX9_together_68 : decode cX9_together 68 = .ok (.lload 5, 2) := by decide +kernel
theorem dX9_together_70 : decode cX9_together 70 = .ok (.lload_n 2, 1) := by decide +kernel
theorem dX9_together_71 : decode cX9_together 71 = .ok (.lcmp, 1) := by decide +kernel
theorem dX9_together_72 : decode cX9_together 72 = .ok (.ifCond .gt 6, 3) := by decide +kernel
theorem dX9_together_75 : decode cX9_together 75 = .ok (.goto 12, 3) := by decide +kernel
theorem dX9_together_78 : decode cX9_together 78 = .ok (.lload 5, 2) := by decide +kernel
theorem dX9_together_80 : decode cX9_together 80 = .ok (.lstore_n 2, 1) := by decide +kernel
theorem dX9_together_81 : decode cX9_together 81 = .ok (.aload_n 0, 1) := by decide +kernel
theorem dX9_together_82 : decode cX9_together 82 = .ok (.iload 4, 2) := by decide +kernel
theorem dX9_together_84 : decode cX9_together 84 = .ok (.putfield 402, 3) := by decide +kernel
theorem dX9_together_87 : decode cX9_together 87 = .ok (.iinc 4 1, 3) := by decide +kernel
theorem dX9_together_90 : decode cX9_together 90 = .ok (.goto (-51), 3) := by decide +kernel
theorem dX9_together_93 : decode cX9_together 93 = .ok (.lload_n 2, 1) := by decide +kernel
theorem dX9_together_94 : decode cX9_together 94 = .ok (.lreturn, 1) := by decide +kernel
theorem dX9_splitNow_0 : decode cX9_splitNow 0 = .ok (.aload_n 0, 1) := by decide +kernel
theorem dX9_splitNow_1 : decode cX9_splitNow 1 = .ok (.iload_n 1, 1) := by decide +kernel
theorem dX9_splitNow_2 : decode cX9_splitNow 2 = .ok (.iload_n 2, 1) := by decide +kernel
theorem dX9_splitNow_3 : decode cX9_splitNow 3 = .ok (.invokevirtual 405, 3) := by decide +kernel
theorem dX9_splitNow_6 : decode cX9_splitNow 6 = .ok (.aload_n 0, 1) := by decide +kernel
theorem dX9_splitNow_7 : decode cX9_splitNow 7 = .ok (.invokevirtual 408, 3) := by decide +kernel
theorem dX9_splitNow_10 : decode cX9_splitNow 10 = .ok (.aload_n 0, 1) := by decide +kernel
theorem dX9_splitNow_11 : decode cX9_splitNow 11 = .ok (.aload_n 0, 1) := by decide +kernel
theorem dX9_splitNow_12 : decode cX9_splitNow 12 = .ok (.getfield 40, 3) := by decide +kernel
theorem dX9_splitNow_15 : decode cX9_splitNow 15 = .ok (.invokevirtual 411, 3) := by decide +kernel
theorem dX9_splitNow_18 : decode cX9_splitNow 18 = .ok (.aload_n 0, 1) := by decide +kernel
theorem dX9_splitNow_19 : decode cX9_splitNow 19 = .ok (.aload_n 0, 1) := by decide +kernel
theorem dX9_splitNow_20 : decode cX9_splitNow 20 = .ok (.getfield 43, 3) := by decide +kernel
theorem dX9_splitNow_23 : decode cX9_splitNow 23 = .ok (.invokevirtual 411, 3) := by decide +kernel
theorem dX9_splitNow_26 : decode cX9_splitNow 26 = .ok (.aload_n 0, 1) := by decide +kernel
theorem dX9_splitNow_27 : decode cX9_splitNow 27 = .ok (.iload_n 3, 1) := by decide +kernel
theorem dX9_splitNow_28 : decode cX9_splitNow 28 = .ok (.invokevirtual 414, 3) := by decide +kernel
theorem dX9_splitNow_31 : decode cX9_splitNow 31 = .ok (.lreturn, 1) := by decide +kernel
theorem dX9_refusal_0 : decode cX9_refusal 0 = .ok (.aload_n 0, 1) := by decide +kernel
theorem dX9_refusal_1 : decode cX9_refusal 1 = .ok (.iload_n 1, 1) := by decide +kernel
theorem dX9_refusal_2 : decode cX9_refusal 2 = .ok (.invokevirtual 310, 3) := by decide +kernel
theorem dX9_refusal_5 : decode cX9_refusal 5 = .ok (.ifCond .eq 11, 3) := by decide +kernel
theorem dX9_refusal_8 : decode cX9_refusal 8 = .ok (.aload_n 0, 1) := by decide +kernel
theorem dX9_refusal_9 : decode cX9_refusal 9 = .ok (.iload_n 2, 1) := by decide +kernel
theorem dX9_refusal_10 : decode cX9_refusal 10 = .ok (.invokevirtual 310, 3) := by decide +kernel
theorem dX9_refusal_13 : decode cX9_refusal 13 = .ok (.ifCond .ne 7, 3) := by decide +kernel
theorem dX9_refusal_16 : decode cX9_refusal 16 = .ok (.iconst 1, 1) := by decide +kernel
theorem dX9_refusal_17 : decode cX9_refusal 17 = .ok (.goto 15, 3) := by decide +kernel
theorem dX9_refusal_20 : decode cX9_refusal 20 = .ok (.iload_n 3, 1) := by decide +kernel
theorem dX9_refusal_21 : decode cX9_refusal 21 = .ok (.invokestatic 353, 3) := by decide +kernel
theorem dX9_refusal_24 : decode cX9_refusal 24 = .ok (.ifCond .eq 7, 3) := by decide +kernel
theorem dX9_refusal_27 : decode cX9_refusal 27 = .ok (.iconst 0, 1) := by decide +kernel
theorem dX9_refusal_28 : decode cX9_refusal 28 = .ok (.goto 4, 3) := by decide +kernel
theorem dX9_refusal_31 : decode cX9_refusal 31 = .ok (.iconst 2, 1) := by decide +kernel
theorem dX9_refusal_32 : decode cX9_refusal 32 = .ok (.ireturn, 1) := by decide +kernel
theorem dX9_split_0 : decode cX9_split 0 = .ok (.aload_n 0, 1) := by decide +kernel
theorem dX9_split_1 : decode cX9_split 1 = .ok (.iconst 0, 1) := by decide +kernel
theorem dX9_split_2 : decode cX9_split 2 = .ok (.putfield 132, 3) := by decide +kernel
theorem dX9_split_5 : decode cX9_split 5 = .ok (.aload_n 0, 1) := by decide +kernel
theorem dX9_split_6 : decode cX9_split 6 = .ok (.iload_n 1, 1) := by decide +kernel
theorem dX9_split_7 : decode cX9_split 7 = .ok (.iload_n 2, 1) := by decide +kernel
theorem dX9_split_8 : decode cX9_split 8 = .ok (.iload_n 3, 1) := by decide +kernel
theorem dX9_split_9 : decode cX9_split 9 = .ok (.invokevirtual 418, 3) := by decide +kernel
theorem dX9_split_12 : decode cX9_split 12 = .ok (.istore 4, 2) := by decide +kernel
theorem dX9_split_14 : decode cX9_split 14 = .ok (.iload 4, 2) := by decide +kernel
theorem dX9_split_16 : decode cX9_split 16 = .ok (.ifCond .le 13, 3) := by decide +kernel
theorem dX9_split_19 : decode cX9_split 19 = .ok (.aload_n 0, 1) := by decide +kernel
theorem dX9_split_20 : decode cX9_split 20 = .ok (.iload 4, 2) := by decide +kernel
