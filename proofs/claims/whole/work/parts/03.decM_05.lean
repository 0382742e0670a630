theorem dX12_stretch_49 : decode cX12_stretch 49 = .ok (.iload 4, 2) := by decide +kernel
theorem dX12_stretch_51 : decode cX12_stretch 51 = .ok (.aload_n 0, 1) := by decide +kernel
theorem dX12_stretch_52 : decode cX12_stretch 52 = .ok (.iload_n 1, 1) := by decide +kernel
theorem dX12_stretch_53 : decode cX12_stretch 53 = .ok (.invokevirtual 337, 3) := by decide +kernel
theorem dX12_stretch_56 : decode cX12_stretch 56 = .ok (.if_icmp .ge 32, 3) := by decide +kernel
theorem dX12_stretch_59 : decode cX12_stretch 59 = .ok (.iload_n 3, 1) := by decide +kernel
theorem dX12_stretch_60 : decode cX12_stretch 60 = .ok (.aload_n 0, 1) := by decide +kernel
theorem dX12_stretch_61 : decode cX12_stretch 61 = .ok (.getfield 86, 3) := by decide +kernel
theorem dX12_stretch_64 : decode cX12_stretch 64 = .ok (.iload 4, 2) := by decide +kernel
theorem dX12_stretch_66 : decode cX12_stretch 66 = .ok (.iconst 1, 1) := by decide +kernel
theorem dX12_stretch_67 : decode cX12_stretch 67 = .ok (.iadd, 1) := by decide +kernel
theorem dX12_stretch_68 : decode cX12_stretch 68 = .ok (.iaload, 1) := by decide +kernel
theorem dX12_stretch_69 : decode cX12_stretch 69 = .ok (.aload_n 0, 1) := by decide +kernel
theorem dX12_stretch_70 : decode cX12_stretch 70 = .ok (.getfield 86, 3) := by decide +kernel
theorem dX12_stretch_73 : decode cX12_stretch 73 = .ok (.iload 4, 2) := by decide +kernel
theorem dX12_stretch_75 : decode cX12_stretch 75 = .ok (.iaload, 1) := by decide +kernel
theorem dX12_stretch_76 : decode cX12_stretch 76 = .ok (.isub, 1) := by decide +kernel
theorem dX12_stretch_77 : decode cX12_stretch 77 = .ok (.invokestatic 372, 3) := by decide +kernel
theorem dX12_stretch_80 : decode cX12_stretch 80 = .ok (.iadd, 1) := by decide +kernel
theorem dX12_stretch_81 : decode cX12_stretch 81 = .ok (.istore_n 3, 1) := by decide +kernel
theorem dX12_stretch_82 : decode cX12_stretch 82 = .ok (.iinc 4 1, 3) := by decide +kernel
theorem dX12_stretch_85 : decode cX12_stretch 85 = .ok (.goto (-36), 3) := by decide +kernel
theorem dX12_stretch_88 : decode cX12_stretch 88 = .ok (.iload_n 3, 1) := by decide +kernel
theorem dX12_stretch_89 : decode cX12_stretch 89 = .ok (.ireturn, 1) := by decide +kernel
theorem dX12_off_0 : decode cX12_off 0 = .ok (.aload_n 0, 1) := by decide +kernel
theorem dX12_off_1 : decode cX12_off 1 = .ok (.iconst 0, 1) := by decide +kernel
theorem dX12_off_2 : decode cX12_off 2 = .ok (.putfield 132, 3) := by decide +kernel
theorem dX12_off_5 : decode cX12_off 5 = .ok (.aload_n 0, 1) := by decide +kernel
theorem dX12_off_6 : decode cX12_off 6 = .ok (.iload_n 1, 1) := by decide +kernel
theorem dX12_off_7 : decode cX12_off 7 = .ok (.invokevirtual 310, 3) := by decide +kernel
theorem dX12_off_10 : decode cX12_off 10 = .ok (.ifCond .eq 13, 3) := by decide +kernel
theorem dX12_off_13 : decode cX12_off 13 = .ok (.iload_n 3, 1) := by decide +kernel
theorem dX12_off_14 : decode cX12_off 14 = .ok (.i2l, 1) := by decide +kernel
theorem dX12_off_15 : decode cX12_off 15 = .ok (.lconst 0, 1) := by decide +kernel
theorem dX12_off_16 : decode cX12_off 16 = .ok (.lconst 1, 1) := by decide +kernel
theorem dX12_off_17 : decode cX12_off 17 = .ok (.invokestatic 166, 3) := by decide +kernel
theorem dX12_off_20 : decode cX12_off 20 = .ok (.ifCond .ne 9, 3) := by decide +kernel
theorem dX12_off_23 : decode cX12_off 23 = .ok (.aload_n 0, 1) := by decide +kernel
theorem dX12_off_24 : decode cX12_off 24 = .ok (.iconst 1, 1) := by decide +kernel
theorem dX12_off_25 : decode cX12_off 25 = .ok (.invokevirtual 313, 3) := by decide +kernel
theorem dX12_off_28 : decode cX12_off 28 = .ok (.ireturn, 1) := by decide +kernel
theorem dX12_off_29 : decode cX12_off 29 = .ok (.iload_n 2, 1) := by decide +kernel
theorem dX12_off_30 : decode cX12_off 30 = .ok (.i2l, 1) := by decide +kernel
theorem dX12_off_31 : decode cX12_off 31 = .ok (.lconst 0, 1) := by decide +kernel
theorem dX12_off_32 : decode cX12_off 32 = .ok (.ldc2_w 375, 3) := by decide +kernel
theorem dX12_off_35 : decode cX12_off 35 = .ok (.invokestatic 166, 3) := by decide +kernel
theorem dX12_off_38 : decode cX12_off 38 = .ok (.ifCond .ne 9, 3) := by decide +kernel
theorem dX12_off_41 : decode cX12_off 41 = .ok (.aload_n 0, 1) := by decide +kernel
theorem dX12_off_42 : decode cX12_off 42 = .ok (.iconst 2, 1) := by decide +kernel
theorem dX12_off_43 : decode cX12_off 43 = .ok (.invokevirtual 313, 3) := by decide +kernel
theorem dX12_off_46 : decode cX12_off 46 = .ok (.ireturn, 1) := by decide +kernel
theorem dX12_off_47 : decode cX12_off 47 = .ok (.aload_n 0, 1) := by decide +kernel
theorem dX12_off_48 : decode cX12_off 48 = .ok (.iload_n 1, 1) := by decide +kernel
theorem dX12_off_49 : decode cX12_off 49 = .ok (.invokevirtual 227, 3) := by decide +kernel
theorem dX12_off_52 : decode cX12_off 52 = .ok (.iload_n 3, 1) := by decide +kernel
theorem dX12_off_53 : decode cX12_off 53 = .ok (.ifCond .ne 13, 3) := by decide +kernel
theorem dX12_off_56 : decode cX12_off 56 = .ok (.aload_n 0, 1) := by decide +kernel
theorem dX12_off_57 : decode cX12_off 57 = .ok (.getfield 40, 3) := by decide +kernel
theorem dX12_off_60 : decode cX12_off 60 = .ok (.invokestatic 147, 3) := by decide +kernel
theorem dX12_off_63 : decode cX12_off 63 = .ok (.goto 10, 3) := by decide +kernel
theorem dX12_off_66 : decode cX12_off 66 = .ok (.aload_n 0, 1) := by decide +kernel
theorem dX12_off_67 : decode cX12_off 67 = .ok (.getfield 40, 3) := by decide +kernel
theorem dX12_off_70 : decode cX12_off 70 = .ok (.invokestatic 151, 3) := by decide +kernel
theorem dX12_off_73 : decode cX12_off 73 = .ok (.istore 4, 2) := by decide +kernel
theorem dX12_off_75 : decode cX12_off 75 = .ok (.iload 4, 2) := by decide +kernel
theorem dX12_off_77 : decode cX12_off 77 = .ok (.invokestatic 363, 3) := by decide +kernel
theorem dX12_off_80 : decode cX12_off 80 = .ok (.ldc_w 360, 3) := by decide +kernel
theorem dX12_off_83 : decode cX12_off 83 = .ok (.if_icmp .ne 7, 3) := by decide +kernel
theorem dX12_off_86 : decode cX12_off 86 = .ok (.ldc_w 360, 3) := by decide +kernel
theorem dX12_off_89 : decode cX12_off 89 = .ok (.ireturn, 1) := by decide +kernel
theorem dX12_off_90 : decode cX12_off 90 = .ok (.aload_n 0, 1) := by decide +kernel
theorem dX12_off_91 : decode cX12_off 91 = .ok (.getfield 40, 3) := by decide +kernel
theorem dX12_off_94 : decode cX12_off 94 = .ok (.invokestatic 182, 3) := by decide +kernel
theorem dX12_off_97 : decode cX12_off 97 = .ok (.iload_n 2, 1) := by decide +kernel
theorem dX12_off_98 : decode cX12_off 98 = .ok (.i2l, 1) := by decide +kernel
theorem dX12_off_99 : decode cX12_off 99 = .ok (.ladd, 1) := by decide +kernel
theorem dX12_off_100 : decode cX12_off 100 = .ok (.lstore 5, 2) := by decide +kernel
theorem dX12_off_102 : decode cX12_off 102 = .ok (.iload_n 3, 1) := by decide +kernel
theorem dX12_off_103 : decode cX12_off 103 = .ok (.ifCond .ne 7, 3) := by decide +kernel
theorem dX12_off_106 : decode cX12_off 106 = .ok (.iconst (-1), 1) := by decide +kernel
theorem dX12_off_107 : decode cX12_off 107 = .ok (.goto 4, 3) := by decide +kernel
theorem dX12_off_110 : decode cX12_off 110 = .ok (.iconst 1, 1) := by decide +kernel
theorem dX12_off_111 : decode cX12_off 111 = .ok (.istore 7, 2) := by decide +kernel
theorem dX12_off_113 : decode cX12_off 113 = .ok (.iload 4, 2) := by decide +kernel
theorem dX12_off_115 : decode cX12_off 115 = .ok (.istore 8, 2) := by decide +kernel
theorem dX12_off_117 : decode cX12_off 117 = .ok (.iload 4, 2) := by decide +kernel
theorem dX12_off_119 : decode cX12_off 119 = .ok (.iload 7, 2) := by decide +kernel
theorem dX12_off_121 : decode cX12_off 121 = .ok (.ldc_w 377, 3) := by decide +kernel
theorem dX12_off_124 : decode cX12_off 124 = .ok (.imul, 1) := by decide +kernel
theorem dX12_off_125 : decode cX12_off 125 = .ok (.iadd, 1) := by decide +kernel
theorem dX12_off_126 : decode cX12_off 126 = .ok (.istore 9, 2) := by decide +kernel
theorem dX12_off_128 : decode cX12_off 128 = .ok (.iload 9, 2) := by decide +kernel
theorem dX12_off_130 : decode cX12_off 130 = .ok (.iload 8, 2) := by decide +kernel
theorem dX12_off_132 : decode cX12_off 132 = .ok (.isub, 1) := by decide +kernel
theorem dX12_off_133 : decode cX12_off 133 = .ok (.invokestatic 372, 3) := by decide +kernel
theorem dX12_off_136 : decode cX12_off 136 = .ok (.iconst 1, 1) := by decide +kernel
theorem dX12_off_137 : decode cX12_off 137 = .ok (.if_icmp .le 44, 3) := by decide +kernel
theorem dX12_off_140 : decode cX12_off 140 = .ok (.iload 8, 2) := by decide +kernel
theorem dX12_off_142 : decode cX12_off 142 = .ok (.iload 9, 2) := by decide +kernel
theorem dX12_off_144 : decode cX12_off 144 = .ok (.iload 8, 2) := by decide +kernel
theorem dX12_off_146 : decode cX12_off 146 = .ok (.isub, 1) := by decide +kernel
theorem dX12_off_147 : decode cX12_off 147 = .ok (.iconst 2, 1) := by decide +kernel
theorem dX12_off_148 : decode cX12_off 148 = .ok (.idiv, 1) := by decide +kernel
theorem dX12_off_149 : decode cX12_off 149 = .ok (.iadd, 1) := by decide +kernel
theorem dX12_off_150 : decode cX12_off 150 = .ok (.istore 10, 2) := by decide +kernel
theorem dX12_off_152 : decode cX12_off 152 = .ok (.aload_n 0, 1) := by decide +kernel
theorem dX12_off_153 : decode cX12_off 153 = .ok (.getfield 40, 3) := by decide +kernel
theorem dX12_off_156 : decode cX12_off 156 = .ok (.iload 10, 2) := by decide +kernel
theorem dX12_off_158 : decode cX12_off 158 = .ok (.invokestatic 158, 3) := by decide +kernel
theorem dX12_off_161 : decode cX12_off 161 = .ok (.lload 5, 2) := by decide +kernel
theorem dX12_off_163 : decode cX12_off 163 = .ok (.lcmp, 1) := by decide +kernel
theorem dX12_off_164 : decode cX12_off 164 = .ok (.ifCond .gt 10, 3) := by decide +kernel
theorem dX12_off_167 : decode cX12_off 167 = .ok (.iload 10, 2) := by decide +kernel
theorem dX12_off_169 : decode cX12_off 169 = .ok (.istore 8, 2) := by decide +kernel
theorem dX12_off_171 : decode cX12_off 171 = .ok (.goto 7, 3) := by decide +kernel
theorem dX12_off_174 : decode cX12_off 174 = .ok (.iload 10, 2) := by decide +kernel
theorem dX12_off_176 : decode cX12_off 176 = .ok (.istore 9, 2) := by decide +kernel
theorem dX12_off_178 : decode cX12_off 178 = .ok (.goto (-50), 3) := by decide +kernel
theorem dX12_off_181 : decode cX12_off 181 = .ok (.iload 8, 2) := by decide +kernel
theorem dX12_off_183 : decode cX12_off 183 = .ok (.ireturn, 1) := by decide +kernel
theorem dX12_last_0 : decode cX12_last 0 = .ok (.aload_n 0, 1) := by decide +kernel
theorem dX12_last_1 : decode cX12_last 1 = .ok (.iconst 0, 1) := by decide +kernel
theorem dX12_last_2 : decode cX12_last 2 = .ok (.iaload, 1) := by decide +kernel
theorem dX12_last_3 : decode cX12_last 3 = .ok (.aload_n 0, 1) := by decide +kernel
theorem dX12_last_4 : decode cX12_last 4 = .ok (.invokestatic 205, 3) := by decide +kernel
theorem dX12_last_7 : decode cX12_last 7 = .ok (.iadd, 1) := by decide +kernel
theorem dX12_last_8 : decode cX12_last 8 = .ok (.ireturn, 1) := by decide +kernel
theorem dX12_isBound_0 : decode cX12_isBound 0 = .ok (.iload_n 1, 1) := by decide +kernel
theorem dX12_isBound_1 : decode cX12_isBound 1 = .ok (.aload_n 0, 1) := by decide +kernel
theorem dX12_isBound_2 : decode cX12_isBound 2 = .ok (.iconst 0, 1) := by decide +kernel
theorem dX12_isBound_3 : decode cX12_isBound 3 = .ok (.iaload, 1) := by decide +kernel
theorem dX12_isBound_4 : decode cX12_isBound 4 = .ok (.if_icmp .lt 15, 3) := by decide +kernel
theorem dX12_isBound_7 : decode cX12_isBound 7 = .ok (.iload_n 1, 1) := by decide +kernel
theorem dX12_isBound_8 : decode cX12_isBound 8 = .ok (.aload_n 0, 1) := by decide +kernel
theorem dX12_isBound_9 : decode cX12_isBound 9 = .ok (.invokestatic 378, 3) := by decide +kernel
theorem dX12_isBound_12 : decode cX12_isBound 12 = .ok (.if_icmp .gt 7, 3) := by decide +kernel
theorem dX12_isBound_15 : decode cX12_isBound 15 = .ok (.iconst 1, 1) := by decide +kernel
theorem dX12_isBound_16 : decode cX12_isBound 16 = .ok (.goto 4, 3) := by decide +kernel
theorem dX12_isBound_19 : decode cX12_isBound 19 = .ok (.iconst 0, 1) := by decide +kernel
theorem dX12_isBound_20 : decode cX12_isBound 20 = .ok (.ireturn, 1) := by decide +kernel
theorem dX12_standsAt_0 : decode cX12_standsAt 0 = .ok (.aload_n 0, 1) := by decide +kernel
theorem dX12_standsAt_1 : decode cX12_standsAt 1 = .ok (.iload_n 1, 1) := by decide +kernel
theorem dX12_standsAt_2 : decode cX12_standsAt 2 = .ok (.invokestatic 143, 3) := by decide +kernel
theorem dX12_standsAt_5 : decode cX12_standsAt 5 = .ok (.aload_n 0, 1) := by decide +kernel
theorem dX12_standsAt_6 : decode cX12_standsAt 6 = .ok (.iload_n 1, 1) := by decide +kernel
theorem dX12_standsAt_7 : decode cX12_standsAt 7 = .ok (.iconst 1, 1) := by decide +kernel
theorem dX12_standsAt_8 : decode cX12_standsAt 8 = .ok (.iadd, 1) := by decide +kernel
theorem dX12_standsAt_9 : decode cX12_standsAt 9 = .ok (.invokestatic 143, 3) := by decide +kernel
theorem dX12_standsAt_12 : decode cX12_standsAt 12 = .ok (.iconst 0, 1) := by decide +kernel
theorem dX12_standsAt_13 : decode cX12_standsAt 13 = .ok (.invokestatic 154, 3) := by decide +kernel
theorem dX12_standsAt_16 : decode cX12_standsAt 16 = .ok (.ireturn, 1) := by decide +kernel
theorem dX12_againstOf_0 : decode cX12_againstOf 0 = .ok (.aload_n 0, 1) := by decide +kernel
theorem dX12_againstOf_1 : decode cX12_againstOf 1 = .ok (.iload_n 1, 1) := by decide +kernel
theorem dX12_againstOf_2 : decode cX12_againstOf 2 = .ok (.invokestatic 381, 3) := by decide +kernel
theorem dX12_againstOf_5 : decode cX12_againstOf 5 = .ok (.istore_n 2, 1) := by decide +kernel
theorem dX12_againstOf_6 : decode cX12_againstOf 6 = .ok (.iload_n 1, 1) := by decide +kernel
theorem dX12_againstOf_7 : decode cX12_againstOf 7 = .ok (.i2l, 1) := by decide +kernel
theorem dX12_againstOf_8 : decode cX12_againstOf 8 = .ok (.iload_n 2, 1) := by decide +kernel
theorem dX12_againstOf_9 : decode cX12_againstOf 9 = .ok (.i2l, 1) := by decide +kernel
theorem dX12_againstOf_10 : decode cX12_againstOf 10 = .ok (.lmul, 1) := by decide +kernel
theorem dX12_againstOf_11 : decode cX12_againstOf 11 = .ok (.aload_n 0, 1) := by decide +kernel
theorem dX12_againstOf_12 : decode cX12_againstOf 12 = .ok (.iload_n 2, 1) := by decide +kernel
theorem dX12_againstOf_13 : decode cX12_againstOf 13 = .ok (.invokestatic 158, 3) := by decide +kernel
theorem dX12_againstOf_16 : decode cX12_againstOf 16 = .ok (.lsub, 1) := by decide +kernel
theorem dX12_againstOf_17 : decode cX12_againstOf 17 = .ok (.lreturn, 1) := by decide +kernel
theorem dX12_against_0 : decode cX12_against 0 = .ok (.aload_n 0, 1) := by decide +kernel
theorem dX12_against_1 : decode cX12_against 1 = .ok (.iconst 0, 1) := by decide +kernel
theorem dX12_against_2 : decode cX12_against 2 = .ok (.putfield 132, 3) := by decide +kernel
theorem dX12_against_5 : decode cX12_against 5 = .ok (.aload_n 0, 1) := by decide +kernel
theorem dX12_against_6 : decode cX12_against 6 = .ok (.iload_n 1, 1) := by decide +kernel
theorem dX12_against_7 : decode cX12_against 7 = .ok (.invokevirtual 310, 3) := by decide +kernel
theorem dX12_against_10 : decode cX12_against 10 = .ok (.ifCond .eq 13, 3) := by decide +kernel
theorem dX12_against_13 : decode cX12_against 13 = .ok (.iload_n 3, 1) := by decide +kernel
theorem dX12_against_14 : decode cX12_against 14 = .ok (.i2l, 1) := by decide +kernel
theorem dX12_against_15 : decode cX12_against 15 = .ok (.lconst 0, 1) := by decide +kernel
theorem dX12_against_16 : decode cX12_against 16 = .ok (.lconst 1, 1) := by decide +kernel
theorem dX12_against_17 : decode cX12_against 17 = .ok (.invokestatic 166, 3) := by decide +kernel
theorem dX12_against_20 : decode cX12_against 20 = .ok (.ifCond .ne 10, 3) := by decide +kernel
theorem dX12_against_23 : decode cX12_against 23 = .ok (.aload_n 0, 1) := by decide +kernel
theorem dX12_against_24 : decode cX12_against 24 = .ok (.iconst 1, 1) := by decide +kernel
theorem dX12_against_25 : decode cX12_against 25 = .ok (.invokevirtual 313, 3) := by decide +kernel
theorem dX12_against_28 : decode cX12_against 28 = .ok (.i2l, 1) := by decide +kernel
theorem dX12_against_29 : decode cX12_against 29 = .ok (.lreturn, 1) := by decide +kernel
theorem dX12_against_30 : decode cX12_against 30 = .ok (.iload_n 2, 1) := by decide +kernel
theorem dX12_against_31 : decode cX12_against 31 = .ok (.i2l, 1) := by decide +kernel
theorem dX12_against_32 : decode cX12_against 32 = .ok (.ldc2_w 384, 3) := by decide +kernel
theorem dX12_against_35 : decode cX12_against 35 = .ok (.ldc2_w 386, 3) := by decide +kernel
theorem dX12_against_38 : decode cX12_against 38 = .ok (.invokestatic 166, 3) := by decide +kernel
theorem dX12_against_41 : decode cX12_against 41 = .ok (.ifCond .ne 10, 3) := by decide +kernel
theorem dX12_against_44 : decode cX12_against 44 = .ok (.aload_n 0, 1) := by decide +kernel
theorem dX12_against_45 : decode cX12_against 45 = .ok (.iconst 2, 1) := by decide +kernel
theorem dX12_against_46 : decode cX12_against 46 = .ok (.invokevirtual 313, 3) := by decide +kernel
theorem dX12_against_49 : decode cX12_against 49 = .ok (.i2l, 1) := by decide +kernel
theorem dX12_against_50 : decode cX12_against 50 = .ok (.lreturn, 1) := by decide +kernel
theorem dX12_against_51 : decode cX12_against 51 = .ok (.aload_n 0, 1) := by decide +kernel
theorem dX12_against_52 : decode cX12_against 52 = .ok (.iload_n 1, 1) := by decide +kernel
theorem dX12_against_53 : decode cX12_against 53 = .ok (.invokevirtual 227, 3) := by decide +kernel
theorem dX12_against_56 : decode cX12_against 56 = .ok (.aload_n 0, 1) := by decide +kernel
theorem dX12_against_57 : decode cX12_against 57 = .ok (.getfield 40, 3) := by decide +kernel
theorem dX12_against_60 : decode cX12_against 60 = .ok (.iload_n 2, 1) := by decide +kernel
theorem dX12_against_61 : decode cX12_against 61 = .ok (.invokestatic 388, 3) := by decide +kernel
theorem dX12_against_64 : decode cX12_against 64 = .ok (.ifCond .ne 7, 3) := by decide +kernel
theorem dX12_against_67 : decode cX12_against 67 = .ok (.ldc2_w 391, 3) := by decide +kernel
theorem dX12_against_70 : decode cX12_against 70 = .ok (.lreturn, 1) := by decide +kernel
theorem dX12_against_71 : decode cX12_against 71 = .ok (.iload_n 3, 1) := by decide +kernel
theorem dX12_against_72 : decode cX12_against 72 = .ok (.ifCond .ne 14, 3) := by decide +kernel
theorem dX12_against_75 : decode cX12_against 75 = .ok (.aload_n 0, 1) := by decide +kernel
theorem dX12_against_76 : decode cX12_against 76 = .ok (.getfield 40, 3) := by decide +kernel
theorem dX12_against_79 : decode cX12_against 79 = .ok (.iload_n 2, 1) := by decide +kernel
theorem dX12_against_80 : decode cX12_against 80 = .ok (.invokestatic 393, 3) := by decide +kernel
theorem dX12_against_83 : decode cX12_against 83 = .ok (.goto 12, 3) := by decide +kernel
theorem dX12_against_86 : decode cX12_against 86 = .ok (.aload_n 0, 1) := by decide +kernel
theorem dX12_against_87 : decode cX12_against 87 = .ok (.getfield 40, 3) := by decide +kernel
theorem dX12_against_90 : decode cX12_against 90 = .ok (.iload_n 2, 1) := by decide +kernel
theorem dX12_against_91 : decode cX12_against 91 = .ok (.invokestatic 381, 3) := by decide +kernel
theorem dX12_against_94 : decode cX12_against 94 = .ok (.i2l, 1) := by decide +kernel
theorem dX12_against_95 : decode cX12_against 95 = .ok (.lreturn, 1) := by decide +kernel
theorem dX12_addStands_0 : decode cX12_addStands 0 = .ok (.aload_n 0, 1) := by decide +kernel
theorem dX12_addStands_1 : decode cX12_addStands 1 = .ok (.aload_n 0, 1) := by decide +kernel
theorem dX12_addStands_2 : decode cX12_addStands 2 = .ok (.getfield 396, 3) := by decide +kernel
theorem dX12_addStands_5 : decode cX12_addStands 5 = .ok (.aload_n 1, 1) := by decide +kernel
theorem dX12_addStands_6 : decode cX12_addStands 6 = .ok (.iconst 0, 1) := by decide +kernel
theorem dX12_addStands_7 : decode cX12_addStands 7 = .ok (.iaload, 1) := by decide +kernel
theorem dX12_addStands_8 : decode cX12_addStands 8 = .ok (.invokestatic 186, 3) := by decide +kernel
theorem dX12_addStands_11 : decode cX12_addStands 11 = .ok (.putfield 396, 3) := by decide +kernel
theorem dX12_addStands_14 : decode cX12_addStands 14 = .ok (.aload_n 0, 1) := by decide +kernel
theorem dX12_addStands_15 : decode cX12_addStands 15 = .ok (.aload_n 0, 1) := by decide +kernel
theorem dX12_addStands_16 : decode cX12_addStands 16 = .ok (.getfield 399, 3) := by decide +kernel
theorem dX12_addStands_19 : decode cX12_addStands 19 = .ok (.aload_n 1, 1) := by decide +kernel
theorem dX12_addStands_20 : decode cX12_addStands 20 = .ok (.invokestatic 378, 3) := by decide +kernel
theorem dX12_addStands_23 : decode cX12_addStands 23 = .ok (.invokestatic 135, 3) := by decide +kernel
theorem dX12_addStands_26 : decode cX12_addStands 26 = .ok (.putfield 399, 3) := by decide +kernel
theorem dX12_addStands_29 : decode cX12_addStands 29 = .ok (.aload_n 1, 1) := by decide +kernel
theorem dX12_addStands_30 : decode cX12_addStands 30 = .ok (.iconst 0, 1) := by decide +kernel
theorem dX12_addStands_31 : decode cX12_addStands 31 = .ok (.iaload, 1) := by decide +kernel
theorem dX12_addStands_32 : decode cX12_addStands 32 = .ok (.istore_n 2, 1) := by decide +kernel
theorem dX12_addStands_33 : decode cX12_addStands 33 = .ok (.aload_n 1, 1) := by decide +kernel
theorem dX12_addStands_34 : decode cX12_addStands 34 = .ok (.iconst 1, 1) := by decide +kernel
theorem dX12_addStands_35 : decode cX12_addStands 35 = .ok (.iaload, 1) := by decide +kernel
theorem dX12_addStands_36 : decode cX12_addStands 36 = .ok (.i2l, 1) := by decide +kernel
theorem dX12_addStands_37 : decode cX12_addStands 37 = .ok (.lstore_n 3, 1) := by decide +kernel
theorem dX12_addStands_38 : decode cX12_addStands 38 = .ok (.aload_n 0, 1) := by decide +kernel
theorem dX12_addStands_39 : decode cX12_addStands 39 = .ok (.getfield 93, 3) := by decide +kernel
theorem dX12_addStands_42 : decode cX12_addStands 42 = .ok (.sipush 5000, 3) := by decide +kernel
theorem dX12_addStands_45 : decode cX12_addStands 45 = .ok (.iload_n 2, 1) := by decide +kernel
theorem dX12_addStands_46 : decode cX12_addStands 46 = .ok (.iadd, 1) := by decide +kernel
theorem dX12_addStands_47 : decode cX12_addStands 47 = .ok (.iload_n 2, 1) := by decide +kernel
theorem dX12_addStands_48 : decode cX12_addStands 48 = .ok (.i2l, 1) := by decide +kernel
theorem dX12_addStands_49 : decode cX12_addStands 49 = .ok (.ldc2_w 162, 3) := by decide +kernel
theorem dX12_addStands_52 : decode cX12_addStands 52 = .ok (.lmul, 1) := by decide +kernel
theorem dX12_addStands_53 : decode cX12_addStands 53 = .ok (.lload_n 3, 1) := by decide +kernel
theorem dX12_addStands_54 : decode cX12_addStands 54 = .ok (.lsub, 1) := by decide +kernel
theorem dX12_addStands_55 : decode cX12_addStands 55 = .ok (.lastore, 1) := by decide +kernel
theorem dX12_addStands_56 : decode cX12_addStands 56 = .ok (.iconst 0, 1) := by decide +kernel
theorem dX12_addStands_57 : decode cX12_addStands 57 = .ok (.istore 5, 2) := by decide +kernel
theorem dX12_addStands_59 : decode cX12_addStands 59 = .ok (.iload 5, 2) := by decide +kernel
theorem dX12_addStands_61 : decode cX12_addStands 61 = .ok (.sipush 10001, 3) := by decide +kernel
theorem dX12_addStands_64 : decode cX12_addStands 64 = .ok (.if_icmp .ge 71, 3) := by decide +kernel
theorem dX12_addStands_67 : decode cX12_addStands 67 = .ok (.aload_n 1, 1) := by decide +kernel
theorem dX12_addStands_68 : decode cX12_addStands 68 = .ok (.iconst 2, 1) := by decide +kernel
theorem dX12_addStands_69 : decode cX12_addStands 69 = .ok (.iload 5, 2) := by decide +kernel
theorem dX12_addStands_71 : decode cX12_addStands 71 = .ok (.iadd, 1) := by decide +kernel
theorem dX12_addStands_72 : decode cX12_addStands 72 = .ok (.iaload, 1) := by decide +kernel
theorem dX12_addStands_73 : decode cX12_addStands 73 = .ok (.istore 6, 2) := by decide +kernel
theorem dX12_addStands_75 : decode cX12_addStands 75 = .ok (.iload_n 2, 1) := by decide +kernel
theorem dX12_addStands_76 : decode cX12_addStands 76 = .ok (.iconst 1, 1) := by decide +kernel
theorem dX12_addStands_77 : decode cX12_addStands 77 = .ok (.iadd, 1) := by decide +kernel
theorem dX12_addStands_78 : decode cX12_addStands 78 = .ok (.istore 7, 2) := by decide +kernel
theorem dX12_addStands_80 : decode cX12_addStands 80 = .ok (.iload 7, 2) := by decide +kernel
theorem dX12_addStands_82 : decode cX12_addStands 82 = .ok (.iload_n 2, 1) := by decide +kernel
theorem dX12_addStands_83 : decode cX12_addStands 83 = .ok (.iload 6, 2) := by decide +kernel
theorem dX12_addStands_85 : decode cX12_addStands 85 = .ok (.iadd, 1) := by decide +kernel
theorem dX12_addStands_86 : decode cX12_addStands 86 = .ok (.if_icmp .gt 33, 3) := by decide +kernel
theorem dX12_addStands_89 : decode cX12_addStands 89 = .ok (.aload_n 0, 1) := by decide +kernel
theorem dX12_addStands_90 : decode cX12_addStands 90 = .ok (.getfield 93, 3) := by decide +kernel
theorem dX12_addStands_93 : decode cX12_addStands 93 = .ok (.sipush 5000, 3) := by decide +kernel
theorem dX12_addStands_96 : decode cX12_addStands 96 = .ok (.iload 7, 2) := by decide +kernel
theorem dX12_addStands_98 : decode cX12_addStands 98 = .ok (.iadd, 1) := by decide +kernel
theorem dX12_addStands_99 : decode cX12_addStands 99 = .ok (.iload 7, 2) := by decide +kernel
theorem dX12_addStands_101 : decode cX12_addStands 101 = .ok (.i2l, 1) := by decide +kernel
theorem dX12_addStands_102 : decode cX12_addStands 102 = .ok (.iload 5, 2) := by decide +kernel
theorem dX12_addStands_104 : decode cX12_addStands 104 = .ok (.sipush 5000, 3) := by decide +kernel
theorem dX12_addStands_107 : decode cX12_addStands 107 = .ok (.isub, 1) := by decide +kernel
theorem dX12_addStands_108 : decode cX12_addStands 108 = .ok (.i2l, 1) := by decide +kernel
theorem dX12_addStands_109 : decode cX12_addStands 109 = .ok (.lmul, 1) := by decide +kernel
theorem dX12_addStands_110 : decode cX12_addStands 110 = .ok (.lload_n 3, 1) := by decide +kernel
theorem dX12_addStands_111 : decode cX12_addStands 111 = .ok (.lsub, 1) := by decide +kernel
theorem dX12_addStands_112 : decode cX12_addStands 112 = .ok (.lastore, 1) := by decide +kernel
theorem dX12_addStands_113 : decode cX12_addStands 113 = .ok (.iinc 7 1, 3) := by decide +kernel
theorem dX12_addStands_116 : decode cX12_addStands 116 = .ok (.goto (-36), 3) := by decide +kernel
theorem dX12_addStands_119 : decode cX12_addStands 119 = .ok (.iload_n 2, 1) := by decide +kernel
theorem dX12_addStands_120 : decode cX12_addStands 120 = .ok (.iload 6, 2) := by decide +kernel
theorem dX12_addStands_122 : decode cX12_addStands 122 = .ok (.iadd, 1) := by decide +kernel
theorem dX12_addStands_123 : decode cX12_addStands 123 = .ok (.istore_n 2, 1) := by decide +kernel
theorem dX12_addStands_124 : decode cX12_addStands 124 = .ok (.lload_n 3, 1) := by decide +kernel
theorem dX12_addStands_125 : decode cX12_addStands 125 = .ok (.iload_n 2, 1) := by decide +kernel
theorem dX12_addStands_126 : decode cX12_addStands 126 = .ok (.i2l, 1) := by decide +kernel
theorem dX12_addStands_127 : decode cX12_addStands 127 = .ok (.ladd, 1) := by decide +kernel
theorem dX12_addStands_128 : decode cX12_addStands 128 = .ok (.lstore_n 3, 1) := by decide +kernel
theorem dX12_addStands_129 : decode cX12_addStands 129 = .ok (.iinc 5 1, 3) := by decide +kernel
theorem dX12_addStands_132 : decode cX12_addStands 132 = .ok (.goto (-73), 3) := by decide +kernel
theorem dX12_addStands_135 : decode cX12_addStands 135 = .ok (.aload_n 1, 1) := by decide +kernel
theorem dX12_addStands_136 : decode cX12_addStands 136 = .ok (.iconst 0, 1) := by decide +kernel
theorem dX12_addStands_137 : decode cX12_addStands 137 = .ok (.iaload, 1) := by decide +kernel
theorem dX12_addStands_138 : decode cX12_addStands 138 = .ok (.istore 5, 2) := by decide +kernel
theorem dX12_addStands_140 : decode cX12_addStands 140 = .ok (.iload 5, 2) := by decide +kernel
theorem dX12_addStands_142 : decode cX12_addStands 142 = .ok (.iload_n 2, 1) := by decide +kernel
theorem dX12_addStands_143 : decode cX12_addStands 143 = .ok (.if_icmp .gt 34, 3) := by decide +kernel
theorem dX12_addStands_146 : decode cX12_addStands 146 = .ok (.aload_n 0, 1) := by decide +kernel
theorem dX12_addStands_147 : decode cX12_addStands 147 = .ok (.getfield 89, 3) := by decide +kernel
theorem dX12_addStands_150 : decode cX12_addStands 150 = .ok (.sipush 5000, 3) := by decide +kernel
theorem dX12_addStands_153 : decode cX12_addStands 153 = .ok (.iload 5, 2) := by decide +kernel
theorem dX12_addStands_155 : decode cX12_addStands 155 = .ok (.iadd, 1) := by decide +kernel
theorem dX12_addStands_156 : decode cX12_addStands 156 = .ok (.dup2, 1) := by decide +kernel
theorem dX12_addStands_157 : decode cX12_addStands 157 = .ok (.laload, 1) := by decide +kernel
theorem dX12_addStands_158 : decode cX12_addStands 158 = .ok (.aload_n 0, 1) := by decide +kernel
theorem dX12_addStands_159 : decode cX12_addStands 159 = .ok (.getfield 93, 3) := by decide +kernel
theorem dX12_addStands_162 : decode cX12_addStands 162 = .ok (.sipush 5000, 3) := by decide +kernel
theorem dX12_addStands_165 : decode cX12_addStands 165 = .ok (.iload 5, 2) := by decide +kernel
theorem dX12_addStands_167 : decode cX12_addStands 167 = .ok (.iadd, 1) := by decide +kernel
theorem dX12_addStands_168 : decode cX12_addStands 168 = .ok (.laload, 1) := by decide +kernel
theorem dX12_addStands_169 : decode cX12_addStands 169 = .ok (.ladd, 1) := by decide +kernel
theorem dX12_addStands_170 : decode cX12_addStands 170 = .ok (.lastore, 1) := by decide +kernel
theorem dX12_addStands_171 : decode cX12_addStands 171 = .ok (.iinc 5 1, 3) := by decide +kernel
theorem dX12_addStands_174 : decode cX12_addStands 174 = .ok (.goto (-34), 3) := by decide +kernel
theorem dX12_addStands_177 : decode cX12_addStands 177 = .ok (.return_, 1) := by decide +kernel
theorem dX12_clearStands_0 : decode cX12_clearStands 0 = .ok (.aload_n 0, 1) := by decide +kernel
theorem dX12_clearStands_1 : decode cX12_clearStands 1 = .ok (.sipush (-5000), 3) := by decide +kernel
theorem dX12_clearStands_4 : decode cX12_clearStands 4 = .ok (.putfield 396, 3) := by decide +kernel
theorem dX12_clearStands_7 : decode cX12_clearStands 7 = .ok (.aload_n 0, 1) := by decide +kernel
theorem dX12_clearStands_8 : decode cX12_clearStands 8 = .ok (.sipush 5000, 3) := by decide +kernel
theorem dX12_clearStands_11 : decode cX12_clearStands 11 = .ok (.putfield 399, 3) := by decide +kernel
theorem dX12_clearStands_14 : decode cX12_clearStands 14 = .ok (.iconst 0, 1) := by decide +kernel
theorem dX12_clearStands_15 : decode cX12_clearStands 15 = .ok (.istore_n 1, 1) := by decide +kernel
theorem dX12_clearStands_16 : decode cX12_clearStands 16 = .ok (.iload_n 1, 1) := by decide +kernel
theorem dX12_clearStands_17 : decode cX12_clearStands 17 = .ok (.aload_n 0, 1) := by decide +kernel
theorem dX12_clearStands_18 : decode cX12_clearStands 18 = .ok (.getfield 89, 3) := by decide +kernel
theorem dX12_clearStands_21 : decode cX12_clearStands 21 = .ok (.arraylength, 1) := by decide +kernel
theorem dX12_clearStands_22 : decode cX12_clearStands 22 = .ok (.if_icmp .ge 16, 3) := by decide +kernel
theorem dX12_clearStands_25 : decode cX12_clearStands 25 = .ok (.aload_n 0, 1) := by decide +kernel
theorem dX12_clearStands_26 : decode cX12_clearStands 26 = .ok (.getfield 89, 3) := by decide +kernel
theorem dX12_clearStands_29 : decode cX12_clearStands 29 = .ok (.iload_n 1, 1) := by decide +kernel
theorem dX12_clearStands_30 : decode cX12_clearStands 30 = .ok (.lconst 0, 1) := by decide +kernel
theorem dX12_clearStands_31 : decode cX12_clearStands 31 = .ok (.lastore, 1) := by decide +kernel
theorem dX12_clearStands_32 : decode cX12_clearStands 32 = .ok (.iinc 1 1, 3) := by decide +kernel
theorem dX12_clearStands_35 : decode cX12_clearStands 35 = .ok (.goto (-19), 3) := by decide +kernel
theorem dX12_clearStands_38 : decode cX12_clearStands 38 = .ok (.return_, 1) := by decide +kernel
theorem dX12_together_0 : decode cX12_together 0 = .ok (.aload_n 0, 1) := by decide +kernel
theorem dX12_together_1 : decode cX12_together 1 = .ok (.aload_n 0, 1) := by decide +kernel
theorem dX12_together_2 : decode cX12_together 2 = .ok (.getfield 396, 3) := by decide +kernel
theorem dX12_together_5 : decode cX12_together 5 = .ok (.putfield 402, 3) := by decide +kernel
theorem dX12_together_8 : decode cX12_together 8 = .ok (.aload_n 0, 1) := by decide +kernel
theorem dX12_together_9 : decode cX12_together 9 = .ok (.getfield 396, 3) := by decide +kernel
theorem dX12_together_12 : decode cX12_together 12 = .ok (.i2l, 1) := by decide +kernel
theorem dX12_together_13 : decode cX12_together 13 = .ok (.iload_n 1, 1) := by decide +kernel
theorem dX12_together_14 : decode cX12_together 14 = .ok (.i2l, 1) := by decide +kernel
theorem dX12_together_15 : decode cX12_together 15 = .ok (.lmul, 1) := by decide +kernel
theorem dX12_together_16 : decode cX12_together 16 = .ok (.aload_n 0, 1) := by decide +kernel
theorem dX12_together_17 : decode cX12_together 17 = .ok (.getfield 89, 3) := by decide +kernel
theorem dX12_together_20 : decode cX12_together 20 = .ok (.sipush 5000, 3) := by decide +kernel
theorem dX12_together_23 : decode cX12_together 23 = .ok (.aload_n 0, 1) := by decide +kernel
theorem dX12_together_24 : decode cX12_together 24 = .ok (.getfield 396, 3) := by decide +kernel
theorem dX12_together_27 : decode cX12_together 27 = .ok (.iadd, 1) := by decide +kernel
theorem dX12_together_28 : decode cX12_together 28 = .ok (.laload, 1) := by decide +kernel
theorem dX12_together_29 : decode cX12_together 29 = .ok (.lsub, 1) := by decide +kernel
theorem dX12_together_30 : decode cX12_together 30 = .ok (.lstore_n 2, 1) := by decide +kernel
theorem dX12_together_31 : decode cX12_together 31 = .ok (.aload_n 0, 1) := by decide +kernel
theorem dX12_together_32 : decode cX12_together 32 = .ok (.getfield 396, 3) := by decide +kernel
theorem dX12_together_35 : decode cX12_together 35 = .ok (.iconst 1, 1) := by decide +kernel
theorem dX12_together_36 : decode cX12_together 36 = .ok (.iadd, 1) := by decide +kernel
theorem dX12_together_37 : decode cX12_together 37 = .ok (.istore 4, 2) := by decide +kernel
theorem dX12_together_39 : decode cX12_together 39 = .ok (.iload 4, 2) := by decide +kernel
theorem dX12_together_41 : decode cX12_together 41 = .ok (.aload_n 0, 1) := by decide +kernel
theorem dX12_together_42 : decode cX12_together 42 = .ok (.getfield 399, 3) := by decide +kernel
theorem dX12_together_45 : decode cX12_together 45 = .ok (.if_icmp .gt 48, 3) := by decide +kernel
theorem dX12_together_48 : decode cX12_together 48 = .ok (.iload 4, 2) := by decide +kernel
theorem dX12_together_50 : decode cX12_together 50 = .ok (.i2l, 1) := by decide +kernel
theorem dX12_together_51 : decode cX12_together 51 = .ok (.iload_n 1, 1) := by decide +kernel
theorem dX12_together_52 : decode cX12_together 52 = .ok (.i2l, 1) := by decide +kernel
theorem dX12_together_53 : decode cX12_together 53 = .ok (.lmul, 1) := by decide +kernel
theorem dX12_together_54 : decode cX12_together 54 = .ok (.aload_n 0, 1) := by decide +kernel
theorem dX12_together_55 : decode cX12_together 55 = .ok (.getfield 89, 3) := by decide +kernel
theorem dX12_together_58 : decode cX12_together 58 = .ok (.sipush 5000, 3) := by decide +kernel
theorem dX12_together_61 : decode cX12_together 61 = .ok (.iload 4, 2) := by decide +kernel
theorem dX12_together_63 : decode cX12_together 63 = .ok (.iadd, 1) := by decide +kernel
theorem dX12_together_64 : decode cX12_together 64 = .ok (.laload, 1) := by decide +kernel
theorem dX12_together_65 : decode cX12_together 65 = .ok (.lsub, 1) := by decide +kernel
theorem dX12_together_66 : decode cX12_together 66 = .ok (.lstore 5, 2) := by decide +kernel
theorem dX12_together_68 : decode cX12_together 68 = .ok (.lload 5, 2) := by decide +kernel
theorem dX12_together_70 : decode cX12_together 70 = .ok (.lload_n 2, 1) := by decide +kernel
theorem dX12_together_71 : decode cX12_together 71 = .ok (.lcmp, 1) := by decide +kernel
theorem dX12_together_72 : decode cX12_together 72 = .ok (.ifCond .gt 6, 3) := by decide +kernel
theorem dX12_together_75 : decode cX12_together 75 = .ok (.goto 12, 3) := by decide +kernel
theorem dX12_together_78 : decode cX12_together 78 = .ok (.lload 5, 2) := by decide +kernel
theorem dX12_together_80 : decode cX12_together 80 = .ok (.lstore_n 2, 1) := by decide +kernel
theorem dX12_together_81 : decode cX12_together 81 = .ok (.aload_n 0, 1) := by decide +kernel
theorem dX12_together_82 : decode cX12_together 82 = .ok (.iload 4, 2) := by decide +kernel
theorem dX12_together_84 : decode cX12_together 84 = .ok (.putfield 402, 3) := by decide +kernel
theorem dX12_together_87 : decode cX12_together 87 = .ok (.iinc 4 1, 3) := by decide +kernel
theorem dX12_together_90 : decode cX12_together 90 = .ok (.goto (-51), 3) := by decide +kernel
theorem dX12_together_93 : decode cX12_together 93 = .ok (.lload_n 2, 1) := by decide +kernel
theorem dX12_together_94 : decode cX12_together 94 = .ok (.lreturn, 1) := by decide +kernel
theorem dX12_splitNow_0 : decode cX12_splitNow 0 = .ok (.aload_n 0, 1) := by decide +kernel
theorem dX12_splitNow_1 : decode cX12_splitNow 1 = .ok (.iload_n 1, 1) := by decide +kernel
theorem dX12_splitNow_2 : decode cX12_splitNow 2 = .ok (.iload_n 2, 1) := by decide +kernel
theorem dX12_splitNow_3 : decode cX12_splitNow 3 = .ok (.invokevirtual 405, 3) := by decide +kernel
theorem dX12_splitNow_6 : decode cX12_splitNow 6 = .ok (.aload_n 0, 1) := by decide +kernel
theorem dX12_splitNow_7 : decode cX12_splitNow 7 = .ok (.invokevirtual 408, 3) := by decide +kernel
theorem dX12_splitNow_10 : decode cX12_splitNow 10 = .ok (.aload_n 0, 1) := by decide +kernel
theorem dX12_splitNow_11 : decode cX12_splitNow 11 = .ok (.aload_n 0, 1) := by decide +kernel
theorem dX12_splitNow_12 : decode cX12_splitNow 12 = .ok (.getfield 40, 3) := by decide +kernel
theorem dX12_splitNow_15 : decode cX12_splitNow 15 = .ok (.invokevirtual 411, 3) := by decide +kernel
theorem dX12_splitNow_18 : decode cX12_splitNow 18 = .ok (.aload_n 0, 1) := by decide +kernel
theorem dX12_splitNow_19 : decode cX12_splitNow 19 = .ok (.aload_n 0, 1) := by decide +kernel
theorem dX12_splitNow_20 : decode cX12_splitNow 20 = .ok (.getfield 43, 3) := by decide +kernel
theorem dX12_splitNow_23 : decode cX12_splitNow 23 = .ok (.invokevirtual 411, 3) := by decide +kernel
theorem dX12_splitNow_26 : decode cX12_splitNow 26 = .ok (.aload_n 0, 1) := by decide +kernel
theorem dX12_splitNow_27 : decode cX12_splitNow 27 = .ok (.iload_n 3, 1) := by decide +kernel
theorem dX12_splitNow_28 : decode cX12_splitNow 28 = .ok (.invokevirtual 414, 3) := by decide +kernel
theorem dX12_splitNow_31 : decode cX12_splitNow 31 = .ok (.lreturn, 1) := by decide +kernel
theorem dX12_refusal_0 : decode cX12_refusal 0 = .ok (.aload_n 0, 1) := by decide +kernel
theorem dX12_refusal_1 : decode cX12_refusal 1 = .ok (.iload_n 1, 1) := by decide +kernel
theorem dX12_refusal_2 : decode cX12_refusal 2 = .ok (.invokevirtual 310, 3) := by decide +kernel
theorem dX12_refusal_5 : decode cX12_refusal 5 = .ok (.ifCond .eq 11, 3) := by decide +kernel
theorem dX12_refusal_8 : decode cX12_refusal 8 = .ok (.aload_n 0, 1) := by decide +kernel
theorem dX12_refusal_9 : decode cX12_refusal 9 = .ok (.iload_n 2, 1) := by decide +kernel
theorem dX12_refusal_10 : decode cX12_refusal 10 = .ok (.invokevirtual 310, 3) := by decide +kernel
theorem dX12_refusal_13 : decode cX12_refusal 13 = .ok (.ifCond .ne 7, 3) := by decide +kernel
theorem dX12_refusal_16 : decode cX12_refusal 16 = .ok (.iconst 1, 1) := by decide +kernel
theorem dX12_refusal_17 : decode cX12_refusal 17 = .ok (.goto 15, 3) := by decide +kernel
theorem dX12_refusal_20 : decode cX12_refusal 20 = .ok (.iload_n 3, 1) := by decide +kernel
theorem dX12_refusal_21 : decode cX12_refusal 21 = .ok (.invokestatic 353, 3) := by decide +kernel
theorem dX12_refusal_24 : decode cX12_refusal 24 = .ok (.ifCond .eq 7, 3) := by decide +kernel
theorem dX12_refusal_27 : decode cX12_refusal 27 = .ok (.iconst 0, 1) := by decide +kernel
theorem dX12_refusal_28 : decode cX12_refusal 28 = .ok (.goto 4, 3) := by decide +kernel
theorem dX12_refusal_31 : decode cX12_refusal 31 = .ok (.iconst 2, 1) := by decide +kernel
theorem dX12_refusal_32 : decode cX12_refusal 32 = .ok (.ireturn, 1) := by decide +kernel
theorem dX12_split_0 : decode cX12_split 0 = .ok (.aload_n 0, 1) := by decide +kernel
theorem dX12_split_1 : decode cX12_split 1 = .ok (.iconst 0, 1) := by decide +kernel
theorem dX12_split_2 : decode cX12_split 2 = .ok (.putfield 132, 3) := by decide +kernel
theorem dX12_split_5 : decode cX12_split 5 = .ok (.aload_n 0, 1) := by decide +kernel
theorem dX12_split_6 : decode cX12_split 6 = .ok (.iload_n 1, 1) := by decide +kernel
theorem dX12_split_7 : decode cX12_split 7 = .ok (.iload_n 2, 1) := by decide +kernel
theorem dX12_split_8 : decode cX12_split 8 = .ok (.iload_n 3, 1) := by decide +kernel
theorem dX12_split_9 : decode cX12_split 9 = .ok (.invokevirtual 418, 3) := by decide +kernel
theorem dX12_split_12 : decode cX12_split 12 = .ok (.istore 4, 2) := by decide +kernel
theorem dX12_split_14 : decode cX12_split 14 = .ok (.iload 4, 2) := by decide +kernel
theorem dX12_split_16 : decode cX12_split 16 = .ok (.ifCond .le 13, 3) := by decide +kernel
theorem dX12_split_19 : decode cX12_split 19 = .ok (.aload_n 0, 1) := by decide +kernel
theorem dX12_split_20 : decode cX12_split 20 = .ok (.iload 4, 2) := by decide +kernel
