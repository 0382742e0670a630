theorem dX12_onTop_41 : decode cX12_onTop 41 = .ok (.aload_n 0, 1) := by decide +kernel
theorem dX12_onTop_42 : decode cX12_onTop 42 = .ok (.aload_n 0, 1) := by decide +kernel
theorem dX12_onTop_43 : decode cX12_onTop 43 = .ok (.getfield 33, 3) := by decide +kernel
theorem dX12_onTop_46 : decode cX12_onTop 46 = .ok (.invokevirtual 230, 3) := by decide +kernel
theorem dX12_onTop_49 : decode cX12_onTop 49 = .ok (.aload_n 0, 1) := by decide +kernel
theorem dX12_onTop_50 : decode cX12_onTop 50 = .ok (.aload_n 0, 1) := by decide +kernel
theorem dX12_onTop_51 : decode cX12_onTop 51 = .ok (.getfield 102, 3) := by decide +kernel
theorem dX12_onTop_54 : decode cX12_onTop 54 = .ok (.invokevirtual 230, 3) := by decide +kernel
theorem dX12_onTop_57 : decode cX12_onTop 57 = .ok (.aload_n 0, 1) := by decide +kernel
theorem dX12_onTop_58 : decode cX12_onTop 58 = .ok (.aload_n 0, 1) := by decide +kernel
theorem dX12_onTop_59 : decode cX12_onTop 59 = .ok (.getfield 117, 3) := by decide +kernel
theorem dX12_onTop_62 : decode cX12_onTop 62 = .ok (.invokevirtual 230, 3) := by decide +kernel
theorem dX12_onTop_65 : decode cX12_onTop 65 = .ok (.aload_n 0, 1) := by decide +kernel
theorem dX12_onTop_66 : decode cX12_onTop 66 = .ok (.aload_n 0, 1) := by decide +kernel
theorem dX12_onTop_67 : decode cX12_onTop 67 = .ok (.getfield 120, 3) := by decide +kernel
theorem dX12_onTop_70 : decode cX12_onTop 70 = .ok (.invokevirtual 230, 3) := by decide +kernel
theorem dX12_onTop_73 : decode cX12_onTop 73 = .ok (.iconst 0, 1) := by decide +kernel
theorem dX12_onTop_74 : decode cX12_onTop 74 = .ok (.istore_n 2, 1) := by decide +kernel
theorem dX12_onTop_75 : decode cX12_onTop 75 = .ok (.iload_n 2, 1) := by decide +kernel
theorem dX12_onTop_76 : decode cX12_onTop 76 = .ok (.iconst 4, 1) := by decide +kernel
theorem dX12_onTop_77 : decode cX12_onTop 77 = .ok (.if_icmp .ge 31, 3) := by decide +kernel
theorem dX12_onTop_80 : decode cX12_onTop 80 = .ok (.aload_n 0, 1) := by decide +kernel
theorem dX12_onTop_81 : decode cX12_onTop 81 = .ok (.getfield 71, 3) := by decide +kernel
theorem dX12_onTop_84 : decode cX12_onTop 84 = .ok (.iload_n 2, 1) := by decide +kernel
theorem dX12_onTop_85 : decode cX12_onTop 85 = .ok (.iaload, 1) := by decide +kernel
theorem dX12_onTop_86 : decode cX12_onTop 86 = .ok (.iconst (-1), 1) := by decide +kernel
theorem dX12_onTop_87 : decode cX12_onTop 87 = .ok (.if_icmp .eq 15, 3) := by decide +kernel
theorem dX12_onTop_90 : decode cX12_onTop 90 = .ok (.aload_n 0, 1) := by decide +kernel
theorem dX12_onTop_91 : decode cX12_onTop 91 = .ok (.getfield 54, 3) := by decide +kernel
theorem dX12_onTop_94 : decode cX12_onTop 94 = .ok (.aload_n 0, 1) := by decide +kernel
theorem dX12_onTop_95 : decode cX12_onTop 95 = .ok (.getfield 71, 3) := by decide +kernel
theorem dX12_onTop_98 : decode cX12_onTop 98 = .ok (.iload_n 2, 1) := by decide +kernel
theorem dX12_onTop_99 : decode cX12_onTop 99 = .ok (.iaload, 1) := by decide +kernel
theorem dX12_onTop_100 : decode cX12_onTop 100 = .ok (.iconst 1, 1) := by decide +kernel
theorem dX12_onTop_101 : decode cX12_onTop 101 = .ok (.bastore, 1) := by decide +kernel
theorem dX12_onTop_102 : decode cX12_onTop 102 = .ok (.iinc 2 1, 3) := by decide +kernel
theorem dX12_onTop_105 : decode cX12_onTop 105 = .ok (.goto (-30), 3) := by decide +kernel
theorem dX12_onTop_108 : decode cX12_onTop 108 = .ok (.iconst 0, 1) := by decide +kernel
theorem dX12_onTop_109 : decode cX12_onTop 109 = .ok (.istore_n 2, 1) := by decide +kernel
theorem dX12_onTop_110 : decode cX12_onTop 110 = .ok (.aload_n 0, 1) := by decide +kernel
theorem dX12_onTop_111 : decode cX12_onTop 111 = .ok (.getfield 54, 3) := by decide +kernel
theorem dX12_onTop_114 : decode cX12_onTop 114 = .ok (.iload_n 2, 1) := by decide +kernel
theorem dX12_onTop_115 : decode cX12_onTop 115 = .ok (.baload, 1) := by decide +kernel
theorem dX12_onTop_116 : decode cX12_onTop 116 = .ok (.ifCond .eq 9, 3) := by decide +kernel
theorem dX12_onTop_119 : decode cX12_onTop 119 = .ok (.iinc 2 1, 3) := by decide +kernel
theorem dX12_onTop_122 : decode cX12_onTop 122 = .ok (.goto (-12), 3) := by decide +kernel
theorem dX12_onTop_125 : decode cX12_onTop 125 = .ok (.aload_n 0, 1) := by decide +kernel
theorem dX12_onTop_126 : decode cX12_onTop 126 = .ok (.getfield 50, 3) := by decide +kernel
theorem dX12_onTop_129 : decode cX12_onTop 129 = .ok (.iload_n 2, 1) := by decide +kernel
theorem dX12_onTop_130 : decode cX12_onTop 130 = .ok (.aaload, 1) := by decide +kernel
theorem dX12_onTop_131 : decode cX12_onTop 131 = .ok (.ifnonnull 14, 3) := by decide +kernel
theorem dX12_onTop_134 : decode cX12_onTop 134 = .ok (.aload_n 0, 1) := by decide +kernel
theorem dX12_onTop_135 : decode cX12_onTop 135 = .ok (.getfield 50, 3) := by decide +kernel
theorem dX12_onTop_138 : decode cX12_onTop 138 = .ok (.iload_n 2, 1) := by decide +kernel
theorem dX12_onTop_139 : decode cX12_onTop 139 = .ok (.sipush 10003, 3) := by decide +kernel
theorem dX12_onTop_142 : decode cX12_onTop 142 = .ok (.newarray .int, 2) := by decide +kernel
theorem dX12_onTop_144 : decode cX12_onTop 144 = .ok (.aastore, 1) := by decide +kernel
theorem dX12_onTop_145 : decode cX12_onTop 145 = .ok (.aload_n 0, 1) := by decide +kernel
theorem dX12_onTop_146 : decode cX12_onTop 146 = .ok (.iload_n 1, 1) := by decide +kernel
theorem dX12_onTop_147 : decode cX12_onTop 147 = .ok (.invokevirtual 227, 3) := by decide +kernel
theorem dX12_onTop_150 : decode cX12_onTop 150 = .ok (.aload_n 0, 1) := by decide +kernel
theorem dX12_onTop_151 : decode cX12_onTop 151 = .ok (.getfield 50, 3) := by decide +kernel
theorem dX12_onTop_154 : decode cX12_onTop 154 = .ok (.iload_n 2, 1) := by decide +kernel
theorem dX12_onTop_155 : decode cX12_onTop 155 = .ok (.aaload, 1) := by decide +kernel
theorem dX12_onTop_156 : decode cX12_onTop 156 = .ok (.aload_n 0, 1) := by decide +kernel
theorem dX12_onTop_157 : decode cX12_onTop 157 = .ok (.getfield 40, 3) := by decide +kernel
theorem dX12_onTop_160 : decode cX12_onTop 160 = .ok (.invokestatic 178, 3) := by decide +kernel
theorem dX12_onTop_163 : decode cX12_onTop 163 = .ok (.aload_n 0, 1) := by decide +kernel
theorem dX12_onTop_164 : decode cX12_onTop 164 = .ok (.getfield 71, 3) := by decide +kernel
theorem dX12_onTop_167 : decode cX12_onTop 167 = .ok (.iload_n 1, 1) := by decide +kernel
theorem dX12_onTop_168 : decode cX12_onTop 168 = .ok (.iload_n 2, 1) := by decide +kernel
theorem dX12_onTop_169 : decode cX12_onTop 169 = .ok (.iastore, 1) := by decide +kernel
theorem dX12_onTop_170 : decode cX12_onTop 170 = .ok (.iload_n 2, 1) := by decide +kernel
theorem dX12_onTop_171 : decode cX12_onTop 171 = .ok (.ireturn, 1) := by decide +kernel
theorem dX12_feed_0 : decode cX12_feed 0 = .ok (.aload_n 0, 1) := by decide +kernel
theorem dX12_feed_1 : decode cX12_feed 1 = .ok (.iconst 0, 1) := by decide +kernel
theorem dX12_feed_2 : decode cX12_feed 2 = .ok (.putfield 132, 3) := by decide +kernel
theorem dX12_feed_5 : decode cX12_feed 5 = .ok (.aload_n 0, 1) := by decide +kernel
theorem dX12_feed_6 : decode cX12_feed 6 = .ok (.getfield 233, 3) := by decide +kernel
theorem dX12_feed_9 : decode cX12_feed 9 = .ok (.bipush 20, 2) := by decide +kernel
theorem dX12_feed_11 : decode cX12_feed 11 = .ok (.iadd, 1) := by decide +kernel
theorem dX12_feed_12 : decode cX12_feed 12 = .ok (.sipush 600, 3) := by decide +kernel
theorem dX12_feed_15 : decode cX12_feed 15 = .ok (.if_icmp .le 5, 3) := by decide +kernel
theorem dX12_feed_18 : decode cX12_feed 18 = .ok (.iconst (-1), 1) := by decide +kernel
theorem dX12_feed_19 : decode cX12_feed 19 = .ok (.ireturn, 1) := by decide +kernel
theorem dX12_feed_20 : decode cX12_feed 20 = .ok (.iconst 0, 1) := by decide +kernel
theorem dX12_feed_21 : decode cX12_feed 21 = .ok (.istore 6, 2) := by decide +kernel
theorem dX12_feed_23 : decode cX12_feed 23 = .ok (.iload 6, 2) := by decide +kernel
theorem dX12_feed_25 : decode cX12_feed 25 = .ok (.bipush 20, 2) := by decide +kernel
theorem dX12_feed_27 : decode cX12_feed 27 = .ok (.if_icmp .ge 93, 3) := by decide +kernel
theorem dX12_feed_30 : decode cX12_feed 30 = .ok (.iload 6, 2) := by decide +kernel
theorem dX12_feed_32 : decode cX12_feed 32 = .ok (.iconst 4, 1) := by decide +kernel
theorem dX12_feed_33 : decode cX12_feed 33 = .ok (.if_icmp .ge 7, 3) := by decide +kernel
theorem dX12_feed_36 : decode cX12_feed 36 = .ok (.iload_n 1, 1) := by decide +kernel
theorem dX12_feed_37 : decode cX12_feed 37 = .ok (.goto 39, 3) := by decide +kernel
theorem dX12_feed_40 : decode cX12_feed 40 = .ok (.iload 6, 2) := by decide +kernel
theorem dX12_feed_42 : decode cX12_feed 42 = .ok (.bipush 8, 2) := by decide +kernel
theorem dX12_feed_44 : decode cX12_feed 44 = .ok (.if_icmp .ge 7, 3) := by decide +kernel
theorem dX12_feed_47 : decode cX12_feed 47 = .ok (.iload_n 2, 1) := by decide +kernel
theorem dX12_feed_48 : decode cX12_feed 48 = .ok (.goto 28, 3) := by decide +kernel
theorem dX12_feed_51 : decode cX12_feed 51 = .ok (.iload 6, 2) := by decide +kernel
theorem dX12_feed_53 : decode cX12_feed 53 = .ok (.bipush 12, 2) := by decide +kernel
theorem dX12_feed_55 : decode cX12_feed 55 = .ok (.if_icmp .ge 7, 3) := by decide +kernel
theorem dX12_feed_58 : decode cX12_feed 58 = .ok (.iload_n 3, 1) := by decide +kernel
theorem dX12_feed_59 : decode cX12_feed 59 = .ok (.goto 17, 3) := by decide +kernel
theorem dX12_feed_62 : decode cX12_feed 62 = .ok (.iload 6, 2) := by decide +kernel
theorem dX12_feed_64 : decode cX12_feed 64 = .ok (.bipush 16, 2) := by decide +kernel
theorem dX12_feed_66 : decode cX12_feed 66 = .ok (.if_icmp .ge 8, 3) := by decide +kernel
theorem dX12_feed_69 : decode cX12_feed 69 = .ok (.iload 4, 2) := by decide +kernel
theorem dX12_feed_71 : decode cX12_feed 71 = .ok (.goto 5, 3) := by decide +kernel
theorem dX12_feed_74 : decode cX12_feed 74 = .ok (.iload 5, 2) := by decide +kernel
theorem dX12_feed_76 : decode cX12_feed 76 = .ok (.istore 7, 2) := by decide +kernel
theorem dX12_feed_78 : decode cX12_feed 78 = .ok (.aload_n 0, 1) := by decide +kernel
theorem dX12_feed_79 : decode cX12_feed 79 = .ok (.getfield 74, 3) := by decide +kernel
theorem dX12_feed_82 : decode cX12_feed 82 = .ok (.aload_n 0, 1) := by decide +kernel
theorem dX12_feed_83 : decode cX12_feed 83 = .ok (.getfield 233, 3) := by decide +kernel
theorem dX12_feed_86 : decode cX12_feed 86 = .ok (.iload 7, 2) := by decide +kernel
theorem dX12_feed_88 : decode cX12_feed 88 = .ok (.bipush 24, 2) := by decide +kernel
theorem dX12_feed_90 : decode cX12_feed 90 = .ok (.bipush 8, 2) := by decide +kernel
theorem dX12_feed_92 : decode cX12_feed 92 = .ok (.iload 6, 2) := by decide +kernel
theorem dX12_feed_94 : decode cX12_feed 94 = .ok (.iconst 4, 1) := by decide +kernel
theorem dX12_feed_95 : decode cX12_feed 95 = .ok (.irem, 1) := by decide +kernel
theorem dX12_feed_96 : decode cX12_feed 96 = .ok (.imul, 1) := by decide +kernel
theorem dX12_feed_97 : decode cX12_feed 97 = .ok (.isub, 1) := by decide +kernel
theorem dX12_feed_98 : decode cX12_feed 98 = .ok (.ishr, 1) := by decide +kernel
theorem dX12_feed_99 : decode cX12_feed 99 = .ok (.sipush 255, 3) := by decide +kernel
theorem dX12_feed_102 : decode cX12_feed 102 = .ok (.iand, 1) := by decide +kernel
theorem dX12_feed_103 : decode cX12_feed 103 = .ok (.iastore, 1) := by decide +kernel
theorem dX12_feed_104 : decode cX12_feed 104 = .ok (.aload_n 0, 1) := by decide +kernel
theorem dX12_feed_105 : decode cX12_feed 105 = .ok (.dup, 1) := by decide +kernel
theorem dX12_feed_106 : decode cX12_feed 106 = .ok (.getfield 233, 3) := by decide +kernel
theorem dX12_feed_109 : decode cX12_feed 109 = .ok (.iconst 1, 1) := by decide +kernel
theorem dX12_feed_110 : decode cX12_feed 110 = .ok (.iadd, 1) := by decide +kernel
theorem dX12_feed_111 : decode cX12_feed 111 = .ok (.putfield 233, 3) := by decide +kernel
theorem dX12_feed_114 : decode cX12_feed 114 = .ok (.iinc 6 1, 3) := by decide +kernel
theorem dX12_feed_117 : decode cX12_feed 117 = .ok (.goto (-94), 3) := by decide +kernel
theorem dX12_feed_120 : decode cX12_feed 120 = .ok (.aload_n 0, 1) := by decide +kernel
theorem dX12_feed_121 : decode cX12_feed 121 = .ok (.getfield 233, 3) := by decide +kernel
theorem dX12_feed_124 : decode cX12_feed 124 = .ok (.ireturn, 1) := by decide +kernel
theorem dX12_byteAt_0 : decode cX12_byteAt 0 = .ok (.iload_n 1, 1) := by decide +kernel
theorem dX12_byteAt_1 : decode cX12_byteAt 1 = .ok (.aload_n 0, 1) := by decide +kernel
theorem dX12_byteAt_2 : decode cX12_byteAt 2 = .ok (.getfield 236, 3) := by decide +kernel
theorem dX12_byteAt_5 : decode cX12_byteAt 5 = .ok (.if_icmp .ge 12, 3) := by decide +kernel
theorem dX12_byteAt_8 : decode cX12_byteAt 8 = .ok (.aload_n 0, 1) := by decide +kernel
theorem dX12_byteAt_9 : decode cX12_byteAt 9 = .ok (.getfield 74, 3) := by decide +kernel
theorem dX12_byteAt_12 : decode cX12_byteAt 12 = .ok (.iload_n 1, 1) := by decide +kernel
theorem dX12_byteAt_13 : decode cX12_byteAt 13 = .ok (.iaload, 1) := by decide +kernel
theorem dX12_byteAt_14 : decode cX12_byteAt 14 = .ok (.goto 4, 3) := by decide +kernel
theorem dX12_byteAt_17 : decode cX12_byteAt 17 = .ok (.iconst (-1), 1) := by decide +kernel
theorem dX12_byteAt_18 : decode cX12_byteAt 18 = .ok (.ireturn, 1) := by decide +kernel
theorem dX12_isLetter_0 : decode cX12_isLetter 0 = .ok (.iload_n 0, 1) := by decide +kernel
theorem dX12_isLetter_1 : decode cX12_isLetter 1 = .ok (.bipush 97, 2) := by decide +kernel
theorem dX12_isLetter_3 : decode cX12_isLetter 3 = .ok (.if_icmp .lt 13, 3) := by decide +kernel
theorem dX12_isLetter_6 : decode cX12_isLetter 6 = .ok (.iload_n 0, 1) := by decide +kernel
theorem dX12_isLetter_7 : decode cX12_isLetter 7 = .ok (.bipush 122, 2) := by decide +kernel
theorem dX12_isLetter_9 : decode cX12_isLetter 9 = .ok (.if_icmp .gt 7, 3) := by decide +kernel
theorem dX12_isLetter_12 : decode cX12_isLetter 12 = .ok (.iconst 1, 1) := by decide +kernel
theorem dX12_isLetter_13 : decode cX12_isLetter 13 = .ok (.goto 4, 3) := by decide +kernel
theorem dX12_isLetter_16 : decode cX12_isLetter 16 = .ok (.iconst 0, 1) := by decide +kernel
theorem dX12_isLetter_17 : decode cX12_isLetter 17 = .ok (.ireturn, 1) := by decide +kernel
theorem dX12_isDigit_0 : decode cX12_isDigit 0 = .ok (.iload_n 0, 1) := by decide +kernel
theorem dX12_isDigit_1 : decode cX12_isDigit 1 = .ok (.bipush 48, 2) := by decide +kernel
theorem dX12_isDigit_3 : decode cX12_isDigit 3 = .ok (.if_icmp .lt 13, 3) := by decide +kernel
theorem dX12_isDigit_6 : decode cX12_isDigit 6 = .ok (.iload_n 0, 1) := by decide +kernel
theorem dX12_isDigit_7 : decode cX12_isDigit 7 = .ok (.bipush 57, 2) := by decide +kernel
theorem dX12_isDigit_9 : decode cX12_isDigit 9 = .ok (.if_icmp .gt 7, 3) := by decide +kernel
theorem dX12_isDigit_12 : decode cX12_isDigit 12 = .ok (.iconst 1, 1) := by decide +kernel
theorem dX12_isDigit_13 : decode cX12_isDigit 13 = .ok (.goto 4, 3) := by decide +kernel
theorem dX12_isDigit_16 : decode cX12_isDigit 16 = .ok (.iconst 0, 1) := by decide +kernel
theorem dX12_isDigit_17 : decode cX12_isDigit 17 = .ok (.ireturn, 1) := by decide +kernel
theorem dX12_stepOn_0 : decode cX12_stepOn 0 = .ok (.aload_n 0, 1) := by decide +kernel
theorem dX12_stepOn_1 : decode cX12_stepOn 1 = .ok (.aload_n 0, 1) := by decide +kernel
theorem dX12_stepOn_2 : decode cX12_stepOn 2 = .ok (.getfield 239, 3) := by decide +kernel
theorem dX12_stepOn_5 : decode cX12_stepOn 5 = .ok (.invokevirtual 242, 3) := by decide +kernel
theorem dX12_stepOn_8 : decode cX12_stepOn 8 = .ok (.bipush 32, 2) := by decide +kernel
theorem dX12_stepOn_10 : decode cX12_stepOn 10 = .ok (.if_icmp .eq 16, 3) := by decide +kernel
theorem dX12_stepOn_13 : decode cX12_stepOn 13 = .ok (.aload_n 0, 1) := by decide +kernel
theorem dX12_stepOn_14 : decode cX12_stepOn 14 = .ok (.aload_n 0, 1) := by decide +kernel
theorem dX12_stepOn_15 : decode cX12_stepOn 15 = .ok (.getfield 239, 3) := by decide +kernel
theorem dX12_stepOn_18 : decode cX12_stepOn 18 = .ok (.invokevirtual 242, 3) := by decide +kernel
theorem dX12_stepOn_21 : decode cX12_stepOn 21 = .ok (.bipush 10, 2) := by decide +kernel
theorem dX12_stepOn_23 : decode cX12_stepOn 23 = .ok (.if_icmp .ne 16, 3) := by decide +kernel
theorem dX12_stepOn_26 : decode cX12_stepOn 26 = .ok (.aload_n 0, 1) := by decide +kernel
theorem dX12_stepOn_27 : decode cX12_stepOn 27 = .ok (.dup, 1) := by decide +kernel
theorem dX12_stepOn_28 : decode cX12_stepOn 28 = .ok (.getfield 239, 3) := by decide +kernel
theorem dX12_stepOn_31 : decode cX12_stepOn 31 = .ok (.iconst 1, 1) := by decide +kernel
theorem dX12_stepOn_32 : decode cX12_stepOn 32 = .ok (.iadd, 1) := by decide +kernel
theorem dX12_stepOn_33 : decode cX12_stepOn 33 = .ok (.putfield 239, 3) := by decide +kernel
theorem dX12_stepOn_36 : decode cX12_stepOn 36 = .ok (.goto (-36), 3) := by decide +kernel
theorem dX12_stepOn_39 : decode cX12_stepOn 39 = .ok (.aload_n 0, 1) := by decide +kernel
theorem dX12_stepOn_40 : decode cX12_stepOn 40 = .ok (.aload_n 0, 1) := by decide +kernel
theorem dX12_stepOn_41 : decode cX12_stepOn 41 = .ok (.getfield 239, 3) := by decide +kernel
theorem dX12_stepOn_44 : decode cX12_stepOn 44 = .ok (.putfield 246, 3) := by decide +kernel
theorem dX12_stepOn_47 : decode cX12_stepOn 47 = .ok (.aload_n 0, 1) := by decide +kernel
theorem dX12_stepOn_48 : decode cX12_stepOn 48 = .ok (.aload_n 0, 1) := by decide +kernel
theorem dX12_stepOn_49 : decode cX12_stepOn 49 = .ok (.getfield 239, 3) := by decide +kernel
theorem dX12_stepOn_52 : decode cX12_stepOn 52 = .ok (.invokevirtual 242, 3) := by decide +kernel
theorem dX12_stepOn_55 : decode cX12_stepOn 55 = .ok (.istore_n 1, 1) := by decide +kernel
theorem dX12_stepOn_56 : decode cX12_stepOn 56 = .ok (.iload_n 1, 1) := by decide +kernel
theorem dX12_stepOn_57 : decode cX12_stepOn 57 = .ok (.iconst (-1), 1) := by decide +kernel
theorem dX12_stepOn_58 : decode cX12_stepOn 58 = .ok (.if_icmp .ne 11, 3) := by decide +kernel
theorem dX12_stepOn_61 : decode cX12_stepOn 61 = .ok (.aload_n 0, 1) := by decide +kernel
theorem dX12_stepOn_62 : decode cX12_stepOn 62 = .ok (.iconst 0, 1) := by decide +kernel
theorem dX12_stepOn_63 : decode cX12_stepOn 63 = .ok (.putfield 249, 3) := by decide +kernel
theorem dX12_stepOn_66 : decode cX12_stepOn 66 = .ok (.goto 152, 3) := by decide +kernel
theorem dX12_stepOn_69 : decode cX12_stepOn 69 = .ok (.iload_n 1, 1) := by decide +kernel
theorem dX12_stepOn_70 : decode cX12_stepOn 70 = .ok (.invokestatic 252, 3) := by decide +kernel
theorem dX12_stepOn_73 : decode cX12_stepOn 73 = .ok (.ifCond .eq 38, 3) := by decide +kernel
theorem dX12_stepOn_76 : decode cX12_stepOn 76 = .ok (.aload_n 0, 1) := by decide +kernel
theorem dX12_stepOn_77 : decode cX12_stepOn 77 = .ok (.aload_n 0, 1) := by decide +kernel
theorem dX12_stepOn_78 : decode cX12_stepOn 78 = .ok (.getfield 239, 3) := by decide +kernel
theorem dX12_stepOn_81 : decode cX12_stepOn 81 = .ok (.invokevirtual 242, 3) := by decide +kernel
theorem dX12_stepOn_84 : decode cX12_stepOn 84 = .ok (.invokestatic 252, 3) := by decide +kernel
theorem dX12_stepOn_87 : decode cX12_stepOn 87 = .ok (.ifCond .eq 16, 3) := by decide +kernel
theorem dX12_stepOn_90 : decode cX12_stepOn 90 = .ok (.aload_n 0, 1) := by decide +kernel
theorem dX12_stepOn_91 : decode cX12_stepOn 91 = .ok (.dup, 1) := by decide +kernel
theorem dX12_stepOn_92 : decode cX12_stepOn 92 = .ok (.getfield 239, 3) := by decide +kernel
theorem dX12_stepOn_95 : decode cX12_stepOn 95 = .ok (.iconst 1, 1) := by decide +kernel
theorem dX12_stepOn_96 : decode cX12_stepOn 96 = .ok (.iadd, 1) := by decide +kernel
theorem dX12_stepOn_97 : decode cX12_stepOn 97 = .ok (.putfield 239, 3) := by decide +kernel
theorem dX12_stepOn_100 : decode cX12_stepOn 100 = .ok (.goto (-24), 3) := by decide +kernel
theorem dX12_stepOn_103 : decode cX12_stepOn 103 = .ok (.aload_n 0, 1) := by decide +kernel
theorem dX12_stepOn_104 : decode cX12_stepOn 104 = .ok (.iconst 1, 1) := by decide +kernel
theorem dX12_stepOn_105 : decode cX12_stepOn 105 = .ok (.putfield 249, 3) := by decide +kernel
theorem dX12_stepOn_108 : decode cX12_stepOn 108 = .ok (.goto 110, 3) := by decide +kernel
theorem dX12_stepOn_111 : decode cX12_stepOn 111 = .ok (.iload_n 1, 1) := by decide +kernel
theorem dX12_stepOn_112 : decode cX12_stepOn 112 = .ok (.invokestatic 256, 3) := by decide +kernel
theorem dX12_stepOn_115 : decode cX12_stepOn 115 = .ok (.ifCond .eq 72, 3) := by decide +kernel
theorem dX12_stepOn_118 : decode cX12_stepOn 118 = .ok (.aload_n 0, 1) := by decide +kernel
theorem dX12_stepOn_119 : decode cX12_stepOn 119 = .ok (.iconst 0, 1) := by decide +kernel
theorem dX12_stepOn_120 : decode cX12_stepOn 120 = .ok (.putfield 259, 3) := by decide +kernel
theorem dX12_stepOn_123 : decode cX12_stepOn 123 = .ok (.aload_n 0, 1) := by decide +kernel
theorem dX12_stepOn_124 : decode cX12_stepOn 124 = .ok (.aload_n 0, 1) := by decide +kernel
theorem dX12_stepOn_125 : decode cX12_stepOn 125 = .ok (.getfield 239, 3) := by decide +kernel
theorem dX12_stepOn_128 : decode cX12_stepOn 128 = .ok (.invokevirtual 242, 3) := by decide +kernel
theorem dX12_stepOn_131 : decode cX12_stepOn 131 = .ok (.invokestatic 256, 3) := by decide +kernel
theorem dX12_stepOn_134 : decode cX12_stepOn 134 = .ok (.ifCond .eq 45, 3) := by decide +kernel
theorem dX12_stepOn_137 : decode cX12_stepOn 137 = .ok (.aload_n 0, 1) := by decide +kernel
theorem dX12_stepOn_138 : decode cX12_stepOn 138 = .ok (.ldc_w 262, 3) := by decide +kernel
theorem dX12_stepOn_141 : decode cX12_stepOn 141 = .ok (.bipush 10, 2) := by decide +kernel
theorem dX12_stepOn_143 : decode cX12_stepOn 143 = .ok (.aload_n 0, 1) := by decide +kernel
theorem dX12_stepOn_144 : decode cX12_stepOn 144 = .ok (.getfield 259, 3) := by decide +kernel
theorem dX12_stepOn_147 : decode cX12_stepOn 147 = .ok (.imul, 1) := by decide +kernel
theorem dX12_stepOn_148 : decode cX12_stepOn 148 = .ok (.aload_n 0, 1) := by decide +kernel
theorem dX12_stepOn_149 : decode cX12_stepOn 149 = .ok (.aload_n 0, 1) := by decide +kernel
theorem dX12_stepOn_150 : decode cX12_stepOn 150 = .ok (.getfield 239, 3) := by decide +kernel
theorem dX12_stepOn_153 : decode cX12_stepOn 153 = .ok (.invokevirtual 242, 3) := by decide +kernel
theorem dX12_stepOn_156 : decode cX12_stepOn 156 = .ok (.iadd, 1) := by decide +kernel
theorem dX12_stepOn_157 : decode cX12_stepOn 157 = .ok (.bipush 48, 2) := by decide +kernel
theorem dX12_stepOn_159 : decode cX12_stepOn 159 = .ok (.isub, 1) := by decide +kernel
theorem dX12_stepOn_160 : decode cX12_stepOn 160 = .ok (.invokestatic 135, 3) := by decide +kernel
theorem dX12_stepOn_163 : decode cX12_stepOn 163 = .ok (.putfield 259, 3) := by decide +kernel
theorem dX12_stepOn_166 : decode cX12_stepOn 166 = .ok (.aload_n 0, 1) := by decide +kernel
theorem dX12_stepOn_167 : decode cX12_stepOn 167 = .ok (.dup, 1) := by decide +kernel
theorem dX12_stepOn_168 : decode cX12_stepOn 168 = .ok (.getfield 239, 3) := by decide +kernel
theorem dX12_stepOn_171 : decode cX12_stepOn 171 = .ok (.iconst 1, 1) := by decide +kernel
theorem dX12_stepOn_172 : decode cX12_stepOn 172 = .ok (.iadd, 1) := by decide +kernel
theorem dX12_stepOn_173 : decode cX12_stepOn 173 = .ok (.putfield 239, 3) := by decide +kernel
theorem dX12_stepOn_176 : decode cX12_stepOn 176 = .ok (.goto (-53), 3) := by decide +kernel
theorem dX12_stepOn_179 : decode cX12_stepOn 179 = .ok (.aload_n 0, 1) := by decide +kernel
theorem dX12_stepOn_180 : decode cX12_stepOn 180 = .ok (.iconst 2, 1) := by decide +kernel
theorem dX12_stepOn_181 : decode cX12_stepOn 181 = .ok (.putfield 249, 3) := by decide +kernel
theorem dX12_stepOn_184 : decode cX12_stepOn 184 = .ok (.goto 34, 3) := by decide +kernel
theorem dX12_stepOn_187 : decode cX12_stepOn 187 = .ok (.aload_n 0, 1) := by decide +kernel
theorem dX12_stepOn_188 : decode cX12_stepOn 188 = .ok (.dup, 1) := by decide +kernel
theorem dX12_stepOn_189 : decode cX12_stepOn 189 = .ok (.getfield 239, 3) := by decide +kernel
theorem dX12_stepOn_192 : decode cX12_stepOn 192 = .ok (.iconst 1, 1) := by decide +kernel
theorem dX12_stepOn_193 : decode cX12_stepOn 193 = .ok (.iadd, 1) := by decide +kernel
theorem dX12_stepOn_194 : decode cX12_stepOn 194 = .ok (.putfield 239, 3) := by decide +kernel
theorem dX12_stepOn_197 : decode cX12_stepOn 197 = .ok (.aload_n 0, 1) := by decide +kernel
theorem dX12_stepOn_198 : decode cX12_stepOn 198 = .ok (.iload_n 1, 1) := by decide +kernel
theorem dX12_stepOn_199 : decode cX12_stepOn 199 = .ok (.bipush 59, 2) := by decide +kernel
theorem dX12_stepOn_201 : decode cX12_stepOn 201 = .ok (.if_icmp .eq 9, 3) := by decide +kernel
theorem dX12_stepOn_204 : decode cX12_stepOn 204 = .ok (.iload_n 1, 1) := by decide +kernel
theorem dX12_stepOn_205 : decode cX12_stepOn 205 = .ok (.bipush 45, 2) := by decide +kernel
theorem dX12_stepOn_207 : decode cX12_stepOn 207 = .ok (.if_icmp .ne 7, 3) := by decide +kernel
theorem dX12_stepOn_210 : decode cX12_stepOn 210 = .ok (.iconst 3, 1) := by decide +kernel
theorem dX12_stepOn_211 : decode cX12_stepOn 211 = .ok (.goto 4, 3) := by decide +kernel
theorem dX12_stepOn_214 : decode cX12_stepOn 214 = .ok (.iconst 4, 1) := by decide +kernel
theorem dX12_stepOn_215 : decode cX12_stepOn 215 = .ok (.putfield 249, 3) := by decide +kernel
theorem dX12_stepOn_218 : decode cX12_stepOn 218 = .ok (.aload_n 0, 1) := by decide +kernel
theorem dX12_stepOn_219 : decode cX12_stepOn 219 = .ok (.aload_n 0, 1) := by decide +kernel
theorem dX12_stepOn_220 : decode cX12_stepOn 220 = .ok (.getfield 239, 3) := by decide +kernel
theorem dX12_stepOn_223 : decode cX12_stepOn 223 = .ok (.putfield 263, 3) := by decide +kernel
theorem dX12_stepOn_226 : decode cX12_stepOn 226 = .ok (.return_, 1) := by decide +kernel
theorem dX12_wrong_0 : decode cX12_wrong 0 = .ok (.aload_n 0, 1) := by decide +kernel
theorem dX12_wrong_1 : decode cX12_wrong 1 = .ok (.getfield 266, 3) := by decide +kernel
theorem dX12_wrong_4 : decode cX12_wrong 4 = .ok (.ifCond .eq 4, 3) := by decide +kernel
theorem dX12_wrong_7 : decode cX12_wrong 7 = .ok (.return_, 1) := by decide +kernel
theorem dX12_wrong_8 : decode cX12_wrong 8 = .ok (.aload_n 0, 1) := by decide +kernel
theorem dX12_wrong_9 : decode cX12_wrong 9 = .ok (.iload_n 1, 1) := by decide +kernel
theorem dX12_wrong_10 : decode cX12_wrong 10 = .ok (.putfield 266, 3) := by decide +kernel
theorem dX12_wrong_13 : decode cX12_wrong 13 = .ok (.aload_n 0, 1) := by decide +kernel
theorem dX12_wrong_14 : decode cX12_wrong 14 = .ok (.aload_n 0, 1) := by decide +kernel
theorem dX12_wrong_15 : decode cX12_wrong 15 = .ok (.getfield 246, 3) := by decide +kernel
theorem dX12_wrong_18 : decode cX12_wrong 18 = .ok (.putfield 269, 3) := by decide +kernel
theorem dX12_wrong_21 : decode cX12_wrong 21 = .ok (.return_, 1) := by decide +kernel
theorem dX12_is_0 : decode cX12_is 0 = .ok (.aload_n 0, 1) := by decide +kernel
theorem dX12_is_1 : decode cX12_is 1 = .ok (.getfield 266, 3) := by decide +kernel
theorem dX12_is_4 : decode cX12_is 4 = .ok (.ifCond .ne 31, 3) := by decide +kernel
theorem dX12_is_7 : decode cX12_is 7 = .ok (.aload_n 0, 1) := by decide +kernel
theorem dX12_is_8 : decode cX12_is 8 = .ok (.getfield 249, 3) := by decide +kernel
theorem dX12_is_11 : decode cX12_is 11 = .ok (.iconst 1, 1) := by decide +kernel
theorem dX12_is_12 : decode cX12_is 12 = .ok (.if_icmp .ne 23, 3) := by decide +kernel
theorem dX12_is_15 : decode cX12_is 15 = .ok (.aload_n 1, 1) := by decide +kernel
theorem dX12_is_16 : decode cX12_is 16 = .ok (.invokevirtual 272, 3) := by decide +kernel
theorem dX12_is_19 : decode cX12_is 19 = .ok (.aload_n 0, 1) := by decide +kernel
theorem dX12_is_20 : decode cX12_is 20 = .ok (.getfield 263, 3) := by decide +kernel
theorem dX12_is_23 : decode cX12_is 23 = .ok (.aload_n 0, 1) := by decide +kernel
theorem dX12_is_24 : decode cX12_is 24 = .ok (.getfield 246, 3) := by decide +kernel
theorem dX12_is_27 : decode cX12_is 27 = .ok (.isub, 1) := by decide +kernel
theorem dX12_is_28 : decode cX12_is 28 = .ok (.if_icmp .ne 7, 3) := by decide +kernel
theorem dX12_is_31 : decode cX12_is 31 = .ok (.iconst 1, 1) := by decide +kernel
theorem dX12_is_32 : decode cX12_is 32 = .ok (.goto 4, 3) := by decide +kernel
theorem dX12_is_35 : decode cX12_is 35 = .ok (.iconst 0, 1) := by decide +kernel
theorem dX12_is_36 : decode cX12_is 36 = .ok (.istore_n 2, 1) := by decide +kernel
theorem dX12_is_37 : decode cX12_is 37 = .ok (.iconst 0, 1) := by decide +kernel
theorem dX12_is_38 : decode cX12_is 38 = .ok (.istore_n 3, 1) := by decide +kernel
theorem dX12_is_39 : decode cX12_is 39 = .ok (.iload_n 2, 1) := by decide +kernel
theorem dX12_is_40 : decode cX12_is 40 = .ok (.ifCond .eq 42, 3) := by decide +kernel
theorem dX12_is_43 : decode cX12_is 43 = .ok (.iload_n 3, 1) := by decide +kernel
theorem dX12_is_44 : decode cX12_is 44 = .ok (.aload_n 1, 1) := by decide +kernel
theorem dX12_is_45 : decode cX12_is 45 = .ok (.invokevirtual 272, 3) := by decide +kernel
theorem dX12_is_48 : decode cX12_is 48 = .ok (.if_icmp .ge 34, 3) := by decide +kernel
theorem dX12_is_51 : decode cX12_is 51 = .ok (.aload_n 1, 1) := by decide +kernel
theorem dX12_is_52 : decode cX12_is 52 = .ok (.iload_n 3, 1) := by decide +kernel
theorem dX12_is_53 : decode cX12_is 53 = .ok (.invokevirtual 276, 3) := by decide +kernel
theorem dX12_is_56 : decode cX12_is 56 = .ok (.aload_n 0, 1) := by decide +kernel
theorem dX12_is_57 : decode cX12_is 57 = .ok (.getfield 74, 3) := by decide +kernel
theorem dX12_is_60 : decode cX12_is 60 = .ok (.aload_n 0, 1) := by decide +kernel
theorem dX12_is_61 : decode cX12_is 61 = .ok (.getfield 246, 3) := by decide +kernel
theorem dX12_is_64 : decode cX12_is 64 = .ok (.iload_n 3, 1) := by decide +kernel
theorem dX12_is_65 : decode cX12_is 65 = .ok (.iadd, 1) := by decide +kernel
theorem dX12_is_66 : decode cX12_is 66 = .ok (.iaload, 1) := by decide +kernel
theorem dX12_is_67 : decode cX12_is 67 = .ok (.if_icmp .ne 7, 3) := by decide +kernel
theorem dX12_is_70 : decode cX12_is 70 = .ok (.iconst 1, 1) := by decide +kernel
theorem dX12_is_71 : decode cX12_is 71 = .ok (.goto 4, 3) := by decide +kernel
theorem dX12_is_74 : decode cX12_is 74 = .ok (.iconst 0, 1) := by decide +kernel
theorem dX12_is_75 : decode cX12_is 75 = .ok (.istore_n 2, 1) := by decide +kernel
theorem dX12_is_76 : decode cX12_is 76 = .ok (.iinc 3 1, 3) := by decide +kernel
theorem dX12_is_79 : decode cX12_is 79 = .ok (.goto (-40), 3) := by decide +kernel
theorem dX12_is_82 : decode cX12_is 82 = .ok (.iload_n 2, 1) := by decide +kernel
theorem dX12_is_83 : decode cX12_is 83 = .ok (.ireturn, 1) := by decide +kernel
theorem dX12_which_0 : decode cX12_which 0 = .ok (.iconst 0, 1) := by decide +kernel
theorem dX12_which_1 : decode cX12_which 1 = .ok (.istore_n 1, 1) := by decide +kernel
theorem dX12_which_2 : decode cX12_which 2 = .ok (.iload_n 1, 1) := by decide +kernel
theorem dX12_which_3 : decode cX12_which 3 = .ok (.aload_n 0, 1) := by decide +kernel
theorem dX12_which_4 : decode cX12_which 4 = .ok (.getfield 27, 3) := by decide +kernel
theorem dX12_which_7 : decode cX12_which 7 = .ok (.arraylength, 1) := by decide +kernel
theorem dX12_which_8 : decode cX12_which 8 = .ok (.if_icmp .ge 24, 3) := by decide +kernel
theorem dX12_which_11 : decode cX12_which 11 = .ok (.aload_n 0, 1) := by decide +kernel
theorem dX12_which_12 : decode cX12_which 12 = .ok (.aload_n 0, 1) := by decide +kernel
theorem dX12_which_13 : decode cX12_which 13 = .ok (.getfield 27, 3) := by decide +kernel
theorem dX12_which_16 : decode cX12_which 16 = .ok (.iload_n 1, 1) := by decide +kernel
theorem dX12_which_17 : decode cX12_which 17 = .ok (.aaload, 1) := by decide +kernel
theorem dX12_which_18 : decode cX12_which 18 = .ok (.invokevirtual 280, 3) := by decide +kernel
theorem dX12_which_21 : decode cX12_which 21 = .ok (.ifCond .eq 5, 3) := by decide +kernel
theorem dX12_which_24 : decode cX12_which 24 = .ok (.iload_n 1, 1) := by decide +kernel
theorem dX12_which_25 : decode cX12_which 25 = .ok (.ireturn, 1) := by decide +kernel
theorem dX12_which_26 : decode cX12_which 26 = .ok (.iinc 1 1, 3) := by decide +kernel
theorem dX12_which_29 : decode cX12_which 29 = .ok (.goto (-27), 3) := by decide +kernel
theorem dX12_which_32 : decode cX12_which 32 = .ok (.iconst (-1), 1) := by decide +kernel
theorem dX12_which_33 : decode cX12_which 33 = .ok (.ireturn, 1) := by decide +kernel
theorem dX12_isMarked_0 : decode cX12_isMarked 0 = .ok (.aload_n 0, 1) := by decide +kernel
theorem dX12_isMarked_1 : decode cX12_isMarked 1 = .ok (.getfield 266, 3) := by decide +kernel
theorem dX12_isMarked_4 : decode cX12_isMarked 4 = .ok (.ifCond .ne 28, 3) := by decide +kernel
theorem dX12_isMarked_7 : decode cX12_isMarked 7 = .ok (.aload_n 0, 1) := by decide +kernel
theorem dX12_isMarked_8 : decode cX12_isMarked 8 = .ok (.getfield 249, 3) := by decide +kernel
theorem dX12_isMarked_11 : decode cX12_isMarked 11 = .ok (.iconst 3, 1) := by decide +kernel
theorem dX12_isMarked_12 : decode cX12_isMarked 12 = .ok (.if_icmp .ne 20, 3) := by decide +kernel
theorem dX12_isMarked_15 : decode cX12_isMarked 15 = .ok (.aload_n 0, 1) := by decide +kernel
theorem dX12_isMarked_16 : decode cX12_isMarked 16 = .ok (.getfield 74, 3) := by decide +kernel
theorem dX12_isMarked_19 : decode cX12_isMarked 19 = .ok (.aload_n 0, 1) := by decide +kernel
theorem dX12_isMarked_20 : decode cX12_isMarked 20 = .ok (.getfield 246, 3) := by decide +kernel
theorem dX12_isMarked_23 : decode cX12_isMarked 23 = .ok (.iaload, 1) := by decide +kernel
theorem dX12_isMarked_24 : decode cX12_isMarked 24 = .ok (.iload_n 1, 1) := by decide +kernel
theorem dX12_isMarked_25 : decode cX12_isMarked 25 = .ok (.if_icmp .ne 7, 3) := by decide +kernel
theorem dX12_isMarked_28 : decode cX12_isMarked 28 = .ok (.iconst 1, 1) := by decide +kernel
theorem dX12_isMarked_29 : decode cX12_isMarked 29 = .ok (.goto 4, 3) := by decide +kernel
theorem dX12_isMarked_32 : decode cX12_isMarked 32 = .ok (.iconst 0, 1) := by decide +kernel
theorem dX12_isMarked_33 : decode cX12_isMarked 33 = .ok (.ireturn, 1) := by decide +kernel
theorem dX12_numberNow_0 : decode cX12_numberNow 0 = .ok (.aload_n 0, 1) := by decide +kernel
theorem dX12_numberNow_1 : decode cX12_numberNow 1 = .ok (.getfield 266, 3) := by decide +kernel
theorem dX12_numberNow_4 : decode cX12_numberNow 4 = .ok (.ifCond .eq 5, 3) := by decide +kernel
theorem dX12_numberNow_7 : decode cX12_numberNow 7 = .ok (.iconst 0, 1) := by decide +kernel
theorem dX12_numberNow_8 : decode cX12_numberNow 8 = .ok (.ireturn, 1) := by decide +kernel
theorem dX12_numberNow_9 : decode cX12_numberNow 9 = .ok (.aload_n 0, 1) := by decide +kernel
theorem dX12_numberNow_10 : decode cX12_numberNow 10 = .ok (.getfield 249, 3) := by decide +kernel
theorem dX12_numberNow_13 : decode cX12_numberNow 13 = .ok (.iconst 2, 1) := by decide +kernel
theorem dX12_numberNow_14 : decode cX12_numberNow 14 = .ok (.if_icmp .eq 11, 3) := by decide +kernel
theorem dX12_numberNow_17 : decode cX12_numberNow 17 = .ok (.aload_n 0, 1) := by decide +kernel
theorem dX12_numberNow_18 : decode cX12_numberNow 18 = .ok (.iconst 1, 1) := by decide +kernel
theorem dX12_numberNow_19 : decode cX12_numberNow 19 = .ok (.invokevirtual 284, 3) := by decide +kernel
theorem dX12_numberNow_22 : decode cX12_numberNow 22 = .ok (.goto 29, 3) := by decide +kernel
theorem dX12_numberNow_25 : decode cX12_numberNow 25 = .ok (.aload_n 0, 1) := by decide +kernel
theorem dX12_numberNow_26 : decode cX12_numberNow 26 = .ok (.getfield 263, 3) := by decide +kernel
theorem dX12_numberNow_29 : decode cX12_numberNow 29 = .ok (.aload_n 0, 1) := by decide +kernel
theorem dX12_numberNow_30 : decode cX12_numberNow 30 = .ok (.getfield 246, 3) := by decide +kernel
theorem dX12_numberNow_33 : decode cX12_numberNow 33 = .ok (.isub, 1) := by decide +kernel
theorem dX12_numberNow_34 : decode cX12_numberNow 34 = .ok (.iconst 3, 1) := by decide +kernel
theorem dX12_numberNow_35 : decode cX12_numberNow 35 = .ok (.if_icmp .gt 11, 3) := by decide +kernel
theorem dX12_numberNow_38 : decode cX12_numberNow 38 = .ok (.aload_n 0, 1) := by decide +kernel
theorem dX12_numberNow_39 : decode cX12_numberNow 39 = .ok (.getfield 259, 3) := by decide +kernel
theorem dX12_numberNow_42 : decode cX12_numberNow 42 = .ok (.iload_n 1, 1) := by decide +kernel
theorem dX12_numberNow_43 : decode cX12_numberNow 43 = .ok (.if_icmp .le 8, 3) := by decide +kernel
theorem dX12_numberNow_46 : decode cX12_numberNow 46 = .ok (.aload_n 0, 1) := by decide +kernel
theorem dX12_numberNow_47 : decode cX12_numberNow 47 = .ok (.iconst 2, 1) := by decide +kernel
theorem dX12_numberNow_48 : decode cX12_numberNow 48 = .ok (.invokevirtual 284, 3) := by decide +kernel
theorem dX12_numberNow_51 : decode cX12_numberNow 51 = .ok (.aload_n 0, 1) := by decide +kernel
theorem dX12_numberNow_52 : decode cX12_numberNow 52 = .ok (.getfield 266, 3) := by decide +kernel
theorem dX12_numberNow_55 : decode cX12_numberNow 55 = .ok (.ifCond .ne 10, 3) := by decide +kernel
theorem dX12_numberNow_58 : decode cX12_numberNow 58 = .ok (.aload_n 0, 1) := by decide +kernel
theorem dX12_numberNow_59 : decode cX12_numberNow 59 = .ok (.getfield 259, 3) := by decide +kernel
theorem dX12_numberNow_62 : decode cX12_numberNow 62 = .ok (.goto 4, 3) := by decide +kernel
theorem dX12_numberNow_65 : decode cX12_numberNow 65 = .ok (.iconst 0, 1) := by decide +kernel
theorem dX12_numberNow_66 : decode cX12_numberNow 66 = .ok (.ireturn, 1) := by decide +kernel
theorem dX12_readNumber_0 : decode cX12_readNumber 0 = .ok (.aload_n 0, 1) := by decide +kernel
theorem dX12_readNumber_1 : decode cX12_readNumber 1 = .ok (.iload_n 1, 1) := by decide +kernel
theorem dX12_readNumber_2 : decode cX12_readNumber 2 = .ok (.invokevirtual 287, 3) := by decide +kernel
theorem dX12_readNumber_5 : decode cX12_readNumber 5 = .ok (.istore_n 2, 1) := by decide +kernel
theorem dX12_readNumber_6 : decode cX12_readNumber 6 = .ok (.aload_n 0, 1) := by decide +kernel
theorem dX12_readNumber_7 : decode cX12_readNumber 7 = .ok (.getfield 266, 3) := by decide +kernel
theorem dX12_readNumber_10 : decode cX12_readNumber 10 = .ok (.ifCond .ne 7, 3) := by decide +kernel
theorem dX12_readNumber_13 : decode cX12_readNumber 13 = .ok (.aload_n 0, 1) := by decide +kernel
theorem dX12_readNumber_14 : decode cX12_readNumber 14 = .ok (.invokevirtual 290, 3) := by decide +kernel
theorem dX12_readNumber_17 : decode cX12_readNumber 17 = .ok (.iload_n 2, 1) := by decide +kernel
theorem dX12_readNumber_18 : decode cX12_readNumber 18 = .ok (.ireturn, 1) := by decide +kernel
theorem dX12_readPlace_0 : decode cX12_readPlace 0 = .ok (.aload_n 0, 1) := by decide +kernel
theorem dX12_readPlace_1 : decode cX12_readPlace 1 = .ok (.bipush 45, 2) := by decide +kernel
theorem dX12_readPlace_3 : decode cX12_readPlace 3 = .ok (.invokevirtual 293, 3) := by decide +kernel
theorem dX12_readPlace_6 : decode cX12_readPlace 6 = .ok (.istore_n 1, 1) := by decide +kernel
theorem dX12_readPlace_7 : decode cX12_readPlace 7 = .ok (.iload_n 1, 1) := by decide +kernel
theorem dX12_readPlace_8 : decode cX12_readPlace 8 = .ok (.ifCond .eq 7, 3) := by decide +kernel
theorem dX12_readPlace_11 : decode cX12_readPlace 11 = .ok (.aload_n 0, 1) := by decide +kernel
theorem dX12_readPlace_12 : decode cX12_readPlace 12 = .ok (.invokevirtual 290, 3) := by decide +kernel
theorem dX12_readPlace_15 : decode cX12_readPlace 15 = .ok (.aload_n 0, 1) := by decide +kernel
theorem dX12_readPlace_16 : decode cX12_readPlace 16 = .ok (.sipush 500, 3) := by decide +kernel
theorem dX12_readPlace_19 : decode cX12_readPlace 19 = .ok (.invokevirtual 296, 3) := by decide +kernel
theorem dX12_readPlace_22 : decode cX12_readPlace 22 = .ok (.istore_n 2, 1) := by decide +kernel
theorem dX12_readPlace_23 : decode cX12_readPlace 23 = .ok (.iload_n 1, 1) := by decide +kernel
theorem dX12_readPlace_24 : decode cX12_readPlace 24 = .ok (.ifCond .eq 8, 3) := by decide +kernel
theorem dX12_readPlace_27 : decode cX12_readPlace 27 = .ok (.iload_n 2, 1) := by decide +kernel
theorem dX12_readPlace_28 : decode cX12_readPlace 28 = .ok (.ineg, 1) := by decide +kernel
theorem dX12_readPlace_29 : decode cX12_readPlace 29 = .ok (.goto 4, 3) := by decide +kernel
theorem dX12_readPlace_32 : decode cX12_readPlace 32 = .ok (.iload_n 2, 1) := by decide +kernel
theorem dX12_readPlace_33 : decode cX12_readPlace 33 = .ok (.ireturn, 1) := by decide +kernel
theorem dX12_readCost_0 : decode cX12_readCost 0 = .ok (.aload_n 0, 1) := by decide +kernel
theorem dX12_readCost_1 : decode cX12_readCost 1 = .ok (.iconst 3, 1) := by decide +kernel
theorem dX12_readCost_2 : decode cX12_readCost 2 = .ok (.invokevirtual 287, 3) := by decide +kernel
theorem dX12_readCost_5 : decode cX12_readCost 5 = .ok (.istore_n 2, 1) := by decide +kernel
