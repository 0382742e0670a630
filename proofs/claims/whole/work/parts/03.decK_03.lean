theorem dX4_read_6 : decode cX4_read 6 = .ok (.iload_n 2, 1) := by decide +kernel
theorem dX4_read_7 : decode cX4_read 7 = .ok (.aload_n 1, 1) := by decide +kernel
theorem dX4_read_8 : decode cX4_read 8 = .ok (.arraylength, 1) := by decide +kernel
theorem dX4_read_9 : decode cX4_read 9 = .ok (.invokestatic 28, 3) := by decide +kernel
theorem dX4_read_12 : decode cX4_read 12 = .ok (.putfield 34, 3) := by decide +kernel
theorem dX4_read_15 : decode cX4_read 15 = .ok (.aload_n 0, 1) := by decide +kernel
theorem dX4_read_16 : decode cX4_read 16 = .ok (.iload_n 3, 1) := by decide +kernel
theorem dX4_read_17 : decode cX4_read 17 = .ok (.putfield 38, 3) := by decide +kernel
theorem dX4_read_20 : decode cX4_read 20 = .ok (.aload_n 0, 1) := by decide +kernel
theorem dX4_read_21 : decode cX4_read 21 = .ok (.iconst 0, 1) := by decide +kernel
theorem dX4_read_22 : decode cX4_read 22 = .ok (.putfield 41, 3) := by decide +kernel
theorem dX4_read_25 : decode cX4_read 25 = .ok (.aload_n 0, 1) := by decide +kernel
theorem dX4_read_26 : decode cX4_read 26 = .ok (.iconst 0, 1) := by decide +kernel
theorem dX4_read_27 : decode cX4_read 27 = .ok (.putfield 44, 3) := by decide +kernel
theorem dX4_read_30 : decode cX4_read 30 = .ok (.aload_n 0, 1) := by decide +kernel
theorem dX4_read_31 : decode cX4_read 31 = .ok (.iconst (-1), 1) := by decide +kernel
theorem dX4_read_32 : decode cX4_read 32 = .ok (.putfield 47, 3) := by decide +kernel
theorem dX4_read_35 : decode cX4_read 35 = .ok (.aload_n 0, 1) := by decide +kernel
theorem dX4_read_36 : decode cX4_read 36 = .ok (.iconst 0, 1) := by decide +kernel
theorem dX4_read_37 : decode cX4_read 37 = .ok (.putfield 50, 3) := by decide +kernel
theorem dX4_read_40 : decode cX4_read 40 = .ok (.iconst 0, 1) := by decide +kernel
theorem dX4_read_41 : decode cX4_read 41 = .ok (.istore 4, 2) := by decide +kernel
theorem dX4_read_43 : decode cX4_read 43 = .ok (.iload 4, 2) := by decide +kernel
theorem dX4_read_45 : decode cX4_read 45 = .ok (.bipush 40, 2) := by decide +kernel
theorem dX4_read_47 : decode cX4_read 47 = .ok (.if_icmp .gt 32, 3) := by decide +kernel
theorem dX4_read_50 : decode cX4_read 50 = .ok (.aload_n 0, 1) := by decide +kernel
theorem dX4_read_51 : decode cX4_read 51 = .ok (.getfield 44, 3) := by decide +kernel
theorem dX4_read_54 : decode cX4_read 54 = .ok (.ifCond .ne 25, 3) := by decide +kernel
theorem dX4_read_57 : decode cX4_read 57 = .ok (.aload_n 0, 1) := by decide +kernel
theorem dX4_read_58 : decode cX4_read 58 = .ok (.invokevirtual 53, 3) := by decide +kernel
theorem dX4_read_61 : decode cX4_read 61 = .ok (.aload_n 0, 1) := by decide +kernel
theorem dX4_read_62 : decode cX4_read 62 = .ok (.getfield 56, 3) := by decide +kernel
theorem dX4_read_65 : decode cX4_read 65 = .ok (.ifCond .ne 4, 3) := by decide +kernel
theorem dX4_read_68 : decode cX4_read 68 = .ok (.return_, 1) := by decide +kernel
theorem dX4_read_69 : decode cX4_read 69 = .ok (.aload_n 0, 1) := by decide +kernel
theorem dX4_read_70 : decode cX4_read 70 = .ok (.invokevirtual 59, 3) := by decide +kernel
theorem dX4_read_73 : decode cX4_read 73 = .ok (.iinc 4 1, 3) := by decide +kernel
theorem dX4_read_76 : decode cX4_read 76 = .ok (.goto (-33), 3) := by decide +kernel
theorem dX4_read_79 : decode cX4_read 79 = .ok (.return_, 1) := by decide +kernel
theorem dX4_readClause_0 : decode cX4_readClause 0 = .ok (.aload_n 0, 1) := by decide +kernel
theorem dX4_readClause_1 : decode cX4_readClause 1 = .ok (.getfield 56, 3) := by decide +kernel
theorem dX4_readClause_4 : decode cX4_readClause 4 = .ok (.iconst 1, 1) := by decide +kernel
theorem dX4_readClause_5 : decode cX4_readClause 5 = .ok (.if_icmp .ne 10, 3) := by decide +kernel
theorem dX4_readClause_8 : decode cX4_readClause 8 = .ok (.aload_n 0, 1) := by decide +kernel
theorem dX4_readClause_9 : decode cX4_readClause 9 = .ok (.invokevirtual 62, 3) := by decide +kernel
theorem dX4_readClause_12 : decode cX4_readClause 12 = .ok (.goto 4, 3) := by decide +kernel
theorem dX4_readClause_15 : decode cX4_readClause 15 = .ok (.iconst (-1), 1) := by decide +kernel
theorem dX4_readClause_16 : decode cX4_readClause 16 = .ok (.istore_n 1, 1) := by decide +kernel
theorem dX4_readClause_17 : decode cX4_readClause 17 = .ok (.iload_n 1, 1) := by decide +kernel
theorem dX4_readClause_18 : decode cX4_readClause 18 = .ok (.iconst (-1), 1) := by decide +kernel
theorem dX4_readClause_19 : decode cX4_readClause 19 = .ok (.if_icmp .ne 9, 3) := by decide +kernel
theorem dX4_readClause_22 : decode cX4_readClause 22 = .ok (.aload_n 0, 1) := by decide +kernel
theorem dX4_readClause_23 : decode cX4_readClause 23 = .ok (.iconst 1, 1) := by decide +kernel
theorem dX4_readClause_24 : decode cX4_readClause 24 = .ok (.invokevirtual 66, 3) := by decide +kernel
theorem dX4_readClause_27 : decode cX4_readClause 27 = .ok (.return_, 1) := by decide +kernel
theorem dX4_readClause_28 : decode cX4_readClause 28 = .ok (.aload_n 0, 1) := by decide +kernel
theorem dX4_readClause_29 : decode cX4_readClause 29 = .ok (.getfield 41, 3) := by decide +kernel
theorem dX4_readClause_32 : decode cX4_readClause 32 = .ok (.bipush 40, 2) := by decide +kernel
theorem dX4_readClause_34 : decode cX4_readClause 34 = .ok (.if_icmp .lt 9, 3) := by decide +kernel
theorem dX4_readClause_37 : decode cX4_readClause 37 = .ok (.aload_n 0, 1) := by decide +kernel
theorem dX4_readClause_38 : decode cX4_readClause 38 = .ok (.iconst 3, 1) := by decide +kernel
theorem dX4_readClause_39 : decode cX4_readClause 39 = .ok (.invokevirtual 66, 3) := by decide +kernel
theorem dX4_readClause_42 : decode cX4_readClause 42 = .ok (.return_, 1) := by decide +kernel
theorem dX4_readClause_43 : decode cX4_readClause 43 = .ok (.aload_n 0, 1) := by decide +kernel
theorem dX4_readClause_44 : decode cX4_readClause 44 = .ok (.getfield 21, 3) := by decide +kernel
theorem dX4_readClause_47 : decode cX4_readClause 47 = .ok (.aload_n 0, 1) := by decide +kernel
theorem dX4_readClause_48 : decode cX4_readClause 48 = .ok (.getfield 41, 3) := by decide +kernel
theorem dX4_readClause_51 : decode cX4_readClause 51 = .ok (.aload_n 0, 1) := by decide +kernel
theorem dX4_readClause_52 : decode cX4_readClause 52 = .ok (.getfield 70, 3) := by decide +kernel
theorem dX4_readClause_55 : decode cX4_readClause 55 = .ok (.iastore, 1) := by decide +kernel
theorem dX4_readClause_56 : decode cX4_readClause 56 = .ok (.aload_n 0, 1) := by decide +kernel
theorem dX4_readClause_57 : decode cX4_readClause 57 = .ok (.getfield 9, 3) := by decide +kernel
theorem dX4_readClause_60 : decode cX4_readClause 60 = .ok (.aload_n 0, 1) := by decide +kernel
theorem dX4_readClause_61 : decode cX4_readClause 61 = .ok (.getfield 41, 3) := by decide +kernel
theorem dX4_readClause_64 : decode cX4_readClause 64 = .ok (.iload_n 1, 1) := by decide +kernel
theorem dX4_readClause_65 : decode cX4_readClause 65 = .ok (.iastore, 1) := by decide +kernel
theorem dX4_readClause_66 : decode cX4_readClause 66 = .ok (.aload_n 0, 1) := by decide +kernel
theorem dX4_readClause_67 : decode cX4_readClause 67 = .ok (.getfield 15, 3) := by decide +kernel
theorem dX4_readClause_70 : decode cX4_readClause 70 = .ok (.aload_n 0, 1) := by decide +kernel
theorem dX4_readClause_71 : decode cX4_readClause 71 = .ok (.getfield 41, 3) := by decide +kernel
theorem dX4_readClause_74 : decode cX4_readClause 74 = .ok (.aload_n 0, 1) := by decide +kernel
theorem dX4_readClause_75 : decode cX4_readClause 75 = .ok (.iload_n 1, 1) := by decide +kernel
theorem dX4_readClause_76 : decode cX4_readClause 76 = .ok (.invokevirtual 73, 3) := by decide +kernel
theorem dX4_readClause_79 : decode cX4_readClause 79 = .ok (.iastore, 1) := by decide +kernel
theorem dX4_readClause_80 : decode cX4_readClause 80 = .ok (.aload_n 0, 1) := by decide +kernel
theorem dX4_readClause_81 : decode cX4_readClause 81 = .ok (.getfield 18, 3) := by decide +kernel
theorem dX4_readClause_84 : decode cX4_readClause 84 = .ok (.aload_n 0, 1) := by decide +kernel
theorem dX4_readClause_85 : decode cX4_readClause 85 = .ok (.getfield 41, 3) := by decide +kernel
theorem dX4_readClause_88 : decode cX4_readClause 88 = .ok (.iload_n 1, 1) := by decide +kernel
theorem dX4_readClause_89 : decode cX4_readClause 89 = .ok (.invokestatic 77, 3) := by decide +kernel
theorem dX4_readClause_92 : decode cX4_readClause 92 = .ok (.iconst 2, 1) := by decide +kernel
theorem dX4_readClause_93 : decode cX4_readClause 93 = .ok (.if_icmp .ne 20, 3) := by decide +kernel
theorem dX4_readClause_96 : decode cX4_readClause 96 = .ok (.aload_n 0, 1) := by decide +kernel
theorem dX4_readClause_97 : decode cX4_readClause 97 = .ok (.getfield 44, 3) := by decide +kernel
theorem dX4_readClause_100 : decode cX4_readClause 100 = .ok (.ifCond .ne 13, 3) := by decide +kernel
theorem dX4_readClause_103 : decode cX4_readClause 103 = .ok (.aload_n 0, 1) := by decide +kernel
theorem dX4_readClause_104 : decode cX4_readClause 104 = .ok (.iconst 0, 1) := by decide +kernel
theorem dX4_readClause_105 : decode cX4_readClause 105 = .ok (.bipush 99, 2) := by decide +kernel
theorem dX4_readClause_107 : decode cX4_readClause 107 = .ok (.invokevirtual 80, 3) := by decide +kernel
theorem dX4_readClause_110 : decode cX4_readClause 110 = .ok (.goto 4, 3) := by decide +kernel
theorem dX4_readClause_113 : decode cX4_readClause 113 = .ok (.iconst 0, 1) := by decide +kernel
theorem dX4_readClause_114 : decode cX4_readClause 114 = .ok (.iastore, 1) := by decide +kernel
theorem dX4_readClause_115 : decode cX4_readClause 115 = .ok (.aload_n 0, 1) := by decide +kernel
theorem dX4_readClause_116 : decode cX4_readClause 116 = .ok (.getfield 44, 3) := by decide +kernel
theorem dX4_readClause_119 : decode cX4_readClause 119 = .ok (.ifCond .eq 4, 3) := by decide +kernel
theorem dX4_readClause_122 : decode cX4_readClause 122 = .ok (.return_, 1) := by decide +kernel
theorem dX4_readClause_123 : decode cX4_readClause 123 = .ok (.aload_n 0, 1) := by decide +kernel
theorem dX4_readClause_124 : decode cX4_readClause 124 = .ok (.invokevirtual 53, 3) := by decide +kernel
theorem dX4_readClause_127 : decode cX4_readClause 127 = .ok (.aload_n 0, 1) := by decide +kernel
theorem dX4_readClause_128 : decode cX4_readClause 128 = .ok (.bipush 59, 2) := by decide +kernel
theorem dX4_readClause_130 : decode cX4_readClause 130 = .ok (.invokevirtual 84, 3) := by decide +kernel
theorem dX4_readClause_133 : decode cX4_readClause 133 = .ok (.ifCond .ne 9, 3) := by decide +kernel
theorem dX4_readClause_136 : decode cX4_readClause 136 = .ok (.aload_n 0, 1) := by decide +kernel
theorem dX4_readClause_137 : decode cX4_readClause 137 = .ok (.iconst 1, 1) := by decide +kernel
theorem dX4_readClause_138 : decode cX4_readClause 138 = .ok (.invokevirtual 66, 3) := by decide +kernel
theorem dX4_readClause_141 : decode cX4_readClause 141 = .ok (.return_, 1) := by decide +kernel
theorem dX4_readClause_142 : decode cX4_readClause 142 = .ok (.aload_n 0, 1) := by decide +kernel
theorem dX4_readClause_143 : decode cX4_readClause 143 = .ok (.dup, 1) := by decide +kernel
theorem dX4_readClause_144 : decode cX4_readClause 144 = .ok (.getfield 41, 3) := by decide +kernel
theorem dX4_readClause_147 : decode cX4_readClause 147 = .ok (.iconst 1, 1) := by decide +kernel
theorem dX4_readClause_148 : decode cX4_readClause 148 = .ok (.iadd, 1) := by decide +kernel
theorem dX4_readClause_149 : decode cX4_readClause 149 = .ok (.putfield 41, 3) := by decide +kernel
theorem dX4_readClause_152 : decode cX4_readClause 152 = .ok (.return_, 1) := by decide +kernel
theorem dX4_readFirst_0 : decode cX4_readFirst 0 = .ok (.iload_n 1, 1) := by decide +kernel
theorem dX4_readFirst_1 : decode cX4_readFirst 1 = .ok (.invokestatic 77, 3) := by decide +kernel
theorem dX4_readFirst_4 : decode cX4_readFirst 4 = .ok (.ifCond .ne 5, 3) := by decide +kernel
theorem dX4_readFirst_7 : decode cX4_readFirst 7 = .ok (.iconst 0, 1) := by decide +kernel
theorem dX4_readFirst_8 : decode cX4_readFirst 8 = .ok (.ireturn, 1) := by decide +kernel
theorem dX4_readFirst_9 : decode cX4_readFirst 9 = .ok (.aload_n 0, 1) := by decide +kernel
theorem dX4_readFirst_10 : decode cX4_readFirst 10 = .ok (.getstatic 88, 3) := by decide +kernel
theorem dX4_readFirst_13 : decode cX4_readFirst 13 = .ok (.iload_n 1, 1) := by decide +kernel
theorem dX4_readFirst_14 : decode cX4_readFirst 14 = .ok (.iaload, 1) := by decide +kernel
theorem dX4_readFirst_15 : decode cX4_readFirst 15 = .ok (.ifCond .ge 7, 3) := by decide +kernel
theorem dX4_readFirst_18 : decode cX4_readFirst 18 = .ok (.iconst 1, 1) := by decide +kernel
theorem dX4_readFirst_19 : decode cX4_readFirst 19 = .ok (.goto 4, 3) := by decide +kernel
theorem dX4_readFirst_22 : decode cX4_readFirst 22 = .ok (.iconst 0, 1) := by decide +kernel
theorem dX4_readFirst_23 : decode cX4_readFirst 23 = .ok (.getstatic 91, 3) := by decide +kernel
theorem dX4_readFirst_26 : decode cX4_readFirst 26 = .ok (.iload_n 1, 1) := by decide +kernel
theorem dX4_readFirst_27 : decode cX4_readFirst 27 = .ok (.iaload, 1) := by decide +kernel
theorem dX4_readFirst_28 : decode cX4_readFirst 28 = .ok (.invokevirtual 80, 3) := by decide +kernel
theorem dX4_readFirst_31 : decode cX4_readFirst 31 = .ok (.istore_n 2, 1) := by decide +kernel
theorem dX4_readFirst_32 : decode cX4_readFirst 32 = .ok (.aload_n 0, 1) := by decide +kernel
theorem dX4_readFirst_33 : decode cX4_readFirst 33 = .ok (.getfield 44, 3) := by decide +kernel
theorem dX4_readFirst_36 : decode cX4_readFirst 36 = .ok (.ifCond .ne 22, 3) := by decide +kernel
theorem dX4_readFirst_39 : decode cX4_readFirst 39 = .ok (.iload_n 1, 1) := by decide +kernel
theorem dX4_readFirst_40 : decode cX4_readFirst 40 = .ok (.bipush 8, 2) := by decide +kernel
theorem dX4_readFirst_42 : decode cX4_readFirst 42 = .ok (.if_icmp .ne 16, 3) := by decide +kernel
theorem dX4_readFirst_45 : decode cX4_readFirst 45 = .ok (.iload_n 2, 1) := by decide +kernel
theorem dX4_readFirst_46 : decode cX4_readFirst 46 = .ok (.aload_n 0, 1) := by decide +kernel
theorem dX4_readFirst_47 : decode cX4_readFirst 47 = .ok (.getfield 38, 3) := by decide +kernel
theorem dX4_readFirst_50 : decode cX4_readFirst 50 = .ok (.if_icmp .ne 8, 3) := by decide +kernel
theorem dX4_readFirst_53 : decode cX4_readFirst 53 = .ok (.aload_n 0, 1) := by decide +kernel
theorem dX4_readFirst_54 : decode cX4_readFirst 54 = .ok (.iconst 3, 1) := by decide +kernel
theorem dX4_readFirst_55 : decode cX4_readFirst 55 = .ok (.invokevirtual 66, 3) := by decide +kernel
theorem dX4_readFirst_58 : decode cX4_readFirst 58 = .ok (.iload_n 2, 1) := by decide +kernel
theorem dX4_readFirst_59 : decode cX4_readFirst 59 = .ok (.ireturn, 1) := by decide +kernel
theorem dX4_readNumber_0 : decode cX4_readNumber 0 = .ok (.aload_n 0, 1) := by decide +kernel
theorem dX4_readNumber_1 : decode cX4_readNumber 1 = .ok (.invokevirtual 53, 3) := by decide +kernel
theorem dX4_readNumber_4 : decode cX4_readNumber 4 = .ok (.iload_n 1, 1) := by decide +kernel
theorem dX4_readNumber_5 : decode cX4_readNumber 5 = .ok (.ifCond .eq 16, 3) := by decide +kernel
theorem dX4_readNumber_8 : decode cX4_readNumber 8 = .ok (.aload_n 0, 1) := by decide +kernel
theorem dX4_readNumber_9 : decode cX4_readNumber 9 = .ok (.bipush 45, 2) := by decide +kernel
theorem dX4_readNumber_11 : decode cX4_readNumber 11 = .ok (.invokevirtual 84, 3) := by decide +kernel
theorem dX4_readNumber_14 : decode cX4_readNumber 14 = .ok (.ifCond .eq 7, 3) := by decide +kernel
theorem dX4_readNumber_17 : decode cX4_readNumber 17 = .ok (.iconst 1, 1) := by decide +kernel
theorem dX4_readNumber_18 : decode cX4_readNumber 18 = .ok (.goto 4, 3) := by decide +kernel
theorem dX4_readNumber_21 : decode cX4_readNumber 21 = .ok (.iconst 0, 1) := by decide +kernel
theorem dX4_readNumber_22 : decode cX4_readNumber 22 = .ok (.istore_n 3, 1) := by decide +kernel
theorem dX4_readNumber_23 : decode cX4_readNumber 23 = .ok (.iload_n 3, 1) := by decide +kernel
theorem dX4_readNumber_24 : decode cX4_readNumber 24 = .ok (.ifCond .eq 7, 3) := by decide +kernel
theorem dX4_readNumber_27 : decode cX4_readNumber 27 = .ok (.aload_n 0, 1) := by decide +kernel
theorem dX4_readNumber_28 : decode cX4_readNumber 28 = .ok (.invokevirtual 53, 3) := by decide +kernel
theorem dX4_readNumber_31 : decode cX4_readNumber 31 = .ok (.aload_n 0, 1) := by decide +kernel
theorem dX4_readNumber_32 : decode cX4_readNumber 32 = .ok (.getfield 56, 3) := by decide +kernel
theorem dX4_readNumber_35 : decode cX4_readNumber 35 = .ok (.iconst 2, 1) := by decide +kernel
theorem dX4_readNumber_36 : decode cX4_readNumber 36 = .ok (.if_icmp .eq 10, 3) := by decide +kernel
theorem dX4_readNumber_39 : decode cX4_readNumber 39 = .ok (.aload_n 0, 1) := by decide +kernel
theorem dX4_readNumber_40 : decode cX4_readNumber 40 = .ok (.iconst 1, 1) := by decide +kernel
theorem dX4_readNumber_41 : decode cX4_readNumber 41 = .ok (.invokevirtual 66, 3) := by decide +kernel
theorem dX4_readNumber_44 : decode cX4_readNumber 44 = .ok (.iconst 0, 1) := by decide +kernel
theorem dX4_readNumber_45 : decode cX4_readNumber 45 = .ok (.ireturn, 1) := by decide +kernel
theorem dX4_readNumber_46 : decode cX4_readNumber 46 = .ok (.aload_n 0, 1) := by decide +kernel
theorem dX4_readNumber_47 : decode cX4_readNumber 47 = .ok (.invokevirtual 94, 3) := by decide +kernel
theorem dX4_readNumber_50 : decode cX4_readNumber 50 = .ok (.istore 4, 2) := by decide +kernel
theorem dX4_readNumber_52 : decode cX4_readNumber 52 = .ok (.iload 4, 2) := by decide +kernel
theorem dX4_readNumber_54 : decode cX4_readNumber 54 = .ok (.iload_n 2, 1) := by decide +kernel
theorem dX4_readNumber_55 : decode cX4_readNumber 55 = .ok (.if_icmp .le 10, 3) := by decide +kernel
theorem dX4_readNumber_58 : decode cX4_readNumber 58 = .ok (.aload_n 0, 1) := by decide +kernel
theorem dX4_readNumber_59 : decode cX4_readNumber 59 = .ok (.iconst 2, 1) := by decide +kernel
theorem dX4_readNumber_60 : decode cX4_readNumber 60 = .ok (.invokevirtual 66, 3) := by decide +kernel
theorem dX4_readNumber_63 : decode cX4_readNumber 63 = .ok (.iconst 0, 1) := by decide +kernel
theorem dX4_readNumber_64 : decode cX4_readNumber 64 = .ok (.ireturn, 1) := by decide +kernel
theorem dX4_readNumber_65 : decode cX4_readNumber 65 = .ok (.iload_n 3, 1) := by decide +kernel
theorem dX4_readNumber_66 : decode cX4_readNumber 66 = .ok (.ifCond .eq 9, 3) := by decide +kernel
theorem dX4_readNumber_69 : decode cX4_readNumber 69 = .ok (.iload 4, 2) := by decide +kernel
theorem dX4_readNumber_71 : decode cX4_readNumber 71 = .ok (.ineg, 1) := by decide +kernel
theorem dX4_readNumber_72 : decode cX4_readNumber 72 = .ok (.goto 5, 3) := by decide +kernel
theorem dX4_readNumber_75 : decode cX4_readNumber 75 = .ok (.iload 4, 2) := by decide +kernel
theorem dX4_readNumber_77 : decode cX4_readNumber 77 = .ok (.ireturn, 1) := by decide +kernel
theorem dX4_numberOfToken_0 : decode cX4_numberOfToken 0 = .ok (.aload_n 0, 1) := by decide +kernel
theorem dX4_numberOfToken_1 : decode cX4_numberOfToken 1 = .ok (.getfield 50, 3) := by decide +kernel
theorem dX4_numberOfToken_4 : decode cX4_numberOfToken 4 = .ok (.aload_n 0, 1) := by decide +kernel
theorem dX4_numberOfToken_5 : decode cX4_numberOfToken 5 = .ok (.getfield 70, 3) := by decide +kernel
theorem dX4_numberOfToken_8 : decode cX4_numberOfToken 8 = .ok (.isub, 1) := by decide +kernel
theorem dX4_numberOfToken_9 : decode cX4_numberOfToken 9 = .ok (.iconst 3, 1) := by decide +kernel
theorem dX4_numberOfToken_10 : decode cX4_numberOfToken 10 = .ok (.if_icmp .le 6, 3) := by decide +kernel
theorem dX4_numberOfToken_13 : decode cX4_numberOfToken 13 = .ok (.ldc 97, 2) := by decide +kernel
theorem dX4_numberOfToken_15 : decode cX4_numberOfToken 15 = .ok (.ireturn, 1) := by decide +kernel
theorem dX4_numberOfToken_16 : decode cX4_numberOfToken 16 = .ok (.iconst 0, 1) := by decide +kernel
theorem dX4_numberOfToken_17 : decode cX4_numberOfToken 17 = .ok (.istore_n 1, 1) := by decide +kernel
theorem dX4_numberOfToken_18 : decode cX4_numberOfToken 18 = .ok (.aload_n 0, 1) := by decide +kernel
theorem dX4_numberOfToken_19 : decode cX4_numberOfToken 19 = .ok (.getfield 70, 3) := by decide +kernel
theorem dX4_numberOfToken_22 : decode cX4_numberOfToken 22 = .ok (.istore_n 2, 1) := by decide +kernel
theorem dX4_numberOfToken_23 : decode cX4_numberOfToken 23 = .ok (.iload_n 2, 1) := by decide +kernel
theorem dX4_numberOfToken_24 : decode cX4_numberOfToken 24 = .ok (.aload_n 0, 1) := by decide +kernel
theorem dX4_numberOfToken_25 : decode cX4_numberOfToken 25 = .ok (.getfield 50, 3) := by decide +kernel
theorem dX4_numberOfToken_28 : decode cX4_numberOfToken 28 = .ok (.if_icmp .ge 23, 3) := by decide +kernel
theorem dX4_numberOfToken_31 : decode cX4_numberOfToken 31 = .ok (.bipush 10, 2) := by decide +kernel
theorem dX4_numberOfToken_33 : decode cX4_numberOfToken 33 = .ok (.iload_n 1, 1) := by decide +kernel
theorem dX4_numberOfToken_34 : decode cX4_numberOfToken 34 = .ok (.imul, 1) := by decide +kernel
theorem dX4_numberOfToken_35 : decode cX4_numberOfToken 35 = .ok (.aload_n 0, 1) := by decide +kernel
theorem dX4_numberOfToken_36 : decode cX4_numberOfToken 36 = .ok (.iload_n 2, 1) := by decide +kernel
theorem dX4_numberOfToken_37 : decode cX4_numberOfToken 37 = .ok (.invokevirtual 98, 3) := by decide +kernel
theorem dX4_numberOfToken_40 : decode cX4_numberOfToken 40 = .ok (.iadd, 1) := by decide +kernel
theorem dX4_numberOfToken_41 : decode cX4_numberOfToken 41 = .ok (.bipush 48, 2) := by decide +kernel
theorem dX4_numberOfToken_43 : decode cX4_numberOfToken 43 = .ok (.isub, 1) := by decide +kernel
theorem dX4_numberOfToken_44 : decode cX4_numberOfToken 44 = .ok (.istore_n 1, 1) := by decide +kernel
theorem dX4_numberOfToken_45 : decode cX4_numberOfToken 45 = .ok (.iinc 2 1, 3) := by decide +kernel
theorem dX4_numberOfToken_48 : decode cX4_numberOfToken 48 = .ok (.goto (-25), 3) := by decide +kernel
theorem dX4_numberOfToken_51 : decode cX4_numberOfToken 51 = .ok (.iload_n 1, 1) := by decide +kernel
theorem dX4_numberOfToken_52 : decode cX4_numberOfToken 52 = .ok (.ireturn, 1) := by decide +kernel
theorem dX4_fail_0 : decode cX4_fail 0 = .ok (.aload_n 0, 1) := by decide +kernel
theorem dX4_fail_1 : decode cX4_fail 1 = .ok (.iload_n 1, 1) := by decide +kernel
theorem dX4_fail_2 : decode cX4_fail 2 = .ok (.putfield 44, 3) := by decide +kernel
theorem dX4_fail_5 : decode cX4_fail 5 = .ok (.aload_n 0, 1) := by decide +kernel
theorem dX4_fail_6 : decode cX4_fail 6 = .ok (.aload_n 0, 1) := by decide +kernel
theorem dX4_fail_7 : decode cX4_fail 7 = .ok (.getfield 70, 3) := by decide +kernel
theorem dX4_fail_10 : decode cX4_fail 10 = .ok (.putfield 47, 3) := by decide +kernel
theorem dX4_fail_13 : decode cX4_fail 13 = .ok (.return_, 1) := by decide +kernel
theorem dX4_kindOfToken_0 : decode cX4_kindOfToken 0 = .ok (.iconst 0, 1) := by decide +kernel
theorem dX4_kindOfToken_1 : decode cX4_kindOfToken 1 = .ok (.istore_n 1, 1) := by decide +kernel
theorem dX4_kindOfToken_2 : decode cX4_kindOfToken 2 = .ok (.iload_n 1, 1) := by decide +kernel
theorem dX4_kindOfToken_3 : decode cX4_kindOfToken 3 = .ok (.bipush 9, 2) := by decide +kernel
theorem dX4_kindOfToken_5 : decode cX4_kindOfToken 5 = .ok (.if_icmp .ge 22, 3) := by decide +kernel
theorem dX4_kindOfToken_8 : decode cX4_kindOfToken 8 = .ok (.aload_n 0, 1) := by decide +kernel
theorem dX4_kindOfToken_9 : decode cX4_kindOfToken 9 = .ok (.iload_n 1, 1) := by decide +kernel
theorem dX4_kindOfToken_10 : decode cX4_kindOfToken 10 = .ok (.invokestatic 101, 3) := by decide +kernel
theorem dX4_kindOfToken_13 : decode cX4_kindOfToken 13 = .ok (.invokevirtual 105, 3) := by decide +kernel
theorem dX4_kindOfToken_16 : decode cX4_kindOfToken 16 = .ok (.ifCond .eq 5, 3) := by decide +kernel
theorem dX4_kindOfToken_19 : decode cX4_kindOfToken 19 = .ok (.iload_n 1, 1) := by decide +kernel
theorem dX4_kindOfToken_20 : decode cX4_kindOfToken 20 = .ok (.ireturn, 1) := by decide +kernel
theorem dX4_kindOfToken_21 : decode cX4_kindOfToken 21 = .ok (.iinc 1 1, 3) := by decide +kernel
theorem dX4_kindOfToken_24 : decode cX4_kindOfToken 24 = .ok (.goto (-22), 3) := by decide +kernel
theorem dX4_kindOfToken_27 : decode cX4_kindOfToken 27 = .ok (.iconst (-1), 1) := by decide +kernel
theorem dX4_kindOfToken_28 : decode cX4_kindOfToken 28 = .ok (.ireturn, 1) := by decide +kernel
theorem dX4_isTokenWord_0 : decode cX4_isTokenWord 0 = .ok (.aload_n 1, 1) := by decide +kernel
theorem dX4_isTokenWord_1 : decode cX4_isTokenWord 1 = .ok (.invokevirtual 109, 3) := by decide +kernel
theorem dX4_isTokenWord_4 : decode cX4_isTokenWord 4 = .ok (.aload_n 0, 1) := by decide +kernel
theorem dX4_isTokenWord_5 : decode cX4_isTokenWord 5 = .ok (.getfield 50, 3) := by decide +kernel
theorem dX4_isTokenWord_8 : decode cX4_isTokenWord 8 = .ok (.aload_n 0, 1) := by decide +kernel
theorem dX4_isTokenWord_9 : decode cX4_isTokenWord 9 = .ok (.getfield 70, 3) := by decide +kernel
theorem dX4_isTokenWord_12 : decode cX4_isTokenWord 12 = .ok (.isub, 1) := by decide +kernel
theorem dX4_isTokenWord_13 : decode cX4_isTokenWord 13 = .ok (.if_icmp .eq 5, 3) := by decide +kernel
theorem dX4_isTokenWord_16 : decode cX4_isTokenWord 16 = .ok (.iconst 0, 1) := by decide +kernel
theorem dX4_isTokenWord_17 : decode cX4_isTokenWord 17 = .ok (.ireturn, 1) := by decide +kernel
theorem dX4_isTokenWord_18 : decode cX4_isTokenWord 18 = .ok (.iconst 0, 1) := by decide +kernel
theorem dX4_isTokenWord_19 : decode cX4_isTokenWord 19 = .ok (.istore_n 2, 1) := by decide +kernel
theorem dX4_isTokenWord_20 : decode cX4_isTokenWord 20 = .ok (.iload_n 2, 1) := by decide +kernel
theorem dX4_isTokenWord_21 : decode cX4_isTokenWord 21 = .ok (.aload_n 1, 1) := by decide +kernel
theorem dX4_isTokenWord_22 : decode cX4_isTokenWord 22 = .ok (.invokevirtual 109, 3) := by decide +kernel
theorem dX4_isTokenWord_25 : decode cX4_isTokenWord 25 = .ok (.if_icmp .ge 29, 3) := by decide +kernel
theorem dX4_isTokenWord_28 : decode cX4_isTokenWord 28 = .ok (.aload_n 1, 1) := by decide +kernel
theorem dX4_isTokenWord_29 : decode cX4_isTokenWord 29 = .ok (.iload_n 2, 1) := by decide +kernel
theorem dX4_isTokenWord_30 : decode cX4_isTokenWord 30 = .ok (.invokevirtual 113, 3) := by decide +kernel
theorem dX4_isTokenWord_33 : decode cX4_isTokenWord 33 = .ok (.aload_n 0, 1) := by decide +kernel
theorem dX4_isTokenWord_34 : decode cX4_isTokenWord 34 = .ok (.aload_n 0, 1) := by decide +kernel
theorem dX4_isTokenWord_35 : decode cX4_isTokenWord 35 = .ok (.getfield 70, 3) := by decide +kernel
theorem dX4_isTokenWord_38 : decode cX4_isTokenWord 38 = .ok (.iload_n 2, 1) := by decide +kernel
theorem dX4_isTokenWord_39 : decode cX4_isTokenWord 39 = .ok (.iadd, 1) := by decide +kernel
theorem dX4_isTokenWord_40 : decode cX4_isTokenWord 40 = .ok (.invokevirtual 98, 3) := by decide +kernel
theorem dX4_isTokenWord_43 : decode cX4_isTokenWord 43 = .ok (.if_icmp .eq 5, 3) := by decide +kernel
theorem dX4_isTokenWord_46 : decode cX4_isTokenWord 46 = .ok (.iconst 0, 1) := by decide +kernel
theorem dX4_isTokenWord_47 : decode cX4_isTokenWord 47 = .ok (.ireturn, 1) := by decide +kernel
theorem dX4_isTokenWord_48 : decode cX4_isTokenWord 48 = .ok (.iinc 2 1, 3) := by decide +kernel
theorem dX4_isTokenWord_51 : decode cX4_isTokenWord 51 = .ok (.goto (-31), 3) := by decide +kernel
theorem dX4_isTokenWord_54 : decode cX4_isTokenWord 54 = .ok (.iconst 1, 1) := by decide +kernel
theorem dX4_isTokenWord_55 : decode cX4_isTokenWord 55 = .ok (.ireturn, 1) := by decide +kernel
theorem dX4_isSign_0 : decode cX4_isSign 0 = .ok (.aload_n 0, 1) := by decide +kernel
theorem dX4_isSign_1 : decode cX4_isSign 1 = .ok (.getfield 56, 3) := by decide +kernel
theorem dX4_isSign_4 : decode cX4_isSign 4 = .ok (.iconst 3, 1) := by decide +kernel
theorem dX4_isSign_5 : decode cX4_isSign 5 = .ok (.if_icmp .ne 19, 3) := by decide +kernel
theorem dX4_isSign_8 : decode cX4_isSign 8 = .ok (.aload_n 0, 1) := by decide +kernel
theorem dX4_isSign_9 : decode cX4_isSign 9 = .ok (.aload_n 0, 1) := by decide +kernel
theorem dX4_isSign_10 : decode cX4_isSign 10 = .ok (.getfield 70, 3) := by decide +kernel
theorem dX4_isSign_13 : decode cX4_isSign 13 = .ok (.invokevirtual 98, 3) := by decide +kernel
theorem dX4_isSign_16 : decode cX4_isSign 16 = .ok (.iload_n 1, 1) := by decide +kernel
theorem dX4_isSign_17 : decode cX4_isSign 17 = .ok (.if_icmp .ne 7, 3) := by decide +kernel
theorem dX4_isSign_20 : decode cX4_isSign 20 = .ok (.iconst 1, 1) := by decide +kernel
theorem dX4_isSign_21 : decode cX4_isSign 21 = .ok (.goto 4, 3) := by decide +kernel
theorem dX4_isSign_24 : decode cX4_isSign 24 = .ok (.iconst 0, 1) := by decide +kernel
theorem dX4_isSign_25 : decode cX4_isSign 25 = .ok (.ireturn, 1) := by decide +kernel
theorem dX4_byteAt_0 : decode cX4_byteAt 0 = .ok (.iload_n 1, 1) := by decide +kernel
theorem dX4_byteAt_1 : decode cX4_byteAt 1 = .ok (.ifCond .lt 29, 3) := by decide +kernel
theorem dX4_byteAt_4 : decode cX4_byteAt 4 = .ok (.iload_n 1, 1) := by decide +kernel
theorem dX4_byteAt_5 : decode cX4_byteAt 5 = .ok (.aload_n 0, 1) := by decide +kernel
theorem dX4_byteAt_6 : decode cX4_byteAt 6 = .ok (.getfield 34, 3) := by decide +kernel
theorem dX4_byteAt_9 : decode cX4_byteAt 9 = .ok (.if_icmp .ge 21, 3) := by decide +kernel
theorem dX4_byteAt_12 : decode cX4_byteAt 12 = .ok (.iload_n 1, 1) := by decide +kernel
theorem dX4_byteAt_13 : decode cX4_byteAt 13 = .ok (.aload_n 0, 1) := by decide +kernel
theorem dX4_byteAt_14 : decode cX4_byteAt 14 = .ok (.getfield 24, 3) := by decide +kernel
theorem dX4_byteAt_17 : decode cX4_byteAt 17 = .ok (.arraylength, 1) := by decide +kernel
theorem dX4_byteAt_18 : decode cX4_byteAt 18 = .ok (.if_icmp .ge 12, 3) := by decide +kernel
theorem dX4_byteAt_21 : decode cX4_byteAt 21 = .ok (.aload_n 0, 1) := by decide +kernel
theorem dX4_byteAt_22 : decode cX4_byteAt 22 = .ok (.getfield 24, 3) := by decide +kernel
theorem dX4_byteAt_25 : decode cX4_byteAt 25 = .ok (.iload_n 1, 1) := by decide +kernel
theorem dX4_byteAt_26 : decode cX4_byteAt 26 = .ok (.baload, 1) := by decide +kernel
theorem dX4_byteAt_27 : decode cX4_byteAt 27 = .ok (.goto 4, 3) := by decide +kernel
theorem dX4_byteAt_30 : decode cX4_byteAt 30 = .ok (.iconst (-1), 1) := by decide +kernel
theorem dX4_byteAt_31 : decode cX4_byteAt 31 = .ok (.ireturn, 1) := by decide +kernel
theorem dX4_nextToken_0 : decode cX4_nextToken 0 = .ok (.aload_n 0, 1) := by decide +kernel
theorem dX4_nextToken_1 : decode cX4_nextToken 1 = .ok (.aload_n 0, 1) := by decide +kernel
theorem dX4_nextToken_2 : decode cX4_nextToken 2 = .ok (.getfield 50, 3) := by decide +kernel
theorem dX4_nextToken_5 : decode cX4_nextToken 5 = .ok (.putfield 70, 3) := by decide +kernel
theorem dX4_nextToken_8 : decode cX4_nextToken 8 = .ok (.aload_n 0, 1) := by decide +kernel
theorem dX4_nextToken_9 : decode cX4_nextToken 9 = .ok (.getfield 70, 3) := by decide +kernel
theorem dX4_nextToken_12 : decode cX4_nextToken 12 = .ok (.aload_n 0, 1) := by decide +kernel
theorem dX4_nextToken_13 : decode cX4_nextToken 13 = .ok (.getfield 34, 3) := by decide +kernel
theorem dX4_nextToken_16 : decode cX4_nextToken 16 = .ok (.if_icmp .ge 30, 3) := by decide +kernel
theorem dX4_nextToken_19 : decode cX4_nextToken 19 = .ok (.aload_n 0, 1) := by decide +kernel
theorem dX4_nextToken_20 : decode cX4_nextToken 20 = .ok (.aload_n 0, 1) := by decide +kernel
theorem dX4_nextToken_21 : decode cX4_nextToken 21 = .ok (.getfield 70, 3) := by decide +kernel
theorem dX4_nextToken_24 : decode cX4_nextToken 24 = .ok (.invokevirtual 98, 3) := by decide +kernel
theorem dX4_nextToken_27 : decode cX4_nextToken 27 = .ok (.invokestatic 117, 3) := by decide +kernel
theorem dX4_nextToken_30 : decode cX4_nextToken 30 = .ok (.ifCond .eq 16, 3) := by decide +kernel
theorem dX4_nextToken_33 : decode cX4_nextToken 33 = .ok (.aload_n 0, 1) := by decide +kernel
theorem dX4_nextToken_34 : decode cX4_nextToken 34 = .ok (.dup, 1) := by decide +kernel
theorem dX4_nextToken_35 : decode cX4_nextToken 35 = .ok (.getfield 70, 3) := by decide +kernel
theorem dX4_nextToken_38 : decode cX4_nextToken 38 = .ok (.iconst 1, 1) := by decide +kernel
theorem dX4_nextToken_39 : decode cX4_nextToken 39 = .ok (.iadd, 1) := by decide +kernel
theorem dX4_nextToken_40 : decode cX4_nextToken 40 = .ok (.putfield 70, 3) := by decide +kernel
theorem dX4_nextToken_43 : decode cX4_nextToken 43 = .ok (.goto (-35), 3) := by decide +kernel
theorem dX4_nextToken_46 : decode cX4_nextToken 46 = .ok (.aload_n 0, 1) := by decide +kernel
theorem dX4_nextToken_47 : decode cX4_nextToken 47 = .ok (.aload_n 0, 1) := by decide +kernel
theorem dX4_nextToken_48 : decode cX4_nextToken 48 = .ok (.getfield 70, 3) := by decide +kernel
theorem dX4_nextToken_51 : decode cX4_nextToken 51 = .ok (.putfield 50, 3) := by decide +kernel
theorem dX4_nextToken_54 : decode cX4_nextToken 54 = .ok (.aload_n 0, 1) := by decide +kernel
theorem dX4_nextToken_55 : decode cX4_nextToken 55 = .ok (.getfield 70, 3) := by decide +kernel
theorem dX4_nextToken_58 : decode cX4_nextToken 58 = .ok (.aload_n 0, 1) := by decide +kernel
theorem dX4_nextToken_59 : decode cX4_nextToken 59 = .ok (.getfield 34, 3) := by decide +kernel
theorem dX4_nextToken_62 : decode cX4_nextToken 62 = .ok (.if_icmp .lt 9, 3) := by decide +kernel
theorem dX4_nextToken_65 : decode cX4_nextToken 65 = .ok (.aload_n 0, 1) := by decide +kernel
theorem dX4_nextToken_66 : decode cX4_nextToken 66 = .ok (.iconst 0, 1) := by decide +kernel
theorem dX4_nextToken_67 : decode cX4_nextToken 67 = .ok (.putfield 56, 3) := by decide +kernel
theorem dX4_nextToken_70 : decode cX4_nextToken 70 = .ok (.return_, 1) := by decide +kernel
theorem dX4_nextToken_71 : decode cX4_nextToken 71 = .ok (.aload_n 0, 1) := by decide +kernel
theorem dX4_nextToken_72 : decode cX4_nextToken 72 = .ok (.aload_n 0, 1) := by decide +kernel
theorem dX4_nextToken_73 : decode cX4_nextToken 73 = .ok (.aload_n 0, 1) := by decide +kernel
theorem dX4_nextToken_74 : decode cX4_nextToken 74 = .ok (.getfield 70, 3) := by decide +kernel
theorem dX4_nextToken_77 : decode cX4_nextToken 77 = .ok (.invokevirtual 98, 3) := by decide +kernel
theorem dX4_nextToken_80 : decode cX4_nextToken 80 = .ok (.invokestatic 120, 3) := by decide +kernel
theorem dX4_nextToken_83 : decode cX4_nextToken 83 = .ok (.putfield 56, 3) := by decide +kernel
theorem dX4_nextToken_86 : decode cX4_nextToken 86 = .ok (.aload_n 0, 1) := by decide +kernel
theorem dX4_nextToken_87 : decode cX4_nextToken 87 = .ok (.dup, 1) := by decide +kernel
theorem dX4_nextToken_88 : decode cX4_nextToken 88 = .ok (.getfield 50, 3) := by decide +kernel
theorem dX4_nextToken_91 : decode cX4_nextToken 91 = .ok (.iconst 1, 1) := by decide +kernel
theorem dX4_nextToken_92 : decode cX4_nextToken 92 = .ok (.iadd, 1) := by decide +kernel
theorem dX4_nextToken_93 : decode cX4_nextToken 93 = .ok (.putfield 50, 3) := by decide +kernel
theorem dX4_nextToken_96 : decode cX4_nextToken 96 = .ok (.aload_n 0, 1) := by decide +kernel
theorem dX4_nextToken_97 : decode cX4_nextToken 97 = .ok (.getfield 56, 3) := by decide +kernel
theorem dX4_nextToken_100 : decode cX4_nextToken 100 = .ok (.iconst 1, 1) := by decide +kernel
theorem dX4_nextToken_101 : decode cX4_nextToken 101 = .ok (.if_icmp .eq 11, 3) := by decide +kernel
theorem dX4_nextToken_104 : decode cX4_nextToken 104 = .ok (.aload_n 0, 1) := by decide +kernel
theorem dX4_nextToken_105 : decode cX4_nextToken 105 = .ok (.getfield 56, 3) := by decide +kernel
theorem dX4_nextToken_108 : decode cX4_nextToken 108 = .ok (.iconst 2, 1) := by decide +kernel
theorem dX4_nextToken_109 : decode cX4_nextToken 109 = .ok (.if_icmp .ne 45, 3) := by decide +kernel
theorem dX4_nextToken_112 : decode cX4_nextToken 112 = .ok (.aload_n 0, 1) := by decide +kernel
theorem dX4_nextToken_113 : decode cX4_nextToken 113 = .ok (.getfield 50, 3) := by decide +kernel
theorem dX4_nextToken_116 : decode cX4_nextToken 116 = .ok (.aload_n 0, 1) := by decide +kernel
theorem dX4_nextToken_117 : decode cX4_nextToken 117 = .ok (.getfield 34, 3) := by decide +kernel
theorem dX4_nextToken_120 : decode cX4_nextToken 120 = .ok (.if_icmp .ge 34, 3) := by decide +kernel
theorem dX4_nextToken_123 : decode cX4_nextToken 123 = .ok (.aload_n 0, 1) := by decide +kernel
theorem dX4_nextToken_124 : decode cX4_nextToken 124 = .ok (.aload_n 0, 1) := by decide +kernel
theorem dX4_nextToken_125 : decode cX4_nextToken 125 = .ok (.getfield 50, 3) := by decide +kernel
theorem dX4_nextToken_128 : decode cX4_nextToken 128 = .ok (.invokevirtual 98, 3) := by decide +kernel
theorem dX4_nextToken_131 : decode cX4_nextToken 131 = .ok (.invokestatic 120, 3) := by decide +kernel
theorem dX4_nextToken_134 : decode cX4_nextToken 134 = .ok (.aload_n 0, 1) := by decide +kernel
theorem dX4_nextToken_135 : decode cX4_nextToken 135 = .ok (.getfield 56, 3) := by decide +kernel
theorem dX4_nextToken_138 : decode cX4_nextToken 138 = .ok (.if_icmp .ne 16, 3) := by decide +kernel
theorem dX4_nextToken_141 : decode cX4_nextToken 141 = .ok (.aload_n 0, 1) := by decide +kernel
theorem dX4_nextToken_142 : decode cX4_nextToken 142 = .ok (.dup, 1) := by decide +kernel
theorem dX4_nextToken_143 : decode cX4_nextToken 143 = .ok (.getfield 50, 3) := by decide +kernel
theorem dX4_nextToken_146 : decode cX4_nextToken 146 = .ok (.iconst 1, 1) := by decide +kernel
theorem dX4_nextToken_147 : decode cX4_nextToken 147 = .ok (.iadd, 1) := by decide +kernel
theorem dX4_nextToken_148 : decode cX4_nextToken 148 = .ok (.putfield 50, 3) := by decide +kernel
theorem dX4_nextToken_151 : decode cX4_nextToken 151 = .ok (.goto (-39), 3) := by decide +kernel
theorem dX4_nextToken_154 : decode cX4_nextToken 154 = .ok (.return_, 1) := by decide +kernel
theorem dX4_isBlank_0 : decode cX4_isBlank 0 = .ok (.iload_n 0, 1) := by decide +kernel
theorem dX4_isBlank_1 : decode cX4_isBlank 1 = .ok (.bipush 32, 2) := by decide +kernel
theorem dX4_isBlank_3 : decode cX4_isBlank 3 = .ok (.if_icmp .eq 9, 3) := by decide +kernel
theorem dX4_isBlank_6 : decode cX4_isBlank 6 = .ok (.iload_n 0, 1) := by decide +kernel
theorem dX4_isBlank_7 : decode cX4_isBlank 7 = .ok (.bipush 10, 2) := by decide +kernel
theorem dX4_isBlank_9 : decode cX4_isBlank 9 = .ok (.if_icmp .ne 7, 3) := by decide +kernel
theorem dX4_isBlank_12 : decode cX4_isBlank 12 = .ok (.iconst 1, 1) := by decide +kernel
theorem dX4_isBlank_13 : decode cX4_isBlank 13 = .ok (.goto 4, 3) := by decide +kernel
theorem dX4_isBlank_16 : decode cX4_isBlank 16 = .ok (.iconst 0, 1) := by decide +kernel
theorem dX4_isBlank_17 : decode cX4_isBlank 17 = .ok (.ireturn, 1) := by decide +kernel
theorem dX4_tokenKind_0 : decode cX4_tokenKind 0 = .ok (.iload_n 0, 1) := by decide +kernel
theorem dX4_tokenKind_1 : decode cX4_tokenKind 1 = .ok (.bipush 97, 2) := by decide +kernel
theorem dX4_tokenKind_3 : decode cX4_tokenKind 3 = .ok (.if_icmp .lt 11, 3) := by decide +kernel
theorem dX4_tokenKind_6 : decode cX4_tokenKind 6 = .ok (.iload_n 0, 1) := by decide +kernel
theorem dX4_tokenKind_7 : decode cX4_tokenKind 7 = .ok (.bipush 122, 2) := by decide +kernel
theorem dX4_tokenKind_9 : decode cX4_tokenKind 9 = .ok (.if_icmp .gt 5, 3) := by decide +kernel
theorem dX4_tokenKind_12 : decode cX4_tokenKind 12 = .ok (.iconst 1, 1) := by decide +kernel
theorem dX4_tokenKind_13 : decode cX4_tokenKind 13 = .ok (.ireturn, 1) := by decide +kernel
theorem dX4_tokenKind_14 : decode cX4_tokenKind 14 = .ok (.iload_n 0, 1) := by decide +kernel
theorem dX4_tokenKind_15 : decode cX4_tokenKind 15 = .ok (.bipush 48, 2) := by decide +kernel
theorem dX4_tokenKind_17 : decode cX4_tokenKind 17 = .ok (.if_icmp .lt 11, 3) := by decide +kernel
theorem dX4_tokenKind_20 : decode cX4_tokenKind 20 = .ok (.iload_n 0, 1) := by decide +kernel
theorem dX4_tokenKind_21 : decode cX4_tokenKind 21 = .ok (.bipush 57, 2) := by decide +kernel
theorem dX4_tokenKind_23 : decode cX4_tokenKind 23 = .ok (.if_icmp .gt 5, 3) := by decide +kernel
theorem dX4_tokenKind_26 : decode cX4_tokenKind 26 = .ok (.iconst 2, 1) := by decide +kernel
theorem dX4_tokenKind_27 : decode cX4_tokenKind 27 = .ok (.ireturn, 1) := by decide +kernel
theorem dX4_tokenKind_28 : decode cX4_tokenKind 28 = .ok (.iload_n 0, 1) := by decide +kernel
theorem dX4_tokenKind_29 : decode cX4_tokenKind 29 = .ok (.bipush 59, 2) := by decide +kernel
theorem dX4_tokenKind_31 : decode cX4_tokenKind 31 = .ok (.if_icmp .eq 9, 3) := by decide +kernel
theorem dX4_tokenKind_34 : decode cX4_tokenKind 34 = .ok (.iload_n 0, 1) := by decide +kernel
theorem dX4_tokenKind_35 : decode cX4_tokenKind 35 = .ok (.bipush 45, 2) := by decide +kernel
theorem dX4_tokenKind_37 : decode cX4_tokenKind 37 = .ok (.if_icmp .ne 7, 3) := by decide +kernel
theorem dX4_tokenKind_40 : decode cX4_tokenKind 40 = .ok (.iconst 3, 1) := by decide +kernel
theorem dX4_tokenKind_41 : decode cX4_tokenKind 41 = .ok (.goto 4, 3) := by decide +kernel
theorem dX4_tokenKind_44 : decode cX4_tokenKind 44 = .ok (.iconst 4, 1) := by decide +kernel
theorem dX4_tokenKind_45 : decode cX4_tokenKind 45 = .ok (.ireturn, 1) := by decide +kernel
theorem dX5_init_0 : decode cX5_init 0 = .ok (.aload_n 0, 1) := by decide +kernel
theorem dX5_init_1 : decode cX5_init 1 = .ok (.invokespecial 5, 3) := by decide +kernel
theorem dX5_init_4 : decode cX5_init 4 = .ok (.aload_n 0, 1) := by decide +kernel
theorem dX5_init_5 : decode cX5_init 5 = .ok (.iconst 0, 1) := by decide +kernel
theorem dX5_init_6 : decode cX5_init 6 = .ok (.newarray .long, 2) := by decide +kernel
theorem dX5_init_8 : decode cX5_init 8 = .ok (.putfield 11, 3) := by decide +kernel
theorem dX5_init_11 : decode cX5_init 11 = .ok (.aload_n 0, 1) := by decide +kernel
theorem dX5_init_12 : decode cX5_init 12 = .ok (.iconst 0, 1) := by decide +kernel
theorem dX5_init_13 : decode cX5_init 13 = .ok (.putfield 15, 3) := by decide +kernel
theorem dX5_init_16 : decode cX5_init 16 = .ok (.aload_n 0, 1) := by decide +kernel
theorem dX5_init_17 : decode cX5_init 17 = .ok (.aconst_null, 1) := by decide +kernel
theorem dX5_init_18 : decode cX5_init 18 = .ok (.putfield 19, 3) := by decide +kernel
theorem dX5_init_21 : decode cX5_init 21 = .ok (.return_, 1) := by decide +kernel
theorem dX5_keep_0 : decode cX5_keep 0 = .ok (.aload_n 0, 1) := by decide +kernel
theorem dX5_keep_1 : decode cX5_keep 1 = .ok (.aload_n 1, 1) := by decide +kernel
theorem dX5_keep_2 : decode cX5_keep 2 = .ok (.invokevirtual 23, 3) := by decide +kernel
theorem dX5_keep_5 : decode cX5_keep 5 = .ok (.aconst_null, 1) := by decide +kernel
theorem dX5_keep_6 : decode cX5_keep 6 = .ok (.astore_n 2, 1) := by decide +kernel
