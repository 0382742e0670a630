theorem dX6_take_123 : decode cX6_take 123 = .ok (.getfield 36, 3) := by decide +kernel
theorem dX6_take_126 : decode cX6_take 126 = .ok (.putfield 36, 3) := by decide +kernel
theorem dX6_take_129 : decode cX6_take 129 = .ok (.iconst 0, 1) := by decide +kernel
theorem dX6_take_130 : decode cX6_take 130 = .ok (.istore_n 2, 1) := by decide +kernel
theorem dX6_take_131 : decode cX6_take 131 = .ok (.iload_n 2, 1) := by decide +kernel
theorem dX6_take_132 : decode cX6_take 132 = .ok (.aload_n 0, 1) := by decide +kernel
theorem dX6_take_133 : decode cX6_take 133 = .ok (.getfield 39, 3) := by decide +kernel
theorem dX6_take_136 : decode cX6_take 136 = .ok (.arraylength, 1) := by decide +kernel
theorem dX6_take_137 : decode cX6_take 137 = .ok (.if_icmp .ge 21, 3) := by decide +kernel
theorem dX6_take_140 : decode cX6_take 140 = .ok (.aload_n 0, 1) := by decide +kernel
theorem dX6_take_141 : decode cX6_take 141 = .ok (.getfield 39, 3) := by decide +kernel
theorem dX6_take_144 : decode cX6_take 144 = .ok (.iload_n 2, 1) := by decide +kernel
theorem dX6_take_145 : decode cX6_take 145 = .ok (.aload_n 1, 1) := by decide +kernel
theorem dX6_take_146 : decode cX6_take 146 = .ok (.getfield 39, 3) := by decide +kernel
theorem dX6_take_149 : decode cX6_take 149 = .ok (.iload_n 2, 1) := by decide +kernel
theorem dX6_take_150 : decode cX6_take 150 = .ok (.iaload, 1) := by decide +kernel
theorem dX6_take_151 : decode cX6_take 151 = .ok (.iastore, 1) := by decide +kernel
theorem dX6_take_152 : decode cX6_take 152 = .ok (.iinc 2 1, 3) := by decide +kernel
theorem dX6_take_155 : decode cX6_take 155 = .ok (.goto (-24), 3) := by decide +kernel
theorem dX6_take_158 : decode cX6_take 158 = .ok (.return_, 1) := by decide +kernel
theorem dX7_init_0 : decode cX7_init 0 = .ok (.aload_n 0, 1) := by decide +kernel
theorem dX7_init_1 : decode cX7_init 1 = .ok (.invokespecial 1, 3) := by decide +kernel
theorem dX7_init_4 : decode cX7_init 4 = .ok (.aload_n 0, 1) := by decide +kernel
theorem dX7_init_5 : decode cX7_init 5 = .ok (.iload_n 1, 1) := by decide +kernel
theorem dX7_init_6 : decode cX7_init 6 = .ok (.putfield 7, 3) := by decide +kernel
theorem dX7_init_9 : decode cX7_init 9 = .ok (.aload_n 0, 1) := by decide +kernel
theorem dX7_init_10 : decode cX7_init 10 = .ok (.iload_n 2, 1) := by decide +kernel
theorem dX7_init_11 : decode cX7_init 11 = .ok (.putfield 13, 3) := by decide +kernel
theorem dX7_init_14 : decode cX7_init 14 = .ok (.aload_n 0, 1) := by decide +kernel
theorem dX7_init_15 : decode cX7_init 15 = .ok (.iload_n 3, 1) := by decide +kernel
theorem dX7_init_16 : decode cX7_init 16 = .ok (.putfield 16, 3) := by decide +kernel
theorem dX7_init_19 : decode cX7_init 19 = .ok (.aload_n 0, 1) := by decide +kernel
theorem dX7_init_20 : decode cX7_init 20 = .ok (.aload 4, 2) := by decide +kernel
theorem dX7_init_22 : decode cX7_init 22 = .ok (.putfield 19, 3) := by decide +kernel
theorem dX7_init_25 : decode cX7_init 25 = .ok (.return_, 1) := by decide +kernel
theorem dX8_init_0 : decode cX8_init 0 = .ok (.aload_n 0, 1) := by decide +kernel
theorem dX8_init_1 : decode cX8_init 1 = .ok (.invokespecial 1, 3) := by decide +kernel
theorem dX8_init_4 : decode cX8_init 4 = .ok (.return_, 1) := by decide +kernel
theorem dX8_listenFor_0 : decode cX8_listenFor 0 = .ok (.aload_n 0, 1) := by decide +kernel
theorem dX8_listenFor_1 : decode cX8_listenFor 1 = .ok (.iload_n 1, 1) := by decide +kernel
theorem dX8_listenFor_2 : decode cX8_listenFor 2 = .ok (.putfield 7, 3) := by decide +kernel
theorem dX8_listenFor_5 : decode cX8_listenFor 5 = .ok (.aload_n 0, 1) := by decide +kernel
theorem dX8_listenFor_6 : decode cX8_listenFor 6 = .ok (.iconst 0, 1) := by decide +kernel
theorem dX8_listenFor_7 : decode cX8_listenFor 7 = .ok (.putfield 13, 3) := by decide +kernel
theorem dX8_listenFor_10 : decode cX8_listenFor 10 = .ok (.aload_n 0, 1) := by decide +kernel
theorem dX8_listenFor_11 : decode cX8_listenFor 11 = .ok (.iconst 0, 1) := by decide +kernel
theorem dX8_listenFor_12 : decode cX8_listenFor 12 = .ok (.putfield 16, 3) := by decide +kernel
theorem dX8_listenFor_15 : decode cX8_listenFor 15 = .ok (.return_, 1) := by decide +kernel
theorem dX8_putStep_0 : decode cX8_putStep 0 = .ok (.aload_n 1, 1) := by decide +kernel
theorem dX8_putStep_1 : decode cX8_putStep 1 = .ok (.ifnonnull 4, 3) := by decide +kernel
theorem dX8_putStep_4 : decode cX8_putStep 4 = .ok (.return_, 1) := by decide +kernel
theorem dX8_putStep_5 : decode cX8_putStep 5 = .ok (.aload_n 1, 1) := by decide +kernel
theorem dX8_putStep_6 : decode cX8_putStep 6 = .ok (.getfield 19, 3) := by decide +kernel
theorem dX8_putStep_9 : decode cX8_putStep 9 = .ok (.invokestatic 24, 3) := by decide +kernel
theorem dX8_putStep_12 : decode cX8_putStep 12 = .ok (.astore_n 2, 1) := by decide +kernel
theorem dX8_putStep_13 : decode cX8_putStep 13 = .ok (.iconst 0, 1) := by decide +kernel
theorem dX8_putStep_14 : decode cX8_putStep 14 = .ok (.istore_n 3, 1) := by decide +kernel
theorem dX8_putStep_15 : decode cX8_putStep 15 = .ok (.iload_n 3, 1) := by decide +kernel
theorem dX8_putStep_16 : decode cX8_putStep 16 = .ok (.aload_n 2, 1) := by decide +kernel
theorem dX8_putStep_17 : decode cX8_putStep 17 = .ok (.invokevirtual 30, 3) := by decide +kernel
theorem dX8_putStep_20 : decode cX8_putStep 20 = .ok (.if_icmp .ge 18, 3) := by decide +kernel
theorem dX8_putStep_23 : decode cX8_putStep 23 = .ok (.aload_n 0, 1) := by decide +kernel
theorem dX8_putStep_24 : decode cX8_putStep 24 = .ok (.aload_n 2, 1) := by decide +kernel
theorem dX8_putStep_25 : decode cX8_putStep 25 = .ok (.iload_n 3, 1) := by decide +kernel
theorem dX8_putStep_26 : decode cX8_putStep 26 = .ok (.invokevirtual 35, 3) := by decide +kernel
theorem dX8_putStep_29 : decode cX8_putStep 29 = .ok (.invokevirtual 39, 3) := by decide +kernel
theorem dX8_putStep_32 : decode cX8_putStep 32 = .ok (.iinc 3 1, 3) := by decide +kernel
theorem dX8_putStep_35 : decode cX8_putStep 35 = .ok (.goto (-20), 3) := by decide +kernel
theorem dX8_putStep_38 : decode cX8_putStep 38 = .ok (.aload_n 1, 1) := by decide +kernel
theorem dX8_putStep_39 : decode cX8_putStep 39 = .ok (.getfield 19, 3) := by decide +kernel
theorem dX8_putStep_42 : decode cX8_putStep 42 = .ok (.invokestatic 43, 3) := by decide +kernel
theorem dX8_putStep_45 : decode cX8_putStep 45 = .ok (.iconst 1, 1) := by decide +kernel
theorem dX8_putStep_46 : decode cX8_putStep 46 = .ok (.if_icmp .lt 11, 3) := by decide +kernel
theorem dX8_putStep_49 : decode cX8_putStep 49 = .ok (.aload_n 0, 1) := by decide +kernel
theorem dX8_putStep_50 : decode cX8_putStep 50 = .ok (.aload_n 1, 1) := by decide +kernel
theorem dX8_putStep_51 : decode cX8_putStep 51 = .ok (.getfield 47, 3) := by decide +kernel
theorem dX8_putStep_54 : decode cX8_putStep 54 = .ok (.invokevirtual 50, 3) := by decide +kernel
theorem dX8_putStep_57 : decode cX8_putStep 57 = .ok (.aload_n 1, 1) := by decide +kernel
theorem dX8_putStep_58 : decode cX8_putStep 58 = .ok (.getfield 19, 3) := by decide +kernel
theorem dX8_putStep_61 : decode cX8_putStep 61 = .ok (.invokestatic 43, 3) := by decide +kernel
theorem dX8_putStep_64 : decode cX8_putStep 64 = .ok (.iconst 2, 1) := by decide +kernel
theorem dX8_putStep_65 : decode cX8_putStep 65 = .ok (.if_icmp .ne 11, 3) := by decide +kernel
theorem dX8_putStep_68 : decode cX8_putStep 68 = .ok (.aload_n 0, 1) := by decide +kernel
theorem dX8_putStep_69 : decode cX8_putStep 69 = .ok (.aload_n 1, 1) := by decide +kernel
theorem dX8_putStep_70 : decode cX8_putStep 70 = .ok (.getfield 53, 3) := by decide +kernel
theorem dX8_putStep_73 : decode cX8_putStep 73 = .ok (.invokevirtual 50, 3) := by decide +kernel
theorem dX8_putStep_76 : decode cX8_putStep 76 = .ok (.aload_n 0, 1) := by decide +kernel
theorem dX8_putStep_77 : decode cX8_putStep 77 = .ok (.bipush 59, 2) := by decide +kernel
theorem dX8_putStep_79 : decode cX8_putStep 79 = .ok (.invokevirtual 39, 3) := by decide +kernel
theorem dX8_putStep_82 : decode cX8_putStep 82 = .ok (.return_, 1) := by decide +kernel
theorem dX8_putNumber_0 : decode cX8_putNumber 0 = .ok (.aload_n 0, 1) := by decide +kernel
theorem dX8_putNumber_1 : decode cX8_putNumber 1 = .ok (.bipush 32, 2) := by decide +kernel
theorem dX8_putNumber_3 : decode cX8_putNumber 3 = .ok (.invokevirtual 39, 3) := by decide +kernel
theorem dX8_putNumber_6 : decode cX8_putNumber 6 = .ok (.iload_n 1, 1) := by decide +kernel
theorem dX8_putNumber_7 : decode cX8_putNumber 7 = .ok (.ifCond .ge 9, 3) := by decide +kernel
theorem dX8_putNumber_10 : decode cX8_putNumber 10 = .ok (.aload_n 0, 1) := by decide +kernel
theorem dX8_putNumber_11 : decode cX8_putNumber 11 = .ok (.bipush 45, 2) := by decide +kernel
theorem dX8_putNumber_13 : decode cX8_putNumber 13 = .ok (.invokevirtual 39, 3) := by decide +kernel
theorem dX8_putNumber_16 : decode cX8_putNumber 16 = .ok (.iload_n 1, 1) := by decide +kernel
theorem dX8_putNumber_17 : decode cX8_putNumber 17 = .ok (.invokestatic 56, 3) := by decide +kernel
theorem dX8_putNumber_20 : decode cX8_putNumber 20 = .ok (.istore_n 2, 1) := by decide +kernel
theorem dX8_putNumber_21 : decode cX8_putNumber 21 = .ok (.iload_n 2, 1) := by decide +kernel
theorem dX8_putNumber_22 : decode cX8_putNumber 22 = .ok (.bipush 100, 2) := by decide +kernel
theorem dX8_putNumber_24 : decode cX8_putNumber 24 = .ok (.if_icmp .lt 14, 3) := by decide +kernel
theorem dX8_putNumber_27 : decode cX8_putNumber 27 = .ok (.aload_n 0, 1) := by decide +kernel
theorem dX8_putNumber_28 : decode cX8_putNumber 28 = .ok (.bipush 48, 2) := by decide +kernel
theorem dX8_putNumber_30 : decode cX8_putNumber 30 = .ok (.iload_n 2, 1) := by decide +kernel
theorem dX8_putNumber_31 : decode cX8_putNumber 31 = .ok (.bipush 100, 2) := by decide +kernel
theorem dX8_putNumber_33 : decode cX8_putNumber 33 = .ok (.idiv, 1) := by decide +kernel
theorem dX8_putNumber_34 : decode cX8_putNumber 34 = .ok (.iadd, 1) := by decide +kernel
theorem dX8_putNumber_35 : decode cX8_putNumber 35 = .ok (.invokevirtual 39, 3) := by decide +kernel
theorem dX8_putNumber_38 : decode cX8_putNumber 38 = .ok (.iload_n 2, 1) := by decide +kernel
theorem dX8_putNumber_39 : decode cX8_putNumber 39 = .ok (.bipush 10, 2) := by decide +kernel
theorem dX8_putNumber_41 : decode cX8_putNumber 41 = .ok (.if_icmp .lt 17, 3) := by decide +kernel
theorem dX8_putNumber_44 : decode cX8_putNumber 44 = .ok (.aload_n 0, 1) := by decide +kernel
theorem dX8_putNumber_45 : decode cX8_putNumber 45 = .ok (.bipush 48, 2) := by decide +kernel
theorem dX8_putNumber_47 : decode cX8_putNumber 47 = .ok (.iload_n 2, 1) := by decide +kernel
theorem dX8_putNumber_48 : decode cX8_putNumber 48 = .ok (.bipush 10, 2) := by decide +kernel
theorem dX8_putNumber_50 : decode cX8_putNumber 50 = .ok (.idiv, 1) := by decide +kernel
theorem dX8_putNumber_51 : decode cX8_putNumber 51 = .ok (.bipush 10, 2) := by decide +kernel
theorem dX8_putNumber_53 : decode cX8_putNumber 53 = .ok (.irem, 1) := by decide +kernel
theorem dX8_putNumber_54 : decode cX8_putNumber 54 = .ok (.iadd, 1) := by decide +kernel
theorem dX8_putNumber_55 : decode cX8_putNumber 55 = .ok (.invokevirtual 39, 3) := by decide +kernel
theorem dX8_putNumber_58 : decode cX8_putNumber 58 = .ok (.aload_n 0, 1) := by decide +kernel
theorem dX8_putNumber_59 : decode cX8_putNumber 59 = .ok (.bipush 48, 2) := by decide +kernel
theorem dX8_putNumber_61 : decode cX8_putNumber 61 = .ok (.iload_n 2, 1) := by decide +kernel
theorem dX8_putNumber_62 : decode cX8_putNumber 62 = .ok (.bipush 10, 2) := by decide +kernel
theorem dX8_putNumber_64 : decode cX8_putNumber 64 = .ok (.irem, 1) := by decide +kernel
theorem dX8_putNumber_65 : decode cX8_putNumber 65 = .ok (.iadd, 1) := by decide +kernel
theorem dX8_putNumber_66 : decode cX8_putNumber 66 = .ok (.invokevirtual 39, 3) := by decide +kernel
theorem dX8_putNumber_69 : decode cX8_putNumber 69 = .ok (.return_, 1) := by decide +kernel
theorem dX8_put_0 : decode cX8_put 0 = .ok (.aload_n 0, 1) := by decide +kernel
theorem dX8_put_1 : decode cX8_put 1 = .ok (.getfield 13, 3) := by decide +kernel
theorem dX8_put_4 : decode cX8_put 4 = .ok (.aload_n 0, 1) := by decide +kernel
theorem dX8_put_5 : decode cX8_put 5 = .ok (.getfield 7, 3) := by decide +kernel
theorem dX8_put_8 : decode cX8_put 8 = .ok (.if_icmp .ne 8, 3) := by decide +kernel
theorem dX8_put_11 : decode cX8_put 11 = .ok (.aload_n 0, 1) := by decide +kernel
theorem dX8_put_12 : decode cX8_put 12 = .ok (.iload_n 1, 1) := by decide +kernel
theorem dX8_put_13 : decode cX8_put 13 = .ok (.putfield 16, 3) := by decide +kernel
theorem dX8_put_16 : decode cX8_put 16 = .ok (.aload_n 0, 1) := by decide +kernel
theorem dX8_put_17 : decode cX8_put 17 = .ok (.dup, 1) := by decide +kernel
theorem dX8_put_18 : decode cX8_put 18 = .ok (.getfield 13, 3) := by decide +kernel
theorem dX8_put_21 : decode cX8_put 21 = .ok (.iconst 1, 1) := by decide +kernel
theorem dX8_put_22 : decode cX8_put 22 = .ok (.iadd, 1) := by decide +kernel
theorem dX8_put_23 : decode cX8_put 23 = .ok (.putfield 13, 3) := by decide +kernel
theorem dX8_put_26 : decode cX8_put 26 = .ok (.return_, 1) := by decide +kernel
theorem dX9_init_0 : decode cX9_init 0 = .ok (.aload_n 0, 1) := by decide +kernel
theorem dX9_init_1 : decode cX9_init 1 = .ok (.invokespecial 3, 3) := by decide +kernel
theorem dX9_init_4 : decode cX9_init 4 = .ok (.aload_n 0, 1) := by decide +kernel
theorem dX9_init_5 : decode cX9_init 5 = .ok (.new 9, 3) := by decide +kernel
theorem dX9_init_8 : decode cX9_init 8 = .ok (.dup, 1) := by decide +kernel
theorem dX9_init_9 : decode cX9_init 9 = .ok (.invokespecial 11, 3) := by decide +kernel
theorem dX9_init_12 : decode cX9_init 12 = .ok (.putfield 12, 3) := by decide +kernel
theorem dX9_init_15 : decode cX9_init 15 = .ok (.aload_n 0, 1) := by decide +kernel
theorem dX9_init_16 : decode cX9_init 16 = .ok (.bipush 40, 2) := by decide +kernel
theorem dX9_init_18 : decode cX9_init 18 = .ok (.newarray .int, 2) := by decide +kernel
theorem dX9_init_20 : decode cX9_init 20 = .ok (.putfield 18, 3) := by decide +kernel
theorem dX9_init_23 : decode cX9_init 23 = .ok (.aload_n 0, 1) := by decide +kernel
theorem dX9_init_24 : decode cX9_init 24 = .ok (.bipush 40, 2) := by decide +kernel
theorem dX9_init_26 : decode cX9_init 26 = .ok (.newarray .int, 2) := by decide +kernel
theorem dX9_init_28 : decode cX9_init 28 = .ok (.putfield 22, 3) := by decide +kernel
theorem dX9_init_31 : decode cX9_init 31 = .ok (.return_, 1) := by decide +kernel
theorem dX9_lay_0 : decode cX9_lay 0 = .ok (.aload_n 0, 1) := by decide +kernel
theorem dX9_lay_1 : decode cX9_lay 1 = .ok (.aload_n 1, 1) := by decide +kernel
theorem dX9_lay_2 : decode cX9_lay 2 = .ok (.putfield 12, 3) := by decide +kernel
theorem dX9_lay_5 : decode cX9_lay 5 = .ok (.aload_n 2, 1) := by decide +kernel
theorem dX9_lay_6 : decode cX9_lay 6 = .ok (.invokevirtual 25, 3) := by decide +kernel
theorem dX9_lay_9 : decode cX9_lay 9 = .ok (.iconst 0, 1) := by decide +kernel
theorem dX9_lay_10 : decode cX9_lay 10 = .ok (.istore_n 3, 1) := by decide +kernel
theorem dX9_lay_11 : decode cX9_lay 11 = .ok (.iload_n 3, 1) := by decide +kernel
theorem dX9_lay_12 : decode cX9_lay 12 = .ok (.aload_n 0, 1) := by decide +kernel
theorem dX9_lay_13 : decode cX9_lay 13 = .ok (.getfield 12, 3) := by decide +kernel
theorem dX9_lay_16 : decode cX9_lay 16 = .ok (.getfield 30, 3) := by decide +kernel
theorem dX9_lay_19 : decode cX9_lay 19 = .ok (.if_icmp .ge 56, 3) := by decide +kernel
theorem dX9_lay_22 : decode cX9_lay 22 = .ok (.iload_n 3, 1) := by decide +kernel
theorem dX9_lay_23 : decode cX9_lay 23 = .ok (.bipush 40, 2) := by decide +kernel
theorem dX9_lay_25 : decode cX9_lay 25 = .ok (.if_icmp .ge 50, 3) := by decide +kernel
theorem dX9_lay_28 : decode cX9_lay 28 = .ok (.aload_n 0, 1) := by decide +kernel
theorem dX9_lay_29 : decode cX9_lay 29 = .ok (.getfield 18, 3) := by decide +kernel
theorem dX9_lay_32 : decode cX9_lay 32 = .ok (.iload_n 3, 1) := by decide +kernel
theorem dX9_lay_33 : decode cX9_lay 33 = .ok (.aload_n 2, 1) := by decide +kernel
theorem dX9_lay_34 : decode cX9_lay 34 = .ok (.getfield 34, 3) := by decide +kernel
theorem dX9_lay_37 : decode cX9_lay 37 = .ok (.iconst 0, 1) := by decide +kernel
theorem dX9_lay_38 : decode cX9_lay 38 = .ok (.invokevirtual 38, 3) := by decide +kernel
theorem dX9_lay_41 : decode cX9_lay 41 = .ok (.iastore, 1) := by decide +kernel
theorem dX9_lay_42 : decode cX9_lay 42 = .ok (.aload_n 0, 1) := by decide +kernel
theorem dX9_lay_43 : decode cX9_lay 43 = .ok (.getfield 22, 3) := by decide +kernel
theorem dX9_lay_46 : decode cX9_lay 46 = .ok (.iload_n 3, 1) := by decide +kernel
theorem dX9_lay_47 : decode cX9_lay 47 = .ok (.aload_n 2, 1) := by decide +kernel
theorem dX9_lay_48 : decode cX9_lay 48 = .ok (.getfield 34, 3) := by decide +kernel
theorem dX9_lay_51 : decode cX9_lay 51 = .ok (.iconst 0, 1) := by decide +kernel
theorem dX9_lay_52 : decode cX9_lay 52 = .ok (.invokevirtual 44, 3) := by decide +kernel
theorem dX9_lay_55 : decode cX9_lay 55 = .ok (.iastore, 1) := by decide +kernel
theorem dX9_lay_56 : decode cX9_lay 56 = .ok (.aload_n 2, 1) := by decide +kernel
theorem dX9_lay_57 : decode cX9_lay 57 = .ok (.aload_n 0, 1) := by decide +kernel
theorem dX9_lay_58 : decode cX9_lay 58 = .ok (.getfield 12, 3) := by decide +kernel
theorem dX9_lay_61 : decode cX9_lay 61 = .ok (.iload_n 3, 1) := by decide +kernel
theorem dX9_lay_62 : decode cX9_lay 62 = .ok (.invokevirtual 47, 3) := by decide +kernel
theorem dX9_lay_65 : decode cX9_lay 65 = .ok (.invokevirtual 51, 3) := by decide +kernel
theorem dX9_lay_68 : decode cX9_lay 68 = .ok (.pop, 1) := by decide +kernel
theorem dX9_lay_69 : decode cX9_lay 69 = .ok (.iinc 3 1, 3) := by decide +kernel
theorem dX9_lay_72 : decode cX9_lay 72 = .ok (.goto (-61), 3) := by decide +kernel
theorem dX9_lay_75 : decode cX9_lay 75 = .ok (.return_, 1) := by decide +kernel
theorem dX9_placeAhead_0 : decode cX9_placeAhead 0 = .ok (.aload_n 0, 1) := by decide +kernel
theorem dX9_placeAhead_1 : decode cX9_placeAhead 1 = .ok (.getfield 12, 3) := by decide +kernel
theorem dX9_placeAhead_4 : decode cX9_placeAhead 4 = .ok (.iload_n 1, 1) := by decide +kernel
theorem dX9_placeAhead_5 : decode cX9_placeAhead 5 = .ok (.invokevirtual 47, 3) := by decide +kernel
theorem dX9_placeAhead_8 : decode cX9_placeAhead 8 = .ok (.astore_n 3, 1) := by decide +kernel
theorem dX9_placeAhead_9 : decode cX9_placeAhead 9 = .ok (.aload_n 3, 1) := by decide +kernel
theorem dX9_placeAhead_10 : decode cX9_placeAhead 10 = .ok (.ifnull 13, 3) := by decide +kernel
theorem dX9_placeAhead_13 : decode cX9_placeAhead 13 = .ok (.iload_n 1, 1) := by decide +kernel
theorem dX9_placeAhead_14 : decode cX9_placeAhead 14 = .ok (.ifCond .lt 9, 3) := by decide +kernel
theorem dX9_placeAhead_17 : decode cX9_placeAhead 17 = .ok (.iload_n 1, 1) := by decide +kernel
theorem dX9_placeAhead_18 : decode cX9_placeAhead 18 = .ok (.bipush 40, 2) := by decide +kernel
theorem dX9_placeAhead_20 : decode cX9_placeAhead 20 = .ok (.if_icmp .lt 5, 3) := by decide +kernel
theorem dX9_placeAhead_23 : decode cX9_placeAhead 23 = .ok (.iload_n 2, 1) := by decide +kernel
theorem dX9_placeAhead_24 : decode cX9_placeAhead 24 = .ok (.ireturn, 1) := by decide +kernel
theorem dX9_placeAhead_25 : decode cX9_placeAhead 25 = .ok (.aload_n 3, 1) := by decide +kernel
theorem dX9_placeAhead_26 : decode cX9_placeAhead 26 = .ok (.getfield 55, 3) := by decide +kernel
theorem dX9_placeAhead_29 : decode cX9_placeAhead 29 = .ok (.tableswitch 92 3 6 #[31, 38, 70, 81], 31) := by decide +kernel
theorem dX9_placeAhead_60 : decode cX9_placeAhead 60 = .ok (.iload_n 2, 1) := by decide +kernel
theorem dX9_placeAhead_61 : decode cX9_placeAhead 61 = .ok (.aload_n 3, 1) := by decide +kernel
theorem dX9_placeAhead_62 : decode cX9_placeAhead 62 = .ok (.getfield 60, 3) := by decide +kernel
theorem dX9_placeAhead_65 : decode cX9_placeAhead 65 = .ok (.isub, 1) := by decide +kernel
theorem dX9_placeAhead_66 : decode cX9_placeAhead 66 = .ok (.ireturn, 1) := by decide +kernel
theorem dX9_placeAhead_67 : decode cX9_placeAhead 67 = .ok (.iload_n 2, 1) := by decide +kernel
theorem dX9_placeAhead_68 : decode cX9_placeAhead 68 = .ok (.aload_n 0, 1) := by decide +kernel
theorem dX9_placeAhead_69 : decode cX9_placeAhead 69 = .ok (.getfield 18, 3) := by decide +kernel
theorem dX9_placeAhead_72 : decode cX9_placeAhead 72 = .ok (.iload_n 1, 1) := by decide +kernel
theorem dX9_placeAhead_73 : decode cX9_placeAhead 73 = .ok (.iaload, 1) := by decide +kernel
theorem dX9_placeAhead_74 : decode cX9_placeAhead 74 = .ok (.aload_n 0, 1) := by decide +kernel
theorem dX9_placeAhead_75 : decode cX9_placeAhead 75 = .ok (.getfield 22, 3) := by decide +kernel
theorem dX9_placeAhead_78 : decode cX9_placeAhead 78 = .ok (.iload_n 1, 1) := by decide +kernel
theorem dX9_placeAhead_79 : decode cX9_placeAhead 79 = .ok (.iaload, 1) := by decide +kernel
theorem dX9_placeAhead_80 : decode cX9_placeAhead 80 = .ok (.invokestatic 63, 3) := by decide +kernel
theorem dX9_placeAhead_83 : decode cX9_placeAhead 83 = .ok (.iload_n 2, 1) := by decide +kernel
theorem dX9_placeAhead_84 : decode cX9_placeAhead 84 = .ok (.aload_n 3, 1) := by decide +kernel
theorem dX9_placeAhead_85 : decode cX9_placeAhead 85 = .ok (.getfield 67, 3) := by decide +kernel
theorem dX9_placeAhead_88 : decode cX9_placeAhead 88 = .ok (.isub, 1) := by decide +kernel
theorem dX9_placeAhead_89 : decode cX9_placeAhead 89 = .ok (.iload_n 2, 1) := by decide +kernel
theorem dX9_placeAhead_90 : decode cX9_placeAhead 90 = .ok (.aload_n 3, 1) := by decide +kernel
theorem dX9_placeAhead_91 : decode cX9_placeAhead 91 = .ok (.getfield 60, 3) := by decide +kernel
theorem dX9_placeAhead_94 : decode cX9_placeAhead 94 = .ok (.iadd, 1) := by decide +kernel
theorem dX9_placeAhead_95 : decode cX9_placeAhead 95 = .ok (.invokestatic 63, 3) := by decide +kernel
theorem dX9_placeAhead_98 : decode cX9_placeAhead 98 = .ok (.ireturn, 1) := by decide +kernel
theorem dX9_placeAhead_99 : decode cX9_placeAhead 99 = .ok (.iload_n 2, 1) := by decide +kernel
theorem dX9_placeAhead_100 : decode cX9_placeAhead 100 = .ok (.aload_n 0, 1) := by decide +kernel
theorem dX9_placeAhead_101 : decode cX9_placeAhead 101 = .ok (.getfield 22, 3) := by decide +kernel
theorem dX9_placeAhead_104 : decode cX9_placeAhead 104 = .ok (.iload_n 1, 1) := by decide +kernel
theorem dX9_placeAhead_105 : decode cX9_placeAhead 105 = .ok (.iaload, 1) := by decide +kernel
theorem dX9_placeAhead_106 : decode cX9_placeAhead 106 = .ok (.invokestatic 70, 3) := by decide +kernel
theorem dX9_placeAhead_109 : decode cX9_placeAhead 109 = .ok (.ireturn, 1) := by decide +kernel
theorem dX9_placeAhead_110 : decode cX9_placeAhead 110 = .ok (.iload_n 2, 1) := by decide +kernel
theorem dX9_placeAhead_111 : decode cX9_placeAhead 111 = .ok (.aload_n 0, 1) := by decide +kernel
theorem dX9_placeAhead_112 : decode cX9_placeAhead 112 = .ok (.getfield 18, 3) := by decide +kernel
theorem dX9_placeAhead_115 : decode cX9_placeAhead 115 = .ok (.iload_n 1, 1) := by decide +kernel
theorem dX9_placeAhead_116 : decode cX9_placeAhead 116 = .ok (.iaload, 1) := by decide +kernel
theorem dX9_placeAhead_117 : decode cX9_placeAhead 117 = .ok (.invokestatic 76, 3) := by decide +kernel
theorem dX9_placeAhead_120 : decode cX9_placeAhead 120 = .ok (.ireturn, 1) := by decide +kernel
theorem dX9_placeAhead_121 : decode cX9_placeAhead 121 = .ok (.iload_n 2, 1) := by decide +kernel
theorem dX9_placeAhead_122 : decode cX9_placeAhead 122 = .ok (.ireturn, 1) := by decide +kernel
theorem dX9_placeBehind_0 : decode cX9_placeBehind 0 = .ok (.iload_n 2, 1) := by decide +kernel
theorem dX9_placeBehind_1 : decode cX9_placeBehind 1 = .ok (.istore_n 3, 1) := by decide +kernel
theorem dX9_placeBehind_2 : decode cX9_placeBehind 2 = .ok (.aload_n 0, 1) := by decide +kernel
theorem dX9_placeBehind_3 : decode cX9_placeBehind 3 = .ok (.getfield 12, 3) := by decide +kernel
theorem dX9_placeBehind_6 : decode cX9_placeBehind 6 = .ok (.getfield 30, 3) := by decide +kernel
theorem dX9_placeBehind_9 : decode cX9_placeBehind 9 = .ok (.iconst 1, 1) := by decide +kernel
theorem dX9_placeBehind_10 : decode cX9_placeBehind 10 = .ok (.isub, 1) := by decide +kernel
theorem dX9_placeBehind_11 : decode cX9_placeBehind 11 = .ok (.istore 4, 2) := by decide +kernel
theorem dX9_placeBehind_13 : decode cX9_placeBehind 13 = .ok (.iload 4, 2) := by decide +kernel
theorem dX9_placeBehind_15 : decode cX9_placeBehind 15 = .ok (.ifCond .lt 23, 3) := by decide +kernel
theorem dX9_placeBehind_18 : decode cX9_placeBehind 18 = .ok (.iload 4, 2) := by decide +kernel
theorem dX9_placeBehind_20 : decode cX9_placeBehind 20 = .ok (.iload_n 1, 1) := by decide +kernel
theorem dX9_placeBehind_21 : decode cX9_placeBehind 21 = .ok (.if_icmp .lt 17, 3) := by decide +kernel
theorem dX9_placeBehind_24 : decode cX9_placeBehind 24 = .ok (.aload_n 0, 1) := by decide +kernel
theorem dX9_placeBehind_25 : decode cX9_placeBehind 25 = .ok (.iload 4, 2) := by decide +kernel
theorem dX9_placeBehind_27 : decode cX9_placeBehind 27 = .ok (.iload_n 3, 1) := by decide +kernel
theorem dX9_placeBehind_28 : decode cX9_placeBehind 28 = .ok (.invokevirtual 79, 3) := by decide +kernel
theorem dX9_placeBehind_31 : decode cX9_placeBehind 31 = .ok (.istore_n 3, 1) := by decide +kernel
theorem dX9_placeBehind_32 : decode cX9_placeBehind 32 = .ok (.iinc 4 (-1), 3) := by decide +kernel
theorem dX9_placeBehind_35 : decode cX9_placeBehind 35 = .ok (.goto (-22), 3) := by decide +kernel
theorem dX9_placeBehind_38 : decode cX9_placeBehind 38 = .ok (.iload_n 3, 1) := by decide +kernel
theorem dX9_placeBehind_39 : decode cX9_placeBehind 39 = .ok (.ireturn, 1) := by decide +kernel
theorem dX9_wayTo_0 : decode cX9_wayTo 0 = .ok (.iconst 0, 1) := by decide +kernel
theorem dX9_wayTo_1 : decode cX9_wayTo 1 = .ok (.istore_n 2, 1) := by decide +kernel
theorem dX9_wayTo_2 : decode cX9_wayTo 2 = .ok (.iload_n 1, 1) := by decide +kernel
theorem dX9_wayTo_3 : decode cX9_wayTo 3 = .ok (.istore_n 3, 1) := by decide +kernel
theorem dX9_wayTo_4 : decode cX9_wayTo 4 = .ok (.aload_n 0, 1) := by decide +kernel
theorem dX9_wayTo_5 : decode cX9_wayTo 5 = .ok (.getfield 12, 3) := by decide +kernel
theorem dX9_wayTo_8 : decode cX9_wayTo 8 = .ok (.getfield 30, 3) := by decide +kernel
theorem dX9_wayTo_11 : decode cX9_wayTo 11 = .ok (.iconst 1, 1) := by decide +kernel
theorem dX9_wayTo_12 : decode cX9_wayTo 12 = .ok (.isub, 1) := by decide +kernel
theorem dX9_wayTo_13 : decode cX9_wayTo 13 = .ok (.istore 4, 2) := by decide +kernel
theorem dX9_wayTo_15 : decode cX9_wayTo 15 = .ok (.iload 4, 2) := by decide +kernel
theorem dX9_wayTo_17 : decode cX9_wayTo 17 = .ok (.ifCond .lt 31, 3) := by decide +kernel
theorem dX9_wayTo_20 : decode cX9_wayTo 20 = .ok (.aload_n 0, 1) := by decide +kernel
theorem dX9_wayTo_21 : decode cX9_wayTo 21 = .ok (.iload 4, 2) := by decide +kernel
theorem dX9_wayTo_23 : decode cX9_wayTo 23 = .ok (.iload_n 3, 1) := by decide +kernel
theorem dX9_wayTo_24 : decode cX9_wayTo 24 = .ok (.invokevirtual 79, 3) := by decide +kernel
theorem dX9_wayTo_27 : decode cX9_wayTo 27 = .ok (.istore 5, 2) := by decide +kernel
theorem dX9_wayTo_29 : decode cX9_wayTo 29 = .ok (.iload_n 2, 1) := by decide +kernel
theorem dX9_wayTo_30 : decode cX9_wayTo 30 = .ok (.iload_n 3, 1) := by decide +kernel
theorem dX9_wayTo_31 : decode cX9_wayTo 31 = .ok (.iload 5, 2) := by decide +kernel
theorem dX9_wayTo_33 : decode cX9_wayTo 33 = .ok (.isub, 1) := by decide +kernel
theorem dX9_wayTo_34 : decode cX9_wayTo 34 = .ok (.invokestatic 82, 3) := by decide +kernel
theorem dX9_wayTo_37 : decode cX9_wayTo 37 = .ok (.iadd, 1) := by decide +kernel
theorem dX9_wayTo_38 : decode cX9_wayTo 38 = .ok (.istore_n 2, 1) := by decide +kernel
theorem dX9_wayTo_39 : decode cX9_wayTo 39 = .ok (.iload 5, 2) := by decide +kernel
theorem dX9_wayTo_41 : decode cX9_wayTo 41 = .ok (.istore_n 3, 1) := by decide +kernel
theorem dX9_wayTo_42 : decode cX9_wayTo 42 = .ok (.iinc 4 (-1), 3) := by decide +kernel
theorem dX9_wayTo_45 : decode cX9_wayTo 45 = .ok (.goto (-30), 3) := by decide +kernel
theorem dX9_wayTo_48 : decode cX9_wayTo 48 = .ok (.iload_n 2, 1) := by decide +kernel
theorem dX9_wayTo_49 : decode cX9_wayTo 49 = .ok (.ireturn, 1) := by decide +kernel
theorem dX10_init_0 : decode cX10_init 0 = .ok (.aload_n 0, 1) := by decide +kernel
theorem dX10_init_1 : decode cX10_init 1 = .ok (.invokespecial 1, 3) := by decide +kernel
theorem dX10_init_4 : decode cX10_init 4 = .ok (.aload_n 0, 1) := by decide +kernel
theorem dX10_init_5 : decode cX10_init 5 = .ok (.aload_n 1, 1) := by decide +kernel
theorem dX10_init_6 : decode cX10_init 6 = .ok (.putfield 7, 3) := by decide +kernel
theorem dX10_init_9 : decode cX10_init 9 = .ok (.return_, 1) := by decide +kernel
theorem dX10_startAt_0 : decode cX10_startAt 0 = .ok (.aload_n 0, 1) := by decide +kernel
theorem dX10_startAt_1 : decode cX10_startAt 1 = .ok (.aload_n 1, 1) := by decide +kernel
theorem dX10_startAt_2 : decode cX10_startAt 2 = .ok (.putfield 7, 3) := by decide +kernel
theorem dX10_startAt_5 : decode cX10_startAt 5 = .ok (.aload_n 0, 1) := by decide +kernel
theorem dX10_startAt_6 : decode cX10_startAt 6 = .ok (.iload_n 2, 1) := by decide +kernel
theorem dX10_startAt_7 : decode cX10_startAt 7 = .ok (.putfield 13, 3) := by decide +kernel
theorem dX10_startAt_10 : decode cX10_startAt 10 = .ok (.aload_n 0, 1) := by decide +kernel
theorem dX10_startAt_11 : decode cX10_startAt 11 = .ok (.aload_n 0, 1) := by decide +kernel
theorem dX10_startAt_12 : decode cX10_startAt 12 = .ok (.getfield 7, 3) := by decide +kernel
theorem dX10_startAt_15 : decode cX10_startAt 15 = .ok (.aload_n 0, 1) := by decide +kernel
theorem dX10_startAt_16 : decode cX10_startAt 16 = .ok (.getfield 13, 3) := by decide +kernel
theorem dX10_startAt_19 : decode cX10_startAt 19 = .ok (.invokevirtual 17, 3) := by decide +kernel
theorem dX10_startAt_22 : decode cX10_startAt 22 = .ok (.putfield 23, 3) := by decide +kernel
theorem dX10_startAt_25 : decode cX10_startAt 25 = .ok (.aload_n 0, 1) := by decide +kernel
theorem dX10_startAt_26 : decode cX10_startAt 26 = .ok (.aload_n 0, 1) := by decide +kernel
theorem dX10_startAt_27 : decode cX10_startAt 27 = .ok (.getfield 7, 3) := by decide +kernel
theorem dX10_startAt_30 : decode cX10_startAt 30 = .ok (.aload_n 0, 1) := by decide +kernel
theorem dX10_startAt_31 : decode cX10_startAt 31 = .ok (.getfield 13, 3) := by decide +kernel
theorem dX10_startAt_34 : decode cX10_startAt 34 = .ok (.invokevirtual 26, 3) := by decide +kernel
theorem dX10_startAt_37 : decode cX10_startAt 37 = .ok (.putfield 29, 3) := by decide +kernel
theorem dX10_startAt_40 : decode cX10_startAt 40 = .ok (.aload_n 0, 1) := by decide +kernel
theorem dX10_startAt_41 : decode cX10_startAt 41 = .ok (.aload_n 0, 1) := by decide +kernel
theorem dX10_startAt_42 : decode cX10_startAt 42 = .ok (.getfield 7, 3) := by decide +kernel
theorem dX10_startAt_45 : decode cX10_startAt 45 = .ok (.aload_n 0, 1) := by decide +kernel
theorem dX10_startAt_46 : decode cX10_startAt 46 = .ok (.getfield 13, 3) := by decide +kernel
theorem dX10_startAt_49 : decode cX10_startAt 49 = .ok (.invokevirtual 32, 3) := by decide +kernel
theorem dX10_startAt_52 : decode cX10_startAt 52 = .ok (.putfield 36, 3) := by decide +kernel
theorem dX10_startAt_55 : decode cX10_startAt 55 = .ok (.return_, 1) := by decide +kernel
theorem dX10_goOn_0 : decode cX10_goOn 0 = .ok (.aload_n 0, 1) := by decide +kernel
theorem dX10_goOn_1 : decode cX10_goOn 1 = .ok (.dup, 1) := by decide +kernel
theorem dX10_goOn_2 : decode cX10_goOn 2 = .ok (.getfield 36, 3) := by decide +kernel
theorem dX10_goOn_5 : decode cX10_goOn 5 = .ok (.aload_n 0, 1) := by decide +kernel
theorem dX10_goOn_6 : decode cX10_goOn 6 = .ok (.getfield 23, 3) := by decide +kernel
theorem dX10_goOn_9 : decode cX10_goOn 9 = .ok (.i2l, 1) := by decide +kernel
theorem dX10_goOn_10 : decode cX10_goOn 10 = .ok (.ladd, 1) := by decide +kernel
theorem dX10_goOn_11 : decode cX10_goOn 11 = .ok (.putfield 36, 3) := by decide +kernel
theorem dX10_goOn_14 : decode cX10_goOn 14 = .ok (.aload_n 0, 1) := by decide +kernel
theorem dX10_goOn_15 : decode cX10_goOn 15 = .ok (.dup, 1) := by decide +kernel
theorem dX10_goOn_16 : decode cX10_goOn 16 = .ok (.getfield 13, 3) := by decide +kernel
theorem dX10_goOn_19 : decode cX10_goOn 19 = .ok (.iconst 1, 1) := by decide +kernel
theorem dX10_goOn_20 : decode cX10_goOn 20 = .ok (.iadd, 1) := by decide +kernel
theorem dX10_goOn_21 : decode cX10_goOn 21 = .ok (.putfield 13, 3) := by decide +kernel
theorem dX10_goOn_24 : decode cX10_goOn 24 = .ok (.aload_n 0, 1) := by decide +kernel
theorem dX10_goOn_25 : decode cX10_goOn 25 = .ok (.getfield 29, 3) := by decide +kernel
theorem dX10_goOn_28 : decode cX10_goOn 28 = .ok (.aload_n 0, 1) := by decide +kernel
theorem dX10_goOn_29 : decode cX10_goOn 29 = .ok (.getfield 7, 3) := by decide +kernel
theorem dX10_goOn_32 : decode cX10_goOn 32 = .ok (.getfield 40, 3) := by decide +kernel
theorem dX10_goOn_35 : decode cX10_goOn 35 = .ok (.if_icmp .ge 51, 3) := by decide +kernel
theorem dX10_goOn_38 : decode cX10_goOn 38 = .ok (.aload_n 0, 1) := by decide +kernel
theorem dX10_goOn_39 : decode cX10_goOn 39 = .ok (.getfield 7, 3) := by decide +kernel
theorem dX10_goOn_42 : decode cX10_goOn 42 = .ok (.aload_n 0, 1) := by decide +kernel
theorem dX10_goOn_43 : decode cX10_goOn 43 = .ok (.getfield 29, 3) := by decide +kernel
theorem dX10_goOn_46 : decode cX10_goOn 46 = .ok (.invokevirtual 43, 3) := by decide +kernel
theorem dX10_goOn_49 : decode cX10_goOn 49 = .ok (.aload_n 0, 1) := by decide +kernel
theorem dX10_goOn_50 : decode cX10_goOn 50 = .ok (.getfield 13, 3) := by decide +kernel
theorem dX10_goOn_53 : decode cX10_goOn 53 = .ok (.if_icmp .ne 33, 3) := by decide +kernel
theorem dX10_goOn_56 : decode cX10_goOn 56 = .ok (.aload_n 0, 1) := by decide +kernel
theorem dX10_goOn_57 : decode cX10_goOn 57 = .ok (.dup, 1) := by decide +kernel
theorem dX10_goOn_58 : decode cX10_goOn 58 = .ok (.getfield 23, 3) := by decide +kernel
theorem dX10_goOn_61 : decode cX10_goOn 61 = .ok (.aload_n 0, 1) := by decide +kernel
theorem dX10_goOn_62 : decode cX10_goOn 62 = .ok (.getfield 7, 3) := by decide +kernel
theorem dX10_goOn_65 : decode cX10_goOn 65 = .ok (.aload_n 0, 1) := by decide +kernel
theorem dX10_goOn_66 : decode cX10_goOn 66 = .ok (.getfield 29, 3) := by decide +kernel
theorem dX10_goOn_69 : decode cX10_goOn 69 = .ok (.invokevirtual 46, 3) := by decide +kernel
theorem dX10_goOn_72 : decode cX10_goOn 72 = .ok (.iadd, 1) := by decide +kernel
theorem dX10_goOn_73 : decode cX10_goOn 73 = .ok (.putfield 23, 3) := by decide +kernel
theorem dX10_goOn_76 : decode cX10_goOn 76 = .ok (.aload_n 0, 1) := by decide +kernel
theorem dX10_goOn_77 : decode cX10_goOn 77 = .ok (.dup, 1) := by decide +kernel
theorem dX10_goOn_78 : decode cX10_goOn 78 = .ok (.getfield 29, 3) := by decide +kernel
theorem dX10_goOn_81 : decode cX10_goOn 81 = .ok (.iconst 1, 1) := by decide +kernel
theorem dX10_goOn_82 : decode cX10_goOn 82 = .ok (.iadd, 1) := by decide +kernel
theorem dX10_goOn_83 : decode cX10_goOn 83 = .ok (.putfield 29, 3) := by decide +kernel
theorem dX10_goOn_86 : decode cX10_goOn 86 = .ok (.return_, 1) := by decide +kernel
theorem dX11_init_0 : decode cX11_init 0 = .ok (.aload_n 0, 1) := by decide +kernel
theorem dX11_init_1 : decode cX11_init 1 = .ok (.invokespecial 1, 3) := by decide +kernel
theorem dX11_init_4 : decode cX11_init 4 = .ok (.aload_n 0, 1) := by decide +kernel
theorem dX11_init_5 : decode cX11_init 5 = .ok (.iconst 0, 1) := by decide +kernel
theorem dX11_init_6 : decode cX11_init 6 = .ok (.newarray .byte, 2) := by decide +kernel
theorem dX11_init_8 : decode cX11_init 8 = .ok (.putfield 7, 3) := by decide +kernel
theorem dX11_init_11 : decode cX11_init 11 = .ok (.aload_n 0, 1) := by decide +kernel
theorem dX11_init_12 : decode cX11_init 12 = .ok (.iconst 0, 1) := by decide +kernel
theorem dX11_init_13 : decode cX11_init 13 = .ok (.putfield 13, 3) := by decide +kernel
theorem dX11_init_16 : decode cX11_init 16 = .ok (.aload_n 0, 1) := by decide +kernel
theorem dX11_init_17 : decode cX11_init 17 = .ok (.iconst (-1), 1) := by decide +kernel
theorem dX11_init_18 : decode cX11_init 18 = .ok (.putfield 17, 3) := by decide +kernel
theorem dX11_init_21 : decode cX11_init 21 = .ok (.aload_n 0, 1) := by decide +kernel
theorem dX11_init_22 : decode cX11_init 22 = .ok (.new 20, 3) := by decide +kernel
theorem dX11_init_25 : decode cX11_init 25 = .ok (.dup, 1) := by decide +kernel
theorem dX11_init_26 : decode cX11_init 26 = .ok (.invokespecial 22, 3) := by decide +kernel
theorem dX11_init_29 : decode cX11_init 29 = .ok (.putfield 23, 3) := by decide +kernel
theorem dX11_init_32 : decode cX11_init 32 = .ok (.aload_n 0, 1) := by decide +kernel
theorem dX11_init_33 : decode cX11_init 33 = .ok (.new 27, 3) := by decide +kernel
theorem dX11_init_36 : decode cX11_init 36 = .ok (.dup, 1) := by decide +kernel
theorem dX11_init_37 : decode cX11_init 37 = .ok (.invokespecial 29, 3) := by decide +kernel
theorem dX11_init_40 : decode cX11_init 40 = .ok (.putfield 30, 3) := by decide +kernel
theorem dX11_init_43 : decode cX11_init 43 = .ok (.aload_n 0, 1) := by decide +kernel
theorem dX11_init_44 : decode cX11_init 44 = .ok (.new 34, 3) := by decide +kernel
theorem dX11_init_47 : decode cX11_init 47 = .ok (.dup, 1) := by decide +kernel
theorem dX11_init_48 : decode cX11_init 48 = .ok (.invokespecial 36, 3) := by decide +kernel
theorem dX11_init_51 : decode cX11_init 51 = .ok (.putfield 37, 3) := by decide +kernel
theorem dX11_init_54 : decode cX11_init 54 = .ok (.aload_n 0, 1) := by decide +kernel
theorem dX11_init_55 : decode cX11_init 55 = .ok (.new 41, 3) := by decide +kernel
theorem dX11_init_58 : decode cX11_init 58 = .ok (.dup, 1) := by decide +kernel
theorem dX11_init_59 : decode cX11_init 59 = .ok (.invokespecial 43, 3) := by decide +kernel
theorem dX11_init_62 : decode cX11_init 62 = .ok (.putfield 44, 3) := by decide +kernel
theorem dX11_init_65 : decode cX11_init 65 = .ok (.aload_n 0, 1) := by decide +kernel
theorem dX11_init_66 : decode cX11_init 66 = .ok (.new 48, 3) := by decide +kernel
theorem dX11_init_69 : decode cX11_init 69 = .ok (.dup, 1) := by decide +kernel
theorem dX11_init_70 : decode cX11_init 70 = .ok (.invokespecial 50, 3) := by decide +kernel
theorem dX11_init_73 : decode cX11_init 73 = .ok (.putfield 51, 3) := by decide +kernel
theorem dX11_init_76 : decode cX11_init 76 = .ok (.aload_n 0, 1) := by decide +kernel
theorem dX11_init_77 : decode cX11_init 77 = .ok (.iconst 0, 1) := by decide +kernel
theorem dX11_init_78 : decode cX11_init 78 = .ok (.putfield 55, 3) := by decide +kernel
theorem dX11_init_81 : decode cX11_init 81 = .ok (.aload_n 0, 1) := by decide +kernel
theorem dX11_init_82 : decode cX11_init 82 = .ok (.bipush 41, 2) := by decide +kernel
theorem dX11_init_84 : decode cX11_init 84 = .ok (.newarray .long, 2) := by decide +kernel
theorem dX11_init_86 : decode cX11_init 86 = .ok (.putfield 58, 3) := by decide +kernel
theorem dX11_init_89 : decode cX11_init 89 = .ok (.aload_n 0, 1) := by decide +kernel
theorem dX11_init_90 : decode cX11_init 90 = .ok (.bipush 41, 2) := by decide +kernel
theorem dX11_init_92 : decode cX11_init 92 = .ok (.newarray .int, 2) := by decide +kernel
theorem dX11_init_94 : decode cX11_init 94 = .ok (.putfield 62, 3) := by decide +kernel
theorem dX11_init_97 : decode cX11_init 97 = .ok (.aload_n 0, 1) := by decide +kernel
theorem dX11_init_98 : decode cX11_init 98 = .ok (.iconst 4, 1) := by decide +kernel
theorem dX11_init_99 : decode cX11_init 99 = .ok (.anewarray 66, 3) := by decide +kernel
theorem dX11_init_102 : decode cX11_init 102 = .ok (.putfield 68, 3) := by decide +kernel
theorem dX11_init_105 : decode cX11_init 105 = .ok (.aload_n 0, 1) := by decide +kernel
theorem dX11_init_106 : decode cX11_init 106 = .ok (.iconst 4, 1) := by decide +kernel
theorem dX11_init_107 : decode cX11_init 107 = .ok (.anewarray 66, 3) := by decide +kernel
theorem dX11_init_110 : decode cX11_init 110 = .ok (.putfield 72, 3) := by decide +kernel
theorem dX11_init_113 : decode cX11_init 113 = .ok (.iconst 0, 1) := by decide +kernel
theorem dX11_init_114 : decode cX11_init 114 = .ok (.istore_n 1, 1) := by decide +kernel
