theorem dX0_reshape_37 : decode cX0_reshape 37 = .ok (.if_icmp .ge 99, 3) := by decide +kernel
theorem dX0_reshape_40 : decode cX0_reshape 40 = .ok (.iload 5, 2) := by decide +kernel
theorem dX0_reshape_42 : decode cX0_reshape 42 = .ok (.aload_n 0, 1) := by decide +kernel
theorem dX0_reshape_43 : decode cX0_reshape 43 = .ok (.getfield 12, 3) := by decide +kernel
theorem dX0_reshape_46 : decode cX0_reshape 46 = .ok (.iload 6, 2) := by decide +kernel
theorem dX0_reshape_48 : decode cX0_reshape 48 = .ok (.invokevirtual 125, 3) := by decide +kernel
theorem dX0_reshape_51 : decode cX0_reshape 51 = .ok (.invokestatic 142, 3) := by decide +kernel
theorem dX0_reshape_54 : decode cX0_reshape 54 = .ok (.istore 7, 2) := by decide +kernel
theorem dX0_reshape_56 : decode cX0_reshape 56 = .ok (.iload 5, 2) := by decide +kernel
theorem dX0_reshape_58 : decode cX0_reshape 58 = .ok (.iload 7, 2) := by decide +kernel
theorem dX0_reshape_60 : decode cX0_reshape 60 = .ok (.isub, 1) := by decide +kernel
theorem dX0_reshape_61 : decode cX0_reshape 61 = .ok (.istore 5, 2) := by decide +kernel
theorem dX0_reshape_63 : decode cX0_reshape 63 = .ok (.aload_n 0, 1) := by decide +kernel
theorem dX0_reshape_64 : decode cX0_reshape 64 = .ok (.getfield 18, 3) := by decide +kernel
theorem dX0_reshape_67 : decode cX0_reshape 67 = .ok (.aload_n 0, 1) := by decide +kernel
theorem dX0_reshape_68 : decode cX0_reshape 68 = .ok (.getfield 12, 3) := by decide +kernel
theorem dX0_reshape_71 : decode cX0_reshape 71 = .ok (.iload 6, 2) := by decide +kernel
theorem dX0_reshape_73 : decode cX0_reshape 73 = .ok (.invokevirtual 122, 3) := by decide +kernel
theorem dX0_reshape_76 : decode cX0_reshape 76 = .ok (.iload_n 3, 1) := by decide +kernel
theorem dX0_reshape_77 : decode cX0_reshape 77 = .ok (.isub, 1) := by decide +kernel
theorem dX0_reshape_78 : decode cX0_reshape 78 = .ok (.iload_n 1, 1) := by decide +kernel
theorem dX0_reshape_79 : decode cX0_reshape 79 = .ok (.ifCond .eq 8, 3) := by decide +kernel
theorem dX0_reshape_82 : decode cX0_reshape 82 = .ok (.iload 7, 2) := by decide +kernel
theorem dX0_reshape_84 : decode cX0_reshape 84 = .ok (.goto 4, 3) := by decide +kernel
theorem dX0_reshape_87 : decode cX0_reshape 87 = .ok (.iconst 0, 1) := by decide +kernel
theorem dX0_reshape_88 : decode cX0_reshape 88 = .ok (.invokevirtual 128, 3) := by decide +kernel
theorem dX0_reshape_91 : decode cX0_reshape 91 = .ok (.aload_n 0, 1) := by decide +kernel
theorem dX0_reshape_92 : decode cX0_reshape 92 = .ok (.getfield 18, 3) := by decide +kernel
theorem dX0_reshape_95 : decode cX0_reshape 95 = .ok (.aload_n 0, 1) := by decide +kernel
theorem dX0_reshape_96 : decode cX0_reshape 96 = .ok (.getfield 12, 3) := by decide +kernel
theorem dX0_reshape_99 : decode cX0_reshape 99 = .ok (.iload 6, 2) := by decide +kernel
theorem dX0_reshape_101 : decode cX0_reshape 101 = .ok (.invokevirtual 122, 3) := by decide +kernel
theorem dX0_reshape_104 : decode cX0_reshape 104 = .ok (.iload 4, 2) := by decide +kernel
theorem dX0_reshape_106 : decode cX0_reshape 106 = .ok (.iadd, 1) := by decide +kernel
theorem dX0_reshape_107 : decode cX0_reshape 107 = .ok (.iload_n 2, 1) := by decide +kernel
theorem dX0_reshape_108 : decode cX0_reshape 108 = .ok (.ifCond .eq 18, 3) := by decide +kernel
theorem dX0_reshape_111 : decode cX0_reshape 111 = .ok (.aload_n 0, 1) := by decide +kernel
theorem dX0_reshape_112 : decode cX0_reshape 112 = .ok (.getfield 12, 3) := by decide +kernel
theorem dX0_reshape_115 : decode cX0_reshape 115 = .ok (.iload 6, 2) := by decide +kernel
theorem dX0_reshape_117 : decode cX0_reshape 117 = .ok (.invokevirtual 125, 3) := by decide +kernel
theorem dX0_reshape_120 : decode cX0_reshape 120 = .ok (.iload 7, 2) := by decide +kernel
theorem dX0_reshape_122 : decode cX0_reshape 122 = .ok (.isub, 1) := by decide +kernel
theorem dX0_reshape_123 : decode cX0_reshape 123 = .ok (.goto 4, 3) := by decide +kernel
theorem dX0_reshape_126 : decode cX0_reshape 126 = .ok (.iconst 0, 1) := by decide +kernel
theorem dX0_reshape_127 : decode cX0_reshape 127 = .ok (.invokevirtual 128, 3) := by decide +kernel
theorem dX0_reshape_130 : decode cX0_reshape 130 = .ok (.iinc 6 1, 3) := by decide +kernel
theorem dX0_reshape_133 : decode cX0_reshape 133 = .ok (.goto (-105), 3) := by decide +kernel
theorem dX0_reshape_136 : decode cX0_reshape 136 = .ok (.aload_n 0, 1) := by decide +kernel
theorem dX0_reshape_137 : decode cX0_reshape 137 = .ok (.getfield 18, 3) := by decide +kernel
theorem dX0_reshape_140 : decode cX0_reshape 140 = .ok (.iload_n 1, 1) := by decide +kernel
theorem dX0_reshape_141 : decode cX0_reshape 141 = .ok (.ifCond .eq 13, 3) := by decide +kernel
theorem dX0_reshape_144 : decode cX0_reshape 144 = .ok (.aload_n 0, 1) := by decide +kernel
theorem dX0_reshape_145 : decode cX0_reshape 145 = .ok (.getfield 12, 3) := by decide +kernel
theorem dX0_reshape_148 : decode cX0_reshape 148 = .ok (.getfield 132, 3) := by decide +kernel
theorem dX0_reshape_151 : decode cX0_reshape 151 = .ok (.goto 4, 3) := by decide +kernel
theorem dX0_reshape_154 : decode cX0_reshape 154 = .ok (.iconst 0, 1) := by decide +kernel
theorem dX0_reshape_155 : decode cX0_reshape 155 = .ok (.putfield 132, 3) := by decide +kernel
theorem dX0_reshape_158 : decode cX0_reshape 158 = .ok (.aload_n 0, 1) := by decide +kernel
theorem dX0_reshape_159 : decode cX0_reshape 159 = .ok (.getfield 18, 3) := by decide +kernel
theorem dX0_reshape_162 : decode cX0_reshape 162 = .ok (.aload_n 0, 1) := by decide +kernel
theorem dX0_reshape_163 : decode cX0_reshape 163 = .ok (.getfield 12, 3) := by decide +kernel
theorem dX0_reshape_166 : decode cX0_reshape 166 = .ok (.getfield 109, 3) := by decide +kernel
theorem dX0_reshape_169 : decode cX0_reshape 169 = .ok (.putfield 109, 3) := by decide +kernel
theorem dX0_reshape_172 : decode cX0_reshape 172 = .ok (.aload_n 0, 1) := by decide +kernel
theorem dX0_reshape_173 : decode cX0_reshape 173 = .ok (.invokevirtual 139, 3) := by decide +kernel
theorem dX0_reshape_176 : decode cX0_reshape 176 = .ok (.return_, 1) := by decide +kernel
theorem dX0_swap_0 : decode cX0_swap 0 = .ok (.aload_n 0, 1) := by decide +kernel
theorem dX0_swap_1 : decode cX0_swap 1 = .ok (.getfield 18, 3) := by decide +kernel
theorem dX0_swap_4 : decode cX0_swap 4 = .ok (.astore_n 1, 1) := by decide +kernel
theorem dX0_swap_5 : decode cX0_swap 5 = .ok (.aload_n 0, 1) := by decide +kernel
theorem dX0_swap_6 : decode cX0_swap 6 = .ok (.aload_n 0, 1) := by decide +kernel
theorem dX0_swap_7 : decode cX0_swap 7 = .ok (.getfield 12, 3) := by decide +kernel
theorem dX0_swap_10 : decode cX0_swap 10 = .ok (.putfield 18, 3) := by decide +kernel
theorem dX0_swap_13 : decode cX0_swap 13 = .ok (.aload_n 0, 1) := by decide +kernel
theorem dX0_swap_14 : decode cX0_swap 14 = .ok (.aload_n 1, 1) := by decide +kernel
theorem dX0_swap_15 : decode cX0_swap 15 = .ok (.putfield 12, 3) := by decide +kernel
theorem dX0_swap_18 : decode cX0_swap 18 = .ok (.return_, 1) := by decide +kernel
theorem dX1_init_0 : decode cX1_init 0 = .ok (.aload_n 0, 1) := by decide +kernel
theorem dX1_init_1 : decode cX1_init 1 = .ok (.invokespecial 3, 3) := by decide +kernel
theorem dX1_init_4 : decode cX1_init 4 = .ok (.aload_n 0, 1) := by decide +kernel
theorem dX1_init_5 : decode cX1_init 5 = .ok (.iconst 0, 1) := by decide +kernel
theorem dX1_init_6 : decode cX1_init 6 = .ok (.anewarray 9, 3) := by decide +kernel
theorem dX1_init_9 : decode cX1_init 9 = .ok (.putfield 11, 3) := by decide +kernel
theorem dX1_init_12 : decode cX1_init 12 = .ok (.aload_n 0, 1) := by decide +kernel
theorem dX1_init_13 : decode cX1_init 13 = .ok (.iconst 0, 1) := by decide +kernel
theorem dX1_init_14 : decode cX1_init 14 = .ok (.putfield 17, 3) := by decide +kernel
theorem dX1_init_17 : decode cX1_init 17 = .ok (.return_, 1) := by decide +kernel
theorem dX1_stepAt_0 : decode cX1_stepAt 0 = .ok (.iload_n 1, 1) := by decide +kernel
theorem dX1_stepAt_1 : decode cX1_stepAt 1 = .ok (.ifCond .lt 29, 3) := by decide +kernel
theorem dX1_stepAt_4 : decode cX1_stepAt 4 = .ok (.iload_n 1, 1) := by decide +kernel
theorem dX1_stepAt_5 : decode cX1_stepAt 5 = .ok (.aload_n 0, 1) := by decide +kernel
theorem dX1_stepAt_6 : decode cX1_stepAt 6 = .ok (.getfield 17, 3) := by decide +kernel
theorem dX1_stepAt_9 : decode cX1_stepAt 9 = .ok (.if_icmp .ge 21, 3) := by decide +kernel
theorem dX1_stepAt_12 : decode cX1_stepAt 12 = .ok (.iload_n 1, 1) := by decide +kernel
theorem dX1_stepAt_13 : decode cX1_stepAt 13 = .ok (.aload_n 0, 1) := by decide +kernel
theorem dX1_stepAt_14 : decode cX1_stepAt 14 = .ok (.getfield 11, 3) := by decide +kernel
theorem dX1_stepAt_17 : decode cX1_stepAt 17 = .ok (.arraylength, 1) := by decide +kernel
theorem dX1_stepAt_18 : decode cX1_stepAt 18 = .ok (.if_icmp .ge 12, 3) := by decide +kernel
theorem dX1_stepAt_21 : decode cX1_stepAt 21 = .ok (.aload_n 0, 1) := by decide +kernel
theorem dX1_stepAt_22 : decode cX1_stepAt 22 = .ok (.getfield 11, 3) := by decide +kernel
theorem dX1_stepAt_25 : decode cX1_stepAt 25 = .ok (.iload_n 1, 1) := by decide +kernel
theorem dX1_stepAt_26 : decode cX1_stepAt 26 = .ok (.aaload, 1) := by decide +kernel
theorem dX1_stepAt_27 : decode cX1_stepAt 27 = .ok (.goto 4, 3) := by decide +kernel
theorem dX1_stepAt_30 : decode cX1_stepAt 30 = .ok (.aconst_null, 1) := by decide +kernel
theorem dX1_stepAt_31 : decode cX1_stepAt 31 = .ok (.areturn, 1) := by decide +kernel
theorem dX1_clear_0 : decode cX1_clear 0 = .ok (.aload_n 0, 1) := by decide +kernel
theorem dX1_clear_1 : decode cX1_clear 1 = .ok (.iconst 0, 1) := by decide +kernel
theorem dX1_clear_2 : decode cX1_clear 2 = .ok (.putfield 17, 3) := by decide +kernel
theorem dX1_clear_5 : decode cX1_clear 5 = .ok (.return_, 1) := by decide +kernel
theorem dX1_take_0 : decode cX1_take 0 = .ok (.aload_n 0, 1) := by decide +kernel
theorem dX1_take_1 : decode cX1_take 1 = .ok (.aload_n 1, 1) := by decide +kernel
theorem dX1_take_2 : decode cX1_take 2 = .ok (.getfield 17, 3) := by decide +kernel
theorem dX1_take_5 : decode cX1_take 5 = .ok (.invokevirtual 21, 3) := by decide +kernel
theorem dX1_take_8 : decode cX1_take 8 = .ok (.aload_n 0, 1) := by decide +kernel
theorem dX1_take_9 : decode cX1_take 9 = .ok (.aload_n 1, 1) := by decide +kernel
theorem dX1_take_10 : decode cX1_take 10 = .ok (.getfield 17, 3) := by decide +kernel
theorem dX1_take_13 : decode cX1_take 13 = .ok (.aload_n 0, 1) := by decide +kernel
theorem dX1_take_14 : decode cX1_take 14 = .ok (.getfield 11, 3) := by decide +kernel
theorem dX1_take_17 : decode cX1_take 17 = .ok (.arraylength, 1) := by decide +kernel
theorem dX1_take_18 : decode cX1_take 18 = .ok (.invokestatic 25, 3) := by decide +kernel
theorem dX1_take_21 : decode cX1_take 21 = .ok (.putfield 17, 3) := by decide +kernel
theorem dX1_take_24 : decode cX1_take 24 = .ok (.iconst 0, 1) := by decide +kernel
theorem dX1_take_25 : decode cX1_take 25 = .ok (.istore_n 2, 1) := by decide +kernel
theorem dX1_take_26 : decode cX1_take 26 = .ok (.iload_n 2, 1) := by decide +kernel
theorem dX1_take_27 : decode cX1_take 27 = .ok (.aload_n 0, 1) := by decide +kernel
theorem dX1_take_28 : decode cX1_take 28 = .ok (.getfield 17, 3) := by decide +kernel
theorem dX1_take_31 : decode cX1_take 31 = .ok (.if_icmp .ge 20, 3) := by decide +kernel
theorem dX1_take_34 : decode cX1_take 34 = .ok (.aload_n 0, 1) := by decide +kernel
theorem dX1_take_35 : decode cX1_take 35 = .ok (.getfield 11, 3) := by decide +kernel
theorem dX1_take_38 : decode cX1_take 38 = .ok (.iload_n 2, 1) := by decide +kernel
theorem dX1_take_39 : decode cX1_take 39 = .ok (.aload_n 1, 1) := by decide +kernel
theorem dX1_take_40 : decode cX1_take 40 = .ok (.iload_n 2, 1) := by decide +kernel
theorem dX1_take_41 : decode cX1_take 41 = .ok (.invokevirtual 31, 3) := by decide +kernel
theorem dX1_take_44 : decode cX1_take 44 = .ok (.aastore, 1) := by decide +kernel
theorem dX1_take_45 : decode cX1_take 45 = .ok (.iinc 2 1, 3) := by decide +kernel
theorem dX1_take_48 : decode cX1_take 48 = .ok (.goto (-22), 3) := by decide +kernel
theorem dX1_take_51 : decode cX1_take 51 = .ok (.return_, 1) := by decide +kernel
theorem dX1_insert_0 : decode cX1_insert 0 = .ok (.aload_n 0, 1) := by decide +kernel
theorem dX1_insert_1 : decode cX1_insert 1 = .ok (.aload_n 0, 1) := by decide +kernel
theorem dX1_insert_2 : decode cX1_insert 2 = .ok (.getfield 17, 3) := by decide +kernel
theorem dX1_insert_5 : decode cX1_insert 5 = .ok (.iconst 1, 1) := by decide +kernel
theorem dX1_insert_6 : decode cX1_insert 6 = .ok (.iadd, 1) := by decide +kernel
theorem dX1_insert_7 : decode cX1_insert 7 = .ok (.invokevirtual 21, 3) := by decide +kernel
theorem dX1_insert_10 : decode cX1_insert 10 = .ok (.iload_n 1, 1) := by decide +kernel
theorem dX1_insert_11 : decode cX1_insert 11 = .ok (.ifCond .lt 23, 3) := by decide +kernel
theorem dX1_insert_14 : decode cX1_insert 14 = .ok (.iload_n 1, 1) := by decide +kernel
theorem dX1_insert_15 : decode cX1_insert 15 = .ok (.aload_n 0, 1) := by decide +kernel
theorem dX1_insert_16 : decode cX1_insert 16 = .ok (.getfield 17, 3) := by decide +kernel
theorem dX1_insert_19 : decode cX1_insert 19 = .ok (.if_icmp .gt 15, 3) := by decide +kernel
theorem dX1_insert_22 : decode cX1_insert 22 = .ok (.aload_n 0, 1) := by decide +kernel
theorem dX1_insert_23 : decode cX1_insert 23 = .ok (.getfield 17, 3) := by decide +kernel
theorem dX1_insert_26 : decode cX1_insert 26 = .ok (.aload_n 0, 1) := by decide +kernel
theorem dX1_insert_27 : decode cX1_insert 27 = .ok (.getfield 11, 3) := by decide +kernel
theorem dX1_insert_30 : decode cX1_insert 30 = .ok (.arraylength, 1) := by decide +kernel
theorem dX1_insert_31 : decode cX1_insert 31 = .ok (.if_icmp .lt 4, 3) := by decide +kernel
theorem dX1_insert_34 : decode cX1_insert 34 = .ok (.return_, 1) := by decide +kernel
theorem dX1_insert_35 : decode cX1_insert 35 = .ok (.aload_n 0, 1) := by decide +kernel
theorem dX1_insert_36 : decode cX1_insert 36 = .ok (.getfield 17, 3) := by decide +kernel
theorem dX1_insert_39 : decode cX1_insert 39 = .ok (.istore_n 3, 1) := by decide +kernel
theorem dX1_insert_40 : decode cX1_insert 40 = .ok (.iload_n 3, 1) := by decide +kernel
theorem dX1_insert_41 : decode cX1_insert 41 = .ok (.iload_n 1, 1) := by decide +kernel
theorem dX1_insert_42 : decode cX1_insert 42 = .ok (.if_icmp .le 23, 3) := by decide +kernel
theorem dX1_insert_45 : decode cX1_insert 45 = .ok (.aload_n 0, 1) := by decide +kernel
theorem dX1_insert_46 : decode cX1_insert 46 = .ok (.getfield 11, 3) := by decide +kernel
theorem dX1_insert_49 : decode cX1_insert 49 = .ok (.iload_n 3, 1) := by decide +kernel
theorem dX1_insert_50 : decode cX1_insert 50 = .ok (.aload_n 0, 1) := by decide +kernel
theorem dX1_insert_51 : decode cX1_insert 51 = .ok (.getfield 11, 3) := by decide +kernel
theorem dX1_insert_54 : decode cX1_insert 54 = .ok (.iload_n 3, 1) := by decide +kernel
theorem dX1_insert_55 : decode cX1_insert 55 = .ok (.iconst 1, 1) := by decide +kernel
theorem dX1_insert_56 : decode cX1_insert 56 = .ok (.isub, 1) := by decide +kernel
theorem dX1_insert_57 : decode cX1_insert 57 = .ok (.aaload, 1) := by decide +kernel
theorem dX1_insert_58 : decode cX1_insert 58 = .ok (.aastore, 1) := by decide +kernel
theorem dX1_insert_59 : decode cX1_insert 59 = .ok (.iinc 3 (-1), 3) := by decide +kernel
theorem dX1_insert_62 : decode cX1_insert 62 = .ok (.goto (-22), 3) := by decide +kernel
theorem dX1_insert_65 : decode cX1_insert 65 = .ok (.aload_n 0, 1) := by decide +kernel
theorem dX1_insert_66 : decode cX1_insert 66 = .ok (.getfield 11, 3) := by decide +kernel
theorem dX1_insert_69 : decode cX1_insert 69 = .ok (.iload_n 1, 1) := by decide +kernel
theorem dX1_insert_70 : decode cX1_insert 70 = .ok (.aload_n 2, 1) := by decide +kernel
theorem dX1_insert_71 : decode cX1_insert 71 = .ok (.aastore, 1) := by decide +kernel
theorem dX1_insert_72 : decode cX1_insert 72 = .ok (.aload_n 0, 1) := by decide +kernel
theorem dX1_insert_73 : decode cX1_insert 73 = .ok (.dup, 1) := by decide +kernel
theorem dX1_insert_74 : decode cX1_insert 74 = .ok (.getfield 17, 3) := by decide +kernel
theorem dX1_insert_77 : decode cX1_insert 77 = .ok (.iconst 1, 1) := by decide +kernel
theorem dX1_insert_78 : decode cX1_insert 78 = .ok (.iadd, 1) := by decide +kernel
theorem dX1_insert_79 : decode cX1_insert 79 = .ok (.putfield 17, 3) := by decide +kernel
theorem dX1_insert_82 : decode cX1_insert 82 = .ok (.return_, 1) := by decide +kernel
theorem dX1_remove_0 : decode cX1_remove 0 = .ok (.iload_n 1, 1) := by decide +kernel
theorem dX1_remove_1 : decode cX1_remove 1 = .ok (.ifCond .lt 11, 3) := by decide +kernel
theorem dX1_remove_4 : decode cX1_remove 4 = .ok (.iload_n 1, 1) := by decide +kernel
theorem dX1_remove_5 : decode cX1_remove 5 = .ok (.aload_n 0, 1) := by decide +kernel
theorem dX1_remove_6 : decode cX1_remove 6 = .ok (.getfield 17, 3) := by decide +kernel
theorem dX1_remove_9 : decode cX1_remove 9 = .ok (.if_icmp .lt 4, 3) := by decide +kernel
theorem dX1_remove_12 : decode cX1_remove 12 = .ok (.return_, 1) := by decide +kernel
theorem dX1_remove_13 : decode cX1_remove 13 = .ok (.aload_n 0, 1) := by decide +kernel
theorem dX1_remove_14 : decode cX1_remove 14 = .ok (.dup, 1) := by decide +kernel
theorem dX1_remove_15 : decode cX1_remove 15 = .ok (.getfield 17, 3) := by decide +kernel
theorem dX1_remove_18 : decode cX1_remove 18 = .ok (.iconst 1, 1) := by decide +kernel
theorem dX1_remove_19 : decode cX1_remove 19 = .ok (.isub, 1) := by decide +kernel
theorem dX1_remove_20 : decode cX1_remove 20 = .ok (.putfield 17, 3) := by decide +kernel
theorem dX1_remove_23 : decode cX1_remove 23 = .ok (.iload_n 1, 1) := by decide +kernel
theorem dX1_remove_24 : decode cX1_remove 24 = .ok (.istore_n 2, 1) := by decide +kernel
theorem dX1_remove_25 : decode cX1_remove 25 = .ok (.iload_n 2, 1) := by decide +kernel
theorem dX1_remove_26 : decode cX1_remove 26 = .ok (.aload_n 0, 1) := by decide +kernel
theorem dX1_remove_27 : decode cX1_remove 27 = .ok (.getfield 17, 3) := by decide +kernel
theorem dX1_remove_30 : decode cX1_remove 30 = .ok (.if_icmp .ge 34, 3) := by decide +kernel
theorem dX1_remove_33 : decode cX1_remove 33 = .ok (.iload_n 2, 1) := by decide +kernel
theorem dX1_remove_34 : decode cX1_remove 34 = .ok (.iconst 1, 1) := by decide +kernel
theorem dX1_remove_35 : decode cX1_remove 35 = .ok (.iadd, 1) := by decide +kernel
theorem dX1_remove_36 : decode cX1_remove 36 = .ok (.aload_n 0, 1) := by decide +kernel
theorem dX1_remove_37 : decode cX1_remove 37 = .ok (.getfield 11, 3) := by decide +kernel
theorem dX1_remove_40 : decode cX1_remove 40 = .ok (.arraylength, 1) := by decide +kernel
theorem dX1_remove_41 : decode cX1_remove 41 = .ok (.if_icmp .ge 23, 3) := by decide +kernel
theorem dX1_remove_44 : decode cX1_remove 44 = .ok (.aload_n 0, 1) := by decide +kernel
theorem dX1_remove_45 : decode cX1_remove 45 = .ok (.getfield 11, 3) := by decide +kernel
theorem dX1_remove_48 : decode cX1_remove 48 = .ok (.iload_n 2, 1) := by decide +kernel
theorem dX1_remove_49 : decode cX1_remove 49 = .ok (.aload_n 0, 1) := by decide +kernel
theorem dX1_remove_50 : decode cX1_remove 50 = .ok (.getfield 11, 3) := by decide +kernel
theorem dX1_remove_53 : decode cX1_remove 53 = .ok (.iload_n 2, 1) := by decide +kernel
theorem dX1_remove_54 : decode cX1_remove 54 = .ok (.iconst 1, 1) := by decide +kernel
theorem dX1_remove_55 : decode cX1_remove 55 = .ok (.iadd, 1) := by decide +kernel
theorem dX1_remove_56 : decode cX1_remove 56 = .ok (.aaload, 1) := by decide +kernel
theorem dX1_remove_57 : decode cX1_remove 57 = .ok (.aastore, 1) := by decide +kernel
theorem dX1_remove_58 : decode cX1_remove 58 = .ok (.iinc 2 1, 3) := by decide +kernel
theorem dX1_remove_61 : decode cX1_remove 61 = .ok (.goto (-36), 3) := by decide +kernel
theorem dX1_remove_64 : decode cX1_remove 64 = .ok (.return_, 1) := by decide +kernel
theorem dX1_makeRoom_0 : decode cX1_makeRoom 0 = .ok (.iload_n 1, 1) := by decide +kernel
theorem dX1_makeRoom_1 : decode cX1_makeRoom 1 = .ok (.aload_n 0, 1) := by decide +kernel
theorem dX1_makeRoom_2 : decode cX1_makeRoom 2 = .ok (.getfield 11, 3) := by decide +kernel
theorem dX1_makeRoom_5 : decode cX1_makeRoom 5 = .ok (.arraylength, 1) := by decide +kernel
theorem dX1_makeRoom_6 : decode cX1_makeRoom 6 = .ok (.if_icmp .le 13, 3) := by decide +kernel
theorem dX1_makeRoom_9 : decode cX1_makeRoom 9 = .ok (.aload_n 0, 1) := by decide +kernel
theorem dX1_makeRoom_10 : decode cX1_makeRoom 10 = .ok (.getfield 11, 3) := by decide +kernel
theorem dX1_makeRoom_13 : decode cX1_makeRoom 13 = .ok (.arraylength, 1) := by decide +kernel
theorem dX1_makeRoom_14 : decode cX1_makeRoom 14 = .ok (.bipush 40, 2) := by decide +kernel
theorem dX1_makeRoom_16 : decode cX1_makeRoom 16 = .ok (.if_icmp .lt 4, 3) := by decide +kernel
theorem dX1_makeRoom_19 : decode cX1_makeRoom 19 = .ok (.return_, 1) := by decide +kernel
theorem dX1_makeRoom_20 : decode cX1_makeRoom 20 = .ok (.bipush 40, 2) := by decide +kernel
theorem dX1_makeRoom_22 : decode cX1_makeRoom 22 = .ok (.anewarray 9, 3) := by decide +kernel
theorem dX1_makeRoom_25 : decode cX1_makeRoom 25 = .ok (.astore_n 2, 1) := by decide +kernel
theorem dX1_makeRoom_26 : decode cX1_makeRoom 26 = .ok (.iconst 0, 1) := by decide +kernel
theorem dX1_makeRoom_27 : decode cX1_makeRoom 27 = .ok (.istore_n 3, 1) := by decide +kernel
theorem dX1_makeRoom_28 : decode cX1_makeRoom 28 = .ok (.iload_n 3, 1) := by decide +kernel
theorem dX1_makeRoom_29 : decode cX1_makeRoom 29 = .ok (.aload_n 0, 1) := by decide +kernel
theorem dX1_makeRoom_30 : decode cX1_makeRoom 30 = .ok (.getfield 17, 3) := by decide +kernel
theorem dX1_makeRoom_33 : decode cX1_makeRoom 33 = .ok (.if_icmp .ge 27, 3) := by decide +kernel
theorem dX1_makeRoom_36 : decode cX1_makeRoom 36 = .ok (.iload_n 3, 1) := by decide +kernel
theorem dX1_makeRoom_37 : decode cX1_makeRoom 37 = .ok (.aload_n 0, 1) := by decide +kernel
theorem dX1_makeRoom_38 : decode cX1_makeRoom 38 = .ok (.getfield 11, 3) := by decide +kernel
theorem dX1_makeRoom_41 : decode cX1_makeRoom 41 = .ok (.arraylength, 1) := by decide +kernel
theorem dX1_makeRoom_42 : decode cX1_makeRoom 42 = .ok (.if_icmp .ge 18, 3) := by decide +kernel
theorem dX1_makeRoom_45 : decode cX1_makeRoom 45 = .ok (.aload_n 2, 1) := by decide +kernel
theorem dX1_makeRoom_46 : decode cX1_makeRoom 46 = .ok (.iload_n 3, 1) := by decide +kernel
theorem dX1_makeRoom_47 : decode cX1_makeRoom 47 = .ok (.aload_n 0, 1) := by decide +kernel
theorem dX1_makeRoom_48 : decode cX1_makeRoom 48 = .ok (.getfield 11, 3) := by decide +kernel
theorem dX1_makeRoom_51 : decode cX1_makeRoom 51 = .ok (.iload_n 3, 1) := by decide +kernel
theorem dX1_makeRoom_52 : decode cX1_makeRoom 52 = .ok (.aaload, 1) := by decide +kernel
theorem dX1_makeRoom_53 : decode cX1_makeRoom 53 = .ok (.aastore, 1) := by decide +kernel
theorem dX1_makeRoom_54 : decode cX1_makeRoom 54 = .ok (.iinc 3 1, 3) := by decide +kernel
theorem dX1_makeRoom_57 : decode cX1_makeRoom 57 = .ok (.goto (-29), 3) := by decide +kernel
theorem dX1_makeRoom_60 : decode cX1_makeRoom 60 = .ok (.aload_n 0, 1) := by decide +kernel
theorem dX1_makeRoom_61 : decode cX1_makeRoom 61 = .ok (.aload_n 2, 1) := by decide +kernel
theorem dX1_makeRoom_62 : decode cX1_makeRoom 62 = .ok (.putfield 11, 3) := by decide +kernel
theorem dX1_makeRoom_65 : decode cX1_makeRoom 65 = .ok (.return_, 1) := by decide +kernel
theorem dX1_hasOnTop_0 : decode cX1_hasOnTop 0 = .ok (.iconst 0, 1) := by decide +kernel
theorem dX1_hasOnTop_1 : decode cX1_hasOnTop 1 = .ok (.istore_n 2, 1) := by decide +kernel
theorem dX1_hasOnTop_2 : decode cX1_hasOnTop 2 = .ok (.iload_n 2, 1) := by decide +kernel
theorem dX1_hasOnTop_3 : decode cX1_hasOnTop 3 = .ok (.aload_n 0, 1) := by decide +kernel
theorem dX1_hasOnTop_4 : decode cX1_hasOnTop 4 = .ok (.getfield 17, 3) := by decide +kernel
theorem dX1_hasOnTop_7 : decode cX1_hasOnTop 7 = .ok (.if_icmp .ge 38, 3) := by decide +kernel
theorem dX1_hasOnTop_10 : decode cX1_hasOnTop 10 = .ok (.aload_n 0, 1) := by decide +kernel
theorem dX1_hasOnTop_11 : decode cX1_hasOnTop 11 = .ok (.iload_n 2, 1) := by decide +kernel
theorem dX1_hasOnTop_12 : decode cX1_hasOnTop 12 = .ok (.invokevirtual 31, 3) := by decide +kernel
theorem dX1_hasOnTop_15 : decode cX1_hasOnTop 15 = .ok (.astore_n 3, 1) := by decide +kernel
theorem dX1_hasOnTop_16 : decode cX1_hasOnTop 16 = .ok (.aload_n 3, 1) := by decide +kernel
theorem dX1_hasOnTop_17 : decode cX1_hasOnTop 17 = .ok (.ifnull 22, 3) := by decide +kernel
theorem dX1_hasOnTop_20 : decode cX1_hasOnTop 20 = .ok (.aload_n 3, 1) := by decide +kernel
theorem dX1_hasOnTop_21 : decode cX1_hasOnTop 21 = .ok (.getfield 35, 3) := by decide +kernel
theorem dX1_hasOnTop_24 : decode cX1_hasOnTop 24 = .ok (.bipush 8, 2) := by decide +kernel
theorem dX1_hasOnTop_26 : decode cX1_hasOnTop 26 = .ok (.if_icmp .ne 13, 3) := by decide +kernel
theorem dX1_hasOnTop_29 : decode cX1_hasOnTop 29 = .ok (.aload_n 3, 1) := by decide +kernel
theorem dX1_hasOnTop_30 : decode cX1_hasOnTop 30 = .ok (.getfield 38, 3) := by decide +kernel
theorem dX1_hasOnTop_33 : decode cX1_hasOnTop 33 = .ok (.iload_n 1, 1) := by decide +kernel
theorem dX1_hasOnTop_34 : decode cX1_hasOnTop 34 = .ok (.if_icmp .ne 5, 3) := by decide +kernel
theorem dX1_hasOnTop_37 : decode cX1_hasOnTop 37 = .ok (.iconst 1, 1) := by decide +kernel
theorem dX1_hasOnTop_38 : decode cX1_hasOnTop 38 = .ok (.ireturn, 1) := by decide +kernel
theorem dX1_hasOnTop_39 : decode cX1_hasOnTop 39 = .ok (.iinc 2 1, 3) := by decide +kernel
theorem dX1_hasOnTop_42 : decode cX1_hasOnTop 42 = .ok (.goto (-40), 3) := by decide +kernel
theorem dX1_hasOnTop_45 : decode cX1_hasOnTop 45 = .ok (.iconst 0, 1) := by decide +kernel
theorem dX1_hasOnTop_46 : decode cX1_hasOnTop 46 = .ok (.ireturn, 1) := by decide +kernel
theorem dX2_init_0 : decode cX2_init 0 = .ok (.aload_n 0, 1) := by decide +kernel
theorem dX2_init_1 : decode cX2_init 1 = .ok (.invokespecial 5, 3) := by decide +kernel
theorem dX2_init_4 : decode cX2_init 4 = .ok (.aload_n 0, 1) := by decide +kernel
theorem dX2_init_5 : decode cX2_init 5 = .ok (.iconst 0, 1) := by decide +kernel
theorem dX2_init_6 : decode cX2_init 6 = .ok (.newarray .int, 2) := by decide +kernel
theorem dX2_init_8 : decode cX2_init 8 = .ok (.putfield 11, 3) := by decide +kernel
theorem dX2_init_11 : decode cX2_init 11 = .ok (.aload_n 0, 1) := by decide +kernel
theorem dX2_init_12 : decode cX2_init 12 = .ok (.iconst 0, 1) := by decide +kernel
theorem dX2_init_13 : decode cX2_init 13 = .ok (.putfield 15, 3) := by decide +kernel
theorem dX2_init_16 : decode cX2_init 16 = .ok (.aload_n 0, 1) := by decide +kernel
theorem dX2_init_17 : decode cX2_init 17 = .ok (.iconst 0, 1) := by decide +kernel
theorem dX2_init_18 : decode cX2_init 18 = .ok (.putfield 19, 3) := by decide +kernel
theorem dX2_init_21 : decode cX2_init 21 = .ok (.aload_n 0, 1) := by decide +kernel
theorem dX2_init_22 : decode cX2_init 22 = .ok (.iconst 0, 1) := by decide +kernel
theorem dX2_init_23 : decode cX2_init 23 = .ok (.putfield 22, 3) := by decide +kernel
theorem dX2_init_26 : decode cX2_init 26 = .ok (.aload_n 0, 1) := by decide +kernel
theorem dX2_init_27 : decode cX2_init 27 = .ok (.lconst 0, 1) := by decide +kernel
theorem dX2_init_28 : decode cX2_init 28 = .ok (.putfield 25, 3) := by decide +kernel
theorem dX2_init_31 : decode cX2_init 31 = .ok (.return_, 1) := by decide +kernel
theorem dX2_clear_0 : decode cX2_clear 0 = .ok (.iload_n 1, 1) := by decide +kernel
theorem dX2_clear_1 : decode cX2_clear 1 = .ok (.aload_n 0, 1) := by decide +kernel
theorem dX2_clear_2 : decode cX2_clear 2 = .ok (.getfield 11, 3) := by decide +kernel
theorem dX2_clear_5 : decode cX2_clear 5 = .ok (.arraylength, 1) := by decide +kernel
theorem dX2_clear_6 : decode cX2_clear 6 = .ok (.if_icmp .le 36, 3) := by decide +kernel
theorem dX2_clear_9 : decode cX2_clear 9 = .ok (.iload_n 1, 1) := by decide +kernel
theorem dX2_clear_10 : decode cX2_clear 10 = .ok (.bipush 48, 2) := by decide +kernel
theorem dX2_clear_12 : decode cX2_clear 12 = .ok (.if_icmp .le 9, 3) := by decide +kernel
theorem dX2_clear_15 : decode cX2_clear 15 = .ok (.sipush 480, 3) := by decide +kernel
theorem dX2_clear_18 : decode cX2_clear 18 = .ok (.goto 5, 3) := by decide +kernel
theorem dX2_clear_21 : decode cX2_clear 21 = .ok (.bipush 48, 2) := by decide +kernel
theorem dX2_clear_23 : decode cX2_clear 23 = .ok (.istore_n 2, 1) := by decide +kernel
theorem dX2_clear_24 : decode cX2_clear 24 = .ok (.aload_n 0, 1) := by decide +kernel
theorem dX2_clear_25 : decode cX2_clear 25 = .ok (.iload_n 1, 1) := by decide +kernel
theorem dX2_clear_26 : decode cX2_clear 26 = .ok (.iload_n 2, 1) := by decide +kernel
theorem dX2_clear_27 : decode cX2_clear 27 = .ok (.if_icmp .le 9, 3) := by decide +kernel
theorem dX2_clear_30 : decode cX2_clear 30 = .ok (.sipush 5001, 3) := by decide +kernel
theorem dX2_clear_33 : decode cX2_clear 33 = .ok (.goto 4, 3) := by decide +kernel
theorem dX2_clear_36 : decode cX2_clear 36 = .ok (.iload_n 2, 1) := by decide +kernel
theorem dX2_clear_37 : decode cX2_clear 37 = .ok (.newarray .int, 2) := by decide +kernel
theorem dX2_clear_39 : decode cX2_clear 39 = .ok (.putfield 11, 3) := by decide +kernel
theorem dX2_clear_42 : decode cX2_clear 42 = .ok (.aload_n 0, 1) := by decide +kernel
theorem dX2_clear_43 : decode cX2_clear 43 = .ok (.iconst 0, 1) := by decide +kernel
theorem dX2_clear_44 : decode cX2_clear 44 = .ok (.putfield 15, 3) := by decide +kernel
theorem dX2_clear_47 : decode cX2_clear 47 = .ok (.aload_n 0, 1) := by decide +kernel
theorem dX2_clear_48 : decode cX2_clear 48 = .ok (.iconst 0, 1) := by decide +kernel
theorem dX2_clear_49 : decode cX2_clear 49 = .ok (.putfield 19, 3) := by decide +kernel
theorem dX2_clear_52 : decode cX2_clear 52 = .ok (.aload_n 0, 1) := by decide +kernel
theorem dX2_clear_53 : decode cX2_clear 53 = .ok (.iconst 0, 1) := by decide +kernel
theorem dX2_clear_54 : decode cX2_clear 54 = .ok (.putfield 22, 3) := by decide +kernel
theorem dX2_clear_57 : decode cX2_clear 57 = .ok (.aload_n 0, 1) := by decide +kernel
theorem dX2_clear_58 : decode cX2_clear 58 = .ok (.lconst 0, 1) := by decide +kernel
theorem dX2_clear_59 : decode cX2_clear 59 = .ok (.putfield 25, 3) := by decide +kernel
theorem dX2_clear_62 : decode cX2_clear 62 = .ok (.return_, 1) := by decide +kernel
theorem dX2_placeOf_0 : decode cX2_placeOf 0 = .ok (.iload_n 1, 1) := by decide +kernel
theorem dX2_placeOf_1 : decode cX2_placeOf 1 = .ok (.ifCond .lt 32, 3) := by decide +kernel
theorem dX2_placeOf_4 : decode cX2_placeOf 4 = .ok (.iload_n 1, 1) := by decide +kernel
theorem dX2_placeOf_5 : decode cX2_placeOf 5 = .ok (.aload_n 0, 1) := by decide +kernel
theorem dX2_placeOf_6 : decode cX2_placeOf 6 = .ok (.getfield 15, 3) := by decide +kernel
theorem dX2_placeOf_9 : decode cX2_placeOf 9 = .ok (.if_icmp .ge 24, 3) := by decide +kernel
theorem dX2_placeOf_12 : decode cX2_placeOf 12 = .ok (.iload_n 1, 1) := by decide +kernel
theorem dX2_placeOf_13 : decode cX2_placeOf 13 = .ok (.aload_n 0, 1) := by decide +kernel
theorem dX2_placeOf_14 : decode cX2_placeOf 14 = .ok (.getfield 11, 3) := by decide +kernel
theorem dX2_placeOf_17 : decode cX2_placeOf 17 = .ok (.arraylength, 1) := by decide +kernel
theorem dX2_placeOf_18 : decode cX2_placeOf 18 = .ok (.if_icmp .ge 15, 3) := by decide +kernel
theorem dX2_placeOf_21 : decode cX2_placeOf 21 = .ok (.aload_n 0, 1) := by decide +kernel
theorem dX2_placeOf_22 : decode cX2_placeOf 22 = .ok (.getfield 11, 3) := by decide +kernel
theorem dX2_placeOf_25 : decode cX2_placeOf 25 = .ok (.iload_n 1, 1) := by decide +kernel
theorem dX2_placeOf_26 : decode cX2_placeOf 26 = .ok (.iaload, 1) := by decide +kernel
theorem dX2_placeOf_27 : decode cX2_placeOf 27 = .ok (.bipush 13, 2) := by decide +kernel
theorem dX2_placeOf_29 : decode cX2_placeOf 29 = .ok (.ishr, 1) := by decide +kernel
theorem dX2_placeOf_30 : decode cX2_placeOf 30 = .ok (.goto 4, 3) := by decide +kernel
theorem dX2_placeOf_33 : decode cX2_placeOf 33 = .ok (.iconst 0, 1) := by decide +kernel
theorem dX2_placeOf_34 : decode cX2_placeOf 34 = .ok (.ireturn, 1) := by decide +kernel
theorem dX2_weightOf_0 : decode cX2_weightOf 0 = .ok (.iload_n 1, 1) := by decide +kernel
theorem dX2_weightOf_1 : decode cX2_weightOf 1 = .ok (.ifCond .lt 33, 3) := by decide +kernel
theorem dX2_weightOf_4 : decode cX2_weightOf 4 = .ok (.iload_n 1, 1) := by decide +kernel
theorem dX2_weightOf_5 : decode cX2_weightOf 5 = .ok (.aload_n 0, 1) := by decide +kernel
theorem dX2_weightOf_6 : decode cX2_weightOf 6 = .ok (.getfield 15, 3) := by decide +kernel
theorem dX2_weightOf_9 : decode cX2_weightOf 9 = .ok (.if_icmp .ge 25, 3) := by decide +kernel
theorem dX2_weightOf_12 : decode cX2_weightOf 12 = .ok (.iload_n 1, 1) := by decide +kernel
theorem dX2_weightOf_13 : decode cX2_weightOf 13 = .ok (.aload_n 0, 1) := by decide +kernel
theorem dX2_weightOf_14 : decode cX2_weightOf 14 = .ok (.getfield 11, 3) := by decide +kernel
theorem dX2_weightOf_17 : decode cX2_weightOf 17 = .ok (.arraylength, 1) := by decide +kernel
theorem dX2_weightOf_18 : decode cX2_weightOf 18 = .ok (.if_icmp .ge 16, 3) := by decide +kernel
theorem dX2_weightOf_21 : decode cX2_weightOf 21 = .ok (.aload_n 0, 1) := by decide +kernel
theorem dX2_weightOf_22 : decode cX2_weightOf 22 = .ok (.getfield 11, 3) := by decide +kernel
theorem dX2_weightOf_25 : decode cX2_weightOf 25 = .ok (.iload_n 1, 1) := by decide +kernel
theorem dX2_weightOf_26 : decode cX2_weightOf 26 = .ok (.iaload, 1) := by decide +kernel
theorem dX2_weightOf_27 : decode cX2_weightOf 27 = .ok (.sipush 8191, 3) := by decide +kernel
theorem dX2_weightOf_30 : decode cX2_weightOf 30 = .ok (.iand, 1) := by decide +kernel
theorem dX2_weightOf_31 : decode cX2_weightOf 31 = .ok (.goto 4, 3) := by decide +kernel
theorem dX2_weightOf_34 : decode cX2_weightOf 34 = .ok (.iconst 0, 1) := by decide +kernel
theorem dX2_weightOf_35 : decode cX2_weightOf 35 = .ok (.ireturn, 1) := by decide +kernel
theorem dX2_append_0 : decode cX2_append 0 = .ok (.iload_n 2, 1) := by decide +kernel
theorem dX2_append_1 : decode cX2_append 1 = .ok (.ifCond .gt 4, 3) := by decide +kernel
theorem dX2_append_4 : decode cX2_append 4 = .ok (.return_, 1) := by decide +kernel
theorem dX2_append_5 : decode cX2_append 5 = .ok (.aload_n 0, 1) := by decide +kernel
theorem dX2_append_6 : decode cX2_append 6 = .ok (.getfield 15, 3) := by decide +kernel
theorem dX2_append_9 : decode cX2_append 9 = .ok (.ifCond .le 57, 3) := by decide +kernel
theorem dX2_append_12 : decode cX2_append 12 = .ok (.aload_n 0, 1) := by decide +kernel
theorem dX2_append_13 : decode cX2_append 13 = .ok (.getfield 15, 3) := by decide +kernel
theorem dX2_append_16 : decode cX2_append 16 = .ok (.aload_n 0, 1) := by decide +kernel
theorem dX2_append_17 : decode cX2_append 17 = .ok (.getfield 11, 3) := by decide +kernel
theorem dX2_append_20 : decode cX2_append 20 = .ok (.arraylength, 1) := by decide +kernel
theorem dX2_append_21 : decode cX2_append 21 = .ok (.if_icmp .gt 45, 3) := by decide +kernel
theorem dX2_append_24 : decode cX2_append 24 = .ok (.aload_n 0, 1) := by decide +kernel
theorem dX2_append_25 : decode cX2_append 25 = .ok (.aload_n 0, 1) := by decide +kernel
theorem dX2_append_26 : decode cX2_append 26 = .ok (.getfield 15, 3) := by decide +kernel
theorem dX2_append_29 : decode cX2_append 29 = .ok (.iconst 1, 1) := by decide +kernel
theorem dX2_append_30 : decode cX2_append 30 = .ok (.isub, 1) := by decide +kernel
theorem dX2_append_31 : decode cX2_append 31 = .ok (.invokevirtual 29, 3) := by decide +kernel
theorem dX2_append_34 : decode cX2_append 34 = .ok (.iload_n 1, 1) := by decide +kernel
theorem dX2_append_35 : decode cX2_append 35 = .ok (.if_icmp .ne 31, 3) := by decide +kernel
theorem dX2_append_38 : decode cX2_append 38 = .ok (.aload_n 0, 1) := by decide +kernel
theorem dX2_append_39 : decode cX2_append 39 = .ok (.getfield 11, 3) := by decide +kernel
theorem dX2_append_42 : decode cX2_append 42 = .ok (.aload_n 0, 1) := by decide +kernel
theorem dX2_append_43 : decode cX2_append 43 = .ok (.getfield 15, 3) := by decide +kernel
theorem dX2_append_46 : decode cX2_append 46 = .ok (.iconst 1, 1) := by decide +kernel
theorem dX2_append_47 : decode cX2_append 47 = .ok (.isub, 1) := by decide +kernel
theorem dX2_append_48 : decode cX2_append 48 = .ok (.dup2, 1) := by decide +kernel
theorem dX2_append_49 : decode cX2_append 49 = .ok (.iaload, 1) := by decide +kernel
theorem dX2_append_50 : decode cX2_append 50 = .ok (.iload_n 2, 1) := by decide +kernel
theorem dX2_append_51 : decode cX2_append 51 = .ok (.iadd, 1) := by decide +kernel
theorem dX2_append_52 : decode cX2_append 52 = .ok (.iastore, 1) := by decide +kernel
theorem dX2_append_53 : decode cX2_append 53 = .ok (.aload_n 0, 1) := by decide +kernel
theorem dX2_append_54 : decode cX2_append 54 = .ok (.dup, 1) := by decide +kernel
theorem dX2_append_55 : decode cX2_append 55 = .ok (.getfield 22, 3) := by decide +kernel
theorem dX2_append_58 : decode cX2_append 58 = .ok (.iload_n 2, 1) := by decide +kernel
theorem dX2_append_59 : decode cX2_append 59 = .ok (.iadd, 1) := by decide +kernel
theorem dX2_append_60 : decode cX2_append 60 = .ok (.putfield 22, 3) := by decide +kernel
theorem dX2_append_63 : decode cX2_append 63 = .ok (.goto 50, 3) := by decide +kernel
theorem dX2_append_66 : decode cX2_append 66 = .ok (.aload_n 0, 1) := by decide +kernel
theorem dX2_append_67 : decode cX2_append 67 = .ok (.getfield 15, 3) := by decide +kernel
theorem dX2_append_70 : decode cX2_append 70 = .ok (.aload_n 0, 1) := by decide +kernel
theorem dX2_append_71 : decode cX2_append 71 = .ok (.getfield 11, 3) := by decide +kernel
theorem dX2_append_74 : decode cX2_append 74 = .ok (.arraylength, 1) := by decide +kernel
theorem dX2_append_75 : decode cX2_append 75 = .ok (.if_icmp .ge 38, 3) := by decide +kernel
theorem dX2_append_78 : decode cX2_append 78 = .ok (.aload_n 0, 1) := by decide +kernel
theorem dX2_append_79 : decode cX2_append 79 = .ok (.getfield 11, 3) := by decide +kernel
theorem dX2_append_82 : decode cX2_append 82 = .ok (.aload_n 0, 1) := by decide +kernel
theorem dX2_append_83 : decode cX2_append 83 = .ok (.getfield 15, 3) := by decide +kernel
theorem dX2_append_86 : decode cX2_append 86 = .ok (.iload_n 1, 1) := by decide +kernel
theorem dX2_append_87 : decode cX2_append 87 = .ok (.bipush 13, 2) := by decide +kernel
theorem dX2_append_89 : decode cX2_append 89 = .ok (.ishl, 1) := by decide +kernel
theorem dX2_append_90 : decode cX2_append 90 = .ok (.iload_n 2, 1) := by decide +kernel
theorem dX2_append_91 : decode cX2_append 91 = .ok (.iadd, 1) := by decide +kernel
theorem dX2_append_92 : decode cX2_append 92 = .ok (.iastore, 1) := by decide +kernel
theorem dX2_append_93 : decode cX2_append 93 = .ok (.aload_n 0, 1) := by decide +kernel
theorem dX2_append_94 : decode cX2_append 94 = .ok (.dup, 1) := by decide +kernel
theorem dX2_append_95 : decode cX2_append 95 = .ok (.getfield 15, 3) := by decide +kernel
theorem dX2_append_98 : decode cX2_append 98 = .ok (.iconst 1, 1) := by decide +kernel
theorem dX2_append_99 : decode cX2_append 99 = .ok (.iadd, 1) := by decide +kernel
theorem dX2_append_100 : decode cX2_append 100 = .ok (.putfield 15, 3) := by decide +kernel
theorem dX2_append_103 : decode cX2_append 103 = .ok (.aload_n 0, 1) := by decide +kernel
theorem dX2_append_104 : decode cX2_append 104 = .ok (.dup, 1) := by decide +kernel
theorem dX2_append_105 : decode cX2_append 105 = .ok (.getfield 22, 3) := by decide +kernel
theorem dX2_append_108 : decode cX2_append 108 = .ok (.iload_n 2, 1) := by decide +kernel
theorem dX2_append_109 : decode cX2_append 109 = .ok (.iadd, 1) := by decide +kernel
theorem dX2_append_110 : decode cX2_append 110 = .ok (.putfield 22, 3) := by decide +kernel
theorem dX2_append_113 : decode cX2_append 113 = .ok (.return_, 1) := by decide +kernel
theorem dX2_becomeKink_0 : decode cX2_becomeKink 0 = .ok (.aload_n 0, 1) := by decide +kernel
