theorem dX0_init_0 : decode cX0_init 0 = .ok (.aload_n 0, 1) := by decide +kernel
theorem dX0_init_1 : decode cX0_init 1 = .ok (.invokespecial 3, 3) := by decide +kernel
theorem dX0_init_4 : decode cX0_init 4 = .ok (.aload_n 0, 1) := by decide +kernel
theorem dX0_init_5 : decode cX0_init 5 = .ok (.new 9, 3) := by decide +kernel
theorem dX0_init_8 : decode cX0_init 8 = .ok (.dup, 1) := by decide +kernel
theorem dX0_init_9 : decode cX0_init 9 = .ok (.invokespecial 11, 3) := by decide +kernel
theorem dX0_init_12 : decode cX0_init 12 = .ok (.putfield 12, 3) := by decide +kernel
theorem dX0_init_15 : decode cX0_init 15 = .ok (.aload_n 0, 1) := by decide +kernel
theorem dX0_init_16 : decode cX0_init 16 = .ok (.new 9, 3) := by decide +kernel
theorem dX0_init_19 : decode cX0_init 19 = .ok (.dup, 1) := by decide +kernel
theorem dX0_init_20 : decode cX0_init 20 = .ok (.invokespecial 11, 3) := by decide +kernel
theorem dX0_init_23 : decode cX0_init 23 = .ok (.putfield 18, 3) := by decide +kernel
theorem dX0_init_26 : decode cX0_init 26 = .ok (.aload_n 0, 1) := by decide +kernel
theorem dX0_init_27 : decode cX0_init 27 = .ok (.new 9, 3) := by decide +kernel
theorem dX0_init_30 : decode cX0_init 30 = .ok (.dup, 1) := by decide +kernel
theorem dX0_init_31 : decode cX0_init 31 = .ok (.invokespecial 11, 3) := by decide +kernel
theorem dX0_init_34 : decode cX0_init 34 = .ok (.putfield 21, 3) := by decide +kernel
theorem dX0_init_37 : decode cX0_init 37 = .ok (.aload_n 0, 1) := by decide +kernel
theorem dX0_init_38 : decode cX0_init 38 = .ok (.new 9, 3) := by decide +kernel
theorem dX0_init_41 : decode cX0_init 41 = .ok (.dup, 1) := by decide +kernel
theorem dX0_init_42 : decode cX0_init 42 = .ok (.invokespecial 11, 3) := by decide +kernel
theorem dX0_init_45 : decode cX0_init 45 = .ok (.putfield 24, 3) := by decide +kernel
theorem dX0_init_48 : decode cX0_init 48 = .ok (.aload_n 0, 1) := by decide +kernel
theorem dX0_init_49 : decode cX0_init 49 = .ok (.iconst (-1), 1) := by decide +kernel
theorem dX0_init_50 : decode cX0_init 50 = .ok (.putfield 27, 3) := by decide +kernel
theorem dX0_init_53 : decode cX0_init 53 = .ok (.return_, 1) := by decide +kernel
theorem dX0_startAnew_0 : decode cX0_startAnew 0 = .ok (.aload_n 0, 1) := by decide +kernel
theorem dX0_startAnew_1 : decode cX0_startAnew 1 = .ok (.getfield 12, 3) := by decide +kernel
theorem dX0_startAnew_4 : decode cX0_startAnew 4 = .ok (.iconst 0, 1) := by decide +kernel
theorem dX0_startAnew_5 : decode cX0_startAnew 5 = .ok (.invokevirtual 31, 3) := by decide +kernel
theorem dX0_startAnew_8 : decode cX0_startAnew 8 = .ok (.return_, 1) := by decide +kernel
theorem dX0_startWith_0 : decode cX0_startWith 0 = .ok (.aload_n 0, 1) := by decide +kernel
theorem dX0_startWith_1 : decode cX0_startWith 1 = .ok (.getfield 12, 3) := by decide +kernel
theorem dX0_startWith_4 : decode cX0_startWith 4 = .ok (.aload_n 1, 1) := by decide +kernel
theorem dX0_startWith_5 : decode cX0_startWith 5 = .ok (.invokevirtual 35, 3) := by decide +kernel
theorem dX0_startWith_8 : decode cX0_startWith 8 = .ok (.return_, 1) := by decide +kernel
theorem dX0_build_0 : decode cX0_build 0 = .ok (.aload_n 0, 1) := by decide +kernel
theorem dX0_build_1 : decode cX0_build 1 = .ok (.iconst (-1), 1) := by decide +kernel
theorem dX0_build_2 : decode cX0_build 2 = .ok (.putfield 27, 3) := by decide +kernel
theorem dX0_build_5 : decode cX0_build 5 = .ok (.aload_n 0, 1) := by decide +kernel
theorem dX0_build_6 : decode cX0_build 6 = .ok (.invokevirtual 39, 3) := by decide +kernel
theorem dX0_build_9 : decode cX0_build 9 = .ok (.iconst 0, 1) := by decide +kernel
theorem dX0_build_10 : decode cX0_build 10 = .ok (.istore_n 2, 1) := by decide +kernel
theorem dX0_build_11 : decode cX0_build 11 = .ok (.iload_n 2, 1) := by decide +kernel
theorem dX0_build_12 : decode cX0_build 12 = .ok (.aload_n 1, 1) := by decide +kernel
theorem dX0_build_13 : decode cX0_build 13 = .ok (.getfield 42, 3) := by decide +kernel
theorem dX0_build_16 : decode cX0_build 16 = .ok (.if_icmp .ge 28, 3) := by decide +kernel
theorem dX0_build_19 : decode cX0_build 19 = .ok (.aload_n 0, 1) := by decide +kernel
theorem dX0_build_20 : decode cX0_build 20 = .ok (.aload_n 1, 1) := by decide +kernel
theorem dX0_build_21 : decode cX0_build 21 = .ok (.iload_n 2, 1) := by decide +kernel
theorem dX0_build_22 : decode cX0_build 22 = .ok (.invokevirtual 47, 3) := by decide +kernel
theorem dX0_build_25 : decode cX0_build 25 = .ok (.invokevirtual 51, 3) := by decide +kernel
theorem dX0_build_28 : decode cX0_build 28 = .ok (.ifCond .ne 10, 3) := by decide +kernel
theorem dX0_build_31 : decode cX0_build 31 = .ok (.aload_n 0, 1) := by decide +kernel
theorem dX0_build_32 : decode cX0_build 32 = .ok (.iload_n 2, 1) := by decide +kernel
theorem dX0_build_33 : decode cX0_build 33 = .ok (.putfield 27, 3) := by decide +kernel
theorem dX0_build_36 : decode cX0_build 36 = .ok (.iconst 0, 1) := by decide +kernel
theorem dX0_build_37 : decode cX0_build 37 = .ok (.ireturn, 1) := by decide +kernel
theorem dX0_build_38 : decode cX0_build 38 = .ok (.iinc 2 1, 3) := by decide +kernel
theorem dX0_build_41 : decode cX0_build 41 = .ok (.goto (-30), 3) := by decide +kernel
theorem dX0_build_44 : decode cX0_build 44 = .ok (.iconst 1, 1) := by decide +kernel
theorem dX0_build_45 : decode cX0_build 45 = .ok (.ireturn, 1) := by decide +kernel
theorem dX0_standAhead_0 : decode cX0_standAhead 0 = .ok (.aload_n 0, 1) := by decide +kernel
theorem dX0_standAhead_1 : decode cX0_standAhead 1 = .ok (.invokevirtual 39, 3) := by decide +kernel
theorem dX0_standAhead_4 : decode cX0_standAhead 4 = .ok (.iconst 0, 1) := by decide +kernel
theorem dX0_standAhead_5 : decode cX0_standAhead 5 = .ok (.istore_n 3, 1) := by decide +kernel
theorem dX0_standAhead_6 : decode cX0_standAhead 6 = .ok (.iload_n 3, 1) := by decide +kernel
theorem dX0_standAhead_7 : decode cX0_standAhead 7 = .ok (.iload_n 2, 1) := by decide +kernel
theorem dX0_standAhead_8 : decode cX0_standAhead 8 = .ok (.if_icmp .ge 27, 3) := by decide +kernel
theorem dX0_standAhead_11 : decode cX0_standAhead 11 = .ok (.iload_n 3, 1) := by decide +kernel
theorem dX0_standAhead_12 : decode cX0_standAhead 12 = .ok (.aload_n 1, 1) := by decide +kernel
theorem dX0_standAhead_13 : decode cX0_standAhead 13 = .ok (.getfield 42, 3) := by decide +kernel
theorem dX0_standAhead_16 : decode cX0_standAhead 16 = .ok (.if_icmp .ge 19, 3) := by decide +kernel
theorem dX0_standAhead_19 : decode cX0_standAhead 19 = .ok (.aload_n 0, 1) := by decide +kernel
theorem dX0_standAhead_20 : decode cX0_standAhead 20 = .ok (.aload_n 1, 1) := by decide +kernel
theorem dX0_standAhead_21 : decode cX0_standAhead 21 = .ok (.iload_n 3, 1) := by decide +kernel
theorem dX0_standAhead_22 : decode cX0_standAhead 22 = .ok (.invokevirtual 47, 3) := by decide +kernel
theorem dX0_standAhead_25 : decode cX0_standAhead 25 = .ok (.invokevirtual 51, 3) := by decide +kernel
theorem dX0_standAhead_28 : decode cX0_standAhead 28 = .ok (.pop, 1) := by decide +kernel
theorem dX0_standAhead_29 : decode cX0_standAhead 29 = .ok (.iinc 3 1, 3) := by decide +kernel
theorem dX0_standAhead_32 : decode cX0_standAhead 32 = .ok (.goto (-26), 3) := by decide +kernel
theorem dX0_standAhead_35 : decode cX0_standAhead 35 = .ok (.aload_n 0, 1) := by decide +kernel
theorem dX0_standAhead_36 : decode cX0_standAhead 36 = .ok (.getfield 21, 3) := by decide +kernel
theorem dX0_standAhead_39 : decode cX0_standAhead 39 = .ok (.aload_n 0, 1) := by decide +kernel
theorem dX0_standAhead_40 : decode cX0_standAhead 40 = .ok (.getfield 12, 3) := by decide +kernel
theorem dX0_standAhead_43 : decode cX0_standAhead 43 = .ok (.invokevirtual 35, 3) := by decide +kernel
theorem dX0_standAhead_46 : decode cX0_standAhead 46 = .ok (.return_, 1) := by decide +kernel
theorem dX0_goThrough_0 : decode cX0_goThrough 0 = .ok (.aload_n 0, 1) := by decide +kernel
theorem dX0_goThrough_1 : decode cX0_goThrough 1 = .ok (.getfield 12, 3) := by decide +kernel
theorem dX0_goThrough_4 : decode cX0_goThrough 4 = .ok (.aload_n 0, 1) := by decide +kernel
theorem dX0_goThrough_5 : decode cX0_goThrough 5 = .ok (.getfield 21, 3) := by decide +kernel
theorem dX0_goThrough_8 : decode cX0_goThrough 8 = .ok (.invokevirtual 35, 3) := by decide +kernel
theorem dX0_goThrough_11 : decode cX0_goThrough 11 = .ok (.aload_n 1, 1) := by decide +kernel
theorem dX0_goThrough_12 : decode cX0_goThrough 12 = .ok (.iload_n 2, 1) := by decide +kernel
theorem dX0_goThrough_13 : decode cX0_goThrough 13 = .ok (.invokevirtual 47, 3) := by decide +kernel
theorem dX0_goThrough_16 : decode cX0_goThrough 16 = .ok (.astore 4, 2) := by decide +kernel
theorem dX0_goThrough_18 : decode cX0_goThrough 18 = .ok (.aload 4, 2) := by decide +kernel
theorem dX0_goThrough_20 : decode cX0_goThrough 20 = .ok (.ifnonnull 5, 3) := by decide +kernel
theorem dX0_goThrough_23 : decode cX0_goThrough 23 = .ok (.iconst 0, 1) := by decide +kernel
theorem dX0_goThrough_24 : decode cX0_goThrough 24 = .ok (.ireturn, 1) := by decide +kernel
theorem dX0_goThrough_25 : decode cX0_goThrough 25 = .ok (.iload_n 3, 1) := by decide +kernel
theorem dX0_goThrough_26 : decode cX0_goThrough 26 = .ok (.iconst (-1), 1) := by decide +kernel
theorem dX0_goThrough_27 : decode cX0_goThrough 27 = .ok (.if_icmp .eq 24, 3) := by decide +kernel
theorem dX0_goThrough_30 : decode cX0_goThrough 30 = .ok (.aload_n 0, 1) := by decide +kernel
theorem dX0_goThrough_31 : decode cX0_goThrough 31 = .ok (.aload 4, 2) := by decide +kernel
theorem dX0_goThrough_33 : decode cX0_goThrough 33 = .ok (.getfield 55, 3) := by decide +kernel
theorem dX0_goThrough_36 : decode cX0_goThrough 36 = .ok (.aload 4, 2) := by decide +kernel
theorem dX0_goThrough_38 : decode cX0_goThrough 38 = .ok (.getfield 60, 3) := by decide +kernel
theorem dX0_goThrough_41 : decode cX0_goThrough 41 = .ok (.iload_n 3, 1) := by decide +kernel
theorem dX0_goThrough_42 : decode cX0_goThrough 42 = .ok (.aconst_null, 1) := by decide +kernel
theorem dX0_goThrough_43 : decode cX0_goThrough 43 = .ok (.invokevirtual 63, 3) := by decide +kernel
theorem dX0_goThrough_46 : decode cX0_goThrough 46 = .ok (.ifCond .ne 5, 3) := by decide +kernel
theorem dX0_goThrough_49 : decode cX0_goThrough 49 = .ok (.iconst 0, 1) := by decide +kernel
theorem dX0_goThrough_50 : decode cX0_goThrough 50 = .ok (.ireturn, 1) := by decide +kernel
theorem dX0_goThrough_51 : decode cX0_goThrough 51 = .ok (.iload_n 2, 1) := by decide +kernel
theorem dX0_goThrough_52 : decode cX0_goThrough 52 = .ok (.iconst 1, 1) := by decide +kernel
theorem dX0_goThrough_53 : decode cX0_goThrough 53 = .ok (.iadd, 1) := by decide +kernel
theorem dX0_goThrough_54 : decode cX0_goThrough 54 = .ok (.istore 5, 2) := by decide +kernel
theorem dX0_goThrough_56 : decode cX0_goThrough 56 = .ok (.iload 5, 2) := by decide +kernel
theorem dX0_goThrough_58 : decode cX0_goThrough 58 = .ok (.aload_n 1, 1) := by decide +kernel
theorem dX0_goThrough_59 : decode cX0_goThrough 59 = .ok (.getfield 42, 3) := by decide +kernel
theorem dX0_goThrough_62 : decode cX0_goThrough 62 = .ok (.if_icmp .ge 24, 3) := by decide +kernel
theorem dX0_goThrough_65 : decode cX0_goThrough 65 = .ok (.aload_n 0, 1) := by decide +kernel
theorem dX0_goThrough_66 : decode cX0_goThrough 66 = .ok (.aload_n 1, 1) := by decide +kernel
theorem dX0_goThrough_67 : decode cX0_goThrough 67 = .ok (.iload 5, 2) := by decide +kernel
theorem dX0_goThrough_69 : decode cX0_goThrough 69 = .ok (.invokevirtual 47, 3) := by decide +kernel
theorem dX0_goThrough_72 : decode cX0_goThrough 72 = .ok (.invokevirtual 51, 3) := by decide +kernel
theorem dX0_goThrough_75 : decode cX0_goThrough 75 = .ok (.ifCond .ne 5, 3) := by decide +kernel
theorem dX0_goThrough_78 : decode cX0_goThrough 78 = .ok (.iconst 0, 1) := by decide +kernel
theorem dX0_goThrough_79 : decode cX0_goThrough 79 = .ok (.ireturn, 1) := by decide +kernel
theorem dX0_goThrough_80 : decode cX0_goThrough 80 = .ok (.iinc 5 1, 3) := by decide +kernel
theorem dX0_goThrough_83 : decode cX0_goThrough 83 = .ok (.goto (-27), 3) := by decide +kernel
theorem dX0_goThrough_86 : decode cX0_goThrough 86 = .ok (.iconst 1, 1) := by decide +kernel
theorem dX0_goThrough_87 : decode cX0_goThrough 87 = .ok (.ireturn, 1) := by decide +kernel
theorem dX0_costBy_0 : decode cX0_costBy 0 = .ok (.aload_n 1, 1) := by decide +kernel
theorem dX0_costBy_1 : decode cX0_costBy 1 = .ok (.getfield 55, 3) := by decide +kernel
theorem dX0_costBy_4 : decode cX0_costBy 4 = .ok (.tableswitch 121 0 8 #[52, 69, 87, 121, 121, 121, 121, 105, 111], 52) := by decide +kernel
theorem dX0_costBy_56 : decode cX0_costBy 56 = .ok (.aload_n 1, 1) := by decide +kernel
theorem dX0_costBy_57 : decode cX0_costBy 57 = .ok (.getfield 67, 3) := by decide +kernel
theorem dX0_costBy_60 : decode cX0_costBy 60 = .ok (.i2l, 1) := by decide +kernel
theorem dX0_costBy_61 : decode cX0_costBy 61 = .ok (.iload_n 2, 1) := by decide +kernel
theorem dX0_costBy_62 : decode cX0_costBy 62 = .ok (.aload_n 1, 1) := by decide +kernel
theorem dX0_costBy_63 : decode cX0_costBy 63 = .ok (.getfield 60, 3) := by decide +kernel
theorem dX0_costBy_66 : decode cX0_costBy 66 = .ok (.isub, 1) := by decide +kernel
theorem dX0_costBy_67 : decode cX0_costBy 67 = .ok (.invokestatic 70, 3) := by decide +kernel
theorem dX0_costBy_70 : decode cX0_costBy 70 = .ok (.i2l, 1) := by decide +kernel
theorem dX0_costBy_71 : decode cX0_costBy 71 = .ok (.lmul, 1) := by decide +kernel
theorem dX0_costBy_72 : decode cX0_costBy 72 = .ok (.lreturn, 1) := by decide +kernel
theorem dX0_costBy_73 : decode cX0_costBy 73 = .ok (.aload_n 1, 1) := by decide +kernel
theorem dX0_costBy_74 : decode cX0_costBy 74 = .ok (.getfield 67, 3) := by decide +kernel
theorem dX0_costBy_77 : decode cX0_costBy 77 = .ok (.i2l, 1) := by decide +kernel
theorem dX0_costBy_78 : decode cX0_costBy 78 = .ok (.iload_n 2, 1) := by decide +kernel
theorem dX0_costBy_79 : decode cX0_costBy 79 = .ok (.aload_n 1, 1) := by decide +kernel
theorem dX0_costBy_80 : decode cX0_costBy 80 = .ok (.getfield 60, 3) := by decide +kernel
theorem dX0_costBy_83 : decode cX0_costBy 83 = .ok (.isub, 1) := by decide +kernel
theorem dX0_costBy_84 : decode cX0_costBy 84 = .ok (.iconst 0, 1) := by decide +kernel
theorem dX0_costBy_85 : decode cX0_costBy 85 = .ok (.invokestatic 76, 3) := by decide +kernel
theorem dX0_costBy_88 : decode cX0_costBy 88 = .ok (.i2l, 1) := by decide +kernel
theorem dX0_costBy_89 : decode cX0_costBy 89 = .ok (.lmul, 1) := by decide +kernel
theorem dX0_costBy_90 : decode cX0_costBy 90 = .ok (.lreturn, 1) := by decide +kernel
theorem dX0_costBy_91 : decode cX0_costBy 91 = .ok (.aload_n 1, 1) := by decide +kernel
theorem dX0_costBy_92 : decode cX0_costBy 92 = .ok (.getfield 67, 3) := by decide +kernel
theorem dX0_costBy_95 : decode cX0_costBy 95 = .ok (.i2l, 1) := by decide +kernel
theorem dX0_costBy_96 : decode cX0_costBy 96 = .ok (.aload_n 1, 1) := by decide +kernel
theorem dX0_costBy_97 : decode cX0_costBy 97 = .ok (.getfield 60, 3) := by decide +kernel
theorem dX0_costBy_100 : decode cX0_costBy 100 = .ok (.iload_n 2, 1) := by decide +kernel
theorem dX0_costBy_101 : decode cX0_costBy 101 = .ok (.isub, 1) := by decide +kernel
theorem dX0_costBy_102 : decode cX0_costBy 102 = .ok (.iconst 0, 1) := by decide +kernel
theorem dX0_costBy_103 : decode cX0_costBy 103 = .ok (.invokestatic 76, 3) := by decide +kernel
theorem dX0_costBy_106 : decode cX0_costBy 106 = .ok (.i2l, 1) := by decide +kernel
theorem dX0_costBy_107 : decode cX0_costBy 107 = .ok (.lmul, 1) := by decide +kernel
theorem dX0_costBy_108 : decode cX0_costBy 108 = .ok (.lreturn, 1) := by decide +kernel
theorem dX0_costBy_109 : decode cX0_costBy 109 = .ok (.aload_n 1, 1) := by decide +kernel
theorem dX0_costBy_110 : decode cX0_costBy 110 = .ok (.getfield 60, 3) := by decide +kernel
theorem dX0_costBy_113 : decode cX0_costBy 113 = .ok (.i2l, 1) := by decide +kernel
theorem dX0_costBy_114 : decode cX0_costBy 114 = .ok (.lreturn, 1) := by decide +kernel
theorem dX0_costBy_115 : decode cX0_costBy 115 = .ok (.aload_n 0, 1) := by decide +kernel
theorem dX0_costBy_116 : decode cX0_costBy 116 = .ok (.aload_n 1, 1) := by decide +kernel
theorem dX0_costBy_117 : decode cX0_costBy 117 = .ok (.getfield 80, 3) := by decide +kernel
theorem dX0_costBy_120 : decode cX0_costBy 120 = .ok (.iload_n 2, 1) := by decide +kernel
theorem dX0_costBy_121 : decode cX0_costBy 121 = .ok (.invokevirtual 84, 3) := by decide +kernel
theorem dX0_costBy_124 : decode cX0_costBy 124 = .ok (.lreturn, 1) := by decide +kernel
theorem dX0_costBy_125 : decode cX0_costBy 125 = .ok (.lconst 0, 1) := by decide +kernel
theorem dX0_costBy_126 : decode cX0_costBy 126 = .ok (.lreturn, 1) := by decide +kernel
theorem dX0_costOnTop_0 : decode cX0_costOnTop 0 = .ok (.aload_n 1, 1) := by decide +kernel
theorem dX0_costOnTop_1 : decode cX0_costOnTop 1 = .ok (.ifnonnull 5, 3) := by decide +kernel
theorem dX0_costOnTop_4 : decode cX0_costOnTop 4 = .ok (.lconst 0, 1) := by decide +kernel
theorem dX0_costOnTop_5 : decode cX0_costOnTop 5 = .ok (.lreturn, 1) := by decide +kernel
theorem dX0_costOnTop_6 : decode cX0_costOnTop 6 = .ok (.aload_n 1, 1) := by decide +kernel
theorem dX0_costOnTop_7 : decode cX0_costOnTop 7 = .ok (.aload_n 0, 1) := by decide +kernel
theorem dX0_costOnTop_8 : decode cX0_costOnTop 8 = .ok (.getfield 24, 3) := by decide +kernel
theorem dX0_costOnTop_11 : decode cX0_costOnTop 11 = .ok (.invokevirtual 88, 3) := by decide +kernel
theorem dX0_costOnTop_14 : decode cX0_costOnTop 14 = .ok (.aload_n 0, 1) := by decide +kernel
theorem dX0_costOnTop_15 : decode cX0_costOnTop 15 = .ok (.getfield 24, 3) := by decide +kernel
theorem dX0_costOnTop_18 : decode cX0_costOnTop 18 = .ok (.iload_n 2, 1) := by decide +kernel
theorem dX0_costOnTop_19 : decode cX0_costOnTop 19 = .ok (.invokevirtual 93, 3) := by decide +kernel
theorem dX0_costOnTop_22 : decode cX0_costOnTop 22 = .ok (.lreturn, 1) := by decide +kernel
theorem dX0_applyIfNotTooMuch_0 : decode cX0_applyIfNotTooMuch 0 = .ok (.aload_n 0, 1) := by decide +kernel
theorem dX0_applyIfNotTooMuch_1 : decode cX0_applyIfNotTooMuch 1 = .ok (.getfield 21, 3) := by decide +kernel
theorem dX0_applyIfNotTooMuch_4 : decode cX0_applyIfNotTooMuch 4 = .ok (.aload_n 0, 1) := by decide +kernel
theorem dX0_applyIfNotTooMuch_5 : decode cX0_applyIfNotTooMuch 5 = .ok (.getfield 12, 3) := by decide +kernel
theorem dX0_applyIfNotTooMuch_8 : decode cX0_applyIfNotTooMuch 8 = .ok (.invokevirtual 35, 3) := by decide +kernel
theorem dX0_applyIfNotTooMuch_11 : decode cX0_applyIfNotTooMuch 11 = .ok (.aload_n 0, 1) := by decide +kernel
theorem dX0_applyIfNotTooMuch_12 : decode cX0_applyIfNotTooMuch 12 = .ok (.iload_n 1, 1) := by decide +kernel
theorem dX0_applyIfNotTooMuch_13 : decode cX0_applyIfNotTooMuch 13 = .ok (.iload_n 2, 1) := by decide +kernel
theorem dX0_applyIfNotTooMuch_14 : decode cX0_applyIfNotTooMuch 14 = .ok (.iload_n 3, 1) := by decide +kernel
theorem dX0_applyIfNotTooMuch_15 : decode cX0_applyIfNotTooMuch 15 = .ok (.aconst_null, 1) := by decide +kernel
theorem dX0_applyIfNotTooMuch_16 : decode cX0_applyIfNotTooMuch 16 = .ok (.invokevirtual 63, 3) := by decide +kernel
theorem dX0_applyIfNotTooMuch_19 : decode cX0_applyIfNotTooMuch 19 = .ok (.ifCond .ne 14, 3) := by decide +kernel
theorem dX0_applyIfNotTooMuch_22 : decode cX0_applyIfNotTooMuch 22 = .ok (.aload_n 0, 1) := by decide +kernel
theorem dX0_applyIfNotTooMuch_23 : decode cX0_applyIfNotTooMuch 23 = .ok (.getfield 12, 3) := by decide +kernel
theorem dX0_applyIfNotTooMuch_26 : decode cX0_applyIfNotTooMuch 26 = .ok (.aload_n 0, 1) := by decide +kernel
theorem dX0_applyIfNotTooMuch_27 : decode cX0_applyIfNotTooMuch 27 = .ok (.getfield 21, 3) := by decide +kernel
theorem dX0_applyIfNotTooMuch_30 : decode cX0_applyIfNotTooMuch 30 = .ok (.invokevirtual 35, 3) := by decide +kernel
theorem dX0_applyIfNotTooMuch_33 : decode cX0_applyIfNotTooMuch 33 = .ok (.return_, 1) := by decide +kernel
theorem dX0_applyStep_0 : decode cX0_applyStep 0 = .ok (.aload_n 1, 1) := by decide +kernel
theorem dX0_applyStep_1 : decode cX0_applyStep 1 = .ok (.ifnull 30, 3) := by decide +kernel
theorem dX0_applyStep_4 : decode cX0_applyStep 4 = .ok (.aload_n 0, 1) := by decide +kernel
theorem dX0_applyStep_5 : decode cX0_applyStep 5 = .ok (.aload_n 1, 1) := by decide +kernel
theorem dX0_applyStep_6 : decode cX0_applyStep 6 = .ok (.getfield 55, 3) := by decide +kernel
theorem dX0_applyStep_9 : decode cX0_applyStep 9 = .ok (.aload_n 1, 1) := by decide +kernel
theorem dX0_applyStep_10 : decode cX0_applyStep 10 = .ok (.getfield 60, 3) := by decide +kernel
theorem dX0_applyStep_13 : decode cX0_applyStep 13 = .ok (.aload_n 1, 1) := by decide +kernel
theorem dX0_applyStep_14 : decode cX0_applyStep 14 = .ok (.getfield 67, 3) := by decide +kernel
theorem dX0_applyStep_17 : decode cX0_applyStep 17 = .ok (.aload_n 1, 1) := by decide +kernel
theorem dX0_applyStep_18 : decode cX0_applyStep 18 = .ok (.getfield 80, 3) := by decide +kernel
theorem dX0_applyStep_21 : decode cX0_applyStep 21 = .ok (.invokevirtual 63, 3) := by decide +kernel
theorem dX0_applyStep_24 : decode cX0_applyStep 24 = .ok (.ifCond .eq 7, 3) := by decide +kernel
theorem dX0_applyStep_27 : decode cX0_applyStep 27 = .ok (.iconst 1, 1) := by decide +kernel
theorem dX0_applyStep_28 : decode cX0_applyStep 28 = .ok (.goto 4, 3) := by decide +kernel
theorem dX0_applyStep_31 : decode cX0_applyStep 31 = .ok (.iconst 0, 1) := by decide +kernel
theorem dX0_applyStep_32 : decode cX0_applyStep 32 = .ok (.ireturn, 1) := by decide +kernel
theorem dX0_apply_0 : decode cX0_apply 0 = .ok (.iload_n 1, 1) := by decide +kernel
theorem dX0_apply_1 : decode cX0_apply 1 = .ok (.tableswitch 179 0 8 #[51, 68, 83, 98, 110, 121, 132, 143, 160], 51) := by decide +kernel
theorem dX0_apply_52 : decode cX0_apply 52 = .ok (.aload_n 0, 1) := by decide +kernel
theorem dX0_apply_53 : decode cX0_apply 53 = .ok (.getfield 24, 3) := by decide +kernel
theorem dX0_apply_56 : decode cX0_apply 56 = .ok (.iload_n 2, 1) := by decide +kernel
theorem dX0_apply_57 : decode cX0_apply 57 = .ok (.iconst 2, 1) := by decide +kernel
theorem dX0_apply_58 : decode cX0_apply 58 = .ok (.iload_n 3, 1) := by decide +kernel
theorem dX0_apply_59 : decode cX0_apply 59 = .ok (.imul, 1) := by decide +kernel
theorem dX0_apply_60 : decode cX0_apply 60 = .ok (.iload_n 3, 1) := by decide +kernel
theorem dX0_apply_61 : decode cX0_apply 61 = .ok (.invokevirtual 97, 3) := by decide +kernel
theorem dX0_apply_64 : decode cX0_apply 64 = .ok (.aload_n 0, 1) := by decide +kernel
theorem dX0_apply_65 : decode cX0_apply 65 = .ok (.invokevirtual 101, 3) := by decide +kernel
theorem dX0_apply_68 : decode cX0_apply 68 = .ok (.ireturn, 1) := by decide +kernel
theorem dX0_apply_69 : decode cX0_apply 69 = .ok (.aload_n 0, 1) := by decide +kernel
theorem dX0_apply_70 : decode cX0_apply 70 = .ok (.getfield 24, 3) := by decide +kernel
theorem dX0_apply_73 : decode cX0_apply 73 = .ok (.iload_n 2, 1) := by decide +kernel
theorem dX0_apply_74 : decode cX0_apply 74 = .ok (.iload_n 3, 1) := by decide +kernel
theorem dX0_apply_75 : decode cX0_apply 75 = .ok (.iconst 0, 1) := by decide +kernel
theorem dX0_apply_76 : decode cX0_apply 76 = .ok (.invokevirtual 97, 3) := by decide +kernel
theorem dX0_apply_79 : decode cX0_apply 79 = .ok (.aload_n 0, 1) := by decide +kernel
theorem dX0_apply_80 : decode cX0_apply 80 = .ok (.invokevirtual 101, 3) := by decide +kernel
theorem dX0_apply_83 : decode cX0_apply 83 = .ok (.ireturn, 1) := by decide +kernel
theorem dX0_apply_84 : decode cX0_apply 84 = .ok (.aload_n 0, 1) := by decide +kernel
theorem dX0_apply_85 : decode cX0_apply 85 = .ok (.getfield 24, 3) := by decide +kernel
theorem dX0_apply_88 : decode cX0_apply 88 = .ok (.iload_n 2, 1) := by decide +kernel
theorem dX0_apply_89 : decode cX0_apply 89 = .ok (.iload_n 3, 1) := by decide +kernel
theorem dX0_apply_90 : decode cX0_apply 90 = .ok (.iload_n 3, 1) := by decide +kernel
theorem dX0_apply_91 : decode cX0_apply 91 = .ok (.invokevirtual 97, 3) := by decide +kernel
theorem dX0_apply_94 : decode cX0_apply 94 = .ok (.aload_n 0, 1) := by decide +kernel
theorem dX0_apply_95 : decode cX0_apply 95 = .ok (.invokevirtual 101, 3) := by decide +kernel
theorem dX0_apply_98 : decode cX0_apply 98 = .ok (.ireturn, 1) := by decide +kernel
theorem dX0_apply_99 : decode cX0_apply 99 = .ok (.aload_n 0, 1) := by decide +kernel
theorem dX0_apply_100 : decode cX0_apply 100 = .ok (.iconst 1, 1) := by decide +kernel
theorem dX0_apply_101 : decode cX0_apply 101 = .ok (.iconst 1, 1) := by decide +kernel
theorem dX0_apply_102 : decode cX0_apply 102 = .ok (.iload_n 2, 1) := by decide +kernel
theorem dX0_apply_103 : decode cX0_apply 103 = .ok (.ineg, 1) := by decide +kernel
theorem dX0_apply_104 : decode cX0_apply 104 = .ok (.iload_n 2, 1) := by decide +kernel
theorem dX0_apply_105 : decode cX0_apply 105 = .ok (.invokevirtual 105, 3) := by decide +kernel
theorem dX0_apply_108 : decode cX0_apply 108 = .ok (.goto 72, 3) := by decide +kernel
theorem dX0_apply_111 : decode cX0_apply 111 = .ok (.aload_n 0, 1) := by decide +kernel
theorem dX0_apply_112 : decode cX0_apply 112 = .ok (.iconst 1, 1) := by decide +kernel
theorem dX0_apply_113 : decode cX0_apply 113 = .ok (.iconst 1, 1) := by decide +kernel
theorem dX0_apply_114 : decode cX0_apply 114 = .ok (.iload_n 2, 1) := by decide +kernel
theorem dX0_apply_115 : decode cX0_apply 115 = .ok (.iload_n 3, 1) := by decide +kernel
theorem dX0_apply_116 : decode cX0_apply 116 = .ok (.invokevirtual 105, 3) := by decide +kernel
theorem dX0_apply_119 : decode cX0_apply 119 = .ok (.goto 61, 3) := by decide +kernel
theorem dX0_apply_122 : decode cX0_apply 122 = .ok (.aload_n 0, 1) := by decide +kernel
theorem dX0_apply_123 : decode cX0_apply 123 = .ok (.iconst 1, 1) := by decide +kernel
theorem dX0_apply_124 : decode cX0_apply 124 = .ok (.iconst 0, 1) := by decide +kernel
theorem dX0_apply_125 : decode cX0_apply 125 = .ok (.iconst 0, 1) := by decide +kernel
theorem dX0_apply_126 : decode cX0_apply 126 = .ok (.iconst 0, 1) := by decide +kernel
theorem dX0_apply_127 : decode cX0_apply 127 = .ok (.invokevirtual 105, 3) := by decide +kernel
theorem dX0_apply_130 : decode cX0_apply 130 = .ok (.goto 50, 3) := by decide +kernel
theorem dX0_apply_133 : decode cX0_apply 133 = .ok (.aload_n 0, 1) := by decide +kernel
theorem dX0_apply_134 : decode cX0_apply 134 = .ok (.iconst 0, 1) := by decide +kernel
theorem dX0_apply_135 : decode cX0_apply 135 = .ok (.iconst 1, 1) := by decide +kernel
theorem dX0_apply_136 : decode cX0_apply 136 = .ok (.iconst 0, 1) := by decide +kernel
theorem dX0_apply_137 : decode cX0_apply 137 = .ok (.iconst 0, 1) := by decide +kernel
theorem dX0_apply_138 : decode cX0_apply 138 = .ok (.invokevirtual 105, 3) := by decide +kernel
theorem dX0_apply_141 : decode cX0_apply 141 = .ok (.goto 39, 3) := by decide +kernel
theorem dX0_apply_144 : decode cX0_apply 144 = .ok (.aload_n 0, 1) := by decide +kernel
theorem dX0_apply_145 : decode cX0_apply 145 = .ok (.getfield 12, 3) := by decide +kernel
theorem dX0_apply_148 : decode cX0_apply 148 = .ok (.dup, 1) := by decide +kernel
theorem dX0_apply_149 : decode cX0_apply 149 = .ok (.getfield 109, 3) := by decide +kernel
theorem dX0_apply_152 : decode cX0_apply 152 = .ok (.iload_n 2, 1) := by decide +kernel
theorem dX0_apply_153 : decode cX0_apply 153 = .ok (.i2l, 1) := by decide +kernel
theorem dX0_apply_154 : decode cX0_apply 154 = .ok (.ladd, 1) := by decide +kernel
theorem dX0_apply_155 : decode cX0_apply 155 = .ok (.putfield 109, 3) := by decide +kernel
theorem dX0_apply_158 : decode cX0_apply 158 = .ok (.goto 22, 3) := by decide +kernel
theorem dX0_apply_161 : decode cX0_apply 161 = .ok (.aload 4, 2) := by decide +kernel
theorem dX0_apply_163 : decode cX0_apply 163 = .ok (.ifnull 17, 3) := by decide +kernel
theorem dX0_apply_166 : decode cX0_apply 166 = .ok (.aload 4, 2) := by decide +kernel
theorem dX0_apply_168 : decode cX0_apply 168 = .ok (.aload_n 0, 1) := by decide +kernel
theorem dX0_apply_169 : decode cX0_apply 169 = .ok (.getfield 24, 3) := by decide +kernel
theorem dX0_apply_172 : decode cX0_apply 172 = .ok (.invokevirtual 88, 3) := by decide +kernel
theorem dX0_apply_175 : decode cX0_apply 175 = .ok (.aload_n 0, 1) := by decide +kernel
theorem dX0_apply_176 : decode cX0_apply 176 = .ok (.invokevirtual 101, 3) := by decide +kernel
theorem dX0_apply_179 : decode cX0_apply 179 = .ok (.ireturn, 1) := by decide +kernel
theorem dX0_apply_180 : decode cX0_apply 180 = .ok (.aload_n 0, 1) := by decide +kernel
theorem dX0_apply_181 : decode cX0_apply 181 = .ok (.getfield 12, 3) := by decide +kernel
theorem dX0_apply_184 : decode cX0_apply 184 = .ok (.invokevirtual 113, 3) := by decide +kernel
theorem dX0_apply_187 : decode cX0_apply 187 = .ok (.ifCond .ne 7, 3) := by decide +kernel
theorem dX0_apply_190 : decode cX0_apply 190 = .ok (.iconst 1, 1) := by decide +kernel
theorem dX0_apply_191 : decode cX0_apply 191 = .ok (.goto 4, 3) := by decide +kernel
theorem dX0_apply_194 : decode cX0_apply 194 = .ok (.iconst 0, 1) := by decide +kernel
theorem dX0_apply_195 : decode cX0_apply 195 = .ok (.ireturn, 1) := by decide +kernel
theorem dX0_add_0 : decode cX0_add 0 = .ok (.aload_n 0, 1) := by decide +kernel
theorem dX0_add_1 : decode cX0_add 1 = .ok (.getfield 12, 3) := by decide +kernel
theorem dX0_add_4 : decode cX0_add 4 = .ok (.getfield 116, 3) := by decide +kernel
theorem dX0_add_7 : decode cX0_add 7 = .ok (.aload_n 0, 1) := by decide +kernel
theorem dX0_add_8 : decode cX0_add 8 = .ok (.getfield 24, 3) := by decide +kernel
theorem dX0_add_11 : decode cX0_add 11 = .ok (.getfield 116, 3) := by decide +kernel
theorem dX0_add_14 : decode cX0_add 14 = .ok (.iadd, 1) := by decide +kernel
theorem dX0_add_15 : decode cX0_add 15 = .ok (.sipush 5000, 3) := by decide +kernel
theorem dX0_add_18 : decode cX0_add 18 = .ok (.if_icmp .le 5, 3) := by decide +kernel
theorem dX0_add_21 : decode cX0_add 21 = .ok (.iconst 0, 1) := by decide +kernel
theorem dX0_add_22 : decode cX0_add 22 = .ok (.ireturn, 1) := by decide +kernel
theorem dX0_add_23 : decode cX0_add 23 = .ok (.aload_n 0, 1) := by decide +kernel
theorem dX0_add_24 : decode cX0_add 24 = .ok (.getfield 12, 3) := by decide +kernel
theorem dX0_add_27 : decode cX0_add 27 = .ok (.getfield 119, 3) := by decide +kernel
theorem dX0_add_30 : decode cX0_add 30 = .ok (.aload_n 0, 1) := by decide +kernel
theorem dX0_add_31 : decode cX0_add 31 = .ok (.getfield 24, 3) := by decide +kernel
theorem dX0_add_34 : decode cX0_add 34 = .ok (.getfield 119, 3) := by decide +kernel
theorem dX0_add_37 : decode cX0_add 37 = .ok (.iadd, 1) := by decide +kernel
theorem dX0_add_38 : decode cX0_add 38 = .ok (.istore_n 1, 1) := by decide +kernel
theorem dX0_add_39 : decode cX0_add 39 = .ok (.aload_n 0, 1) := by decide +kernel
theorem dX0_add_40 : decode cX0_add 40 = .ok (.getfield 18, 3) := by decide +kernel
theorem dX0_add_43 : decode cX0_add 43 = .ok (.iload_n 1, 1) := by decide +kernel
theorem dX0_add_44 : decode cX0_add 44 = .ok (.invokevirtual 31, 3) := by decide +kernel
theorem dX0_add_47 : decode cX0_add 47 = .ok (.iconst 0, 1) := by decide +kernel
theorem dX0_add_48 : decode cX0_add 48 = .ok (.istore_n 2, 1) := by decide +kernel
theorem dX0_add_49 : decode cX0_add 49 = .ok (.iconst 0, 1) := by decide +kernel
theorem dX0_add_50 : decode cX0_add 50 = .ok (.istore_n 3, 1) := by decide +kernel
theorem dX0_add_51 : decode cX0_add 51 = .ok (.iconst 0, 1) := by decide +kernel
theorem dX0_add_52 : decode cX0_add 52 = .ok (.istore 4, 2) := by decide +kernel
theorem dX0_add_54 : decode cX0_add 54 = .ok (.iload 4, 2) := by decide +kernel
theorem dX0_add_56 : decode cX0_add 56 = .ok (.iload_n 1, 1) := by decide +kernel
theorem dX0_add_57 : decode cX0_add 57 = .ok (.if_icmp .ge 105, 3) := by decide +kernel
theorem dX0_add_60 : decode cX0_add 60 = .ok (.iload_n 3, 1) := by decide +kernel
theorem dX0_add_61 : decode cX0_add 61 = .ok (.aload_n 0, 1) := by decide +kernel
theorem dX0_add_62 : decode cX0_add 62 = .ok (.getfield 24, 3) := by decide +kernel
theorem dX0_add_65 : decode cX0_add 65 = .ok (.getfield 119, 3) := by decide +kernel
theorem dX0_add_68 : decode cX0_add 68 = .ok (.if_icmp .ge 33, 3) := by decide +kernel
theorem dX0_add_71 : decode cX0_add 71 = .ok (.iload_n 2, 1) := by decide +kernel
theorem dX0_add_72 : decode cX0_add 72 = .ok (.aload_n 0, 1) := by decide +kernel
theorem dX0_add_73 : decode cX0_add 73 = .ok (.getfield 12, 3) := by decide +kernel
theorem dX0_add_76 : decode cX0_add 76 = .ok (.getfield 119, 3) := by decide +kernel
theorem dX0_add_79 : decode cX0_add 79 = .ok (.if_icmp .ge 51, 3) := by decide +kernel
theorem dX0_add_82 : decode cX0_add 82 = .ok (.aload_n 0, 1) := by decide +kernel
theorem dX0_add_83 : decode cX0_add 83 = .ok (.getfield 12, 3) := by decide +kernel
theorem dX0_add_86 : decode cX0_add 86 = .ok (.iload_n 2, 1) := by decide +kernel
theorem dX0_add_87 : decode cX0_add 87 = .ok (.invokevirtual 122, 3) := by decide +kernel
theorem dX0_add_90 : decode cX0_add 90 = .ok (.aload_n 0, 1) := by decide +kernel
theorem dX0_add_91 : decode cX0_add 91 = .ok (.getfield 24, 3) := by decide +kernel
theorem dX0_add_94 : decode cX0_add 94 = .ok (.iload_n 3, 1) := by decide +kernel
theorem dX0_add_95 : decode cX0_add 95 = .ok (.invokevirtual 122, 3) := by decide +kernel
theorem dX0_add_98 : decode cX0_add 98 = .ok (.if_icmp .gt 32, 3) := by decide +kernel
theorem dX0_add_101 : decode cX0_add 101 = .ok (.aload_n 0, 1) := by decide +kernel
theorem dX0_add_102 : decode cX0_add 102 = .ok (.getfield 18, 3) := by decide +kernel
theorem dX0_add_105 : decode cX0_add 105 = .ok (.aload_n 0, 1) := by decide +kernel
theorem dX0_add_106 : decode cX0_add 106 = .ok (.getfield 12, 3) := by decide +kernel
theorem dX0_add_109 : decode cX0_add 109 = .ok (.iload_n 2, 1) := by decide +kernel
theorem dX0_add_110 : decode cX0_add 110 = .ok (.invokevirtual 122, 3) := by decide +kernel
theorem dX0_add_113 : decode cX0_add 113 = .ok (.aload_n 0, 1) := by decide +kernel
theorem dX0_add_114 : decode cX0_add 114 = .ok (.getfield 12, 3) := by decide +kernel
theorem dX0_add_117 : decode cX0_add 117 = .ok (.iload_n 2, 1) := by decide +kernel
theorem dX0_add_118 : decode cX0_add 118 = .ok (.invokevirtual 125, 3) := by decide +kernel
theorem dX0_add_121 : decode cX0_add 121 = .ok (.invokevirtual 128, 3) := by decide +kernel
theorem dX0_add_124 : decode cX0_add 124 = .ok (.iinc 2 1, 3) := by decide +kernel
theorem dX0_add_127 : decode cX0_add 127 = .ok (.goto 29, 3) := by decide +kernel
theorem dX0_add_130 : decode cX0_add 130 = .ok (.aload_n 0, 1) := by decide +kernel
theorem dX0_add_131 : decode cX0_add 131 = .ok (.getfield 18, 3) := by decide +kernel
theorem dX0_add_134 : decode cX0_add 134 = .ok (.aload_n 0, 1) := by decide +kernel
theorem dX0_add_135 : decode cX0_add 135 = .ok (.getfield 24, 3) := by decide +kernel
theorem dX0_add_138 : decode cX0_add 138 = .ok (.iload_n 3, 1) := by decide +kernel
theorem dX0_add_139 : decode cX0_add 139 = .ok (.invokevirtual 122, 3) := by decide +kernel
theorem dX0_add_142 : decode cX0_add 142 = .ok (.aload_n 0, 1) := by decide +kernel
theorem dX0_add_143 : decode cX0_add 143 = .ok (.getfield 24, 3) := by decide +kernel
theorem dX0_add_146 : decode cX0_add 146 = .ok (.iload_n 3, 1) := by decide +kernel
theorem dX0_add_147 : decode cX0_add 147 = .ok (.invokevirtual 125, 3) := by decide +kernel
theorem dX0_add_150 : decode cX0_add 150 = .ok (.invokevirtual 128, 3) := by decide +kernel
theorem dX0_add_153 : decode cX0_add 153 = .ok (.iinc 3 1, 3) := by decide +kernel
theorem dX0_add_156 : decode cX0_add 156 = .ok (.iinc 4 1, 3) := by decide +kernel
theorem dX0_add_159 : decode cX0_add 159 = .ok (.goto (-105), 3) := by decide +kernel
theorem dX0_add_162 : decode cX0_add 162 = .ok (.aload_n 0, 1) := by decide +kernel
theorem dX0_add_163 : decode cX0_add 163 = .ok (.getfield 18, 3) := by decide +kernel
theorem dX0_add_166 : decode cX0_add 166 = .ok (.aload_n 0, 1) := by decide +kernel
theorem dX0_add_167 : decode cX0_add 167 = .ok (.getfield 12, 3) := by decide +kernel
theorem dX0_add_170 : decode cX0_add 170 = .ok (.getfield 132, 3) := by decide +kernel
theorem dX0_add_173 : decode cX0_add 173 = .ok (.aload_n 0, 1) := by decide +kernel
theorem dX0_add_174 : decode cX0_add 174 = .ok (.getfield 24, 3) := by decide +kernel
theorem dX0_add_177 : decode cX0_add 177 = .ok (.getfield 132, 3) := by decide +kernel
theorem dX0_add_180 : decode cX0_add 180 = .ok (.iadd, 1) := by decide +kernel
theorem dX0_add_181 : decode cX0_add 181 = .ok (.putfield 132, 3) := by decide +kernel
theorem dX0_add_184 : decode cX0_add 184 = .ok (.aload_n 0, 1) := by decide +kernel
theorem dX0_add_185 : decode cX0_add 185 = .ok (.getfield 18, 3) := by decide +kernel
theorem dX0_add_188 : decode cX0_add 188 = .ok (.invokevirtual 135, 3) := by decide +kernel
theorem dX0_add_191 : decode cX0_add 191 = .ok (.istore 4, 2) := by decide +kernel
theorem dX0_add_193 : decode cX0_add 193 = .ok (.aload_n 0, 1) := by decide +kernel
theorem dX0_add_194 : decode cX0_add 194 = .ok (.getfield 18, 3) := by decide +kernel
theorem dX0_add_197 : decode cX0_add 197 = .ok (.aload_n 0, 1) := by decide +kernel
theorem dX0_add_198 : decode cX0_add 198 = .ok (.getfield 12, 3) := by decide +kernel
theorem dX0_add_201 : decode cX0_add 201 = .ok (.iload 4, 2) := by decide +kernel
theorem dX0_add_203 : decode cX0_add 203 = .ok (.invokevirtual 93, 3) := by decide +kernel
theorem dX0_add_206 : decode cX0_add 206 = .ok (.aload_n 0, 1) := by decide +kernel
theorem dX0_add_207 : decode cX0_add 207 = .ok (.getfield 24, 3) := by decide +kernel
theorem dX0_add_210 : decode cX0_add 210 = .ok (.iload 4, 2) := by decide +kernel
theorem dX0_add_212 : decode cX0_add 212 = .ok (.invokevirtual 93, 3) := by decide +kernel
theorem dX0_add_215 : decode cX0_add 215 = .ok (.ladd, 1) := by decide +kernel
theorem dX0_add_216 : decode cX0_add 216 = .ok (.putfield 109, 3) := by decide +kernel
theorem dX0_add_219 : decode cX0_add 219 = .ok (.aload_n 0, 1) := by decide +kernel
theorem dX0_add_220 : decode cX0_add 220 = .ok (.invokevirtual 139, 3) := by decide +kernel
theorem dX0_add_223 : decode cX0_add 223 = .ok (.aload_n 0, 1) := by decide +kernel
theorem dX0_add_224 : decode cX0_add 224 = .ok (.getfield 12, 3) := by decide +kernel
theorem dX0_add_227 : decode cX0_add 227 = .ok (.invokevirtual 113, 3) := by decide +kernel
theorem dX0_add_230 : decode cX0_add 230 = .ok (.ifCond .ne 7, 3) := by decide +kernel
theorem dX0_add_233 : decode cX0_add 233 = .ok (.iconst 1, 1) := by decide +kernel
theorem dX0_add_234 : decode cX0_add 234 = .ok (.goto 4, 3) := by decide +kernel
theorem dX0_add_237 : decode cX0_add 237 = .ok (.iconst 0, 1) := by decide +kernel
theorem dX0_add_238 : decode cX0_add 238 = .ok (.ireturn, 1) := by decide +kernel
theorem dX0_reshape_0 : decode cX0_reshape 0 = .ok (.aload_n 0, 1) := by decide +kernel
theorem dX0_reshape_1 : decode cX0_reshape 1 = .ok (.getfield 18, 3) := by decide +kernel
theorem dX0_reshape_4 : decode cX0_reshape 4 = .ok (.aload_n 0, 1) := by decide +kernel
theorem dX0_reshape_5 : decode cX0_reshape 5 = .ok (.getfield 12, 3) := by decide +kernel
theorem dX0_reshape_8 : decode cX0_reshape 8 = .ok (.getfield 119, 3) := by decide +kernel
theorem dX0_reshape_11 : decode cX0_reshape 11 = .ok (.iconst 1, 1) := by decide +kernel
theorem dX0_reshape_12 : decode cX0_reshape 12 = .ok (.iadd, 1) := by decide +kernel
theorem dX0_reshape_13 : decode cX0_reshape 13 = .ok (.invokevirtual 31, 3) := by decide +kernel
theorem dX0_reshape_16 : decode cX0_reshape 16 = .ok (.aload_n 0, 1) := by decide +kernel
theorem dX0_reshape_17 : decode cX0_reshape 17 = .ok (.getfield 12, 3) := by decide +kernel
theorem dX0_reshape_20 : decode cX0_reshape 20 = .ok (.getfield 132, 3) := by decide +kernel
theorem dX0_reshape_23 : decode cX0_reshape 23 = .ok (.istore 5, 2) := by decide +kernel
theorem dX0_reshape_25 : decode cX0_reshape 25 = .ok (.iconst 0, 1) := by decide +kernel
theorem dX0_reshape_26 : decode cX0_reshape 26 = .ok (.istore 6, 2) := by decide +kernel
theorem dX0_reshape_28 : decode cX0_reshape 28 = .ok (.iload 6, 2) := by decide +kernel
theorem dX0_reshape_30 : decode cX0_reshape 30 = .ok (.aload_n 0, 1) := by decide +kernel
theorem dX0_reshape_31 : decode cX0_reshape 31 = .ok (.getfield 12, 3) := by decide +kernel
theorem dX0_reshape_34 : decode cX0_reshape 34 = .ok (.getfield 119, 3) := by decide +kernel
