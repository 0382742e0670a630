theorem dX9_least_6 : decode cX9_least 6 = .ok (.iload_n 1, 1) := by decide +kernel
theorem dX9_least_7 : decode cX9_least 7 = .ok (.invokevirtual 310, 3) := by decide +kernel
theorem dX9_least_10 : decode cX9_least 10 = .ok (.ifCond .ne 10, 3) := by decide +kernel
theorem dX9_least_13 : decode cX9_least 13 = .ok (.aload_n 0, 1) := by decide +kernel
theorem dX9_least_14 : decode cX9_least 14 = .ok (.iconst 1, 1) := by decide +kernel
theorem dX9_least_15 : decode cX9_least 15 = .ok (.invokevirtual 313, 3) := by decide +kernel
theorem dX9_least_18 : decode cX9_least 18 = .ok (.i2l, 1) := by decide +kernel
theorem dX9_least_19 : decode cX9_least 19 = .ok (.lreturn, 1) := by decide +kernel
theorem dX9_least_20 : decode cX9_least 20 = .ok (.aload_n 0, 1) := by decide +kernel
theorem dX9_least_21 : decode cX9_least 21 = .ok (.iload_n 1, 1) := by decide +kernel
theorem dX9_least_22 : decode cX9_least 22 = .ok (.invokevirtual 227, 3) := by decide +kernel
theorem dX9_least_25 : decode cX9_least 25 = .ok (.aload_n 0, 1) := by decide +kernel
theorem dX9_least_26 : decode cX9_least 26 = .ok (.getfield 40, 3) := by decide +kernel
theorem dX9_least_29 : decode cX9_least 29 = .ok (.invokestatic 182, 3) := by decide +kernel
theorem dX9_least_32 : decode cX9_least 32 = .ok (.lreturn, 1) := by decide +kernel
theorem dX9_somewhere_0 : decode cX9_somewhere 0 = .ok (.iload_n 0, 1) := by decide +kernel
theorem dX9_somewhere_1 : decode cX9_somewhere 1 = .ok (.i2l, 1) := by decide +kernel
theorem dX9_somewhere_2 : decode cX9_somewhere 2 = .ok (.ldc2_w 356, 3) := by decide +kernel
theorem dX9_somewhere_5 : decode cX9_somewhere 5 = .ok (.ldc2_w 358, 3) := by decide +kernel
theorem dX9_somewhere_8 : decode cX9_somewhere 8 = .ok (.invokestatic 166, 3) := by decide +kernel
theorem dX9_somewhere_11 : decode cX9_somewhere 11 = .ok (.ifCond .eq 7, 3) := by decide +kernel
theorem dX9_somewhere_14 : decode cX9_somewhere 14 = .ok (.iload_n 0, 1) := by decide +kernel
theorem dX9_somewhere_15 : decode cX9_somewhere 15 = .ok (.goto 6, 3) := by decide +kernel
theorem dX9_somewhere_18 : decode cX9_somewhere 18 = .ok (.ldc_w 360, 3) := by decide +kernel
theorem dX9_somewhere_21 : decode cX9_somewhere 21 = .ok (.ireturn, 1) := by decide +kernel
theorem dX9_flat_0 : decode cX9_flat 0 = .ok (.aload_n 0, 1) := by decide +kernel
theorem dX9_flat_1 : decode cX9_flat 1 = .ok (.iconst 0, 1) := by decide +kernel
theorem dX9_flat_2 : decode cX9_flat 2 = .ok (.putfield 132, 3) := by decide +kernel
theorem dX9_flat_5 : decode cX9_flat 5 = .ok (.aload_n 0, 1) := by decide +kernel
theorem dX9_flat_6 : decode cX9_flat 6 = .ok (.iload_n 1, 1) := by decide +kernel
theorem dX9_flat_7 : decode cX9_flat 7 = .ok (.invokevirtual 310, 3) := by decide +kernel
theorem dX9_flat_10 : decode cX9_flat 10 = .ok (.ifCond .eq 15, 3) := by decide +kernel
theorem dX9_flat_13 : decode cX9_flat 13 = .ok (.iload_n 2, 1) := by decide +kernel
theorem dX9_flat_14 : decode cX9_flat 14 = .ok (.i2l, 1) := by decide +kernel
theorem dX9_flat_15 : decode cX9_flat 15 = .ok (.lconst 0, 1) := by decide +kernel
theorem dX9_flat_16 : decode cX9_flat 16 = .ok (.ldc2_w 361, 3) := by decide +kernel
theorem dX9_flat_19 : decode cX9_flat 19 = .ok (.invokestatic 166, 3) := by decide +kernel
theorem dX9_flat_22 : decode cX9_flat 22 = .ok (.ifCond .ne 9, 3) := by decide +kernel
theorem dX9_flat_25 : decode cX9_flat 25 = .ok (.aload_n 0, 1) := by decide +kernel
theorem dX9_flat_26 : decode cX9_flat 26 = .ok (.iconst 1, 1) := by decide +kernel
theorem dX9_flat_27 : decode cX9_flat 27 = .ok (.invokevirtual 313, 3) := by decide +kernel
theorem dX9_flat_30 : decode cX9_flat 30 = .ok (.ireturn, 1) := by decide +kernel
theorem dX9_flat_31 : decode cX9_flat 31 = .ok (.aload_n 0, 1) := by decide +kernel
theorem dX9_flat_32 : decode cX9_flat 32 = .ok (.iload_n 1, 1) := by decide +kernel
theorem dX9_flat_33 : decode cX9_flat 33 = .ok (.invokevirtual 227, 3) := by decide +kernel
theorem dX9_flat_36 : decode cX9_flat 36 = .ok (.aload_n 0, 1) := by decide +kernel
theorem dX9_flat_37 : decode cX9_flat 37 = .ok (.getfield 40, 3) := by decide +kernel
theorem dX9_flat_40 : decode cX9_flat 40 = .ok (.invokestatic 147, 3) := by decide +kernel
theorem dX9_flat_43 : decode cX9_flat 43 = .ok (.istore_n 3, 1) := by decide +kernel
theorem dX9_flat_44 : decode cX9_flat 44 = .ok (.aload_n 0, 1) := by decide +kernel
theorem dX9_flat_45 : decode cX9_flat 45 = .ok (.getfield 40, 3) := by decide +kernel
theorem dX9_flat_48 : decode cX9_flat 48 = .ok (.invokestatic 151, 3) := by decide +kernel
theorem dX9_flat_51 : decode cX9_flat 51 = .ok (.istore 4, 2) := by decide +kernel
theorem dX9_flat_53 : decode cX9_flat 53 = .ok (.iload_n 2, 1) := by decide +kernel
theorem dX9_flat_54 : decode cX9_flat 54 = .ok (.ifCond .ne 10, 3) := by decide +kernel
theorem dX9_flat_57 : decode cX9_flat 57 = .ok (.iload_n 3, 1) := by decide +kernel
theorem dX9_flat_58 : decode cX9_flat 58 = .ok (.invokestatic 363, 3) := by decide +kernel
theorem dX9_flat_61 : decode cX9_flat 61 = .ok (.goto 53, 3) := by decide +kernel
theorem dX9_flat_64 : decode cX9_flat 64 = .ok (.iload_n 2, 1) := by decide +kernel
theorem dX9_flat_65 : decode cX9_flat 65 = .ok (.iconst 1, 1) := by decide +kernel
theorem dX9_flat_66 : decode cX9_flat 66 = .ok (.if_icmp .ne 11, 3) := by decide +kernel
theorem dX9_flat_69 : decode cX9_flat 69 = .ok (.iload 4, 2) := by decide +kernel
theorem dX9_flat_71 : decode cX9_flat 71 = .ok (.invokestatic 363, 3) := by decide +kernel
theorem dX9_flat_74 : decode cX9_flat 74 = .ok (.goto 40, 3) := by decide +kernel
theorem dX9_flat_77 : decode cX9_flat 77 = .ok (.iload_n 2, 1) := by decide +kernel
theorem dX9_flat_78 : decode cX9_flat 78 = .ok (.iconst 2, 1) := by decide +kernel
theorem dX9_flat_79 : decode cX9_flat 79 = .ok (.if_icmp .ne 13, 3) := by decide +kernel
theorem dX9_flat_82 : decode cX9_flat 82 = .ok (.iload_n 3, 1) := by decide +kernel
theorem dX9_flat_83 : decode cX9_flat 83 = .ok (.iload 4, 2) := by decide +kernel
theorem dX9_flat_85 : decode cX9_flat 85 = .ok (.iconst 0, 1) := by decide +kernel
theorem dX9_flat_86 : decode cX9_flat 86 = .ok (.invokestatic 154, 3) := by decide +kernel
theorem dX9_flat_89 : decode cX9_flat 89 = .ok (.goto 25, 3) := by decide +kernel
theorem dX9_flat_92 : decode cX9_flat 92 = .ok (.iload_n 2, 1) := by decide +kernel
theorem dX9_flat_93 : decode cX9_flat 93 = .ok (.iconst 3, 1) := by decide +kernel
theorem dX9_flat_94 : decode cX9_flat 94 = .ok (.if_icmp .ne 13, 3) := by decide +kernel
theorem dX9_flat_97 : decode cX9_flat 97 = .ok (.aload_n 0, 1) := by decide +kernel
theorem dX9_flat_98 : decode cX9_flat 98 = .ok (.getfield 40, 3) := by decide +kernel
theorem dX9_flat_101 : decode cX9_flat 101 = .ok (.invokestatic 366, 3) := by decide +kernel
theorem dX9_flat_104 : decode cX9_flat 104 = .ok (.goto 10, 3) := by decide +kernel
theorem dX9_flat_107 : decode cX9_flat 107 = .ok (.aload_n 0, 1) := by decide +kernel
theorem dX9_flat_108 : decode cX9_flat 108 = .ok (.getfield 40, 3) := by decide +kernel
theorem dX9_flat_111 : decode cX9_flat 111 = .ok (.invokestatic 205, 3) := by decide +kernel
theorem dX9_flat_114 : decode cX9_flat 114 = .ok (.ireturn, 1) := by decide +kernel
theorem dX9_kink_0 : decode cX9_kink 0 = .ok (.aload_n 0, 1) := by decide +kernel
theorem dX9_kink_1 : decode cX9_kink 1 = .ok (.iconst 0, 1) := by decide +kernel
theorem dX9_kink_2 : decode cX9_kink 2 = .ok (.putfield 132, 3) := by decide +kernel
theorem dX9_kink_5 : decode cX9_kink 5 = .ok (.aload_n 0, 1) := by decide +kernel
theorem dX9_kink_6 : decode cX9_kink 6 = .ok (.iload_n 1, 1) := by decide +kernel
theorem dX9_kink_7 : decode cX9_kink 7 = .ok (.invokevirtual 310, 3) := by decide +kernel
theorem dX9_kink_10 : decode cX9_kink 10 = .ok (.ifCond .eq 17, 3) := by decide +kernel
theorem dX9_kink_13 : decode cX9_kink 13 = .ok (.iload_n 3, 1) := by decide +kernel
theorem dX9_kink_14 : decode cX9_kink 14 = .ok (.i2l, 1) := by decide +kernel
theorem dX9_kink_15 : decode cX9_kink 15 = .ok (.lconst 0, 1) := by decide +kernel
theorem dX9_kink_16 : decode cX9_kink 16 = .ok (.lconst 1, 1) := by decide +kernel
theorem dX9_kink_17 : decode cX9_kink 17 = .ok (.invokestatic 166, 3) := by decide +kernel
theorem dX9_kink_20 : decode cX9_kink 20 = .ok (.ifCond .eq 7, 3) := by decide +kernel
theorem dX9_kink_23 : decode cX9_kink 23 = .ok (.iload_n 2, 1) := by decide +kernel
theorem dX9_kink_24 : decode cX9_kink 24 = .ok (.ifCond .ge 9, 3) := by decide +kernel
theorem dX9_kink_27 : decode cX9_kink 27 = .ok (.aload_n 0, 1) := by decide +kernel
theorem dX9_kink_28 : decode cX9_kink 28 = .ok (.iconst 1, 1) := by decide +kernel
theorem dX9_kink_29 : decode cX9_kink 29 = .ok (.invokevirtual 313, 3) := by decide +kernel
theorem dX9_kink_32 : decode cX9_kink 32 = .ok (.ireturn, 1) := by decide +kernel
theorem dX9_kink_33 : decode cX9_kink 33 = .ok (.aload_n 0, 1) := by decide +kernel
theorem dX9_kink_34 : decode cX9_kink 34 = .ok (.iload_n 1, 1) := by decide +kernel
theorem dX9_kink_35 : decode cX9_kink 35 = .ok (.invokevirtual 227, 3) := by decide +kernel
theorem dX9_kink_38 : decode cX9_kink 38 = .ok (.iload_n 2, 1) := by decide +kernel
theorem dX9_kink_39 : decode cX9_kink 39 = .ok (.istore 4, 2) := by decide +kernel
theorem dX9_kink_41 : decode cX9_kink 41 = .ok (.iconst 0, 1) := by decide +kernel
theorem dX9_kink_42 : decode cX9_kink 42 = .ok (.istore 5, 2) := by decide +kernel
theorem dX9_kink_44 : decode cX9_kink 44 = .ok (.iload 5, 2) := by decide +kernel
theorem dX9_kink_46 : decode cX9_kink 46 = .ok (.sipush 10001, 3) := by decide +kernel
theorem dX9_kink_49 : decode cX9_kink 49 = .ok (.if_icmp .ge 55, 3) := by decide +kernel
theorem dX9_kink_52 : decode cX9_kink 52 = .ok (.aload_n 0, 1) := by decide +kernel
theorem dX9_kink_53 : decode cX9_kink 53 = .ok (.getfield 40, 3) := by decide +kernel
theorem dX9_kink_56 : decode cX9_kink 56 = .ok (.iconst 2, 1) := by decide +kernel
theorem dX9_kink_57 : decode cX9_kink 57 = .ok (.iload 5, 2) := by decide +kernel
theorem dX9_kink_59 : decode cX9_kink 59 = .ok (.iadd, 1) := by decide +kernel
theorem dX9_kink_60 : decode cX9_kink 60 = .ok (.iaload, 1) := by decide +kernel
theorem dX9_kink_61 : decode cX9_kink 61 = .ok (.ifCond .ne 6, 3) := by decide +kernel
theorem dX9_kink_64 : decode cX9_kink 64 = .ok (.goto 34, 3) := by decide +kernel
theorem dX9_kink_67 : decode cX9_kink 67 = .ok (.iload 4, 2) := by decide +kernel
theorem dX9_kink_69 : decode cX9_kink 69 = .ok (.ifCond .ne 26, 3) := by decide +kernel
theorem dX9_kink_72 : decode cX9_kink 72 = .ok (.iload_n 3, 1) := by decide +kernel
theorem dX9_kink_73 : decode cX9_kink 73 = .ok (.ifCond .ne 12, 3) := by decide +kernel
theorem dX9_kink_76 : decode cX9_kink 76 = .ok (.iload 5, 2) := by decide +kernel
theorem dX9_kink_78 : decode cX9_kink 78 = .ok (.sipush 5000, 3) := by decide +kernel
theorem dX9_kink_81 : decode cX9_kink 81 = .ok (.isub, 1) := by decide +kernel
theorem dX9_kink_82 : decode cX9_kink 82 = .ok (.goto 12, 3) := by decide +kernel
theorem dX9_kink_85 : decode cX9_kink 85 = .ok (.aload_n 0, 1) := by decide +kernel
theorem dX9_kink_86 : decode cX9_kink 86 = .ok (.getfield 40, 3) := by decide +kernel
theorem dX9_kink_89 : decode cX9_kink 89 = .ok (.iconst 2, 1) := by decide +kernel
theorem dX9_kink_90 : decode cX9_kink 90 = .ok (.iload 5, 2) := by decide +kernel
theorem dX9_kink_92 : decode cX9_kink 92 = .ok (.iadd, 1) := by decide +kernel
theorem dX9_kink_93 : decode cX9_kink 93 = .ok (.iaload, 1) := by decide +kernel
theorem dX9_kink_94 : decode cX9_kink 94 = .ok (.ireturn, 1) := by decide +kernel
theorem dX9_kink_95 : decode cX9_kink 95 = .ok (.iinc 4 (-1), 3) := by decide +kernel
theorem dX9_kink_98 : decode cX9_kink 98 = .ok (.iinc 5 1, 3) := by decide +kernel
theorem dX9_kink_101 : decode cX9_kink 101 = .ok (.goto (-57), 3) := by decide +kernel
theorem dX9_kink_104 : decode cX9_kink 104 = .ok (.aload_n 0, 1) := by decide +kernel
theorem dX9_kink_105 : decode cX9_kink 105 = .ok (.iconst 1, 1) := by decide +kernel
theorem dX9_kink_106 : decode cX9_kink 106 = .ok (.invokevirtual 313, 3) := by decide +kernel
theorem dX9_kink_109 : decode cX9_kink 109 = .ok (.ireturn, 1) := by decide +kernel
theorem dX9_slope_0 : decode cX9_slope 0 = .ok (.aload_n 0, 1) := by decide +kernel
theorem dX9_slope_1 : decode cX9_slope 1 = .ok (.iconst 0, 1) := by decide +kernel
theorem dX9_slope_2 : decode cX9_slope 2 = .ok (.putfield 132, 3) := by decide +kernel
theorem dX9_slope_5 : decode cX9_slope 5 = .ok (.aload_n 0, 1) := by decide +kernel
theorem dX9_slope_6 : decode cX9_slope 6 = .ok (.iload_n 1, 1) := by decide +kernel
theorem dX9_slope_7 : decode cX9_slope 7 = .ok (.invokevirtual 310, 3) := by decide +kernel
theorem dX9_slope_10 : decode cX9_slope 10 = .ok (.ifCond .eq 13, 3) := by decide +kernel
theorem dX9_slope_13 : decode cX9_slope 13 = .ok (.iload_n 3, 1) := by decide +kernel
theorem dX9_slope_14 : decode cX9_slope 14 = .ok (.i2l, 1) := by decide +kernel
theorem dX9_slope_15 : decode cX9_slope 15 = .ok (.lconst 0, 1) := by decide +kernel
theorem dX9_slope_16 : decode cX9_slope 16 = .ok (.lconst 1, 1) := by decide +kernel
theorem dX9_slope_17 : decode cX9_slope 17 = .ok (.invokestatic 166, 3) := by decide +kernel
theorem dX9_slope_20 : decode cX9_slope 20 = .ok (.ifCond .ne 9, 3) := by decide +kernel
theorem dX9_slope_23 : decode cX9_slope 23 = .ok (.aload_n 0, 1) := by decide +kernel
theorem dX9_slope_24 : decode cX9_slope 24 = .ok (.iconst 1, 1) := by decide +kernel
theorem dX9_slope_25 : decode cX9_slope 25 = .ok (.invokevirtual 313, 3) := by decide +kernel
theorem dX9_slope_28 : decode cX9_slope 28 = .ok (.ireturn, 1) := by decide +kernel
theorem dX9_slope_29 : decode cX9_slope 29 = .ok (.iload_n 2, 1) := by decide +kernel
theorem dX9_slope_30 : decode cX9_slope 30 = .ok (.invokestatic 353, 3) := by decide +kernel
theorem dX9_slope_33 : decode cX9_slope 33 = .ok (.ifCond .ne 9, 3) := by decide +kernel
theorem dX9_slope_36 : decode cX9_slope 36 = .ok (.aload_n 0, 1) := by decide +kernel
theorem dX9_slope_37 : decode cX9_slope 37 = .ok (.iconst 2, 1) := by decide +kernel
theorem dX9_slope_38 : decode cX9_slope 38 = .ok (.invokevirtual 313, 3) := by decide +kernel
theorem dX9_slope_41 : decode cX9_slope 41 = .ok (.ireturn, 1) := by decide +kernel
theorem dX9_slope_42 : decode cX9_slope 42 = .ok (.aload_n 0, 1) := by decide +kernel
theorem dX9_slope_43 : decode cX9_slope 43 = .ok (.iload_n 1, 1) := by decide +kernel
theorem dX9_slope_44 : decode cX9_slope 44 = .ok (.invokevirtual 227, 3) := by decide +kernel
theorem dX9_slope_47 : decode cX9_slope 47 = .ok (.iload_n 3, 1) := by decide +kernel
theorem dX9_slope_48 : decode cX9_slope 48 = .ok (.ifCond .ne 25, 3) := by decide +kernel
theorem dX9_slope_51 : decode cX9_slope 51 = .ok (.aload_n 0, 1) := by decide +kernel
theorem dX9_slope_52 : decode cX9_slope 52 = .ok (.getfield 40, 3) := by decide +kernel
theorem dX9_slope_55 : decode cX9_slope 55 = .ok (.iload_n 2, 1) := by decide +kernel
theorem dX9_slope_56 : decode cX9_slope 56 = .ok (.invokestatic 158, 3) := by decide +kernel
theorem dX9_slope_59 : decode cX9_slope 59 = .ok (.aload_n 0, 1) := by decide +kernel
theorem dX9_slope_60 : decode cX9_slope 60 = .ok (.getfield 40, 3) := by decide +kernel
theorem dX9_slope_63 : decode cX9_slope 63 = .ok (.iload_n 2, 1) := by decide +kernel
theorem dX9_slope_64 : decode cX9_slope 64 = .ok (.iconst 1, 1) := by decide +kernel
theorem dX9_slope_65 : decode cX9_slope 65 = .ok (.isub, 1) := by decide +kernel
theorem dX9_slope_66 : decode cX9_slope 66 = .ok (.invokestatic 158, 3) := by decide +kernel
theorem dX9_slope_69 : decode cX9_slope 69 = .ok (.lsub, 1) := by decide +kernel
theorem dX9_slope_70 : decode cX9_slope 70 = .ok (.goto 22, 3) := by decide +kernel
theorem dX9_slope_73 : decode cX9_slope 73 = .ok (.aload_n 0, 1) := by decide +kernel
theorem dX9_slope_74 : decode cX9_slope 74 = .ok (.getfield 40, 3) := by decide +kernel
theorem dX9_slope_77 : decode cX9_slope 77 = .ok (.iload_n 2, 1) := by decide +kernel
theorem dX9_slope_78 : decode cX9_slope 78 = .ok (.iconst 1, 1) := by decide +kernel
theorem dX9_slope_79 : decode cX9_slope 79 = .ok (.iadd, 1) := by decide +kernel
theorem dX9_slope_80 : decode cX9_slope 80 = .ok (.invokestatic 158, 3) := by decide +kernel
theorem dX9_slope_83 : decode cX9_slope 83 = .ok (.aload_n 0, 1) := by decide +kernel
theorem dX9_slope_84 : decode cX9_slope 84 = .ok (.getfield 40, 3) := by decide +kernel
theorem dX9_slope_87 : decode cX9_slope 87 = .ok (.iload_n 2, 1) := by decide +kernel
theorem dX9_slope_88 : decode cX9_slope 88 = .ok (.invokestatic 158, 3) := by decide +kernel
theorem dX9_slope_91 : decode cX9_slope 91 = .ok (.lsub, 1) := by decide +kernel
theorem dX9_slope_92 : decode cX9_slope 92 = .ok (.l2i, 1) := by decide +kernel
theorem dX9_slope_93 : decode cX9_slope 93 = .ok (.ireturn, 1) := by decide +kernel
theorem dX9_tellPath_0 : decode cX9_tellPath 0 = .ok (.aload_n 0, 1) := by decide +kernel
theorem dX9_tellPath_1 : decode cX9_tellPath 1 = .ok (.iload_n 1, 1) := by decide +kernel
theorem dX9_tellPath_2 : decode cX9_tellPath 2 = .ok (.invokevirtual 227, 3) := by decide +kernel
theorem dX9_tellPath_5 : decode cX9_tellPath 5 = .ok (.aload_n 0, 1) := by decide +kernel
theorem dX9_tellPath_6 : decode cX9_tellPath 6 = .ok (.iload_n 1, 1) := by decide +kernel
theorem dX9_tellPath_7 : decode cX9_tellPath 7 = .ok (.invokevirtual 337, 3) := by decide +kernel
theorem dX9_tellPath_10 : decode cX9_tellPath 10 = .ok (.istore_n 3, 1) := by decide +kernel
theorem dX9_tellPath_11 : decode cX9_tellPath 11 = .ok (.aload_n 0, 1) := by decide +kernel
theorem dX9_tellPath_12 : decode cX9_tellPath 12 = .ok (.getfield 86, 3) := by decide +kernel
theorem dX9_tellPath_15 : decode cX9_tellPath 15 = .ok (.iload_n 3, 1) := by decide +kernel
theorem dX9_tellPath_16 : decode cX9_tellPath 16 = .ok (.iload_n 2, 1) := by decide +kernel
theorem dX9_tellPath_17 : decode cX9_tellPath 17 = .ok (.iastore, 1) := by decide +kernel
theorem dX9_tellPath_18 : decode cX9_tellPath 18 = .ok (.iload_n 3, 1) := by decide +kernel
theorem dX9_tellPath_19 : decode cX9_tellPath 19 = .ok (.iconst 1, 1) := by decide +kernel
theorem dX9_tellPath_20 : decode cX9_tellPath 20 = .ok (.isub, 1) := by decide +kernel
theorem dX9_tellPath_21 : decode cX9_tellPath 21 = .ok (.istore 4, 2) := by decide +kernel
theorem dX9_tellPath_23 : decode cX9_tellPath 23 = .ok (.iload 4, 2) := by decide +kernel
theorem dX9_tellPath_25 : decode cX9_tellPath 25 = .ok (.ifCond .lt 178, 3) := by decide +kernel
theorem dX9_tellPath_28 : decode cX9_tellPath 28 = .ok (.aload_n 0, 1) := by decide +kernel
theorem dX9_tellPath_29 : decode cX9_tellPath 29 = .ok (.getfield 86, 3) := by decide +kernel
theorem dX9_tellPath_32 : decode cX9_tellPath 32 = .ok (.iload 4, 2) := by decide +kernel
theorem dX9_tellPath_34 : decode cX9_tellPath 34 = .ok (.iconst 1, 1) := by decide +kernel
theorem dX9_tellPath_35 : decode cX9_tellPath 35 = .ok (.iadd, 1) := by decide +kernel
theorem dX9_tellPath_36 : decode cX9_tellPath 36 = .ok (.iaload, 1) := by decide +kernel
theorem dX9_tellPath_37 : decode cX9_tellPath 37 = .ok (.istore 5, 2) := by decide +kernel
theorem dX9_tellPath_39 : decode cX9_tellPath 39 = .ok (.aload_n 0, 1) := by decide +kernel
theorem dX9_tellPath_40 : decode cX9_tellPath 40 = .ok (.iload_n 1, 1) := by decide +kernel
theorem dX9_tellPath_41 : decode cX9_tellPath 41 = .ok (.iload 4, 2) := by decide +kernel
theorem dX9_tellPath_43 : decode cX9_tellPath 43 = .ok (.iconst 1, 1) := by decide +kernel
theorem dX9_tellPath_44 : decode cX9_tellPath 44 = .ok (.invokevirtual 346, 3) := by decide +kernel
theorem dX9_tellPath_47 : decode cX9_tellPath 47 = .ok (.istore 6, 2) := by decide +kernel
theorem dX9_tellPath_49 : decode cX9_tellPath 49 = .ok (.aload_n 0, 1) := by decide +kernel
theorem dX9_tellPath_50 : decode cX9_tellPath 50 = .ok (.getfield 58, 3) := by decide +kernel
theorem dX9_tellPath_53 : decode cX9_tellPath 53 = .ok (.iload 4, 2) := by decide +kernel
theorem dX9_tellPath_55 : decode cX9_tellPath 55 = .ok (.iaload, 1) := by decide +kernel
theorem dX9_tellPath_56 : decode cX9_tellPath 56 = .ok (.aload_n 0, 1) := by decide +kernel
theorem dX9_tellPath_57 : decode cX9_tellPath 57 = .ok (.getfield 61, 3) := by decide +kernel
theorem dX9_tellPath_60 : decode cX9_tellPath 60 = .ok (.iload 4, 2) := by decide +kernel
theorem dX9_tellPath_62 : decode cX9_tellPath 62 = .ok (.iaload, 1) := by decide +kernel
theorem dX9_tellPath_63 : decode cX9_tellPath 63 = .ok (.iload 5, 2) := by decide +kernel
theorem dX9_tellPath_65 : decode cX9_tellPath 65 = .ok (.invokestatic 154, 3) := by decide +kernel
theorem dX9_tellPath_68 : decode cX9_tellPath 68 = .ok (.istore 7, 2) := by decide +kernel
theorem dX9_tellPath_70 : decode cX9_tellPath 70 = .ok (.aload_n 0, 1) := by decide +kernel
theorem dX9_tellPath_71 : decode cX9_tellPath 71 = .ok (.iload_n 1, 1) := by decide +kernel
theorem dX9_tellPath_72 : decode cX9_tellPath 72 = .ok (.iload 4, 2) := by decide +kernel
theorem dX9_tellPath_74 : decode cX9_tellPath 74 = .ok (.iconst 0, 1) := by decide +kernel
theorem dX9_tellPath_75 : decode cX9_tellPath 75 = .ok (.invokevirtual 346, 3) := by decide +kernel
theorem dX9_tellPath_78 : decode cX9_tellPath 78 = .ok (.tableswitch 110 3 6 #[30, 45, 76, 93], 30) := by decide +kernel
theorem dX9_tellPath_108 : decode cX9_tellPath 108 = .ok (.aload_n 0, 1) := by decide +kernel
theorem dX9_tellPath_109 : decode cX9_tellPath 109 = .ok (.getfield 86, 3) := by decide +kernel
theorem dX9_tellPath_112 : decode cX9_tellPath 112 = .ok (.iload 4, 2) := by decide +kernel
theorem dX9_tellPath_114 : decode cX9_tellPath 114 = .ok (.iload 5, 2) := by decide +kernel
theorem dX9_tellPath_116 : decode cX9_tellPath 116 = .ok (.iload 6, 2) := by decide +kernel
theorem dX9_tellPath_118 : decode cX9_tellPath 118 = .ok (.isub, 1) := by decide +kernel
theorem dX9_tellPath_119 : decode cX9_tellPath 119 = .ok (.iastore, 1) := by decide +kernel
theorem dX9_tellPath_120 : decode cX9_tellPath 120 = .ok (.goto 77, 3) := by decide +kernel
theorem dX9_tellPath_123 : decode cX9_tellPath 123 = .ok (.aload_n 0, 1) := by decide +kernel
theorem dX9_tellPath_124 : decode cX9_tellPath 124 = .ok (.getfield 86, 3) := by decide +kernel
theorem dX9_tellPath_127 : decode cX9_tellPath 127 = .ok (.iload 4, 2) := by decide +kernel
theorem dX9_tellPath_129 : decode cX9_tellPath 129 = .ok (.iload 5, 2) := by decide +kernel
theorem dX9_tellPath_131 : decode cX9_tellPath 131 = .ok (.aload_n 0, 1) := by decide +kernel
theorem dX9_tellPath_132 : decode cX9_tellPath 132 = .ok (.iload_n 1, 1) := by decide +kernel
theorem dX9_tellPath_133 : decode cX9_tellPath 133 = .ok (.iload 4, 2) := by decide +kernel
theorem dX9_tellPath_135 : decode cX9_tellPath 135 = .ok (.iconst 2, 1) := by decide +kernel
theorem dX9_tellPath_136 : decode cX9_tellPath 136 = .ok (.invokevirtual 346, 3) := by decide +kernel
theorem dX9_tellPath_139 : decode cX9_tellPath 139 = .ok (.isub, 1) := by decide +kernel
theorem dX9_tellPath_140 : decode cX9_tellPath 140 = .ok (.iload 5, 2) := by decide +kernel
theorem dX9_tellPath_142 : decode cX9_tellPath 142 = .ok (.iload 6, 2) := by decide +kernel
theorem dX9_tellPath_144 : decode cX9_tellPath 144 = .ok (.iadd, 1) := by decide +kernel
theorem dX9_tellPath_145 : decode cX9_tellPath 145 = .ok (.iload 7, 2) := by decide +kernel
theorem dX9_tellPath_147 : decode cX9_tellPath 147 = .ok (.invokestatic 154, 3) := by decide +kernel
theorem dX9_tellPath_150 : decode cX9_tellPath 150 = .ok (.iastore, 1) := by decide +kernel
theorem dX9_tellPath_151 : decode cX9_tellPath 151 = .ok (.goto 46, 3) := by decide +kernel
theorem dX9_tellPath_154 : decode cX9_tellPath 154 = .ok (.aload_n 0, 1) := by decide +kernel
theorem dX9_tellPath_155 : decode cX9_tellPath 155 = .ok (.getfield 86, 3) := by decide +kernel
theorem dX9_tellPath_158 : decode cX9_tellPath 158 = .ok (.iload 4, 2) := by decide +kernel
theorem dX9_tellPath_160 : decode cX9_tellPath 160 = .ok (.iload 5, 2) := by decide +kernel
theorem dX9_tellPath_162 : decode cX9_tellPath 162 = .ok (.iload 7, 2) := by decide +kernel
theorem dX9_tellPath_164 : decode cX9_tellPath 164 = .ok (.invokestatic 135, 3) := by decide +kernel
theorem dX9_tellPath_167 : decode cX9_tellPath 167 = .ok (.iastore, 1) := by decide +kernel
theorem dX9_tellPath_168 : decode cX9_tellPath 168 = .ok (.goto 29, 3) := by decide +kernel
theorem dX9_tellPath_171 : decode cX9_tellPath 171 = .ok (.aload_n 0, 1) := by decide +kernel
theorem dX9_tellPath_172 : decode cX9_tellPath 172 = .ok (.getfield 86, 3) := by decide +kernel
theorem dX9_tellPath_175 : decode cX9_tellPath 175 = .ok (.iload 4, 2) := by decide +kernel
theorem dX9_tellPath_177 : decode cX9_tellPath 177 = .ok (.iload 5, 2) := by decide +kernel
theorem dX9_tellPath_179 : decode cX9_tellPath 179 = .ok (.iload 7, 2) := by decide +kernel
theorem dX9_tellPath_181 : decode cX9_tellPath 181 = .ok (.invokestatic 186, 3) := by decide +kernel
theorem dX9_tellPath_184 : decode cX9_tellPath 184 = .ok (.iastore, 1) := by decide +kernel
theorem dX9_tellPath_185 : decode cX9_tellPath 185 = .ok (.goto 12, 3) := by decide +kernel
theorem dX9_tellPath_188 : decode cX9_tellPath 188 = .ok (.aload_n 0, 1) := by decide +kernel
theorem dX9_tellPath_189 : decode cX9_tellPath 189 = .ok (.getfield 86, 3) := by decide +kernel
theorem dX9_tellPath_192 : decode cX9_tellPath 192 = .ok (.iload 4, 2) := by decide +kernel
theorem dX9_tellPath_194 : decode cX9_tellPath 194 = .ok (.iload 5, 2) := by decide +kernel
theorem dX9_tellPath_196 : decode cX9_tellPath 196 = .ok (.iastore, 1) := by decide +kernel
theorem dX9_tellPath_197 : decode cX9_tellPath 197 = .ok (.iinc 4 (-1), 3) := by decide +kernel
theorem dX9_tellPath_200 : decode cX9_tellPath 200 = .ok (.goto (-177), 3) := by decide +kernel
theorem dX9_tellPath_203 : decode cX9_tellPath 203 = .ok (.return_, 1) := by decide +kernel
theorem dX9_path_0 : decode cX9_path 0 = .ok (.aload_n 0, 1) := by decide +kernel
theorem dX9_path_1 : decode cX9_path 1 = .ok (.iconst 0, 1) := by decide +kernel
theorem dX9_path_2 : decode cX9_path 2 = .ok (.putfield 132, 3) := by decide +kernel
theorem dX9_path_5 : decode cX9_path 5 = .ok (.aload_n 0, 1) := by decide +kernel
theorem dX9_path_6 : decode cX9_path 6 = .ok (.iload_n 1, 1) := by decide +kernel
theorem dX9_path_7 : decode cX9_path 7 = .ok (.invokevirtual 310, 3) := by decide +kernel
theorem dX9_path_10 : decode cX9_path 10 = .ok (.ifCond .eq 18, 3) := by decide +kernel
theorem dX9_path_13 : decode cX9_path 13 = .ok (.iload_n 3, 1) := by decide +kernel
theorem dX9_path_14 : decode cX9_path 14 = .ok (.i2l, 1) := by decide +kernel
theorem dX9_path_15 : decode cX9_path 15 = .ok (.lconst 0, 1) := by decide +kernel
theorem dX9_path_16 : decode cX9_path 16 = .ok (.aload_n 0, 1) := by decide +kernel
theorem dX9_path_17 : decode cX9_path 17 = .ok (.iload_n 1, 1) := by decide +kernel
theorem dX9_path_18 : decode cX9_path 18 = .ok (.invokevirtual 337, 3) := by decide +kernel
theorem dX9_path_21 : decode cX9_path 21 = .ok (.i2l, 1) := by decide +kernel
theorem dX9_path_22 : decode cX9_path 22 = .ok (.invokestatic 166, 3) := by decide +kernel
theorem dX9_path_25 : decode cX9_path 25 = .ok (.ifCond .ne 9, 3) := by decide +kernel
theorem dX9_path_28 : decode cX9_path 28 = .ok (.aload_n 0, 1) := by decide +kernel
theorem dX9_path_29 : decode cX9_path 29 = .ok (.iconst 1, 1) := by decide +kernel
theorem dX9_path_30 : decode cX9_path 30 = .ok (.invokevirtual 313, 3) := by decide +kernel
theorem dX9_path_33 : decode cX9_path 33 = .ok (.ireturn, 1) := by decide +kernel
theorem dX9_path_34 : decode cX9_path 34 = .ok (.iload_n 2, 1) := by decide +kernel
theorem dX9_path_35 : decode cX9_path 35 = .ok (.invokestatic 353, 3) := by decide +kernel
theorem dX9_path_38 : decode cX9_path 38 = .ok (.ifCond .ne 9, 3) := by decide +kernel
theorem dX9_path_41 : decode cX9_path 41 = .ok (.aload_n 0, 1) := by decide +kernel
theorem dX9_path_42 : decode cX9_path 42 = .ok (.iconst 2, 1) := by decide +kernel
theorem dX9_path_43 : decode cX9_path 43 = .ok (.invokevirtual 313, 3) := by decide +kernel
theorem dX9_path_46 : decode cX9_path 46 = .ok (.ireturn, 1) := by decide +kernel
theorem dX9_path_47 : decode cX9_path 47 = .ok (.aload_n 0, 1) := by decide +kernel
theorem dX9_path_48 : decode cX9_path 48 = .ok (.iload_n 1, 1) := by decide +kernel
theorem dX9_path_49 : decode cX9_path 49 = .ok (.iload_n 2, 1) := by decide +kernel
theorem dX9_path_50 : decode cX9_path 50 = .ok (.invokevirtual 369, 3) := by decide +kernel
theorem dX9_path_53 : decode cX9_path 53 = .ok (.aload_n 0, 1) := by decide +kernel
theorem dX9_path_54 : decode cX9_path 54 = .ok (.getfield 86, 3) := by decide +kernel
theorem dX9_path_57 : decode cX9_path 57 = .ok (.iload_n 3, 1) := by decide +kernel
theorem dX9_path_58 : decode cX9_path 58 = .ok (.iaload, 1) := by decide +kernel
theorem dX9_path_59 : decode cX9_path 59 = .ok (.ireturn, 1) := by decide +kernel
theorem dX9_paid_0 : decode cX9_paid 0 = .ok (.aload_n 0, 1) := by decide +kernel
theorem dX9_paid_1 : decode cX9_paid 1 = .ok (.iconst 0, 1) := by decide +kernel
theorem dX9_paid_2 : decode cX9_paid 2 = .ok (.putfield 132, 3) := by decide +kernel
theorem dX9_paid_5 : decode cX9_paid 5 = .ok (.aload_n 0, 1) := by decide +kernel
theorem dX9_paid_6 : decode cX9_paid 6 = .ok (.iload_n 1, 1) := by decide +kernel
theorem dX9_paid_7 : decode cX9_paid 7 = .ok (.iload_n 3, 1) := by decide +kernel
theorem dX9_paid_8 : decode cX9_paid 8 = .ok (.invokevirtual 340, 3) := by decide +kernel
theorem dX9_paid_11 : decode cX9_paid 11 = .ok (.ifCond .ne 10, 3) := by decide +kernel
theorem dX9_paid_14 : decode cX9_paid 14 = .ok (.aload_n 0, 1) := by decide +kernel
theorem dX9_paid_15 : decode cX9_paid 15 = .ok (.iconst 1, 1) := by decide +kernel
theorem dX9_paid_16 : decode cX9_paid 16 = .ok (.invokevirtual 313, 3) := by decide +kernel
theorem dX9_paid_19 : decode cX9_paid 19 = .ok (.i2l, 1) := by decide +kernel
theorem dX9_paid_20 : decode cX9_paid 20 = .ok (.lreturn, 1) := by decide +kernel
theorem dX9_paid_21 : decode cX9_paid 21 = .ok (.iload_n 2, 1) := by decide +kernel
theorem dX9_paid_22 : decode cX9_paid 22 = .ok (.invokestatic 353, 3) := by decide +kernel
theorem dX9_paid_25 : decode cX9_paid 25 = .ok (.ifCond .ne 10, 3) := by decide +kernel
theorem dX9_paid_28 : decode cX9_paid 28 = .ok (.aload_n 0, 1) := by decide +kernel
theorem dX9_paid_29 : decode cX9_paid 29 = .ok (.iconst 2, 1) := by decide +kernel
theorem dX9_paid_30 : decode cX9_paid 30 = .ok (.invokevirtual 313, 3) := by decide +kernel
theorem dX9_paid_33 : decode cX9_paid 33 = .ok (.i2l, 1) := by decide +kernel
theorem dX9_paid_34 : decode cX9_paid 34 = .ok (.lreturn, 1) := by decide +kernel
theorem dX9_paid_35 : decode cX9_paid 35 = .ok (.aload_n 0, 1) := by decide +kernel
theorem dX9_paid_36 : decode cX9_paid 36 = .ok (.iload_n 1, 1) := by decide +kernel
theorem dX9_paid_37 : decode cX9_paid 37 = .ok (.iload_n 2, 1) := by decide +kernel
theorem dX9_paid_38 : decode cX9_paid 38 = .ok (.invokevirtual 369, 3) := by decide +kernel
theorem dX9_paid_41 : decode cX9_paid 41 = .ok (.aload_n 0, 1) := by decide +kernel
theorem dX9_paid_42 : decode cX9_paid 42 = .ok (.iload_n 1, 1) := by decide +kernel
theorem dX9_paid_43 : decode cX9_paid 43 = .ok (.iload_n 3, 1) := by decide +kernel
theorem dX9_paid_44 : decode cX9_paid 44 = .ok (.iconst 1, 1) := by decide +kernel
theorem dX9_paid_45 : decode cX9_paid 45 = .ok (.invokevirtual 346, 3) := by decide +kernel
theorem dX9_paid_48 : decode cX9_paid 48 = .ok (.istore 4, 2) := by decide +kernel
theorem dX9_paid_50 : decode cX9_paid 50 = .ok (.aload_n 0, 1) := by decide +kernel
theorem dX9_paid_51 : decode cX9_paid 51 = .ok (.iload_n 1, 1) := by decide +kernel
theorem dX9_paid_52 : decode cX9_paid 52 = .ok (.iload_n 3, 1) := by decide +kernel
theorem dX9_paid_53 : decode cX9_paid 53 = .ok (.iconst 2, 1) := by decide +kernel
theorem dX9_paid_54 : decode cX9_paid 54 = .ok (.invokevirtual 346, 3) := by decide +kernel
theorem dX9_paid_57 : decode cX9_paid 57 = .ok (.i2l, 1) := by decide +kernel
theorem dX9_paid_58 : decode cX9_paid 58 = .ok (.lstore 5, 2) := by decide +kernel
theorem dX9_paid_60 : decode cX9_paid 60 = .ok (.aload_n 0, 1) := by decide +kernel
theorem dX9_paid_61 : decode cX9_paid 61 = .ok (.getfield 86, 3) := by decide +kernel
theorem dX9_paid_64 : decode cX9_paid 64 = .ok (.iload_n 3, 1) := by decide +kernel
theorem dX9_paid_65 : decode cX9_paid 65 = .ok (.iconst 1, 1) := by decide +kernel
theorem dX9_paid_66 : decode cX9_paid 66 = .ok (.iadd, 1) := by decide +kernel
theorem dX9_paid_67 : decode cX9_paid 67 = .ok (.iaload, 1) := by decide +kernel
theorem dX9_paid_68 : decode cX9_paid 68 = .ok (.istore 7, 2) := by decide +kernel
theorem dX9_paid_70 : decode cX9_paid 70 = .ok (.aload_n 0, 1) := by decide +kernel
theorem dX9_paid_71 : decode cX9_paid 71 = .ok (.iload_n 1, 1) := by decide +kernel
theorem dX9_paid_72 : decode cX9_paid 72 = .ok (.iload_n 3, 1) := by decide +kernel
theorem dX9_paid_73 : decode cX9_paid 73 = .ok (.iconst 0, 1) := by decide +kernel
theorem dX9_paid_74 : decode cX9_paid 74 = .ok (.invokevirtual 346, 3) := by decide +kernel
theorem dX9_paid_77 : decode cX9_paid 77 = .ok (.tableswitch 114 0 8 #[51, 64, 78, 114, 114, 114, 114, 92, 96], 51) := by decide +kernel
theorem dX9_paid_128 : decode cX9_paid 128 = .ok (.lload 5, 2) := by decide +kernel
theorem dX9_paid_130 : decode cX9_paid 130 = .ok (.iload 7, 2) := by decide +kernel
theorem dX9_paid_132 : decode cX9_paid 132 = .ok (.iload 4, 2) := by decide +kernel
theorem dX9_paid_134 : decode cX9_paid 134 = .ok (.isub, 1) := by decide +kernel
theorem dX9_paid_135 : decode cX9_paid 135 = .ok (.invokestatic 372, 3) := by decide +kernel
theorem dX9_paid_138 : decode cX9_paid 138 = .ok (.i2l, 1) := by decide +kernel
theorem dX9_paid_139 : decode cX9_paid 139 = .ok (.lmul, 1) := by decide +kernel
theorem dX9_paid_140 : decode cX9_paid 140 = .ok (.lreturn, 1) := by decide +kernel
theorem dX9_paid_141 : decode cX9_paid 141 = .ok (.lload 5, 2) := by decide +kernel
theorem dX9_paid_143 : decode cX9_paid 143 = .ok (.iconst 0, 1) := by decide +kernel
theorem dX9_paid_144 : decode cX9_paid 144 = .ok (.iload 7, 2) := by decide +kernel
theorem dX9_paid_146 : decode cX9_paid 146 = .ok (.iload 4, 2) := by decide +kernel
theorem dX9_paid_148 : decode cX9_paid 148 = .ok (.isub, 1) := by decide +kernel
theorem dX9_paid_149 : decode cX9_paid 149 = .ok (.invokestatic 186, 3) := by decide +kernel
theorem dX9_paid_152 : decode cX9_paid 152 = .ok (.i2l, 1) := by decide +kernel
theorem dX9_paid_153 : decode cX9_paid 153 = .ok (.lmul, 1) := by decide +kernel
theorem dX9_paid_154 : decode cX9_paid 154 = .ok (.lreturn, 1) := by decide +kernel
theorem dX9_paid_155 : decode cX9_paid 155 = .ok (.lload 5, 2) := by decide +kernel
theorem dX9_paid_157 : decode cX9_paid 157 = .ok (.iconst 0, 1) := by decide +kernel
theorem dX9_paid_158 : decode cX9_paid 158 = .ok (.iload 4, 2) := by decide +kernel
theorem dX9_paid_160 : decode cX9_paid 160 = .ok (.iload 7, 2) := by decide +kernel
theorem dX9_paid_162 : decode cX9_paid 162 = .ok (.isub, 1) := by decide +kernel
theorem dX9_paid_163 : decode cX9_paid 163 = .ok (.invokestatic 186, 3) := by decide +kernel
theorem dX9_paid_166 : decode cX9_paid 166 = .ok (.i2l, 1) := by decide +kernel
theorem dX9_paid_167 : decode cX9_paid 167 = .ok (.lmul, 1) := by decide +kernel
theorem dX9_paid_168 : decode cX9_paid 168 = .ok (.lreturn, 1) := by decide +kernel
theorem dX9_paid_169 : decode cX9_paid 169 = .ok (.iload 4, 2) := by decide +kernel
theorem dX9_paid_171 : decode cX9_paid 171 = .ok (.i2l, 1) := by decide +kernel
theorem dX9_paid_172 : decode cX9_paid 172 = .ok (.lreturn, 1) := by decide +kernel
theorem dX9_paid_173 : decode cX9_paid 173 = .ok (.aload_n 0, 1) := by decide +kernel
theorem dX9_paid_174 : decode cX9_paid 174 = .ok (.getfield 50, 3) := by decide +kernel
theorem dX9_paid_177 : decode cX9_paid 177 = .ok (.aload_n 0, 1) := by decide +kernel
theorem dX9_paid_178 : decode cX9_paid 178 = .ok (.iload_n 1, 1) := by decide +kernel
theorem dX9_paid_179 : decode cX9_paid 179 = .ok (.iload_n 3, 1) := by decide +kernel
theorem dX9_paid_180 : decode cX9_paid 180 = .ok (.iconst 3, 1) := by decide +kernel
theorem dX9_paid_181 : decode cX9_paid 181 = .ok (.invokevirtual 346, 3) := by decide +kernel
theorem dX9_paid_184 : decode cX9_paid 184 = .ok (.aaload, 1) := by decide +kernel
theorem dX9_paid_185 : decode cX9_paid 185 = .ok (.iload 7, 2) := by decide +kernel
theorem dX9_paid_187 : decode cX9_paid 187 = .ok (.invokestatic 158, 3) := by decide +kernel
theorem dX9_paid_190 : decode cX9_paid 190 = .ok (.lreturn, 1) := by decide +kernel
theorem dX9_paid_191 : decode cX9_paid 191 = .ok (.lconst 0, 1) := by decide +kernel
theorem dX9_paid_192 : decode cX9_paid 192 = .ok (.lreturn, 1) := by decide +kernel
theorem dX9_stretch_0 : decode cX9_stretch 0 = .ok (.aload_n 0, 1) := by decide +kernel
theorem dX9_stretch_1 : decode cX9_stretch 1 = .ok (.iconst 0, 1) := by decide +kernel
theorem dX9_stretch_2 : decode cX9_stretch 2 = .ok (.putfield 132, 3) := by decide +kernel
theorem dX9_stretch_5 : decode cX9_stretch 5 = .ok (.aload_n 0, 1) := by decide +kernel
theorem dX9_stretch_6 : decode cX9_stretch 6 = .ok (.iload_n 1, 1) := by decide +kernel
theorem dX9_stretch_7 : decode cX9_stretch 7 = .ok (.invokevirtual 310, 3) := by decide +kernel
theorem dX9_stretch_10 : decode cX9_stretch 10 = .ok (.ifCond .eq 10, 3) := by decide +kernel
theorem dX9_stretch_13 : decode cX9_stretch 13 = .ok (.iload_n 2, 1) := by decide +kernel
theorem dX9_stretch_14 : decode cX9_stretch 14 = .ok (.invokestatic 353, 3) := by decide +kernel
theorem dX9_stretch_17 : decode cX9_stretch 17 = .ok (.ifCond .ne 21, 3) := by decide +kernel
theorem dX9_stretch_20 : decode cX9_stretch 20 = .ok (.aload_n 0, 1) := by decide +kernel
theorem dX9_stretch_21 : decode cX9_stretch 21 = .ok (.aload_n 0, 1) := by decide +kernel
theorem dX9_stretch_22 : decode cX9_stretch 22 = .ok (.iload_n 1, 1) := by decide +kernel
theorem dX9_stretch_23 : decode cX9_stretch 23 = .ok (.invokevirtual 310, 3) := by decide +kernel
theorem dX9_stretch_26 : decode cX9_stretch 26 = .ok (.ifCond .eq 7, 3) := by decide +kernel
theorem dX9_stretch_29 : decode cX9_stretch 29 = .ok (.iconst 2, 1) := by decide +kernel
theorem dX9_stretch_30 : decode cX9_stretch 30 = .ok (.goto 4, 3) := by decide +kernel
theorem dX9_stretch_33 : decode cX9_stretch 33 = .ok (.iconst 1, 1) := by decide +kernel
theorem dX9_stretch_34 : decode cX9_stretch 34 = .ok (.invokevirtual 313, 3) := by decide +kernel
theorem dX9_stretch_37 : decode cX9_stretch 37 = .ok (.ireturn, 1) := by decide +kernel
theorem dX9_stretch_38 : decode cX9_stretch 38 = .ok (.aload_n 0, 1) := by decide +kernel
theorem dX9_stretch_39 : decode cX9_stretch 39 = .ok (.iload_n 1, 1) := by decide +kernel
theorem dX9_stretch_40 : decode cX9_stretch 40 = .ok (.iload_n 2, 1) := by decide +kernel
theorem dX9_stretch_41 : decode cX9_stretch 41 = .ok (.invokevirtual 369, 3) := by decide +kernel
theorem dX9_stretch_44 : decode cX9_stretch 44 = .ok (.iconst 0, 1) := by decide +kernel
theorem dX9_stretch_45 : decode cX9_stretch 45 = .ok (.istore_n 3, 1) := by decide +kernel
theorem dX9_stretch_46 : decode cX9_stretch 46 = .ok (.iconst 0, 1) := by decide +kernel
theorem dX9_stretch_47 : decode cX9_stretch 47 = .ok (.istore 4, 2) := by decide +kernel
