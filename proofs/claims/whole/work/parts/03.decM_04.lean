theorem dX12_least_6 : decode cX12_least 6 = .ok (.iload_n 1, 1) := by decide +kernel
theorem dX12_least_7 : decode cX12_least 7 = .ok (.invokevirtual 310, 3) := by decide +kernel
theorem dX12_least_10 : decode cX12_least 10 = .ok (.ifCond .ne 10, 3) := by decide +kernel
theorem dX12_least_13 : decode cX12_least 13 = .ok (.aload_n 0, 1) := by decide +kernel
theorem dX12_least_14 : decode cX12_least 14 = .ok (.iconst 1, 1) := by decide +kernel
theorem dX12_least_15 : decode cX12_least 15 = .ok (.invokevirtual 313, 3) := by decide +kernel
theorem dX12_least_18 : decode cX12_least 18 = .ok (.i2l, 1) := by decide +kernel
theorem dX12_least_19 : decode cX12_least 19 = .ok (.lreturn, 1) := by decide +kernel
theorem dX12_least_20 : decode cX12_least 20 = .ok (.aload_n 0, 1) := by decide +kernel
theorem dX12_least_21 : decode cX12_least 21 = .ok (.iload_n 1, 1) := by decide +kernel
theorem dX12_least_22 : decode cX12_least 22 = .ok (.invokevirtual 227, 3) := by decide +kernel
theorem dX12_least_25 : decode cX12_least 25 = .ok (.aload_n 0, 1) := by decide +kernel
theorem dX12_least_26 : decode cX12_least 26 = .ok (.getfield 40, 3) := by decide +kernel
theorem dX12_least_29 : decode cX12_least 29 = .ok (.invokestatic 182, 3) := by decide +kernel
theorem dX12_least_32 : decode cX12_least 32 = .ok (.lreturn, 1) := by decide +kernel
theorem dX12_somewhere_0 : decode cX12_somewhere 0 = .ok (.iload_n 0, 1) := by decide +kernel
theorem dX12_somewhere_1 : decode cX12_somewhere 1 = .ok (.i2l, 1) := by decide +kernel
theorem dX12_somewhere_2 : decode cX12_somewhere 2 = .ok (.ldc2_w 356, 3) := by decide +kernel
theorem dX12_somewhere_5 : decode cX12_somewhere 5 = .ok (.ldc2_w 358, 3) := by decide +kernel
theorem dX12_somewhere_8 : decode cX12_somewhere 8 = .ok (.invokestatic 166, 3) := by decide +kernel
theorem dX12_somewhere_11 : decode cX12_somewhere 11 = .ok (.ifCond .eq 7, 3) := by decide +kernel
theorem dX12_somewhere_14 : decode cX12_somewhere 14 = .ok (.iload_n 0, 1) := by decide +kernel
theorem dX12_somewhere_15 : decode cX12_somewhere 15 = .ok (.goto 6, 3) := by decide +kernel
theorem dX12_somewhere_18 : decode cX12_somewhere 18 = .ok (.ldc_w 360, 3) := by decide +kernel
theorem dX12_somewhere_21 : decode cX12_somewhere 21 = .ok (.ireturn, 1) := by decide +kernel
theorem dX12_flat_0 : decode cX12_flat 0 = .ok (.aload_n 0, 1) := by decide +kernel
theorem dX12_flat_1 : decode cX12_flat 1 = .ok (.iconst 0, 1) := by decide +kernel
theorem dX12_flat_2 : decode cX12_flat 2 = .ok (.putfield 132, 3) := by decide +kernel
theorem dX12_flat_5 : decode cX12_flat 5 = .ok (.aload_n 0, 1) := by decide +kernel
theorem dX12_flat_6 : decode cX12_flat 6 = .ok (.iload_n 1, 1) := by decide +kernel
theorem dX12_flat_7 : decode cX12_flat 7 = .ok (.invokevirtual 310, 3) := by decide +kernel
theorem dX12_flat_10 : decode cX12_flat 10 = .ok (.ifCond .eq 15, 3) := by decide +kernel
theorem dX12_flat_13 : decode cX12_flat 13 = .ok (.iload_n 2, 1) := by decide +kernel
theorem dX12_flat_14 : decode cX12_flat 14 = .ok (.i2l, 1) := by decide +kernel
theorem dX12_flat_15 : decode cX12_flat 15 = .ok (.lconst 0, 1) := by decide +kernel
theorem dX12_flat_16 : decode cX12_flat 16 = .ok (.ldc2_w 361, 3) := by decide +kernel
theorem dX12_flat_19 : decode cX12_flat 19 = .ok (.invokestatic 166, 3) := by decide +kernel
theorem dX12_flat_22 : decode cX12_flat 22 = .ok (.ifCond .ne 9, 3) := by decide +kernel
theorem dX12_flat_25 : decode cX12_flat 25 = .ok (.aload_n 0, 1) := by decide +kernel
theorem dX12_flat_26 : decode cX12_flat 26 = .ok (.iconst 1, 1) := by decide +kernel
theorem dX12_flat_27 : decode cX12_flat 27 = .ok (.invokevirtual 313, 3) := by decide +kernel
theorem dX12_flat_30 : decode cX12_flat 30 = .ok (.ireturn, 1) := by decide +kernel
theorem dX12_flat_31 : decode cX12_flat 31 = .ok (.aload_n 0, 1) := by decide +kernel
theorem dX12_flat_32 : decode cX12_flat 32 = .ok (.iload_n 1, 1) := by decide +kernel
theorem dX12_flat_33 : decode cX12_flat 33 = .ok (.invokevirtual 227, 3) := by decide +kernel
theorem dX12_flat_36 : decode cX12_flat 36 = .ok (.aload_n 0, 1) := by decide +kernel
theorem dX12_flat_37 : decode cX12_flat 37 = .ok (.getfield 40, 3) := by decide +kernel
theorem dX12_flat_40 : decode cX12_flat 40 = .ok (.invokestatic 147, 3) := by decide +kernel
theorem dX12_flat_43 : decode cX12_flat 43 = .ok (.istore_n 3, 1) := by decide +kernel
theorem dX12_flat_44 : decode cX12_flat 44 = .ok (.aload_n 0, 1) := by decide +kernel
theorem dX12_flat_45 : decode cX12_flat 45 = .ok (.getfield 40, 3) := by decide +kernel
theorem dX12_flat_48 : decode cX12_flat 48 = .ok (.invokestatic 151, 3) := by decide +kernel
theorem dX12_flat_51 : decode cX12_flat 51 = .ok (.istore 4, 2) := by decide +kernel
theorem dX12_flat_53 : decode cX12_flat 53 = .ok (.iload_n 2, 1) := by decide +kernel
theorem dX12_flat_54 : decode cX12_flat 54 = .ok (.ifCond .ne 10, 3) := by decide +kernel
theorem dX12_flat_57 : decode cX12_flat 57 = .ok (.iload_n 3, 1) := by decide +kernel
theorem dX12_flat_58 : decode cX12_flat 58 = .ok (.invokestatic 363, 3) := by decide +kernel
theorem dX12_flat_61 : decode cX12_flat 61 = .ok (.goto 53, 3) := by decide +kernel
theorem dX12_flat_64 : decode cX12_flat 64 = .ok (.iload_n 2, 1) := by decide +kernel
theorem dX12_flat_65 : decode cX12_flat 65 = .ok (.iconst 1, 1) := by decide +kernel
theorem dX12_flat_66 : decode cX12_flat 66 = .ok (.if_icmp .ne 11, 3) := by decide +kernel
theorem dX12_flat_69 : decode cX12_flat 69 = .ok (.iload 4, 2) := by decide +kernel
theorem dX12_flat_71 : decode cX12_flat 71 = .ok (.invokestatic 363, 3) := by decide +kernel
theorem dX12_flat_74 : decode cX12_flat 74 = .ok (.goto 40, 3) := by decide +kernel
theorem dX12_flat_77 : decode cX12_flat 77 = .ok (.iload_n 2, 1) := by decide +kernel
theorem dX12_flat_78 : decode cX12_flat 78 = .ok (.iconst 2, 1) := by decide +kernel
theorem dX12_flat_79 : decode cX12_flat 79 = .ok (.if_icmp .ne 13, 3) := by decide +kernel
theorem dX12_flat_82 : decode cX12_flat 82 = .ok (.iload_n 3, 1) := by decide +kernel
theorem dX12_flat_83 : decode cX12_flat 83 = .ok (.iload 4, 2) := by decide +kernel
theorem dX12_flat_85 : decode cX12_flat 85 = .ok (.iconst 0, 1) := by decide +kernel
theorem dX12_flat_86 : decode cX12_flat 86 = .ok (.invokestatic 154, 3) := by decide +kernel
theorem dX12_flat_89 : decode cX12_flat 89 = .ok (.goto 25, 3) := by decide +kernel
theorem dX12_flat_92 : decode cX12_flat 92 = .ok (.iload_n 2, 1) := by decide +kernel
theorem dX12_flat_93 : decode cX12_flat 93 = .ok (.iconst 3, 1) := by decide +kernel
theorem dX12_flat_94 : decode cX12_flat 94 = .ok (.if_icmp .ne 13, 3) := by decide +kernel
theorem dX12_flat_97 : decode cX12_flat 97 = .ok (.aload_n 0, 1) := by decide +kernel
theorem dX12_flat_98 : decode cX12_flat 98 = .ok (.getfield 40, 3) := by decide +kernel
theorem dX12_flat_101 : decode cX12_flat 101 = .ok (.invokestatic 366, 3) := by decide +kernel
theorem dX12_flat_104 : decode cX12_flat 104 = .ok (.goto 10, 3) := by decide +kernel
theorem dX12_flat_107 : decode cX12_flat 107 = .ok (.aload_n 0, 1) := by decide +kernel
theorem dX12_flat_108 : decode cX12_flat 108 = .ok (.getfield 40, 3) := by decide +kernel
theorem dX12_flat_111 : decode cX12_flat 111 = .ok (.invokestatic 205, 3) := by decide +kernel
theorem dX12_flat_114 : decode cX12_flat 114 = .ok (.ireturn, 1) := by decide +kernel
theorem dX12_kink_0 : decode cX12_kink 0 = .ok (.aload_n 0, 1) := by decide +kernel
theorem dX12_kink_1 : decode cX12_kink 1 = .ok (.iconst 0, 1) := by decide +kernel
theorem dX12_kink_2 : decode cX12_kink 2 = .ok (.putfield 132, 3) := by decide +kernel
theorem dX12_kink_5 : decode cX12_kink 5 = .ok (.aload_n 0, 1) := by decide +kernel
theorem dX12_kink_6 : decode cX12_kink 6 = .ok (.iload_n 1, 1) := by decide +kernel
theorem dX12_kink_7 : decode cX12_kink 7 = .ok (.invokevirtual 310, 3) := by decide +kernel
theorem dX12_kink_10 : decode cX12_kink 10 = .ok (.ifCond .eq 17, 3) := by decide +kernel
theorem dX12_kink_13 : decode cX12_kink 13 = .ok (.iload_n 3, 1) := by decide +kernel
theorem dX12_kink_14 : decode cX12_kink 14 = .ok (.i2l, 1) := by decide +kernel
theorem dX12_kink_15 : decode cX12_kink 15 = .ok (.lconst 0, 1) := by decide +kernel
theorem dX12_kink_16 : decode cX12_kink 16 = .ok (.lconst 1, 1) := by decide +kernel
theorem dX12_kink_17 : decode cX12_kink 17 = .ok (.invokestatic 166, 3) := by decide +kernel
theorem dX12_kink_20 : decode cX12_kink 20 = .ok (.ifCond .eq 7, 3) := by decide +kernel
theorem dX12_kink_23 : decode cX12_kink 23 = .ok (.iload_n 2, 1) := by decide +kernel
theorem dX12_kink_24 : decode cX12_kink 24 = .ok (.ifCond .ge 9, 3) := by decide +kernel
theorem dX12_kink_27 : decode cX12_kink 27 = .ok (.aload_n 0, 1) := by decide +kernel
theorem dX12_kink_28 : decode cX12_kink 28 = .ok (.iconst 1, 1) := by decide +kernel
theorem dX12_kink_29 : decode cX12_kink 29 = .ok (.invokevirtual 313, 3) := by decide +kernel
theorem dX12_kink_32 : decode cX12_kink 32 = .ok (.ireturn, 1) := by decide +kernel
theorem dX12_kink_33 : decode cX12_kink 33 = .ok (.aload_n 0, 1) := by decide +kernel
theorem dX12_kink_34 : decode cX12_kink 34 = .ok (.iload_n 1, 1) := by decide +kernel
theorem dX12_kink_35 : decode cX12_kink 35 = .ok (.invokevirtual 227, 3) := by decide +kernel
theorem dX12_kink_38 : decode cX12_kink 38 = .ok (.iload_n 2, 1) := by decide +kernel
theorem dX12_kink_39 : decode cX12_kink 39 = .ok (.istore 4, 2) := by decide +kernel
theorem dX12_kink_41 : decode cX12_kink 41 = .ok (.iconst 0, 1) := by decide +kernel
theorem dX12_kink_42 : decode cX12_kink 42 = .ok (.istore 5, 2) := by decide +kernel
theorem dX12_kink_44 : decode cX12_kink 44 = .ok (.iload 5, 2) := by decide +kernel
theorem dX12_kink_46 : decode cX12_kink 46 = .ok (.sipush 10001, 3) := by decide +kernel
theorem dX12_kink_49 : decode cX12_kink 49 = .ok (.if_icmp .ge 55, 3) := by decide +kernel
theorem dX12_kink_52 : decode cX12_kink 52 = .ok (.aload_n 0, 1) := by decide +kernel
theorem dX12_kink_53 : decode cX12_kink 53 = .ok (.getfield 40, 3) := by decide +kernel
theorem dX12_kink_56 : decode cX12_kink 56 = .ok (.iconst 2, 1) := by decide +kernel
theorem dX12_kink_57 : decode cX12_kink 57 = .ok (.iload 5, 2) := by decide +kernel
theorem dX12_kink_59 : decode cX12_kink 59 = .ok (.iadd, 1) := by decide +kernel
theorem dX12_kink_60 : decode cX12_kink 60 = .ok (.iaload, 1) := by decide +kernel
theorem dX12_kink_61 : decode cX12_kink 61 = .ok (.ifCond .ne 6, 3) := by decide +kernel
theorem dX12_kink_64 : decode cX12_kink 64 = .ok (.goto 34, 3) := by decide +kernel
theorem dX12_kink_67 : decode cX12_kink 67 = .ok (.iload 4, 2) := by decide +kernel
theorem dX12_kink_69 : decode cX12_kink 69 = .ok (.ifCond .ne 26, 3) := by decide +kernel
theorem dX12_kink_72 : decode cX12_kink 72 = .ok (.iload_n 3, 1) := by decide +kernel
theorem dX12_kink_73 : decode cX12_kink 73 = .ok (.ifCond .ne 12, 3) := by decide +kernel
theorem dX12_kink_76 : decode cX12_kink 76 = .ok (.iload 5, 2) := by decide +kernel
theorem dX12_kink_78 : decode cX12_kink 78 = .ok (.sipush 5000, 3) := by decide +kernel
theorem dX12_kink_81 : decode cX12_kink 81 = .ok (.isub, 1) := by decide +kernel
theorem dX12_kink_82 : decode cX12_kink 82 = .ok (.goto 12, 3) := by decide +kernel
theorem dX12_kink_85 : decode cX12_kink 85 = .ok (.aload_n 0, 1) := by decide +kernel
theorem dX12_kink_86 : decode cX12_kink 86 = .ok (.getfield 40, 3) := by decide +kernel
theorem dX12_kink_89 : decode cX12_kink 89 = .ok (.iconst 2, 1) := by decide +kernel
theorem dX12_kink_90 : decode cX12_kink 90 = .ok (.iload 5, 2) := by decide +kernel
theorem dX12_kink_92 : decode cX12_kink 92 = .ok (.iadd, 1) := by decide +kernel
theorem dX12_kink_93 : decode cX12_kink 93 = .ok (.iaload, 1) := by decide +kernel
theorem dX12_kink_94 : decode cX12_kink 94 = .ok (.ireturn, 1) := by decide +kernel
theorem dX12_kink_95 : decode cX12_kink 95 = .ok (.iinc 4 (-1), 3) := by decide +kernel
theorem dX12_kink_98 : decode cX12_kink 98 = .ok (.iinc 5 1, 3) := by decide +kernel
theorem dX12_kink_101 : decode cX12_kink 101 = .ok (.goto (-57), 3) := by decide +kernel
theorem dX12_kink_104 : decode cX12_kink 104 = .ok (.aload_n 0, 1) := by decide +kernel
theorem dX12_kink_105 : decode cX12_kink 105 = .ok (.iconst 1, 1) := by decide +kernel
theorem dX12_kink_106 : decode cX12_kink 106 = .ok (.invokevirtual 313, 3) := by decide +kernel
theorem dX12_kink_109 : decode cX12_kink 109 = .ok (.ireturn, 1) := by decide +kernel
theorem dX12_slope_0 : decode cX12_slope 0 = .ok (.aload_n 0, 1) := by decide +kernel
theorem dX12_slope_1 : decode cX12_slope 1 = .ok (.iconst 0, 1) := by decide +kernel
theorem dX12_slope_2 : decode cX12_slope 2 = .ok (.putfield 132, 3) := by decide +kernel
theorem dX12_slope_5 : decode cX12_slope 5 = .ok (.aload_n 0, 1) := by decide +kernel
theorem dX12_slope_6 : decode cX12_slope 6 = .ok (.iload_n 1, 1) := by decide +kernel
theorem dX12_slope_7 : decode cX12_slope 7 = .ok (.invokevirtual 310, 3) := by decide +kernel
theorem dX12_slope_10 : decode cX12_slope 10 = .ok (.ifCond .eq 13, 3) := by decide +kernel
theorem dX12_slope_13 : decode cX12_slope 13 = .ok (.iload_n 3, 1) := by decide +kernel
theorem dX12_slope_14 : decode cX12_slope 14 = .ok (.i2l, 1) := by decide +kernel
theorem dX12_slope_15 : decode cX12_slope 15 = .ok (.lconst 0, 1) := by decide +kernel
theorem dX12_slope_16 : decode cX12_slope 16 = .ok (.lconst 1, 1) := by decide +kernel
theorem dX12_slope_17 : decode cX12_slope 17 = .ok (.invokestatic 166, 3) := by decide +kernel
theorem dX12_slope_20 : decode cX12_slope 20 = .ok (.ifCond .ne 9, 3) := by decide +kernel
theorem dX12_slope_23 : decode cX12_slope 23 = .ok (.aload_n 0, 1) := by decide +kernel
theorem dX12_slope_24 : decode cX12_slope 24 = .ok (.iconst 1, 1) := by decide +kernel
theorem dX12_slope_25 : decode cX12_slope 25 = .ok (.invokevirtual 313, 3) := by decide +kernel
theorem dX12_slope_28 : decode cX12_slope 28 = .ok (.ireturn, 1) := by decide +kernel
theorem dX12_slope_29 : decode cX12_slope 29 = .ok (.iload_n 2, 1) := by decide +kernel
theorem dX12_slope_30 : decode cX12_slope 30 = .ok (.invokestatic 353, 3) := by decide +kernel
theorem dX12_slope_33 : decode cX12_slope 33 = .ok (.ifCond .ne 9, 3) := by decide +kernel
theorem dX12_slope_36 : decode cX12_slope 36 = .ok (.aload_n 0, 1) := by decide +kernel
theorem dX12_slope_37 : decode cX12_slope 37 = .ok (.iconst 2, 1) := by decide +kernel
theorem dX12_slope_38 : decode cX12_slope 38 = .ok (.invokevirtual 313, 3) := by decide +kernel
theorem dX12_slope_41 : decode cX12_slope 41 = .ok (.ireturn, 1) := by decide +kernel
theorem dX12_slope_42 : decode cX12_slope 42 = .ok (.aload_n 0, 1) := by decide +kernel
theorem dX12_slope_43 : decode cX12_slope 43 = .ok (.iload_n 1, 1) := by decide +kernel
theorem dX12_slope_44 : decode cX12_slope 44 = .ok (.invokevirtual 227, 3) := by decide +kernel
theorem dX12_slope_47 : decode cX12_slope 47 = .ok (.iload_n 3, 1) := by decide +kernel
theorem dX12_slope_48 : decode cX12_slope 48 = .ok (.ifCond .ne 25, 3) := by decide +kernel
theorem dX12_slope_51 : decode cX12_slope 51 = .ok (.aload_n 0, 1) := by decide +kernel
theorem dX12_slope_52 : decode cX12_slope 52 = .ok (.getfield 40, 3) := by decide +kernel
theorem dX12_slope_55 : decode cX12_slope 55 = .ok (.iload_n 2, 1) := by decide +kernel
theorem dX12_slope_56 : decode cX12_slope 56 = .ok (.invokestatic 158, 3) := by decide +kernel
theorem dX12_slope_59 : decode cX12_slope 59 = .ok (.aload_n 0, 1) := by decide +kernel
theorem dX12_slope_60 : decode cX12_slope 60 = .ok (.getfield 40, 3) := by decide +kernel
theorem dX12_slope_63 : decode cX12_slope 63 = .ok (.iload_n 2, 1) := by decide +kernel
theorem dX12_slope_64 : decode cX12_slope 64 = .ok (.iconst 1, 1) := by decide +kernel
theorem dX12_slope_65 : decode cX12_slope 65 = .ok (.isub, 1) := by decide +kernel
theorem dX12_slope_66 : decode cX12_slope 66 = .ok (.invokestatic 158, 3) := by decide +kernel
theorem dX12_slope_69 : decode cX12_slope 69 = .ok (.lsub, 1) := by decide +kernel
theorem dX12_slope_70 : decode cX12_slope 70 = .ok (.goto 22, 3) := by decide +kernel
theorem dX12_slope_73 : decode cX12_slope 73 = .ok (.aload_n 0, 1) := by decide +kernel
theorem dX12_slope_74 : decode cX12_slope 74 = .ok (.getfield 40, 3) := by decide +kernel
theorem dX12_slope_77 : decode cX12_slope 77 = .ok (.iload_n 2, 1) := by decide +kernel
theorem dX12_slope_78 : decode cX12_slope 78 = .ok (.iconst 1, 1) := by decide +kernel
theorem dX12_slope_79 : decode cX12_slope 79 = .ok (.iadd, 1) := by decide +kernel
theorem dX12_slope_80 : decode cX12_slope 80 = .ok (.invokestatic 158, 3) := by decide +kernel
theorem dX12_slope_83 : decode cX12_slope 83 = .ok (.aload_n 0, 1) := by decide +kernel
theorem dX12_slope_84 : decode cX12_slope 84 = .ok (.getfield 40, 3) := by decide +kernel
theorem dX12_slope_87 : decode cX12_slope 87 = .ok (.iload_n 2, 1) := by decide +kernel
theorem dX12_slope_88 : decode cX12_slope 88 = .ok (.invokestatic 158, 3) := by decide +kernel
theorem dX12_slope_91 : decode cX12_slope 91 = .ok (.lsub, 1) := by decide +kernel
theorem dX12_slope_92 : decode cX12_slope 92 = .ok (.l2i, 1) := by decide +kernel
theorem dX12_slope_93 : decode cX12_slope 93 = .ok (.ireturn, 1) := by decide +kernel
theorem dX12_tellPath_0 : decode cX12_tellPath 0 = .ok (.aload_n 0, 1) := by decide +kernel
theorem dX12_tellPath_1 : decode cX12_tellPath 1 = .ok (.iload_n 1, 1) := by decide +kernel
theorem dX12_tellPath_2 : decode cX12_tellPath 2 = .ok (.invokevirtual 227, 3) := by decide +kernel
theorem dX12_tellPath_5 : decode cX12_tellPath 5 = .ok (.aload_n 0, 1) := by decide +kernel
theorem dX12_tellPath_6 : decode cX12_tellPath 6 = .ok (.iload_n 1, 1) := by decide +kernel
theorem dX12_tellPath_7 : decode cX12_tellPath 7 = .ok (.invokevirtual 337, 3) := by decide +kernel
theorem dX12_tellPath_10 : decode cX12_tellPath 10 = .ok (.istore_n 3, 1) := by decide +kernel
theorem dX12_tellPath_11 : decode cX12_tellPath 11 = .ok (.aload_n 0, 1) := by decide +kernel
theorem dX12_tellPath_12 : decode cX12_tellPath 12 = .ok (.getfield 86, 3) := by decide +kernel
theorem dX12_tellPath_15 : decode cX12_tellPath 15 = .ok (.iload_n 3, 1) := by decide +kernel
theorem dX12_tellPath_16 : decode cX12_tellPath 16 = .ok (.iload_n 2, 1) := by decide +kernel
theorem dX12_tellPath_17 : decode cX12_tellPath 17 = .ok (.iastore, 1) := by decide +kernel
theorem dX12_tellPath_18 : decode cX12_tellPath 18 = .ok (.iload_n 3, 1) := by decide +kernel
theorem dX12_tellPath_19 : decode cX12_tellPath 19 = .ok (.iconst 1, 1) := by decide +kernel
theorem dX12_tellPath_20 : decode cX12_tellPath 20 = .ok (.isub, 1) := by decide +kernel
theorem dX12_tellPath_21 : decode cX12_tellPath 21 = .ok (.istore 4, 2) := by decide +kernel
theorem dX12_tellPath_23 : decode cX12_tellPath 23 = .ok (.iload 4, 2) := by decide +kernel
theorem dX12_tellPath_25 : decode cX12_tellPath 25 = .ok (.ifCond .lt 178, 3) := by decide +kernel
theorem dX12_tellPath_28 : decode cX12_tellPath 28 = .ok (.aload_n 0, 1) := by decide +kernel
theorem dX12_tellPath_29 : decode cX12_tellPath 29 = .ok (.getfield 86, 3) := by decide +kernel
theorem dX12_tellPath_32 : decode cX12_tellPath 32 = .ok (.iload 4, 2) := by decide +kernel
theorem dX12_tellPath_34 : decode cX12_tellPath 34 = .ok (.iconst 1, 1) := by decide +kernel
theorem dX12_tellPath_35 : decode cX12_tellPath 35 = .ok (.iadd, 1) := by decide +kernel
theorem dX12_tellPath_36 : decode cX12_tellPath 36 = .ok (.iaload, 1) := by decide +kernel
theorem dX12_tellPath_37 : decode cX12_tellPath 37 = .ok (.istore 5, 2) := by decide +kernel
theorem dX12_tellPath_39 : decode cX12_tellPath 39 = .ok (.aload_n 0, 1) := by decide +kernel
theorem dX12_tellPath_40 : decode cX12_tellPath 40 = .ok (.iload_n 1, 1) := by decide +kernel
theorem dX12_tellPath_41 : decode cX12_tellPath 41 = .ok (.iload 4, 2) := by decide +kernel
theorem dX12_tellPath_43 : decode cX12_tellPath 43 = .ok (.iconst 1, 1) := by decide +kernel
theorem dX12_tellPath_44 : decode cX12_tellPath 44 = .ok (.invokevirtual 346, 3) := by decide +kernel
theorem dX12_tellPath_47 : decode cX12_tellPath 47 = .ok (.istore 6, 2) := by decide +kernel
theorem dX12_tellPath_49 : decode cX12_tellPath 49 = .ok (.aload_n 0, 1) := by decide +kernel
theorem dX12_tellPath_50 : decode cX12_tellPath 50 = .ok (.getfield 58, 3) := by decide +kernel
theorem dX12_tellPath_53 : decode cX12_tellPath 53 = .ok (.iload 4, 2) := by decide +kernel
theorem dX12_tellPath_55 : decode cX12_tellPath 55 = .ok (.iaload, 1) := by decide +kernel
theorem dX12_tellPath_56 : decode cX12_tellPath 56 = .ok (.aload_n 0, 1) := by decide +kernel
theorem dX12_tellPath_57 : decode cX12_tellPath 57 = .ok (.getfield 61, 3) := by decide +kernel
theorem dX12_tellPath_60 : decode cX12_tellPath 60 = .ok (.iload 4, 2) := by decide +kernel
theorem dX12_tellPath_62 : decode cX12_tellPath 62 = .ok (.iaload, 1) := by decide +kernel
theorem dX12_tellPath_63 : decode cX12_tellPath 63 = .ok (.iload 5, 2) := by decide +kernel
theorem dX12_tellPath_65 : decode cX12_tellPath 65 = .ok (.invokestatic 154, 3) := by decide +kernel
theorem dX12_tellPath_68 : decode cX12_tellPath 68 = .ok (.istore 7, 2) := by decide +kernel
theorem dX12_tellPath_70 : decode cX12_tellPath 70 = .ok (.aload_n 0, 1) := by decide +kernel
theorem dX12_tellPath_71 : decode cX12_tellPath 71 = .ok (.iload_n 1, 1) := by decide +kernel
theorem dX12_tellPath_72 : decode cX12_tellPath 72 = .ok (.iload 4, 2) := by decide +kernel
theorem dX12_tellPath_74 : decode cX12_tellPath 74 = .ok (.iconst 0, 1) := by decide +kernel
theorem dX12_tellPath_75 : decode cX12_tellPath 75 = .ok (.invokevirtual 346, 3) := by decide +kernel
theorem dX12_tellPath_78 : decode cX12_tellPath 78 = .ok (.tableswitch 110 3 6 #[30, 45, 76, 93], 30) := by decide +kernel
theorem dX12_tellPath_108 : decode cX12_tellPath 108 = .ok (.aload_n 0, 1) := by decide +kernel
theorem dX12_tellPath_109 : decode cX12_tellPath 109 = .ok (.getfield 86, 3) := by decide +kernel
theorem dX12_tellPath_112 : decode cX12_tellPath 112 = .ok (.iload 4, 2) := by decide +kernel
theorem dX12_tellPath_114 : decode cX12_tellPath 114 = .ok (.iload 5, 2) := by decide +kernel
theorem dX12_tellPath_116 : decode cX12_tellPath 116 = .ok (.iload 6, 2) := by decide +kernel
theorem dX12_tellPath_118 : decode cX12_tellPath 118 = .ok (.isub, 1) := by decide +kernel
theorem dX12_tellPath_119 : decode cX12_tellPath 119 = .ok (.iastore, 1) := by decide +kernel
theorem dX12_tellPath_120 : decode cX12_tellPath 120 = .ok (.goto 77, 3) := by decide +kernel
theorem dX12_tellPath_123 : decode cX12_tellPath 123 = .ok (.aload_n 0, 1) := by decide +kernel
theorem dX12_tellPath_124 : decode cX12_tellPath 124 = .ok (.getfield 86, 3) := by decide +kernel
theorem dX12_tellPath_127 : decode cX12_tellPath 127 = .ok (.iload 4, 2) := by decide +kernel
theorem dX12_tellPath_129 : decode cX12_tellPath 129 = .ok (.iload 5, 2) := by decide +kernel
theorem dX12_tellPath_131 : decode cX12_tellPath 131 = .ok (.aload_n 0, 1) := by decide +kernel
theorem dX12_tellPath_132 : decode cX12_tellPath 132 = .ok (.iload_n 1, 1) := by decide +kernel
theorem dX12_tellPath_133 : decode cX12_tellPath 133 = .ok (.iload 4, 2) := by decide +kernel
theorem dX12_tellPath_135 : decode cX12_tellPath 135 = .ok (.iconst 2, 1) := by decide +kernel
theorem dX12_tellPath_136 : decode cX12_tellPath 136 = .ok (.invokevirtual 346, 3) := by decide +kernel
theorem dX12_tellPath_139 : decode cX12_tellPath 139 = .ok (.isub, 1) := by decide +kernel
theorem dX12_tellPath_140 : decode cX12_tellPath 140 = .ok (.iload 5, 2) := by decide +kernel
theorem dX12_tellPath_142 : decode cX12_tellPath 142 = .ok (.iload 6, 2) := by decide +kernel
theorem dX12_tellPath_144 : decode cX12_tellPath 144 = .ok (.iadd, 1) := by decide +kernel
theorem dX12_tellPath_145 : decode cX12_tellPath 145 = .ok (.iload 7, 2) := by decide +kernel
theorem dX12_tellPath_147 : decode cX12_tellPath 147 = .ok (.invokestatic 154, 3) := by decide +kernel
theorem dX12_tellPath_150 : decode cX12_tellPath 150 = .ok (.iastore, 1) := by decide +kernel
theorem dX12_tellPath_151 : decode cX12_tellPath 151 = .ok (.goto 46, 3) := by decide +kernel
theorem dX12_tellPath_154 : decode cX12_tellPath 154 = .ok (.aload_n 0, 1) := by decide +kernel
theorem dX12_tellPath_155 : decode cX12_tellPath 155 = .ok (.getfield 86, 3) := by decide +kernel
theorem dX12_tellPath_158 : decode cX12_tellPath 158 = .ok (.iload 4, 2) := by decide +kernel
theorem dX12_tellPath_160 : decode cX12_tellPath 160 = .ok (.iload 5, 2) := by decide +kernel
theorem dX12_tellPath_162 : decode cX12_tellPath 162 = .ok (.iload 7, 2) := by decide +kernel
theorem dX12_tellPath_164 : decode cX12_tellPath 164 = .ok (.invokestatic 135, 3) := by decide +kernel
theorem dX12_tellPath_167 : decode cX12_tellPath 167 = .ok (.iastore, 1) := by decide +kernel
theorem dX12_tellPath_168 : decode cX12_tellPath 168 = .ok (.goto 29, 3) := by decide +kernel
theorem dX12_tellPath_171 : decode cX12_tellPath 171 = .ok (.aload_n 0, 1) := by decide +kernel
theorem dX12_tellPath_172 : decode cX12_tellPath 172 = .ok (.getfield 86, 3) := by decide +kernel
theorem dX12_tellPath_175 : decode cX12_tellPath 175 = .ok (.iload 4, 2) := by decide +kernel
theorem dX12_tellPath_177 : decode cX12_tellPath 177 = .ok (.iload 5, 2) := by decide +kernel
theorem dX12_tellPath_179 : decode cX12_tellPath 179 = .ok (.iload 7, 2) := by decide +kernel
theorem dX12_tellPath_181 : decode cX12_tellPath 181 = .ok (.invokestatic 186, 3) := by decide +kernel
theorem dX12_tellPath_184 : decode cX12_tellPath 184 = .ok (.iastore, 1) := by decide +kernel
theorem dX12_tellPath_185 : decode cX12_tellPath 185 = .ok (.goto 12, 3) := by decide +kernel
theorem dX12_tellPath_188 : decode cX12_tellPath 188 = .ok (.aload_n 0, 1) := by decide +kernel
theorem dX12_tellPath_189 : decode cX12_tellPath 189 = .ok (.getfield 86, 3) := by decide +kernel
theorem dX12_tellPath_192 : decode cX12_tellPath 192 = .ok (.iload 4, 2) := by decide +kernel
theorem dX12_tellPath_194 : decode cX12_tellPath 194 = .ok (.iload 5, 2) := by decide +kernel
theorem dX12_tellPath_196 : decode cX12_tellPath 196 = .ok (.iastore, 1) := by decide +kernel
theorem dX12_tellPath_197 : decode cX12_tellPath 197 = .ok (.iinc 4 (-1), 3) := by decide +kernel
theorem dX12_tellPath_200 : decode cX12_tellPath 200 = .ok (.goto (-177), 3) := by decide +kernel
theorem dX12_tellPath_203 : decode cX12_tellPath 203 = .ok (.return_, 1) := by decide +kernel
theorem dX12_path_0 : decode cX12_path 0 = .ok (.aload_n 0, 1) := by decide +kernel
theorem dX12_path_1 : decode cX12_path 1 = .ok (.iconst 0, 1) := by decide +kernel
theorem dX12_path_2 : decode cX12_path 2 = .ok (.putfield 132, 3) := by decide +kernel
theorem dX12_path_5 : decode cX12_path 5 = .ok (.aload_n 0, 1) := by decide +kernel
theorem dX12_path_6 : decode cX12_path 6 = .ok (.iload_n 1, 1) := by decide +kernel
theorem dX12_path_7 : decode cX12_path 7 = .ok (.invokevirtual 310, 3) := by decide +kernel
theorem dX12_path_10 : decode cX12_path 10 = .ok (.ifCond .eq 18, 3) := by decide +kernel
theorem dX12_path_13 : decode cX12_path 13 = .ok (.iload_n 3, 1) := by decide +kernel
theorem dX12_path_14 : decode cX12_path 14 = .ok (.i2l, 1) := by decide +kernel
theorem dX12_path_15 : decode cX12_path 15 = .ok (.lconst 0, 1) := by decide +kernel
theorem dX12_path_16 : decode cX12_path 16 = .ok (.aload_n 0, 1) := by decide +kernel
theorem dX12_path_17 : decode cX12_path 17 = .ok (.iload_n 1, 1) := by decide +kernel
theorem dX12_path_18 : decode cX12_path 18 = .ok (.invokevirtual 337, 3) := by decide +kernel
theorem dX12_path_21 : decode cX12_path 21 = .ok (.i2l, 1) := by decide +kernel
theorem dX12_path_22 : decode cX12_path 22 = .ok (.invokestatic 166, 3) := by decide +kernel
theorem dX12_path_25 : decode cX12_path 25 = .ok (.ifCond .ne 9, 3) := by decide +kernel
theorem dX12_path_28 : decode cX12_path 28 = .ok (.aload_n 0, 1) := by decide +kernel
theorem dX12_path_29 : decode cX12_path 29 = .ok (.iconst 1, 1) := by decide +kernel
theorem dX12_path_30 : decode cX12_path 30 = .ok (.invokevirtual 313, 3) := by decide +kernel
theorem dX12_path_33 : decode cX12_path 33 = .ok (.ireturn, 1) := by decide +kernel
theorem dX12_path_34 : decode cX12_path 34 = .ok (.iload_n 2, 1) := by decide +kernel
theorem dX12_path_35 : decode cX12_path 35 = .ok (.invokestatic 353, 3) := by decide +kernel
theorem dX12_path_38 : decode cX12_path 38 = .ok (.ifCond .ne 9, 3) := by decide +kernel
theorem dX12_path_41 : decode cX12_path 41 = .ok (.aload_n 0, 1) := by decide +kernel
theorem dX12_path_42 : decode cX12_path 42 = .ok (.iconst 2, 1) := by decide +kernel
theorem dX12_path_43 : decode cX12_path 43 = .ok (.invokevirtual 313, 3) := by decide +kernel
theorem dX12_path_46 : decode cX12_path 46 = .ok (.ireturn, 1) := by decide +kernel
theorem dX12_path_47 : decode cX12_path 47 = .ok (.aload_n 0, 1) := by decide +kernel
theorem dX12_path_48 : decode cX12_path 48 = .ok (.iload_n 1, 1) := by decide +kernel
theorem dX12_path_49 : decode cX12_path 49 = .ok (.iload_n 2, 1) := by decide +kernel
theorem dX12_path_50 : decode cX12_path 50 = .ok (.invokevirtual 369, 3) := by decide +kernel
theorem dX12_path_53 : decode cX12_path 53 = .ok (.aload_n 0, 1) := by decide +kernel
theorem dX12_path_54 : decode cX12_path 54 = .ok (.getfield 86, 3) := by decide +kernel
theorem dX12_path_57 : decode cX12_path 57 = .ok (.iload_n 3, 1) := by decide +kernel
theorem dX12_path_58 : decode cX12_path 58 = .ok (.iaload, 1) := by decide +kernel
theorem dX12_path_59 : decode cX12_path 59 = .ok (.ireturn, 1) := by decide +kernel
theorem dX12_paid_0 : decode cX12_paid 0 = .ok (.aload_n 0, 1) := by decide +kernel
theorem dX12_paid_1 : decode cX12_paid 1 = .ok (.iconst 0, 1) := by decide +kernel
theorem dX12_paid_2 : decode cX12_paid 2 = .ok (.putfield 132, 3) := by decide +kernel
theorem dX12_paid_5 : decode cX12_paid 5 = .ok (.aload_n 0, 1) := by decide +kernel
theorem dX12_paid_6 : decode cX12_paid 6 = .ok (.iload_n 1, 1) := by decide +kernel
theorem dX12_paid_7 : decode cX12_paid 7 = .ok (.iload_n 3, 1) := by decide +kernel
theorem dX12_paid_8 : decode cX12_paid 8 = .ok (.invokevirtual 340, 3) := by decide +kernel
theorem dX12_paid_11 : decode cX12_paid 11 = .ok (.ifCond .ne 10, 3) := by decide +kernel
theorem dX12_paid_14 : decode cX12_paid 14 = .ok (.aload_n 0, 1) := by decide +kernel
theorem dX12_paid_15 : decode cX12_paid 15 = .ok (.iconst 1, 1) := by decide +kernel
theorem dX12_paid_16 : decode cX12_paid 16 = .ok (.invokevirtual 313, 3) := by decide +kernel
theorem dX12_paid_19 : decode cX12_paid 19 = .ok (.i2l, 1) := by decide +kernel
theorem dX12_paid_20 : decode cX12_paid 20 = .ok (.lreturn, 1) := by decide +kernel
theorem dX12_paid_21 : decode cX12_paid 21 = .ok (.iload_n 2, 1) := by decide +kernel
theorem dX12_paid_22 : decode cX12_paid 22 = .ok (.invokestatic 353, 3) := by decide +kernel
theorem dX12_paid_25 : decode cX12_paid 25 = .ok (.ifCond .ne 10, 3) := by decide +kernel
theorem dX12_paid_28 : decode cX12_paid 28 = .ok (.aload_n 0, 1) := by decide +kernel
theorem dX12_paid_29 : decode cX12_paid 29 = .ok (.iconst 2, 1) := by decide +kernel
theorem dX12_paid_30 : decode cX12_paid 30 = .ok (.invokevirtual 313, 3) := by decide +kernel
theorem dX12_paid_33 : decode cX12_paid 33 = .ok (.i2l, 1) := by decide +kernel
theorem dX12_paid_34 : decode cX12_paid 34 = .ok (.lreturn, 1) := by decide +kernel
theorem dX12_paid_35 : decode cX12_paid 35 = .ok (.aload_n 0, 1) := by decide +kernel
theorem dX12_paid_36 : decode cX12_paid 36 = .ok (.iload_n 1, 1) := by decide +kernel
theorem dX12_paid_37 : decode cX12_paid 37 = .ok (.iload_n 2, 1) := by decide +kernel
theorem dX12_paid_38 : decode cX12_paid 38 = .ok (.invokevirtual 369, 3) := by decide +kernel
theorem dX12_paid_41 : decode cX12_paid 41 = .ok (.aload_n 0, 1) := by decide +kernel
theorem dX12_paid_42 : decode cX12_paid 42 = .ok (.iload_n 1, 1) := by decide +kernel
theorem dX12_paid_43 : decode cX12_paid 43 = .ok (.iload_n 3, 1) := by decide +kernel
theorem dX12_paid_44 : decode cX12_paid 44 = .ok (.iconst 1, 1) := by decide +kernel
theorem dX12_paid_45 : decode cX12_paid 45 = .ok (.invokevirtual 346, 3) := by decide +kernel
theorem dX12_paid_48 : decode cX12_paid 48 = .ok (.istore 4, 2) := by decide +kernel
theorem dX12_paid_50 : decode cX12_paid 50 = .ok (.aload_n 0, 1) := by decide +kernel
theorem dX12_paid_51 : decode cX12_paid 51 = .ok (.iload_n 1, 1) := by decide +kernel
theorem dX12_paid_52 : decode cX12_paid 52 = .ok (.iload_n 3, 1) := by decide +kernel
theorem dX12_paid_53 : decode cX12_paid 53 = .ok (.iconst 2, 1) := by decide +kernel
theorem dX12_paid_54 : decode cX12_paid 54 = .ok (.invokevirtual 346, 3) := by decide +kernel
theorem dX12_paid_57 : decode cX12_paid 57 = .ok (.i2l, 1) := by decide +kernel
theorem dX12_paid_58 : decode cX12_paid 58 = .ok (.lstore 5, 2) := by decide +kernel
theorem dX12_paid_60 : decode cX12_paid 60 = .ok (.aload_n 0, 1) := by decide +kernel
theorem dX12_paid_61 : decode cX12_paid 61 = .ok (.getfield 86, 3) := by decide +kernel
theorem dX12_paid_64 : decode cX12_paid 64 = .ok (.iload_n 3, 1) := by decide +kernel
theorem dX12_paid_65 : decode cX12_paid 65 = .ok (.iconst 1, 1) := by decide +kernel
theorem dX12_paid_66 : decode cX12_paid 66 = .ok (.iadd, 1) := by decide +kernel
theorem dX12_paid_67 : decode cX12_paid 67 = .ok (.iaload, 1) := by decide +kernel
theorem dX12_paid_68 : decode cX12_paid 68 = .ok (.istore 7, 2) := by decide +kernel
theorem dX12_paid_70 : decode cX12_paid 70 = .ok (.aload_n 0, 1) := by decide +kernel
theorem dX12_paid_71 : decode cX12_paid 71 = .ok (.iload_n 1, 1) := by decide +kernel
theorem dX12_paid_72 : decode cX12_paid 72 = .ok (.iload_n 3, 1) := by decide +kernel
theorem dX12_paid_73 : decode cX12_paid 73 = .ok (.iconst 0, 1) := by decide +kernel
theorem dX12_paid_74 : decode cX12_paid 74 = .ok (.invokevirtual 346, 3) := by decide +kernel
theorem dX12_paid_77 : decode cX12_paid 77 = .ok (.tableswitch 114 0 8 #[51, 64, 78, 114, 114, 114, 114, 92, 96], 51) := by decide +kernel
theorem dX12_paid_128 : decode cX12_paid 128 = .ok (.lload 5, 2) := by decide +kernel
theorem dX12_paid_130 : decode cX12_paid 130 = .ok (.iload 7, 2) := by decide +kernel
theorem dX12_paid_132 : decode cX12_paid 132 = .ok (.iload 4, 2) := by decide +kernel
theorem dX12_paid_134 : decode cX12_paid 134 = .ok (.isub, 1) := by decide +kernel
theorem dX12_paid_135 : decode cX12_paid 135 = .ok (.invokestatic 372, 3) := by decide +kernel
theorem dX12_paid_138 : decode cX12_paid 138 = .ok (.i2l, 1) := by decide +kernel
theorem dX12_paid_139 : decode cX12_paid 139 = .ok (.lmul, 1) := by decide +kernel
theorem dX12_paid_140 : decode cX12_paid 140 = .ok (.lreturn, 1) := by decide +kernel
theorem dX12_paid_141 : decode cX12_paid 141 = .ok (.lload 5, 2) := by decide +kernel
theorem dX12_paid_143 : decode cX12_paid 143 = .ok (.iconst 0, 1) := by decide +kernel
theorem dX12_paid_144 : decode cX12_paid 144 = .ok (.iload 7, 2) := by decide +kernel
theorem dX12_paid_146 : decode cX12_paid 146 = .ok (.iload 4, 2) := by decide +kernel
theorem dX12_paid_148 : decode cX12_paid 148 = .ok (.isub, 1) := by decide +kernel
theorem dX12_paid_149 : decode cX12_paid 149 = .ok (.invokestatic 186, 3) := by decide +kernel
theorem dX12_paid_152 : decode cX12_paid 152 = .ok (.i2l, 1) := by decide +kernel
theorem dX12_paid_153 : decode cX12_paid 153 = .ok (.lmul, 1) := by decide +kernel
theorem dX12_paid_154 : decode cX12_paid 154 = .ok (.lreturn, 1) := by decide +kernel
theorem dX12_paid_155 : decode cX12_paid 155 = .ok (.lload 5, 2) := by decide +kernel
theorem dX12_paid_157 : decode cX12_paid 157 = .ok (.iconst 0, 1) := by decide +kernel
theorem dX12_paid_158 : decode cX12_paid 158 = .ok (.iload 4, 2) := by decide +kernel
theorem dX12_paid_160 : decode cX12_paid 160 = .ok (.iload 7, 2) := by decide +kernel
theorem dX12_paid_162 : decode cX12_paid 162 = .ok (.isub, 1) := by decide +kernel
theorem dX12_paid_163 : decode cX12_paid 163 = .ok (.invokestatic 186, 3) := by decide +kernel
theorem dX12_paid_166 : decode cX12_paid 166 = .ok (.i2l, 1) := by decide +kernel
theorem dX12_paid_167 : decode cX12_paid 167 = .ok (.lmul, 1) := by decide +kernel
theorem dX12_paid_168 : decode cX12_paid 168 = .ok (.lreturn, 1) := by decide +kernel
theorem dX12_paid_169 : decode cX12_paid 169 = .ok (.iload 4, 2) := by decide +kernel
theorem dX12_paid_171 : decode cX12_paid 171 = .ok (.i2l, 1) := by decide +kernel
theorem dX12_paid_172 : decode cX12_paid 172 = .ok (.lreturn, 1) := by decide +kernel
theorem dX12_paid_173 : decode cX12_paid 173 = .ok (.aload_n 0, 1) := by decide +kernel
theorem dX12_paid_174 : decode cX12_paid 174 = .ok (.getfield 50, 3) := by decide +kernel
theorem dX12_paid_177 : decode cX12_paid 177 = .ok (.aload_n 0, 1) := by decide +kernel
theorem dX12_paid_178 : decode cX12_paid 178 = .ok (.iload_n 1, 1) := by decide +kernel
theorem dX12_paid_179 : decode cX12_paid 179 = .ok (.iload_n 3, 1) := by decide +kernel
theorem dX12_paid_180 : decode cX12_paid 180 = .ok (.iconst 3, 1) := by decide +kernel
theorem dX12_paid_181 : decode cX12_paid 181 = .ok (.invokevirtual 346, 3) := by decide +kernel
theorem dX12_paid_184 : decode cX12_paid 184 = .ok (.aaload, 1) := by decide +kernel
theorem dX12_paid_185 : decode cX12_paid 185 = .ok (.iload 7, 2) := by decide +kernel
theorem dX12_paid_187 : decode cX12_paid 187 = .ok (.invokestatic 158, 3) := by decide +kernel
theorem dX12_paid_190 : decode cX12_paid 190 = .ok (.lreturn, 1) := by decide +kernel
theorem dX12_paid_191 : decode cX12_paid 191 = .ok (.lconst 0, 1) := by decide +kernel
theorem dX12_paid_192 : decode cX12_paid 192 = .ok (.lreturn, 1) := by decide +kernel
theorem dX12_stretch_0 : decode cX12_stretch 0 = .ok (.aload_n 0, 1) := by decide +kernel
theorem dX12_stretch_1 : decode cX12_stretch 1 = .ok (.iconst 0, 1) := by decide +kernel
theorem dX12_stretch_2 : decode cX12_stretch 2 = .ok (.putfield 132, 3) := by decide +kernel
theorem dX12_stretch_5 : decode cX12_stretch 5 = .ok (.aload_n 0, 1) := by decide +kernel
theorem dX12_stretch_6 : decode cX12_stretch 6 = .ok (.iload_n 1, 1) := by decide +kernel
theorem dX12_stretch_7 : decode cX12_stretch 7 = .ok (.invokevirtual 310, 3) := by decide +kernel
theorem dX12_stretch_10 : decode cX12_stretch 10 = .ok (.ifCond .eq 10, 3) := by decide +kernel
theorem dX12_stretch_13 : decode cX12_stretch 13 = .ok (.iload_n 2, 1) := by decide +kernel
theorem dX12_stretch_14 : decode cX12_stretch 14 = .ok (.invokestatic 353, 3) := by decide +kernel
theorem dX12_stretch_17 : decode cX12_stretch 17 = .ok (.ifCond .ne 21, 3) := by decide +kernel
theorem dX12_stretch_20 : decode cX12_stretch 20 = .ok (.aload_n 0, 1) := by decide +kernel
theorem dX12_stretch_21 : decode cX12_stretch 21 = .ok (.aload_n 0, 1) := by decide +kernel
theorem dX12_stretch_22 : decode cX12_stretch 22 = .ok (.iload_n 1, 1) := by decide +kernel
theorem dX12_stretch_23 : decode cX12_stretch 23 = .ok (.invokevirtual 310, 3) := by decide +kernel
theorem dX12_stretch_26 : decode cX12_stretch 26 = .ok (.ifCond .eq 7, 3) := by decide +kernel
theorem dX12_stretch_29 : decode cX12_stretch 29 = .ok (.iconst 2, 1) := by decide +kernel
theorem dX12_stretch_30 : decode cX12_stretch 30 = .ok (.goto 4, 3) := by decide +kernel
theorem dX12_stretch_33 : decode cX12_stretch 33 = .ok (.iconst 1, 1) := by decide +kernel
theorem dX12_stretch_34 : decode cX12_stretch 34 = .ok (.invokevirtual 313, 3) := by decide +kernel
theorem dX12_stretch_37 : decode cX12_stretch 37 = .ok (.ireturn, 1) := by decide +kernel
theorem dX12_stretch_38 : decode cX12_stretch 38 = .ok (.aload_n 0, 1) := by decide +kernel
theorem dX12_stretch_39 : decode cX12_stretch 39 = .ok (.iload_n 1, 1) := by decide +kernel
theorem dX12_stretch_40 : decode cX12_stretch 40 = .ok (.iload_n 2, 1) := by decide +kernel
theorem dX12_stretch_41 : decode cX12_stretch 41 = .ok (.invokevirtual 369, 3) := by decide +kernel
theorem dX12_stretch_44 : decode cX12_stretch 44 = .ok (.iconst 0, 1) := by decide +kernel
theorem dX12_stretch_45 : decode cX12_stretch 45 = .ok (.istore_n 3, 1) := by decide +kernel
theorem dX12_stretch_46 : decode cX12_stretch 46 = .ok (.iconst 0, 1) := by decide +kernel
theorem dX12_stretch_47 : decode cX12_stretch 47 = .ok (.istore 4, 2) := by decide +kernel
