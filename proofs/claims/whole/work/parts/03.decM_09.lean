theorem dX12_tellFits_118 : decode cX12_tellFits 118 = .ok (.goto (-38), 3) := by decide +kernel
theorem dX12_tellFits_121 : decode cX12_tellFits 121 = .ok (.iinc 2 1, 3) := by decide +kernel
theorem dX12_tellFits_124 : decode cX12_tellFits 124 = .ok (.goto (-122), 3) := by decide +kernel
theorem dX12_tellFits_127 : decode cX12_tellFits 127 = .ok (.return_, 1) := by decide +kernel
theorem dX12_fits_0 : decode cX12_fits 0 = .ok (.aload_n 0, 1) := by decide +kernel
theorem dX12_fits_1 : decode cX12_fits 1 = .ok (.iconst 0, 1) := by decide +kernel
theorem dX12_fits_2 : decode cX12_fits 2 = .ok (.putfield 132, 3) := by decide +kernel
theorem dX12_fits_5 : decode cX12_fits 5 = .ok (.aload_n 0, 1) := by decide +kernel
theorem dX12_fits_6 : decode cX12_fits 6 = .ok (.iconst 0, 1) := by decide +kernel
theorem dX12_fits_7 : decode cX12_fits 7 = .ok (.iload_n 1, 1) := by decide +kernel
theorem dX12_fits_8 : decode cX12_fits 8 = .ok (.invokevirtual 440, 3) := by decide +kernel
theorem dX12_fits_11 : decode cX12_fits 11 = .ok (.ifCond .eq 13, 3) := by decide +kernel
theorem dX12_fits_14 : decode cX12_fits 14 = .ok (.iload_n 2, 1) := by decide +kernel
theorem dX12_fits_15 : decode cX12_fits 15 = .ok (.i2l, 1) := by decide +kernel
theorem dX12_fits_16 : decode cX12_fits 16 = .ok (.lconst 0, 1) := by decide +kernel
theorem dX12_fits_17 : decode cX12_fits 17 = .ok (.lconst 1, 1) := by decide +kernel
theorem dX12_fits_18 : decode cX12_fits 18 = .ok (.invokestatic 166, 3) := by decide +kernel
theorem dX12_fits_21 : decode cX12_fits 21 = .ok (.ifCond .ne 9, 3) := by decide +kernel
theorem dX12_fits_24 : decode cX12_fits 24 = .ok (.aload_n 0, 1) := by decide +kernel
theorem dX12_fits_25 : decode cX12_fits 25 = .ok (.iconst 1, 1) := by decide +kernel
theorem dX12_fits_26 : decode cX12_fits 26 = .ok (.invokevirtual 313, 3) := by decide +kernel
theorem dX12_fits_29 : decode cX12_fits 29 = .ok (.ireturn, 1) := by decide +kernel
theorem dX12_fits_30 : decode cX12_fits 30 = .ok (.aload_n 0, 1) := by decide +kernel
theorem dX12_fits_31 : decode cX12_fits 31 = .ok (.iload_n 1, 1) := by decide +kernel
theorem dX12_fits_32 : decode cX12_fits 32 = .ok (.invokevirtual 498, 3) := by decide +kernel
theorem dX12_fits_35 : decode cX12_fits 35 = .ok (.iconst 0, 1) := by decide +kernel
theorem dX12_fits_36 : decode cX12_fits 36 = .ok (.istore_n 3, 1) := by decide +kernel
theorem dX12_fits_37 : decode cX12_fits 37 = .ok (.iconst (-1), 1) := by decide +kernel
theorem dX12_fits_38 : decode cX12_fits 38 = .ok (.istore 4, 2) := by decide +kernel
theorem dX12_fits_40 : decode cX12_fits 40 = .ok (.bipush 40, 2) := by decide +kernel
theorem dX12_fits_42 : decode cX12_fits 42 = .ok (.istore 5, 2) := by decide +kernel
theorem dX12_fits_44 : decode cX12_fits 44 = .ok (.iload 5, 2) := by decide +kernel
theorem dX12_fits_46 : decode cX12_fits 46 = .ok (.ifCond .lt 29, 3) := by decide +kernel
theorem dX12_fits_49 : decode cX12_fits 49 = .ok (.aload_n 0, 1) := by decide +kernel
theorem dX12_fits_50 : decode cX12_fits 50 = .ok (.getfield 111, 3) := by decide +kernel
theorem dX12_fits_53 : decode cX12_fits 53 = .ok (.iload 5, 2) := by decide +kernel
theorem dX12_fits_55 : decode cX12_fits 55 = .ok (.baload, 1) := by decide +kernel
theorem dX12_fits_56 : decode cX12_fits 56 = .ok (.ifCond .ne 6, 3) := by decide +kernel
theorem dX12_fits_59 : decode cX12_fits 59 = .ok (.goto 10, 3) := by decide +kernel
theorem dX12_fits_62 : decode cX12_fits 62 = .ok (.iinc 3 1, 3) := by decide +kernel
theorem dX12_fits_65 : decode cX12_fits 65 = .ok (.iload 5, 2) := by decide +kernel
theorem dX12_fits_67 : decode cX12_fits 67 = .ok (.istore 4, 2) := by decide +kernel
theorem dX12_fits_69 : decode cX12_fits 69 = .ok (.iinc 5 (-1), 3) := by decide +kernel
theorem dX12_fits_72 : decode cX12_fits 72 = .ok (.goto (-28), 3) := by decide +kernel
theorem dX12_fits_75 : decode cX12_fits 75 = .ok (.iload_n 2, 1) := by decide +kernel
theorem dX12_fits_76 : decode cX12_fits 76 = .ok (.ifCond .ne 7, 3) := by decide +kernel
theorem dX12_fits_79 : decode cX12_fits 79 = .ok (.iload_n 3, 1) := by decide +kernel
theorem dX12_fits_80 : decode cX12_fits 80 = .ok (.goto 5, 3) := by decide +kernel
theorem dX12_fits_83 : decode cX12_fits 83 = .ok (.iload 4, 2) := by decide +kernel
theorem dX12_fits_85 : decode cX12_fits 85 = .ok (.ireturn, 1) := by decide +kernel
theorem dX12_unlike_0 : decode cX12_unlike 0 = .ok (.iconst 0, 1) := by decide +kernel
theorem dX12_unlike_1 : decode cX12_unlike 1 = .ok (.istore_n 2, 1) := by decide +kernel
theorem dX12_unlike_2 : decode cX12_unlike 2 = .ok (.iconst 0, 1) := by decide +kernel
theorem dX12_unlike_3 : decode cX12_unlike 3 = .ok (.istore_n 3, 1) := by decide +kernel
theorem dX12_unlike_4 : decode cX12_unlike 4 = .ok (.iload_n 3, 1) := by decide +kernel
theorem dX12_unlike_5 : decode cX12_unlike 5 = .ok (.bipush 40, 2) := by decide +kernel
theorem dX12_unlike_7 : decode cX12_unlike 7 = .ok (.if_icmp .gt 100, 3) := by decide +kernel
theorem dX12_unlike_10 : decode cX12_unlike 10 = .ok (.aload_n 0, 1) := by decide +kernel
theorem dX12_unlike_11 : decode cX12_unlike 11 = .ok (.getfield 111, 3) := by decide +kernel
theorem dX12_unlike_14 : decode cX12_unlike 14 = .ok (.iload_n 3, 1) := by decide +kernel
theorem dX12_unlike_15 : decode cX12_unlike 15 = .ok (.baload, 1) := by decide +kernel
theorem dX12_unlike_16 : decode cX12_unlike 16 = .ok (.istore 4, 2) := by decide +kernel
theorem dX12_unlike_18 : decode cX12_unlike 18 = .ok (.iconst 0, 1) := by decide +kernel
theorem dX12_unlike_19 : decode cX12_unlike 19 = .ok (.istore 5, 2) := by decide +kernel
theorem dX12_unlike_21 : decode cX12_unlike 21 = .ok (.iload 5, 2) := by decide +kernel
theorem dX12_unlike_23 : decode cX12_unlike 23 = .ok (.iload_n 3, 1) := by decide +kernel
theorem dX12_unlike_24 : decode cX12_unlike 24 = .ok (.if_icmp .ge 64, 3) := by decide +kernel
theorem dX12_unlike_27 : decode cX12_unlike 27 = .ok (.iload 4, 2) := by decide +kernel
theorem dX12_unlike_29 : decode cX12_unlike 29 = .ok (.ifCond .eq 59, 3) := by decide +kernel
theorem dX12_unlike_32 : decode cX12_unlike 32 = .ok (.aload_n 0, 1) := by decide +kernel
theorem dX12_unlike_33 : decode cX12_unlike 33 = .ok (.getfield 111, 3) := by decide +kernel
theorem dX12_unlike_36 : decode cX12_unlike 36 = .ok (.iload 5, 2) := by decide +kernel
theorem dX12_unlike_38 : decode cX12_unlike 38 = .ok (.baload, 1) := by decide +kernel
theorem dX12_unlike_39 : decode cX12_unlike 39 = .ok (.ifCond .eq 36, 3) := by decide +kernel
theorem dX12_unlike_42 : decode cX12_unlike 42 = .ok (.aload_n 0, 1) := by decide +kernel
theorem dX12_unlike_43 : decode cX12_unlike 43 = .ok (.getfield 114, 3) := by decide +kernel
theorem dX12_unlike_46 : decode cX12_unlike 46 = .ok (.bipush 41, 2) := by decide +kernel
theorem dX12_unlike_48 : decode cX12_unlike 48 = .ok (.iload 5, 2) := by decide +kernel
theorem dX12_unlike_50 : decode cX12_unlike 50 = .ok (.imul, 1) := by decide +kernel
theorem dX12_unlike_51 : decode cX12_unlike 51 = .ok (.iload_n 1, 1) := by decide +kernel
theorem dX12_unlike_52 : decode cX12_unlike 52 = .ok (.iadd, 1) := by decide +kernel
theorem dX12_unlike_53 : decode cX12_unlike 53 = .ok (.bipush 20, 2) := by decide +kernel
theorem dX12_unlike_55 : decode cX12_unlike 55 = .ok (.iadd, 1) := by decide +kernel
theorem dX12_unlike_56 : decode cX12_unlike 56 = .ok (.laload, 1) := by decide +kernel
theorem dX12_unlike_57 : decode cX12_unlike 57 = .ok (.aload_n 0, 1) := by decide +kernel
theorem dX12_unlike_58 : decode cX12_unlike 58 = .ok (.getfield 114, 3) := by decide +kernel
theorem dX12_unlike_61 : decode cX12_unlike 61 = .ok (.bipush 41, 2) := by decide +kernel
theorem dX12_unlike_63 : decode cX12_unlike 63 = .ok (.iload_n 3, 1) := by decide +kernel
theorem dX12_unlike_64 : decode cX12_unlike 64 = .ok (.imul, 1) := by decide +kernel
theorem dX12_unlike_65 : decode cX12_unlike 65 = .ok (.iload_n 1, 1) := by decide +kernel
theorem dX12_unlike_66 : decode cX12_unlike 66 = .ok (.iadd, 1) := by decide +kernel
theorem dX12_unlike_67 : decode cX12_unlike 67 = .ok (.bipush 20, 2) := by decide +kernel
theorem dX12_unlike_69 : decode cX12_unlike 69 = .ok (.iadd, 1) := by decide +kernel
theorem dX12_unlike_70 : decode cX12_unlike 70 = .ok (.laload, 1) := by decide +kernel
theorem dX12_unlike_71 : decode cX12_unlike 71 = .ok (.lcmp, 1) := by decide +kernel
theorem dX12_unlike_72 : decode cX12_unlike 72 = .ok (.ifCond .eq 7, 3) := by decide +kernel
theorem dX12_unlike_75 : decode cX12_unlike 75 = .ok (.iconst 1, 1) := by decide +kernel
theorem dX12_unlike_76 : decode cX12_unlike 76 = .ok (.goto 4, 3) := by decide +kernel
theorem dX12_unlike_79 : decode cX12_unlike 79 = .ok (.iconst 0, 1) := by decide +kernel
theorem dX12_unlike_80 : decode cX12_unlike 80 = .ok (.istore 4, 2) := by decide +kernel
theorem dX12_unlike_82 : decode cX12_unlike 82 = .ok (.iinc 5 1, 3) := by decide +kernel
theorem dX12_unlike_85 : decode cX12_unlike 85 = .ok (.goto (-64), 3) := by decide +kernel
theorem dX12_unlike_88 : decode cX12_unlike 88 = .ok (.iload_n 2, 1) := by decide +kernel
theorem dX12_unlike_89 : decode cX12_unlike 89 = .ok (.iload 4, 2) := by decide +kernel
theorem dX12_unlike_91 : decode cX12_unlike 91 = .ok (.ifCond .eq 7, 3) := by decide +kernel
theorem dX12_unlike_94 : decode cX12_unlike 94 = .ok (.iconst 1, 1) := by decide +kernel
theorem dX12_unlike_95 : decode cX12_unlike 95 = .ok (.goto 4, 3) := by decide +kernel
theorem dX12_unlike_98 : decode cX12_unlike 98 = .ok (.iconst 0, 1) := by decide +kernel
theorem dX12_unlike_99 : decode cX12_unlike 99 = .ok (.iadd, 1) := by decide +kernel
theorem dX12_unlike_100 : decode cX12_unlike 100 = .ok (.istore_n 2, 1) := by decide +kernel
theorem dX12_unlike_101 : decode cX12_unlike 101 = .ok (.iinc 3 1, 3) := by decide +kernel
theorem dX12_unlike_104 : decode cX12_unlike 104 = .ok (.goto (-100), 3) := by decide +kernel
theorem dX12_unlike_107 : decode cX12_unlike 107 = .ok (.iload_n 2, 1) := by decide +kernel
theorem dX12_unlike_108 : decode cX12_unlike 108 = .ok (.ireturn, 1) := by decide +kernel
theorem dX12_look_0 : decode cX12_look 0 = .ok (.aload_n 0, 1) := by decide +kernel
theorem dX12_look_1 : decode cX12_look 1 = .ok (.iconst 0, 1) := by decide +kernel
theorem dX12_look_2 : decode cX12_look 2 = .ok (.putfield 132, 3) := by decide +kernel
theorem dX12_look_5 : decode cX12_look 5 = .ok (.aload_n 0, 1) := by decide +kernel
theorem dX12_look_6 : decode cX12_look 6 = .ok (.iconst 0, 1) := by decide +kernel
theorem dX12_look_7 : decode cX12_look 7 = .ok (.iload_n 1, 1) := by decide +kernel
theorem dX12_look_8 : decode cX12_look 8 = .ok (.invokevirtual 440, 3) := by decide +kernel
theorem dX12_look_11 : decode cX12_look 11 = .ok (.ifCond .eq 13, 3) := by decide +kernel
theorem dX12_look_14 : decode cX12_look 14 = .ok (.iload_n 2, 1) := by decide +kernel
theorem dX12_look_15 : decode cX12_look 15 = .ok (.i2l, 1) := by decide +kernel
theorem dX12_look_16 : decode cX12_look 16 = .ok (.lconst 0, 1) := by decide +kernel
theorem dX12_look_17 : decode cX12_look 17 = .ok (.lconst 1, 1) := by decide +kernel
theorem dX12_look_18 : decode cX12_look 18 = .ok (.invokestatic 166, 3) := by decide +kernel
theorem dX12_look_21 : decode cX12_look 21 = .ok (.ifCond .ne 9, 3) := by decide +kernel
theorem dX12_look_24 : decode cX12_look 24 = .ok (.aload_n 0, 1) := by decide +kernel
theorem dX12_look_25 : decode cX12_look 25 = .ok (.iconst 1, 1) := by decide +kernel
theorem dX12_look_26 : decode cX12_look 26 = .ok (.invokevirtual 313, 3) := by decide +kernel
theorem dX12_look_29 : decode cX12_look 29 = .ok (.ireturn, 1) := by decide +kernel
theorem dX12_look_30 : decode cX12_look 30 = .ok (.aload_n 0, 1) := by decide +kernel
theorem dX12_look_31 : decode cX12_look 31 = .ok (.iload_n 1, 1) := by decide +kernel
theorem dX12_look_32 : decode cX12_look 32 = .ok (.invokevirtual 498, 3) := by decide +kernel
theorem dX12_look_35 : decode cX12_look 35 = .ok (.ldc_w 360, 3) := by decide +kernel
theorem dX12_look_38 : decode cX12_look 38 = .ok (.istore_n 3, 1) := by decide +kernel
theorem dX12_look_39 : decode cX12_look 39 = .ok (.iconst 0, 1) := by decide +kernel
theorem dX12_look_40 : decode cX12_look 40 = .ok (.istore 4, 2) := by decide +kernel
theorem dX12_look_42 : decode cX12_look 42 = .ok (.bipush (-20), 2) := by decide +kernel
theorem dX12_look_44 : decode cX12_look 44 = .ok (.istore 5, 2) := by decide +kernel
theorem dX12_look_46 : decode cX12_look 46 = .ok (.iload 5, 2) := by decide +kernel
theorem dX12_look_48 : decode cX12_look 48 = .ok (.bipush 20, 2) := by decide +kernel
theorem dX12_look_50 : decode cX12_look 50 = .ok (.if_icmp .gt 34, 3) := by decide +kernel
theorem dX12_look_53 : decode cX12_look 53 = .ok (.aload_n 0, 1) := by decide +kernel
theorem dX12_look_54 : decode cX12_look 54 = .ok (.iload 5, 2) := by decide +kernel
theorem dX12_look_56 : decode cX12_look 56 = .ok (.invokevirtual 501, 3) := by decide +kernel
theorem dX12_look_59 : decode cX12_look 59 = .ok (.istore 6, 2) := by decide +kernel
theorem dX12_look_61 : decode cX12_look 61 = .ok (.iload 6, 2) := by decide +kernel
theorem dX12_look_63 : decode cX12_look 63 = .ok (.iload 4, 2) := by decide +kernel
theorem dX12_look_65 : decode cX12_look 65 = .ok (.if_icmp .gt 6, 3) := by decide +kernel
theorem dX12_look_68 : decode cX12_look 68 = .ok (.goto 10, 3) := by decide +kernel
theorem dX12_look_71 : decode cX12_look 71 = .ok (.iload 5, 2) := by decide +kernel
theorem dX12_look_73 : decode cX12_look 73 = .ok (.istore_n 3, 1) := by decide +kernel
theorem dX12_look_74 : decode cX12_look 74 = .ok (.iload 6, 2) := by decide +kernel
theorem dX12_look_76 : decode cX12_look 76 = .ok (.istore 4, 2) := by decide +kernel
theorem dX12_look_78 : decode cX12_look 78 = .ok (.iinc 5 1, 3) := by decide +kernel
theorem dX12_look_81 : decode cX12_look 81 = .ok (.goto (-35), 3) := by decide +kernel
theorem dX12_look_84 : decode cX12_look 84 = .ok (.iload_n 2, 1) := by decide +kernel
theorem dX12_look_85 : decode cX12_look 85 = .ok (.ifCond .ne 7, 3) := by decide +kernel
theorem dX12_look_88 : decode cX12_look 88 = .ok (.iload_n 3, 1) := by decide +kernel
theorem dX12_look_89 : decode cX12_look 89 = .ok (.goto 5, 3) := by decide +kernel
theorem dX12_look_92 : decode cX12_look 92 = .ok (.iload 4, 2) := by decide +kernel
theorem dX12_look_94 : decode cX12_look 94 = .ok (.ireturn, 1) := by decide +kernel
theorem dX12_draw_0 : decode cX12_draw 0 = .ok (.aload_n 0, 1) := by decide +kernel
theorem dX12_draw_1 : decode cX12_draw 1 = .ok (.aload_n 0, 1) := by decide +kernel
theorem dX12_draw_2 : decode cX12_draw 2 = .ok (.getfield 504, 3) := by decide +kernel
theorem dX12_draw_5 : decode cX12_draw 5 = .ok (.ldc_w 507, 3) := by decide +kernel
theorem dX12_draw_8 : decode cX12_draw 8 = .ok (.imul, 1) := by decide +kernel
theorem dX12_draw_9 : decode cX12_draw 9 = .ok (.sipush 12345, 3) := by decide +kernel
theorem dX12_draw_12 : decode cX12_draw 12 = .ok (.iadd, 1) := by decide +kernel
theorem dX12_draw_13 : decode cX12_draw 13 = .ok (.putfield 504, 3) := by decide +kernel
theorem dX12_draw_16 : decode cX12_draw 16 = .ok (.aload_n 0, 1) := by decide +kernel
theorem dX12_draw_17 : decode cX12_draw 17 = .ok (.getfield 504, 3) := by decide +kernel
theorem dX12_draw_20 : decode cX12_draw 20 = .ok (.bipush 16, 2) := by decide +kernel
theorem dX12_draw_22 : decode cX12_draw 22 = .ok (.ishr, 1) := by decide +kernel
theorem dX12_draw_23 : decode cX12_draw 23 = .ok (.sipush 32767, 3) := by decide +kernel
theorem dX12_draw_26 : decode cX12_draw 26 = .ok (.iand, 1) := by decide +kernel
theorem dX12_draw_27 : decode cX12_draw 27 = .ok (.iload_n 1, 1) := by decide +kernel
theorem dX12_draw_28 : decode cX12_draw 28 = .ok (.irem, 1) := by decide +kernel
theorem dX12_draw_29 : decode cX12_draw 29 = .ok (.ireturn, 1) := by decide +kernel
theorem dX12_happens_0 : decode cX12_happens 0 = .ok (.aload_n 0, 1) := by decide +kernel
theorem dX12_happens_1 : decode cX12_happens 1 = .ok (.bipush 8, 2) := by decide +kernel
theorem dX12_happens_3 : decode cX12_happens 3 = .ok (.invokevirtual 508, 3) := by decide +kernel
theorem dX12_happens_6 : decode cX12_happens 6 = .ok (.istore_n 1, 1) := by decide +kernel
theorem dX12_happens_7 : decode cX12_happens 7 = .ok (.iload_n 1, 1) := by decide +kernel
theorem dX12_happens_8 : decode cX12_happens 8 = .ok (.iconst 3, 1) := by decide +kernel
theorem dX12_happens_9 : decode cX12_happens 9 = .ok (.if_icmp .ge 7, 3) := by decide +kernel
theorem dX12_happens_12 : decode cX12_happens 12 = .ok (.iload_n 1, 1) := by decide +kernel
theorem dX12_happens_13 : decode cX12_happens 13 = .ok (.goto 26, 3) := by decide +kernel
theorem dX12_happens_16 : decode cX12_happens 16 = .ok (.iload_n 1, 1) := by decide +kernel
theorem dX12_happens_17 : decode cX12_happens 17 = .ok (.iconst 3, 1) := by decide +kernel
theorem dX12_happens_18 : decode cX12_happens 18 = .ok (.if_icmp .ne 7, 3) := by decide +kernel
theorem dX12_happens_21 : decode cX12_happens 21 = .ok (.iconst 2, 1) := by decide +kernel
theorem dX12_happens_22 : decode cX12_happens 22 = .ok (.goto 17, 3) := by decide +kernel
theorem dX12_happens_25 : decode cX12_happens 25 = .ok (.iload_n 1, 1) := by decide +kernel
theorem dX12_happens_26 : decode cX12_happens 26 = .ok (.bipush 7, 2) := by decide +kernel
theorem dX12_happens_28 : decode cX12_happens 28 = .ok (.if_icmp .ne 8, 3) := by decide +kernel
theorem dX12_happens_31 : decode cX12_happens 31 = .ok (.bipush 7, 2) := by decide +kernel
theorem dX12_happens_33 : decode cX12_happens 33 = .ok (.goto 6, 3) := by decide +kernel
theorem dX12_happens_36 : decode cX12_happens 36 = .ok (.iload_n 1, 1) := by decide +kernel
theorem dX12_happens_37 : decode cX12_happens 37 = .ok (.iconst 1, 1) := by decide +kernel
theorem dX12_happens_38 : decode cX12_happens 38 = .ok (.isub, 1) := by decide +kernel
theorem dX12_happens_39 : decode cX12_happens 39 = .ok (.istore_n 2, 1) := by decide +kernel
theorem dX12_happens_40 : decode cX12_happens 40 = .ok (.iload_n 1, 1) := by decide +kernel
theorem dX12_happens_41 : decode cX12_happens 41 = .ok (.iconst 4, 1) := by decide +kernel
theorem dX12_happens_42 : decode cX12_happens 42 = .ok (.if_icmp .ge 15, 3) := by decide +kernel
theorem dX12_happens_45 : decode cX12_happens 45 = .ok (.aload_n 0, 1) := by decide +kernel
theorem dX12_happens_46 : decode cX12_happens 46 = .ok (.bipush 101, 2) := by decide +kernel
theorem dX12_happens_48 : decode cX12_happens 48 = .ok (.invokevirtual 508, 3) := by decide +kernel
theorem dX12_happens_51 : decode cX12_happens 51 = .ok (.bipush 50, 2) := by decide +kernel
theorem dX12_happens_53 : decode cX12_happens 53 = .ok (.isub, 1) := by decide +kernel
theorem dX12_happens_54 : decode cX12_happens 54 = .ok (.goto 50, 3) := by decide +kernel
theorem dX12_happens_57 : decode cX12_happens 57 = .ok (.iload_n 1, 1) := by decide +kernel
theorem dX12_happens_58 : decode cX12_happens 58 = .ok (.iconst 4, 1) := by decide +kernel
theorem dX12_happens_59 : decode cX12_happens 59 = .ok (.if_icmp .ne 15, 3) := by decide +kernel
theorem dX12_happens_62 : decode cX12_happens 62 = .ok (.aload_n 0, 1) := by decide +kernel
theorem dX12_happens_63 : decode cX12_happens 63 = .ok (.bipush 21, 2) := by decide +kernel
theorem dX12_happens_65 : decode cX12_happens 65 = .ok (.invokevirtual 508, 3) := by decide +kernel
theorem dX12_happens_68 : decode cX12_happens 68 = .ok (.bipush 10, 2) := by decide +kernel
theorem dX12_happens_70 : decode cX12_happens 70 = .ok (.isub, 1) := by decide +kernel
theorem dX12_happens_71 : decode cX12_happens 71 = .ok (.goto 33, 3) := by decide +kernel
theorem dX12_happens_74 : decode cX12_happens 74 = .ok (.iload_n 1, 1) := by decide +kernel
theorem dX12_happens_75 : decode cX12_happens 75 = .ok (.iconst 5, 1) := by decide +kernel
theorem dX12_happens_76 : decode cX12_happens 76 = .ok (.if_icmp .ne 12, 3) := by decide +kernel
theorem dX12_happens_79 : decode cX12_happens 79 = .ok (.aload_n 0, 1) := by decide +kernel
theorem dX12_happens_80 : decode cX12_happens 80 = .ok (.bipush 6, 2) := by decide +kernel
theorem dX12_happens_82 : decode cX12_happens 82 = .ok (.invokevirtual 508, 3) := by decide +kernel
theorem dX12_happens_85 : decode cX12_happens 85 = .ok (.goto 19, 3) := by decide +kernel
theorem dX12_happens_88 : decode cX12_happens 88 = .ok (.iload_n 1, 1) := by decide +kernel
theorem dX12_happens_89 : decode cX12_happens 89 = .ok (.bipush 7, 2) := by decide +kernel
theorem dX12_happens_91 : decode cX12_happens 91 = .ok (.if_icmp .ne 12, 3) := by decide +kernel
theorem dX12_happens_94 : decode cX12_happens 94 = .ok (.aload_n 0, 1) := by decide +kernel
theorem dX12_happens_95 : decode cX12_happens 95 = .ok (.bipush 10, 2) := by decide +kernel
theorem dX12_happens_97 : decode cX12_happens 97 = .ok (.invokevirtual 508, 3) := by decide +kernel
theorem dX12_happens_100 : decode cX12_happens 100 = .ok (.goto 4, 3) := by decide +kernel
theorem dX12_happens_103 : decode cX12_happens 103 = .ok (.iconst 0, 1) := by decide +kernel
theorem dX12_happens_104 : decode cX12_happens 104 = .ok (.istore_n 3, 1) := by decide +kernel
theorem dX12_happens_105 : decode cX12_happens 105 = .ok (.iload_n 1, 1) := by decide +kernel
theorem dX12_happens_106 : decode cX12_happens 106 = .ok (.iconst 4, 1) := by decide +kernel
theorem dX12_happens_107 : decode cX12_happens 107 = .ok (.if_icmp .ge 12, 3) := by decide +kernel
theorem dX12_happens_110 : decode cX12_happens 110 = .ok (.aload_n 0, 1) := by decide +kernel
theorem dX12_happens_111 : decode cX12_happens 111 = .ok (.bipush 10, 2) := by decide +kernel
theorem dX12_happens_113 : decode cX12_happens 113 = .ok (.invokevirtual 508, 3) := by decide +kernel
theorem dX12_happens_116 : decode cX12_happens 116 = .ok (.goto 18, 3) := by decide +kernel
theorem dX12_happens_119 : decode cX12_happens 119 = .ok (.iload_n 1, 1) := by decide +kernel
theorem dX12_happens_120 : decode cX12_happens 120 = .ok (.iconst 5, 1) := by decide +kernel
theorem dX12_happens_121 : decode cX12_happens 121 = .ok (.if_icmp .ne 12, 3) := by decide +kernel
theorem dX12_happens_124 : decode cX12_happens 124 = .ok (.aload_n 0, 1) := by decide +kernel
theorem dX12_happens_125 : decode cX12_happens 125 = .ok (.bipush 6, 2) := by decide +kernel
theorem dX12_happens_127 : decode cX12_happens 127 = .ok (.invokevirtual 508, 3) := by decide +kernel
theorem dX12_happens_130 : decode cX12_happens 130 = .ok (.goto 4, 3) := by decide +kernel
theorem dX12_happens_133 : decode cX12_happens 133 = .ok (.iconst 0, 1) := by decide +kernel
theorem dX12_happens_134 : decode cX12_happens 134 = .ok (.istore 4, 2) := by decide +kernel
theorem dX12_happens_136 : decode cX12_happens 136 = .ok (.aload_n 0, 1) := by decide +kernel
theorem dX12_happens_137 : decode cX12_happens 137 = .ok (.getfield 43, 3) := by decide +kernel
theorem dX12_happens_140 : decode cX12_happens 140 = .ok (.aload_n 0, 1) := by decide +kernel
theorem dX12_happens_141 : decode cX12_happens 141 = .ok (.getfield 40, 3) := by decide +kernel
theorem dX12_happens_144 : decode cX12_happens 144 = .ok (.invokestatic 178, 3) := by decide +kernel
theorem dX12_happens_147 : decode cX12_happens 147 = .ok (.aload_n 0, 1) := by decide +kernel
theorem dX12_happens_148 : decode cX12_happens 148 = .ok (.iload_n 2, 1) := by decide +kernel
theorem dX12_happens_149 : decode cX12_happens 149 = .ok (.iload_n 3, 1) := by decide +kernel
theorem dX12_happens_150 : decode cX12_happens 150 = .ok (.iload 4, 2) := by decide +kernel
theorem dX12_happens_152 : decode cX12_happens 152 = .ok (.iconst (-1), 1) := by decide +kernel
theorem dX12_happens_153 : decode cX12_happens 153 = .ok (.invokevirtual 219, 3) := by decide +kernel
theorem dX12_happens_156 : decode cX12_happens 156 = .ok (.ifCond .ne 14, 3) := by decide +kernel
theorem dX12_happens_159 : decode cX12_happens 159 = .ok (.aload_n 0, 1) := by decide +kernel
theorem dX12_happens_160 : decode cX12_happens 160 = .ok (.getfield 40, 3) := by decide +kernel
theorem dX12_happens_163 : decode cX12_happens 163 = .ok (.aload_n 0, 1) := by decide +kernel
theorem dX12_happens_164 : decode cX12_happens 164 = .ok (.getfield 43, 3) := by decide +kernel
theorem dX12_happens_167 : decode cX12_happens 167 = .ok (.invokestatic 178, 3) := by decide +kernel
theorem dX12_happens_170 : decode cX12_happens 170 = .ok (.return_, 1) := by decide +kernel
theorem dX12_years_0 : decode cX12_years 0 = .ok (.aload_n 0, 1) := by decide +kernel
theorem dX12_years_1 : decode cX12_years 1 = .ok (.iconst 0, 1) := by decide +kernel
theorem dX12_years_2 : decode cX12_years 2 = .ok (.putfield 132, 3) := by decide +kernel
theorem dX12_years_5 : decode cX12_years 5 = .ok (.iload_n 3, 1) := by decide +kernel
theorem dX12_years_6 : decode cX12_years 6 = .ok (.i2l, 1) := by decide +kernel
theorem dX12_years_7 : decode cX12_years 7 = .ok (.lconst 0, 1) := by decide +kernel
theorem dX12_years_8 : decode cX12_years 8 = .ok (.ldc2_w 344, 3) := by decide +kernel
theorem dX12_years_11 : decode cX12_years 11 = .ok (.invokestatic 166, 3) := by decide +kernel
theorem dX12_years_14 : decode cX12_years 14 = .ok (.ifCond .ne 10, 3) := by decide +kernel
theorem dX12_years_17 : decode cX12_years 17 = .ok (.aload_n 0, 1) := by decide +kernel
theorem dX12_years_18 : decode cX12_years 18 = .ok (.iconst 1, 1) := by decide +kernel
theorem dX12_years_19 : decode cX12_years 19 = .ok (.invokevirtual 313, 3) := by decide +kernel
theorem dX12_years_22 : decode cX12_years 22 = .ok (.i2l, 1) := by decide +kernel
theorem dX12_years_23 : decode cX12_years 23 = .ok (.lreturn, 1) := by decide +kernel
theorem dX12_years_24 : decode cX12_years 24 = .ok (.iload_n 2, 1) := by decide +kernel
theorem dX12_years_25 : decode cX12_years 25 = .ok (.i2l, 1) := by decide +kernel
theorem dX12_years_26 : decode cX12_years 26 = .ok (.lconst 0, 1) := by decide +kernel
theorem dX12_years_27 : decode cX12_years 27 = .ok (.ldc2_w 511, 3) := by decide +kernel
theorem dX12_years_30 : decode cX12_years 30 = .ok (.invokestatic 166, 3) := by decide +kernel
theorem dX12_years_33 : decode cX12_years 33 = .ok (.ifCond .ne 10, 3) := by decide +kernel
theorem dX12_years_36 : decode cX12_years 36 = .ok (.aload_n 0, 1) := by decide +kernel
theorem dX12_years_37 : decode cX12_years 37 = .ok (.iconst 2, 1) := by decide +kernel
theorem dX12_years_38 : decode cX12_years 38 = .ok (.invokevirtual 313, 3) := by decide +kernel
theorem dX12_years_41 : decode cX12_years 41 = .ok (.i2l, 1) := by decide +kernel
theorem dX12_years_42 : decode cX12_years 42 = .ok (.lreturn, 1) := by decide +kernel
theorem dX12_years_43 : decode cX12_years 43 = .ok (.aload_n 0, 1) := by decide +kernel
theorem dX12_years_44 : decode cX12_years 44 = .ok (.iconst 0, 1) := by decide +kernel
theorem dX12_years_45 : decode cX12_years 45 = .ok (.invokevirtual 227, 3) := by decide +kernel
theorem dX12_years_48 : decode cX12_years 48 = .ok (.aload_n 0, 1) := by decide +kernel
theorem dX12_years_49 : decode cX12_years 49 = .ok (.iload_n 1, 1) := by decide +kernel
theorem dX12_years_50 : decode cX12_years 50 = .ok (.putfield 504, 3) := by decide +kernel
theorem dX12_years_53 : decode cX12_years 53 = .ok (.iconst 0, 1) := by decide +kernel
theorem dX12_years_54 : decode cX12_years 54 = .ok (.istore 4, 2) := by decide +kernel
theorem dX12_years_56 : decode cX12_years 56 = .ok (.iload 4, 2) := by decide +kernel
theorem dX12_years_58 : decode cX12_years 58 = .ok (.iload_n 2, 1) := by decide +kernel
theorem dX12_years_59 : decode cX12_years 59 = .ok (.if_icmp .ge 13, 3) := by decide +kernel
theorem dX12_years_62 : decode cX12_years 62 = .ok (.aload_n 0, 1) := by decide +kernel
theorem dX12_years_63 : decode cX12_years 63 = .ok (.invokevirtual 513, 3) := by decide +kernel
theorem dX12_years_66 : decode cX12_years 66 = .ok (.iinc 4 1, 3) := by decide +kernel
theorem dX12_years_69 : decode cX12_years 69 = .ok (.goto (-13), 3) := by decide +kernel
theorem dX12_years_72 : decode cX12_years 72 = .ok (.iload_n 3, 1) := by decide +kernel
theorem dX12_years_73 : decode cX12_years 73 = .ok (.ifCond .ne 13, 3) := by decide +kernel
theorem dX12_years_76 : decode cX12_years 76 = .ok (.aload_n 0, 1) := by decide +kernel
theorem dX12_years_77 : decode cX12_years 77 = .ok (.getfield 40, 3) := by decide +kernel
theorem dX12_years_80 : decode cX12_years 80 = .ok (.invokestatic 182, 3) := by decide +kernel
theorem dX12_years_83 : decode cX12_years 83 = .ok (.goto 27, 3) := by decide +kernel
theorem dX12_years_86 : decode cX12_years 86 = .ok (.iload_n 3, 1) := by decide +kernel
theorem dX12_years_87 : decode cX12_years 87 = .ok (.iconst 1, 1) := by decide +kernel
theorem dX12_years_88 : decode cX12_years 88 = .ok (.if_icmp .ne 14, 3) := by decide +kernel
theorem dX12_years_91 : decode cX12_years 91 = .ok (.aload_n 0, 1) := by decide +kernel
theorem dX12_years_92 : decode cX12_years 92 = .ok (.getfield 40, 3) := by decide +kernel
theorem dX12_years_95 : decode cX12_years 95 = .ok (.invokestatic 366, 3) := by decide +kernel
theorem dX12_years_98 : decode cX12_years 98 = .ok (.i2l, 1) := by decide +kernel
theorem dX12_years_99 : decode cX12_years 99 = .ok (.goto 11, 3) := by decide +kernel
theorem dX12_years_102 : decode cX12_years 102 = .ok (.aload_n 0, 1) := by decide +kernel
theorem dX12_years_103 : decode cX12_years 103 = .ok (.getfield 40, 3) := by decide +kernel
theorem dX12_years_106 : decode cX12_years 106 = .ok (.iconst 0, 1) := by decide +kernel
theorem dX12_years_107 : decode cX12_years 107 = .ok (.invokestatic 158, 3) := by decide +kernel
theorem dX12_years_110 : decode cX12_years 110 = .ok (.lreturn, 1) := by decide +kernel
theorem dX12_image_0 : decode cX12_image 0 = .ok (.aload_n 0, 1) := by decide +kernel
theorem dX12_image_1 : decode cX12_image 1 = .ok (.iconst 0, 1) := by decide +kernel
theorem dX12_image_2 : decode cX12_image 2 = .ok (.putfield 132, 3) := by decide +kernel
theorem dX12_image_5 : decode cX12_image 5 = .ok (.aload_n 0, 1) := by decide +kernel
theorem dX12_image_6 : decode cX12_image 6 = .ok (.iconst 1, 1) := by decide +kernel
theorem dX12_image_7 : decode cX12_image 7 = .ok (.putfield 516, 3) := by decide +kernel
theorem dX12_image_10 : decode cX12_image 10 = .ok (.aload_n 0, 1) := by decide +kernel
theorem dX12_image_11 : decode cX12_image 11 = .ok (.aload_n 0, 1) := by decide +kernel
theorem dX12_image_12 : decode cX12_image 12 = .ok (.getfield 331, 3) := by decide +kernel
theorem dX12_image_15 : decode cX12_image 15 = .ok (.putfield 519, 3) := by decide +kernel
theorem dX12_image_18 : decode cX12_image 18 = .ok (.aload_n 0, 1) := by decide +kernel
theorem dX12_image_19 : decode cX12_image 19 = .ok (.aload_n 0, 1) := by decide +kernel
theorem dX12_image_20 : decode cX12_image 20 = .ok (.getfield 334, 3) := by decide +kernel
theorem dX12_image_23 : decode cX12_image 23 = .ok (.putfield 522, 3) := by decide +kernel
theorem dX12_image_26 : decode cX12_image 26 = .ok (.aload_n 0, 1) := by decide +kernel
theorem dX12_image_27 : decode cX12_image 27 = .ok (.getfield 117, 3) := by decide +kernel
theorem dX12_image_30 : decode cX12_image 30 = .ok (.aload_n 0, 1) := by decide +kernel
theorem dX12_image_31 : decode cX12_image 31 = .ok (.getfield 33, 3) := by decide +kernel
theorem dX12_image_34 : decode cX12_image 34 = .ok (.invokestatic 178, 3) := by decide +kernel
theorem dX12_image_37 : decode cX12_image 37 = .ok (.aload_n 0, 1) := by decide +kernel
theorem dX12_image_38 : decode cX12_image 38 = .ok (.getfield 120, 3) := by decide +kernel
theorem dX12_image_41 : decode cX12_image 41 = .ok (.aload_n 0, 1) := by decide +kernel
theorem dX12_image_42 : decode cX12_image 42 = .ok (.getfield 102, 3) := by decide +kernel
theorem dX12_image_45 : decode cX12_image 45 = .ok (.invokestatic 178, 3) := by decide +kernel
theorem dX12_image_48 : decode cX12_image 48 = .ok (.aload_n 0, 1) := by decide +kernel
theorem dX12_image_49 : decode cX12_image 49 = .ok (.getfield 123, 3) := by decide +kernel
theorem dX12_image_52 : decode cX12_image 52 = .ok (.aload_n 0, 1) := by decide +kernel
theorem dX12_image_53 : decode cX12_image 53 = .ok (.getfield 105, 3) := by decide +kernel
theorem dX12_image_56 : decode cX12_image 56 = .ok (.invokestatic 178, 3) := by decide +kernel
theorem dX12_image_59 : decode cX12_image 59 = .ok (.iconst 0, 1) := by decide +kernel
theorem dX12_image_60 : decode cX12_image 60 = .ok (.istore_n 1, 1) := by decide +kernel
theorem dX12_image_61 : decode cX12_image 61 = .ok (.iload_n 1, 1) := by decide +kernel
theorem dX12_image_62 : decode cX12_image 62 = .ok (.bipush 8, 2) := by decide +kernel
theorem dX12_image_64 : decode cX12_image 64 = .ok (.if_icmp .ge 21, 3) := by decide +kernel
theorem dX12_image_67 : decode cX12_image 67 = .ok (.aload_n 0, 1) := by decide +kernel
theorem dX12_image_68 : decode cX12_image 68 = .ok (.getfield 129, 3) := by decide +kernel
theorem dX12_image_71 : decode cX12_image 71 = .ok (.iload_n 1, 1) := by decide +kernel
theorem dX12_image_72 : decode cX12_image 72 = .ok (.aload_n 0, 1) := by decide +kernel
theorem dX12_image_73 : decode cX12_image 73 = .ok (.getfield 108, 3) := by decide +kernel
theorem dX12_image_76 : decode cX12_image 76 = .ok (.iload_n 1, 1) := by decide +kernel
theorem dX12_image_77 : decode cX12_image 77 = .ok (.laload, 1) := by decide +kernel
theorem dX12_image_78 : decode cX12_image 78 = .ok (.lastore, 1) := by decide +kernel
theorem dX12_image_79 : decode cX12_image 79 = .ok (.iinc 1 1, 3) := by decide +kernel
theorem dX12_image_82 : decode cX12_image 82 = .ok (.goto (-21), 3) := by decide +kernel
theorem dX12_image_85 : decode cX12_image 85 = .ok (.aload_n 0, 1) := by decide +kernel
theorem dX12_image_86 : decode cX12_image 86 = .ok (.getfield 126, 3) := by decide +kernel
theorem dX12_image_89 : decode cX12_image 89 = .ok (.aload_n 0, 1) := by decide +kernel
theorem dX12_image_90 : decode cX12_image 90 = .ok (.getfield 37, 3) := by decide +kernel
theorem dX12_image_93 : decode cX12_image 93 = .ok (.invokestatic 178, 3) := by decide +kernel
theorem dX12_image_96 : decode cX12_image 96 = .ok (.return_, 1) := by decide +kernel
theorem dX12_restore_0 : decode cX12_restore 0 = .ok (.aload_n 0, 1) := by decide +kernel
theorem dX12_restore_1 : decode cX12_restore 1 = .ok (.iconst 0, 1) := by decide +kernel
theorem dX12_restore_2 : decode cX12_restore 2 = .ok (.putfield 132, 3) := by decide +kernel
theorem dX12_restore_5 : decode cX12_restore 5 = .ok (.aload_n 0, 1) := by decide +kernel
theorem dX12_restore_6 : decode cX12_restore 6 = .ok (.getfield 516, 3) := by decide +kernel
theorem dX12_restore_9 : decode cX12_restore 9 = .ok (.ifCond .ne 5, 3) := by decide +kernel
theorem dX12_restore_12 : decode cX12_restore 12 = .ok (.iconst 0, 1) := by decide +kernel
theorem dX12_restore_13 : decode cX12_restore 13 = .ok (.ireturn, 1) := by decide +kernel
theorem dX12_restore_14 : decode cX12_restore 14 = .ok (.aload_n 0, 1) := by decide +kernel
theorem dX12_restore_15 : decode cX12_restore 15 = .ok (.aload_n 0, 1) := by decide +kernel
theorem dX12_restore_16 : decode cX12_restore 16 = .ok (.getfield 519, 3) := by decide +kernel
theorem dX12_restore_19 : decode cX12_restore 19 = .ok (.putfield 331, 3) := by decide +kernel
theorem dX12_restore_22 : decode cX12_restore 22 = .ok (.aload_n 0, 1) := by decide +kernel
theorem dX12_restore_23 : decode cX12_restore 23 = .ok (.aload_n 0, 1) := by decide +kernel
theorem dX12_restore_24 : decode cX12_restore 24 = .ok (.getfield 522, 3) := by decide +kernel
theorem dX12_restore_27 : decode cX12_restore 27 = .ok (.putfield 334, 3) := by decide +kernel
theorem dX12_restore_30 : decode cX12_restore 30 = .ok (.aload_n 0, 1) := by decide +kernel
theorem dX12_restore_31 : decode cX12_restore 31 = .ok (.getfield 33, 3) := by decide +kernel
theorem dX12_restore_34 : decode cX12_restore 34 = .ok (.aload_n 0, 1) := by decide +kernel
theorem dX12_restore_35 : decode cX12_restore 35 = .ok (.getfield 117, 3) := by decide +kernel
theorem dX12_restore_38 : decode cX12_restore 38 = .ok (.invokestatic 178, 3) := by decide +kernel
theorem dX12_restore_41 : decode cX12_restore 41 = .ok (.aload_n 0, 1) := by decide +kernel
theorem dX12_restore_42 : decode cX12_restore 42 = .ok (.getfield 102, 3) := by decide +kernel
theorem dX12_restore_45 : decode cX12_restore 45 = .ok (.aload_n 0, 1) := by decide +kernel
theorem dX12_restore_46 : decode cX12_restore 46 = .ok (.getfield 120, 3) := by decide +kernel
theorem dX12_restore_49 : decode cX12_restore 49 = .ok (.invokestatic 178, 3) := by decide +kernel
theorem dX12_restore_52 : decode cX12_restore 52 = .ok (.aload_n 0, 1) := by decide +kernel
theorem dX12_restore_53 : decode cX12_restore 53 = .ok (.getfield 105, 3) := by decide +kernel
theorem dX12_restore_56 : decode cX12_restore 56 = .ok (.aload_n 0, 1) := by decide +kernel
theorem dX12_restore_57 : decode cX12_restore 57 = .ok (.getfield 123, 3) := by decide +kernel
theorem dX12_restore_60 : decode cX12_restore 60 = .ok (.invokestatic 178, 3) := by decide +kernel
theorem dX12_restore_63 : decode cX12_restore 63 = .ok (.iconst 0, 1) := by decide +kernel
theorem dX12_restore_64 : decode cX12_restore 64 = .ok (.istore_n 1, 1) := by decide +kernel
theorem dX12_restore_65 : decode cX12_restore 65 = .ok (.iload_n 1, 1) := by decide +kernel
theorem dX12_restore_66 : decode cX12_restore 66 = .ok (.bipush 8, 2) := by decide +kernel
theorem dX12_restore_68 : decode cX12_restore 68 = .ok (.if_icmp .ge 21, 3) := by decide +kernel
theorem dX12_restore_71 : decode cX12_restore 71 = .ok (.aload_n 0, 1) := by decide +kernel
theorem dX12_restore_72 : decode cX12_restore 72 = .ok (.getfield 108, 3) := by decide +kernel
theorem dX12_restore_75 : decode cX12_restore 75 = .ok (.iload_n 1, 1) := by decide +kernel
theorem dX12_restore_76 : decode cX12_restore 76 = .ok (.aload_n 0, 1) := by decide +kernel
theorem dX12_restore_77 : decode cX12_restore 77 = .ok (.getfield 129, 3) := by decide +kernel
theorem dX12_restore_80 : decode cX12_restore 80 = .ok (.iload_n 1, 1) := by decide +kernel
theorem dX12_restore_81 : decode cX12_restore 81 = .ok (.laload, 1) := by decide +kernel
theorem dX12_restore_82 : decode cX12_restore 82 = .ok (.lastore, 1) := by decide +kernel
theorem dX12_restore_83 : decode cX12_restore 83 = .ok (.iinc 1 1, 3) := by decide +kernel
theorem dX12_restore_86 : decode cX12_restore 86 = .ok (.goto (-21), 3) := by decide +kernel
theorem dX12_restore_89 : decode cX12_restore 89 = .ok (.aload_n 0, 1) := by decide +kernel
theorem dX12_restore_90 : decode cX12_restore 90 = .ok (.getfield 37, 3) := by decide +kernel
theorem dX12_restore_93 : decode cX12_restore 93 = .ok (.aload_n 0, 1) := by decide +kernel
theorem dX12_restore_94 : decode cX12_restore 94 = .ok (.getfield 126, 3) := by decide +kernel
theorem dX12_restore_97 : decode cX12_restore 97 = .ok (.invokestatic 178, 3) := by decide +kernel
theorem dX12_restore_100 : decode cX12_restore 100 = .ok (.iconst 1, 1) := by decide +kernel
theorem dX12_restore_101 : decode cX12_restore 101 = .ok (.ireturn, 1) := by decide +kernel
