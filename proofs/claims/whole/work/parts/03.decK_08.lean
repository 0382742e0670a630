theorem dX11_against_8 : decode cX11_against 8 = .ok (.ifCond .eq 8, 3) := by decide +kernel
theorem dX11_against_11 : decode cX11_against 11 = .ok (.iload_n 3, 1) := by decide +kernel
theorem dX11_against_12 : decode cX11_against 12 = .ok (.iconst 1, 1) := by decide +kernel
theorem dX11_against_13 : decode cX11_against 13 = .ok (.if_icmp .ne 7, 3) := by decide +kernel
theorem dX11_against_16 : decode cX11_against 16 = .ok (.iconst 1, 1) := by decide +kernel
theorem dX11_against_17 : decode cX11_against 17 = .ok (.goto 4, 3) := by decide +kernel
theorem dX11_against_20 : decode cX11_against 20 = .ok (.iconst 0, 1) := by decide +kernel
theorem dX11_against_21 : decode cX11_against 21 = .ok (.invokestatic 197, 3) := by decide +kernel
theorem dX11_against_24 : decode cX11_against 24 = .ok (.iload_n 2, 1) := by decide +kernel
theorem dX11_against_25 : decode cX11_against 25 = .ok (.sipush (-200), 3) := by decide +kernel
theorem dX11_against_28 : decode cX11_against 28 = .ok (.if_icmp .lt 14, 3) := by decide +kernel
theorem dX11_against_31 : decode cX11_against 31 = .ok (.iload_n 2, 1) := by decide +kernel
theorem dX11_against_32 : decode cX11_against 32 = .ok (.sipush 200, 3) := by decide +kernel
theorem dX11_against_35 : decode cX11_against 35 = .ok (.if_icmp .gt 7, 3) := by decide +kernel
theorem dX11_against_38 : decode cX11_against 38 = .ok (.iconst 1, 1) := by decide +kernel
theorem dX11_against_39 : decode cX11_against 39 = .ok (.goto 4, 3) := by decide +kernel
theorem dX11_against_42 : decode cX11_against 42 = .ok (.iconst 0, 1) := by decide +kernel
theorem dX11_against_43 : decode cX11_against 43 = .ok (.invokestatic 112, 3) := by decide +kernel
theorem dX11_against_46 : decode cX11_against 46 = .ok (.iload_n 2, 1) := by decide +kernel
theorem dX11_against_47 : decode cX11_against 47 = .ok (.aload 4, 2) := by decide +kernel
theorem dX11_against_49 : decode cX11_against 49 = .ok (.getfield 299, 3) := by decide +kernel
theorem dX11_against_52 : decode cX11_against 52 = .ok (.ineg, 1) := by decide +kernel
theorem dX11_against_53 : decode cX11_against 53 = .ok (.if_icmp .lt 18, 3) := by decide +kernel
theorem dX11_against_56 : decode cX11_against 56 = .ok (.iload_n 2, 1) := by decide +kernel
theorem dX11_against_57 : decode cX11_against 57 = .ok (.aload 4, 2) := by decide +kernel
theorem dX11_against_59 : decode cX11_against 59 = .ok (.getfield 241, 3) := by decide +kernel
theorem dX11_against_62 : decode cX11_against 62 = .ok (.aload 4, 2) := by decide +kernel
theorem dX11_against_64 : decode cX11_against 64 = .ok (.getfield 299, 3) := by decide +kernel
theorem dX11_against_67 : decode cX11_against 67 = .ok (.isub, 1) := by decide +kernel
theorem dX11_against_68 : decode cX11_against 68 = .ok (.if_icmp .le 7, 3) := by decide +kernel
theorem dX11_against_71 : decode cX11_against 71 = .ok (.ldc2_w 321, 3) := by decide +kernel
theorem dX11_against_74 : decode cX11_against 74 = .ok (.lreturn, 1) := by decide +kernel
theorem dX11_against_75 : decode cX11_against 75 = .ok (.aload 4, 2) := by decide +kernel
theorem dX11_against_77 : decode cX11_against 77 = .ok (.iload_n 2, 1) := by decide +kernel
theorem dX11_against_78 : decode cX11_against 78 = .ok (.invokevirtual 235, 3) := by decide +kernel
theorem dX11_against_81 : decode cX11_against 81 = .ok (.istore 5, 2) := by decide +kernel
theorem dX11_against_83 : decode cX11_against 83 = .ok (.iload_n 3, 1) := by decide +kernel
theorem dX11_against_84 : decode cX11_against 84 = .ok (.ifCond .ne 20, 3) := by decide +kernel
theorem dX11_against_87 : decode cX11_against 87 = .ok (.iload_n 2, 1) := by decide +kernel
theorem dX11_against_88 : decode cX11_against 88 = .ok (.i2l, 1) := by decide +kernel
theorem dX11_against_89 : decode cX11_against 89 = .ok (.iload 5, 2) := by decide +kernel
theorem dX11_against_91 : decode cX11_against 91 = .ok (.i2l, 1) := by decide +kernel
theorem dX11_against_92 : decode cX11_against 92 = .ok (.lmul, 1) := by decide +kernel
theorem dX11_against_93 : decode cX11_against 93 = .ok (.aload 4, 2) := by decide +kernel
theorem dX11_against_95 : decode cX11_against 95 = .ok (.iload 5, 2) := by decide +kernel
theorem dX11_against_97 : decode cX11_against 97 = .ok (.invokevirtual 218, 3) := by decide +kernel
theorem dX11_against_100 : decode cX11_against 100 = .ok (.lsub, 1) := by decide +kernel
theorem dX11_against_101 : decode cX11_against 101 = .ok (.goto 6, 3) := by decide +kernel
theorem dX11_against_104 : decode cX11_against 104 = .ok (.iload 5, 2) := by decide +kernel
theorem dX11_against_106 : decode cX11_against 106 = .ok (.i2l, 1) := by decide +kernel
theorem dX11_against_107 : decode cX11_against 107 = .ok (.lreturn, 1) := by decide +kernel
theorem dX11_meet_0 : decode cX11_meet 0 = .ok (.aload_n 0, 1) := by decide +kernel
theorem dX11_meet_1 : decode cX11_meet 1 = .ok (.getfield 81, 3) := by decide +kernel
theorem dX11_meet_4 : decode cX11_meet 4 = .ok (.aload_n 0, 1) := by decide +kernel
theorem dX11_meet_5 : decode cX11_meet 5 = .ok (.iload_n 1, 1) := by decide +kernel
theorem dX11_meet_6 : decode cX11_meet 6 = .ok (.invokevirtual 211, 3) := by decide +kernel
theorem dX11_meet_9 : decode cX11_meet 9 = .ok (.sipush (-1000), 3) := by decide +kernel
theorem dX11_meet_12 : decode cX11_meet 12 = .ok (.invokevirtual 311, 3) := by decide +kernel
theorem dX11_meet_15 : decode cX11_meet 15 = .ok (.aload_n 0, 1) := by decide +kernel
theorem dX11_meet_16 : decode cX11_meet 16 = .ok (.getfield 85, 3) := by decide +kernel
theorem dX11_meet_19 : decode cX11_meet 19 = .ok (.aload_n 0, 1) := by decide +kernel
theorem dX11_meet_20 : decode cX11_meet 20 = .ok (.iload_n 2, 1) := by decide +kernel
theorem dX11_meet_21 : decode cX11_meet 21 = .ok (.invokevirtual 211, 3) := by decide +kernel
theorem dX11_meet_24 : decode cX11_meet 24 = .ok (.sipush (-1000), 3) := by decide +kernel
theorem dX11_meet_27 : decode cX11_meet 27 = .ok (.invokevirtual 311, 3) := by decide +kernel
theorem dX11_meet_30 : decode cX11_meet 30 = .ok (.ldc_w 271, 3) := by decide +kernel
theorem dX11_meet_33 : decode cX11_meet 33 = .ok (.istore_n 3, 1) := by decide +kernel
theorem dX11_meet_34 : decode cX11_meet 34 = .ok (.sipush (-1000), 3) := by decide +kernel
theorem dX11_meet_37 : decode cX11_meet 37 = .ok (.istore 4, 2) := by decide +kernel
theorem dX11_meet_39 : decode cX11_meet 39 = .ok (.iload 4, 2) := by decide +kernel
theorem dX11_meet_41 : decode cX11_meet 41 = .ok (.sipush 1000, 3) := by decide +kernel
theorem dX11_meet_44 : decode cX11_meet 44 = .ok (.if_icmp .gt 56, 3) := by decide +kernel
theorem dX11_meet_47 : decode cX11_meet 47 = .ok (.aload_n 0, 1) := by decide +kernel
theorem dX11_meet_48 : decode cX11_meet 48 = .ok (.getfield 81, 3) := by decide +kernel
theorem dX11_meet_51 : decode cX11_meet 51 = .ok (.getfield 315, 3) := by decide +kernel
theorem dX11_meet_54 : decode cX11_meet 54 = .ok (.aload_n 0, 1) := by decide +kernel
theorem dX11_meet_55 : decode cX11_meet 55 = .ok (.getfield 85, 3) := by decide +kernel
theorem dX11_meet_58 : decode cX11_meet 58 = .ok (.getfield 315, 3) := by decide +kernel
theorem dX11_meet_61 : decode cX11_meet 61 = .ok (.lcmp, 1) := by decide +kernel
theorem dX11_meet_62 : decode cX11_meet 62 = .ok (.ifCond .ne 18, 3) := by decide +kernel
theorem dX11_meet_65 : decode cX11_meet 65 = .ok (.iload 4, 2) := by decide +kernel
theorem dX11_meet_67 : decode cX11_meet 67 = .ok (.invokestatic 323, 3) := by decide +kernel
theorem dX11_meet_70 : decode cX11_meet 70 = .ok (.iload_n 3, 1) := by decide +kernel
theorem dX11_meet_71 : decode cX11_meet 71 = .ok (.invokestatic 323, 3) := by decide +kernel
theorem dX11_meet_74 : decode cX11_meet 74 = .ok (.if_icmp .ge 6, 3) := by decide +kernel
theorem dX11_meet_77 : decode cX11_meet 77 = .ok (.iload 4, 2) := by decide +kernel
theorem dX11_meet_79 : decode cX11_meet 79 = .ok (.istore_n 3, 1) := by decide +kernel
theorem dX11_meet_80 : decode cX11_meet 80 = .ok (.aload_n 0, 1) := by decide +kernel
theorem dX11_meet_81 : decode cX11_meet 81 = .ok (.getfield 81, 3) := by decide +kernel
theorem dX11_meet_84 : decode cX11_meet 84 = .ok (.invokevirtual 318, 3) := by decide +kernel
theorem dX11_meet_87 : decode cX11_meet 87 = .ok (.aload_n 0, 1) := by decide +kernel
theorem dX11_meet_88 : decode cX11_meet 88 = .ok (.getfield 85, 3) := by decide +kernel
theorem dX11_meet_91 : decode cX11_meet 91 = .ok (.invokevirtual 318, 3) := by decide +kernel
theorem dX11_meet_94 : decode cX11_meet 94 = .ok (.iinc 4 1, 3) := by decide +kernel
theorem dX11_meet_97 : decode cX11_meet 97 = .ok (.goto (-58), 3) := by decide +kernel
theorem dX11_meet_100 : decode cX11_meet 100 = .ok (.iload_n 3, 1) := by decide +kernel
theorem dX11_meet_101 : decode cX11_meet 101 = .ok (.ireturn, 1) := by decide +kernel
theorem dX11_heaviest_0 : decode cX11_heaviest 0 = .ok (.aload_n 0, 1) := by decide +kernel
theorem dX11_heaviest_1 : decode cX11_heaviest 1 = .ok (.iload_n 1, 1) := by decide +kernel
theorem dX11_heaviest_2 : decode cX11_heaviest 2 = .ok (.iload_n 2, 1) := by decide +kernel
theorem dX11_heaviest_3 : decode cX11_heaviest 3 = .ok (.invokevirtual 193, 3) := by decide +kernel
theorem dX11_heaviest_6 : decode cX11_heaviest 6 = .ok (.getfield 200, 3) := by decide +kernel
theorem dX11_heaviest_9 : decode cX11_heaviest 9 = .ok (.iconst 2, 1) := by decide +kernel
theorem dX11_heaviest_10 : decode cX11_heaviest 10 = .ok (.if_icmp .gt 7, 3) := by decide +kernel
theorem dX11_heaviest_13 : decode cX11_heaviest 13 = .ok (.iconst 1, 1) := by decide +kernel
theorem dX11_heaviest_14 : decode cX11_heaviest 14 = .ok (.goto 4, 3) := by decide +kernel
theorem dX11_heaviest_17 : decode cX11_heaviest 17 = .ok (.iconst 0, 1) := by decide +kernel
theorem dX11_heaviest_18 : decode cX11_heaviest 18 = .ok (.invokestatic 197, 3) := by decide +kernel
theorem dX11_heaviest_21 : decode cX11_heaviest 21 = .ok (.iload_n 3, 1) := by decide +kernel
theorem dX11_heaviest_22 : decode cX11_heaviest 22 = .ok (.ifCond .lt 16, 3) := by decide +kernel
theorem dX11_heaviest_25 : decode cX11_heaviest 25 = .ok (.iload_n 3, 1) := by decide +kernel
theorem dX11_heaviest_26 : decode cX11_heaviest 26 = .ok (.i2l, 1) := by decide +kernel
theorem dX11_heaviest_27 : decode cX11_heaviest 27 = .ok (.ldc2_w 326, 3) := by decide +kernel
theorem dX11_heaviest_30 : decode cX11_heaviest 30 = .ok (.lcmp, 1) := by decide +kernel
theorem dX11_heaviest_31 : decode cX11_heaviest 31 = .ok (.ifCond .gt 7, 3) := by decide +kernel
theorem dX11_heaviest_34 : decode cX11_heaviest 34 = .ok (.iconst 1, 1) := by decide +kernel
theorem dX11_heaviest_35 : decode cX11_heaviest 35 = .ok (.goto 4, 3) := by decide +kernel
theorem dX11_heaviest_38 : decode cX11_heaviest 38 = .ok (.iconst 0, 1) := by decide +kernel
theorem dX11_heaviest_39 : decode cX11_heaviest 39 = .ok (.invokestatic 112, 3) := by decide +kernel
theorem dX11_heaviest_42 : decode cX11_heaviest 42 = .ok (.aload_n 0, 1) := by decide +kernel
theorem dX11_heaviest_43 : decode cX11_heaviest 43 = .ok (.iload_n 1, 1) := by decide +kernel
theorem dX11_heaviest_44 : decode cX11_heaviest 44 = .ok (.invokevirtual 173, 3) := by decide +kernel
theorem dX11_heaviest_47 : decode cX11_heaviest 47 = .ok (.astore 4, 2) := by decide +kernel
theorem dX11_heaviest_49 : decode cX11_heaviest 49 = .ok (.aload_n 0, 1) := by decide +kernel
theorem dX11_heaviest_50 : decode cX11_heaviest 50 = .ok (.getfield 30, 3) := by decide +kernel
theorem dX11_heaviest_53 : decode cX11_heaviest 53 = .ok (.aload 4, 2) := by decide +kernel
theorem dX11_heaviest_55 : decode cX11_heaviest 55 = .ok (.iload_n 2, 1) := by decide +kernel
theorem dX11_heaviest_56 : decode cX11_heaviest 56 = .ok (.invokevirtual 328, 3) := by decide +kernel
theorem dX11_heaviest_59 : decode cX11_heaviest 59 = .ok (.bipush 40, 2) := by decide +kernel
theorem dX11_heaviest_61 : decode cX11_heaviest 61 = .ok (.istore 5, 2) := by decide +kernel
theorem dX11_heaviest_63 : decode cX11_heaviest 63 = .ok (.iload 5, 2) := by decide +kernel
theorem dX11_heaviest_65 : decode cX11_heaviest 65 = .ok (.ifCond .lt 43, 3) := by decide +kernel
theorem dX11_heaviest_68 : decode cX11_heaviest 68 = .ok (.aload_n 0, 1) := by decide +kernel
theorem dX11_heaviest_69 : decode cX11_heaviest 69 = .ok (.getfield 30, 3) := by decide +kernel
theorem dX11_heaviest_72 : decode cX11_heaviest 72 = .ok (.aload 4, 2) := by decide +kernel
theorem dX11_heaviest_74 : decode cX11_heaviest 74 = .ok (.iload_n 2, 1) := by decide +kernel
theorem dX11_heaviest_75 : decode cX11_heaviest 75 = .ok (.iload 5, 2) := by decide +kernel
theorem dX11_heaviest_77 : decode cX11_heaviest 77 = .ok (.invokevirtual 332, 3) := by decide +kernel
theorem dX11_heaviest_80 : decode cX11_heaviest 80 = .ok (.ifCond .eq 22, 3) := by decide +kernel
theorem dX11_heaviest_83 : decode cX11_heaviest 83 = .ok (.aload_n 0, 1) := by decide +kernel
theorem dX11_heaviest_84 : decode cX11_heaviest 84 = .ok (.getfield 30, 3) := by decide +kernel
theorem dX11_heaviest_87 : decode cX11_heaviest 87 = .ok (.getfield 336, 3) := by decide +kernel
theorem dX11_heaviest_90 : decode cX11_heaviest 90 = .ok (.getfield 222, 3) := by decide +kernel
theorem dX11_heaviest_93 : decode cX11_heaviest 93 = .ok (.iload_n 3, 1) := by decide +kernel
theorem dX11_heaviest_94 : decode cX11_heaviest 94 = .ok (.i2l, 1) := by decide +kernel
theorem dX11_heaviest_95 : decode cX11_heaviest 95 = .ok (.lcmp, 1) := by decide +kernel
theorem dX11_heaviest_96 : decode cX11_heaviest 96 = .ok (.ifCond .gt 6, 3) := by decide +kernel
theorem dX11_heaviest_99 : decode cX11_heaviest 99 = .ok (.iload 5, 2) := by decide +kernel
theorem dX11_heaviest_101 : decode cX11_heaviest 101 = .ok (.ireturn, 1) := by decide +kernel
theorem dX11_heaviest_102 : decode cX11_heaviest 102 = .ok (.iinc 5 (-1), 3) := by decide +kernel
theorem dX11_heaviest_105 : decode cX11_heaviest 105 = .ok (.goto (-42), 3) := by decide +kernel
theorem dX11_heaviest_108 : decode cX11_heaviest 108 = .ok (.iconst (-1), 1) := by decide +kernel
theorem dX11_heaviest_109 : decode cX11_heaviest 109 = .ok (.ireturn, 1) := by decide +kernel
theorem dX11_spared_0 : decode cX11_spared 0 = .ok (.aload_n 0, 1) := by decide +kernel
theorem dX11_spared_1 : decode cX11_spared 1 = .ok (.iload_n 1, 1) := by decide +kernel
theorem dX11_spared_2 : decode cX11_spared 2 = .ok (.iload_n 2, 1) := by decide +kernel
theorem dX11_spared_3 : decode cX11_spared 3 = .ok (.invokevirtual 193, 3) := by decide +kernel
theorem dX11_spared_6 : decode cX11_spared 6 = .ok (.pop, 1) := by decide +kernel
theorem dX11_spared_7 : decode cX11_spared 7 = .ok (.aload_n 0, 1) := by decide +kernel
theorem dX11_spared_8 : decode cX11_spared 8 = .ok (.aload_n 0, 1) := by decide +kernel
theorem dX11_spared_9 : decode cX11_spared 9 = .ok (.iload_n 1, 1) := by decide +kernel
theorem dX11_spared_10 : decode cX11_spared 10 = .ok (.invokevirtual 173, 3) := by decide +kernel
theorem dX11_spared_13 : decode cX11_spared 13 = .ok (.aload_n 0, 1) := by decide +kernel
theorem dX11_spared_14 : decode cX11_spared 14 = .ok (.iload_n 1, 1) := by decide +kernel
theorem dX11_spared_15 : decode cX11_spared 15 = .ok (.invokevirtual 211, 3) := by decide +kernel
theorem dX11_spared_18 : decode cX11_spared 18 = .ok (.iload_n 2, 1) := by decide +kernel
theorem dX11_spared_19 : decode cX11_spared 19 = .ok (.invokevirtual 340, 3) := by decide +kernel
theorem dX11_spared_22 : decode cX11_spared 22 = .ok (.lreturn, 1) := by decide +kernel
theorem dX11_sparedBy_0 : decode cX11_sparedBy 0 = .ok (.aload_n 0, 1) := by decide +kernel
theorem dX11_sparedBy_1 : decode cX11_sparedBy 1 = .ok (.getfield 30, 3) := by decide +kernel
theorem dX11_sparedBy_4 : decode cX11_sparedBy 4 = .ok (.aload_n 1, 1) := by decide +kernel
theorem dX11_sparedBy_5 : decode cX11_sparedBy 5 = .ok (.iload_n 3, 1) := by decide +kernel
theorem dX11_sparedBy_6 : decode cX11_sparedBy 6 = .ok (.invokevirtual 328, 3) := by decide +kernel
theorem dX11_sparedBy_9 : decode cX11_sparedBy 9 = .ok (.aload_n 0, 1) := by decide +kernel
theorem dX11_sparedBy_10 : decode cX11_sparedBy 10 = .ok (.getfield 30, 3) := by decide +kernel
theorem dX11_sparedBy_13 : decode cX11_sparedBy 13 = .ok (.aload_n 1, 1) := by decide +kernel
theorem dX11_sparedBy_14 : decode cX11_sparedBy 14 = .ok (.iload_n 3, 1) := by decide +kernel
theorem dX11_sparedBy_15 : decode cX11_sparedBy 15 = .ok (.iconst (-1), 1) := by decide +kernel
theorem dX11_sparedBy_16 : decode cX11_sparedBy 16 = .ok (.invokevirtual 332, 3) := by decide +kernel
theorem dX11_sparedBy_19 : decode cX11_sparedBy 19 = .ok (.ifCond .ne 7, 3) := by decide +kernel
theorem dX11_sparedBy_22 : decode cX11_sparedBy 22 = .ok (.ldc2_w 344, 3) := by decide +kernel
theorem dX11_sparedBy_25 : decode cX11_sparedBy 25 = .ok (.lreturn, 1) := by decide +kernel
theorem dX11_sparedBy_26 : decode cX11_sparedBy 26 = .ok (.aload_n 2, 1) := by decide +kernel
theorem dX11_sparedBy_27 : decode cX11_sparedBy 27 = .ok (.getfield 222, 3) := by decide +kernel
theorem dX11_sparedBy_30 : decode cX11_sparedBy 30 = .ok (.aload_n 0, 1) := by decide +kernel
theorem dX11_sparedBy_31 : decode cX11_sparedBy 31 = .ok (.getfield 30, 3) := by decide +kernel
theorem dX11_sparedBy_34 : decode cX11_sparedBy 34 = .ok (.getfield 336, 3) := by decide +kernel
theorem dX11_sparedBy_37 : decode cX11_sparedBy 37 = .ok (.getfield 222, 3) := by decide +kernel
theorem dX11_sparedBy_40 : decode cX11_sparedBy 40 = .ok (.lsub, 1) := by decide +kernel
theorem dX11_sparedBy_41 : decode cX11_sparedBy 41 = .ok (.lreturn, 1) := by decide +kernel
theorem dX11_dearest_0 : decode cX11_dearest 0 = .ok (.aload_n 0, 1) := by decide +kernel
theorem dX11_dearest_1 : decode cX11_dearest 1 = .ok (.iload_n 1, 1) := by decide +kernel
theorem dX11_dearest_2 : decode cX11_dearest 2 = .ok (.invokevirtual 173, 3) := by decide +kernel
theorem dX11_dearest_5 : decode cX11_dearest 5 = .ok (.astore_n 2, 1) := by decide +kernel
theorem dX11_dearest_6 : decode cX11_dearest 6 = .ok (.iconst (-1), 1) := by decide +kernel
theorem dX11_dearest_7 : decode cX11_dearest 7 = .ok (.istore_n 3, 1) := by decide +kernel
theorem dX11_dearest_8 : decode cX11_dearest 8 = .ok (.lconst 0, 1) := by decide +kernel
theorem dX11_dearest_9 : decode cX11_dearest 9 = .ok (.lstore 4, 2) := by decide +kernel
theorem dX11_dearest_11 : decode cX11_dearest 11 = .ok (.iconst 0, 1) := by decide +kernel
theorem dX11_dearest_12 : decode cX11_dearest 12 = .ok (.istore 6, 2) := by decide +kernel
theorem dX11_dearest_14 : decode cX11_dearest 14 = .ok (.iload 6, 2) := by decide +kernel
theorem dX11_dearest_16 : decode cX11_dearest 16 = .ok (.aload_n 2, 1) := by decide +kernel
theorem dX11_dearest_17 : decode cX11_dearest 17 = .ok (.getfield 177, 3) := by decide +kernel
theorem dX11_dearest_20 : decode cX11_dearest 20 = .ok (.if_icmp .ge 43, 3) := by decide +kernel
theorem dX11_dearest_23 : decode cX11_dearest 23 = .ok (.aload_n 0, 1) := by decide +kernel
theorem dX11_dearest_24 : decode cX11_dearest 24 = .ok (.aload_n 2, 1) := by decide +kernel
theorem dX11_dearest_25 : decode cX11_dearest 25 = .ok (.aload_n 0, 1) := by decide +kernel
theorem dX11_dearest_26 : decode cX11_dearest 26 = .ok (.iload_n 1, 1) := by decide +kernel
theorem dX11_dearest_27 : decode cX11_dearest 27 = .ok (.invokevirtual 211, 3) := by decide +kernel
theorem dX11_dearest_30 : decode cX11_dearest 30 = .ok (.iload 6, 2) := by decide +kernel
theorem dX11_dearest_32 : decode cX11_dearest 32 = .ok (.invokevirtual 340, 3) := by decide +kernel
theorem dX11_dearest_35 : decode cX11_dearest 35 = .ok (.lstore 7, 2) := by decide +kernel
theorem dX11_dearest_37 : decode cX11_dearest 37 = .ok (.iload_n 3, 1) := by decide +kernel
theorem dX11_dearest_38 : decode cX11_dearest 38 = .ok (.iconst (-1), 1) := by decide +kernel
theorem dX11_dearest_39 : decode cX11_dearest 39 = .ok (.if_icmp .eq 11, 3) := by decide +kernel
theorem dX11_dearest_42 : decode cX11_dearest 42 = .ok (.lload 7, 2) := by decide +kernel
theorem dX11_dearest_44 : decode cX11_dearest 44 = .ok (.lload 4, 2) := by decide +kernel
theorem dX11_dearest_46 : decode cX11_dearest 46 = .ok (.lcmp, 1) := by decide +kernel
theorem dX11_dearest_47 : decode cX11_dearest 47 = .ok (.ifCond .le 10, 3) := by decide +kernel
theorem dX11_dearest_50 : decode cX11_dearest 50 = .ok (.iload 6, 2) := by decide +kernel
theorem dX11_dearest_52 : decode cX11_dearest 52 = .ok (.istore_n 3, 1) := by decide +kernel
theorem dX11_dearest_53 : decode cX11_dearest 53 = .ok (.lload 7, 2) := by decide +kernel
theorem dX11_dearest_55 : decode cX11_dearest 55 = .ok (.lstore 4, 2) := by decide +kernel
theorem dX11_dearest_57 : decode cX11_dearest 57 = .ok (.iinc 6 1, 3) := by decide +kernel
theorem dX11_dearest_60 : decode cX11_dearest 60 = .ok (.goto (-46), 3) := by decide +kernel
theorem dX11_dearest_63 : decode cX11_dearest 63 = .ok (.iload_n 3, 1) := by decide +kernel
theorem dX11_dearest_64 : decode cX11_dearest 64 = .ok (.ireturn, 1) := by decide +kernel
theorem dX11_gap_0 : decode cX11_gap 0 = .ok (.aload_n 0, 1) := by decide +kernel
theorem dX11_gap_1 : decode cX11_gap 1 = .ok (.getfield 81, 3) := by decide +kernel
theorem dX11_gap_4 : decode cX11_gap 4 = .ok (.aload_n 0, 1) := by decide +kernel
theorem dX11_gap_5 : decode cX11_gap 5 = .ok (.iload_n 1, 1) := by decide +kernel
theorem dX11_gap_6 : decode cX11_gap 6 = .ok (.invokevirtual 211, 3) := by decide +kernel
theorem dX11_gap_9 : decode cX11_gap 9 = .ok (.sipush (-500), 3) := by decide +kernel
theorem dX11_gap_12 : decode cX11_gap 12 = .ok (.invokevirtual 311, 3) := by decide +kernel
theorem dX11_gap_15 : decode cX11_gap 15 = .ok (.aload_n 0, 1) := by decide +kernel
theorem dX11_gap_16 : decode cX11_gap 16 = .ok (.getfield 85, 3) := by decide +kernel
theorem dX11_gap_19 : decode cX11_gap 19 = .ok (.aload_n 0, 1) := by decide +kernel
theorem dX11_gap_20 : decode cX11_gap 20 = .ok (.iload_n 2, 1) := by decide +kernel
theorem dX11_gap_21 : decode cX11_gap 21 = .ok (.invokevirtual 211, 3) := by decide +kernel
theorem dX11_gap_24 : decode cX11_gap 24 = .ok (.sipush (-500), 3) := by decide +kernel
theorem dX11_gap_27 : decode cX11_gap 27 = .ok (.invokevirtual 311, 3) := by decide +kernel
theorem dX11_gap_30 : decode cX11_gap 30 = .ok (.lconst 0, 1) := by decide +kernel
theorem dX11_gap_31 : decode cX11_gap 31 = .ok (.lstore_n 3, 1) := by decide +kernel
theorem dX11_gap_32 : decode cX11_gap 32 = .ok (.sipush (-500), 3) := by decide +kernel
theorem dX11_gap_35 : decode cX11_gap 35 = .ok (.istore 5, 2) := by decide +kernel
theorem dX11_gap_37 : decode cX11_gap 37 = .ok (.iload 5, 2) := by decide +kernel
theorem dX11_gap_39 : decode cX11_gap 39 = .ok (.sipush 500, 3) := by decide +kernel
theorem dX11_gap_42 : decode cX11_gap 42 = .ok (.if_icmp .gt 46, 3) := by decide +kernel
theorem dX11_gap_45 : decode cX11_gap 45 = .ok (.lload_n 3, 1) := by decide +kernel
theorem dX11_gap_46 : decode cX11_gap 46 = .ok (.aload_n 0, 1) := by decide +kernel
theorem dX11_gap_47 : decode cX11_gap 47 = .ok (.getfield 81, 3) := by decide +kernel
theorem dX11_gap_50 : decode cX11_gap 50 = .ok (.getfield 315, 3) := by decide +kernel
theorem dX11_gap_53 : decode cX11_gap 53 = .ok (.aload_n 0, 1) := by decide +kernel
theorem dX11_gap_54 : decode cX11_gap 54 = .ok (.getfield 85, 3) := by decide +kernel
theorem dX11_gap_57 : decode cX11_gap 57 = .ok (.getfield 315, 3) := by decide +kernel
theorem dX11_gap_60 : decode cX11_gap 60 = .ok (.lsub, 1) := by decide +kernel
theorem dX11_gap_61 : decode cX11_gap 61 = .ok (.invokestatic 346, 3) := by decide +kernel
theorem dX11_gap_64 : decode cX11_gap 64 = .ok (.invokestatic 349, 3) := by decide +kernel
theorem dX11_gap_67 : decode cX11_gap 67 = .ok (.lstore_n 3, 1) := by decide +kernel
theorem dX11_gap_68 : decode cX11_gap 68 = .ok (.aload_n 0, 1) := by decide +kernel
theorem dX11_gap_69 : decode cX11_gap 69 = .ok (.getfield 81, 3) := by decide +kernel
theorem dX11_gap_72 : decode cX11_gap 72 = .ok (.invokevirtual 318, 3) := by decide +kernel
theorem dX11_gap_75 : decode cX11_gap 75 = .ok (.aload_n 0, 1) := by decide +kernel
theorem dX11_gap_76 : decode cX11_gap 76 = .ok (.getfield 85, 3) := by decide +kernel
theorem dX11_gap_79 : decode cX11_gap 79 = .ok (.invokevirtual 318, 3) := by decide +kernel
theorem dX11_gap_82 : decode cX11_gap 82 = .ok (.iinc 5 1, 3) := by decide +kernel
theorem dX11_gap_85 : decode cX11_gap 85 = .ok (.goto (-48), 3) := by decide +kernel
theorem dX11_gap_88 : decode cX11_gap 88 = .ok (.lload_n 3, 1) := by decide +kernel
theorem dX11_gap_89 : decode cX11_gap 89 = .ok (.lreturn, 1) := by decide +kernel
theorem dX11_alike_0 : decode cX11_alike 0 = .ok (.aload_n 0, 1) := by decide +kernel
theorem dX11_alike_1 : decode cX11_alike 1 = .ok (.iload_n 1, 1) := by decide +kernel
theorem dX11_alike_2 : decode cX11_alike 2 = .ok (.invokevirtual 211, 3) := by decide +kernel
theorem dX11_alike_5 : decode cX11_alike 5 = .ok (.aload_n 0, 1) := by decide +kernel
theorem dX11_alike_6 : decode cX11_alike 6 = .ok (.iload_n 2, 1) := by decide +kernel
theorem dX11_alike_7 : decode cX11_alike 7 = .ok (.invokevirtual 211, 3) := by decide +kernel
theorem dX11_alike_10 : decode cX11_alike 10 = .ok (.invokevirtual 352, 3) := by decide +kernel
theorem dX11_alike_13 : decode cX11_alike 13 = .ok (.ifCond .eq 7, 3) := by decide +kernel
theorem dX11_alike_16 : decode cX11_alike 16 = .ok (.iconst 1, 1) := by decide +kernel
theorem dX11_alike_17 : decode cX11_alike 17 = .ok (.goto 4, 3) := by decide +kernel
theorem dX11_alike_20 : decode cX11_alike 20 = .ok (.iconst 0, 1) := by decide +kernel
theorem dX11_alike_21 : decode cX11_alike 21 = .ok (.ireturn, 1) := by decide +kernel
theorem dX11_told_0 : decode cX11_told 0 = .ok (.aload_n 0, 1) := by decide +kernel
theorem dX11_told_1 : decode cX11_told 1 = .ok (.iload_n 1, 1) := by decide +kernel
theorem dX11_told_2 : decode cX11_told 2 = .ok (.invokevirtual 173, 3) := by decide +kernel
theorem dX11_told_5 : decode cX11_told 5 = .ok (.astore_n 3, 1) := by decide +kernel
theorem dX11_told_6 : decode cX11_told 6 = .ok (.aload_n 0, 1) := by decide +kernel
theorem dX11_told_7 : decode cX11_told 7 = .ok (.getfield 51, 3) := by decide +kernel
theorem dX11_told_10 : decode cX11_told 10 = .ok (.iload_n 2, 1) := by decide +kernel
theorem dX11_told_11 : decode cX11_told 11 = .ok (.invokevirtual 356, 3) := by decide +kernel
theorem dX11_told_14 : decode cX11_told 14 = .ok (.iconst 0, 1) := by decide +kernel
theorem dX11_told_15 : decode cX11_told 15 = .ok (.istore 4, 2) := by decide +kernel
theorem dX11_told_17 : decode cX11_told 17 = .ok (.iload 4, 2) := by decide +kernel
theorem dX11_told_19 : decode cX11_told 19 = .ok (.aload_n 3, 1) := by decide +kernel
theorem dX11_told_20 : decode cX11_told 20 = .ok (.getfield 177, 3) := by decide +kernel
theorem dX11_told_23 : decode cX11_told 23 = .ok (.if_icmp .ge 22, 3) := by decide +kernel
theorem dX11_told_26 : decode cX11_told 26 = .ok (.aload_n 0, 1) := by decide +kernel
theorem dX11_told_27 : decode cX11_told 27 = .ok (.getfield 51, 3) := by decide +kernel
theorem dX11_told_30 : decode cX11_told 30 = .ok (.aload_n 3, 1) := by decide +kernel
theorem dX11_told_31 : decode cX11_told 31 = .ok (.iload 4, 2) := by decide +kernel
theorem dX11_told_33 : decode cX11_told 33 = .ok (.invokevirtual 359, 3) := by decide +kernel
theorem dX11_told_36 : decode cX11_told 36 = .ok (.invokevirtual 363, 3) := by decide +kernel
theorem dX11_told_39 : decode cX11_told 39 = .ok (.iinc 4 1, 3) := by decide +kernel
theorem dX11_told_42 : decode cX11_told 42 = .ok (.goto (-25), 3) := by decide +kernel
theorem dX11_told_45 : decode cX11_told 45 = .ok (.iload_n 2, 1) := by decide +kernel
theorem dX11_told_46 : decode cX11_told 46 = .ok (.iconst (-1), 1) := by decide +kernel
theorem dX11_told_47 : decode cX11_told 47 = .ok (.if_icmp .ne 11, 3) := by decide +kernel
theorem dX11_told_50 : decode cX11_told 50 = .ok (.aload_n 0, 1) := by decide +kernel
theorem dX11_told_51 : decode cX11_told 51 = .ok (.getfield 51, 3) := by decide +kernel
theorem dX11_told_54 : decode cX11_told 54 = .ok (.getfield 367, 3) := by decide +kernel
theorem dX11_told_57 : decode cX11_told 57 = .ok (.ireturn, 1) := by decide +kernel
theorem dX11_told_58 : decode cX11_told 58 = .ok (.iload_n 2, 1) := by decide +kernel
theorem dX11_told_59 : decode cX11_told 59 = .ok (.ifCond .lt 18, 3) := by decide +kernel
theorem dX11_told_62 : decode cX11_told 62 = .ok (.iload_n 2, 1) := by decide +kernel
theorem dX11_told_63 : decode cX11_told 63 = .ok (.aload_n 0, 1) := by decide +kernel
theorem dX11_told_64 : decode cX11_told 64 = .ok (.getfield 51, 3) := by decide +kernel
theorem dX11_told_67 : decode cX11_told 67 = .ok (.getfield 367, 3) := by decide +kernel
theorem dX11_told_70 : decode cX11_told 70 = .ok (.if_icmp .ge 7, 3) := by decide +kernel
theorem dX11_told_73 : decode cX11_told 73 = .ok (.iconst 1, 1) := by decide +kernel
theorem dX11_told_74 : decode cX11_told 74 = .ok (.goto 4, 3) := by decide +kernel
theorem dX11_told_77 : decode cX11_told 77 = .ok (.iconst 0, 1) := by decide +kernel
theorem dX11_told_78 : decode cX11_told 78 = .ok (.invokestatic 197, 3) := by decide +kernel
theorem dX11_told_81 : decode cX11_told 81 = .ok (.aload_n 0, 1) := by decide +kernel
theorem dX11_told_82 : decode cX11_told 82 = .ok (.getfield 51, 3) := by decide +kernel
theorem dX11_told_85 : decode cX11_told 85 = .ok (.getfield 370, 3) := by decide +kernel
theorem dX11_told_88 : decode cX11_told 88 = .ok (.ireturn, 1) := by decide +kernel
theorem dX11_does_0 : decode cX11_does 0 = .ok (.aload_n 0, 1) := by decide +kernel
theorem dX11_does_1 : decode cX11_does 1 = .ok (.iload_n 1, 1) := by decide +kernel
theorem dX11_does_2 : decode cX11_does 2 = .ok (.iload_n 2, 1) := by decide +kernel
theorem dX11_does_3 : decode cX11_does 3 = .ok (.iload_n 3, 1) := by decide +kernel
theorem dX11_does_4 : decode cX11_does 4 = .ok (.iload 4, 2) := by decide +kernel
theorem dX11_does_6 : decode cX11_does 6 = .ok (.invokevirtual 373, 3) := by decide +kernel
theorem dX11_does_9 : decode cX11_does 9 = .ok (.ifCond .ne 8, 3) := by decide +kernel
theorem dX11_does_12 : decode cX11_does 12 = .ok (.aload_n 0, 1) := by decide +kernel
theorem dX11_does_13 : decode cX11_does 13 = .ok (.invokevirtual 377, 3) := by decide +kernel
theorem dX11_does_16 : decode cX11_does 16 = .ok (.ireturn, 1) := by decide +kernel
theorem dX11_does_17 : decode cX11_does 17 = .ok (.aload_n 0, 1) := by decide +kernel
theorem dX11_does_18 : decode cX11_does 18 = .ok (.iload_n 2, 1) := by decide +kernel
theorem dX11_does_19 : decode cX11_does 19 = .ok (.iload_n 3, 1) := by decide +kernel
theorem dX11_does_20 : decode cX11_does 20 = .ok (.iload 4, 2) := by decide +kernel
theorem dX11_does_22 : decode cX11_does 22 = .ok (.invokevirtual 165, 3) := by decide +kernel
theorem dX11_does_25 : decode cX11_does 25 = .ok (.astore 5, 2) := by decide +kernel
theorem dX11_does_27 : decode cX11_does 27 = .ok (.aload_n 0, 1) := by decide +kernel
theorem dX11_does_28 : decode cX11_does 28 = .ok (.getfield 30, 3) := by decide +kernel
theorem dX11_does_31 : decode cX11_does 31 = .ok (.aload_n 0, 1) := by decide +kernel
theorem dX11_does_32 : decode cX11_does 32 = .ok (.iload_n 1, 1) := by decide +kernel
theorem dX11_does_33 : decode cX11_does 33 = .ok (.invokevirtual 211, 3) := by decide +kernel
theorem dX11_does_36 : decode cX11_does 36 = .ok (.invokevirtual 381, 3) := by decide +kernel
theorem dX11_does_39 : decode cX11_does 39 = .ok (.aload_n 0, 1) := by decide +kernel
theorem dX11_does_40 : decode cX11_does 40 = .ok (.getfield 30, 3) := by decide +kernel
theorem dX11_does_43 : decode cX11_does 43 = .ok (.aload 5, 2) := by decide +kernel
theorem dX11_does_45 : decode cX11_does 45 = .ok (.invokevirtual 384, 3) := by decide +kernel
theorem dX11_does_48 : decode cX11_does 48 = .ok (.ifCond .ne 8, 3) := by decide +kernel
theorem dX11_does_51 : decode cX11_does 51 = .ok (.aload_n 0, 1) := by decide +kernel
theorem dX11_does_52 : decode cX11_does 52 = .ok (.invokevirtual 377, 3) := by decide +kernel
theorem dX11_does_55 : decode cX11_does 55 = .ok (.ireturn, 1) := by decide +kernel
theorem dX11_does_56 : decode cX11_does 56 = .ok (.aload_n 0, 1) := by decide +kernel
theorem dX11_does_57 : decode cX11_does 57 = .ok (.getfield 91, 3) := by decide +kernel
theorem dX11_does_60 : decode cX11_does 60 = .ok (.aload_n 0, 1) := by decide +kernel
theorem dX11_does_61 : decode cX11_does 61 = .ok (.iload_n 1, 1) := by decide +kernel
theorem dX11_does_62 : decode cX11_does 62 = .ok (.invokevirtual 173, 3) := by decide +kernel
theorem dX11_does_65 : decode cX11_does 65 = .ok (.invokevirtual 388, 3) := by decide +kernel
theorem dX11_does_68 : decode cX11_does 68 = .ok (.aload_n 0, 1) := by decide +kernel
theorem dX11_does_69 : decode cX11_does 69 = .ok (.getfield 91, 3) := by decide +kernel
theorem dX11_does_72 : decode cX11_does 72 = .ok (.aload_n 0, 1) := by decide +kernel
theorem dX11_does_73 : decode cX11_does 73 = .ok (.getfield 91, 3) := by decide +kernel
theorem dX11_does_76 : decode cX11_does 76 = .ok (.getfield 177, 3) := by decide +kernel
theorem dX11_does_79 : decode cX11_does 79 = .ok (.aload 5, 2) := by decide +kernel
theorem dX11_does_81 : decode cX11_does 81 = .ok (.invokevirtual 169, 3) := by decide +kernel
theorem dX11_does_84 : decode cX11_does 84 = .ok (.aload_n 0, 1) := by decide +kernel
theorem dX11_does_85 : decode cX11_does 85 = .ok (.iload_n 1, 1) := by decide +kernel
theorem dX11_does_86 : decode cX11_does 86 = .ok (.invokevirtual 144, 3) := by decide +kernel
theorem dX11_does_89 : decode cX11_does 89 = .ok (.ireturn, 1) := by decide +kernel
theorem dX11_puts_0 : decode cX11_puts 0 = .ok (.aload_n 0, 1) := by decide +kernel
theorem dX11_puts_1 : decode cX11_puts 1 = .ok (.iload_n 1, 1) := by decide +kernel
theorem dX11_puts_2 : decode cX11_puts 2 = .ok (.iload_n 3, 1) := by decide +kernel
theorem dX11_puts_3 : decode cX11_puts 3 = .ok (.iload 4, 2) := by decide +kernel
theorem dX11_puts_5 : decode cX11_puts 5 = .ok (.iload 5, 2) := by decide +kernel
theorem dX11_puts_7 : decode cX11_puts 7 = .ok (.invokevirtual 373, 3) := by decide +kernel
theorem dX11_puts_10 : decode cX11_puts 10 = .ok (.ifCond .ne 8, 3) := by decide +kernel
theorem dX11_puts_13 : decode cX11_puts 13 = .ok (.aload_n 0, 1) := by decide +kernel
theorem dX11_puts_14 : decode cX11_puts 14 = .ok (.invokevirtual 377, 3) := by decide +kernel
theorem dX11_puts_17 : decode cX11_puts 17 = .ok (.ireturn, 1) := by decide +kernel
theorem dX11_puts_18 : decode cX11_puts 18 = .ok (.aload_n 0, 1) := by decide +kernel
theorem dX11_puts_19 : decode cX11_puts 19 = .ok (.iload_n 1, 1) := by decide +kernel
theorem dX11_puts_20 : decode cX11_puts 20 = .ok (.invokevirtual 173, 3) := by decide +kernel
theorem dX11_puts_23 : decode cX11_puts 23 = .ok (.astore 6, 2) := by decide +kernel
theorem dX11_puts_25 : decode cX11_puts 25 = .ok (.iload_n 2, 1) := by decide +kernel
theorem dX11_puts_26 : decode cX11_puts 26 = .ok (.ifCond .lt 12, 3) := by decide +kernel
theorem dX11_puts_29 : decode cX11_puts 29 = .ok (.iload_n 2, 1) := by decide +kernel
theorem dX11_puts_30 : decode cX11_puts 30 = .ok (.aload 6, 2) := by decide +kernel
theorem dX11_puts_32 : decode cX11_puts 32 = .ok (.getfield 177, 3) := by decide +kernel
theorem dX11_puts_35 : decode cX11_puts 35 = .ok (.if_icmp .le 8, 3) := by decide +kernel
theorem dX11_puts_38 : decode cX11_puts 38 = .ok (.aload_n 0, 1) := by decide +kernel
theorem dX11_puts_39 : decode cX11_puts 39 = .ok (.invokevirtual 377, 3) := by decide +kernel
theorem dX11_puts_42 : decode cX11_puts 42 = .ok (.ireturn, 1) := by decide +kernel
theorem dX11_puts_43 : decode cX11_puts 43 = .ok (.aload_n 0, 1) := by decide +kernel
theorem dX11_puts_44 : decode cX11_puts 44 = .ok (.getfield 91, 3) := by decide +kernel
theorem dX11_puts_47 : decode cX11_puts 47 = .ok (.aload 6, 2) := by decide +kernel
theorem dX11_puts_49 : decode cX11_puts 49 = .ok (.invokevirtual 388, 3) := by decide +kernel
theorem dX11_puts_52 : decode cX11_puts 52 = .ok (.aload_n 0, 1) := by decide +kernel
theorem dX11_puts_53 : decode cX11_puts 53 = .ok (.getfield 91, 3) := by decide +kernel
theorem dX11_puts_56 : decode cX11_puts 56 = .ok (.iload_n 2, 1) := by decide +kernel
theorem dX11_puts_57 : decode cX11_puts 57 = .ok (.aload_n 0, 1) := by decide +kernel
theorem dX11_puts_58 : decode cX11_puts 58 = .ok (.iload_n 3, 1) := by decide +kernel
theorem dX11_puts_59 : decode cX11_puts 59 = .ok (.iload 4, 2) := by decide +kernel
theorem dX11_puts_61 : decode cX11_puts 61 = .ok (.iload 5, 2) := by decide +kernel
theorem dX11_puts_63 : decode cX11_puts 63 = .ok (.invokevirtual 165, 3) := by decide +kernel
theorem dX11_puts_66 : decode cX11_puts 66 = .ok (.invokevirtual 169, 3) := by decide +kernel
theorem dX11_puts_69 : decode cX11_puts 69 = .ok (.aload_n 0, 1) := by decide +kernel
theorem dX11_puts_70 : decode cX11_puts 70 = .ok (.iload_n 1, 1) := by decide +kernel
theorem dX11_puts_71 : decode cX11_puts 71 = .ok (.invokevirtual 392, 3) := by decide +kernel
theorem dX11_puts_74 : decode cX11_puts 74 = .ok (.ireturn, 1) := by decide +kernel
theorem dX11_takes_0 : decode cX11_takes 0 = .ok (.iload_n 1, 1) := by decide +kernel
theorem dX11_takes_1 : decode cX11_takes 1 = .ok (.invokestatic 395, 3) := by decide +kernel
theorem dX11_takes_4 : decode cX11_takes 4 = .ok (.ifCond .ne 8, 3) := by decide +kernel
theorem dX11_takes_7 : decode cX11_takes 7 = .ok (.aload_n 0, 1) := by decide +kernel
theorem dX11_takes_8 : decode cX11_takes 8 = .ok (.invokevirtual 377, 3) := by decide +kernel
theorem dX11_takes_11 : decode cX11_takes 11 = .ok (.ireturn, 1) := by decide +kernel
theorem dX11_takes_12 : decode cX11_takes 12 = .ok (.aload_n 0, 1) := by decide +kernel
theorem dX11_takes_13 : decode cX11_takes 13 = .ok (.iload_n 1, 1) := by decide +kernel
theorem dX11_takes_14 : decode cX11_takes 14 = .ok (.invokevirtual 173, 3) := by decide +kernel
theorem dX11_takes_17 : decode cX11_takes 17 = .ok (.astore_n 3, 1) := by decide +kernel
theorem dX11_takes_18 : decode cX11_takes 18 = .ok (.iload_n 2, 1) := by decide +kernel
theorem dX11_takes_19 : decode cX11_takes 19 = .ok (.ifCond .lt 11, 3) := by decide +kernel
theorem dX11_takes_22 : decode cX11_takes 22 = .ok (.iload_n 2, 1) := by decide +kernel
theorem dX11_takes_23 : decode cX11_takes 23 = .ok (.aload_n 3, 1) := by decide +kernel
theorem dX11_takes_24 : decode cX11_takes 24 = .ok (.getfield 177, 3) := by decide +kernel
theorem dX11_takes_27 : decode cX11_takes 27 = .ok (.if_icmp .lt 8, 3) := by decide +kernel
theorem dX11_takes_30 : decode cX11_takes 30 = .ok (.aload_n 0, 1) := by decide +kernel
theorem dX11_takes_31 : decode cX11_takes 31 = .ok (.invokevirtual 377, 3) := by decide +kernel
theorem dX11_takes_34 : decode cX11_takes 34 = .ok (.ireturn, 1) := by decide +kernel
theorem dX11_takes_35 : decode cX11_takes 35 = .ok (.aload_n 0, 1) := by decide +kernel
theorem dX11_takes_36 : decode cX11_takes 36 = .ok (.getfield 91, 3) := by decide +kernel
theorem dX11_takes_39 : decode cX11_takes 39 = .ok (.aload_n 3, 1) := by decide +kernel
theorem dX11_takes_40 : decode cX11_takes 40 = .ok (.invokevirtual 388, 3) := by decide +kernel
theorem dX11_takes_43 : decode cX11_takes 43 = .ok (.aload_n 0, 1) := by decide +kernel
theorem dX11_takes_44 : decode cX11_takes 44 = .ok (.getfield 91, 3) := by decide +kernel
theorem dX11_takes_47 : decode cX11_takes 47 = .ok (.iload_n 2, 1) := by decide +kernel
theorem dX11_takes_48 : decode cX11_takes 48 = .ok (.invokevirtual 398, 3) := by decide +kernel
theorem dX11_takes_51 : decode cX11_takes 51 = .ok (.aload_n 0, 1) := by decide +kernel
theorem dX11_takes_52 : decode cX11_takes 52 = .ok (.iload_n 1, 1) := by decide +kernel
theorem dX11_takes_53 : decode cX11_takes 53 = .ok (.invokevirtual 392, 3) := by decide +kernel
theorem dX11_takes_56 : decode cX11_takes 56 = .ok (.ireturn, 1) := by decide +kernel
theorem dX11_copy_0 : decode cX11_copy 0 = .ok (.iload_n 1, 1) := by decide +kernel
theorem dX11_copy_1 : decode cX11_copy 1 = .ok (.invokestatic 395, 3) := by decide +kernel
theorem dX11_copy_4 : decode cX11_copy 4 = .ok (.ifCond .eq 27, 3) := by decide +kernel
theorem dX11_copy_7 : decode cX11_copy 7 = .ok (.iload_n 2, 1) := by decide +kernel
theorem dX11_copy_8 : decode cX11_copy 8 = .ok (.invokestatic 395, 3) := by decide +kernel
theorem dX11_copy_11 : decode cX11_copy 11 = .ok (.ifCond .eq 20, 3) := by decide +kernel
theorem dX11_copy_14 : decode cX11_copy 14 = .ok (.iload_n 1, 1) := by decide +kernel
