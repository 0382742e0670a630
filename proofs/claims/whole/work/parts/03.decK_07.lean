theorem dX11_paid_40 : decode cX11_paid 40 = .ok (.iadd, 1) := by decide +kernel
theorem dX11_paid_41 : decode cX11_paid 41 = .ok (.iload_n 2, 1) := by decide +kernel
theorem dX11_paid_42 : decode cX11_paid 42 = .ok (.invokevirtual 259, 3) := by decide +kernel
theorem dX11_paid_45 : decode cX11_paid 45 = .ok (.invokevirtual 262, 3) := by decide +kernel
theorem dX11_paid_48 : decode cX11_paid 48 = .ok (.lreturn, 1) := by decide +kernel
theorem dX11_off_0 : decode cX11_off 0 = .ok (.aload_n 0, 1) := by decide +kernel
theorem dX11_off_1 : decode cX11_off 1 = .ok (.iload_n 1, 1) := by decide +kernel
theorem dX11_off_2 : decode cX11_off 2 = .ok (.invokevirtual 211, 3) := by decide +kernel
theorem dX11_off_5 : decode cX11_off 5 = .ok (.astore 4, 2) := by decide +kernel
theorem dX11_off_7 : decode cX11_off 7 = .ok (.iload_n 3, 1) := by decide +kernel
theorem dX11_off_8 : decode cX11_off 8 = .ok (.ifCond .eq 8, 3) := by decide +kernel
theorem dX11_off_11 : decode cX11_off 11 = .ok (.iload_n 3, 1) := by decide +kernel
theorem dX11_off_12 : decode cX11_off 12 = .ok (.iconst 1, 1) := by decide +kernel
theorem dX11_off_13 : decode cX11_off 13 = .ok (.if_icmp .ne 7, 3) := by decide +kernel
theorem dX11_off_16 : decode cX11_off 16 = .ok (.iconst 1, 1) := by decide +kernel
theorem dX11_off_17 : decode cX11_off 17 = .ok (.goto 4, 3) := by decide +kernel
theorem dX11_off_20 : decode cX11_off 20 = .ok (.iconst 0, 1) := by decide +kernel
theorem dX11_off_21 : decode cX11_off 21 = .ok (.invokestatic 197, 3) := by decide +kernel
theorem dX11_off_24 : decode cX11_off 24 = .ok (.iload_n 2, 1) := by decide +kernel
theorem dX11_off_25 : decode cX11_off 25 = .ok (.ifCond .lt 14, 3) := by decide +kernel
theorem dX11_off_28 : decode cX11_off 28 = .ok (.iload_n 2, 1) := by decide +kernel
theorem dX11_off_29 : decode cX11_off 29 = .ok (.ldc_w 266, 3) := by decide +kernel
theorem dX11_off_32 : decode cX11_off 32 = .ok (.if_icmp .gt 7, 3) := by decide +kernel
theorem dX11_off_35 : decode cX11_off 35 = .ok (.iconst 1, 1) := by decide +kernel
theorem dX11_off_36 : decode cX11_off 36 = .ok (.goto 4, 3) := by decide +kernel
theorem dX11_off_39 : decode cX11_off 39 = .ok (.iconst 0, 1) := by decide +kernel
theorem dX11_off_40 : decode cX11_off 40 = .ok (.invokestatic 112, 3) := by decide +kernel
theorem dX11_off_43 : decode cX11_off 43 = .ok (.iload_n 3, 1) := by decide +kernel
theorem dX11_off_44 : decode cX11_off 44 = .ok (.ifCond .ne 12, 3) := by decide +kernel
theorem dX11_off_47 : decode cX11_off 47 = .ok (.aload 4, 2) := by decide +kernel
theorem dX11_off_49 : decode cX11_off 49 = .ok (.iconst 0, 1) := by decide +kernel
theorem dX11_off_50 : decode cX11_off 50 = .ok (.invokevirtual 226, 3) := by decide +kernel
theorem dX11_off_53 : decode cX11_off 53 = .ok (.goto 9, 3) := by decide +kernel
theorem dX11_off_56 : decode cX11_off 56 = .ok (.aload 4, 2) := by decide +kernel
theorem dX11_off_58 : decode cX11_off 58 = .ok (.iconst 0, 1) := by decide +kernel
theorem dX11_off_59 : decode cX11_off 59 = .ok (.invokevirtual 232, 3) := by decide +kernel
theorem dX11_off_62 : decode cX11_off 62 = .ok (.istore 5, 2) := by decide +kernel
theorem dX11_off_64 : decode cX11_off 64 = .ok (.iload_n 3, 1) := by decide +kernel
theorem dX11_off_65 : decode cX11_off 65 = .ok (.ifCond .ne 7, 3) := by decide +kernel
theorem dX11_off_68 : decode cX11_off 68 = .ok (.iconst (-1), 1) := by decide +kernel
theorem dX11_off_69 : decode cX11_off 69 = .ok (.goto 4, 3) := by decide +kernel
theorem dX11_off_72 : decode cX11_off 72 = .ok (.iconst 1, 1) := by decide +kernel
theorem dX11_off_73 : decode cX11_off 73 = .ok (.istore 6, 2) := by decide +kernel
theorem dX11_off_75 : decode cX11_off 75 = .ok (.iload 5, 2) := by decide +kernel
theorem dX11_off_77 : decode cX11_off 77 = .ok (.invokestatic 267, 3) := by decide +kernel
theorem dX11_off_80 : decode cX11_off 80 = .ok (.ifCond .eq 7, 3) := by decide +kernel
theorem dX11_off_83 : decode cX11_off 83 = .ok (.ldc_w 271, 3) := by decide +kernel
theorem dX11_off_86 : decode cX11_off 86 = .ok (.ireturn, 1) := by decide +kernel
theorem dX11_off_87 : decode cX11_off 87 = .ok (.iload 5, 2) := by decide +kernel
theorem dX11_off_89 : decode cX11_off 89 = .ok (.iload 6, 2) := by decide +kernel
theorem dX11_off_91 : decode cX11_off 91 = .ok (.aload 4, 2) := by decide +kernel
theorem dX11_off_93 : decode cX11_off 93 = .ok (.iload 5, 2) := by decide +kernel
theorem dX11_off_95 : decode cX11_off 95 = .ok (.iload 6, 2) := by decide +kernel
theorem dX11_off_97 : decode cX11_off 97 = .ok (.iload_n 2, 1) := by decide +kernel
theorem dX11_off_98 : decode cX11_off 98 = .ok (.invokestatic 272, 3) := by decide +kernel
theorem dX11_off_101 : decode cX11_off 101 = .ok (.imul, 1) := by decide +kernel
theorem dX11_off_102 : decode cX11_off 102 = .ok (.iadd, 1) := by decide +kernel
theorem dX11_off_103 : decode cX11_off 103 = .ok (.ireturn, 1) := by decide +kernel
theorem dX11_farthestWithin_0 : decode cX11_farthestWithin 0 = .ok (.iconst 0, 1) := by decide +kernel
theorem dX11_farthestWithin_1 : decode cX11_farthestWithin 1 = .ok (.istore 4, 2) := by decide +kernel
theorem dX11_farthestWithin_3 : decode cX11_farthestWithin 3 = .ok (.iload_n 3, 1) := by decide +kernel
theorem dX11_farthestWithin_4 : decode cX11_farthestWithin 4 = .ok (.istore 5, 2) := by decide +kernel
theorem dX11_farthestWithin_6 : decode cX11_farthestWithin 6 = .ok (.iconst 0, 1) := by decide +kernel
theorem dX11_farthestWithin_7 : decode cX11_farthestWithin 7 = .ok (.istore 6, 2) := by decide +kernel
theorem dX11_farthestWithin_9 : decode cX11_farthestWithin 9 = .ok (.iload 6, 2) := by decide +kernel
theorem dX11_farthestWithin_11 : decode cX11_farthestWithin 11 = .ok (.bipush 32, 2) := by decide +kernel
theorem dX11_farthestWithin_13 : decode cX11_farthestWithin 13 = .ok (.if_icmp .ge 61, 3) := by decide +kernel
theorem dX11_farthestWithin_16 : decode cX11_farthestWithin 16 = .ok (.iload 4, 2) := by decide +kernel
theorem dX11_farthestWithin_18 : decode cX11_farthestWithin 18 = .ok (.iload 5, 2) := by decide +kernel
theorem dX11_farthestWithin_20 : decode cX11_farthestWithin 20 = .ok (.if_icmp .ge 54, 3) := by decide +kernel
theorem dX11_farthestWithin_23 : decode cX11_farthestWithin 23 = .ok (.iload 4, 2) := by decide +kernel
theorem dX11_farthestWithin_25 : decode cX11_farthestWithin 25 = .ok (.iload 5, 2) := by decide +kernel
theorem dX11_farthestWithin_27 : decode cX11_farthestWithin 27 = .ok (.iadd, 1) := by decide +kernel
theorem dX11_farthestWithin_28 : decode cX11_farthestWithin 28 = .ok (.iconst 1, 1) := by decide +kernel
theorem dX11_farthestWithin_29 : decode cX11_farthestWithin 29 = .ok (.iadd, 1) := by decide +kernel
theorem dX11_farthestWithin_30 : decode cX11_farthestWithin 30 = .ok (.iconst 2, 1) := by decide +kernel
theorem dX11_farthestWithin_31 : decode cX11_farthestWithin 31 = .ok (.idiv, 1) := by decide +kernel
theorem dX11_farthestWithin_32 : decode cX11_farthestWithin 32 = .ok (.istore 7, 2) := by decide +kernel
theorem dX11_farthestWithin_34 : decode cX11_farthestWithin 34 = .ok (.aload_n 0, 1) := by decide +kernel
theorem dX11_farthestWithin_35 : decode cX11_farthestWithin 35 = .ok (.iload_n 1, 1) := by decide +kernel
theorem dX11_farthestWithin_36 : decode cX11_farthestWithin 36 = .ok (.iload_n 2, 1) := by decide +kernel
theorem dX11_farthestWithin_37 : decode cX11_farthestWithin 37 = .ok (.iload 7, 2) := by decide +kernel
theorem dX11_farthestWithin_39 : decode cX11_farthestWithin 39 = .ok (.imul, 1) := by decide +kernel
theorem dX11_farthestWithin_40 : decode cX11_farthestWithin 40 = .ok (.iadd, 1) := by decide +kernel
theorem dX11_farthestWithin_41 : decode cX11_farthestWithin 41 = .ok (.invokevirtual 218, 3) := by decide +kernel
theorem dX11_farthestWithin_44 : decode cX11_farthestWithin 44 = .ok (.aload_n 0, 1) := by decide +kernel
theorem dX11_farthestWithin_45 : decode cX11_farthestWithin 45 = .ok (.getfield 222, 3) := by decide +kernel
theorem dX11_farthestWithin_48 : decode cX11_farthestWithin 48 = .ok (.lsub, 1) := by decide +kernel
theorem dX11_farthestWithin_49 : decode cX11_farthestWithin 49 = .ok (.iload_n 3, 1) := by decide +kernel
theorem dX11_farthestWithin_50 : decode cX11_farthestWithin 50 = .ok (.i2l, 1) := by decide +kernel
theorem dX11_farthestWithin_51 : decode cX11_farthestWithin 51 = .ok (.lcmp, 1) := by decide +kernel
theorem dX11_farthestWithin_52 : decode cX11_farthestWithin 52 = .ok (.ifCond .gt 10, 3) := by decide +kernel
theorem dX11_farthestWithin_55 : decode cX11_farthestWithin 55 = .ok (.iload 7, 2) := by decide +kernel
theorem dX11_farthestWithin_57 : decode cX11_farthestWithin 57 = .ok (.istore 4, 2) := by decide +kernel
theorem dX11_farthestWithin_59 : decode cX11_farthestWithin 59 = .ok (.goto 9, 3) := by decide +kernel
theorem dX11_farthestWithin_62 : decode cX11_farthestWithin 62 = .ok (.iload 7, 2) := by decide +kernel
theorem dX11_farthestWithin_64 : decode cX11_farthestWithin 64 = .ok (.iconst 1, 1) := by decide +kernel
theorem dX11_farthestWithin_65 : decode cX11_farthestWithin 65 = .ok (.isub, 1) := by decide +kernel
theorem dX11_farthestWithin_66 : decode cX11_farthestWithin 66 = .ok (.istore 5, 2) := by decide +kernel
theorem dX11_farthestWithin_68 : decode cX11_farthestWithin 68 = .ok (.iinc 6 1, 3) := by decide +kernel
theorem dX11_farthestWithin_71 : decode cX11_farthestWithin 71 = .ok (.goto (-62), 3) := by decide +kernel
theorem dX11_farthestWithin_74 : decode cX11_farthestWithin 74 = .ok (.iload 4, 2) := by decide +kernel
theorem dX11_farthestWithin_76 : decode cX11_farthestWithin 76 = .ok (.ireturn, 1) := by decide +kernel
theorem dX11_split_0 : decode cX11_split 0 = .ok (.aload_n 0, 1) := by decide +kernel
theorem dX11_split_1 : decode cX11_split 1 = .ok (.iload_n 1, 1) := by decide +kernel
theorem dX11_split_2 : decode cX11_split 2 = .ok (.iload_n 2, 1) := by decide +kernel
theorem dX11_split_3 : decode cX11_split 3 = .ok (.invokevirtual 276, 3) := by decide +kernel
theorem dX11_split_6 : decode cX11_split 6 = .ok (.iload_n 3, 1) := by decide +kernel
theorem dX11_split_7 : decode cX11_split 7 = .ok (.invokestatic 215, 3) := by decide +kernel
theorem dX11_split_10 : decode cX11_split 10 = .ok (.aload_n 0, 1) := by decide +kernel
theorem dX11_split_11 : decode cX11_split 11 = .ok (.iconst 2, 1) := by decide +kernel
theorem dX11_split_12 : decode cX11_split 12 = .ok (.iload_n 3, 1) := by decide +kernel
theorem dX11_split_13 : decode cX11_split 13 = .ok (.invokevirtual 280, 3) := by decide +kernel
theorem dX11_split_16 : decode cX11_split 16 = .ok (.lreturn, 1) := by decide +kernel
theorem dX11_where_0 : decode cX11_where 0 = .ok (.aload_n 0, 1) := by decide +kernel
theorem dX11_where_1 : decode cX11_where 1 = .ok (.iload_n 1, 1) := by decide +kernel
theorem dX11_where_2 : decode cX11_where 2 = .ok (.iload_n 2, 1) := by decide +kernel
theorem dX11_where_3 : decode cX11_where 3 = .ok (.invokevirtual 276, 3) := by decide +kernel
theorem dX11_where_6 : decode cX11_where 6 = .ok (.iload_n 3, 1) := by decide +kernel
theorem dX11_where_7 : decode cX11_where 7 = .ok (.invokestatic 215, 3) := by decide +kernel
theorem dX11_where_10 : decode cX11_where 10 = .ok (.aload_n 0, 1) := by decide +kernel
theorem dX11_where_11 : decode cX11_where 11 = .ok (.iconst 2, 1) := by decide +kernel
theorem dX11_where_12 : decode cX11_where 12 = .ok (.iload_n 3, 1) := by decide +kernel
theorem dX11_where_13 : decode cX11_where 13 = .ok (.invokevirtual 284, 3) := by decide +kernel
theorem dX11_where_16 : decode cX11_where 16 = .ok (.istore 4, 2) := by decide +kernel
theorem dX11_where_18 : decode cX11_where 18 = .ok (.aload_n 0, 1) := by decide +kernel
theorem dX11_where_19 : decode cX11_where 19 = .ok (.getfield 72, 3) := by decide +kernel
theorem dX11_where_22 : decode cX11_where 22 = .ok (.iconst 0, 1) := by decide +kernel
theorem dX11_where_23 : decode cX11_where 23 = .ok (.aaload, 1) := by decide +kernel
theorem dX11_where_24 : decode cX11_where 24 = .ok (.iload 4, 2) := by decide +kernel
theorem dX11_where_26 : decode cX11_where 26 = .ok (.invokevirtual 226, 3) := by decide +kernel
theorem dX11_where_29 : decode cX11_where 29 = .ok (.iload_n 3, 1) := by decide +kernel
theorem dX11_where_30 : decode cX11_where 30 = .ok (.aload_n 0, 1) := by decide +kernel
theorem dX11_where_31 : decode cX11_where 31 = .ok (.getfield 72, 3) := by decide +kernel
theorem dX11_where_34 : decode cX11_where 34 = .ok (.iconst 1, 1) := by decide +kernel
theorem dX11_where_35 : decode cX11_where 35 = .ok (.aaload, 1) := by decide +kernel
theorem dX11_where_36 : decode cX11_where 36 = .ok (.iload 4, 2) := by decide +kernel
theorem dX11_where_38 : decode cX11_where 38 = .ok (.invokevirtual 232, 3) := by decide +kernel
theorem dX11_where_41 : decode cX11_where 41 = .ok (.isub, 1) := by decide +kernel
theorem dX11_where_42 : decode cX11_where 42 = .ok (.invokestatic 287, 3) := by decide +kernel
theorem dX11_where_45 : decode cX11_where 45 = .ok (.istore 5, 2) := by decide +kernel
theorem dX11_where_47 : decode cX11_where 47 = .ok (.aload_n 0, 1) := by decide +kernel
theorem dX11_where_48 : decode cX11_where 48 = .ok (.getfield 72, 3) := by decide +kernel
theorem dX11_where_51 : decode cX11_where 51 = .ok (.iconst 0, 1) := by decide +kernel
theorem dX11_where_52 : decode cX11_where 52 = .ok (.aaload, 1) := by decide +kernel
theorem dX11_where_53 : decode cX11_where 53 = .ok (.iload 4, 2) := by decide +kernel
theorem dX11_where_55 : decode cX11_where 55 = .ok (.invokevirtual 232, 3) := by decide +kernel
theorem dX11_where_58 : decode cX11_where 58 = .ok (.iload_n 3, 1) := by decide +kernel
theorem dX11_where_59 : decode cX11_where 59 = .ok (.aload_n 0, 1) := by decide +kernel
theorem dX11_where_60 : decode cX11_where 60 = .ok (.getfield 72, 3) := by decide +kernel
theorem dX11_where_63 : decode cX11_where 63 = .ok (.iconst 1, 1) := by decide +kernel
theorem dX11_where_64 : decode cX11_where 64 = .ok (.aaload, 1) := by decide +kernel
theorem dX11_where_65 : decode cX11_where 65 = .ok (.iload 4, 2) := by decide +kernel
theorem dX11_where_67 : decode cX11_where 67 = .ok (.invokevirtual 226, 3) := by decide +kernel
theorem dX11_where_70 : decode cX11_where 70 = .ok (.isub, 1) := by decide +kernel
theorem dX11_where_71 : decode cX11_where 71 = .ok (.invokestatic 292, 3) := by decide +kernel
theorem dX11_where_74 : decode cX11_where 74 = .ok (.istore 6, 2) := by decide +kernel
theorem dX11_where_76 : decode cX11_where 76 = .ok (.iconst 0, 1) := by decide +kernel
theorem dX11_where_77 : decode cX11_where 77 = .ok (.iload 5, 2) := by decide +kernel
theorem dX11_where_79 : decode cX11_where 79 = .ok (.iload 6, 2) := by decide +kernel
theorem dX11_where_81 : decode cX11_where 81 = .ok (.invokestatic 295, 3) := by decide +kernel
theorem dX11_where_84 : decode cX11_where 84 = .ok (.ireturn, 1) := by decide +kernel
theorem dX11_gatherTwo_0 : decode cX11_gatherTwo 0 = .ok (.iload_n 1, 1) := by decide +kernel
theorem dX11_gatherTwo_1 : decode cX11_gatherTwo 1 = .ok (.invokestatic 109, 3) := by decide +kernel
theorem dX11_gatherTwo_4 : decode cX11_gatherTwo 4 = .ok (.iload_n 2, 1) := by decide +kernel
theorem dX11_gatherTwo_5 : decode cX11_gatherTwo 5 = .ok (.invokestatic 109, 3) := by decide +kernel
theorem dX11_gatherTwo_8 : decode cX11_gatherTwo 8 = .ok (.aload_n 0, 1) := by decide +kernel
theorem dX11_gatherTwo_9 : decode cX11_gatherTwo 9 = .ok (.getfield 72, 3) := by decide +kernel
theorem dX11_gatherTwo_12 : decode cX11_gatherTwo 12 = .ok (.iconst 0, 1) := by decide +kernel
theorem dX11_gatherTwo_13 : decode cX11_gatherTwo 13 = .ok (.aload_n 0, 1) := by decide +kernel
theorem dX11_gatherTwo_14 : decode cX11_gatherTwo 14 = .ok (.iload_n 1, 1) := by decide +kernel
theorem dX11_gatherTwo_15 : decode cX11_gatherTwo 15 = .ok (.invokevirtual 211, 3) := by decide +kernel
theorem dX11_gatherTwo_18 : decode cX11_gatherTwo 18 = .ok (.aastore, 1) := by decide +kernel
theorem dX11_gatherTwo_19 : decode cX11_gatherTwo 19 = .ok (.aload_n 0, 1) := by decide +kernel
theorem dX11_gatherTwo_20 : decode cX11_gatherTwo 20 = .ok (.getfield 72, 3) := by decide +kernel
theorem dX11_gatherTwo_23 : decode cX11_gatherTwo 23 = .ok (.iconst 1, 1) := by decide +kernel
theorem dX11_gatherTwo_24 : decode cX11_gatherTwo 24 = .ok (.aload_n 0, 1) := by decide +kernel
theorem dX11_gatherTwo_25 : decode cX11_gatherTwo 25 = .ok (.iload_n 2, 1) := by decide +kernel
theorem dX11_gatherTwo_26 : decode cX11_gatherTwo 26 = .ok (.invokevirtual 211, 3) := by decide +kernel
theorem dX11_gatherTwo_29 : decode cX11_gatherTwo 29 = .ok (.aastore, 1) := by decide +kernel
theorem dX11_gatherTwo_30 : decode cX11_gatherTwo 30 = .ok (.return_, 1) := by decide +kernel
theorem dX11_shared_0 : decode cX11_shared 0 = .ok (.iload_n 1, 1) := by decide +kernel
theorem dX11_shared_1 : decode cX11_shared 1 = .ok (.iconst 1, 1) := by decide +kernel
theorem dX11_shared_2 : decode cX11_shared 2 = .ok (.if_icmp .lt 13, 3) := by decide +kernel
theorem dX11_shared_5 : decode cX11_shared 5 = .ok (.iload_n 1, 1) := by decide +kernel
theorem dX11_shared_6 : decode cX11_shared 6 = .ok (.bipush 15, 2) := by decide +kernel
theorem dX11_shared_8 : decode cX11_shared 8 = .ok (.if_icmp .gt 7, 3) := by decide +kernel
theorem dX11_shared_11 : decode cX11_shared 11 = .ok (.iconst 1, 1) := by decide +kernel
theorem dX11_shared_12 : decode cX11_shared 12 = .ok (.goto 4, 3) := by decide +kernel
theorem dX11_shared_15 : decode cX11_shared 15 = .ok (.iconst 0, 1) := by decide +kernel
theorem dX11_shared_16 : decode cX11_shared 16 = .ok (.invokestatic 112, 3) := by decide +kernel
theorem dX11_shared_19 : decode cX11_shared 19 = .ok (.iload_n 2, 1) := by decide +kernel
theorem dX11_shared_20 : decode cX11_shared 20 = .ok (.invokestatic 215, 3) := by decide +kernel
theorem dX11_shared_23 : decode cX11_shared 23 = .ok (.iconst 0, 1) := by decide +kernel
theorem dX11_shared_24 : decode cX11_shared 24 = .ok (.istore_n 3, 1) := by decide +kernel
theorem dX11_shared_25 : decode cX11_shared 25 = .ok (.iconst 0, 1) := by decide +kernel
theorem dX11_shared_26 : decode cX11_shared 26 = .ok (.istore 4, 2) := by decide +kernel
theorem dX11_shared_28 : decode cX11_shared 28 = .ok (.iload 4, 2) := by decide +kernel
theorem dX11_shared_30 : decode cX11_shared 30 = .ok (.iconst 4, 1) := by decide +kernel
theorem dX11_shared_31 : decode cX11_shared 31 = .ok (.if_icmp .ge 34, 3) := by decide +kernel
theorem dX11_shared_34 : decode cX11_shared 34 = .ok (.iload_n 1, 1) := by decide +kernel
theorem dX11_shared_35 : decode cX11_shared 35 = .ok (.iload 4, 2) := by decide +kernel
theorem dX11_shared_37 : decode cX11_shared 37 = .ok (.ishr, 1) := by decide +kernel
theorem dX11_shared_38 : decode cX11_shared 38 = .ok (.iconst 1, 1) := by decide +kernel
theorem dX11_shared_39 : decode cX11_shared 39 = .ok (.iand, 1) := by decide +kernel
theorem dX11_shared_40 : decode cX11_shared 40 = .ok (.iconst 1, 1) := by decide +kernel
theorem dX11_shared_41 : decode cX11_shared 41 = .ok (.if_icmp .ne 18, 3) := by decide +kernel
theorem dX11_shared_44 : decode cX11_shared 44 = .ok (.aload_n 0, 1) := by decide +kernel
theorem dX11_shared_45 : decode cX11_shared 45 = .ok (.getfield 72, 3) := by decide +kernel
theorem dX11_shared_48 : decode cX11_shared 48 = .ok (.iload_n 3, 1) := by decide +kernel
theorem dX11_shared_49 : decode cX11_shared 49 = .ok (.aload_n 0, 1) := by decide +kernel
theorem dX11_shared_50 : decode cX11_shared 50 = .ok (.iload 4, 2) := by decide +kernel
theorem dX11_shared_52 : decode cX11_shared 52 = .ok (.invokevirtual 211, 3) := by decide +kernel
theorem dX11_shared_55 : decode cX11_shared 55 = .ok (.aastore, 1) := by decide +kernel
theorem dX11_shared_56 : decode cX11_shared 56 = .ok (.iinc 3 1, 3) := by decide +kernel
theorem dX11_shared_59 : decode cX11_shared 59 = .ok (.iinc 4 1, 3) := by decide +kernel
theorem dX11_shared_62 : decode cX11_shared 62 = .ok (.goto (-34), 3) := by decide +kernel
theorem dX11_shared_65 : decode cX11_shared 65 = .ok (.aload_n 0, 1) := by decide +kernel
theorem dX11_shared_66 : decode cX11_shared 66 = .ok (.iload_n 3, 1) := by decide +kernel
theorem dX11_shared_67 : decode cX11_shared 67 = .ok (.iload_n 2, 1) := by decide +kernel
theorem dX11_shared_68 : decode cX11_shared 68 = .ok (.invokevirtual 280, 3) := by decide +kernel
theorem dX11_shared_71 : decode cX11_shared 71 = .ok (.lreturn, 1) := by decide +kernel
theorem dX11_sharedValue_0 : decode cX11_sharedValue 0 = .ok (.aload_n 0, 1) := by decide +kernel
theorem dX11_sharedValue_1 : decode cX11_sharedValue 1 = .ok (.iload_n 1, 1) := by decide +kernel
theorem dX11_sharedValue_2 : decode cX11_sharedValue 2 = .ok (.iload_n 2, 1) := by decide +kernel
theorem dX11_sharedValue_3 : decode cX11_sharedValue 3 = .ok (.invokevirtual 284, 3) := by decide +kernel
theorem dX11_sharedValue_6 : decode cX11_sharedValue 6 = .ok (.i2l, 1) := by decide +kernel
theorem dX11_sharedValue_7 : decode cX11_sharedValue 7 = .ok (.lstore_n 3, 1) := by decide +kernel
theorem dX11_sharedValue_8 : decode cX11_sharedValue 8 = .ok (.lload_n 3, 1) := by decide +kernel
theorem dX11_sharedValue_9 : decode cX11_sharedValue 9 = .ok (.iload_n 2, 1) := by decide +kernel
theorem dX11_sharedValue_10 : decode cX11_sharedValue 10 = .ok (.i2l, 1) := by decide +kernel
theorem dX11_sharedValue_11 : decode cX11_sharedValue 11 = .ok (.lmul, 1) := by decide +kernel
theorem dX11_sharedValue_12 : decode cX11_sharedValue 12 = .ok (.lstore 5, 2) := by decide +kernel
theorem dX11_sharedValue_14 : decode cX11_sharedValue 14 = .ok (.iconst 0, 1) := by decide +kernel
theorem dX11_sharedValue_15 : decode cX11_sharedValue 15 = .ok (.istore 7, 2) := by decide +kernel
theorem dX11_sharedValue_17 : decode cX11_sharedValue 17 = .ok (.iload 7, 2) := by decide +kernel
theorem dX11_sharedValue_19 : decode cX11_sharedValue 19 = .ok (.iload_n 1, 1) := by decide +kernel
theorem dX11_sharedValue_20 : decode cX11_sharedValue 20 = .ok (.if_icmp .ge 56, 3) := by decide +kernel
theorem dX11_sharedValue_23 : decode cX11_sharedValue 23 = .ok (.iload 7, 2) := by decide +kernel
theorem dX11_sharedValue_25 : decode cX11_sharedValue 25 = .ok (.aload_n 0, 1) := by decide +kernel
theorem dX11_sharedValue_26 : decode cX11_sharedValue 26 = .ok (.getfield 72, 3) := by decide +kernel
theorem dX11_sharedValue_29 : decode cX11_sharedValue 29 = .ok (.arraylength, 1) := by decide +kernel
theorem dX11_sharedValue_30 : decode cX11_sharedValue 30 = .ok (.if_icmp .ge 46, 3) := by decide +kernel
theorem dX11_sharedValue_33 : decode cX11_sharedValue 33 = .ok (.aload_n 0, 1) := by decide +kernel
theorem dX11_sharedValue_34 : decode cX11_sharedValue 34 = .ok (.getfield 72, 3) := by decide +kernel
theorem dX11_sharedValue_37 : decode cX11_sharedValue 37 = .ok (.iload 7, 2) := by decide +kernel
theorem dX11_sharedValue_39 : decode cX11_sharedValue 39 = .ok (.aaload, 1) := by decide +kernel
theorem dX11_sharedValue_40 : decode cX11_sharedValue 40 = .ok (.lload_n 3, 1) := by decide +kernel
theorem dX11_sharedValue_41 : decode cX11_sharedValue 41 = .ok (.l2i, 1) := by decide +kernel
theorem dX11_sharedValue_42 : decode cX11_sharedValue 42 = .ok (.invokevirtual 235, 3) := by decide +kernel
theorem dX11_sharedValue_45 : decode cX11_sharedValue 45 = .ok (.istore 8, 2) := by decide +kernel
theorem dX11_sharedValue_47 : decode cX11_sharedValue 47 = .ok (.lload 5, 2) := by decide +kernel
theorem dX11_sharedValue_49 : decode cX11_sharedValue 49 = .ok (.aload_n 0, 1) := by decide +kernel
theorem dX11_sharedValue_50 : decode cX11_sharedValue 50 = .ok (.getfield 72, 3) := by decide +kernel
theorem dX11_sharedValue_53 : decode cX11_sharedValue 53 = .ok (.iload 7, 2) := by decide +kernel
theorem dX11_sharedValue_55 : decode cX11_sharedValue 55 = .ok (.aaload, 1) := by decide +kernel
theorem dX11_sharedValue_56 : decode cX11_sharedValue 56 = .ok (.iload 8, 2) := by decide +kernel
theorem dX11_sharedValue_58 : decode cX11_sharedValue 58 = .ok (.invokevirtual 218, 3) := by decide +kernel
theorem dX11_sharedValue_61 : decode cX11_sharedValue 61 = .ok (.lload_n 3, 1) := by decide +kernel
theorem dX11_sharedValue_62 : decode cX11_sharedValue 62 = .ok (.iload 8, 2) := by decide +kernel
theorem dX11_sharedValue_64 : decode cX11_sharedValue 64 = .ok (.i2l, 1) := by decide +kernel
theorem dX11_sharedValue_65 : decode cX11_sharedValue 65 = .ok (.lmul, 1) := by decide +kernel
theorem dX11_sharedValue_66 : decode cX11_sharedValue 66 = .ok (.lsub, 1) := by decide +kernel
theorem dX11_sharedValue_67 : decode cX11_sharedValue 67 = .ok (.ladd, 1) := by decide +kernel
theorem dX11_sharedValue_68 : decode cX11_sharedValue 68 = .ok (.lstore 5, 2) := by decide +kernel
theorem dX11_sharedValue_70 : decode cX11_sharedValue 70 = .ok (.iinc 7 1, 3) := by decide +kernel
theorem dX11_sharedValue_73 : decode cX11_sharedValue 73 = .ok (.goto (-56), 3) := by decide +kernel
theorem dX11_sharedValue_76 : decode cX11_sharedValue 76 = .ok (.lload 5, 2) := by decide +kernel
theorem dX11_sharedValue_78 : decode cX11_sharedValue 78 = .ok (.lreturn, 1) := by decide +kernel
theorem dX11_commonSlope_0 : decode cX11_commonSlope 0 = .ok (.sipush (-5000), 3) := by decide +kernel
theorem dX11_commonSlope_3 : decode cX11_commonSlope 3 = .ok (.istore_n 3, 1) := by decide +kernel
theorem dX11_commonSlope_4 : decode cX11_commonSlope 4 = .ok (.sipush 5000, 3) := by decide +kernel
theorem dX11_commonSlope_7 : decode cX11_commonSlope 7 = .ok (.istore 4, 2) := by decide +kernel
theorem dX11_commonSlope_9 : decode cX11_commonSlope 9 = .ok (.iconst 0, 1) := by decide +kernel
theorem dX11_commonSlope_10 : decode cX11_commonSlope 10 = .ok (.istore 5, 2) := by decide +kernel
theorem dX11_commonSlope_12 : decode cX11_commonSlope 12 = .ok (.iload 5, 2) := by decide +kernel
theorem dX11_commonSlope_14 : decode cX11_commonSlope 14 = .ok (.iload_n 1, 1) := by decide +kernel
theorem dX11_commonSlope_15 : decode cX11_commonSlope 15 = .ok (.if_icmp .ge 63, 3) := by decide +kernel
theorem dX11_commonSlope_18 : decode cX11_commonSlope 18 = .ok (.iload 5, 2) := by decide +kernel
theorem dX11_commonSlope_20 : decode cX11_commonSlope 20 = .ok (.aload_n 0, 1) := by decide +kernel
theorem dX11_commonSlope_21 : decode cX11_commonSlope 21 = .ok (.getfield 72, 3) := by decide +kernel
theorem dX11_commonSlope_24 : decode cX11_commonSlope 24 = .ok (.arraylength, 1) := by decide +kernel
theorem dX11_commonSlope_25 : decode cX11_commonSlope 25 = .ok (.if_icmp .ge 53, 3) := by decide +kernel
theorem dX11_commonSlope_28 : decode cX11_commonSlope 28 = .ok (.iload_n 3, 1) := by decide +kernel
theorem dX11_commonSlope_29 : decode cX11_commonSlope 29 = .ok (.aload_n 0, 1) := by decide +kernel
theorem dX11_commonSlope_30 : decode cX11_commonSlope 30 = .ok (.getfield 72, 3) := by decide +kernel
theorem dX11_commonSlope_33 : decode cX11_commonSlope 33 = .ok (.iload 5, 2) := by decide +kernel
theorem dX11_commonSlope_35 : decode cX11_commonSlope 35 = .ok (.aaload, 1) := by decide +kernel
theorem dX11_commonSlope_36 : decode cX11_commonSlope 36 = .ok (.getfield 299, 3) := by decide +kernel
theorem dX11_commonSlope_39 : decode cX11_commonSlope 39 = .ok (.ineg, 1) := by decide +kernel
theorem dX11_commonSlope_40 : decode cX11_commonSlope 40 = .ok (.invokestatic 287, 3) := by decide +kernel
theorem dX11_commonSlope_43 : decode cX11_commonSlope 43 = .ok (.istore_n 3, 1) := by decide +kernel
theorem dX11_commonSlope_44 : decode cX11_commonSlope 44 = .ok (.iload 4, 2) := by decide +kernel
theorem dX11_commonSlope_46 : decode cX11_commonSlope 46 = .ok (.aload_n 0, 1) := by decide +kernel
theorem dX11_commonSlope_47 : decode cX11_commonSlope 47 = .ok (.getfield 72, 3) := by decide +kernel
theorem dX11_commonSlope_50 : decode cX11_commonSlope 50 = .ok (.iload 5, 2) := by decide +kernel
theorem dX11_commonSlope_52 : decode cX11_commonSlope 52 = .ok (.aaload, 1) := by decide +kernel
theorem dX11_commonSlope_53 : decode cX11_commonSlope 53 = .ok (.getfield 241, 3) := by decide +kernel
theorem dX11_commonSlope_56 : decode cX11_commonSlope 56 = .ok (.aload_n 0, 1) := by decide +kernel
theorem dX11_commonSlope_57 : decode cX11_commonSlope 57 = .ok (.getfield 72, 3) := by decide +kernel
theorem dX11_commonSlope_60 : decode cX11_commonSlope 60 = .ok (.iload 5, 2) := by decide +kernel
theorem dX11_commonSlope_62 : decode cX11_commonSlope 62 = .ok (.aaload, 1) := by decide +kernel
theorem dX11_commonSlope_63 : decode cX11_commonSlope 63 = .ok (.getfield 299, 3) := by decide +kernel
theorem dX11_commonSlope_66 : decode cX11_commonSlope 66 = .ok (.isub, 1) := by decide +kernel
theorem dX11_commonSlope_67 : decode cX11_commonSlope 67 = .ok (.invokestatic 292, 3) := by decide +kernel
theorem dX11_commonSlope_70 : decode cX11_commonSlope 70 = .ok (.istore 4, 2) := by decide +kernel
theorem dX11_commonSlope_72 : decode cX11_commonSlope 72 = .ok (.iinc 5 1, 3) := by decide +kernel
theorem dX11_commonSlope_75 : decode cX11_commonSlope 75 = .ok (.goto (-63), 3) := by decide +kernel
theorem dX11_commonSlope_78 : decode cX11_commonSlope 78 = .ok (.iconst 0, 1) := by decide +kernel
theorem dX11_commonSlope_79 : decode cX11_commonSlope 79 = .ok (.istore 5, 2) := by decide +kernel
theorem dX11_commonSlope_81 : decode cX11_commonSlope 81 = .ok (.iload 5, 2) := by decide +kernel
theorem dX11_commonSlope_83 : decode cX11_commonSlope 83 = .ok (.bipush 32, 2) := by decide +kernel
theorem dX11_commonSlope_85 : decode cX11_commonSlope 85 = .ok (.if_icmp .ge 50, 3) := by decide +kernel
theorem dX11_commonSlope_88 : decode cX11_commonSlope 88 = .ok (.iload_n 3, 1) := by decide +kernel
theorem dX11_commonSlope_89 : decode cX11_commonSlope 89 = .ok (.iload 4, 2) := by decide +kernel
theorem dX11_commonSlope_91 : decode cX11_commonSlope 91 = .ok (.if_icmp .ge 44, 3) := by decide +kernel
theorem dX11_commonSlope_94 : decode cX11_commonSlope 94 = .ok (.iload_n 3, 1) := by decide +kernel
theorem dX11_commonSlope_95 : decode cX11_commonSlope 95 = .ok (.iload 4, 2) := by decide +kernel
theorem dX11_commonSlope_97 : decode cX11_commonSlope 97 = .ok (.iadd, 1) := by decide +kernel
theorem dX11_commonSlope_98 : decode cX11_commonSlope 98 = .ok (.iconst 2, 1) := by decide +kernel
theorem dX11_commonSlope_99 : decode cX11_commonSlope 99 = .ok (.invokestatic 302, 3) := by decide +kernel
theorem dX11_commonSlope_102 : decode cX11_commonSlope 102 = .ok (.istore 6, 2) := by decide +kernel
theorem dX11_commonSlope_104 : decode cX11_commonSlope 104 = .ok (.aload_n 0, 1) := by decide +kernel
theorem dX11_commonSlope_105 : decode cX11_commonSlope 105 = .ok (.iload_n 1, 1) := by decide +kernel
theorem dX11_commonSlope_106 : decode cX11_commonSlope 106 = .ok (.iload 6, 2) := by decide +kernel
theorem dX11_commonSlope_108 : decode cX11_commonSlope 108 = .ok (.invokevirtual 305, 3) := by decide +kernel
theorem dX11_commonSlope_111 : decode cX11_commonSlope 111 = .ok (.iload_n 2, 1) := by decide +kernel
theorem dX11_commonSlope_112 : decode cX11_commonSlope 112 = .ok (.i2l, 1) := by decide +kernel
theorem dX11_commonSlope_113 : decode cX11_commonSlope 113 = .ok (.lcmp, 1) := by decide +kernel
theorem dX11_commonSlope_114 : decode cX11_commonSlope 114 = .ok (.ifCond .lt 10, 3) := by decide +kernel
theorem dX11_commonSlope_117 : decode cX11_commonSlope 117 = .ok (.iload 6, 2) := by decide +kernel
theorem dX11_commonSlope_119 : decode cX11_commonSlope 119 = .ok (.istore 4, 2) := by decide +kernel
theorem dX11_commonSlope_121 : decode cX11_commonSlope 121 = .ok (.goto 8, 3) := by decide +kernel
theorem dX11_commonSlope_124 : decode cX11_commonSlope 124 = .ok (.iload 6, 2) := by decide +kernel
theorem dX11_commonSlope_126 : decode cX11_commonSlope 126 = .ok (.iconst 1, 1) := by decide +kernel
theorem dX11_commonSlope_127 : decode cX11_commonSlope 127 = .ok (.iadd, 1) := by decide +kernel
theorem dX11_commonSlope_128 : decode cX11_commonSlope 128 = .ok (.istore_n 3, 1) := by decide +kernel
theorem dX11_commonSlope_129 : decode cX11_commonSlope 129 = .ok (.iinc 5 1, 3) := by decide +kernel
theorem dX11_commonSlope_132 : decode cX11_commonSlope 132 = .ok (.goto (-51), 3) := by decide +kernel
theorem dX11_commonSlope_135 : decode cX11_commonSlope 135 = .ok (.iload_n 3, 1) := by decide +kernel
theorem dX11_commonSlope_136 : decode cX11_commonSlope 136 = .ok (.ireturn, 1) := by decide +kernel
theorem dX11_highEndsTogether_0 : decode cX11_highEndsTogether 0 = .ok (.lconst 0, 1) := by decide +kernel
theorem dX11_highEndsTogether_1 : decode cX11_highEndsTogether 1 = .ok (.lstore_n 3, 1) := by decide +kernel
theorem dX11_highEndsTogether_2 : decode cX11_highEndsTogether 2 = .ok (.iconst 0, 1) := by decide +kernel
theorem dX11_highEndsTogether_3 : decode cX11_highEndsTogether 3 = .ok (.istore 5, 2) := by decide +kernel
theorem dX11_highEndsTogether_5 : decode cX11_highEndsTogether 5 = .ok (.iload 5, 2) := by decide +kernel
theorem dX11_highEndsTogether_7 : decode cX11_highEndsTogether 7 = .ok (.iload_n 1, 1) := by decide +kernel
theorem dX11_highEndsTogether_8 : decode cX11_highEndsTogether 8 = .ok (.if_icmp .ge 34, 3) := by decide +kernel
theorem dX11_highEndsTogether_11 : decode cX11_highEndsTogether 11 = .ok (.iload 5, 2) := by decide +kernel
theorem dX11_highEndsTogether_13 : decode cX11_highEndsTogether 13 = .ok (.aload_n 0, 1) := by decide +kernel
theorem dX11_highEndsTogether_14 : decode cX11_highEndsTogether 14 = .ok (.getfield 72, 3) := by decide +kernel
theorem dX11_highEndsTogether_17 : decode cX11_highEndsTogether 17 = .ok (.arraylength, 1) := by decide +kernel
theorem dX11_highEndsTogether_18 : decode cX11_highEndsTogether 18 = .ok (.if_icmp .ge 24, 3) := by decide +kernel
theorem dX11_highEndsTogether_21 : decode cX11_highEndsTogether 21 = .ok (.lload_n 3, 1) := by decide +kernel
theorem dX11_highEndsTogether_22 : decode cX11_highEndsTogether 22 = .ok (.aload_n 0, 1) := by decide +kernel
theorem dX11_highEndsTogether_23 : decode cX11_highEndsTogether 23 = .ok (.getfield 72, 3) := by decide +kernel
theorem dX11_highEndsTogether_26 : decode cX11_highEndsTogether 26 = .ok (.iload 5, 2) := by decide +kernel
theorem dX11_highEndsTogether_28 : decode cX11_highEndsTogether 28 = .ok (.aaload, 1) := by decide +kernel
theorem dX11_highEndsTogether_29 : decode cX11_highEndsTogether 29 = .ok (.iload_n 2, 1) := by decide +kernel
theorem dX11_highEndsTogether_30 : decode cX11_highEndsTogether 30 = .ok (.invokevirtual 232, 3) := by decide +kernel
theorem dX11_highEndsTogether_33 : decode cX11_highEndsTogether 33 = .ok (.i2l, 1) := by decide +kernel
theorem dX11_highEndsTogether_34 : decode cX11_highEndsTogether 34 = .ok (.ladd, 1) := by decide +kernel
theorem dX11_highEndsTogether_35 : decode cX11_highEndsTogether 35 = .ok (.lstore_n 3, 1) := by decide +kernel
theorem dX11_highEndsTogether_36 : decode cX11_highEndsTogether 36 = .ok (.iinc 5 1, 3) := by decide +kernel
theorem dX11_highEndsTogether_39 : decode cX11_highEndsTogether 39 = .ok (.goto (-34), 3) := by decide +kernel
theorem dX11_highEndsTogether_42 : decode cX11_highEndsTogether 42 = .ok (.lload_n 3, 1) := by decide +kernel
theorem dX11_highEndsTogether_43 : decode cX11_highEndsTogether 43 = .ok (.lreturn, 1) := by decide +kernel
theorem dX11_stretch_0 : decode cX11_stretch 0 = .ok (.aload_n 0, 1) := by decide +kernel
theorem dX11_stretch_1 : decode cX11_stretch 1 = .ok (.iload_n 1, 1) := by decide +kernel
theorem dX11_stretch_2 : decode cX11_stretch 2 = .ok (.invokevirtual 173, 3) := by decide +kernel
theorem dX11_stretch_5 : decode cX11_stretch 5 = .ok (.astore_n 3, 1) := by decide +kernel
theorem dX11_stretch_6 : decode cX11_stretch 6 = .ok (.iload_n 2, 1) := by decide +kernel
theorem dX11_stretch_7 : decode cX11_stretch 7 = .ok (.invokestatic 215, 3) := by decide +kernel
theorem dX11_stretch_10 : decode cX11_stretch 10 = .ok (.aload_n 0, 1) := by decide +kernel
theorem dX11_stretch_11 : decode cX11_stretch 11 = .ok (.getfield 44, 3) := by decide +kernel
theorem dX11_stretch_14 : decode cX11_stretch 14 = .ok (.aload_n 3, 1) := by decide +kernel
theorem dX11_stretch_15 : decode cX11_stretch 15 = .ok (.aload_n 0, 1) := by decide +kernel
theorem dX11_stretch_16 : decode cX11_stretch 16 = .ok (.getfield 30, 3) := by decide +kernel
theorem dX11_stretch_19 : decode cX11_stretch 19 = .ok (.invokevirtual 255, 3) := by decide +kernel
theorem dX11_stretch_22 : decode cX11_stretch 22 = .ok (.aload_n 0, 1) := by decide +kernel
theorem dX11_stretch_23 : decode cX11_stretch 23 = .ok (.getfield 44, 3) := by decide +kernel
theorem dX11_stretch_26 : decode cX11_stretch 26 = .ok (.iload_n 2, 1) := by decide +kernel
theorem dX11_stretch_27 : decode cX11_stretch 27 = .ok (.invokevirtual 308, 3) := by decide +kernel
theorem dX11_stretch_30 : decode cX11_stretch 30 = .ok (.ireturn, 1) := by decide +kernel
theorem dX11_leads_0 : decode cX11_leads 0 = .ok (.aload_n 0, 1) := by decide +kernel
theorem dX11_leads_1 : decode cX11_leads 1 = .ok (.getfield 81, 3) := by decide +kernel
theorem dX11_leads_4 : decode cX11_leads 4 = .ok (.aload_n 0, 1) := by decide +kernel
theorem dX11_leads_5 : decode cX11_leads 5 = .ok (.iload_n 1, 1) := by decide +kernel
theorem dX11_leads_6 : decode cX11_leads 6 = .ok (.invokevirtual 211, 3) := by decide +kernel
theorem dX11_leads_9 : decode cX11_leads 9 = .ok (.sipush (-500), 3) := by decide +kernel
theorem dX11_leads_12 : decode cX11_leads 12 = .ok (.invokevirtual 311, 3) := by decide +kernel
theorem dX11_leads_15 : decode cX11_leads 15 = .ok (.aload_n 0, 1) := by decide +kernel
theorem dX11_leads_16 : decode cX11_leads 16 = .ok (.getfield 85, 3) := by decide +kernel
theorem dX11_leads_19 : decode cX11_leads 19 = .ok (.aload_n 0, 1) := by decide +kernel
theorem dX11_leads_20 : decode cX11_leads 20 = .ok (.iload_n 2, 1) := by decide +kernel
theorem dX11_leads_21 : decode cX11_leads 21 = .ok (.invokevirtual 211, 3) := by decide +kernel
theorem dX11_leads_24 : decode cX11_leads 24 = .ok (.sipush (-500), 3) := by decide +kernel
theorem dX11_leads_27 : decode cX11_leads 27 = .ok (.invokevirtual 311, 3) := by decide +kernel
theorem dX11_leads_30 : decode cX11_leads 30 = .ok (.iload_n 3, 1) := by decide +kernel
theorem dX11_leads_31 : decode cX11_leads 31 = .ok (.ifCond .eq 8, 3) := by decide +kernel
theorem dX11_leads_34 : decode cX11_leads 34 = .ok (.iload_n 3, 1) := by decide +kernel
theorem dX11_leads_35 : decode cX11_leads 35 = .ok (.iconst 1, 1) := by decide +kernel
theorem dX11_leads_36 : decode cX11_leads 36 = .ok (.if_icmp .ne 7, 3) := by decide +kernel
theorem dX11_leads_39 : decode cX11_leads 39 = .ok (.iconst 1, 1) := by decide +kernel
theorem dX11_leads_40 : decode cX11_leads 40 = .ok (.goto 4, 3) := by decide +kernel
theorem dX11_leads_43 : decode cX11_leads 43 = .ok (.iconst 0, 1) := by decide +kernel
theorem dX11_leads_44 : decode cX11_leads 44 = .ok (.invokestatic 197, 3) := by decide +kernel
theorem dX11_leads_47 : decode cX11_leads 47 = .ok (.iconst 0, 1) := by decide +kernel
theorem dX11_leads_48 : decode cX11_leads 48 = .ok (.istore 4, 2) := by decide +kernel
theorem dX11_leads_50 : decode cX11_leads 50 = .ok (.ldc_w 271, 3) := by decide +kernel
theorem dX11_leads_53 : decode cX11_leads 53 = .ok (.istore 5, 2) := by decide +kernel
theorem dX11_leads_55 : decode cX11_leads 55 = .ok (.sipush (-500), 3) := by decide +kernel
theorem dX11_leads_58 : decode cX11_leads 58 = .ok (.istore 6, 2) := by decide +kernel
theorem dX11_leads_60 : decode cX11_leads 60 = .ok (.iload 6, 2) := by decide +kernel
theorem dX11_leads_62 : decode cX11_leads 62 = .ok (.sipush 500, 3) := by decide +kernel
theorem dX11_leads_65 : decode cX11_leads 65 = .ok (.if_icmp .gt 58, 3) := by decide +kernel
theorem dX11_leads_68 : decode cX11_leads 68 = .ok (.aload_n 0, 1) := by decide +kernel
theorem dX11_leads_69 : decode cX11_leads 69 = .ok (.getfield 81, 3) := by decide +kernel
theorem dX11_leads_72 : decode cX11_leads 72 = .ok (.getfield 315, 3) := by decide +kernel
theorem dX11_leads_75 : decode cX11_leads 75 = .ok (.aload_n 0, 1) := by decide +kernel
theorem dX11_leads_76 : decode cX11_leads 76 = .ok (.getfield 85, 3) := by decide +kernel
theorem dX11_leads_79 : decode cX11_leads 79 = .ok (.getfield 315, 3) := by decide +kernel
theorem dX11_leads_82 : decode cX11_leads 82 = .ok (.lcmp, 1) := by decide +kernel
theorem dX11_leads_83 : decode cX11_leads 83 = .ok (.ifCond .ge 20, 3) := by decide +kernel
theorem dX11_leads_86 : decode cX11_leads 86 = .ok (.iload 4, 2) := by decide +kernel
theorem dX11_leads_88 : decode cX11_leads 88 = .ok (.ifCond .ne 8, 3) := by decide +kernel
theorem dX11_leads_91 : decode cX11_leads 91 = .ok (.iload 6, 2) := by decide +kernel
theorem dX11_leads_93 : decode cX11_leads 93 = .ok (.goto 5, 3) := by decide +kernel
theorem dX11_leads_96 : decode cX11_leads 96 = .ok (.iload 5, 2) := by decide +kernel
theorem dX11_leads_98 : decode cX11_leads 98 = .ok (.istore 5, 2) := by decide +kernel
theorem dX11_leads_100 : decode cX11_leads 100 = .ok (.iinc 4 1, 3) := by decide +kernel
theorem dX11_leads_103 : decode cX11_leads 103 = .ok (.aload_n 0, 1) := by decide +kernel
theorem dX11_leads_104 : decode cX11_leads 104 = .ok (.getfield 81, 3) := by decide +kernel
theorem dX11_leads_107 : decode cX11_leads 107 = .ok (.invokevirtual 318, 3) := by decide +kernel
theorem dX11_leads_110 : decode cX11_leads 110 = .ok (.aload_n 0, 1) := by decide +kernel
theorem dX11_leads_111 : decode cX11_leads 111 = .ok (.getfield 85, 3) := by decide +kernel
theorem dX11_leads_114 : decode cX11_leads 114 = .ok (.invokevirtual 318, 3) := by decide +kernel
theorem dX11_leads_117 : decode cX11_leads 117 = .ok (.iinc 6 1, 3) := by decide +kernel
theorem dX11_leads_120 : decode cX11_leads 120 = .ok (.goto (-60), 3) := by decide +kernel
theorem dX11_leads_123 : decode cX11_leads 123 = .ok (.iload_n 3, 1) := by decide +kernel
theorem dX11_leads_124 : decode cX11_leads 124 = .ok (.ifCond .ne 8, 3) := by decide +kernel
theorem dX11_leads_127 : decode cX11_leads 127 = .ok (.iload 4, 2) := by decide +kernel
theorem dX11_leads_129 : decode cX11_leads 129 = .ok (.goto 5, 3) := by decide +kernel
theorem dX11_leads_132 : decode cX11_leads 132 = .ok (.iload 5, 2) := by decide +kernel
theorem dX11_leads_134 : decode cX11_leads 134 = .ok (.ireturn, 1) := by decide +kernel
theorem dX11_against_0 : decode cX11_against 0 = .ok (.aload_n 0, 1) := by decide +kernel
theorem dX11_against_1 : decode cX11_against 1 = .ok (.iload_n 1, 1) := by decide +kernel
theorem dX11_against_2 : decode cX11_against 2 = .ok (.invokevirtual 211, 3) := by decide +kernel
theorem dX11_against_5 : decode cX11_against 5 = .ok (.astore 4, 2) := by decide +kernel
theorem dX11_against_7 : decode cX11_against 7 = .ok (.iload_n 3, 1) := by decide +kernel
