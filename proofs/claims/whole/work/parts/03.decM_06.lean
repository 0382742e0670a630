theorem dX12_split_22 : decode cX12_split 22 = .ok (.invokevirtual 313, 3) := by decide +kernel
theorem dX12_split_25 : decode cX12_split 25 = .ok (.i2l, 1) := by decide +kernel
theorem dX12_split_26 : decode cX12_split 26 = .ok (.goto 10, 3) := by decide +kernel
theorem dX12_split_29 : decode cX12_split 29 = .ok (.aload_n 0, 1) := by decide +kernel
theorem dX12_split_30 : decode cX12_split 30 = .ok (.iload_n 1, 1) := by decide +kernel
theorem dX12_split_31 : decode cX12_split 31 = .ok (.iload_n 2, 1) := by decide +kernel
theorem dX12_split_32 : decode cX12_split 32 = .ok (.iload_n 3, 1) := by decide +kernel
theorem dX12_split_33 : decode cX12_split 33 = .ok (.invokevirtual 421, 3) := by decide +kernel
theorem dX12_split_36 : decode cX12_split 36 = .ok (.lreturn, 1) := by decide +kernel
theorem dX12_where_0 : decode cX12_where 0 = .ok (.aload_n 0, 1) := by decide +kernel
theorem dX12_where_1 : decode cX12_where 1 = .ok (.iconst 0, 1) := by decide +kernel
theorem dX12_where_2 : decode cX12_where 2 = .ok (.putfield 132, 3) := by decide +kernel
theorem dX12_where_5 : decode cX12_where 5 = .ok (.aload_n 0, 1) := by decide +kernel
theorem dX12_where_6 : decode cX12_where 6 = .ok (.iload_n 1, 1) := by decide +kernel
theorem dX12_where_7 : decode cX12_where 7 = .ok (.iload_n 2, 1) := by decide +kernel
theorem dX12_where_8 : decode cX12_where 8 = .ok (.iload_n 3, 1) := by decide +kernel
theorem dX12_where_9 : decode cX12_where 9 = .ok (.invokevirtual 418, 3) := by decide +kernel
theorem dX12_where_12 : decode cX12_where 12 = .ok (.istore 4, 2) := by decide +kernel
theorem dX12_where_14 : decode cX12_where 14 = .ok (.iload 4, 2) := by decide +kernel
theorem dX12_where_16 : decode cX12_where 16 = .ok (.ifCond .le 10, 3) := by decide +kernel
theorem dX12_where_19 : decode cX12_where 19 = .ok (.aload_n 0, 1) := by decide +kernel
theorem dX12_where_20 : decode cX12_where 20 = .ok (.iload 4, 2) := by decide +kernel
theorem dX12_where_22 : decode cX12_where 22 = .ok (.invokevirtual 313, 3) := by decide +kernel
theorem dX12_where_25 : decode cX12_where 25 = .ok (.ireturn, 1) := by decide +kernel
theorem dX12_where_26 : decode cX12_where 26 = .ok (.aload_n 0, 1) := by decide +kernel
theorem dX12_where_27 : decode cX12_where 27 = .ok (.iload_n 1, 1) := by decide +kernel
theorem dX12_where_28 : decode cX12_where 28 = .ok (.iload_n 2, 1) := by decide +kernel
theorem dX12_where_29 : decode cX12_where 29 = .ok (.iload_n 3, 1) := by decide +kernel
theorem dX12_where_30 : decode cX12_where 30 = .ok (.invokevirtual 421, 3) := by decide +kernel
theorem dX12_where_33 : decode cX12_where 33 = .ok (.lstore 5, 2) := by decide +kernel
theorem dX12_where_35 : decode cX12_where 35 = .ok (.aload_n 0, 1) := by decide +kernel
theorem dX12_where_36 : decode cX12_where 36 = .ok (.getfield 40, 3) := by decide +kernel
theorem dX12_where_39 : decode cX12_where 39 = .ok (.aload_n 0, 1) := by decide +kernel
theorem dX12_where_40 : decode cX12_where 40 = .ok (.getfield 402, 3) := by decide +kernel
theorem dX12_where_43 : decode cX12_where 43 = .ok (.invokestatic 143, 3) := by decide +kernel
theorem dX12_where_46 : decode cX12_where 46 = .ok (.iload_n 3, 1) := by decide +kernel
theorem dX12_where_47 : decode cX12_where 47 = .ok (.aload_n 0, 1) := by decide +kernel
theorem dX12_where_48 : decode cX12_where 48 = .ok (.getfield 43, 3) := by decide +kernel
theorem dX12_where_51 : decode cX12_where 51 = .ok (.aload_n 0, 1) := by decide +kernel
theorem dX12_where_52 : decode cX12_where 52 = .ok (.getfield 402, 3) := by decide +kernel
theorem dX12_where_55 : decode cX12_where 55 = .ok (.iconst 1, 1) := by decide +kernel
theorem dX12_where_56 : decode cX12_where 56 = .ok (.iadd, 1) := by decide +kernel
theorem dX12_where_57 : decode cX12_where 57 = .ok (.invokestatic 143, 3) := by decide +kernel
theorem dX12_where_60 : decode cX12_where 60 = .ok (.isub, 1) := by decide +kernel
theorem dX12_where_61 : decode cX12_where 61 = .ok (.invokestatic 186, 3) := by decide +kernel
theorem dX12_where_64 : decode cX12_where 64 = .ok (.istore 7, 2) := by decide +kernel
theorem dX12_where_66 : decode cX12_where 66 = .ok (.aload_n 0, 1) := by decide +kernel
theorem dX12_where_67 : decode cX12_where 67 = .ok (.getfield 40, 3) := by decide +kernel
theorem dX12_where_70 : decode cX12_where 70 = .ok (.aload_n 0, 1) := by decide +kernel
theorem dX12_where_71 : decode cX12_where 71 = .ok (.getfield 402, 3) := by decide +kernel
theorem dX12_where_74 : decode cX12_where 74 = .ok (.iconst 1, 1) := by decide +kernel
theorem dX12_where_75 : decode cX12_where 75 = .ok (.iadd, 1) := by decide +kernel
theorem dX12_where_76 : decode cX12_where 76 = .ok (.invokestatic 143, 3) := by decide +kernel
theorem dX12_where_79 : decode cX12_where 79 = .ok (.iload_n 3, 1) := by decide +kernel
theorem dX12_where_80 : decode cX12_where 80 = .ok (.aload_n 0, 1) := by decide +kernel
theorem dX12_where_81 : decode cX12_where 81 = .ok (.getfield 43, 3) := by decide +kernel
theorem dX12_where_84 : decode cX12_where 84 = .ok (.aload_n 0, 1) := by decide +kernel
theorem dX12_where_85 : decode cX12_where 85 = .ok (.getfield 402, 3) := by decide +kernel
theorem dX12_where_88 : decode cX12_where 88 = .ok (.invokestatic 143, 3) := by decide +kernel
theorem dX12_where_91 : decode cX12_where 91 = .ok (.isub, 1) := by decide +kernel
theorem dX12_where_92 : decode cX12_where 92 = .ok (.invokestatic 135, 3) := by decide +kernel
theorem dX12_where_95 : decode cX12_where 95 = .ok (.istore 8, 2) := by decide +kernel
theorem dX12_where_97 : decode cX12_where 97 = .ok (.iload 7, 2) := by decide +kernel
theorem dX12_where_99 : decode cX12_where 99 = .ok (.iload 8, 2) := by decide +kernel
theorem dX12_where_101 : decode cX12_where 101 = .ok (.iconst 0, 1) := by decide +kernel
theorem dX12_where_102 : decode cX12_where 102 = .ok (.invokestatic 154, 3) := by decide +kernel
theorem dX12_where_105 : decode cX12_where 105 = .ok (.ireturn, 1) := by decide +kernel
theorem dX12_shared_0 : decode cX12_shared 0 = .ok (.aload_n 0, 1) := by decide +kernel
theorem dX12_shared_1 : decode cX12_shared 1 = .ok (.iconst 0, 1) := by decide +kernel
theorem dX12_shared_2 : decode cX12_shared 2 = .ok (.putfield 132, 3) := by decide +kernel
theorem dX12_shared_5 : decode cX12_shared 5 = .ok (.iload_n 1, 1) := by decide +kernel
theorem dX12_shared_6 : decode cX12_shared 6 = .ok (.i2l, 1) := by decide +kernel
theorem dX12_shared_7 : decode cX12_shared 7 = .ok (.lconst 1, 1) := by decide +kernel
theorem dX12_shared_8 : decode cX12_shared 8 = .ok (.ldc2_w 425, 3) := by decide +kernel
theorem dX12_shared_11 : decode cX12_shared 11 = .ok (.invokestatic 166, 3) := by decide +kernel
theorem dX12_shared_14 : decode cX12_shared 14 = .ok (.ifCond .eq 10, 3) := by decide +kernel
theorem dX12_shared_17 : decode cX12_shared 17 = .ok (.iload_n 2, 1) := by decide +kernel
theorem dX12_shared_18 : decode cX12_shared 18 = .ok (.invokestatic 353, 3) := by decide +kernel
theorem dX12_shared_21 : decode cX12_shared 21 = .ok (.ifCond .ne 10, 3) := by decide +kernel
theorem dX12_shared_24 : decode cX12_shared 24 = .ok (.aload_n 0, 1) := by decide +kernel
theorem dX12_shared_25 : decode cX12_shared 25 = .ok (.iconst 1, 1) := by decide +kernel
theorem dX12_shared_26 : decode cX12_shared 26 = .ok (.invokevirtual 313, 3) := by decide +kernel
theorem dX12_shared_29 : decode cX12_shared 29 = .ok (.i2l, 1) := by decide +kernel
theorem dX12_shared_30 : decode cX12_shared 30 = .ok (.lreturn, 1) := by decide +kernel
theorem dX12_shared_31 : decode cX12_shared 31 = .ok (.aload_n 0, 1) := by decide +kernel
theorem dX12_shared_32 : decode cX12_shared 32 = .ok (.invokevirtual 408, 3) := by decide +kernel
theorem dX12_shared_35 : decode cX12_shared 35 = .ok (.iconst 0, 1) := by decide +kernel
theorem dX12_shared_36 : decode cX12_shared 36 = .ok (.istore_n 3, 1) := by decide +kernel
theorem dX12_shared_37 : decode cX12_shared 37 = .ok (.iload_n 3, 1) := by decide +kernel
theorem dX12_shared_38 : decode cX12_shared 38 = .ok (.iconst 4, 1) := by decide +kernel
theorem dX12_shared_39 : decode cX12_shared 39 = .ok (.if_icmp .ge 33, 3) := by decide +kernel
theorem dX12_shared_42 : decode cX12_shared 42 = .ok (.iload_n 1, 1) := by decide +kernel
theorem dX12_shared_43 : decode cX12_shared 43 = .ok (.iload_n 3, 1) := by decide +kernel
theorem dX12_shared_44 : decode cX12_shared 44 = .ok (.ishr, 1) := by decide +kernel
theorem dX12_shared_45 : decode cX12_shared 45 = .ok (.iconst 1, 1) := by decide +kernel
theorem dX12_shared_46 : decode cX12_shared 46 = .ok (.iand, 1) := by decide +kernel
theorem dX12_shared_47 : decode cX12_shared 47 = .ok (.ifCond .ne 6, 3) := by decide +kernel
theorem dX12_shared_50 : decode cX12_shared 50 = .ok (.goto 16, 3) := by decide +kernel
theorem dX12_shared_53 : decode cX12_shared 53 = .ok (.aload_n 0, 1) := by decide +kernel
theorem dX12_shared_54 : decode cX12_shared 54 = .ok (.iload_n 3, 1) := by decide +kernel
theorem dX12_shared_55 : decode cX12_shared 55 = .ok (.invokevirtual 227, 3) := by decide +kernel
theorem dX12_shared_58 : decode cX12_shared 58 = .ok (.aload_n 0, 1) := by decide +kernel
theorem dX12_shared_59 : decode cX12_shared 59 = .ok (.aload_n 0, 1) := by decide +kernel
theorem dX12_shared_60 : decode cX12_shared 60 = .ok (.getfield 40, 3) := by decide +kernel
theorem dX12_shared_63 : decode cX12_shared 63 = .ok (.invokevirtual 411, 3) := by decide +kernel
theorem dX12_shared_66 : decode cX12_shared 66 = .ok (.iinc 3 1, 3) := by decide +kernel
theorem dX12_shared_69 : decode cX12_shared 69 = .ok (.goto (-32), 3) := by decide +kernel
theorem dX12_shared_72 : decode cX12_shared 72 = .ok (.aload_n 0, 1) := by decide +kernel
theorem dX12_shared_73 : decode cX12_shared 73 = .ok (.iload_n 2, 1) := by decide +kernel
theorem dX12_shared_74 : decode cX12_shared 74 = .ok (.invokevirtual 414, 3) := by decide +kernel
theorem dX12_shared_77 : decode cX12_shared 77 = .ok (.lreturn, 1) := by decide +kernel
theorem dX12_lays_0 : decode cX12_lays 0 = .ok (.aload_n 1, 1) := by decide +kernel
theorem dX12_lays_1 : decode cX12_lays 1 = .ok (.sipush (-1000), 3) := by decide +kernel
theorem dX12_lays_4 : decode cX12_lays 4 = .ok (.invokestatic 158, 3) := by decide +kernel
theorem dX12_lays_7 : decode cX12_lays 7 = .ok (.lstore_n 2, 1) := by decide +kernel
theorem dX12_lays_8 : decode cX12_lays 8 = .ok (.aload_n 1, 1) := by decide +kernel
theorem dX12_lays_9 : decode cX12_lays 9 = .ok (.iconst 0, 1) := by decide +kernel
theorem dX12_lays_10 : decode cX12_lays 10 = .ok (.iaload, 1) := by decide +kernel
theorem dX12_lays_11 : decode cX12_lays 11 = .ok (.istore 4, 2) := by decide +kernel
theorem dX12_lays_13 : decode cX12_lays 13 = .ok (.iconst 0, 1) := by decide +kernel
theorem dX12_lays_14 : decode cX12_lays 14 = .ok (.istore 5, 2) := by decide +kernel
theorem dX12_lays_16 : decode cX12_lays 16 = .ok (.iload 5, 2) := by decide +kernel
theorem dX12_lays_18 : decode cX12_lays 18 = .ok (.sipush 4000, 3) := by decide +kernel
theorem dX12_lays_21 : decode cX12_lays 21 = .ok (.if_icmp .ge 20, 3) := by decide +kernel
theorem dX12_lays_24 : decode cX12_lays 24 = .ok (.iload 4, 2) := by decide +kernel
theorem dX12_lays_26 : decode cX12_lays 26 = .ok (.aload_n 1, 1) := by decide +kernel
theorem dX12_lays_27 : decode cX12_lays 27 = .ok (.iconst 2, 1) := by decide +kernel
theorem dX12_lays_28 : decode cX12_lays 28 = .ok (.iload 5, 2) := by decide +kernel
theorem dX12_lays_30 : decode cX12_lays 30 = .ok (.iadd, 1) := by decide +kernel
theorem dX12_lays_31 : decode cX12_lays 31 = .ok (.iaload, 1) := by decide +kernel
theorem dX12_lays_32 : decode cX12_lays 32 = .ok (.iadd, 1) := by decide +kernel
theorem dX12_lays_33 : decode cX12_lays 33 = .ok (.istore 4, 2) := by decide +kernel
theorem dX12_lays_35 : decode cX12_lays 35 = .ok (.iinc 5 1, 3) := by decide +kernel
theorem dX12_lays_38 : decode cX12_lays 38 = .ok (.goto (-22), 3) := by decide +kernel
theorem dX12_lays_41 : decode cX12_lays 41 = .ok (.iconst 0, 1) := by decide +kernel
theorem dX12_lays_42 : decode cX12_lays 42 = .ok (.istore 5, 2) := by decide +kernel
theorem dX12_lays_44 : decode cX12_lays 44 = .ok (.iload 5, 2) := by decide +kernel
theorem dX12_lays_46 : decode cX12_lays 46 = .ok (.aload_n 0, 1) := by decide +kernel
theorem dX12_lays_47 : decode cX12_lays 47 = .ok (.arraylength, 1) := by decide +kernel
theorem dX12_lays_48 : decode cX12_lays 48 = .ok (.if_icmp .ge 33, 3) := by decide +kernel
theorem dX12_lays_51 : decode cX12_lays 51 = .ok (.aload_n 0, 1) := by decide +kernel
theorem dX12_lays_52 : decode cX12_lays 52 = .ok (.iload 5, 2) := by decide +kernel
theorem dX12_lays_54 : decode cX12_lays 54 = .ok (.lload_n 2, 1) := by decide +kernel
theorem dX12_lays_55 : decode cX12_lays 55 = .ok (.lastore, 1) := by decide +kernel
theorem dX12_lays_56 : decode cX12_lays 56 = .ok (.iload 4, 2) := by decide +kernel
theorem dX12_lays_58 : decode cX12_lays 58 = .ok (.aload_n 1, 1) := by decide +kernel
theorem dX12_lays_59 : decode cX12_lays 59 = .ok (.sipush 4002, 3) := by decide +kernel
theorem dX12_lays_62 : decode cX12_lays 62 = .ok (.iload 5, 2) := by decide +kernel
theorem dX12_lays_64 : decode cX12_lays 64 = .ok (.iadd, 1) := by decide +kernel
theorem dX12_lays_65 : decode cX12_lays 65 = .ok (.iaload, 1) := by decide +kernel
theorem dX12_lays_66 : decode cX12_lays 66 = .ok (.iadd, 1) := by decide +kernel
theorem dX12_lays_67 : decode cX12_lays 67 = .ok (.istore 4, 2) := by decide +kernel
theorem dX12_lays_69 : decode cX12_lays 69 = .ok (.lload_n 2, 1) := by decide +kernel
theorem dX12_lays_70 : decode cX12_lays 70 = .ok (.iload 4, 2) := by decide +kernel
theorem dX12_lays_72 : decode cX12_lays 72 = .ok (.i2l, 1) := by decide +kernel
theorem dX12_lays_73 : decode cX12_lays 73 = .ok (.ladd, 1) := by decide +kernel
theorem dX12_lays_74 : decode cX12_lays 74 = .ok (.lstore_n 2, 1) := by decide +kernel
theorem dX12_lays_75 : decode cX12_lays 75 = .ok (.iinc 5 1, 3) := by decide +kernel
theorem dX12_lays_78 : decode cX12_lays 78 = .ok (.goto (-34), 3) := by decide +kernel
theorem dX12_lays_81 : decode cX12_lays 81 = .ok (.return_, 1) := by decide +kernel
theorem dX12_laysBoth_0 : decode cX12_laysBoth 0 = .ok (.aload_n 0, 1) := by decide +kernel
theorem dX12_laysBoth_1 : decode cX12_laysBoth 1 = .ok (.iload_n 1, 1) := by decide +kernel
theorem dX12_laysBoth_2 : decode cX12_laysBoth 2 = .ok (.invokevirtual 310, 3) := by decide +kernel
theorem dX12_laysBoth_5 : decode cX12_laysBoth 5 = .ok (.ifCond .eq 11, 3) := by decide +kernel
theorem dX12_laysBoth_8 : decode cX12_laysBoth 8 = .ok (.aload_n 0, 1) := by decide +kernel
theorem dX12_laysBoth_9 : decode cX12_laysBoth 9 = .ok (.iload_n 2, 1) := by decide +kernel
theorem dX12_laysBoth_10 : decode cX12_laysBoth 10 = .ok (.invokevirtual 310, 3) := by decide +kernel
theorem dX12_laysBoth_13 : decode cX12_laysBoth 13 = .ok (.ifCond .ne 5, 3) := by decide +kernel
theorem dX12_laysBoth_16 : decode cX12_laysBoth 16 = .ok (.iconst 0, 1) := by decide +kernel
theorem dX12_laysBoth_17 : decode cX12_laysBoth 17 = .ok (.ireturn, 1) := by decide +kernel
theorem dX12_laysBoth_18 : decode cX12_laysBoth 18 = .ok (.aload_n 0, 1) := by decide +kernel
theorem dX12_laysBoth_19 : decode cX12_laysBoth 19 = .ok (.iload_n 1, 1) := by decide +kernel
theorem dX12_laysBoth_20 : decode cX12_laysBoth 20 = .ok (.iload_n 2, 1) := by decide +kernel
theorem dX12_laysBoth_21 : decode cX12_laysBoth 21 = .ok (.invokevirtual 405, 3) := by decide +kernel
theorem dX12_laysBoth_24 : decode cX12_laysBoth 24 = .ok (.aload_n 0, 1) := by decide +kernel
theorem dX12_laysBoth_25 : decode cX12_laysBoth 25 = .ok (.getfield 96, 3) := by decide +kernel
theorem dX12_laysBoth_28 : decode cX12_laysBoth 28 = .ok (.aload_n 0, 1) := by decide +kernel
theorem dX12_laysBoth_29 : decode cX12_laysBoth 29 = .ok (.getfield 40, 3) := by decide +kernel
theorem dX12_laysBoth_32 : decode cX12_laysBoth 32 = .ok (.invokestatic 427, 3) := by decide +kernel
theorem dX12_laysBoth_35 : decode cX12_laysBoth 35 = .ok (.aload_n 0, 1) := by decide +kernel
theorem dX12_laysBoth_36 : decode cX12_laysBoth 36 = .ok (.getfield 99, 3) := by decide +kernel
theorem dX12_laysBoth_39 : decode cX12_laysBoth 39 = .ok (.aload_n 0, 1) := by decide +kernel
theorem dX12_laysBoth_40 : decode cX12_laysBoth 40 = .ok (.getfield 43, 3) := by decide +kernel
theorem dX12_laysBoth_43 : decode cX12_laysBoth 43 = .ok (.invokestatic 427, 3) := by decide +kernel
theorem dX12_laysBoth_46 : decode cX12_laysBoth 46 = .ok (.iconst 1, 1) := by decide +kernel
theorem dX12_laysBoth_47 : decode cX12_laysBoth 47 = .ok (.ireturn, 1) := by decide +kernel
theorem dX12_leads_0 : decode cX12_leads 0 = .ok (.aload_n 0, 1) := by decide +kernel
theorem dX12_leads_1 : decode cX12_leads 1 = .ok (.iconst 0, 1) := by decide +kernel
theorem dX12_leads_2 : decode cX12_leads 2 = .ok (.putfield 132, 3) := by decide +kernel
theorem dX12_leads_5 : decode cX12_leads 5 = .ok (.iload_n 3, 1) := by decide +kernel
theorem dX12_leads_6 : decode cX12_leads 6 = .ok (.i2l, 1) := by decide +kernel
theorem dX12_leads_7 : decode cX12_leads 7 = .ok (.lconst 0, 1) := by decide +kernel
theorem dX12_leads_8 : decode cX12_leads 8 = .ok (.lconst 1, 1) := by decide +kernel
theorem dX12_leads_9 : decode cX12_leads 9 = .ok (.invokestatic 166, 3) := by decide +kernel
theorem dX12_leads_12 : decode cX12_leads 12 = .ok (.ifCond .eq 12, 3) := by decide +kernel
theorem dX12_leads_15 : decode cX12_leads 15 = .ok (.aload_n 0, 1) := by decide +kernel
theorem dX12_leads_16 : decode cX12_leads 16 = .ok (.iload_n 1, 1) := by decide +kernel
theorem dX12_leads_17 : decode cX12_leads 17 = .ok (.iload_n 2, 1) := by decide +kernel
theorem dX12_leads_18 : decode cX12_leads 18 = .ok (.invokevirtual 431, 3) := by decide +kernel
theorem dX12_leads_21 : decode cX12_leads 21 = .ok (.ifCond .ne 9, 3) := by decide +kernel
theorem dX12_leads_24 : decode cX12_leads 24 = .ok (.aload_n 0, 1) := by decide +kernel
theorem dX12_leads_25 : decode cX12_leads 25 = .ok (.iconst 1, 1) := by decide +kernel
theorem dX12_leads_26 : decode cX12_leads 26 = .ok (.invokevirtual 313, 3) := by decide +kernel
theorem dX12_leads_29 : decode cX12_leads 29 = .ok (.ireturn, 1) := by decide +kernel
theorem dX12_leads_30 : decode cX12_leads 30 = .ok (.iconst 0, 1) := by decide +kernel
theorem dX12_leads_31 : decode cX12_leads 31 = .ok (.istore 4, 2) := by decide +kernel
theorem dX12_leads_33 : decode cX12_leads 33 = .ok (.ldc_w 360, 3) := by decide +kernel
theorem dX12_leads_36 : decode cX12_leads 36 = .ok (.istore 5, 2) := by decide +kernel
theorem dX12_leads_38 : decode cX12_leads 38 = .ok (.sipush 500, 3) := by decide +kernel
theorem dX12_leads_41 : decode cX12_leads 41 = .ok (.istore 6, 2) := by decide +kernel
theorem dX12_leads_43 : decode cX12_leads 43 = .ok (.iload 6, 2) := by decide +kernel
theorem dX12_leads_45 : decode cX12_leads 45 = .ok (.sipush (-500), 3) := by decide +kernel
theorem dX12_leads_48 : decode cX12_leads 48 = .ok (.if_icmp .lt 45, 3) := by decide +kernel
theorem dX12_leads_51 : decode cX12_leads 51 = .ok (.aload_n 0, 1) := by decide +kernel
theorem dX12_leads_52 : decode cX12_leads 52 = .ok (.getfield 96, 3) := by decide +kernel
theorem dX12_leads_55 : decode cX12_leads 55 = .ok (.sipush 1000, 3) := by decide +kernel
theorem dX12_leads_58 : decode cX12_leads 58 = .ok (.iload 6, 2) := by decide +kernel
theorem dX12_leads_60 : decode cX12_leads 60 = .ok (.iadd, 1) := by decide +kernel
theorem dX12_leads_61 : decode cX12_leads 61 = .ok (.laload, 1) := by decide +kernel
theorem dX12_leads_62 : decode cX12_leads 62 = .ok (.aload_n 0, 1) := by decide +kernel
theorem dX12_leads_63 : decode cX12_leads 63 = .ok (.getfield 99, 3) := by decide +kernel
theorem dX12_leads_66 : decode cX12_leads 66 = .ok (.sipush 1000, 3) := by decide +kernel
theorem dX12_leads_69 : decode cX12_leads 69 = .ok (.iload 6, 2) := by decide +kernel
theorem dX12_leads_71 : decode cX12_leads 71 = .ok (.iadd, 1) := by decide +kernel
theorem dX12_leads_72 : decode cX12_leads 72 = .ok (.laload, 1) := by decide +kernel
theorem dX12_leads_73 : decode cX12_leads 73 = .ok (.lcmp, 1) := by decide +kernel
theorem dX12_leads_74 : decode cX12_leads 74 = .ok (.ifCond .lt 6, 3) := by decide +kernel
theorem dX12_leads_77 : decode cX12_leads 77 = .ok (.goto 10, 3) := by decide +kernel
theorem dX12_leads_80 : decode cX12_leads 80 = .ok (.iinc 4 1, 3) := by decide +kernel
theorem dX12_leads_83 : decode cX12_leads 83 = .ok (.iload 6, 2) := by decide +kernel
theorem dX12_leads_85 : decode cX12_leads 85 = .ok (.istore 5, 2) := by decide +kernel
theorem dX12_leads_87 : decode cX12_leads 87 = .ok (.iinc 6 (-1), 3) := by decide +kernel
theorem dX12_leads_90 : decode cX12_leads 90 = .ok (.goto (-47), 3) := by decide +kernel
theorem dX12_leads_93 : decode cX12_leads 93 = .ok (.iload_n 3, 1) := by decide +kernel
theorem dX12_leads_94 : decode cX12_leads 94 = .ok (.ifCond .ne 8, 3) := by decide +kernel
theorem dX12_leads_97 : decode cX12_leads 97 = .ok (.iload 4, 2) := by decide +kernel
theorem dX12_leads_99 : decode cX12_leads 99 = .ok (.goto 5, 3) := by decide +kernel
theorem dX12_leads_102 : decode cX12_leads 102 = .ok (.iload 5, 2) := by decide +kernel
theorem dX12_leads_104 : decode cX12_leads 104 = .ok (.ireturn, 1) := by decide +kernel
theorem dX12_meet_0 : decode cX12_meet 0 = .ok (.aload_n 0, 1) := by decide +kernel
theorem dX12_meet_1 : decode cX12_meet 1 = .ok (.iconst 0, 1) := by decide +kernel
theorem dX12_meet_2 : decode cX12_meet 2 = .ok (.putfield 132, 3) := by decide +kernel
theorem dX12_meet_5 : decode cX12_meet 5 = .ok (.aload_n 0, 1) := by decide +kernel
theorem dX12_meet_6 : decode cX12_meet 6 = .ok (.iload_n 1, 1) := by decide +kernel
theorem dX12_meet_7 : decode cX12_meet 7 = .ok (.iload_n 2, 1) := by decide +kernel
theorem dX12_meet_8 : decode cX12_meet 8 = .ok (.invokevirtual 431, 3) := by decide +kernel
theorem dX12_meet_11 : decode cX12_meet 11 = .ok (.ifCond .ne 9, 3) := by decide +kernel
theorem dX12_meet_14 : decode cX12_meet 14 = .ok (.aload_n 0, 1) := by decide +kernel
theorem dX12_meet_15 : decode cX12_meet 15 = .ok (.iconst 1, 1) := by decide +kernel
theorem dX12_meet_16 : decode cX12_meet 16 = .ok (.invokevirtual 313, 3) := by decide +kernel
theorem dX12_meet_19 : decode cX12_meet 19 = .ok (.ireturn, 1) := by decide +kernel
theorem dX12_meet_20 : decode cX12_meet 20 = .ok (.iconst 0, 1) := by decide +kernel
theorem dX12_meet_21 : decode cX12_meet 21 = .ok (.istore_n 3, 1) := by decide +kernel
theorem dX12_meet_22 : decode cX12_meet 22 = .ok (.iload_n 3, 1) := by decide +kernel
theorem dX12_meet_23 : decode cX12_meet 23 = .ok (.sipush 1000, 3) := by decide +kernel
theorem dX12_meet_26 : decode cX12_meet 26 = .ok (.if_icmp .gt 62, 3) := by decide +kernel
theorem dX12_meet_29 : decode cX12_meet 29 = .ok (.aload_n 0, 1) := by decide +kernel
theorem dX12_meet_30 : decode cX12_meet 30 = .ok (.getfield 96, 3) := by decide +kernel
theorem dX12_meet_33 : decode cX12_meet 33 = .ok (.sipush 1000, 3) := by decide +kernel
theorem dX12_meet_36 : decode cX12_meet 36 = .ok (.iload_n 3, 1) := by decide +kernel
theorem dX12_meet_37 : decode cX12_meet 37 = .ok (.isub, 1) := by decide +kernel
theorem dX12_meet_38 : decode cX12_meet 38 = .ok (.laload, 1) := by decide +kernel
theorem dX12_meet_39 : decode cX12_meet 39 = .ok (.aload_n 0, 1) := by decide +kernel
theorem dX12_meet_40 : decode cX12_meet 40 = .ok (.getfield 99, 3) := by decide +kernel
theorem dX12_meet_43 : decode cX12_meet 43 = .ok (.sipush 1000, 3) := by decide +kernel
theorem dX12_meet_46 : decode cX12_meet 46 = .ok (.iload_n 3, 1) := by decide +kernel
theorem dX12_meet_47 : decode cX12_meet 47 = .ok (.isub, 1) := by decide +kernel
theorem dX12_meet_48 : decode cX12_meet 48 = .ok (.laload, 1) := by decide +kernel
theorem dX12_meet_49 : decode cX12_meet 49 = .ok (.lcmp, 1) := by decide +kernel
theorem dX12_meet_50 : decode cX12_meet 50 = .ok (.ifCond .ne 6, 3) := by decide +kernel
theorem dX12_meet_53 : decode cX12_meet 53 = .ok (.iload_n 3, 1) := by decide +kernel
theorem dX12_meet_54 : decode cX12_meet 54 = .ok (.ineg, 1) := by decide +kernel
theorem dX12_meet_55 : decode cX12_meet 55 = .ok (.ireturn, 1) := by decide +kernel
theorem dX12_meet_56 : decode cX12_meet 56 = .ok (.aload_n 0, 1) := by decide +kernel
theorem dX12_meet_57 : decode cX12_meet 57 = .ok (.getfield 96, 3) := by decide +kernel
theorem dX12_meet_60 : decode cX12_meet 60 = .ok (.sipush 1000, 3) := by decide +kernel
theorem dX12_meet_63 : decode cX12_meet 63 = .ok (.iload_n 3, 1) := by decide +kernel
theorem dX12_meet_64 : decode cX12_meet 64 = .ok (.iadd, 1) := by decide +kernel
theorem dX12_meet_65 : decode cX12_meet 65 = .ok (.laload, 1) := by decide +kernel
theorem dX12_meet_66 : decode cX12_meet 66 = .ok (.aload_n 0, 1) := by decide +kernel
theorem dX12_meet_67 : decode cX12_meet 67 = .ok (.getfield 99, 3) := by decide +kernel
theorem dX12_meet_70 : decode cX12_meet 70 = .ok (.sipush 1000, 3) := by decide +kernel
theorem dX12_meet_73 : decode cX12_meet 73 = .ok (.iload_n 3, 1) := by decide +kernel
theorem dX12_meet_74 : decode cX12_meet 74 = .ok (.iadd, 1) := by decide +kernel
theorem dX12_meet_75 : decode cX12_meet 75 = .ok (.laload, 1) := by decide +kernel
theorem dX12_meet_76 : decode cX12_meet 76 = .ok (.lcmp, 1) := by decide +kernel
theorem dX12_meet_77 : decode cX12_meet 77 = .ok (.ifCond .ne 5, 3) := by decide +kernel
theorem dX12_meet_80 : decode cX12_meet 80 = .ok (.iload_n 3, 1) := by decide +kernel
theorem dX12_meet_81 : decode cX12_meet 81 = .ok (.ireturn, 1) := by decide +kernel
theorem dX12_meet_82 : decode cX12_meet 82 = .ok (.iinc 3 1, 3) := by decide +kernel
theorem dX12_meet_85 : decode cX12_meet 85 = .ok (.goto (-63), 3) := by decide +kernel
theorem dX12_meet_88 : decode cX12_meet 88 = .ok (.ldc_w 360, 3) := by decide +kernel
theorem dX12_meet_91 : decode cX12_meet 91 = .ok (.ireturn, 1) := by decide +kernel
theorem dX12_gap_0 : decode cX12_gap 0 = .ok (.aload_n 0, 1) := by decide +kernel
theorem dX12_gap_1 : decode cX12_gap 1 = .ok (.iconst 0, 1) := by decide +kernel
theorem dX12_gap_2 : decode cX12_gap 2 = .ok (.putfield 132, 3) := by decide +kernel
theorem dX12_gap_5 : decode cX12_gap 5 = .ok (.aload_n 0, 1) := by decide +kernel
theorem dX12_gap_6 : decode cX12_gap 6 = .ok (.iload_n 1, 1) := by decide +kernel
theorem dX12_gap_7 : decode cX12_gap 7 = .ok (.iload_n 2, 1) := by decide +kernel
theorem dX12_gap_8 : decode cX12_gap 8 = .ok (.invokevirtual 431, 3) := by decide +kernel
theorem dX12_gap_11 : decode cX12_gap 11 = .ok (.ifCond .ne 10, 3) := by decide +kernel
theorem dX12_gap_14 : decode cX12_gap 14 = .ok (.aload_n 0, 1) := by decide +kernel
theorem dX12_gap_15 : decode cX12_gap 15 = .ok (.iconst 1, 1) := by decide +kernel
theorem dX12_gap_16 : decode cX12_gap 16 = .ok (.invokevirtual 313, 3) := by decide +kernel
theorem dX12_gap_19 : decode cX12_gap 19 = .ok (.i2l, 1) := by decide +kernel
theorem dX12_gap_20 : decode cX12_gap 20 = .ok (.lreturn, 1) := by decide +kernel
theorem dX12_gap_21 : decode cX12_gap 21 = .ok (.lconst 0, 1) := by decide +kernel
theorem dX12_gap_22 : decode cX12_gap 22 = .ok (.lstore_n 3, 1) := by decide +kernel
theorem dX12_gap_23 : decode cX12_gap 23 = .ok (.sipush (-500), 3) := by decide +kernel
theorem dX12_gap_26 : decode cX12_gap 26 = .ok (.istore 5, 2) := by decide +kernel
theorem dX12_gap_28 : decode cX12_gap 28 = .ok (.iload 5, 2) := by decide +kernel
theorem dX12_gap_30 : decode cX12_gap 30 = .ok (.sipush 500, 3) := by decide +kernel
theorem dX12_gap_33 : decode cX12_gap 33 = .ok (.if_icmp .gt 40, 3) := by decide +kernel
theorem dX12_gap_36 : decode cX12_gap 36 = .ok (.lload_n 3, 1) := by decide +kernel
theorem dX12_gap_37 : decode cX12_gap 37 = .ok (.aload_n 0, 1) := by decide +kernel
theorem dX12_gap_38 : decode cX12_gap 38 = .ok (.getfield 96, 3) := by decide +kernel
theorem dX12_gap_41 : decode cX12_gap 41 = .ok (.sipush 1000, 3) := by decide +kernel
theorem dX12_gap_44 : decode cX12_gap 44 = .ok (.iload 5, 2) := by decide +kernel
theorem dX12_gap_46 : decode cX12_gap 46 = .ok (.iadd, 1) := by decide +kernel
theorem dX12_gap_47 : decode cX12_gap 47 = .ok (.laload, 1) := by decide +kernel
theorem dX12_gap_48 : decode cX12_gap 48 = .ok (.aload_n 0, 1) := by decide +kernel
theorem dX12_gap_49 : decode cX12_gap 49 = .ok (.getfield 99, 3) := by decide +kernel
theorem dX12_gap_52 : decode cX12_gap 52 = .ok (.sipush 1000, 3) := by decide +kernel
theorem dX12_gap_55 : decode cX12_gap 55 = .ok (.iload 5, 2) := by decide +kernel
theorem dX12_gap_57 : decode cX12_gap 57 = .ok (.iadd, 1) := by decide +kernel
theorem dX12_gap_58 : decode cX12_gap 58 = .ok (.laload, 1) := by decide +kernel
theorem dX12_gap_59 : decode cX12_gap 59 = .ok (.lsub, 1) := by decide +kernel
theorem dX12_gap_60 : decode cX12_gap 60 = .ok (.invokestatic 434, 3) := by decide +kernel
theorem dX12_gap_63 : decode cX12_gap 63 = .ok (.invokestatic 437, 3) := by decide +kernel
theorem dX12_gap_66 : decode cX12_gap 66 = .ok (.lstore_n 3, 1) := by decide +kernel
theorem dX12_gap_67 : decode cX12_gap 67 = .ok (.iinc 5 1, 3) := by decide +kernel
theorem dX12_gap_70 : decode cX12_gap 70 = .ok (.goto (-42), 3) := by decide +kernel
theorem dX12_gap_73 : decode cX12_gap 73 = .ok (.lload_n 3, 1) := by decide +kernel
theorem dX12_gap_74 : decode cX12_gap 74 = .ok (.lreturn, 1) := by decide +kernel
theorem dX12_alike_0 : decode cX12_alike 0 = .ok (.aload_n 0, 1) := by decide +kernel
theorem dX12_alike_1 : decode cX12_alike 1 = .ok (.iconst 0, 1) := by decide +kernel
theorem dX12_alike_2 : decode cX12_alike 2 = .ok (.putfield 132, 3) := by decide +kernel
theorem dX12_alike_5 : decode cX12_alike 5 = .ok (.aload_n 0, 1) := by decide +kernel
theorem dX12_alike_6 : decode cX12_alike 6 = .ok (.iload_n 1, 1) := by decide +kernel
theorem dX12_alike_7 : decode cX12_alike 7 = .ok (.invokevirtual 310, 3) := by decide +kernel
theorem dX12_alike_10 : decode cX12_alike 10 = .ok (.ifCond .eq 11, 3) := by decide +kernel
theorem dX12_alike_13 : decode cX12_alike 13 = .ok (.aload_n 0, 1) := by decide +kernel
theorem dX12_alike_14 : decode cX12_alike 14 = .ok (.iload_n 2, 1) := by decide +kernel
theorem dX12_alike_15 : decode cX12_alike 15 = .ok (.invokevirtual 310, 3) := by decide +kernel
theorem dX12_alike_18 : decode cX12_alike 18 = .ok (.ifCond .ne 9, 3) := by decide +kernel
theorem dX12_alike_21 : decode cX12_alike 21 = .ok (.aload_n 0, 1) := by decide +kernel
theorem dX12_alike_22 : decode cX12_alike 22 = .ok (.iconst 1, 1) := by decide +kernel
theorem dX12_alike_23 : decode cX12_alike 23 = .ok (.invokevirtual 313, 3) := by decide +kernel
theorem dX12_alike_26 : decode cX12_alike 26 = .ok (.ireturn, 1) := by decide +kernel
theorem dX12_alike_27 : decode cX12_alike 27 = .ok (.aload_n 0, 1) := by decide +kernel
theorem dX12_alike_28 : decode cX12_alike 28 = .ok (.iload_n 1, 1) := by decide +kernel
theorem dX12_alike_29 : decode cX12_alike 29 = .ok (.iload_n 2, 1) := by decide +kernel
theorem dX12_alike_30 : decode cX12_alike 30 = .ok (.invokevirtual 405, 3) := by decide +kernel
theorem dX12_alike_33 : decode cX12_alike 33 = .ok (.iconst 1, 1) := by decide +kernel
theorem dX12_alike_34 : decode cX12_alike 34 = .ok (.istore_n 3, 1) := by decide +kernel
theorem dX12_alike_35 : decode cX12_alike 35 = .ok (.iconst 0, 1) := by decide +kernel
theorem dX12_alike_36 : decode cX12_alike 36 = .ok (.istore 4, 2) := by decide +kernel
theorem dX12_alike_38 : decode cX12_alike 38 = .ok (.iload 4, 2) := by decide +kernel
theorem dX12_alike_40 : decode cX12_alike 40 = .ok (.aload_n 0, 1) := by decide +kernel
theorem dX12_alike_41 : decode cX12_alike 41 = .ok (.getfield 40, 3) := by decide +kernel
theorem dX12_alike_44 : decode cX12_alike 44 = .ok (.arraylength, 1) := by decide +kernel
theorem dX12_alike_45 : decode cX12_alike 45 = .ok (.if_icmp .ge 36, 3) := by decide +kernel
theorem dX12_alike_48 : decode cX12_alike 48 = .ok (.iload_n 3, 1) := by decide +kernel
theorem dX12_alike_49 : decode cX12_alike 49 = .ok (.ifCond .eq 32, 3) := by decide +kernel
theorem dX12_alike_52 : decode cX12_alike 52 = .ok (.aload_n 0, 1) := by decide +kernel
theorem dX12_alike_53 : decode cX12_alike 53 = .ok (.getfield 40, 3) := by decide +kernel
theorem dX12_alike_56 : decode cX12_alike 56 = .ok (.iload 4, 2) := by decide +kernel
theorem dX12_alike_58 : decode cX12_alike 58 = .ok (.iaload, 1) := by decide +kernel
theorem dX12_alike_59 : decode cX12_alike 59 = .ok (.aload_n 0, 1) := by decide +kernel
theorem dX12_alike_60 : decode cX12_alike 60 = .ok (.getfield 43, 3) := by decide +kernel
theorem dX12_alike_63 : decode cX12_alike 63 = .ok (.iload 4, 2) := by decide +kernel
theorem dX12_alike_65 : decode cX12_alike 65 = .ok (.iaload, 1) := by decide +kernel
theorem dX12_alike_66 : decode cX12_alike 66 = .ok (.if_icmp .ne 7, 3) := by decide +kernel
theorem dX12_alike_69 : decode cX12_alike 69 = .ok (.iconst 1, 1) := by decide +kernel
theorem dX12_alike_70 : decode cX12_alike 70 = .ok (.goto 4, 3) := by decide +kernel
theorem dX12_alike_73 : decode cX12_alike 73 = .ok (.iconst 0, 1) := by decide +kernel
theorem dX12_alike_74 : decode cX12_alike 74 = .ok (.istore_n 3, 1) := by decide +kernel
theorem dX12_alike_75 : decode cX12_alike 75 = .ok (.iinc 4 1, 3) := by decide +kernel
theorem dX12_alike_78 : decode cX12_alike 78 = .ok (.goto (-40), 3) := by decide +kernel
theorem dX12_alike_81 : decode cX12_alike 81 = .ok (.iload_n 3, 1) := by decide +kernel
theorem dX12_alike_82 : decode cX12_alike 82 = .ok (.ifCond .eq 7, 3) := by decide +kernel
theorem dX12_alike_85 : decode cX12_alike 85 = .ok (.iconst 1, 1) := by decide +kernel
theorem dX12_alike_86 : decode cX12_alike 86 = .ok (.goto 4, 3) := by decide +kernel
theorem dX12_alike_89 : decode cX12_alike 89 = .ok (.iconst 0, 1) := by decide +kernel
theorem dX12_alike_90 : decode cX12_alike 90 = .ok (.ireturn, 1) := by decide +kernel
theorem dX12_runsWithout_0 : decode cX12_runsWithout 0 = .ok (.aload_n 0, 1) := by decide +kernel
theorem dX12_runsWithout_1 : decode cX12_runsWithout 1 = .ok (.iload_n 2, 1) := by decide +kernel
theorem dX12_runsWithout_2 : decode cX12_runsWithout 2 = .ok (.putfield 64, 3) := by decide +kernel
theorem dX12_runsWithout_5 : decode cX12_runsWithout 5 = .ok (.aload_n 0, 1) := by decide +kernel
theorem dX12_runsWithout_6 : decode cX12_runsWithout 6 = .ok (.aload_n 0, 1) := by decide +kernel
theorem dX12_runsWithout_7 : decode cX12_runsWithout 7 = .ok (.getfield 33, 3) := by decide +kernel
theorem dX12_runsWithout_10 : decode cX12_runsWithout 10 = .ok (.iload_n 1, 1) := by decide +kernel
theorem dX12_runsWithout_11 : decode cX12_runsWithout 11 = .ok (.invokevirtual 223, 3) := by decide +kernel
theorem dX12_runsWithout_14 : decode cX12_runsWithout 14 = .ok (.istore_n 3, 1) := by decide +kernel
theorem dX12_runsWithout_15 : decode cX12_runsWithout 15 = .ok (.aload_n 0, 1) := by decide +kernel
theorem dX12_runsWithout_16 : decode cX12_runsWithout 16 = .ok (.iconst (-1), 1) := by decide +kernel
theorem dX12_runsWithout_17 : decode cX12_runsWithout 17 = .ok (.putfield 64, 3) := by decide +kernel
theorem dX12_runsWithout_20 : decode cX12_runsWithout 20 = .ok (.iload_n 3, 1) := by decide +kernel
theorem dX12_runsWithout_21 : decode cX12_runsWithout 21 = .ok (.ireturn, 1) := by decide +kernel
theorem dX12_runsWith_0 : decode cX12_runsWith 0 = .ok (.aload_n 0, 1) := by decide +kernel
theorem dX12_runsWith_1 : decode cX12_runsWith 1 = .ok (.iload_n 2, 1) := by decide +kernel
theorem dX12_runsWith_2 : decode cX12_runsWith 2 = .ok (.putfield 68, 3) := by decide +kernel
theorem dX12_runsWith_5 : decode cX12_runsWith 5 = .ok (.aload_n 0, 1) := by decide +kernel
theorem dX12_runsWith_6 : decode cX12_runsWith 6 = .ok (.iload_n 3, 1) := by decide +kernel
theorem dX12_runsWith_7 : decode cX12_runsWith 7 = .ok (.putfield 216, 3) := by decide +kernel
theorem dX12_runsWith_10 : decode cX12_runsWith 10 = .ok (.aload_n 0, 1) := by decide +kernel
theorem dX12_runsWith_11 : decode cX12_runsWith 11 = .ok (.aload_n 0, 1) := by decide +kernel
theorem dX12_runsWith_12 : decode cX12_runsWith 12 = .ok (.getfield 33, 3) := by decide +kernel
theorem dX12_runsWith_15 : decode cX12_runsWith 15 = .ok (.iload_n 1, 1) := by decide +kernel
theorem dX12_runsWith_16 : decode cX12_runsWith 16 = .ok (.invokevirtual 223, 3) := by decide +kernel
theorem dX12_runsWith_19 : decode cX12_runsWith 19 = .ok (.istore 4, 2) := by decide +kernel
theorem dX12_runsWith_21 : decode cX12_runsWith 21 = .ok (.aload_n 0, 1) := by decide +kernel
theorem dX12_runsWith_22 : decode cX12_runsWith 22 = .ok (.iconst (-1), 1) := by decide +kernel
theorem dX12_runsWith_23 : decode cX12_runsWith 23 = .ok (.putfield 68, 3) := by decide +kernel
theorem dX12_runsWith_26 : decode cX12_runsWith 26 = .ok (.iload 4, 2) := by decide +kernel
theorem dX12_runsWith_28 : decode cX12_runsWith 28 = .ok (.ireturn, 1) := by decide +kernel
theorem dX12_isWeighed_0 : decode cX12_isWeighed 0 = .ok (.aload_n 0, 1) := by decide +kernel
theorem dX12_isWeighed_1 : decode cX12_isWeighed 1 = .ok (.iload_n 1, 1) := by decide +kernel
theorem dX12_isWeighed_2 : decode cX12_isWeighed 2 = .ok (.iload_n 2, 1) := by decide +kernel
theorem dX12_isWeighed_3 : decode cX12_isWeighed 3 = .ok (.invokevirtual 340, 3) := by decide +kernel
theorem dX12_isWeighed_6 : decode cX12_isWeighed 6 = .ok (.ifCond .eq 18, 3) := by decide +kernel
theorem dX12_isWeighed_9 : decode cX12_isWeighed 9 = .ok (.aload_n 0, 1) := by decide +kernel
theorem dX12_isWeighed_10 : decode cX12_isWeighed 10 = .ok (.iload_n 1, 1) := by decide +kernel
theorem dX12_isWeighed_11 : decode cX12_isWeighed 11 = .ok (.iload_n 2, 1) := by decide +kernel
theorem dX12_isWeighed_12 : decode cX12_isWeighed 12 = .ok (.iconst 0, 1) := by decide +kernel
theorem dX12_isWeighed_13 : decode cX12_isWeighed 13 = .ok (.invokevirtual 346, 3) := by decide +kernel
theorem dX12_isWeighed_16 : decode cX12_isWeighed 16 = .ok (.iconst 2, 1) := by decide +kernel
theorem dX12_isWeighed_17 : decode cX12_isWeighed 17 = .ok (.if_icmp .gt 7, 3) := by decide +kernel
theorem dX12_isWeighed_20 : decode cX12_isWeighed 20 = .ok (.iconst 1, 1) := by decide +kernel
theorem dX12_isWeighed_21 : decode cX12_isWeighed 21 = .ok (.goto 4, 3) := by decide +kernel
theorem dX12_isWeighed_24 : decode cX12_isWeighed 24 = .ok (.iconst 0, 1) := by decide +kernel
theorem dX12_isWeighed_25 : decode cX12_isWeighed 25 = .ok (.ireturn, 1) := by decide +kernel
theorem dX12_heaviest_0 : decode cX12_heaviest 0 = .ok (.aload_n 0, 1) := by decide +kernel
theorem dX12_heaviest_1 : decode cX12_heaviest 1 = .ok (.iconst 0, 1) := by decide +kernel
theorem dX12_heaviest_2 : decode cX12_heaviest 2 = .ok (.putfield 132, 3) := by decide +kernel
theorem dX12_heaviest_5 : decode cX12_heaviest 5 = .ok (.aload_n 0, 1) := by decide +kernel
theorem dX12_heaviest_6 : decode cX12_heaviest 6 = .ok (.iload_n 1, 1) := by decide +kernel
theorem dX12_heaviest_7 : decode cX12_heaviest 7 = .ok (.iload_n 2, 1) := by decide +kernel
theorem dX12_heaviest_8 : decode cX12_heaviest 8 = .ok (.invokevirtual 440, 3) := by decide +kernel
theorem dX12_heaviest_11 : decode cX12_heaviest 11 = .ok (.ifCond .ne 9, 3) := by decide +kernel
theorem dX12_heaviest_14 : decode cX12_heaviest 14 = .ok (.aload_n 0, 1) := by decide +kernel
theorem dX12_heaviest_15 : decode cX12_heaviest 15 = .ok (.iconst 1, 1) := by decide +kernel
theorem dX12_heaviest_16 : decode cX12_heaviest 16 = .ok (.invokevirtual 313, 3) := by decide +kernel
theorem dX12_heaviest_19 : decode cX12_heaviest 19 = .ok (.ireturn, 1) := by decide +kernel
theorem dX12_heaviest_20 : decode cX12_heaviest 20 = .ok (.iload_n 3, 1) := by decide +kernel
theorem dX12_heaviest_21 : decode cX12_heaviest 21 = .ok (.i2l, 1) := by decide +kernel
theorem dX12_heaviest_22 : decode cX12_heaviest 22 = .ok (.lconst 0, 1) := by decide +kernel
theorem dX12_heaviest_23 : decode cX12_heaviest 23 = .ok (.ldc2_w 208, 3) := by decide +kernel
theorem dX12_heaviest_26 : decode cX12_heaviest 26 = .ok (.invokestatic 166, 3) := by decide +kernel
theorem dX12_heaviest_29 : decode cX12_heaviest 29 = .ok (.ifCond .ne 9, 3) := by decide +kernel
