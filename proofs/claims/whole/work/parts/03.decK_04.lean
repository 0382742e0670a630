theorem dX5_keep_7 : decode cX5_keep 7 = .ok (.aload_n 0, 1) := by decide +kernel
theorem dX5_keep_8 : decode cX5_keep 8 = .ok (.getfield 19, 3) := by decide +kernel
theorem dX5_keep_11 : decode cX5_keep 11 = .ok (.astore_n 3, 1) := by decide +kernel
theorem dX5_keep_12 : decode cX5_keep 12 = .ok (.aload_n 3, 1) := by decide +kernel
theorem dX5_keep_13 : decode cX5_keep 13 = .ok (.ifnull 37, 3) := by decide +kernel
theorem dX5_keep_16 : decode cX5_keep 16 = .ok (.aload_n 0, 1) := by decide +kernel
theorem dX5_keep_17 : decode cX5_keep 17 = .ok (.aload_n 3, 1) := by decide +kernel
theorem dX5_keep_18 : decode cX5_keep 18 = .ok (.getfield 27, 3) := by decide +kernel
theorem dX5_keep_21 : decode cX5_keep 21 = .ok (.invokevirtual 32, 3) := by decide +kernel
theorem dX5_keep_24 : decode cX5_keep 24 = .ok (.ifCond .eq 18, 3) := by decide +kernel
theorem dX5_keep_27 : decode cX5_keep 27 = .ok (.aload_n 3, 1) := by decide +kernel
theorem dX5_keep_28 : decode cX5_keep 28 = .ok (.aload_n 1, 1) := by decide +kernel
theorem dX5_keep_29 : decode cX5_keep 29 = .ok (.invokevirtual 36, 3) := by decide +kernel
theorem dX5_keep_32 : decode cX5_keep 32 = .ok (.ifCond .eq 5, 3) := by decide +kernel
theorem dX5_keep_35 : decode cX5_keep 35 = .ok (.aload_n 3, 1) := by decide +kernel
theorem dX5_keep_36 : decode cX5_keep 36 = .ok (.areturn, 1) := by decide +kernel
theorem dX5_keep_37 : decode cX5_keep 37 = .ok (.aload_n 3, 1) := by decide +kernel
theorem dX5_keep_38 : decode cX5_keep 38 = .ok (.getfield 27, 3) := by decide +kernel
theorem dX5_keep_41 : decode cX5_keep 41 = .ok (.astore_n 2, 1) := by decide +kernel
theorem dX5_keep_42 : decode cX5_keep 42 = .ok (.aload_n 3, 1) := by decide +kernel
theorem dX5_keep_43 : decode cX5_keep 43 = .ok (.getfield 40, 3) := by decide +kernel
theorem dX5_keep_46 : decode cX5_keep 46 = .ok (.astore_n 3, 1) := by decide +kernel
theorem dX5_keep_47 : decode cX5_keep 47 = .ok (.goto (-35), 3) := by decide +kernel
theorem dX5_keep_50 : decode cX5_keep 50 = .ok (.aload_n 0, 1) := by decide +kernel
theorem dX5_keep_51 : decode cX5_keep 51 = .ok (.new 28, 3) := by decide +kernel
theorem dX5_keep_54 : decode cX5_keep 54 = .ok (.dup, 1) := by decide +kernel
theorem dX5_keep_55 : decode cX5_keep 55 = .ok (.aload_n 1, 1) := by decide +kernel
theorem dX5_keep_56 : decode cX5_keep 56 = .ok (.aload_n 2, 1) := by decide +kernel
theorem dX5_keep_57 : decode cX5_keep 57 = .ok (.ifnonnull 17, 3) := by decide +kernel
theorem dX5_keep_60 : decode cX5_keep 60 = .ok (.aload_n 0, 1) := by decide +kernel
theorem dX5_keep_61 : decode cX5_keep 61 = .ok (.getfield 11, 3) := by decide +kernel
theorem dX5_keep_64 : decode cX5_keep 64 = .ok (.aload_n 0, 1) := by decide +kernel
theorem dX5_keep_65 : decode cX5_keep 65 = .ok (.getfield 15, 3) := by decide +kernel
theorem dX5_keep_68 : decode cX5_keep 68 = .ok (.invokestatic 43, 3) := by decide +kernel
theorem dX5_keep_71 : decode cX5_keep 71 = .ok (.goto 4, 3) := by decide +kernel
theorem dX5_keep_74 : decode cX5_keep 74 = .ok (.aload_n 2, 1) := by decide +kernel
theorem dX5_keep_75 : decode cX5_keep 75 = .ok (.aload_n 0, 1) := by decide +kernel
theorem dX5_keep_76 : decode cX5_keep 76 = .ok (.getfield 19, 3) := by decide +kernel
theorem dX5_keep_79 : decode cX5_keep 79 = .ok (.invokespecial 49, 3) := by decide +kernel
theorem dX5_keep_82 : decode cX5_keep 82 = .ok (.putfield 19, 3) := by decide +kernel
theorem dX5_keep_85 : decode cX5_keep 85 = .ok (.aload_n 0, 1) := by decide +kernel
theorem dX5_keep_86 : decode cX5_keep 86 = .ok (.getfield 19, 3) := by decide +kernel
theorem dX5_keep_89 : decode cX5_keep 89 = .ok (.areturn, 1) := by decide +kernel
theorem dX5_write_0 : decode cX5_write 0 = .ok (.aload_n 0, 1) := by decide +kernel
theorem dX5_write_1 : decode cX5_write 1 = .ok (.getfield 11, 3) := by decide +kernel
theorem dX5_write_4 : decode cX5_write 4 = .ok (.arraylength, 1) := by decide +kernel
theorem dX5_write_5 : decode cX5_write 5 = .ok (.sipush 235, 3) := by decide +kernel
theorem dX5_write_8 : decode cX5_write 8 = .ok (.if_icmp .ge 12, 3) := by decide +kernel
theorem dX5_write_11 : decode cX5_write 11 = .ok (.aload_n 0, 1) := by decide +kernel
theorem dX5_write_12 : decode cX5_write 12 = .ok (.sipush 235, 3) := by decide +kernel
theorem dX5_write_15 : decode cX5_write 15 = .ok (.newarray .long, 2) := by decide +kernel
theorem dX5_write_17 : decode cX5_write 17 = .ok (.putfield 11, 3) := by decide +kernel
theorem dX5_write_20 : decode cX5_write 20 = .ok (.aload_n 0, 1) := by decide +kernel
theorem dX5_write_21 : decode cX5_write 21 = .ok (.getfield 11, 3) := by decide +kernel
theorem dX5_write_24 : decode cX5_write 24 = .ok (.lconst 0, 1) := by decide +kernel
theorem dX5_write_25 : decode cX5_write 25 = .ok (.invokestatic 52, 3) := by decide +kernel
theorem dX5_write_28 : decode cX5_write 28 = .ok (.iconst 0, 1) := by decide +kernel
theorem dX5_write_29 : decode cX5_write 29 = .ok (.istore_n 2, 1) := by decide +kernel
theorem dX5_write_30 : decode cX5_write 30 = .ok (.iconst 0, 1) := by decide +kernel
theorem dX5_write_31 : decode cX5_write 31 = .ok (.istore_n 3, 1) := by decide +kernel
theorem dX5_write_32 : decode cX5_write 32 = .ok (.iload_n 3, 1) := by decide +kernel
theorem dX5_write_33 : decode cX5_write 33 = .ok (.aload_n 1, 1) := by decide +kernel
theorem dX5_write_34 : decode cX5_write 34 = .ok (.getfield 56, 3) := by decide +kernel
theorem dX5_write_37 : decode cX5_write 37 = .ok (.if_icmp .ge 51, 3) := by decide +kernel
theorem dX5_write_40 : decode cX5_write 40 = .ok (.iload_n 2, 1) := by decide +kernel
theorem dX5_write_41 : decode cX5_write 41 = .ok (.iload_n 3, 1) := by decide +kernel
theorem dX5_write_42 : decode cX5_write 42 = .ok (.ifCond .ne 7, 3) := by decide +kernel
theorem dX5_write_45 : decode cX5_write 45 = .ok (.iconst 0, 1) := by decide +kernel
theorem dX5_write_46 : decode cX5_write 46 = .ok (.goto 16, 3) := by decide +kernel
theorem dX5_write_49 : decode cX5_write 49 = .ok (.aload_n 1, 1) := by decide +kernel
theorem dX5_write_50 : decode cX5_write 50 = .ok (.iload_n 3, 1) := by decide +kernel
theorem dX5_write_51 : decode cX5_write 51 = .ok (.invokevirtual 61, 3) := by decide +kernel
theorem dX5_write_54 : decode cX5_write 54 = .ok (.aload_n 1, 1) := by decide +kernel
theorem dX5_write_55 : decode cX5_write 55 = .ok (.iload_n 3, 1) := by decide +kernel
theorem dX5_write_56 : decode cX5_write 56 = .ok (.iconst 1, 1) := by decide +kernel
theorem dX5_write_57 : decode cX5_write 57 = .ok (.isub, 1) := by decide +kernel
theorem dX5_write_58 : decode cX5_write 58 = .ok (.invokevirtual 61, 3) := by decide +kernel
theorem dX5_write_61 : decode cX5_write 61 = .ok (.isub, 1) := by decide +kernel
theorem dX5_write_62 : decode cX5_write 62 = .ok (.iadd, 1) := by decide +kernel
theorem dX5_write_63 : decode cX5_write 63 = .ok (.istore_n 2, 1) := by decide +kernel
theorem dX5_write_64 : decode cX5_write 64 = .ok (.aload_n 0, 1) := by decide +kernel
theorem dX5_write_65 : decode cX5_write 65 = .ok (.iload_n 2, 1) := by decide +kernel
theorem dX5_write_66 : decode cX5_write 66 = .ok (.aload_n 1, 1) := by decide +kernel
theorem dX5_write_67 : decode cX5_write 67 = .ok (.iload_n 3, 1) := by decide +kernel
theorem dX5_write_68 : decode cX5_write 68 = .ok (.invokevirtual 65, 3) := by decide +kernel
theorem dX5_write_71 : decode cX5_write 71 = .ok (.invokevirtual 68, 3) := by decide +kernel
theorem dX5_write_74 : decode cX5_write 74 = .ok (.iload_n 2, 1) := by decide +kernel
theorem dX5_write_75 : decode cX5_write 75 = .ok (.aload_n 1, 1) := by decide +kernel
theorem dX5_write_76 : decode cX5_write 76 = .ok (.iload_n 3, 1) := by decide +kernel
theorem dX5_write_77 : decode cX5_write 77 = .ok (.invokevirtual 65, 3) := by decide +kernel
theorem dX5_write_80 : decode cX5_write 80 = .ok (.iadd, 1) := by decide +kernel
theorem dX5_write_81 : decode cX5_write 81 = .ok (.istore_n 2, 1) := by decide +kernel
theorem dX5_write_82 : decode cX5_write 82 = .ok (.iinc 3 1, 3) := by decide +kernel
theorem dX5_write_85 : decode cX5_write 85 = .ok (.goto (-53), 3) := by decide +kernel
theorem dX5_write_88 : decode cX5_write 88 = .ok (.aload_n 0, 1) := by decide +kernel
theorem dX5_write_89 : decode cX5_write 89 = .ok (.iload_n 2, 1) := by decide +kernel
theorem dX5_write_90 : decode cX5_write 90 = .ok (.bipush 64, 2) := by decide +kernel
theorem dX5_write_92 : decode cX5_write 92 = .ok (.iadd, 1) := by decide +kernel
theorem dX5_write_93 : decode cX5_write 93 = .ok (.iconst 1, 1) := by decide +kernel
theorem dX5_write_94 : decode cX5_write 94 = .ok (.isub, 1) := by decide +kernel
theorem dX5_write_95 : decode cX5_write 95 = .ok (.bipush 64, 2) := by decide +kernel
theorem dX5_write_97 : decode cX5_write 97 = .ok (.idiv, 1) := by decide +kernel
theorem dX5_write_98 : decode cX5_write 98 = .ok (.aload_n 0, 1) := by decide +kernel
theorem dX5_write_99 : decode cX5_write 99 = .ok (.getfield 11, 3) := by decide +kernel
theorem dX5_write_102 : decode cX5_write 102 = .ok (.arraylength, 1) := by decide +kernel
theorem dX5_write_103 : decode cX5_write 103 = .ok (.invokestatic 72, 3) := by decide +kernel
theorem dX5_write_106 : decode cX5_write 106 = .ok (.putfield 15, 3) := by decide +kernel
theorem dX5_write_109 : decode cX5_write 109 = .ok (.return_, 1) := by decide +kernel
theorem dX5_writeUnits_0 : decode cX5_writeUnits 0 = .ok (.iload_n 1, 1) := by decide +kernel
theorem dX5_writeUnits_1 : decode cX5_writeUnits 1 = .ok (.istore_n 3, 1) := by decide +kernel
theorem dX5_writeUnits_2 : decode cX5_writeUnits 2 = .ok (.iload_n 3, 1) := by decide +kernel
theorem dX5_writeUnits_3 : decode cX5_writeUnits 3 = .ok (.iload_n 1, 1) := by decide +kernel
theorem dX5_writeUnits_4 : decode cX5_writeUnits 4 = .ok (.iload_n 2, 1) := by decide +kernel
theorem dX5_writeUnits_5 : decode cX5_writeUnits 5 = .ok (.iadd, 1) := by decide +kernel
theorem dX5_writeUnits_6 : decode cX5_writeUnits 6 = .ok (.if_icmp .ge 46, 3) := by decide +kernel
theorem dX5_writeUnits_9 : decode cX5_writeUnits 9 = .ok (.iload_n 3, 1) := by decide +kernel
theorem dX5_writeUnits_10 : decode cX5_writeUnits 10 = .ok (.bipush 64, 2) := by decide +kernel
theorem dX5_writeUnits_12 : decode cX5_writeUnits 12 = .ok (.idiv, 1) := by decide +kernel
theorem dX5_writeUnits_13 : decode cX5_writeUnits 13 = .ok (.istore 4, 2) := by decide +kernel
theorem dX5_writeUnits_15 : decode cX5_writeUnits 15 = .ok (.iload 4, 2) := by decide +kernel
theorem dX5_writeUnits_17 : decode cX5_writeUnits 17 = .ok (.ifCond .lt 29, 3) := by decide +kernel
theorem dX5_writeUnits_20 : decode cX5_writeUnits 20 = .ok (.iload 4, 2) := by decide +kernel
theorem dX5_writeUnits_22 : decode cX5_writeUnits 22 = .ok (.aload_n 0, 1) := by decide +kernel
theorem dX5_writeUnits_23 : decode cX5_writeUnits 23 = .ok (.getfield 11, 3) := by decide +kernel
theorem dX5_writeUnits_26 : decode cX5_writeUnits 26 = .ok (.arraylength, 1) := by decide +kernel
theorem dX5_writeUnits_27 : decode cX5_writeUnits 27 = .ok (.if_icmp .ge 19, 3) := by decide +kernel
theorem dX5_writeUnits_30 : decode cX5_writeUnits 30 = .ok (.aload_n 0, 1) := by decide +kernel
theorem dX5_writeUnits_31 : decode cX5_writeUnits 31 = .ok (.getfield 11, 3) := by decide +kernel
theorem dX5_writeUnits_34 : decode cX5_writeUnits 34 = .ok (.iload 4, 2) := by decide +kernel
theorem dX5_writeUnits_36 : decode cX5_writeUnits 36 = .ok (.dup2, 1) := by decide +kernel
theorem dX5_writeUnits_37 : decode cX5_writeUnits 37 = .ok (.laload, 1) := by decide +kernel
theorem dX5_writeUnits_38 : decode cX5_writeUnits 38 = .ok (.lconst 1, 1) := by decide +kernel
theorem dX5_writeUnits_39 : decode cX5_writeUnits 39 = .ok (.iload_n 3, 1) := by decide +kernel
theorem dX5_writeUnits_40 : decode cX5_writeUnits 40 = .ok (.bipush 64, 2) := by decide +kernel
theorem dX5_writeUnits_42 : decode cX5_writeUnits 42 = .ok (.irem, 1) := by decide +kernel
theorem dX5_writeUnits_43 : decode cX5_writeUnits 43 = .ok (.lshl, 1) := by decide +kernel
theorem dX5_writeUnits_44 : decode cX5_writeUnits 44 = .ok (.lor, 1) := by decide +kernel
theorem dX5_writeUnits_45 : decode cX5_writeUnits 45 = .ok (.lastore, 1) := by decide +kernel
theorem dX5_writeUnits_46 : decode cX5_writeUnits 46 = .ok (.iinc 3 1, 3) := by decide +kernel
theorem dX5_writeUnits_49 : decode cX5_writeUnits 49 = .ok (.goto (-47), 3) := by decide +kernel
theorem dX5_writeUnits_52 : decode cX5_writeUnits 52 = .ok (.return_, 1) := by decide +kernel
theorem dX5_isWritten_0 : decode cX5_isWritten 0 = .ok (.aload_n 1, 1) := by decide +kernel
theorem dX5_isWritten_1 : decode cX5_isWritten 1 = .ok (.arraylength, 1) := by decide +kernel
theorem dX5_isWritten_2 : decode cX5_isWritten 2 = .ok (.aload_n 0, 1) := by decide +kernel
theorem dX5_isWritten_3 : decode cX5_isWritten 3 = .ok (.getfield 15, 3) := by decide +kernel
theorem dX5_isWritten_6 : decode cX5_isWritten 6 = .ok (.if_icmp .eq 5, 3) := by decide +kernel
theorem dX5_isWritten_9 : decode cX5_isWritten 9 = .ok (.iconst 0, 1) := by decide +kernel
theorem dX5_isWritten_10 : decode cX5_isWritten 10 = .ok (.ireturn, 1) := by decide +kernel
theorem dX5_isWritten_11 : decode cX5_isWritten 11 = .ok (.iconst 0, 1) := by decide +kernel
theorem dX5_isWritten_12 : decode cX5_isWritten 12 = .ok (.istore_n 2, 1) := by decide +kernel
theorem dX5_isWritten_13 : decode cX5_isWritten 13 = .ok (.iload_n 2, 1) := by decide +kernel
theorem dX5_isWritten_14 : decode cX5_isWritten 14 = .ok (.aload_n 0, 1) := by decide +kernel
theorem dX5_isWritten_15 : decode cX5_isWritten 15 = .ok (.getfield 15, 3) := by decide +kernel
theorem dX5_isWritten_18 : decode cX5_isWritten 18 = .ok (.if_icmp .ge 24, 3) := by decide +kernel
theorem dX5_isWritten_21 : decode cX5_isWritten 21 = .ok (.aload_n 1, 1) := by decide +kernel
theorem dX5_isWritten_22 : decode cX5_isWritten 22 = .ok (.iload_n 2, 1) := by decide +kernel
theorem dX5_isWritten_23 : decode cX5_isWritten 23 = .ok (.laload, 1) := by decide +kernel
theorem dX5_isWritten_24 : decode cX5_isWritten 24 = .ok (.aload_n 0, 1) := by decide +kernel
theorem dX5_isWritten_25 : decode cX5_isWritten 25 = .ok (.getfield 11, 3) := by decide +kernel
theorem dX5_isWritten_28 : decode cX5_isWritten 28 = .ok (.iload_n 2, 1) := by decide +kernel
theorem dX5_isWritten_29 : decode cX5_isWritten 29 = .ok (.laload, 1) := by decide +kernel
theorem dX5_isWritten_30 : decode cX5_isWritten 30 = .ok (.lcmp, 1) := by decide +kernel
theorem dX5_isWritten_31 : decode cX5_isWritten 31 = .ok (.ifCond .eq 5, 3) := by decide +kernel
theorem dX5_isWritten_34 : decode cX5_isWritten 34 = .ok (.iconst 0, 1) := by decide +kernel
theorem dX5_isWritten_35 : decode cX5_isWritten 35 = .ok (.ireturn, 1) := by decide +kernel
theorem dX5_isWritten_36 : decode cX5_isWritten 36 = .ok (.iinc 2 1, 3) := by decide +kernel
theorem dX5_isWritten_39 : decode cX5_isWritten 39 = .ok (.goto (-26), 3) := by decide +kernel
theorem dX5_isWritten_42 : decode cX5_isWritten 42 = .ok (.iconst 1, 1) := by decide +kernel
theorem dX5_isWritten_43 : decode cX5_isWritten 43 = .ok (.ireturn, 1) := by decide +kernel
theorem dX6_init_0 : decode cX6_init 0 = .ok (.aload_n 0, 1) := by decide +kernel
theorem dX6_init_1 : decode cX6_init 1 = .ok (.invokespecial 3, 3) := by decide +kernel
theorem dX6_init_4 : decode cX6_init 4 = .ok (.aload_n 0, 1) := by decide +kernel
theorem dX6_init_5 : decode cX6_init 5 = .ok (.iconst 4, 1) := by decide +kernel
theorem dX6_init_6 : decode cX6_init 6 = .ok (.anewarray 9, 3) := by decide +kernel
theorem dX6_init_9 : decode cX6_init 9 = .ok (.putfield 11, 3) := by decide +kernel
theorem dX6_init_12 : decode cX6_init 12 = .ok (.iconst 0, 1) := by decide +kernel
theorem dX6_init_13 : decode cX6_init 13 = .ok (.istore_n 1, 1) := by decide +kernel
theorem dX6_init_14 : decode cX6_init 14 = .ok (.iload_n 1, 1) := by decide +kernel
theorem dX6_init_15 : decode cX6_init 15 = .ok (.iconst 4, 1) := by decide +kernel
theorem dX6_init_16 : decode cX6_init 16 = .ok (.if_icmp .ge 22, 3) := by decide +kernel
theorem dX6_init_19 : decode cX6_init 19 = .ok (.aload_n 0, 1) := by decide +kernel
theorem dX6_init_20 : decode cX6_init 20 = .ok (.getfield 11, 3) := by decide +kernel
theorem dX6_init_23 : decode cX6_init 23 = .ok (.iload_n 1, 1) := by decide +kernel
theorem dX6_init_24 : decode cX6_init 24 = .ok (.new 9, 3) := by decide +kernel
theorem dX6_init_27 : decode cX6_init 27 = .ok (.dup, 1) := by decide +kernel
theorem dX6_init_28 : decode cX6_init 28 = .ok (.invokespecial 17, 3) := by decide +kernel
theorem dX6_init_31 : decode cX6_init 31 = .ok (.aastore, 1) := by decide +kernel
theorem dX6_init_32 : decode cX6_init 32 = .ok (.iinc 1 1, 3) := by decide +kernel
theorem dX6_init_35 : decode cX6_init 35 = .ok (.goto (-21), 3) := by decide +kernel
theorem dX6_init_38 : decode cX6_init 38 = .ok (.aload_n 0, 1) := by decide +kernel
theorem dX6_init_39 : decode cX6_init 39 = .ok (.bipush 40, 2) := by decide +kernel
theorem dX6_init_41 : decode cX6_init 41 = .ok (.newarray .int, 2) := by decide +kernel
theorem dX6_init_43 : decode cX6_init 43 = .ok (.putfield 18, 3) := by decide +kernel
theorem dX6_init_46 : decode cX6_init 46 = .ok (.aload_n 0, 1) := by decide +kernel
theorem dX6_init_47 : decode cX6_init 47 = .ok (.bipush 40, 2) := by decide +kernel
theorem dX6_init_49 : decode cX6_init 49 = .ok (.anewarray 9, 3) := by decide +kernel
theorem dX6_init_52 : decode cX6_init 52 = .ok (.putfield 22, 3) := by decide +kernel
theorem dX6_init_55 : decode cX6_init 55 = .ok (.aload_n 0, 1) := by decide +kernel
theorem dX6_init_56 : decode cX6_init 56 = .ok (.iconst 0, 1) := by decide +kernel
theorem dX6_init_57 : decode cX6_init 57 = .ok (.putfield 25, 3) := by decide +kernel
theorem dX6_init_60 : decode cX6_init 60 = .ok (.aload_n 0, 1) := by decide +kernel
theorem dX6_init_61 : decode cX6_init 61 = .ok (.bipush 8, 2) := by decide +kernel
theorem dX6_init_63 : decode cX6_init 63 = .ok (.newarray .int, 2) := by decide +kernel
theorem dX6_init_65 : decode cX6_init 65 = .ok (.putfield 29, 3) := by decide +kernel
theorem dX6_init_68 : decode cX6_init 68 = .ok (.aload_n 0, 1) := by decide +kernel
theorem dX6_init_69 : decode cX6_init 69 = .ok (.bipush 8, 2) := by decide +kernel
theorem dX6_init_71 : decode cX6_init 71 = .ok (.newarray .long, 2) := by decide +kernel
theorem dX6_init_73 : decode cX6_init 73 = .ok (.putfield 32, 3) := by decide +kernel
theorem dX6_init_76 : decode cX6_init 76 = .ok (.aload_n 0, 1) := by decide +kernel
theorem dX6_init_77 : decode cX6_init 77 = .ok (.iconst 0, 1) := by decide +kernel
theorem dX6_init_78 : decode cX6_init 78 = .ok (.putfield 36, 3) := by decide +kernel
theorem dX6_init_81 : decode cX6_init 81 = .ok (.aload_n 0, 1) := by decide +kernel
theorem dX6_init_82 : decode cX6_init 82 = .ok (.iconst 3, 1) := by decide +kernel
theorem dX6_init_83 : decode cX6_init 83 = .ok (.newarray .int, 2) := by decide +kernel
theorem dX6_init_85 : decode cX6_init 85 = .ok (.putfield 39, 3) := by decide +kernel
theorem dX6_init_88 : decode cX6_init 88 = .ok (.return_, 1) := by decide +kernel
theorem dX6_act_0 : decode cX6_act 0 = .ok (.iload_n 1, 1) := by decide +kernel
theorem dX6_act_1 : decode cX6_act 1 = .ok (.invokestatic 42, 3) := by decide +kernel
theorem dX6_act_4 : decode cX6_act 4 = .ok (.ifCond .ne 4, 3) := by decide +kernel
theorem dX6_act_7 : decode cX6_act 7 = .ok (.return_, 1) := by decide +kernel
theorem dX6_act_8 : decode cX6_act 8 = .ok (.aload_n 0, 1) := by decide +kernel
theorem dX6_act_9 : decode cX6_act 9 = .ok (.getfield 25, 3) := by decide +kernel
theorem dX6_act_12 : decode cX6_act 12 = .ok (.bipush 40, 2) := by decide +kernel
theorem dX6_act_14 : decode cX6_act 14 = .ok (.if_icmp .lt 7, 3) := by decide +kernel
theorem dX6_act_17 : decode cX6_act 17 = .ok (.aload_n 0, 1) := by decide +kernel
theorem dX6_act_18 : decode cX6_act 18 = .ok (.invokevirtual 46, 3) := by decide +kernel
theorem dX6_act_21 : decode cX6_act 21 = .ok (.aload_n 0, 1) := by decide +kernel
theorem dX6_act_22 : decode cX6_act 22 = .ok (.getfield 18, 3) := by decide +kernel
theorem dX6_act_25 : decode cX6_act 25 = .ok (.aload_n 0, 1) := by decide +kernel
theorem dX6_act_26 : decode cX6_act 26 = .ok (.getfield 25, 3) := by decide +kernel
theorem dX6_act_29 : decode cX6_act 29 = .ok (.iload_n 1, 1) := by decide +kernel
theorem dX6_act_30 : decode cX6_act 30 = .ok (.iastore, 1) := by decide +kernel
theorem dX6_act_31 : decode cX6_act 31 = .ok (.aload_n 0, 1) := by decide +kernel
theorem dX6_act_32 : decode cX6_act 32 = .ok (.aload_n 0, 1) := by decide +kernel
theorem dX6_act_33 : decode cX6_act 33 = .ok (.getfield 25, 3) := by decide +kernel
theorem dX6_act_36 : decode cX6_act 36 = .ok (.invokevirtual 49, 3) := by decide +kernel
theorem dX6_act_39 : decode cX6_act 39 = .ok (.aload_n 0, 1) := by decide +kernel
theorem dX6_act_40 : decode cX6_act 40 = .ok (.getfield 11, 3) := by decide +kernel
theorem dX6_act_43 : decode cX6_act 43 = .ok (.iload_n 1, 1) := by decide +kernel
theorem dX6_act_44 : decode cX6_act 44 = .ok (.aaload, 1) := by decide +kernel
theorem dX6_act_45 : decode cX6_act 45 = .ok (.invokevirtual 53, 3) := by decide +kernel
theorem dX6_act_48 : decode cX6_act 48 = .ok (.aload_n 0, 1) := by decide +kernel
theorem dX6_act_49 : decode cX6_act 49 = .ok (.dup, 1) := by decide +kernel
theorem dX6_act_50 : decode cX6_act 50 = .ok (.getfield 25, 3) := by decide +kernel
theorem dX6_act_53 : decode cX6_act 53 = .ok (.iconst 1, 1) := by decide +kernel
theorem dX6_act_54 : decode cX6_act 54 = .ok (.iadd, 1) := by decide +kernel
theorem dX6_act_55 : decode cX6_act 55 = .ok (.putfield 25, 3) := by decide +kernel
theorem dX6_act_58 : decode cX6_act 58 = .ok (.aload_n 0, 1) := by decide +kernel
theorem dX6_act_59 : decode cX6_act 59 = .ok (.getfield 11, 3) := by decide +kernel
theorem dX6_act_62 : decode cX6_act 62 = .ok (.iload_n 1, 1) := by decide +kernel
theorem dX6_act_63 : decode cX6_act 63 = .ok (.aaload, 1) := by decide +kernel
theorem dX6_act_64 : decode cX6_act 64 = .ok (.aload_n 2, 1) := by decide +kernel
theorem dX6_act_65 : decode cX6_act 65 = .ok (.invokevirtual 53, 3) := by decide +kernel
theorem dX6_act_68 : decode cX6_act 68 = .ok (.return_, 1) := by decide +kernel
theorem dX6_actChain_0 : decode cX6_actChain 0 = .ok (.aload_n 0, 1) := by decide +kernel
theorem dX6_actChain_1 : decode cX6_actChain 1 = .ok (.getfield 22, 3) := by decide +kernel
theorem dX6_actChain_4 : decode cX6_actChain 4 = .ok (.iload_n 1, 1) := by decide +kernel
theorem dX6_actChain_5 : decode cX6_actChain 5 = .ok (.aaload, 1) := by decide +kernel
theorem dX6_actChain_6 : decode cX6_actChain 6 = .ok (.ifnonnull 16, 3) := by decide +kernel
theorem dX6_actChain_9 : decode cX6_actChain 9 = .ok (.aload_n 0, 1) := by decide +kernel
theorem dX6_actChain_10 : decode cX6_actChain 10 = .ok (.getfield 22, 3) := by decide +kernel
theorem dX6_actChain_13 : decode cX6_actChain 13 = .ok (.iload_n 1, 1) := by decide +kernel
theorem dX6_actChain_14 : decode cX6_actChain 14 = .ok (.new 9, 3) := by decide +kernel
theorem dX6_actChain_17 : decode cX6_actChain 17 = .ok (.dup, 1) := by decide +kernel
theorem dX6_actChain_18 : decode cX6_actChain 18 = .ok (.invokespecial 17, 3) := by decide +kernel
theorem dX6_actChain_21 : decode cX6_actChain 21 = .ok (.aastore, 1) := by decide +kernel
theorem dX6_actChain_22 : decode cX6_actChain 22 = .ok (.aload_n 0, 1) := by decide +kernel
theorem dX6_actChain_23 : decode cX6_actChain 23 = .ok (.getfield 22, 3) := by decide +kernel
theorem dX6_actChain_26 : decode cX6_actChain 26 = .ok (.iload_n 1, 1) := by decide +kernel
theorem dX6_actChain_27 : decode cX6_actChain 27 = .ok (.aaload, 1) := by decide +kernel
theorem dX6_actChain_28 : decode cX6_actChain 28 = .ok (.areturn, 1) := by decide +kernel
theorem dX6_dropOldestAct_0 : decode cX6_dropOldestAct 0 = .ok (.aload_n 0, 1) := by decide +kernel
theorem dX6_dropOldestAct_1 : decode cX6_dropOldestAct 1 = .ok (.iconst 0, 1) := by decide +kernel
theorem dX6_dropOldestAct_2 : decode cX6_dropOldestAct 2 = .ok (.invokevirtual 49, 3) := by decide +kernel
theorem dX6_dropOldestAct_5 : decode cX6_dropOldestAct 5 = .ok (.astore_n 1, 1) := by decide +kernel
theorem dX6_dropOldestAct_6 : decode cX6_dropOldestAct 6 = .ok (.iconst 1, 1) := by decide +kernel
theorem dX6_dropOldestAct_7 : decode cX6_dropOldestAct 7 = .ok (.istore_n 2, 1) := by decide +kernel
theorem dX6_dropOldestAct_8 : decode cX6_dropOldestAct 8 = .ok (.iload_n 2, 1) := by decide +kernel
theorem dX6_dropOldestAct_9 : decode cX6_dropOldestAct 9 = .ok (.bipush 40, 2) := by decide +kernel
theorem dX6_dropOldestAct_11 : decode cX6_dropOldestAct 11 = .ok (.if_icmp .ge 37, 3) := by decide +kernel
theorem dX6_dropOldestAct_14 : decode cX6_dropOldestAct 14 = .ok (.aload_n 0, 1) := by decide +kernel
theorem dX6_dropOldestAct_15 : decode cX6_dropOldestAct 15 = .ok (.getfield 18, 3) := by decide +kernel
theorem dX6_dropOldestAct_18 : decode cX6_dropOldestAct 18 = .ok (.iload_n 2, 1) := by decide +kernel
theorem dX6_dropOldestAct_19 : decode cX6_dropOldestAct 19 = .ok (.iconst 1, 1) := by decide +kernel
theorem dX6_dropOldestAct_20 : decode cX6_dropOldestAct 20 = .ok (.isub, 1) := by decide +kernel
theorem dX6_dropOldestAct_21 : decode cX6_dropOldestAct 21 = .ok (.aload_n 0, 1) := by decide +kernel
theorem dX6_dropOldestAct_22 : decode cX6_dropOldestAct 22 = .ok (.getfield 18, 3) := by decide +kernel
theorem dX6_dropOldestAct_25 : decode cX6_dropOldestAct 25 = .ok (.iload_n 2, 1) := by decide +kernel
theorem dX6_dropOldestAct_26 : decode cX6_dropOldestAct 26 = .ok (.iaload, 1) := by decide +kernel
theorem dX6_dropOldestAct_27 : decode cX6_dropOldestAct 27 = .ok (.iastore, 1) := by decide +kernel
theorem dX6_dropOldestAct_28 : decode cX6_dropOldestAct 28 = .ok (.aload_n 0, 1) := by decide +kernel
theorem dX6_dropOldestAct_29 : decode cX6_dropOldestAct 29 = .ok (.getfield 22, 3) := by decide +kernel
theorem dX6_dropOldestAct_32 : decode cX6_dropOldestAct 32 = .ok (.iload_n 2, 1) := by decide +kernel
theorem dX6_dropOldestAct_33 : decode cX6_dropOldestAct 33 = .ok (.iconst 1, 1) := by decide +kernel
theorem dX6_dropOldestAct_34 : decode cX6_dropOldestAct 34 = .ok (.isub, 1) := by decide +kernel
theorem dX6_dropOldestAct_35 : decode cX6_dropOldestAct 35 = .ok (.aload_n 0, 1) := by decide +kernel
theorem dX6_dropOldestAct_36 : decode cX6_dropOldestAct 36 = .ok (.getfield 22, 3) := by decide +kernel
theorem dX6_dropOldestAct_39 : decode cX6_dropOldestAct 39 = .ok (.iload_n 2, 1) := by decide +kernel
theorem dX6_dropOldestAct_40 : decode cX6_dropOldestAct 40 = .ok (.aaload, 1) := by decide +kernel
theorem dX6_dropOldestAct_41 : decode cX6_dropOldestAct 41 = .ok (.aastore, 1) := by decide +kernel
theorem dX6_dropOldestAct_42 : decode cX6_dropOldestAct 42 = .ok (.iinc 2 1, 3) := by decide +kernel
theorem dX6_dropOldestAct_45 : decode cX6_dropOldestAct 45 = .ok (.goto (-37), 3) := by decide +kernel
theorem dX6_dropOldestAct_48 : decode cX6_dropOldestAct 48 = .ok (.aload_n 0, 1) := by decide +kernel
theorem dX6_dropOldestAct_49 : decode cX6_dropOldestAct 49 = .ok (.getfield 22, 3) := by decide +kernel
theorem dX6_dropOldestAct_52 : decode cX6_dropOldestAct 52 = .ok (.bipush 39, 2) := by decide +kernel
theorem dX6_dropOldestAct_54 : decode cX6_dropOldestAct 54 = .ok (.aload_n 1, 1) := by decide +kernel
theorem dX6_dropOldestAct_55 : decode cX6_dropOldestAct 55 = .ok (.aastore, 1) := by decide +kernel
theorem dX6_dropOldestAct_56 : decode cX6_dropOldestAct 56 = .ok (.aload_n 0, 1) := by decide +kernel
theorem dX6_dropOldestAct_57 : decode cX6_dropOldestAct 57 = .ok (.bipush 39, 2) := by decide +kernel
theorem dX6_dropOldestAct_59 : decode cX6_dropOldestAct 59 = .ok (.putfield 25, 3) := by decide +kernel
theorem dX6_dropOldestAct_62 : decode cX6_dropOldestAct 62 = .ok (.return_, 1) := by decide +kernel
theorem dX6_takeBack_0 : decode cX6_takeBack 0 = .ok (.aload_n 0, 1) := by decide +kernel
theorem dX6_takeBack_1 : decode cX6_takeBack 1 = .ok (.getfield 25, 3) := by decide +kernel
theorem dX6_takeBack_4 : decode cX6_takeBack 4 = .ok (.ifCond .le 29, 3) := by decide +kernel
theorem dX6_takeBack_7 : decode cX6_takeBack 7 = .ok (.aload_n 0, 1) := by decide +kernel
theorem dX6_takeBack_8 : decode cX6_takeBack 8 = .ok (.getfield 25, 3) := by decide +kernel
theorem dX6_takeBack_11 : decode cX6_takeBack 11 = .ok (.bipush 40, 2) := by decide +kernel
theorem dX6_takeBack_13 : decode cX6_takeBack 13 = .ok (.if_icmp .gt 20, 3) := by decide +kernel
theorem dX6_takeBack_16 : decode cX6_takeBack 16 = .ok (.aload_n 0, 1) := by decide +kernel
theorem dX6_takeBack_17 : decode cX6_takeBack 17 = .ok (.getfield 18, 3) := by decide +kernel
theorem dX6_takeBack_20 : decode cX6_takeBack 20 = .ok (.aload_n 0, 1) := by decide +kernel
theorem dX6_takeBack_21 : decode cX6_takeBack 21 = .ok (.getfield 25, 3) := by decide +kernel
theorem dX6_takeBack_24 : decode cX6_takeBack 24 = .ok (.iconst 1, 1) := by decide +kernel
theorem dX6_takeBack_25 : decode cX6_takeBack 25 = .ok (.isub, 1) := by decide +kernel
theorem dX6_takeBack_26 : decode cX6_takeBack 26 = .ok (.iaload, 1) := by decide +kernel
theorem dX6_takeBack_27 : decode cX6_takeBack 27 = .ok (.invokestatic 42, 3) := by decide +kernel
theorem dX6_takeBack_30 : decode cX6_takeBack 30 = .ok (.ifCond .ne 5, 3) := by decide +kernel
theorem dX6_takeBack_33 : decode cX6_takeBack 33 = .ok (.iconst (-1), 1) := by decide +kernel
theorem dX6_takeBack_34 : decode cX6_takeBack 34 = .ok (.ireturn, 1) := by decide +kernel
theorem dX6_takeBack_35 : decode cX6_takeBack 35 = .ok (.aload_n 0, 1) := by decide +kernel
theorem dX6_takeBack_36 : decode cX6_takeBack 36 = .ok (.dup, 1) := by decide +kernel
theorem dX6_takeBack_37 : decode cX6_takeBack 37 = .ok (.getfield 25, 3) := by decide +kernel
theorem dX6_takeBack_40 : decode cX6_takeBack 40 = .ok (.iconst 1, 1) := by decide +kernel
theorem dX6_takeBack_41 : decode cX6_takeBack 41 = .ok (.isub, 1) := by decide +kernel
theorem dX6_takeBack_42 : decode cX6_takeBack 42 = .ok (.putfield 25, 3) := by decide +kernel
theorem dX6_takeBack_45 : decode cX6_takeBack 45 = .ok (.aload_n 0, 1) := by decide +kernel
theorem dX6_takeBack_46 : decode cX6_takeBack 46 = .ok (.getfield 18, 3) := by decide +kernel
theorem dX6_takeBack_49 : decode cX6_takeBack 49 = .ok (.aload_n 0, 1) := by decide +kernel
theorem dX6_takeBack_50 : decode cX6_takeBack 50 = .ok (.getfield 25, 3) := by decide +kernel
theorem dX6_takeBack_53 : decode cX6_takeBack 53 = .ok (.iaload, 1) := by decide +kernel
theorem dX6_takeBack_54 : decode cX6_takeBack 54 = .ok (.istore_n 1, 1) := by decide +kernel
theorem dX6_takeBack_55 : decode cX6_takeBack 55 = .ok (.aload_n 0, 1) := by decide +kernel
theorem dX6_takeBack_56 : decode cX6_takeBack 56 = .ok (.getfield 11, 3) := by decide +kernel
theorem dX6_takeBack_59 : decode cX6_takeBack 59 = .ok (.iload_n 1, 1) := by decide +kernel
theorem dX6_takeBack_60 : decode cX6_takeBack 60 = .ok (.aaload, 1) := by decide +kernel
theorem dX6_takeBack_61 : decode cX6_takeBack 61 = .ok (.aload_n 0, 1) := by decide +kernel
theorem dX6_takeBack_62 : decode cX6_takeBack 62 = .ok (.aload_n 0, 1) := by decide +kernel
theorem dX6_takeBack_63 : decode cX6_takeBack 63 = .ok (.getfield 25, 3) := by decide +kernel
theorem dX6_takeBack_66 : decode cX6_takeBack 66 = .ok (.invokevirtual 49, 3) := by decide +kernel
theorem dX6_takeBack_69 : decode cX6_takeBack 69 = .ok (.invokevirtual 53, 3) := by decide +kernel
theorem dX6_takeBack_72 : decode cX6_takeBack 72 = .ok (.iload_n 1, 1) := by decide +kernel
theorem dX6_takeBack_73 : decode cX6_takeBack 73 = .ok (.ireturn, 1) := by decide +kernel
theorem dX6_holdsNotes_0 : decode cX6_holdsNotes 0 = .ok (.iconst 0, 1) := by decide +kernel
theorem dX6_holdsNotes_1 : decode cX6_holdsNotes 1 = .ok (.istore_n 2, 1) := by decide +kernel
theorem dX6_holdsNotes_2 : decode cX6_holdsNotes 2 = .ok (.iload_n 2, 1) := by decide +kernel
theorem dX6_holdsNotes_3 : decode cX6_holdsNotes 3 = .ok (.aload_n 0, 1) := by decide +kernel
theorem dX6_holdsNotes_4 : decode cX6_holdsNotes 4 = .ok (.getfield 36, 3) := by decide +kernel
theorem dX6_holdsNotes_7 : decode cX6_holdsNotes 7 = .ok (.if_icmp .ge 37, 3) := by decide +kernel
theorem dX6_holdsNotes_10 : decode cX6_holdsNotes 10 = .ok (.iload_n 2, 1) := by decide +kernel
theorem dX6_holdsNotes_11 : decode cX6_holdsNotes 11 = .ok (.bipush 8, 2) := by decide +kernel
theorem dX6_holdsNotes_13 : decode cX6_holdsNotes 13 = .ok (.if_icmp .ge 31, 3) := by decide +kernel
theorem dX6_holdsNotes_16 : decode cX6_holdsNotes 16 = .ok (.aload_n 1, 1) := by decide +kernel
theorem dX6_holdsNotes_17 : decode cX6_holdsNotes 17 = .ok (.aload_n 0, 1) := by decide +kernel
theorem dX6_holdsNotes_18 : decode cX6_holdsNotes 18 = .ok (.getfield 29, 3) := by decide +kernel
theorem dX6_holdsNotes_21 : decode cX6_holdsNotes 21 = .ok (.iload_n 2, 1) := by decide +kernel
theorem dX6_holdsNotes_22 : decode cX6_holdsNotes 22 = .ok (.iaload, 1) := by decide +kernel
theorem dX6_holdsNotes_23 : decode cX6_holdsNotes 23 = .ok (.invokevirtual 57, 3) := by decide +kernel
theorem dX6_holdsNotes_26 : decode cX6_holdsNotes 26 = .ok (.aload_n 0, 1) := by decide +kernel
theorem dX6_holdsNotes_27 : decode cX6_holdsNotes 27 = .ok (.getfield 32, 3) := by decide +kernel
theorem dX6_holdsNotes_30 : decode cX6_holdsNotes 30 = .ok (.iload_n 2, 1) := by decide +kernel
theorem dX6_holdsNotes_31 : decode cX6_holdsNotes 31 = .ok (.laload, 1) := by decide +kernel
theorem dX6_holdsNotes_32 : decode cX6_holdsNotes 32 = .ok (.lcmp, 1) := by decide +kernel
theorem dX6_holdsNotes_33 : decode cX6_holdsNotes 33 = .ok (.ifCond .eq 5, 3) := by decide +kernel
theorem dX6_holdsNotes_36 : decode cX6_holdsNotes 36 = .ok (.iconst 0, 1) := by decide +kernel
theorem dX6_holdsNotes_37 : decode cX6_holdsNotes 37 = .ok (.ireturn, 1) := by decide +kernel
theorem dX6_holdsNotes_38 : decode cX6_holdsNotes 38 = .ok (.iinc 2 1, 3) := by decide +kernel
theorem dX6_holdsNotes_41 : decode cX6_holdsNotes 41 = .ok (.goto (-39), 3) := by decide +kernel
theorem dX6_holdsNotes_44 : decode cX6_holdsNotes 44 = .ok (.iconst 1, 1) := by decide +kernel
theorem dX6_holdsNotes_45 : decode cX6_holdsNotes 45 = .ok (.ireturn, 1) := by decide +kernel
theorem dX6_take_0 : decode cX6_take 0 = .ok (.iconst 0, 1) := by decide +kernel
theorem dX6_take_1 : decode cX6_take 1 = .ok (.istore_n 2, 1) := by decide +kernel
theorem dX6_take_2 : decode cX6_take 2 = .ok (.iload_n 2, 1) := by decide +kernel
theorem dX6_take_3 : decode cX6_take 3 = .ok (.iconst 4, 1) := by decide +kernel
theorem dX6_take_4 : decode cX6_take 4 = .ok (.if_icmp .ge 24, 3) := by decide +kernel
theorem dX6_take_7 : decode cX6_take 7 = .ok (.aload_n 0, 1) := by decide +kernel
theorem dX6_take_8 : decode cX6_take 8 = .ok (.getfield 11, 3) := by decide +kernel
theorem dX6_take_11 : decode cX6_take 11 = .ok (.iload_n 2, 1) := by decide +kernel
theorem dX6_take_12 : decode cX6_take 12 = .ok (.aaload, 1) := by decide +kernel
theorem dX6_take_13 : decode cX6_take 13 = .ok (.aload_n 1, 1) := by decide +kernel
theorem dX6_take_14 : decode cX6_take 14 = .ok (.getfield 11, 3) := by decide +kernel
theorem dX6_take_17 : decode cX6_take 17 = .ok (.iload_n 2, 1) := by decide +kernel
theorem dX6_take_18 : decode cX6_take 18 = .ok (.aaload, 1) := by decide +kernel
theorem dX6_take_19 : decode cX6_take 19 = .ok (.invokevirtual 53, 3) := by decide +kernel
theorem dX6_take_22 : decode cX6_take 22 = .ok (.iinc 2 1, 3) := by decide +kernel
theorem dX6_take_25 : decode cX6_take 25 = .ok (.goto (-23), 3) := by decide +kernel
theorem dX6_take_28 : decode cX6_take 28 = .ok (.iconst 0, 1) := by decide +kernel
theorem dX6_take_29 : decode cX6_take 29 = .ok (.istore_n 2, 1) := by decide +kernel
theorem dX6_take_30 : decode cX6_take 30 = .ok (.iload_n 2, 1) := by decide +kernel
theorem dX6_take_31 : decode cX6_take 31 = .ok (.aload_n 1, 1) := by decide +kernel
theorem dX6_take_32 : decode cX6_take 32 = .ok (.getfield 25, 3) := by decide +kernel
theorem dX6_take_35 : decode cX6_take 35 = .ok (.if_icmp .ge 40, 3) := by decide +kernel
theorem dX6_take_38 : decode cX6_take 38 = .ok (.iload_n 2, 1) := by decide +kernel
theorem dX6_take_39 : decode cX6_take 39 = .ok (.bipush 40, 2) := by decide +kernel
theorem dX6_take_41 : decode cX6_take 41 = .ok (.if_icmp .ge 34, 3) := by decide +kernel
theorem dX6_take_44 : decode cX6_take 44 = .ok (.aload_n 0, 1) := by decide +kernel
theorem dX6_take_45 : decode cX6_take 45 = .ok (.getfield 18, 3) := by decide +kernel
theorem dX6_take_48 : decode cX6_take 48 = .ok (.iload_n 2, 1) := by decide +kernel
theorem dX6_take_49 : decode cX6_take 49 = .ok (.aload_n 1, 1) := by decide +kernel
theorem dX6_take_50 : decode cX6_take 50 = .ok (.getfield 18, 3) := by decide +kernel
theorem dX6_take_53 : decode cX6_take 53 = .ok (.iload_n 2, 1) := by decide +kernel
theorem dX6_take_54 : decode cX6_take 54 = .ok (.iaload, 1) := by decide +kernel
theorem dX6_take_55 : decode cX6_take 55 = .ok (.iastore, 1) := by decide +kernel
theorem dX6_take_56 : decode cX6_take 56 = .ok (.aload_n 0, 1) := by decide +kernel
theorem dX6_take_57 : decode cX6_take 57 = .ok (.iload_n 2, 1) := by decide +kernel
theorem dX6_take_58 : decode cX6_take 58 = .ok (.invokevirtual 49, 3) := by decide +kernel
theorem dX6_take_61 : decode cX6_take 61 = .ok (.aload_n 1, 1) := by decide +kernel
theorem dX6_take_62 : decode cX6_take 62 = .ok (.iload_n 2, 1) := by decide +kernel
theorem dX6_take_63 : decode cX6_take 63 = .ok (.invokevirtual 49, 3) := by decide +kernel
theorem dX6_take_66 : decode cX6_take 66 = .ok (.invokevirtual 53, 3) := by decide +kernel
theorem dX6_take_69 : decode cX6_take 69 = .ok (.iinc 2 1, 3) := by decide +kernel
theorem dX6_take_72 : decode cX6_take 72 = .ok (.goto (-42), 3) := by decide +kernel
theorem dX6_take_75 : decode cX6_take 75 = .ok (.aload_n 0, 1) := by decide +kernel
theorem dX6_take_76 : decode cX6_take 76 = .ok (.aload_n 1, 1) := by decide +kernel
theorem dX6_take_77 : decode cX6_take 77 = .ok (.getfield 25, 3) := by decide +kernel
theorem dX6_take_80 : decode cX6_take 80 = .ok (.putfield 25, 3) := by decide +kernel
theorem dX6_take_83 : decode cX6_take 83 = .ok (.iconst 0, 1) := by decide +kernel
theorem dX6_take_84 : decode cX6_take 84 = .ok (.istore_n 2, 1) := by decide +kernel
theorem dX6_take_85 : decode cX6_take 85 = .ok (.iload_n 2, 1) := by decide +kernel
theorem dX6_take_86 : decode cX6_take 86 = .ok (.bipush 8, 2) := by decide +kernel
theorem dX6_take_88 : decode cX6_take 88 = .ok (.if_icmp .ge 33, 3) := by decide +kernel
theorem dX6_take_91 : decode cX6_take 91 = .ok (.aload_n 0, 1) := by decide +kernel
theorem dX6_take_92 : decode cX6_take 92 = .ok (.getfield 29, 3) := by decide +kernel
theorem dX6_take_95 : decode cX6_take 95 = .ok (.iload_n 2, 1) := by decide +kernel
theorem dX6_take_96 : decode cX6_take 96 = .ok (.aload_n 1, 1) := by decide +kernel
theorem dX6_take_97 : decode cX6_take 97 = .ok (.getfield 29, 3) := by decide +kernel
theorem dX6_take_100 : decode cX6_take 100 = .ok (.iload_n 2, 1) := by decide +kernel
theorem dX6_take_101 : decode cX6_take 101 = .ok (.iaload, 1) := by decide +kernel
theorem dX6_take_102 : decode cX6_take 102 = .ok (.iastore, 1) := by decide +kernel
theorem dX6_take_103 : decode cX6_take 103 = .ok (.aload_n 0, 1) := by decide +kernel
theorem dX6_take_104 : decode cX6_take 104 = .ok (.getfield 32, 3) := by decide +kernel
theorem dX6_take_107 : decode cX6_take 107 = .ok (.iload_n 2, 1) := by decide +kernel
theorem dX6_take_108 : decode cX6_take 108 = .ok (.aload_n 1, 1) := by decide +kernel
theorem dX6_take_109 : decode cX6_take 109 = .ok (.getfield 32, 3) := by decide +kernel
theorem dX6_take_112 : decode cX6_take 112 = .ok (.iload_n 2, 1) := by decide +kernel
theorem dX6_take_113 : decode cX6_take 113 = .ok (.laload, 1) := by decide +kernel
theorem dX6_take_114 : decode cX6_take 114 = .ok (.lastore, 1) := by decide +kernel
theorem dX6_take_115 : decode cX6_take 115 = .ok (.iinc 2 1, 3) := by decide +kernel
theorem dX6_take_118 : decode cX6_take 118 = .ok (.goto (-33), 3) := by decide +kernel
theorem dX6_take_121 : decode cX6_take 121 = .ok (.aload_n 0, 1) := by decide +kernel
theorem dX6_take_122 : decode cX6_take 122 = .ok (.aload_n 1, 1) := by decide +kernel
