theorem dX2_becomeKink_1 : decode cX2_becomeKink 1 = .ok (.iconst 1, 1) := by decide +kernel
theorem dX2_becomeKink_2 : decode cX2_becomeKink 2 = .ok (.invokevirtual 33, 3) := by decide +kernel
theorem dX2_becomeKink_5 : decode cX2_becomeKink 5 = .ok (.aload_n 0, 1) := by decide +kernel
theorem dX2_becomeKink_6 : decode cX2_becomeKink 6 = .ok (.iload_n 1, 1) := by decide +kernel
theorem dX2_becomeKink_7 : decode cX2_becomeKink 7 = .ok (.iload_n 2, 1) := by decide +kernel
theorem dX2_becomeKink_8 : decode cX2_becomeKink 8 = .ok (.invokevirtual 37, 3) := by decide +kernel
theorem dX2_becomeKink_11 : decode cX2_becomeKink 11 = .ok (.aload_n 0, 1) := by decide +kernel
theorem dX2_becomeKink_12 : decode cX2_becomeKink 12 = .ok (.iload_n 3, 1) := by decide +kernel
theorem dX2_becomeKink_13 : decode cX2_becomeKink 13 = .ok (.putfield 19, 3) := by decide +kernel
theorem dX2_becomeKink_16 : decode cX2_becomeKink 16 = .ok (.return_, 1) := by decide +kernel
theorem dX2_take_0 : decode cX2_take 0 = .ok (.aload_n 0, 1) := by decide +kernel
theorem dX2_take_1 : decode cX2_take 1 = .ok (.aload_n 1, 1) := by decide +kernel
theorem dX2_take_2 : decode cX2_take 2 = .ok (.getfield 15, 3) := by decide +kernel
theorem dX2_take_5 : decode cX2_take 5 = .ok (.invokevirtual 33, 3) := by decide +kernel
theorem dX2_take_8 : decode cX2_take 8 = .ok (.aload_n 0, 1) := by decide +kernel
theorem dX2_take_9 : decode cX2_take 9 = .ok (.aload_n 1, 1) := by decide +kernel
theorem dX2_take_10 : decode cX2_take 10 = .ok (.getfield 15, 3) := by decide +kernel
theorem dX2_take_13 : decode cX2_take 13 = .ok (.aload_n 1, 1) := by decide +kernel
theorem dX2_take_14 : decode cX2_take 14 = .ok (.getfield 11, 3) := by decide +kernel
theorem dX2_take_17 : decode cX2_take 17 = .ok (.arraylength, 1) := by decide +kernel
theorem dX2_take_18 : decode cX2_take 18 = .ok (.aload_n 0, 1) := by decide +kernel
theorem dX2_take_19 : decode cX2_take 19 = .ok (.getfield 11, 3) := by decide +kernel
theorem dX2_take_22 : decode cX2_take 22 = .ok (.arraylength, 1) := by decide +kernel
theorem dX2_take_23 : decode cX2_take 23 = .ok (.invokestatic 41, 3) := by decide +kernel
theorem dX2_take_26 : decode cX2_take 26 = .ok (.invokestatic 41, 3) := by decide +kernel
theorem dX2_take_29 : decode cX2_take 29 = .ok (.putfield 15, 3) := by decide +kernel
theorem dX2_take_32 : decode cX2_take 32 = .ok (.aload_n 1, 1) := by decide +kernel
theorem dX2_take_33 : decode cX2_take 33 = .ok (.getfield 11, 3) := by decide +kernel
theorem dX2_take_36 : decode cX2_take 36 = .ok (.iconst 0, 1) := by decide +kernel
theorem dX2_take_37 : decode cX2_take 37 = .ok (.aload_n 0, 1) := by decide +kernel
theorem dX2_take_38 : decode cX2_take 38 = .ok (.getfield 11, 3) := by decide +kernel
theorem dX2_take_41 : decode cX2_take 41 = .ok (.iconst 0, 1) := by decide +kernel
theorem dX2_take_42 : decode cX2_take 42 = .ok (.aload_n 0, 1) := by decide +kernel
theorem dX2_take_43 : decode cX2_take 43 = .ok (.getfield 15, 3) := by decide +kernel
theorem dX2_take_46 : decode cX2_take 46 = .ok (.invokestatic 47, 3) := by decide +kernel
theorem dX2_take_49 : decode cX2_take 49 = .ok (.aload_n 0, 1) := by decide +kernel
theorem dX2_take_50 : decode cX2_take 50 = .ok (.aload_n 1, 1) := by decide +kernel
theorem dX2_take_51 : decode cX2_take 51 = .ok (.getfield 19, 3) := by decide +kernel
theorem dX2_take_54 : decode cX2_take 54 = .ok (.putfield 19, 3) := by decide +kernel
theorem dX2_take_57 : decode cX2_take 57 = .ok (.aload_n 0, 1) := by decide +kernel
theorem dX2_take_58 : decode cX2_take 58 = .ok (.aload_n 1, 1) := by decide +kernel
theorem dX2_take_59 : decode cX2_take 59 = .ok (.getfield 22, 3) := by decide +kernel
theorem dX2_take_62 : decode cX2_take 62 = .ok (.putfield 22, 3) := by decide +kernel
theorem dX2_take_65 : decode cX2_take 65 = .ok (.aload_n 0, 1) := by decide +kernel
theorem dX2_take_66 : decode cX2_take 66 = .ok (.aload_n 1, 1) := by decide +kernel
theorem dX2_take_67 : decode cX2_take 67 = .ok (.getfield 25, 3) := by decide +kernel
theorem dX2_take_70 : decode cX2_take 70 = .ok (.putfield 25, 3) := by decide +kernel
theorem dX2_take_73 : decode cX2_take 73 = .ok (.return_, 1) := by decide +kernel
theorem dX2_valueAt_0 : decode cX2_valueAt 0 = .ok (.aload_n 0, 1) := by decide +kernel
theorem dX2_valueAt_1 : decode cX2_valueAt 1 = .ok (.getfield 25, 3) := by decide +kernel
theorem dX2_valueAt_4 : decode cX2_valueAt 4 = .ok (.lstore_n 2, 1) := by decide +kernel
theorem dX2_valueAt_5 : decode cX2_valueAt 5 = .ok (.aload_n 0, 1) := by decide +kernel
theorem dX2_valueAt_6 : decode cX2_valueAt 6 = .ok (.getfield 19, 3) := by decide +kernel
theorem dX2_valueAt_9 : decode cX2_valueAt 9 = .ok (.istore 4, 2) := by decide +kernel
theorem dX2_valueAt_11 : decode cX2_valueAt 11 = .ok (.iconst 0, 1) := by decide +kernel
theorem dX2_valueAt_12 : decode cX2_valueAt 12 = .ok (.istore 5, 2) := by decide +kernel
theorem dX2_valueAt_14 : decode cX2_valueAt 14 = .ok (.iload 5, 2) := by decide +kernel
theorem dX2_valueAt_16 : decode cX2_valueAt 16 = .ok (.aload_n 0, 1) := by decide +kernel
theorem dX2_valueAt_17 : decode cX2_valueAt 17 = .ok (.getfield 15, 3) := by decide +kernel
theorem dX2_valueAt_20 : decode cX2_valueAt 20 = .ok (.if_icmp .ge 74, 3) := by decide +kernel
theorem dX2_valueAt_23 : decode cX2_valueAt 23 = .ok (.aload_n 0, 1) := by decide +kernel
theorem dX2_valueAt_24 : decode cX2_valueAt 24 = .ok (.iload 5, 2) := by decide +kernel
theorem dX2_valueAt_26 : decode cX2_valueAt 26 = .ok (.invokevirtual 53, 3) := by decide +kernel
theorem dX2_valueAt_29 : decode cX2_valueAt 29 = .ok (.istore 6, 2) := by decide +kernel
theorem dX2_valueAt_31 : decode cX2_valueAt 31 = .ok (.iload 4, 2) := by decide +kernel
theorem dX2_valueAt_33 : decode cX2_valueAt 33 = .ok (.iload 6, 2) := by decide +kernel
theorem dX2_valueAt_35 : decode cX2_valueAt 35 = .ok (.invokestatic 41, 3) := by decide +kernel
theorem dX2_valueAt_38 : decode cX2_valueAt 38 = .ok (.istore 7, 2) := by decide +kernel
theorem dX2_valueAt_40 : decode cX2_valueAt 40 = .ok (.iload 4, 2) := by decide +kernel
theorem dX2_valueAt_42 : decode cX2_valueAt 42 = .ok (.iload 7, 2) := by decide +kernel
theorem dX2_valueAt_44 : decode cX2_valueAt 44 = .ok (.isub, 1) := by decide +kernel
theorem dX2_valueAt_45 : decode cX2_valueAt 45 = .ok (.istore 4, 2) := by decide +kernel
theorem dX2_valueAt_47 : decode cX2_valueAt 47 = .ok (.iload_n 1, 1) := by decide +kernel
theorem dX2_valueAt_48 : decode cX2_valueAt 48 = .ok (.i2l, 1) := by decide +kernel
theorem dX2_valueAt_49 : decode cX2_valueAt 49 = .ok (.aload_n 0, 1) := by decide +kernel
theorem dX2_valueAt_50 : decode cX2_valueAt 50 = .ok (.iload 5, 2) := by decide +kernel
theorem dX2_valueAt_52 : decode cX2_valueAt 52 = .ok (.invokevirtual 29, 3) := by decide +kernel
theorem dX2_valueAt_55 : decode cX2_valueAt 55 = .ok (.i2l, 1) := by decide +kernel
theorem dX2_valueAt_56 : decode cX2_valueAt 56 = .ok (.lsub, 1) := by decide +kernel
theorem dX2_valueAt_57 : decode cX2_valueAt 57 = .ok (.lstore 8, 2) := by decide +kernel
theorem dX2_valueAt_59 : decode cX2_valueAt 59 = .ok (.lload_n 2, 1) := by decide +kernel
theorem dX2_valueAt_60 : decode cX2_valueAt 60 = .ok (.lload 8, 2) := by decide +kernel
theorem dX2_valueAt_62 : decode cX2_valueAt 62 = .ok (.lconst 0, 1) := by decide +kernel
theorem dX2_valueAt_63 : decode cX2_valueAt 63 = .ok (.lcmp, 1) := by decide +kernel
theorem dX2_valueAt_64 : decode cX2_valueAt 64 = .ok (.ifCond .ge 13, 3) := by decide +kernel
theorem dX2_valueAt_67 : decode cX2_valueAt 67 = .ok (.lload 8, 2) := by decide +kernel
theorem dX2_valueAt_69 : decode cX2_valueAt 69 = .ok (.lneg, 1) := by decide +kernel
theorem dX2_valueAt_70 : decode cX2_valueAt 70 = .ok (.iload 7, 2) := by decide +kernel
theorem dX2_valueAt_72 : decode cX2_valueAt 72 = .ok (.i2l, 1) := by decide +kernel
theorem dX2_valueAt_73 : decode cX2_valueAt 73 = .ok (.lmul, 1) := by decide +kernel
theorem dX2_valueAt_74 : decode cX2_valueAt 74 = .ok (.goto 12, 3) := by decide +kernel
theorem dX2_valueAt_77 : decode cX2_valueAt 77 = .ok (.lload 8, 2) := by decide +kernel
theorem dX2_valueAt_79 : decode cX2_valueAt 79 = .ok (.iload 6, 2) := by decide +kernel
theorem dX2_valueAt_81 : decode cX2_valueAt 81 = .ok (.iload 7, 2) := by decide +kernel
theorem dX2_valueAt_83 : decode cX2_valueAt 83 = .ok (.isub, 1) := by decide +kernel
theorem dX2_valueAt_84 : decode cX2_valueAt 84 = .ok (.i2l, 1) := by decide +kernel
theorem dX2_valueAt_85 : decode cX2_valueAt 85 = .ok (.lmul, 1) := by decide +kernel
theorem dX2_valueAt_86 : decode cX2_valueAt 86 = .ok (.ladd, 1) := by decide +kernel
theorem dX2_valueAt_87 : decode cX2_valueAt 87 = .ok (.lstore_n 2, 1) := by decide +kernel
theorem dX2_valueAt_88 : decode cX2_valueAt 88 = .ok (.iinc 5 1, 3) := by decide +kernel
theorem dX2_valueAt_91 : decode cX2_valueAt 91 = .ok (.goto (-77), 3) := by decide +kernel
theorem dX2_valueAt_94 : decode cX2_valueAt 94 = .ok (.lload_n 2, 1) := by decide +kernel
theorem dX2_valueAt_95 : decode cX2_valueAt 95 = .ok (.lreturn, 1) := by decide +kernel
theorem dX2_slopeBehind_0 : decode cX2_slopeBehind 0 = .ok (.aload_n 0, 1) := by decide +kernel
theorem dX2_slopeBehind_1 : decode cX2_slopeBehind 1 = .ok (.getfield 19, 3) := by decide +kernel
theorem dX2_slopeBehind_4 : decode cX2_slopeBehind 4 = .ok (.ineg, 1) := by decide +kernel
theorem dX2_slopeBehind_5 : decode cX2_slopeBehind 5 = .ok (.istore_n 2, 1) := by decide +kernel
theorem dX2_slopeBehind_6 : decode cX2_slopeBehind 6 = .ok (.iconst 0, 1) := by decide +kernel
theorem dX2_slopeBehind_7 : decode cX2_slopeBehind 7 = .ok (.istore_n 3, 1) := by decide +kernel
theorem dX2_slopeBehind_8 : decode cX2_slopeBehind 8 = .ok (.iload_n 3, 1) := by decide +kernel
theorem dX2_slopeBehind_9 : decode cX2_slopeBehind 9 = .ok (.aload_n 0, 1) := by decide +kernel
theorem dX2_slopeBehind_10 : decode cX2_slopeBehind 10 = .ok (.getfield 15, 3) := by decide +kernel
theorem dX2_slopeBehind_13 : decode cX2_slopeBehind 13 = .ok (.if_icmp .ge 26, 3) := by decide +kernel
theorem dX2_slopeBehind_16 : decode cX2_slopeBehind 16 = .ok (.aload_n 0, 1) := by decide +kernel
theorem dX2_slopeBehind_17 : decode cX2_slopeBehind 17 = .ok (.iload_n 3, 1) := by decide +kernel
theorem dX2_slopeBehind_18 : decode cX2_slopeBehind 18 = .ok (.invokevirtual 29, 3) := by decide +kernel
theorem dX2_slopeBehind_21 : decode cX2_slopeBehind 21 = .ok (.iload_n 1, 1) := by decide +kernel
theorem dX2_slopeBehind_22 : decode cX2_slopeBehind 22 = .ok (.if_icmp .gt 17, 3) := by decide +kernel
theorem dX2_slopeBehind_25 : decode cX2_slopeBehind 25 = .ok (.iload_n 2, 1) := by decide +kernel
theorem dX2_slopeBehind_26 : decode cX2_slopeBehind 26 = .ok (.aload_n 0, 1) := by decide +kernel
theorem dX2_slopeBehind_27 : decode cX2_slopeBehind 27 = .ok (.iload_n 3, 1) := by decide +kernel
theorem dX2_slopeBehind_28 : decode cX2_slopeBehind 28 = .ok (.invokevirtual 53, 3) := by decide +kernel
theorem dX2_slopeBehind_31 : decode cX2_slopeBehind 31 = .ok (.iadd, 1) := by decide +kernel
theorem dX2_slopeBehind_32 : decode cX2_slopeBehind 32 = .ok (.istore_n 2, 1) := by decide +kernel
theorem dX2_slopeBehind_33 : decode cX2_slopeBehind 33 = .ok (.iinc 3 1, 3) := by decide +kernel
theorem dX2_slopeBehind_36 : decode cX2_slopeBehind 36 = .ok (.goto (-28), 3) := by decide +kernel
theorem dX2_slopeBehind_39 : decode cX2_slopeBehind 39 = .ok (.iload_n 2, 1) := by decide +kernel
theorem dX2_slopeBehind_40 : decode cX2_slopeBehind 40 = .ok (.ireturn, 1) := by decide +kernel
theorem dX2_kinksUpTo_0 : decode cX2_kinksUpTo 0 = .ok (.iconst 0, 1) := by decide +kernel
theorem dX2_kinksUpTo_1 : decode cX2_kinksUpTo 1 = .ok (.istore_n 2, 1) := by decide +kernel
theorem dX2_kinksUpTo_2 : decode cX2_kinksUpTo 2 = .ok (.iload_n 2, 1) := by decide +kernel
theorem dX2_kinksUpTo_3 : decode cX2_kinksUpTo 3 = .ok (.aload_n 0, 1) := by decide +kernel
theorem dX2_kinksUpTo_4 : decode cX2_kinksUpTo 4 = .ok (.getfield 15, 3) := by decide +kernel
theorem dX2_kinksUpTo_7 : decode cX2_kinksUpTo 7 = .ok (.if_icmp .ge 18, 3) := by decide +kernel
theorem dX2_kinksUpTo_10 : decode cX2_kinksUpTo 10 = .ok (.aload_n 0, 1) := by decide +kernel
theorem dX2_kinksUpTo_11 : decode cX2_kinksUpTo 11 = .ok (.iload_n 2, 1) := by decide +kernel
theorem dX2_kinksUpTo_12 : decode cX2_kinksUpTo 12 = .ok (.invokevirtual 29, 3) := by decide +kernel
theorem dX2_kinksUpTo_15 : decode cX2_kinksUpTo 15 = .ok (.iload_n 1, 1) := by decide +kernel
theorem dX2_kinksUpTo_16 : decode cX2_kinksUpTo 16 = .ok (.if_icmp .gt 9, 3) := by decide +kernel
theorem dX2_kinksUpTo_19 : decode cX2_kinksUpTo 19 = .ok (.iinc 2 1, 3) := by decide +kernel
theorem dX2_kinksUpTo_22 : decode cX2_kinksUpTo 22 = .ok (.goto (-20), 3) := by decide +kernel
theorem dX2_kinksUpTo_25 : decode cX2_kinksUpTo 25 = .ok (.iload_n 2, 1) := by decide +kernel
theorem dX2_kinksUpTo_26 : decode cX2_kinksUpTo 26 = .ok (.ireturn, 1) := by decide +kernel
theorem dX2_placeOfUnit_0 : decode cX2_placeOfUnit 0 = .ok (.iload_n 1, 1) := by decide +kernel
theorem dX2_placeOfUnit_1 : decode cX2_placeOfUnit 1 = .ok (.iconst 1, 1) := by decide +kernel
theorem dX2_placeOfUnit_2 : decode cX2_placeOfUnit 2 = .ok (.if_icmp .ge 6, 3) := by decide +kernel
theorem dX2_placeOfUnit_5 : decode cX2_placeOfUnit 5 = .ok (.ldc 56, 2) := by decide +kernel
theorem dX2_placeOfUnit_7 : decode cX2_placeOfUnit 7 = .ok (.ireturn, 1) := by decide +kernel
theorem dX2_placeOfUnit_8 : decode cX2_placeOfUnit 8 = .ok (.iload_n 1, 1) := by decide +kernel
theorem dX2_placeOfUnit_9 : decode cX2_placeOfUnit 9 = .ok (.istore_n 2, 1) := by decide +kernel
theorem dX2_placeOfUnit_10 : decode cX2_placeOfUnit 10 = .ok (.iconst 0, 1) := by decide +kernel
theorem dX2_placeOfUnit_11 : decode cX2_placeOfUnit 11 = .ok (.istore_n 3, 1) := by decide +kernel
theorem dX2_placeOfUnit_12 : decode cX2_placeOfUnit 12 = .ok (.iload_n 3, 1) := by decide +kernel
theorem dX2_placeOfUnit_13 : decode cX2_placeOfUnit 13 = .ok (.aload_n 0, 1) := by decide +kernel
theorem dX2_placeOfUnit_14 : decode cX2_placeOfUnit 14 = .ok (.getfield 15, 3) := by decide +kernel
theorem dX2_placeOfUnit_17 : decode cX2_placeOfUnit 17 = .ok (.if_icmp .ge 27, 3) := by decide +kernel
theorem dX2_placeOfUnit_20 : decode cX2_placeOfUnit 20 = .ok (.iload_n 2, 1) := by decide +kernel
theorem dX2_placeOfUnit_21 : decode cX2_placeOfUnit 21 = .ok (.aload_n 0, 1) := by decide +kernel
theorem dX2_placeOfUnit_22 : decode cX2_placeOfUnit 22 = .ok (.iload_n 3, 1) := by decide +kernel
theorem dX2_placeOfUnit_23 : decode cX2_placeOfUnit 23 = .ok (.invokevirtual 53, 3) := by decide +kernel
theorem dX2_placeOfUnit_26 : decode cX2_placeOfUnit 26 = .ok (.isub, 1) := by decide +kernel
theorem dX2_placeOfUnit_27 : decode cX2_placeOfUnit 27 = .ok (.istore_n 2, 1) := by decide +kernel
theorem dX2_placeOfUnit_28 : decode cX2_placeOfUnit 28 = .ok (.iload_n 2, 1) := by decide +kernel
theorem dX2_placeOfUnit_29 : decode cX2_placeOfUnit 29 = .ok (.ifCond .gt 9, 3) := by decide +kernel
theorem dX2_placeOfUnit_32 : decode cX2_placeOfUnit 32 = .ok (.aload_n 0, 1) := by decide +kernel
theorem dX2_placeOfUnit_33 : decode cX2_placeOfUnit 33 = .ok (.iload_n 3, 1) := by decide +kernel
theorem dX2_placeOfUnit_34 : decode cX2_placeOfUnit 34 = .ok (.invokevirtual 29, 3) := by decide +kernel
theorem dX2_placeOfUnit_37 : decode cX2_placeOfUnit 37 = .ok (.ireturn, 1) := by decide +kernel
theorem dX2_placeOfUnit_38 : decode cX2_placeOfUnit 38 = .ok (.iinc 3 1, 3) := by decide +kernel
theorem dX2_placeOfUnit_41 : decode cX2_placeOfUnit 41 = .ok (.goto (-29), 3) := by decide +kernel
theorem dX2_placeOfUnit_44 : decode cX2_placeOfUnit 44 = .ok (.ldc 57, 2) := by decide +kernel
theorem dX2_placeOfUnit_46 : decode cX2_placeOfUnit 46 = .ok (.ireturn, 1) := by decide +kernel
theorem dX2_lowEnd_0 : decode cX2_lowEnd 0 = .ok (.aload_n 0, 1) := by decide +kernel
theorem dX2_lowEnd_1 : decode cX2_lowEnd 1 = .ok (.aload_n 0, 1) := by decide +kernel
theorem dX2_lowEnd_2 : decode cX2_lowEnd 2 = .ok (.getfield 19, 3) := by decide +kernel
theorem dX2_lowEnd_5 : decode cX2_lowEnd 5 = .ok (.iload_n 1, 1) := by decide +kernel
theorem dX2_lowEnd_6 : decode cX2_lowEnd 6 = .ok (.iadd, 1) := by decide +kernel
theorem dX2_lowEnd_7 : decode cX2_lowEnd 7 = .ok (.invokevirtual 58, 3) := by decide +kernel
theorem dX2_lowEnd_10 : decode cX2_lowEnd 10 = .ok (.ireturn, 1) := by decide +kernel
theorem dX2_highEnd_0 : decode cX2_highEnd 0 = .ok (.aload_n 0, 1) := by decide +kernel
theorem dX2_highEnd_1 : decode cX2_highEnd 1 = .ok (.aload_n 0, 1) := by decide +kernel
theorem dX2_highEnd_2 : decode cX2_highEnd 2 = .ok (.getfield 19, 3) := by decide +kernel
theorem dX2_highEnd_5 : decode cX2_highEnd 5 = .ok (.iload_n 1, 1) := by decide +kernel
theorem dX2_highEnd_6 : decode cX2_highEnd 6 = .ok (.iadd, 1) := by decide +kernel
theorem dX2_highEnd_7 : decode cX2_highEnd 7 = .ok (.iconst 1, 1) := by decide +kernel
theorem dX2_highEnd_8 : decode cX2_highEnd 8 = .ok (.iadd, 1) := by decide +kernel
theorem dX2_highEnd_9 : decode cX2_highEnd 9 = .ok (.invokevirtual 58, 3) := by decide +kernel
theorem dX2_highEnd_12 : decode cX2_highEnd 12 = .ok (.ireturn, 1) := by decide +kernel
theorem dX2_nearestToZero_0 : decode cX2_nearestToZero 0 = .ok (.iconst 0, 1) := by decide +kernel
theorem dX2_nearestToZero_1 : decode cX2_nearestToZero 1 = .ok (.aload_n 0, 1) := by decide +kernel
theorem dX2_nearestToZero_2 : decode cX2_nearestToZero 2 = .ok (.iload_n 1, 1) := by decide +kernel
theorem dX2_nearestToZero_3 : decode cX2_nearestToZero 3 = .ok (.invokevirtual 61, 3) := by decide +kernel
theorem dX2_nearestToZero_6 : decode cX2_nearestToZero 6 = .ok (.aload_n 0, 1) := by decide +kernel
theorem dX2_nearestToZero_7 : decode cX2_nearestToZero 7 = .ok (.iload_n 1, 1) := by decide +kernel
theorem dX2_nearestToZero_8 : decode cX2_nearestToZero 8 = .ok (.invokevirtual 64, 3) := by decide +kernel
theorem dX2_nearestToZero_11 : decode cX2_nearestToZero 11 = .ok (.invokestatic 67, 3) := by decide +kernel
theorem dX2_nearestToZero_14 : decode cX2_nearestToZero 14 = .ok (.ireturn, 1) := by decide +kernel
theorem dX2_someLowest_0 : decode cX2_someLowest 0 = .ok (.aload_n 0, 1) := by decide +kernel
theorem dX2_someLowest_1 : decode cX2_someLowest 1 = .ok (.getfield 19, 3) := by decide +kernel
theorem dX2_someLowest_4 : decode cX2_someLowest 4 = .ok (.istore_n 1, 1) := by decide +kernel
theorem dX2_someLowest_5 : decode cX2_someLowest 5 = .ok (.iconst 0, 1) := by decide +kernel
theorem dX2_someLowest_6 : decode cX2_someLowest 6 = .ok (.istore_n 2, 1) := by decide +kernel
theorem dX2_someLowest_7 : decode cX2_someLowest 7 = .ok (.iload_n 2, 1) := by decide +kernel
theorem dX2_someLowest_8 : decode cX2_someLowest 8 = .ok (.aload_n 0, 1) := by decide +kernel
theorem dX2_someLowest_9 : decode cX2_someLowest 9 = .ok (.getfield 15, 3) := by decide +kernel
theorem dX2_someLowest_12 : decode cX2_someLowest 12 = .ok (.if_icmp .ge 27, 3) := by decide +kernel
theorem dX2_someLowest_15 : decode cX2_someLowest 15 = .ok (.iload_n 1, 1) := by decide +kernel
theorem dX2_someLowest_16 : decode cX2_someLowest 16 = .ok (.aload_n 0, 1) := by decide +kernel
theorem dX2_someLowest_17 : decode cX2_someLowest 17 = .ok (.iload_n 2, 1) := by decide +kernel
theorem dX2_someLowest_18 : decode cX2_someLowest 18 = .ok (.invokevirtual 53, 3) := by decide +kernel
theorem dX2_someLowest_21 : decode cX2_someLowest 21 = .ok (.isub, 1) := by decide +kernel
theorem dX2_someLowest_22 : decode cX2_someLowest 22 = .ok (.istore_n 1, 1) := by decide +kernel
theorem dX2_someLowest_23 : decode cX2_someLowest 23 = .ok (.iload_n 1, 1) := by decide +kernel
theorem dX2_someLowest_24 : decode cX2_someLowest 24 = .ok (.ifCond .gt 9, 3) := by decide +kernel
theorem dX2_someLowest_27 : decode cX2_someLowest 27 = .ok (.aload_n 0, 1) := by decide +kernel
theorem dX2_someLowest_28 : decode cX2_someLowest 28 = .ok (.iload_n 2, 1) := by decide +kernel
theorem dX2_someLowest_29 : decode cX2_someLowest 29 = .ok (.invokevirtual 29, 3) := by decide +kernel
theorem dX2_someLowest_32 : decode cX2_someLowest 32 = .ok (.ireturn, 1) := by decide +kernel
theorem dX2_someLowest_33 : decode cX2_someLowest 33 = .ok (.iinc 2 1, 3) := by decide +kernel
theorem dX2_someLowest_36 : decode cX2_someLowest 36 = .ok (.goto (-29), 3) := by decide +kernel
theorem dX2_someLowest_39 : decode cX2_someLowest 39 = .ok (.iconst 0, 1) := by decide +kernel
theorem dX2_someLowest_40 : decode cX2_someLowest 40 = .ok (.ireturn, 1) := by decide +kernel
theorem dX2_isTooMuch_0 : decode cX2_isTooMuch 0 = .ok (.aload_n 0, 1) := by decide +kernel
theorem dX2_isTooMuch_1 : decode cX2_isTooMuch 1 = .ok (.getfield 22, 3) := by decide +kernel
theorem dX2_isTooMuch_4 : decode cX2_isTooMuch 4 = .ok (.sipush 5000, 3) := by decide +kernel
theorem dX2_isTooMuch_7 : decode cX2_isTooMuch 7 = .ok (.if_icmp .gt 14, 3) := by decide +kernel
theorem dX2_isTooMuch_10 : decode cX2_isTooMuch 10 = .ok (.aload_n 0, 1) := by decide +kernel
theorem dX2_isTooMuch_11 : decode cX2_isTooMuch 11 = .ok (.getfield 25, 3) := by decide +kernel
theorem dX2_isTooMuch_14 : decode cX2_isTooMuch 14 = .ok (.ldc2_w 71, 3) := by decide +kernel
theorem dX2_isTooMuch_17 : decode cX2_isTooMuch 17 = .ok (.lcmp, 1) := by decide +kernel
theorem dX2_isTooMuch_18 : decode cX2_isTooMuch 18 = .ok (.ifCond .le 5, 3) := by decide +kernel
theorem dX2_isTooMuch_21 : decode cX2_isTooMuch 21 = .ok (.iconst 1, 1) := by decide +kernel
theorem dX2_isTooMuch_22 : decode cX2_isTooMuch 22 = .ok (.ireturn, 1) := by decide +kernel
theorem dX2_isTooMuch_23 : decode cX2_isTooMuch 23 = .ok (.aload_n 0, 1) := by decide +kernel
theorem dX2_isTooMuch_24 : decode cX2_isTooMuch 24 = .ok (.getfield 15, 3) := by decide +kernel
theorem dX2_isTooMuch_27 : decode cX2_isTooMuch 27 = .ok (.ifCond .le 34, 3) := by decide +kernel
theorem dX2_isTooMuch_30 : decode cX2_isTooMuch 30 = .ok (.aload_n 0, 1) := by decide +kernel
theorem dX2_isTooMuch_31 : decode cX2_isTooMuch 31 = .ok (.iconst 0, 1) := by decide +kernel
theorem dX2_isTooMuch_32 : decode cX2_isTooMuch 32 = .ok (.invokevirtual 29, 3) := by decide +kernel
theorem dX2_isTooMuch_35 : decode cX2_isTooMuch 35 = .ok (.sipush (-5000), 3) := by decide +kernel
theorem dX2_isTooMuch_38 : decode cX2_isTooMuch 38 = .ok (.if_icmp .lt 19, 3) := by decide +kernel
theorem dX2_isTooMuch_41 : decode cX2_isTooMuch 41 = .ok (.aload_n 0, 1) := by decide +kernel
theorem dX2_isTooMuch_42 : decode cX2_isTooMuch 42 = .ok (.aload_n 0, 1) := by decide +kernel
theorem dX2_isTooMuch_43 : decode cX2_isTooMuch 43 = .ok (.getfield 15, 3) := by decide +kernel
theorem dX2_isTooMuch_46 : decode cX2_isTooMuch 46 = .ok (.iconst 1, 1) := by decide +kernel
theorem dX2_isTooMuch_47 : decode cX2_isTooMuch 47 = .ok (.isub, 1) := by decide +kernel
theorem dX2_isTooMuch_48 : decode cX2_isTooMuch 48 = .ok (.invokevirtual 29, 3) := by decide +kernel
theorem dX2_isTooMuch_51 : decode cX2_isTooMuch 51 = .ok (.sipush 5000, 3) := by decide +kernel
theorem dX2_isTooMuch_54 : decode cX2_isTooMuch 54 = .ok (.if_icmp .le 7, 3) := by decide +kernel
theorem dX2_isTooMuch_57 : decode cX2_isTooMuch 57 = .ok (.iconst 1, 1) := by decide +kernel
theorem dX2_isTooMuch_58 : decode cX2_isTooMuch 58 = .ok (.goto 4, 3) := by decide +kernel
theorem dX2_isTooMuch_61 : decode cX2_isTooMuch 61 = .ok (.iconst 0, 1) := by decide +kernel
theorem dX2_isTooMuch_62 : decode cX2_isTooMuch 62 = .ok (.ireturn, 1) := by decide +kernel
theorem dX2_isSameAs_0 : decode cX2_isSameAs 0 = .ok (.aload_n 0, 1) := by decide +kernel
theorem dX2_isSameAs_1 : decode cX2_isSameAs 1 = .ok (.getfield 15, 3) := by decide +kernel
theorem dX2_isSameAs_4 : decode cX2_isSameAs 4 = .ok (.aload_n 1, 1) := by decide +kernel
theorem dX2_isSameAs_5 : decode cX2_isSameAs 5 = .ok (.getfield 15, 3) := by decide +kernel
theorem dX2_isSameAs_8 : decode cX2_isSameAs 8 = .ok (.if_icmp .ne 26, 3) := by decide +kernel
theorem dX2_isSameAs_11 : decode cX2_isSameAs 11 = .ok (.aload_n 0, 1) := by decide +kernel
theorem dX2_isSameAs_12 : decode cX2_isSameAs 12 = .ok (.getfield 19, 3) := by decide +kernel
theorem dX2_isSameAs_15 : decode cX2_isSameAs 15 = .ok (.aload_n 1, 1) := by decide +kernel
theorem dX2_isSameAs_16 : decode cX2_isSameAs 16 = .ok (.getfield 19, 3) := by decide +kernel
theorem dX2_isSameAs_19 : decode cX2_isSameAs 19 = .ok (.if_icmp .ne 15, 3) := by decide +kernel
theorem dX2_isSameAs_22 : decode cX2_isSameAs 22 = .ok (.aload_n 0, 1) := by decide +kernel
theorem dX2_isSameAs_23 : decode cX2_isSameAs 23 = .ok (.getfield 25, 3) := by decide +kernel
theorem dX2_isSameAs_26 : decode cX2_isSameAs 26 = .ok (.aload_n 1, 1) := by decide +kernel
theorem dX2_isSameAs_27 : decode cX2_isSameAs 27 = .ok (.getfield 25, 3) := by decide +kernel
theorem dX2_isSameAs_30 : decode cX2_isSameAs 30 = .ok (.lcmp, 1) := by decide +kernel
theorem dX2_isSameAs_31 : decode cX2_isSameAs 31 = .ok (.ifCond .eq 5, 3) := by decide +kernel
theorem dX2_isSameAs_34 : decode cX2_isSameAs 34 = .ok (.iconst 0, 1) := by decide +kernel
theorem dX2_isSameAs_35 : decode cX2_isSameAs 35 = .ok (.ireturn, 1) := by decide +kernel
theorem dX2_isSameAs_36 : decode cX2_isSameAs 36 = .ok (.iconst 0, 1) := by decide +kernel
theorem dX2_isSameAs_37 : decode cX2_isSameAs 37 = .ok (.istore_n 2, 1) := by decide +kernel
theorem dX2_isSameAs_38 : decode cX2_isSameAs 38 = .ok (.iload_n 2, 1) := by decide +kernel
theorem dX2_isSameAs_39 : decode cX2_isSameAs 39 = .ok (.aload_n 0, 1) := by decide +kernel
theorem dX2_isSameAs_40 : decode cX2_isSameAs 40 = .ok (.getfield 15, 3) := by decide +kernel
theorem dX2_isSameAs_43 : decode cX2_isSameAs 43 = .ok (.if_icmp .ge 37, 3) := by decide +kernel
theorem dX2_isSameAs_46 : decode cX2_isSameAs 46 = .ok (.aload_n 0, 1) := by decide +kernel
theorem dX2_isSameAs_47 : decode cX2_isSameAs 47 = .ok (.iload_n 2, 1) := by decide +kernel
theorem dX2_isSameAs_48 : decode cX2_isSameAs 48 = .ok (.invokevirtual 29, 3) := by decide +kernel
theorem dX2_isSameAs_51 : decode cX2_isSameAs 51 = .ok (.aload_n 1, 1) := by decide +kernel
theorem dX2_isSameAs_52 : decode cX2_isSameAs 52 = .ok (.iload_n 2, 1) := by decide +kernel
theorem dX2_isSameAs_53 : decode cX2_isSameAs 53 = .ok (.invokevirtual 29, 3) := by decide +kernel
theorem dX2_isSameAs_56 : decode cX2_isSameAs 56 = .ok (.if_icmp .ne 16, 3) := by decide +kernel
theorem dX2_isSameAs_59 : decode cX2_isSameAs 59 = .ok (.aload_n 0, 1) := by decide +kernel
theorem dX2_isSameAs_60 : decode cX2_isSameAs 60 = .ok (.iload_n 2, 1) := by decide +kernel
theorem dX2_isSameAs_61 : decode cX2_isSameAs 61 = .ok (.invokevirtual 53, 3) := by decide +kernel
theorem dX2_isSameAs_64 : decode cX2_isSameAs 64 = .ok (.aload_n 1, 1) := by decide +kernel
theorem dX2_isSameAs_65 : decode cX2_isSameAs 65 = .ok (.iload_n 2, 1) := by decide +kernel
theorem dX2_isSameAs_66 : decode cX2_isSameAs 66 = .ok (.invokevirtual 53, 3) := by decide +kernel
theorem dX2_isSameAs_69 : decode cX2_isSameAs 69 = .ok (.if_icmp .eq 5, 3) := by decide +kernel
theorem dX2_isSameAs_72 : decode cX2_isSameAs 72 = .ok (.iconst 0, 1) := by decide +kernel
theorem dX2_isSameAs_73 : decode cX2_isSameAs 73 = .ok (.ireturn, 1) := by decide +kernel
theorem dX2_isSameAs_74 : decode cX2_isSameAs 74 = .ok (.iinc 2 1, 3) := by decide +kernel
theorem dX2_isSameAs_77 : decode cX2_isSameAs 77 = .ok (.goto (-39), 3) := by decide +kernel
theorem dX2_isSameAs_80 : decode cX2_isSameAs 80 = .ok (.iconst 1, 1) := by decide +kernel
theorem dX2_isSameAs_81 : decode cX2_isSameAs 81 = .ok (.ireturn, 1) := by decide +kernel
theorem dX3_init_0 : decode cX3_init 0 = .ok (.aload_n 0, 1) := by decide +kernel
theorem dX3_init_1 : decode cX3_init 1 = .ok (.invokespecial 1, 3) := by decide +kernel
theorem dX3_init_4 : decode cX3_init 4 = .ok (.aload_n 0, 1) := by decide +kernel
theorem dX3_init_5 : decode cX3_init 5 = .ok (.aload_n 1, 1) := by decide +kernel
theorem dX3_init_6 : decode cX3_init 6 = .ok (.getfield 7, 3) := by decide +kernel
theorem dX3_init_9 : decode cX3_init 9 = .ok (.putfield 13, 3) := by decide +kernel
theorem dX3_init_12 : decode cX3_init 12 = .ok (.aload_n 0, 1) := by decide +kernel
theorem dX3_init_13 : decode cX3_init 13 = .ok (.aload_n 1, 1) := by decide +kernel
theorem dX3_init_14 : decode cX3_init 14 = .ok (.iconst 0, 1) := by decide +kernel
theorem dX3_init_15 : decode cX3_init 15 = .ok (.invokevirtual 16, 3) := by decide +kernel
theorem dX3_init_18 : decode cX3_init 18 = .ok (.putfield 20, 3) := by decide +kernel
theorem dX3_init_21 : decode cX3_init 21 = .ok (.aload_n 0, 1) := by decide +kernel
theorem dX3_init_22 : decode cX3_init 22 = .ok (.aload_n 1, 1) := by decide +kernel
theorem dX3_init_23 : decode cX3_init 23 = .ok (.getfield 23, 3) := by decide +kernel
theorem dX3_init_26 : decode cX3_init 26 = .ok (.putfield 26, 3) := by decide +kernel
theorem dX3_init_29 : decode cX3_init 29 = .ok (.aload_n 0, 1) := by decide +kernel
theorem dX3_init_30 : decode cX3_init 30 = .ok (.aload_n 1, 1) := by decide +kernel
theorem dX3_init_31 : decode cX3_init 31 = .ok (.getfield 27, 3) := by decide +kernel
theorem dX3_init_34 : decode cX3_init 34 = .ok (.putfield 31, 3) := by decide +kernel
theorem dX3_init_37 : decode cX3_init 37 = .ok (.aload_n 0, 1) := by decide +kernel
theorem dX3_init_38 : decode cX3_init 38 = .ok (.aload_n 2, 1) := by decide +kernel
theorem dX3_init_39 : decode cX3_init 39 = .ok (.putfield 32, 3) := by decide +kernel
theorem dX3_init_42 : decode cX3_init 42 = .ok (.aload_n 0, 1) := by decide +kernel
theorem dX3_init_43 : decode cX3_init 43 = .ok (.aload_n 3, 1) := by decide +kernel
theorem dX3_init_44 : decode cX3_init 44 = .ok (.putfield 36, 3) := by decide +kernel
theorem dX3_init_47 : decode cX3_init 47 = .ok (.return_, 1) := by decide +kernel
theorem dX3_isBeside_0 : decode cX3_isBeside 0 = .ok (.aload_n 0, 1) := by decide +kernel
theorem dX3_isBeside_1 : decode cX3_isBeside 1 = .ok (.getfield 20, 3) := by decide +kernel
theorem dX3_isBeside_4 : decode cX3_isBeside 4 = .ok (.aload_n 1, 1) := by decide +kernel
theorem dX3_isBeside_5 : decode cX3_isBeside 5 = .ok (.iconst 0, 1) := by decide +kernel
theorem dX3_isBeside_6 : decode cX3_isBeside 6 = .ok (.invokevirtual 16, 3) := by decide +kernel
theorem dX3_isBeside_9 : decode cX3_isBeside 9 = .ok (.if_icmp .ne 30, 3) := by decide +kernel
theorem dX3_isBeside_12 : decode cX3_isBeside 12 = .ok (.aload_n 0, 1) := by decide +kernel
theorem dX3_isBeside_13 : decode cX3_isBeside 13 = .ok (.getfield 26, 3) := by decide +kernel
theorem dX3_isBeside_16 : decode cX3_isBeside 16 = .ok (.aload_n 1, 1) := by decide +kernel
theorem dX3_isBeside_17 : decode cX3_isBeside 17 = .ok (.getfield 23, 3) := by decide +kernel
theorem dX3_isBeside_20 : decode cX3_isBeside 20 = .ok (.if_icmp .ne 19, 3) := by decide +kernel
theorem dX3_isBeside_23 : decode cX3_isBeside 23 = .ok (.aload_n 0, 1) := by decide +kernel
theorem dX3_isBeside_24 : decode cX3_isBeside 24 = .ok (.getfield 31, 3) := by decide +kernel
theorem dX3_isBeside_27 : decode cX3_isBeside 27 = .ok (.aload_n 1, 1) := by decide +kernel
theorem dX3_isBeside_28 : decode cX3_isBeside 28 = .ok (.getfield 27, 3) := by decide +kernel
theorem dX3_isBeside_31 : decode cX3_isBeside 31 = .ok (.lcmp, 1) := by decide +kernel
theorem dX3_isBeside_32 : decode cX3_isBeside 32 = .ok (.ifCond .ne 7, 3) := by decide +kernel
theorem dX3_isBeside_35 : decode cX3_isBeside 35 = .ok (.iconst 1, 1) := by decide +kernel
theorem dX3_isBeside_36 : decode cX3_isBeside 36 = .ok (.goto 4, 3) := by decide +kernel
theorem dX3_isBeside_39 : decode cX3_isBeside 39 = .ok (.iconst 0, 1) := by decide +kernel
theorem dX3_isBeside_40 : decode cX3_isBeside 40 = .ok (.ireturn, 1) := by decide +kernel
theorem dX3_showOn_0 : decode cX3_showOn 0 = .ok (.aload_n 1, 1) := by decide +kernel
theorem dX3_showOn_1 : decode cX3_showOn 1 = .ok (.aload_n 0, 1) := by decide +kernel
theorem dX3_showOn_2 : decode cX3_showOn 2 = .ok (.getfield 13, 3) := by decide +kernel
theorem dX3_showOn_5 : decode cX3_showOn 5 = .ok (.invokevirtual 40, 3) := by decide +kernel
theorem dX3_showOn_8 : decode cX3_showOn 8 = .ok (.aload_n 0, 1) := by decide +kernel
theorem dX3_showOn_9 : decode cX3_showOn 9 = .ok (.getfield 20, 3) := by decide +kernel
theorem dX3_showOn_12 : decode cX3_showOn 12 = .ok (.istore_n 2, 1) := by decide +kernel
theorem dX3_showOn_13 : decode cX3_showOn 13 = .ok (.iconst 0, 1) := by decide +kernel
theorem dX3_showOn_14 : decode cX3_showOn 14 = .ok (.istore_n 3, 1) := by decide +kernel
theorem dX3_showOn_15 : decode cX3_showOn 15 = .ok (.iload_n 3, 1) := by decide +kernel
theorem dX3_showOn_16 : decode cX3_showOn 16 = .ok (.aload_n 0, 1) := by decide +kernel
theorem dX3_showOn_17 : decode cX3_showOn 17 = .ok (.getfield 32, 3) := by decide +kernel
theorem dX3_showOn_20 : decode cX3_showOn 20 = .ok (.arraylength, 1) := by decide +kernel
theorem dX3_showOn_21 : decode cX3_showOn 21 = .ok (.if_icmp .ge 80, 3) := by decide +kernel
theorem dX3_showOn_24 : decode cX3_showOn 24 = .ok (.aload_n 0, 1) := by decide +kernel
theorem dX3_showOn_25 : decode cX3_showOn 25 = .ok (.getfield 32, 3) := by decide +kernel
theorem dX3_showOn_28 : decode cX3_showOn 28 = .ok (.iload_n 3, 1) := by decide +kernel
theorem dX3_showOn_29 : decode cX3_showOn 29 = .ok (.laload, 1) := by decide +kernel
theorem dX3_showOn_30 : decode cX3_showOn 30 = .ok (.lstore 4, 2) := by decide +kernel
theorem dX3_showOn_32 : decode cX3_showOn 32 = .ok (.iconst 0, 1) := by decide +kernel
theorem dX3_showOn_33 : decode cX3_showOn 33 = .ok (.istore 6, 2) := by decide +kernel
theorem dX3_showOn_35 : decode cX3_showOn 35 = .ok (.iload 6, 2) := by decide +kernel
theorem dX3_showOn_37 : decode cX3_showOn 37 = .ok (.bipush 64, 2) := by decide +kernel
theorem dX3_showOn_39 : decode cX3_showOn 39 = .ok (.if_icmp .ge 40, 3) := by decide +kernel
theorem dX3_showOn_42 : decode cX3_showOn 42 = .ok (.lload 4, 2) := by decide +kernel
theorem dX3_showOn_44 : decode cX3_showOn 44 = .ok (.lconst 0, 1) := by decide +kernel
theorem dX3_showOn_45 : decode cX3_showOn 45 = .ok (.lcmp, 1) := by decide +kernel
theorem dX3_showOn_46 : decode cX3_showOn 46 = .ok (.ifCond .eq 33, 3) := by decide +kernel
theorem dX3_showOn_49 : decode cX3_showOn 49 = .ok (.lload 4, 2) := by decide +kernel
theorem dX3_showOn_51 : decode cX3_showOn 51 = .ok (.iload 6, 2) := by decide +kernel
theorem dX3_showOn_53 : decode cX3_showOn 53 = .ok (.lushr, 1) := by decide +kernel
theorem dX3_showOn_54 : decode cX3_showOn 54 = .ok (.lconst 1, 1) := by decide +kernel
theorem dX3_showOn_55 : decode cX3_showOn 55 = .ok (.land, 1) := by decide +kernel
theorem dX3_showOn_56 : decode cX3_showOn 56 = .ok (.lconst 1, 1) := by decide +kernel
theorem dX3_showOn_57 : decode cX3_showOn 57 = .ok (.lcmp, 1) := by decide +kernel
theorem dX3_showOn_58 : decode cX3_showOn 58 = .ok (.ifCond .ne 12, 3) := by decide +kernel
theorem dX3_showOn_61 : decode cX3_showOn 61 = .ok (.aload_n 1, 1) := by decide +kernel
theorem dX3_showOn_62 : decode cX3_showOn 62 = .ok (.iload_n 2, 1) := by decide +kernel
theorem dX3_showOn_63 : decode cX3_showOn 63 = .ok (.iconst 1, 1) := by decide +kernel
theorem dX3_showOn_64 : decode cX3_showOn 64 = .ok (.invokevirtual 46, 3) := by decide +kernel
theorem dX3_showOn_67 : decode cX3_showOn 67 = .ok (.goto 6, 3) := by decide +kernel
theorem dX3_showOn_70 : decode cX3_showOn 70 = .ok (.iinc 2 1, 3) := by decide +kernel
theorem dX3_showOn_73 : decode cX3_showOn 73 = .ok (.iinc 6 1, 3) := by decide +kernel
theorem dX3_showOn_76 : decode cX3_showOn 76 = .ok (.goto (-41), 3) := by decide +kernel
theorem dX3_showOn_79 : decode cX3_showOn 79 = .ok (.iload_n 2, 1) := by decide +kernel
theorem dX3_showOn_80 : decode cX3_showOn 80 = .ok (.lload 4, 2) := by decide +kernel
theorem dX3_showOn_82 : decode cX3_showOn 82 = .ok (.lconst 0, 1) := by decide +kernel
theorem dX3_showOn_83 : decode cX3_showOn 83 = .ok (.lcmp, 1) := by decide +kernel
theorem dX3_showOn_84 : decode cX3_showOn 84 = .ok (.ifCond .ne 8, 3) := by decide +kernel
theorem dX3_showOn_87 : decode cX3_showOn 87 = .ok (.bipush 64, 2) := by decide +kernel
theorem dX3_showOn_89 : decode cX3_showOn 89 = .ok (.goto 4, 3) := by decide +kernel
theorem dX3_showOn_92 : decode cX3_showOn 92 = .ok (.iconst 0, 1) := by decide +kernel
theorem dX3_showOn_93 : decode cX3_showOn 93 = .ok (.iadd, 1) := by decide +kernel
theorem dX3_showOn_94 : decode cX3_showOn 94 = .ok (.istore_n 2, 1) := by decide +kernel
theorem dX3_showOn_95 : decode cX3_showOn 95 = .ok (.iinc 3 1, 3) := by decide +kernel
theorem dX3_showOn_98 : decode cX3_showOn 98 = .ok (.goto (-83), 3) := by decide +kernel
theorem dX3_showOn_101 : decode cX3_showOn 101 = .ok (.aload_n 1, 1) := by decide +kernel
theorem dX3_showOn_102 : decode cX3_showOn 102 = .ok (.aload_n 0, 1) := by decide +kernel
theorem dX3_showOn_103 : decode cX3_showOn 103 = .ok (.getfield 26, 3) := by decide +kernel
theorem dX3_showOn_106 : decode cX3_showOn 106 = .ok (.putfield 23, 3) := by decide +kernel
theorem dX3_showOn_109 : decode cX3_showOn 109 = .ok (.aload_n 1, 1) := by decide +kernel
theorem dX3_showOn_110 : decode cX3_showOn 110 = .ok (.aload_n 0, 1) := by decide +kernel
theorem dX3_showOn_111 : decode cX3_showOn 111 = .ok (.getfield 31, 3) := by decide +kernel
theorem dX3_showOn_114 : decode cX3_showOn 114 = .ok (.putfield 27, 3) := by decide +kernel
theorem dX3_showOn_117 : decode cX3_showOn 117 = .ok (.return_, 1) := by decide +kernel
theorem dX4_init_0 : decode cX4_init 0 = .ok (.aload_n 0, 1) := by decide +kernel
theorem dX4_init_1 : decode cX4_init 1 = .ok (.invokespecial 3, 3) := by decide +kernel
theorem dX4_init_4 : decode cX4_init 4 = .ok (.aload_n 0, 1) := by decide +kernel
theorem dX4_init_5 : decode cX4_init 5 = .ok (.bipush 40, 2) := by decide +kernel
theorem dX4_init_7 : decode cX4_init 7 = .ok (.newarray .int, 2) := by decide +kernel
theorem dX4_init_9 : decode cX4_init 9 = .ok (.putfield 9, 3) := by decide +kernel
theorem dX4_init_12 : decode cX4_init 12 = .ok (.aload_n 0, 1) := by decide +kernel
theorem dX4_init_13 : decode cX4_init 13 = .ok (.bipush 40, 2) := by decide +kernel
theorem dX4_init_15 : decode cX4_init 15 = .ok (.newarray .int, 2) := by decide +kernel
theorem dX4_init_17 : decode cX4_init 17 = .ok (.putfield 15, 3) := by decide +kernel
theorem dX4_init_20 : decode cX4_init 20 = .ok (.aload_n 0, 1) := by decide +kernel
theorem dX4_init_21 : decode cX4_init 21 = .ok (.bipush 40, 2) := by decide +kernel
theorem dX4_init_23 : decode cX4_init 23 = .ok (.newarray .int, 2) := by decide +kernel
theorem dX4_init_25 : decode cX4_init 25 = .ok (.putfield 18, 3) := by decide +kernel
theorem dX4_init_28 : decode cX4_init 28 = .ok (.aload_n 0, 1) := by decide +kernel
theorem dX4_init_29 : decode cX4_init 29 = .ok (.bipush 40, 2) := by decide +kernel
theorem dX4_init_31 : decode cX4_init 31 = .ok (.newarray .int, 2) := by decide +kernel
theorem dX4_init_33 : decode cX4_init 33 = .ok (.putfield 21, 3) := by decide +kernel
theorem dX4_init_36 : decode cX4_init 36 = .ok (.aload_n 0, 1) := by decide +kernel
theorem dX4_init_37 : decode cX4_init 37 = .ok (.iconst 0, 1) := by decide +kernel
theorem dX4_init_38 : decode cX4_init 38 = .ok (.newarray .byte, 2) := by decide +kernel
theorem dX4_init_40 : decode cX4_init 40 = .ok (.putfield 24, 3) := by decide +kernel
theorem dX4_init_43 : decode cX4_init 43 = .ok (.return_, 1) := by decide +kernel
theorem dX4_wordPlace_0 : decode cX4_wordPlace 0 = .ok (.iload_n 1, 1) := by decide +kernel
theorem dX4_wordPlace_1 : decode cX4_wordPlace 1 = .ok (.ifCond .lt 21, 3) := by decide +kernel
theorem dX4_wordPlace_4 : decode cX4_wordPlace 4 = .ok (.iload_n 1, 1) := by decide +kernel
theorem dX4_wordPlace_5 : decode cX4_wordPlace 5 = .ok (.aload_n 0, 1) := by decide +kernel
theorem dX4_wordPlace_6 : decode cX4_wordPlace 6 = .ok (.getfield 21, 3) := by decide +kernel
theorem dX4_wordPlace_9 : decode cX4_wordPlace 9 = .ok (.arraylength, 1) := by decide +kernel
theorem dX4_wordPlace_10 : decode cX4_wordPlace 10 = .ok (.if_icmp .ge 12, 3) := by decide +kernel
theorem dX4_wordPlace_13 : decode cX4_wordPlace 13 = .ok (.aload_n 0, 1) := by decide +kernel
theorem dX4_wordPlace_14 : decode cX4_wordPlace 14 = .ok (.getfield 21, 3) := by decide +kernel
theorem dX4_wordPlace_17 : decode cX4_wordPlace 17 = .ok (.iload_n 1, 1) := by decide +kernel
theorem dX4_wordPlace_18 : decode cX4_wordPlace 18 = .ok (.iaload, 1) := by decide +kernel
theorem dX4_wordPlace_19 : decode cX4_wordPlace 19 = .ok (.goto 4, 3) := by decide +kernel
theorem dX4_wordPlace_22 : decode cX4_wordPlace 22 = .ok (.iconst (-1), 1) := by decide +kernel
theorem dX4_wordPlace_23 : decode cX4_wordPlace 23 = .ok (.ireturn, 1) := by decide +kernel
theorem dX4_read_0 : decode cX4_read 0 = .ok (.aload_n 0, 1) := by decide +kernel
theorem dX4_read_1 : decode cX4_read 1 = .ok (.aload_n 1, 1) := by decide +kernel
theorem dX4_read_2 : decode cX4_read 2 = .ok (.putfield 24, 3) := by decide +kernel
theorem dX4_read_5 : decode cX4_read 5 = .ok (.aload_n 0, 1) := by decide +kernel
