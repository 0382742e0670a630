theorem dJ0_init_81219_0 : decode cJ0_init_81219 0 = .ok (.aload_n 0, 1) := by decide +kernel
theorem dJ0_init_81219_1 : decode cJ0_init_81219 1 = .ok (.aload_n 1, 1) := by decide +kernel
theorem dJ0_init_81219_2 : decode cJ0_init_81219 2 = .ok (.aconst_null, 1) := by decide +kernel
theorem dJ0_init_81219_3 : decode cJ0_init_81219 3 = .ok (.invokespecial 489, 3) := by decide +kernel
theorem dJ0_init_81219_6 : decode cJ0_init_81219 6 = .ok (.return_, 1) := by decide +kernel
theorem dJ0_length_8abf5_0 : decode cJ0_length_8abf5 0 = .ok (.aload_n 0, 1) := by decide +kernel
theorem dJ0_length_8abf5_1 : decode cJ0_length_8abf5 1 = .ok (.getfield 9, 3) := by decide +kernel
theorem dJ0_length_8abf5_4 : decode cJ0_length_8abf5 4 = .ok (.arraylength, 1) := by decide +kernel
theorem dJ0_length_8abf5_5 : decode cJ0_length_8abf5 5 = .ok (.aload_n 0, 1) := by decide +kernel
theorem dJ0_length_8abf5_6 : decode cJ0_length_8abf5 6 = .ok (.invokevirtual 335, 3) := by decide +kernel
theorem dJ0_length_8abf5_9 : decode cJ0_length_8abf5 9 = .ok (.ishr, 1) := by decide +kernel
theorem dJ0_length_8abf5_10 : decode cJ0_length_8abf5 10 = .ok (.ireturn, 1) := by decide +kernel
theorem dJ0_charAt_5068e_0 : decode cJ0_charAt_5068e 0 = .ok (.aload_n 0, 1) := by decide +kernel
theorem dJ0_charAt_5068e_1 : decode cJ0_charAt_5068e 1 = .ok (.invokevirtual 492, 3) := by decide +kernel
theorem dJ0_charAt_5068e_4 : decode cJ0_charAt_5068e 4 = .ok (.ifCond .eq 12, 3) := by decide +kernel
theorem dJ0_charAt_5068e_7 : decode cJ0_charAt_5068e 7 = .ok (.aload_n 0, 1) := by decide +kernel
theorem dJ0_charAt_5068e_8 : decode cJ0_charAt_5068e 8 = .ok (.getfield 9, 3) := by decide +kernel
theorem dJ0_charAt_5068e_11 : decode cJ0_charAt_5068e 11 = .ok (.iload_n 1, 1) := by decide +kernel
theorem dJ0_charAt_5068e_12 : decode cJ0_charAt_5068e 12 = .ok (.invokestatic 495, 3) := by decide +kernel
theorem dJ0_charAt_5068e_15 : decode cJ0_charAt_5068e 15 = .ok (.ireturn, 1) := by decide +kernel
theorem dJ0_charAt_5068e_16 : decode cJ0_charAt_5068e 16 = .ok (.aload_n 0, 1) := by decide +kernel
theorem dJ0_charAt_5068e_17 : decode cJ0_charAt_5068e 17 = .ok (.getfield 9, 3) := by decide +kernel
theorem dJ0_charAt_5068e_20 : decode cJ0_charAt_5068e 20 = .ok (.iload_n 1, 1) := by decide +kernel
theorem dJ0_charAt_5068e_21 : decode cJ0_charAt_5068e 21 = .ok (.invokestatic 498, 3) := by decide +kernel
theorem dJ0_charAt_5068e_24 : decode cJ0_charAt_5068e 24 = .ok (.ireturn, 1) := by decide +kernel
theorem dJ0_getBytes_840e7_0 : decode cJ0_getBytes_840e7 0 = .ok (.aload_n 0, 1) := by decide +kernel
theorem dJ0_getBytes_840e7_1 : decode cJ0_getBytes_840e7 1 = .ok (.invokevirtual 335, 3) := by decide +kernel
theorem dJ0_getBytes_840e7_4 : decode cJ0_getBytes_840e7 4 = .ok (.iload_n 3, 1) := by decide +kernel
theorem dJ0_getBytes_840e7_5 : decode cJ0_getBytes_840e7 5 = .ok (.if_icmp .ne 23, 3) := by decide +kernel
theorem dJ0_getBytes_840e7_8 : decode cJ0_getBytes_840e7 8 = .ok (.aload_n 0, 1) := by decide +kernel
theorem dJ0_getBytes_840e7_9 : decode cJ0_getBytes_840e7 9 = .ok (.getfield 9, 3) := by decide +kernel
theorem dJ0_getBytes_840e7_12 : decode cJ0_getBytes_840e7 12 = .ok (.iconst 0, 1) := by decide +kernel
theorem dJ0_getBytes_840e7_13 : decode cJ0_getBytes_840e7 13 = .ok (.aload_n 1, 1) := by decide +kernel
theorem dJ0_getBytes_840e7_14 : decode cJ0_getBytes_840e7 14 = .ok (.iload_n 2, 1) := by decide +kernel
theorem dJ0_getBytes_840e7_15 : decode cJ0_getBytes_840e7 15 = .ok (.iload_n 3, 1) := by decide +kernel
theorem dJ0_getBytes_840e7_16 : decode cJ0_getBytes_840e7 16 = .ok (.ishl, 1) := by decide +kernel
theorem dJ0_getBytes_840e7_17 : decode cJ0_getBytes_840e7 17 = .ok (.aload_n 0, 1) := by decide +kernel
theorem dJ0_getBytes_840e7_18 : decode cJ0_getBytes_840e7 18 = .ok (.getfield 9, 3) := by decide +kernel
theorem dJ0_getBytes_840e7_21 : decode cJ0_getBytes_840e7 21 = .ok (.arraylength, 1) := by decide +kernel
theorem dJ0_getBytes_840e7_22 : decode cJ0_getBytes_840e7 22 = .ok (.invokestatic 212, 3) := by decide +kernel
theorem dJ0_getBytes_840e7_25 : decode cJ0_getBytes_840e7 25 = .ok (.goto 18, 3) := by decide +kernel
theorem dJ0_getBytes_840e7_28 : decode cJ0_getBytes_840e7 28 = .ok (.aload_n 0, 1) := by decide +kernel
theorem dJ0_getBytes_840e7_29 : decode cJ0_getBytes_840e7 29 = .ok (.getfield 9, 3) := by decide +kernel
theorem dJ0_getBytes_840e7_32 : decode cJ0_getBytes_840e7 32 = .ok (.iconst 0, 1) := by decide +kernel
theorem dJ0_getBytes_840e7_33 : decode cJ0_getBytes_840e7 33 = .ok (.aload_n 1, 1) := by decide +kernel
theorem dJ0_getBytes_840e7_34 : decode cJ0_getBytes_840e7 34 = .ok (.iload_n 2, 1) := by decide +kernel
theorem dJ0_getBytes_840e7_35 : decode cJ0_getBytes_840e7 35 = .ok (.aload_n 0, 1) := by decide +kernel
theorem dJ0_getBytes_840e7_36 : decode cJ0_getBytes_840e7 36 = .ok (.getfield 9, 3) := by decide +kernel
theorem dJ0_getBytes_840e7_39 : decode cJ0_getBytes_840e7 39 = .ok (.arraylength, 1) := by decide +kernel
theorem dJ0_getBytes_840e7_40 : decode cJ0_getBytes_840e7 40 = .ok (.invokestatic 106, 3) := by decide +kernel
theorem dJ0_getBytes_840e7_43 : decode cJ0_getBytes_840e7 43 = .ok (.return_, 1) := by decide +kernel
theorem dJ0_init_db425_0 : decode cJ0_init_db425 0 = .ok (.aload_n 0, 1) := by decide +kernel
theorem dJ0_init_db425_1 : decode cJ0_init_db425 1 = .ok (.invokespecial 1, 3) := by decide +kernel
theorem dJ0_init_db425_4 : decode cJ0_init_db425 4 = .ok (.aload_n 1, 1) := by decide +kernel
theorem dJ0_init_db425_5 : decode cJ0_init_db425 5 = .ok (.invokevirtual 552, 3) := by decide +kernel
theorem dJ0_init_db425_8 : decode cJ0_init_db425 8 = .ok (.astore_n 3, 1) := by decide +kernel
theorem dJ0_init_db425_9 : decode cJ0_init_db425 9 = .ok (.aload_n 1, 1) := by decide +kernel
theorem dJ0_init_db425_10 : decode cJ0_init_db425 10 = .ok (.invokevirtual 549, 3) := by decide +kernel
theorem dJ0_init_db425_13 : decode cJ0_init_db425 13 = .ok (.istore 4, 2) := by decide +kernel
theorem dJ0_init_db425_15 : decode cJ0_init_db425 15 = .ok (.aload_n 1, 1) := by decide +kernel
theorem dJ0_init_db425_16 : decode cJ0_init_db425 16 = .ok (.invokevirtual 1047, 3) := by decide +kernel
theorem dJ0_init_db425_19 : decode cJ0_init_db425 19 = .ok (.ifCond .eq 22, 3) := by decide +kernel
theorem dJ0_init_db425_22 : decode cJ0_init_db425 22 = .ok (.aload_n 0, 1) := by decide +kernel
theorem dJ0_init_db425_23 : decode cJ0_init_db425 23 = .ok (.iconst 0, 1) := by decide +kernel
theorem dJ0_init_db425_24 : decode cJ0_init_db425 24 = .ok (.putfield 15, 3) := by decide +kernel
theorem dJ0_init_db425_27 : decode cJ0_init_db425 27 = .ok (.aload_n 0, 1) := by decide +kernel
theorem dJ0_init_db425_28 : decode cJ0_init_db425 28 = .ok (.aload_n 3, 1) := by decide +kernel
theorem dJ0_init_db425_29 : decode cJ0_init_db425 29 = .ok (.iconst 0, 1) := by decide +kernel
theorem dJ0_init_db425_30 : decode cJ0_init_db425 30 = .ok (.iload 4, 2) := by decide +kernel
theorem dJ0_init_db425_32 : decode cJ0_init_db425 32 = .ok (.invokestatic 54, 3) := by decide +kernel
theorem dJ0_init_db425_35 : decode cJ0_init_db425 35 = .ok (.putfield 9, 3) := by decide +kernel
theorem dJ0_init_db425_38 : decode cJ0_init_db425 38 = .ok (.goto 59, 3) := by decide +kernel
theorem dJ0_init_db425_41 : decode cJ0_init_db425 41 = .ok (.getstatic 38, 3) := by decide +kernel
theorem dJ0_init_db425_44 : decode cJ0_init_db425 44 = .ok (.ifCond .eq 35, 3) := by decide +kernel
theorem dJ0_init_db425_47 : decode cJ0_init_db425 47 = .ok (.aload_n 1, 1) := by decide +kernel
theorem dJ0_init_db425_48 : decode cJ0_init_db425 48 = .ok (.getfield 1048, 3) := by decide +kernel
theorem dJ0_init_db425_51 : decode cJ0_init_db425 51 = .ok (.ifCond .eq 28, 3) := by decide +kernel
theorem dJ0_init_db425_54 : decode cJ0_init_db425 54 = .ok (.aload_n 0, 1) := by decide +kernel
theorem dJ0_init_db425_55 : decode cJ0_init_db425 55 = .ok (.aload_n 3, 1) := by decide +kernel
theorem dJ0_init_db425_56 : decode cJ0_init_db425 56 = .ok (.iconst 0, 1) := by decide +kernel
theorem dJ0_init_db425_57 : decode cJ0_init_db425 57 = .ok (.iload 4, 2) := by decide +kernel
theorem dJ0_init_db425_59 : decode cJ0_init_db425 59 = .ok (.invokestatic 1051, 3) := by decide +kernel
theorem dJ0_init_db425_62 : decode cJ0_init_db425 62 = .ok (.putfield 9, 3) := by decide +kernel
theorem dJ0_init_db425_65 : decode cJ0_init_db425 65 = .ok (.aload_n 0, 1) := by decide +kernel
theorem dJ0_init_db425_66 : decode cJ0_init_db425 66 = .ok (.aload_n 0, 1) := by decide +kernel
theorem dJ0_init_db425_67 : decode cJ0_init_db425 67 = .ok (.getfield 9, 3) := by decide +kernel
theorem dJ0_init_db425_70 : decode cJ0_init_db425 70 = .ok (.iload 4, 2) := by decide +kernel
theorem dJ0_init_db425_72 : decode cJ0_init_db425 72 = .ok (.invokestatic 47, 3) := by decide +kernel
theorem dJ0_init_db425_75 : decode cJ0_init_db425 75 = .ok (.putfield 15, 3) := by decide +kernel
theorem dJ0_init_db425_78 : decode cJ0_init_db425 78 = .ok (.return_, 1) := by decide +kernel
theorem dJ0_init_db425_79 : decode cJ0_init_db425 79 = .ok (.aload_n 0, 1) := by decide +kernel
theorem dJ0_init_db425_80 : decode cJ0_init_db425 80 = .ok (.iconst 1, 1) := by decide +kernel
theorem dJ0_init_db425_81 : decode cJ0_init_db425 81 = .ok (.putfield 15, 3) := by decide +kernel
theorem dJ0_init_db425_84 : decode cJ0_init_db425 84 = .ok (.aload_n 0, 1) := by decide +kernel
theorem dJ0_init_db425_85 : decode cJ0_init_db425 85 = .ok (.aload_n 3, 1) := by decide +kernel
theorem dJ0_init_db425_86 : decode cJ0_init_db425 86 = .ok (.iconst 0, 1) := by decide +kernel
theorem dJ0_init_db425_87 : decode cJ0_init_db425 87 = .ok (.iload 4, 2) := by decide +kernel
theorem dJ0_init_db425_89 : decode cJ0_init_db425 89 = .ok (.iconst 1, 1) := by decide +kernel
theorem dJ0_init_db425_90 : decode cJ0_init_db425 90 = .ok (.ishl, 1) := by decide +kernel
theorem dJ0_init_db425_91 : decode cJ0_init_db425 91 = .ok (.invokestatic 54, 3) := by decide +kernel
theorem dJ0_init_db425_94 : decode cJ0_init_db425 94 = .ok (.putfield 9, 3) := by decide +kernel
theorem dJ0_init_db425_97 : decode cJ0_init_db425 97 = .ok (.return_, 1) := by decide +kernel
theorem dJ0_coder_7d493_0 : decode cJ0_coder_7d493 0 = .ok (.getstatic 38, 3) := by decide +kernel
theorem dJ0_coder_7d493_3 : decode cJ0_coder_7d493 3 = .ok (.ifCond .eq 10, 3) := by decide +kernel
theorem dJ0_coder_7d493_6 : decode cJ0_coder_7d493 6 = .ok (.aload_n 0, 1) := by decide +kernel
theorem dJ0_coder_7d493_7 : decode cJ0_coder_7d493 7 = .ok (.getfield 15, 3) := by decide +kernel
theorem dJ0_coder_7d493_10 : decode cJ0_coder_7d493 10 = .ok (.goto 4, 3) := by decide +kernel
theorem dJ0_coder_7d493_13 : decode cJ0_coder_7d493 13 = .ok (.iconst 1, 1) := by decide +kernel
theorem dJ0_coder_7d493_14 : decode cJ0_coder_7d493 14 = .ok (.ireturn, 1) := by decide +kernel
theorem dJ0_isLatin1_aae02_0 : decode cJ0_isLatin1_aae02 0 = .ok (.getstatic 38, 3) := by decide +kernel
theorem dJ0_isLatin1_aae02_3 : decode cJ0_isLatin1_aae02 3 = .ok (.ifCond .eq 14, 3) := by decide +kernel
theorem dJ0_isLatin1_aae02_6 : decode cJ0_isLatin1_aae02 6 = .ok (.aload_n 0, 1) := by decide +kernel
theorem dJ0_isLatin1_aae02_7 : decode cJ0_isLatin1_aae02 7 = .ok (.getfield 15, 3) := by decide +kernel
theorem dJ0_isLatin1_aae02_10 : decode cJ0_isLatin1_aae02 10 = .ok (.ifCond .ne 7, 3) := by decide +kernel
theorem dJ0_isLatin1_aae02_13 : decode cJ0_isLatin1_aae02 13 = .ok (.iconst 1, 1) := by decide +kernel
theorem dJ0_isLatin1_aae02_14 : decode cJ0_isLatin1_aae02 14 = .ok (.goto 4, 3) := by decide +kernel
theorem dJ0_isLatin1_aae02_17 : decode cJ0_isLatin1_aae02 17 = .ok (.iconst 0, 1) := by decide +kernel
theorem dJ0_isLatin1_aae02_18 : decode cJ0_isLatin1_aae02 18 = .ok (.ireturn, 1) := by decide +kernel
theorem dJ0_checkIndex_df160_0 : decode cJ0_checkIndex_df160 0 = .ok (.iload_n 0, 1) := by decide +kernel
theorem dJ0_checkIndex_df160_1 : decode cJ0_checkIndex_df160 1 = .ok (.iload_n 1, 1) := by decide +kernel
theorem dJ0_checkIndex_df160_2 : decode cJ0_checkIndex_df160 2 = .ok (.getstatic 1053, 3) := by decide +kernel
theorem dJ0_checkIndex_df160_5 : decode cJ0_checkIndex_df160 5 = .ok (.invokestatic 1059, 3) := by decide +kernel
theorem dJ0_checkIndex_df160_8 : decode cJ0_checkIndex_df160 8 = .ok (.pop, 1) := by decide +kernel
theorem dJ0_checkIndex_df160_9 : decode cJ0_checkIndex_df160 9 = .ok (.return_, 1) := by decide +kernel
theorem dJ0_checkBoundsOffCount_cabcc_0 : decode cJ0_checkBoundsOffCount_cabcc 0 = .ok (.iload_n 0, 1) := by decide +kernel
theorem dJ0_checkBoundsOffCount_cabcc_1 : decode cJ0_checkBoundsOffCount_cabcc 1 = .ok (.iload_n 1, 1) := by decide +kernel
theorem dJ0_checkBoundsOffCount_cabcc_2 : decode cJ0_checkBoundsOffCount_cabcc 2 = .ok (.iload_n 2, 1) := by decide +kernel
theorem dJ0_checkBoundsOffCount_cabcc_3 : decode cJ0_checkBoundsOffCount_cabcc 3 = .ok (.getstatic 1053, 3) := by decide +kernel
theorem dJ0_checkBoundsOffCount_cabcc_6 : decode cJ0_checkBoundsOffCount_cabcc 6 = .ok (.invokestatic 1065, 3) := by decide +kernel
theorem dJ0_checkBoundsOffCount_cabcc_9 : decode cJ0_checkBoundsOffCount_cabcc 9 = .ok (.ireturn, 1) := by decide +kernel
theorem dJ0_checkBoundsBeginEnd_23922_0 : decode cJ0_checkBoundsBeginEnd_23922 0 = .ok (.iload_n 0, 1) := by decide +kernel
theorem dJ0_checkBoundsBeginEnd_23922_1 : decode cJ0_checkBoundsBeginEnd_23922 1 = .ok (.iload_n 1, 1) := by decide +kernel
theorem dJ0_checkBoundsBeginEnd_23922_2 : decode cJ0_checkBoundsBeginEnd_23922 2 = .ok (.iload_n 2, 1) := by decide +kernel
theorem dJ0_checkBoundsBeginEnd_23922_3 : decode cJ0_checkBoundsBeginEnd_23922 3 = .ok (.getstatic 1053, 3) := by decide +kernel
theorem dJ0_checkBoundsBeginEnd_23922_6 : decode cJ0_checkBoundsBeginEnd_23922 6 = .ok (.invokestatic 1062, 3) := by decide +kernel
theorem dJ0_checkBoundsBeginEnd_23922_9 : decode cJ0_checkBoundsBeginEnd_23922 9 = .ok (.pop, 1) := by decide +kernel
theorem dJ0_checkBoundsBeginEnd_23922_10 : decode cJ0_checkBoundsBeginEnd_23922 10 = .ok (.return_, 1) := by decide +kernel
theorem dJ1_charAt_3b067_0 : decode cJ1_charAt_3b067 0 = .ok (.iload_n 1, 1) := by decide +kernel
theorem dJ1_charAt_3b067_1 : decode cJ1_charAt_3b067 1 = .ok (.aload_n 0, 1) := by decide +kernel
theorem dJ1_charAt_3b067_2 : decode cJ1_charAt_3b067 2 = .ok (.arraylength, 1) := by decide +kernel
theorem dJ1_charAt_3b067_3 : decode cJ1_charAt_3b067 3 = .ok (.invokestatic 9, 3) := by decide +kernel
theorem dJ1_charAt_3b067_6 : decode cJ1_charAt_3b067 6 = .ok (.aload_n 0, 1) := by decide +kernel
theorem dJ1_charAt_3b067_7 : decode cJ1_charAt_3b067 7 = .ok (.iload_n 1, 1) := by decide +kernel
theorem dJ1_charAt_3b067_8 : decode cJ1_charAt_3b067 8 = .ok (.baload, 1) := by decide +kernel
theorem dJ1_charAt_3b067_9 : decode cJ1_charAt_3b067 9 = .ok (.sipush 255, 3) := by decide +kernel
theorem dJ1_charAt_3b067_12 : decode cJ1_charAt_3b067 12 = .ok (.iand, 1) := by decide +kernel
theorem dJ1_charAt_3b067_13 : decode cJ1_charAt_3b067 13 = .ok (.i2c, 1) := by decide +kernel
theorem dJ1_charAt_3b067_14 : decode cJ1_charAt_3b067 14 = .ok (.ireturn, 1) := by decide +kernel
theorem dJ1_canEncode_fc78d_0 : decode cJ1_canEncode_fc78d 0 = .ok (.iload_n 0, 1) := by decide +kernel
theorem dJ1_canEncode_fc78d_1 : decode cJ1_canEncode_fc78d 1 = .ok (.sipush 255, 3) := by decide +kernel
theorem dJ1_canEncode_fc78d_4 : decode cJ1_canEncode_fc78d 4 = .ok (.if_icmp .gt 7, 3) := by decide +kernel
theorem dJ1_canEncode_fc78d_7 : decode cJ1_canEncode_fc78d 7 = .ok (.iconst 1, 1) := by decide +kernel
theorem dJ1_canEncode_fc78d_8 : decode cJ1_canEncode_fc78d 8 = .ok (.goto 4, 3) := by decide +kernel
theorem dJ1_canEncode_fc78d_11 : decode cJ1_canEncode_fc78d 11 = .ok (.iconst 0, 1) := by decide +kernel
theorem dJ1_canEncode_fc78d_12 : decode cJ1_canEncode_fc78d 12 = .ok (.ireturn, 1) := by decide +kernel
theorem dJ1_fillNull_b72d1_0 : decode cJ1_fillNull_b72d1 0 = .ok (.aload_n 0, 1) := by decide +kernel
theorem dJ1_fillNull_b72d1_1 : decode cJ1_fillNull_b72d1 1 = .ok (.iload_n 1, 1) := by decide +kernel
theorem dJ1_fillNull_b72d1_2 : decode cJ1_fillNull_b72d1 2 = .ok (.iload_n 2, 1) := by decide +kernel
theorem dJ1_fillNull_b72d1_3 : decode cJ1_fillNull_b72d1 3 = .ok (.iconst 0, 1) := by decide +kernel
theorem dJ1_fillNull_b72d1_4 : decode cJ1_fillNull_b72d1 4 = .ok (.invokestatic 236, 3) := by decide +kernel
theorem dJ1_fillNull_b72d1_7 : decode cJ1_fillNull_b72d1 7 = .ok (.return_, 1) := by decide +kernel
theorem dJ1_inflate_0e8fd_0 : decode cJ1_inflate_0e8fd 0 = .ok (.aload_n 0, 1) := by decide +kernel
theorem dJ1_inflate_0e8fd_1 : decode cJ1_inflate_0e8fd 1 = .ok (.iload_n 1, 1) := by decide +kernel
theorem dJ1_inflate_0e8fd_2 : decode cJ1_inflate_0e8fd 2 = .ok (.aload_n 2, 1) := by decide +kernel
theorem dJ1_inflate_0e8fd_3 : decode cJ1_inflate_0e8fd 3 = .ok (.iload_n 3, 1) := by decide +kernel
theorem dJ1_inflate_0e8fd_4 : decode cJ1_inflate_0e8fd 4 = .ok (.iload 4, 2) := by decide +kernel
theorem dJ1_inflate_0e8fd_6 : decode cJ1_inflate_0e8fd 6 = .ok (.invokestatic 240, 3) := by decide +kernel
theorem dJ1_inflate_0e8fd_9 : decode cJ1_inflate_0e8fd 9 = .ok (.return_, 1) := by decide +kernel
theorem dJ2_newBytesFor_77867_0 : decode cJ2_newBytesFor_77867 0 = .ok (.iload_n 0, 1) := by decide +kernel
theorem dJ2_newBytesFor_77867_1 : decode cJ2_newBytesFor_77867 1 = .ok (.invokestatic 11, 3) := by decide +kernel
theorem dJ2_newBytesFor_77867_4 : decode cJ2_newBytesFor_77867 4 = .ok (.newarray .byte, 2) := by decide +kernel
theorem dJ2_newBytesFor_77867_6 : decode cJ2_newBytesFor_77867 6 = .ok (.areturn, 1) := by decide +kernel
theorem dJ2_newBytesLength_0f7a4_0 : decode cJ2_newBytesLength_0f7a4 0 = .ok (.iload_n 0, 1) := by decide +kernel
theorem dJ2_newBytesLength_0f7a4_1 : decode cJ2_newBytesLength_0f7a4 1 = .ok (.ifCond .ge 11, 3) := by decide +kernel
theorem dJ2_newBytesLength_0f7a4_4 : decode cJ2_newBytesLength_0f7a4 4 = .ok (.new 17, 3) := by decide +kernel
theorem dJ2_newBytesLength_0f7a4_7 : decode cJ2_newBytesLength_0f7a4 7 = .ok (.dup, 1) := by decide +kernel
theorem dJ2_newBytesLength_0f7a4_8 : decode cJ2_newBytesLength_0f7a4 8 = .ok (.invokespecial 19, 3) := by decide +kernel
theorem dJ2_newBytesLength_0f7a4_11 : decode cJ2_newBytesLength_0f7a4 11 = .ok (.athrow, 1) := by decide +kernel
theorem dJ2_newBytesLength_0f7a4_12 : decode cJ2_newBytesLength_0f7a4 12 = .ok (.iload_n 0, 1) := by decide +kernel
theorem dJ2_newBytesLength_0f7a4_13 : decode cJ2_newBytesLength_0f7a4 13 = .ok (.ldc 20, 2) := by decide +kernel
theorem dJ2_newBytesLength_0f7a4_15 : decode cJ2_newBytesLength_0f7a4 15 = .ok (.if_icmp .lt 40, 3) := by decide +kernel
theorem dJ2_newBytesLength_0f7a4_18 : decode cJ2_newBytesLength_0f7a4 18 = .ok (.new 21, 3) := by decide +kernel
theorem dJ2_newBytesLength_0f7a4_21 : decode cJ2_newBytesLength_0f7a4 21 = .ok (.dup, 1) := by decide +kernel
theorem dJ2_newBytesLength_0f7a4_22 : decode cJ2_newBytesLength_0f7a4 22 = .ok (.new 23, 3) := by decide +kernel
theorem dJ2_newBytesLength_0f7a4_25 : decode cJ2_newBytesLength_0f7a4 25 = .ok (.dup, 1) := by decide +kernel
theorem dJ2_newBytesLength_0f7a4_26 : decode cJ2_newBytesLength_0f7a4 26 = .ok (.invokespecial 25, 3) := by decide +kernel
theorem dJ2_newBytesLength_0f7a4_29 : decode cJ2_newBytesLength_0f7a4 29 = .ok (.ldc 26, 2) := by decide +kernel
theorem dJ2_newBytesLength_0f7a4_31 : decode cJ2_newBytesLength_0f7a4 31 = .ok (.invokevirtual 28, 3) := by decide +kernel
theorem dJ2_newBytesLength_0f7a4_34 : decode cJ2_newBytesLength_0f7a4 34 = .ok (.iload_n 0, 1) := by decide +kernel
theorem dJ2_newBytesLength_0f7a4_35 : decode cJ2_newBytesLength_0f7a4 35 = .ok (.invokevirtual 32, 3) := by decide +kernel
theorem dJ2_newBytesLength_0f7a4_38 : decode cJ2_newBytesLength_0f7a4 38 = .ok (.ldc 35, 2) := by decide +kernel
theorem dJ2_newBytesLength_0f7a4_40 : decode cJ2_newBytesLength_0f7a4 40 = .ok (.invokevirtual 28, 3) := by decide +kernel
theorem dJ2_newBytesLength_0f7a4_43 : decode cJ2_newBytesLength_0f7a4 43 = .ok (.ldc 20, 2) := by decide +kernel
theorem dJ2_newBytesLength_0f7a4_45 : decode cJ2_newBytesLength_0f7a4 45 = .ok (.invokevirtual 32, 3) := by decide +kernel
theorem dJ2_newBytesLength_0f7a4_48 : decode cJ2_newBytesLength_0f7a4 48 = .ok (.invokevirtual 37, 3) := by decide +kernel
theorem dJ2_newBytesLength_0f7a4_51 : decode cJ2_newBytesLength_0f7a4 51 = .ok (.invokespecial 41, 3) := by decide +kernel
theorem dJ2_newBytesLength_0f7a4_54 : decode cJ2_newBytesLength_0f7a4 54 = .ok (.athrow, 1) := by decide +kernel
theorem dJ2_newBytesLength_0f7a4_55 : decode cJ2_newBytesLength_0f7a4 55 = .ok (.iload_n 0, 1) := by decide +kernel
theorem dJ2_newBytesLength_0f7a4_56 : decode cJ2_newBytesLength_0f7a4 56 = .ok (.iconst 1, 1) := by decide +kernel
theorem dJ2_newBytesLength_0f7a4_57 : decode cJ2_newBytesLength_0f7a4 57 = .ok (.ishl, 1) := by decide +kernel
theorem dJ2_newBytesLength_0f7a4_58 : decode cJ2_newBytesLength_0f7a4 58 = .ok (.ireturn, 1) := by decide +kernel
theorem dJ2_putChar_b72d1_0 : decode cJ2_putChar_b72d1 0 = .ok (.getstatic 44, 3) := by decide +kernel
theorem dJ2_putChar_b72d1_3 : decode cJ2_putChar_b72d1 3 = .ok (.ifCond .ne 25, 3) := by decide +kernel
theorem dJ2_putChar_b72d1_6 : decode cJ2_putChar_b72d1 6 = .ok (.iload_n 1, 1) := by decide +kernel
theorem dJ2_putChar_b72d1_7 : decode cJ2_putChar_b72d1 7 = .ok (.ifCond .lt 11, 3) := by decide +kernel
theorem dJ2_putChar_b72d1_10 : decode cJ2_putChar_b72d1 10 = .ok (.iload_n 1, 1) := by decide +kernel
theorem dJ2_putChar_b72d1_11 : decode cJ2_putChar_b72d1 11 = .ok (.aload_n 0, 1) := by decide +kernel
theorem dJ2_putChar_b72d1_12 : decode cJ2_putChar_b72d1 12 = .ok (.invokestatic 48, 3) := by decide +kernel
theorem dJ2_putChar_b72d1_15 : decode cJ2_putChar_b72d1 15 = .ok (.if_icmp .lt 13, 3) := by decide +kernel
theorem dJ2_putChar_b72d1_18 : decode cJ2_putChar_b72d1 18 = .ok (.new 52, 3) := by decide +kernel
theorem dJ2_putChar_b72d1_21 : decode cJ2_putChar_b72d1 21 = .ok (.dup, 1) := by decide +kernel
theorem dJ2_putChar_b72d1_22 : decode cJ2_putChar_b72d1 22 = .ok (.ldc 54, 2) := by decide +kernel
theorem dJ2_putChar_b72d1_24 : decode cJ2_putChar_b72d1 24 = .ok (.invokespecial 56, 3) := by decide +kernel
theorem dJ2_putChar_b72d1_27 : decode cJ2_putChar_b72d1 27 = .ok (.athrow, 1) := by decide +kernel
theorem dJ2_putChar_b72d1_28 : decode cJ2_putChar_b72d1 28 = .ok (.iload_n 1, 1) := by decide +kernel
theorem dJ2_putChar_b72d1_29 : decode cJ2_putChar_b72d1 29 = .ok (.iconst 1, 1) := by decide +kernel
theorem dJ2_putChar_b72d1_30 : decode cJ2_putChar_b72d1 30 = .ok (.ishl, 1) := by decide +kernel
theorem dJ2_putChar_b72d1_31 : decode cJ2_putChar_b72d1 31 = .ok (.istore_n 1, 1) := by decide +kernel
theorem dJ2_putChar_b72d1_32 : decode cJ2_putChar_b72d1 32 = .ok (.aload_n 0, 1) := by decide +kernel
theorem dJ2_putChar_b72d1_33 : decode cJ2_putChar_b72d1 33 = .ok (.iload_n 1, 1) := by decide +kernel
theorem dJ2_putChar_b72d1_34 : decode cJ2_putChar_b72d1 34 = .ok (.iinc 1 1, 3) := by decide +kernel
theorem dJ2_putChar_b72d1_37 : decode cJ2_putChar_b72d1 37 = .ok (.iload_n 2, 1) := by decide +kernel
theorem dJ2_putChar_b72d1_38 : decode cJ2_putChar_b72d1 38 = .ok (.getstatic 59, 3) := by decide +kernel
theorem dJ2_putChar_b72d1_41 : decode cJ2_putChar_b72d1 41 = .ok (.ishr, 1) := by decide +kernel
theorem dJ2_putChar_b72d1_42 : decode cJ2_putChar_b72d1 42 = .ok (.i2b, 1) := by decide +kernel
theorem dJ2_putChar_b72d1_43 : decode cJ2_putChar_b72d1 43 = .ok (.bastore, 1) := by decide +kernel
theorem dJ2_putChar_b72d1_44 : decode cJ2_putChar_b72d1 44 = .ok (.aload_n 0, 1) := by decide +kernel
theorem dJ2_putChar_b72d1_45 : decode cJ2_putChar_b72d1 45 = .ok (.iload_n 1, 1) := by decide +kernel
theorem dJ2_putChar_b72d1_46 : decode cJ2_putChar_b72d1 46 = .ok (.iload_n 2, 1) := by decide +kernel
theorem dJ2_putChar_b72d1_47 : decode cJ2_putChar_b72d1 47 = .ok (.getstatic 63, 3) := by decide +kernel
theorem dJ2_putChar_b72d1_50 : decode cJ2_putChar_b72d1 50 = .ok (.ishr, 1) := by decide +kernel
theorem dJ2_putChar_b72d1_51 : decode cJ2_putChar_b72d1 51 = .ok (.i2b, 1) := by decide +kernel
theorem dJ2_putChar_b72d1_52 : decode cJ2_putChar_b72d1 52 = .ok (.bastore, 1) := by decide +kernel
theorem dJ2_putChar_b72d1_53 : decode cJ2_putChar_b72d1 53 = .ok (.return_, 1) := by decide +kernel
theorem dJ2_getChar_3b067_0 : decode cJ2_getChar_3b067 0 = .ok (.getstatic 44, 3) := by decide +kernel
theorem dJ2_getChar_3b067_3 : decode cJ2_getChar_3b067 3 = .ok (.ifCond .ne 25, 3) := by decide +kernel
theorem dJ2_getChar_3b067_6 : decode cJ2_getChar_3b067 6 = .ok (.iload_n 1, 1) := by decide +kernel
theorem dJ2_getChar_3b067_7 : decode cJ2_getChar_3b067 7 = .ok (.ifCond .lt 11, 3) := by decide +kernel
theorem dJ2_getChar_3b067_10 : decode cJ2_getChar_3b067 10 = .ok (.iload_n 1, 1) := by decide +kernel
theorem dJ2_getChar_3b067_11 : decode cJ2_getChar_3b067 11 = .ok (.aload_n 0, 1) := by decide +kernel
theorem dJ2_getChar_3b067_12 : decode cJ2_getChar_3b067 12 = .ok (.invokestatic 48, 3) := by decide +kernel
theorem dJ2_getChar_3b067_15 : decode cJ2_getChar_3b067 15 = .ok (.if_icmp .lt 13, 3) := by decide +kernel
theorem dJ2_getChar_3b067_18 : decode cJ2_getChar_3b067 18 = .ok (.new 52, 3) := by decide +kernel
theorem dJ2_getChar_3b067_21 : decode cJ2_getChar_3b067 21 = .ok (.dup, 1) := by decide +kernel
theorem dJ2_getChar_3b067_22 : decode cJ2_getChar_3b067 22 = .ok (.ldc 54, 2) := by decide +kernel
theorem dJ2_getChar_3b067_24 : decode cJ2_getChar_3b067 24 = .ok (.invokespecial 56, 3) := by decide +kernel
theorem dJ2_getChar_3b067_27 : decode cJ2_getChar_3b067 27 = .ok (.athrow, 1) := by decide +kernel
theorem dJ2_getChar_3b067_28 : decode cJ2_getChar_3b067 28 = .ok (.iload_n 1, 1) := by decide +kernel
theorem dJ2_getChar_3b067_29 : decode cJ2_getChar_3b067 29 = .ok (.iconst 1, 1) := by decide +kernel
theorem dJ2_getChar_3b067_30 : decode cJ2_getChar_3b067 30 = .ok (.ishl, 1) := by decide +kernel
theorem dJ2_getChar_3b067_31 : decode cJ2_getChar_3b067 31 = .ok (.istore_n 1, 1) := by decide +kernel
theorem dJ2_getChar_3b067_32 : decode cJ2_getChar_3b067 32 = .ok (.aload_n 0, 1) := by decide +kernel
theorem dJ2_getChar_3b067_33 : decode cJ2_getChar_3b067 33 = .ok (.iload_n 1, 1) := by decide +kernel
theorem dJ2_getChar_3b067_34 : decode cJ2_getChar_3b067 34 = .ok (.iinc 1 1, 3) := by decide +kernel
theorem dJ2_getChar_3b067_37 : decode cJ2_getChar_3b067 37 = .ok (.baload, 1) := by decide +kernel
theorem dJ2_getChar_3b067_38 : decode cJ2_getChar_3b067 38 = .ok (.sipush 255, 3) := by decide +kernel
theorem dJ2_getChar_3b067_41 : decode cJ2_getChar_3b067 41 = .ok (.iand, 1) := by decide +kernel
theorem dJ2_getChar_3b067_42 : decode cJ2_getChar_3b067 42 = .ok (.getstatic 59, 3) := by decide +kernel
theorem dJ2_getChar_3b067_45 : decode cJ2_getChar_3b067 45 = .ok (.ishl, 1) := by decide +kernel
theorem dJ2_getChar_3b067_46 : decode cJ2_getChar_3b067 46 = .ok (.aload_n 0, 1) := by decide +kernel
theorem dJ2_getChar_3b067_47 : decode cJ2_getChar_3b067 47 = .ok (.iload_n 1, 1) := by decide +kernel
theorem dJ2_getChar_3b067_48 : decode cJ2_getChar_3b067 48 = .ok (.baload, 1) := by decide +kernel
theorem dJ2_getChar_3b067_49 : decode cJ2_getChar_3b067 49 = .ok (.sipush 255, 3) := by decide +kernel
theorem dJ2_getChar_3b067_52 : decode cJ2_getChar_3b067 52 = .ok (.iand, 1) := by decide +kernel
theorem dJ2_getChar_3b067_53 : decode cJ2_getChar_3b067 53 = .ok (.getstatic 63, 3) := by decide +kernel
theorem dJ2_getChar_3b067_56 : decode cJ2_getChar_3b067 56 = .ok (.ishl, 1) := by decide +kernel
theorem dJ2_getChar_3b067_57 : decode cJ2_getChar_3b067 57 = .ok (.ior, 1) := by decide +kernel
theorem dJ2_getChar_3b067_58 : decode cJ2_getChar_3b067 58 = .ok (.i2c, 1) := by decide +kernel
theorem dJ2_getChar_3b067_59 : decode cJ2_getChar_3b067 59 = .ok (.ireturn, 1) := by decide +kernel
theorem dJ2_length_9d52b_0 : decode cJ2_length_9d52b 0 = .ok (.aload_n 0, 1) := by decide +kernel
theorem dJ2_length_9d52b_1 : decode cJ2_length_9d52b 1 = .ok (.arraylength, 1) := by decide +kernel
theorem dJ2_length_9d52b_2 : decode cJ2_length_9d52b 2 = .ok (.iconst 1, 1) := by decide +kernel
theorem dJ2_length_9d52b_3 : decode cJ2_length_9d52b 3 = .ok (.ishr, 1) := by decide +kernel
theorem dJ2_length_9d52b_4 : decode cJ2_length_9d52b 4 = .ok (.ireturn, 1) := by decide +kernel
theorem dJ2_coderFromArrayLen_85cad_0 : decode cJ2_coderFromArrayLen_85cad 0 = .ok (.iload_n 1, 1) := by decide +kernel
theorem dJ2_coderFromArrayLen_85cad_1 : decode cJ2_coderFromArrayLen_85cad 1 = .ok (.aload_n 0, 1) := by decide +kernel
theorem dJ2_coderFromArrayLen_85cad_2 : decode cJ2_coderFromArrayLen_85cad 2 = .ok (.arraylength, 1) := by decide +kernel
theorem dJ2_coderFromArrayLen_85cad_3 : decode cJ2_coderFromArrayLen_85cad 3 = .ok (.isub, 1) := by decide +kernel
theorem dJ2_coderFromArrayLen_85cad_4 : decode cJ2_coderFromArrayLen_85cad 4 = .ok (.bipush 31, 2) := by decide +kernel
theorem dJ2_coderFromArrayLen_85cad_6 : decode cJ2_coderFromArrayLen_85cad 6 = .ok (.iushr, 1) := by decide +kernel
theorem dJ2_coderFromArrayLen_85cad_7 : decode cJ2_coderFromArrayLen_85cad 7 = .ok (.i2b, 1) := by decide +kernel
theorem dJ2_coderFromArrayLen_85cad_8 : decode cJ2_coderFromArrayLen_85cad 8 = .ok (.ireturn, 1) := by decide +kernel
theorem dJ2_compress_39247_0 : decode cJ2_compress_39247 0 = .ok (.iload_n 2, 1) := by decide +kernel
theorem dJ2_compress_39247_1 : decode cJ2_compress_39247 1 = .ok (.newarray .byte, 2) := by decide +kernel
theorem dJ2_compress_39247_3 : decode cJ2_compress_39247 3 = .ok (.astore_n 3, 1) := by decide +kernel
theorem dJ2_compress_39247_4 : decode cJ2_compress_39247 4 = .ok (.aload_n 0, 1) := by decide +kernel
theorem dJ2_compress_39247_5 : decode cJ2_compress_39247 5 = .ok (.iload_n 1, 1) := by decide +kernel
theorem dJ2_compress_39247_6 : decode cJ2_compress_39247 6 = .ok (.aload_n 3, 1) := by decide +kernel
theorem dJ2_compress_39247_7 : decode cJ2_compress_39247 7 = .ok (.iconst 0, 1) := by decide +kernel
theorem dJ2_compress_39247_8 : decode cJ2_compress_39247 8 = .ok (.iload_n 2, 1) := by decide +kernel
theorem dJ2_compress_39247_9 : decode cJ2_compress_39247 9 = .ok (.invokestatic 123, 3) := by decide +kernel
theorem dJ2_compress_39247_12 : decode cJ2_compress_39247 12 = .ok (.istore 4, 2) := by decide +kernel
theorem dJ2_compress_39247_14 : decode cJ2_compress_39247 14 = .ok (.iload 4, 2) := by decide +kernel
theorem dJ2_compress_39247_16 : decode cJ2_compress_39247 16 = .ok (.iload_n 2, 1) := by decide +kernel
theorem dJ2_compress_39247_17 : decode cJ2_compress_39247 17 = .ok (.if_icmp .eq 47, 3) := by decide +kernel
theorem dJ2_compress_39247_20 : decode cJ2_compress_39247 20 = .ok (.aload_n 0, 1) := by decide +kernel
theorem dJ2_compress_39247_21 : decode cJ2_compress_39247 21 = .ok (.iload_n 1, 1) := by decide +kernel
theorem dJ2_compress_39247_22 : decode cJ2_compress_39247 22 = .ok (.iconst 1, 1) := by decide +kernel
theorem dJ2_compress_39247_23 : decode cJ2_compress_39247 23 = .ok (.ishl, 1) := by decide +kernel
theorem dJ2_compress_39247_24 : decode cJ2_compress_39247 24 = .ok (.iload_n 1, 1) := by decide +kernel
theorem dJ2_compress_39247_25 : decode cJ2_compress_39247 25 = .ok (.iload_n 2, 1) := by decide +kernel
theorem dJ2_compress_39247_26 : decode cJ2_compress_39247 26 = .ok (.iadd, 1) := by decide +kernel
theorem dJ2_compress_39247_27 : decode cJ2_compress_39247 27 = .ok (.invokestatic 11, 3) := by decide +kernel
theorem dJ2_compress_39247_30 : decode cJ2_compress_39247 30 = .ok (.invokestatic 126, 3) := by decide +kernel
theorem dJ2_compress_39247_33 : decode cJ2_compress_39247 33 = .ok (.astore 5, 2) := by decide +kernel
theorem dJ2_compress_39247_35 : decode cJ2_compress_39247 35 = .ok (.aload 5, 2) := by decide +kernel
theorem dJ2_compress_39247_37 : decode cJ2_compress_39247 37 = .ok (.iload 4, 2) := by decide +kernel
theorem dJ2_compress_39247_39 : decode cJ2_compress_39247 39 = .ok (.invokestatic 71, 3) := by decide +kernel
theorem dJ2_compress_39247_42 : decode cJ2_compress_39247 42 = .ok (.sipush 255, 3) := by decide +kernel
theorem dJ2_compress_39247_45 : decode cJ2_compress_39247 45 = .ok (.if_icmp .gt 16, 3) := by decide +kernel
theorem dJ2_compress_39247_48 : decode cJ2_compress_39247 48 = .ok (.aload 5, 2) := by decide +kernel
theorem dJ2_compress_39247_50 : decode cJ2_compress_39247 50 = .ok (.iconst 0, 1) := by decide +kernel
theorem dJ2_compress_39247_51 : decode cJ2_compress_39247 51 = .ok (.aload_n 3, 1) := by decide +kernel
theorem dJ2_compress_39247_52 : decode cJ2_compress_39247 52 = .ok (.iconst 0, 1) := by decide +kernel
theorem dJ2_compress_39247_53 : decode cJ2_compress_39247 53 = .ok (.iload_n 2, 1) := by decide +kernel
theorem dJ2_compress_39247_54 : decode cJ2_compress_39247 54 = .ok (.invokestatic 123, 3) := by decide +kernel
theorem dJ2_compress_39247_57 : decode cJ2_compress_39247 57 = .ok (.iload_n 2, 1) := by decide +kernel
theorem dJ2_compress_39247_58 : decode cJ2_compress_39247 58 = .ok (.if_icmp .eq 6, 3) := by decide +kernel
theorem dJ2_compress_39247_61 : decode cJ2_compress_39247 61 = .ok (.aload 5, 2) := by decide +kernel
theorem dJ2_compress_39247_63 : decode cJ2_compress_39247 63 = .ok (.areturn, 1) := by decide +kernel
theorem dJ2_compress_39247_64 : decode cJ2_compress_39247 64 = .ok (.aload_n 3, 1) := by decide +kernel
theorem dJ2_compress_39247_65 : decode cJ2_compress_39247 65 = .ok (.areturn, 1) := by decide +kernel
theorem dJ2_compress_5af95_0 : decode cJ2_compress_5af95 0 = .ok (.iload_n 1, 1) := by decide +kernel
theorem dJ2_compress_5af95_1 : decode cJ2_compress_5af95 1 = .ok (.iload 4, 2) := by decide +kernel
theorem dJ2_compress_5af95_3 : decode cJ2_compress_5af95 3 = .ok (.aload_n 0, 1) := by decide +kernel
theorem dJ2_compress_5af95_4 : decode cJ2_compress_5af95 4 = .ok (.invokestatic 173, 3) := by decide +kernel
theorem dJ2_compress_5af95_7 : decode cJ2_compress_5af95 7 = .ok (.iconst 0, 1) := by decide +kernel
theorem dJ2_compress_5af95_8 : decode cJ2_compress_5af95 8 = .ok (.istore 5, 2) := by decide +kernel
theorem dJ2_compress_5af95_10 : decode cJ2_compress_5af95 10 = .ok (.iload 5, 2) := by decide +kernel
theorem dJ2_compress_5af95_12 : decode cJ2_compress_5af95 12 = .ok (.iload 4, 2) := by decide +kernel
theorem dJ2_compress_5af95_14 : decode cJ2_compress_5af95 14 = .ok (.if_icmp .ge 39, 3) := by decide +kernel
theorem dJ2_compress_5af95_17 : decode cJ2_compress_5af95 17 = .ok (.aload_n 0, 1) := by decide +kernel
theorem dJ2_compress_5af95_18 : decode cJ2_compress_5af95 18 = .ok (.iload_n 1, 1) := by decide +kernel
theorem dJ2_compress_5af95_19 : decode cJ2_compress_5af95 19 = .ok (.invokestatic 71, 3) := by decide +kernel
theorem dJ2_compress_5af95_22 : decode cJ2_compress_5af95 22 = .ok (.istore 6, 2) := by decide +kernel
theorem dJ2_compress_5af95_24 : decode cJ2_compress_5af95 24 = .ok (.iload 6, 2) := by decide +kernel
theorem dJ2_compress_5af95_26 : decode cJ2_compress_5af95 26 = .ok (.sipush 255, 3) := by decide +kernel
theorem dJ2_compress_5af95_29 : decode cJ2_compress_5af95 29 = .ok (.if_icmp .le 6, 3) := by decide +kernel
theorem dJ2_compress_5af95_32 : decode cJ2_compress_5af95 32 = .ok (.iload 5, 2) := by decide +kernel
theorem dJ2_compress_5af95_34 : decode cJ2_compress_5af95 34 = .ok (.ireturn, 1) := by decide +kernel
theorem dJ2_compress_5af95_35 : decode cJ2_compress_5af95 35 = .ok (.aload_n 2, 1) := by decide +kernel
theorem dJ2_compress_5af95_36 : decode cJ2_compress_5af95 36 = .ok (.iload_n 3, 1) := by decide +kernel
theorem dJ2_compress_5af95_37 : decode cJ2_compress_5af95 37 = .ok (.iload 6, 2) := by decide +kernel
theorem dJ2_compress_5af95_39 : decode cJ2_compress_5af95 39 = .ok (.i2b, 1) := by decide +kernel
theorem dJ2_compress_5af95_40 : decode cJ2_compress_5af95 40 = .ok (.bastore, 1) := by decide +kernel
theorem dJ2_compress_5af95_41 : decode cJ2_compress_5af95 41 = .ok (.iinc 1 1, 3) := by decide +kernel
theorem dJ2_compress_5af95_44 : decode cJ2_compress_5af95 44 = .ok (.iinc 3 1, 3) := by decide +kernel
theorem dJ2_compress_5af95_47 : decode cJ2_compress_5af95 47 = .ok (.iinc 5 1, 3) := by decide +kernel
theorem dJ2_compress_5af95_50 : decode cJ2_compress_5af95 50 = .ok (.goto (-40), 3) := by decide +kernel
theorem dJ2_compress_5af95_53 : decode cJ2_compress_5af95 53 = .ok (.iload 4, 2) := by decide +kernel
theorem dJ2_compress_5af95_55 : decode cJ2_compress_5af95 55 = .ok (.ireturn, 1) := by decide +kernel
theorem dJ2_fillNull_b72d1_0 : decode cJ2_fillNull_b72d1 0 = .ok (.aload_n 0, 1) := by decide +kernel
theorem dJ2_fillNull_b72d1_1 : decode cJ2_fillNull_b72d1 1 = .ok (.iload_n 1, 1) := by decide +kernel
theorem dJ2_fillNull_b72d1_2 : decode cJ2_fillNull_b72d1 2 = .ok (.iconst 1, 1) := by decide +kernel
theorem dJ2_fillNull_b72d1_3 : decode cJ2_fillNull_b72d1 3 = .ok (.ishl, 1) := by decide +kernel
theorem dJ2_fillNull_b72d1_4 : decode cJ2_fillNull_b72d1 4 = .ok (.iload_n 2, 1) := by decide +kernel
theorem dJ2_fillNull_b72d1_5 : decode cJ2_fillNull_b72d1 5 = .ok (.iconst 1, 1) := by decide +kernel
theorem dJ2_fillNull_b72d1_6 : decode cJ2_fillNull_b72d1 6 = .ok (.ishl, 1) := by decide +kernel
theorem dJ2_fillNull_b72d1_7 : decode cJ2_fillNull_b72d1 7 = .ok (.iconst 0, 1) := by decide +kernel
theorem dJ2_fillNull_b72d1_8 : decode cJ2_fillNull_b72d1 8 = .ok (.invokestatic 380, 3) := by decide +kernel
theorem dJ2_fillNull_b72d1_11 : decode cJ2_fillNull_b72d1 11 = .ok (.return_, 1) := by decide +kernel
theorem dJ2_putCharSB_b72d1_0 : decode cJ2_putCharSB_b72d1 0 = .ok (.iload_n 1, 1) := by decide +kernel
theorem dJ2_putCharSB_b72d1_1 : decode cJ2_putCharSB_b72d1 1 = .ok (.aload_n 0, 1) := by decide +kernel
theorem dJ2_putCharSB_b72d1_2 : decode cJ2_putCharSB_b72d1 2 = .ok (.invokestatic 67, 3) := by decide +kernel
theorem dJ2_putCharSB_b72d1_5 : decode cJ2_putCharSB_b72d1 5 = .ok (.aload_n 0, 1) := by decide +kernel
theorem dJ2_putCharSB_b72d1_6 : decode cJ2_putCharSB_b72d1 6 = .ok (.iload_n 1, 1) := by decide +kernel
theorem dJ2_putCharSB_b72d1_7 : decode cJ2_putCharSB_b72d1 7 = .ok (.iload_n 2, 1) := by decide +kernel
theorem dJ2_putCharSB_b72d1_8 : decode cJ2_putCharSB_b72d1 8 = .ok (.invokestatic 111, 3) := by decide +kernel
theorem dJ2_putCharSB_b72d1_11 : decode cJ2_putCharSB_b72d1 11 = .ok (.return_, 1) := by decide +kernel
theorem dJ2_getChars_46870_0 : decode cJ2_getChars_46870 0 = .ok (.iload_n 1, 1) := by decide +kernel
theorem dJ2_getChars_46870_1 : decode cJ2_getChars_46870 1 = .ok (.iload_n 2, 1) := by decide +kernel
theorem dJ2_getChars_46870_2 : decode cJ2_getChars_46870 2 = .ok (.aload_n 3, 1) := by decide +kernel
theorem dJ2_getChars_46870_3 : decode cJ2_getChars_46870 3 = .ok (.invokestatic 96, 3) := by decide +kernel
theorem dJ2_getChars_46870_6 : decode cJ2_getChars_46870 6 = .ok (.iload_n 0, 1) := by decide +kernel
theorem dJ2_getChars_46870_7 : decode cJ2_getChars_46870 7 = .ok (.iload_n 2, 1) := by decide +kernel
theorem dJ2_getChars_46870_8 : decode cJ2_getChars_46870 8 = .ok (.aload_n 3, 1) := by decide +kernel
theorem dJ2_getChars_46870_9 : decode cJ2_getChars_46870 9 = .ok (.invokestatic 393, 3) := by decide +kernel
theorem dJ2_getChars_46870_12 : decode cJ2_getChars_46870 12 = .ok (.istore 4, 2) := by decide +kernel
theorem dJ2_getChars_46870_14 : decode cJ2_getChars_46870 14 = .ok (.getstatic 44, 3) := by decide +kernel
theorem dJ2_getChars_46870_17 : decode cJ2_getChars_46870 17 = .ok (.ifCond .ne 17, 3) := by decide +kernel
theorem dJ2_getChars_46870_20 : decode cJ2_getChars_46870 20 = .ok (.iload_n 1, 1) := by decide +kernel
theorem dJ2_getChars_46870_21 : decode cJ2_getChars_46870 21 = .ok (.iload 4, 2) := by decide +kernel
theorem dJ2_getChars_46870_23 : decode cJ2_getChars_46870 23 = .ok (.if_icmp .eq 11, 3) := by decide +kernel
theorem dJ2_getChars_46870_26 : decode cJ2_getChars_46870 26 = .ok (.new 52, 3) := by decide +kernel
theorem dJ2_getChars_46870_29 : decode cJ2_getChars_46870 29 = .ok (.dup, 1) := by decide +kernel
theorem dJ2_getChars_46870_30 : decode cJ2_getChars_46870 30 = .ok (.invokespecial 66, 3) := by decide +kernel
theorem dJ2_getChars_46870_33 : decode cJ2_getChars_46870 33 = .ok (.athrow, 1) := by decide +kernel
theorem dJ2_getChars_46870_34 : decode cJ2_getChars_46870 34 = .ok (.iload 4, 2) := by decide +kernel
theorem dJ2_getChars_46870_36 : decode cJ2_getChars_46870 36 = .ok (.ireturn, 1) := by decide +kernel
theorem dJ2_putCharsAt_cd4e5_0 : decode cJ2_putCharsAt_cd4e5 0 = .ok (.iload_n 1, 1) := by decide +kernel
theorem dJ2_putCharsAt_cd4e5_1 : decode cJ2_putCharsAt_cd4e5 1 = .ok (.iconst 4, 1) := by decide +kernel
theorem dJ2_putCharsAt_cd4e5_2 : decode cJ2_putCharsAt_cd4e5 2 = .ok (.iadd, 1) := by decide +kernel
theorem dJ2_putCharsAt_cd4e5_3 : decode cJ2_putCharsAt_cd4e5 3 = .ok (.istore 6, 2) := by decide +kernel
theorem dJ2_putCharsAt_cd4e5_5 : decode cJ2_putCharsAt_cd4e5 5 = .ok (.iload_n 1, 1) := by decide +kernel
theorem dJ2_putCharsAt_cd4e5_6 : decode cJ2_putCharsAt_cd4e5 6 = .ok (.iload 6, 2) := by decide +kernel
theorem dJ2_putCharsAt_cd4e5_8 : decode cJ2_putCharsAt_cd4e5 8 = .ok (.aload_n 0, 1) := by decide +kernel
theorem dJ2_putCharsAt_cd4e5_9 : decode cJ2_putCharsAt_cd4e5 9 = .ok (.invokestatic 96, 3) := by decide +kernel
theorem dJ2_putCharsAt_cd4e5_12 : decode cJ2_putCharsAt_cd4e5 12 = .ok (.aload_n 0, 1) := by decide +kernel
theorem dJ2_putCharsAt_cd4e5_13 : decode cJ2_putCharsAt_cd4e5 13 = .ok (.iload_n 1, 1) := by decide +kernel
theorem dJ2_putCharsAt_cd4e5_14 : decode cJ2_putCharsAt_cd4e5 14 = .ok (.iinc 1 1, 3) := by decide +kernel
theorem dJ2_putCharsAt_cd4e5_17 : decode cJ2_putCharsAt_cd4e5 17 = .ok (.iload_n 2, 1) := by decide +kernel
theorem dJ2_putCharsAt_cd4e5_18 : decode cJ2_putCharsAt_cd4e5 18 = .ok (.invokestatic 111, 3) := by decide +kernel
theorem dJ2_putCharsAt_cd4e5_21 : decode cJ2_putCharsAt_cd4e5 21 = .ok (.aload_n 0, 1) := by decide +kernel
theorem dJ2_putCharsAt_cd4e5_22 : decode cJ2_putCharsAt_cd4e5 22 = .ok (.iload_n 1, 1) := by decide +kernel
theorem dJ2_putCharsAt_cd4e5_23 : decode cJ2_putCharsAt_cd4e5 23 = .ok (.iinc 1 1, 3) := by decide +kernel
theorem dJ2_putCharsAt_cd4e5_26 : decode cJ2_putCharsAt_cd4e5 26 = .ok (.iload_n 3, 1) := by decide +kernel
theorem dJ2_putCharsAt_cd4e5_27 : decode cJ2_putCharsAt_cd4e5 27 = .ok (.invokestatic 111, 3) := by decide +kernel
theorem dJ2_putCharsAt_cd4e5_30 : decode cJ2_putCharsAt_cd4e5 30 = .ok (.aload_n 0, 1) := by decide +kernel
theorem dJ2_putCharsAt_cd4e5_31 : decode cJ2_putCharsAt_cd4e5 31 = .ok (.iload_n 1, 1) := by decide +kernel
theorem dJ2_putCharsAt_cd4e5_32 : decode cJ2_putCharsAt_cd4e5 32 = .ok (.iinc 1 1, 3) := by decide +kernel
theorem dJ2_putCharsAt_cd4e5_35 : decode cJ2_putCharsAt_cd4e5 35 = .ok (.iload 4, 2) := by decide +kernel
theorem dJ2_putCharsAt_cd4e5_37 : decode cJ2_putCharsAt_cd4e5 37 = .ok (.invokestatic 111, 3) := by decide +kernel
theorem dJ2_putCharsAt_cd4e5_40 : decode cJ2_putCharsAt_cd4e5 40 = .ok (.aload_n 0, 1) := by decide +kernel
theorem dJ2_putCharsAt_cd4e5_41 : decode cJ2_putCharsAt_cd4e5 41 = .ok (.iload_n 1, 1) := by decide +kernel
theorem dJ2_putCharsAt_cd4e5_42 : decode cJ2_putCharsAt_cd4e5 42 = .ok (.iinc 1 1, 3) := by decide +kernel
theorem dJ2_putCharsAt_cd4e5_45 : decode cJ2_putCharsAt_cd4e5 45 = .ok (.iload 5, 2) := by decide +kernel
theorem dJ2_putCharsAt_cd4e5_47 : decode cJ2_putCharsAt_cd4e5 47 = .ok (.invokestatic 111, 3) := by decide +kernel
theorem dJ2_putCharsAt_cd4e5_50 : decode cJ2_putCharsAt_cd4e5 50 = .ok (.getstatic 44, 3) := by decide +kernel
theorem dJ2_putCharsAt_cd4e5_53 : decode cJ2_putCharsAt_cd4e5 53 = .ok (.ifCond .ne 17, 3) := by decide +kernel
theorem dJ2_putCharsAt_cd4e5_56 : decode cJ2_putCharsAt_cd4e5 56 = .ok (.iload_n 1, 1) := by decide +kernel
theorem dJ2_putCharsAt_cd4e5_57 : decode cJ2_putCharsAt_cd4e5 57 = .ok (.iload 6, 2) := by decide +kernel
theorem dJ2_putCharsAt_cd4e5_59 : decode cJ2_putCharsAt_cd4e5 59 = .ok (.if_icmp .eq 11, 3) := by decide +kernel
theorem dJ2_putCharsAt_cd4e5_62 : decode cJ2_putCharsAt_cd4e5 62 = .ok (.new 52, 3) := by decide +kernel
theorem dJ2_putCharsAt_cd4e5_65 : decode cJ2_putCharsAt_cd4e5 65 = .ok (.dup, 1) := by decide +kernel
theorem dJ2_putCharsAt_cd4e5_66 : decode cJ2_putCharsAt_cd4e5 66 = .ok (.invokespecial 66, 3) := by decide +kernel
theorem dJ2_putCharsAt_cd4e5_69 : decode cJ2_putCharsAt_cd4e5 69 = .ok (.athrow, 1) := by decide +kernel
theorem dJ2_putCharsAt_cd4e5_70 : decode cJ2_putCharsAt_cd4e5 70 = .ok (.iload 6, 2) := by decide +kernel
theorem dJ2_putCharsAt_cd4e5_72 : decode cJ2_putCharsAt_cd4e5 72 = .ok (.ireturn, 1) := by decide +kernel
theorem dJ2_charAt_3b067_0 : decode cJ2_charAt_3b067 0 = .ok (.iload_n 1, 1) := by decide +kernel
theorem dJ2_charAt_3b067_1 : decode cJ2_charAt_3b067 1 = .ok (.aload_n 0, 1) := by decide +kernel
theorem dJ2_charAt_3b067_2 : decode cJ2_charAt_3b067 2 = .ok (.invokestatic 67, 3) := by decide +kernel
theorem dJ2_charAt_3b067_5 : decode cJ2_charAt_3b067 5 = .ok (.aload_n 0, 1) := by decide +kernel
theorem dJ2_charAt_3b067_6 : decode cJ2_charAt_3b067 6 = .ok (.iload_n 1, 1) := by decide +kernel
theorem dJ2_charAt_3b067_7 : decode cJ2_charAt_3b067 7 = .ok (.invokestatic 71, 3) := by decide +kernel
theorem dJ2_charAt_3b067_10 : decode cJ2_charAt_3b067 10 = .ok (.ireturn, 1) := by decide +kernel
theorem dJ2_inflate_0e8fd_0 : decode cJ2_inflate_0e8fd 0 = .ok (.iload_n 3, 1) := by decide +kernel
theorem dJ2_inflate_0e8fd_1 : decode cJ2_inflate_0e8fd 1 = .ok (.iload 4, 2) := by decide +kernel
theorem dJ2_inflate_0e8fd_3 : decode cJ2_inflate_0e8fd 3 = .ok (.aload_n 2, 1) := by decide +kernel
theorem dJ2_inflate_0e8fd_4 : decode cJ2_inflate_0e8fd 4 = .ok (.invokestatic 173, 3) := by decide +kernel
theorem dJ2_inflate_0e8fd_7 : decode cJ2_inflate_0e8fd 7 = .ok (.iconst 0, 1) := by decide +kernel
theorem dJ2_inflate_0e8fd_8 : decode cJ2_inflate_0e8fd 8 = .ok (.istore 5, 2) := by decide +kernel
theorem dJ2_inflate_0e8fd_10 : decode cJ2_inflate_0e8fd 10 = .ok (.iload 5, 2) := by decide +kernel
theorem dJ2_inflate_0e8fd_12 : decode cJ2_inflate_0e8fd 12 = .ok (.iload 4, 2) := by decide +kernel
theorem dJ2_inflate_0e8fd_14 : decode cJ2_inflate_0e8fd 14 = .ok (.if_icmp .ge 27, 3) := by decide +kernel
theorem dJ2_inflate_0e8fd_17 : decode cJ2_inflate_0e8fd 17 = .ok (.aload_n 2, 1) := by decide +kernel
theorem dJ2_inflate_0e8fd_18 : decode cJ2_inflate_0e8fd 18 = .ok (.iload_n 3, 1) := by decide +kernel
theorem dJ2_inflate_0e8fd_19 : decode cJ2_inflate_0e8fd 19 = .ok (.iinc 3 1, 3) := by decide +kernel
theorem dJ2_inflate_0e8fd_22 : decode cJ2_inflate_0e8fd 22 = .ok (.aload_n 0, 1) := by decide +kernel
theorem dJ2_inflate_0e8fd_23 : decode cJ2_inflate_0e8fd 23 = .ok (.iload_n 1, 1) := by decide +kernel
theorem dJ2_inflate_0e8fd_24 : decode cJ2_inflate_0e8fd 24 = .ok (.iinc 1 1, 3) := by decide +kernel
