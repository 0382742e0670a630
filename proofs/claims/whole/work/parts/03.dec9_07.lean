theorem dX9_heaviest_32 : decode cX9_heaviest 32 = .ok (.aload_n 0, 1) := by decide +kernel
theorem dX9_heaviest_33 : decode cX9_heaviest 33 = .ok (.iconst 2, 1) := by decide +kernel
theorem dX9_heaviest_34 : decode cX9_heaviest 34 = .ok (.invokevirtual 313, 3) := by decide +kernel
theorem dX9_heaviest_37 : decode cX9_heaviest 37 = .ok (.ireturn, 1) := by decide +kernel
theorem dX9_heaviest_38 : decode cX9_heaviest 38 = .ok (.bipush 40, 2) := by decide +kernel
theorem dX9_heaviest_40 : decode cX9_heaviest 40 = .ok (.istore 4, 2) := by decide +kernel
theorem dX9_heaviest_42 : decode cX9_heaviest 42 = .ok (.iload 4, 2) := by decide +kernel
theorem dX9_heaviest_44 : decode cX9_heaviest 44 = .ok (.ifCond .lt 36, 3) := by decide +kernel
theorem dX9_heaviest_47 : decode cX9_heaviest 47 = .ok (.aload_n 0, 1) := by decide +kernel
theorem dX9_heaviest_48 : decode cX9_heaviest 48 = .ok (.iload_n 1, 1) := by decide +kernel
theorem dX9_heaviest_49 : decode cX9_heaviest 49 = .ok (.iload_n 2, 1) := by decide +kernel
theorem dX9_heaviest_50 : decode cX9_heaviest 50 = .ok (.iload 4, 2) := by decide +kernel
theorem dX9_heaviest_52 : decode cX9_heaviest 52 = .ok (.invokevirtual 443, 3) := by decide +kernel
theorem dX9_heaviest_55 : decode cX9_heaviest 55 = .ok (.ifCond .eq 19, 3) := by decide +kernel
theorem dX9_heaviest_58 : decode cX9_heaviest 58 = .ok (.aload_n 0, 1) := by decide +kernel
theorem dX9_heaviest_59 : decode cX9_heaviest 59 = .ok (.getfield 40, 3) := by decide +kernel
theorem dX9_heaviest_62 : decode cX9_heaviest 62 = .ok (.invokestatic 182, 3) := by decide +kernel
theorem dX9_heaviest_65 : decode cX9_heaviest 65 = .ok (.iload_n 3, 1) := by decide +kernel
theorem dX9_heaviest_66 : decode cX9_heaviest 66 = .ok (.i2l, 1) := by decide +kernel
theorem dX9_heaviest_67 : decode cX9_heaviest 67 = .ok (.lcmp, 1) := by decide +kernel
theorem dX9_heaviest_68 : decode cX9_heaviest 68 = .ok (.ifCond .gt 6, 3) := by decide +kernel
theorem dX9_heaviest_71 : decode cX9_heaviest 71 = .ok (.iload 4, 2) := by decide +kernel
theorem dX9_heaviest_73 : decode cX9_heaviest 73 = .ok (.ireturn, 1) := by decide +kernel
theorem dX9_heaviest_74 : decode cX9_heaviest 74 = .ok (.iinc 4 (-1), 3) := by decide +kernel
theorem dX9_heaviest_77 : decode cX9_heaviest 77 = .ok (.goto (-35), 3) := by decide +kernel
theorem dX9_heaviest_80 : decode cX9_heaviest 80 = .ok (.iconst (-1), 1) := by decide +kernel
theorem dX9_heaviest_81 : decode cX9_heaviest 81 = .ok (.ireturn, 1) := by decide +kernel
theorem dX9_sparedBy_0 : decode cX9_sparedBy 0 = .ok (.aload_n 0, 1) := by decide +kernel
theorem dX9_sparedBy_1 : decode cX9_sparedBy 1 = .ok (.iload_n 1, 1) := by decide +kernel
theorem dX9_sparedBy_2 : decode cX9_sparedBy 2 = .ok (.invokevirtual 227, 3) := by decide +kernel
theorem dX9_sparedBy_5 : decode cX9_sparedBy 5 = .ok (.aload_n 0, 1) := by decide +kernel
theorem dX9_sparedBy_6 : decode cX9_sparedBy 6 = .ok (.getfield 40, 3) := by decide +kernel
theorem dX9_sparedBy_9 : decode cX9_sparedBy 9 = .ok (.invokestatic 182, 3) := by decide +kernel
theorem dX9_sparedBy_12 : decode cX9_sparedBy 12 = .ok (.lstore_n 3, 1) := by decide +kernel
theorem dX9_sparedBy_13 : decode cX9_sparedBy 13 = .ok (.aload_n 0, 1) := by decide +kernel
theorem dX9_sparedBy_14 : decode cX9_sparedBy 14 = .ok (.iload_n 1, 1) := by decide +kernel
theorem dX9_sparedBy_15 : decode cX9_sparedBy 15 = .ok (.iload_n 2, 1) := by decide +kernel
theorem dX9_sparedBy_16 : decode cX9_sparedBy 16 = .ok (.invokevirtual 447, 3) := by decide +kernel
theorem dX9_sparedBy_19 : decode cX9_sparedBy 19 = .ok (.ifCond .eq 15, 3) := by decide +kernel
theorem dX9_sparedBy_22 : decode cX9_sparedBy 22 = .ok (.lload_n 3, 1) := by decide +kernel
theorem dX9_sparedBy_23 : decode cX9_sparedBy 23 = .ok (.aload_n 0, 1) := by decide +kernel
theorem dX9_sparedBy_24 : decode cX9_sparedBy 24 = .ok (.getfield 40, 3) := by decide +kernel
theorem dX9_sparedBy_27 : decode cX9_sparedBy 27 = .ok (.invokestatic 182, 3) := by decide +kernel
theorem dX9_sparedBy_30 : decode cX9_sparedBy 30 = .ok (.lsub, 1) := by decide +kernel
theorem dX9_sparedBy_31 : decode cX9_sparedBy 31 = .ok (.goto 6, 3) := by decide +kernel
theorem dX9_sparedBy_34 : decode cX9_sparedBy 34 = .ok (.ldc2_w 450, 3) := by decide +kernel
theorem dX9_sparedBy_37 : decode cX9_sparedBy 37 = .ok (.lreturn, 1) := by decide +kernel
theorem dX9_spared_0 : decode cX9_spared 0 = .ok (.aload_n 0, 1) := by decide +kernel
theorem dX9_spared_1 : decode cX9_spared 1 = .ok (.iconst 0, 1) := by decide +kernel
theorem dX9_spared_2 : decode cX9_spared 2 = .ok (.putfield 132, 3) := by decide +kernel
theorem dX9_spared_5 : decode cX9_spared 5 = .ok (.aload_n 0, 1) := by decide +kernel
theorem dX9_spared_6 : decode cX9_spared 6 = .ok (.iload_n 1, 1) := by decide +kernel
theorem dX9_spared_7 : decode cX9_spared 7 = .ok (.iload_n 2, 1) := by decide +kernel
theorem dX9_spared_8 : decode cX9_spared 8 = .ok (.invokevirtual 340, 3) := by decide +kernel
theorem dX9_spared_11 : decode cX9_spared 11 = .ok (.ifCond .eq 12, 3) := by decide +kernel
theorem dX9_spared_14 : decode cX9_spared 14 = .ok (.aload_n 0, 1) := by decide +kernel
theorem dX9_spared_15 : decode cX9_spared 15 = .ok (.iload_n 1, 1) := by decide +kernel
theorem dX9_spared_16 : decode cX9_spared 16 = .ok (.iload_n 2, 1) := by decide +kernel
theorem dX9_spared_17 : decode cX9_spared 17 = .ok (.invokevirtual 452, 3) := by decide +kernel
theorem dX9_spared_20 : decode cX9_spared 20 = .ok (.goto 9, 3) := by decide +kernel
theorem dX9_spared_23 : decode cX9_spared 23 = .ok (.aload_n 0, 1) := by decide +kernel
theorem dX9_spared_24 : decode cX9_spared 24 = .ok (.iconst 1, 1) := by decide +kernel
theorem dX9_spared_25 : decode cX9_spared 25 = .ok (.invokevirtual 313, 3) := by decide +kernel
theorem dX9_spared_28 : decode cX9_spared 28 = .ok (.i2l, 1) := by decide +kernel
theorem dX9_spared_29 : decode cX9_spared 29 = .ok (.lreturn, 1) := by decide +kernel
theorem dX9_dearest_0 : decode cX9_dearest 0 = .ok (.aload_n 0, 1) := by decide +kernel
theorem dX9_dearest_1 : decode cX9_dearest 1 = .ok (.iconst 0, 1) := by decide +kernel
theorem dX9_dearest_2 : decode cX9_dearest 2 = .ok (.putfield 132, 3) := by decide +kernel
theorem dX9_dearest_5 : decode cX9_dearest 5 = .ok (.aload_n 0, 1) := by decide +kernel
theorem dX9_dearest_6 : decode cX9_dearest 6 = .ok (.iload_n 1, 1) := by decide +kernel
theorem dX9_dearest_7 : decode cX9_dearest 7 = .ok (.invokevirtual 310, 3) := by decide +kernel
theorem dX9_dearest_10 : decode cX9_dearest 10 = .ok (.ifCond .ne 9, 3) := by decide +kernel
theorem dX9_dearest_13 : decode cX9_dearest 13 = .ok (.aload_n 0, 1) := by decide +kernel
theorem dX9_dearest_14 : decode cX9_dearest 14 = .ok (.iconst 1, 1) := by decide +kernel
theorem dX9_dearest_15 : decode cX9_dearest 15 = .ok (.invokevirtual 313, 3) := by decide +kernel
theorem dX9_dearest_18 : decode cX9_dearest 18 = .ok (.ireturn, 1) := by decide +kernel
theorem dX9_dearest_19 : decode cX9_dearest 19 = .ok (.iconst (-1), 1) := by decide +kernel
theorem dX9_dearest_20 : decode cX9_dearest 20 = .ok (.istore_n 2, 1) := by decide +kernel
theorem dX9_dearest_21 : decode cX9_dearest 21 = .ok (.lconst 0, 1) := by decide +kernel
theorem dX9_dearest_22 : decode cX9_dearest 22 = .ok (.lstore_n 3, 1) := by decide +kernel
theorem dX9_dearest_23 : decode cX9_dearest 23 = .ok (.iconst 0, 1) := by decide +kernel
theorem dX9_dearest_24 : decode cX9_dearest 24 = .ok (.istore 5, 2) := by decide +kernel
theorem dX9_dearest_26 : decode cX9_dearest 26 = .ok (.iload 5, 2) := by decide +kernel
theorem dX9_dearest_28 : decode cX9_dearest 28 = .ok (.aload_n 0, 1) := by decide +kernel
theorem dX9_dearest_29 : decode cX9_dearest 29 = .ok (.iload_n 1, 1) := by decide +kernel
theorem dX9_dearest_30 : decode cX9_dearest 30 = .ok (.invokevirtual 337, 3) := by decide +kernel
theorem dX9_dearest_33 : decode cX9_dearest 33 = .ok (.if_icmp .ge 39, 3) := by decide +kernel
theorem dX9_dearest_36 : decode cX9_dearest 36 = .ok (.aload_n 0, 1) := by decide +kernel
theorem dX9_dearest_37 : decode cX9_dearest 37 = .ok (.iload_n 1, 1) := by decide +kernel
theorem dX9_dearest_38 : decode cX9_dearest 38 = .ok (.iload 5, 2) := by decide +kernel
theorem dX9_dearest_40 : decode cX9_dearest 40 = .ok (.invokevirtual 452, 3) := by decide +kernel
theorem dX9_dearest_43 : decode cX9_dearest 43 = .ok (.lstore 6, 2) := by decide +kernel
theorem dX9_dearest_45 : decode cX9_dearest 45 = .ok (.iload_n 2, 1) := by decide +kernel
theorem dX9_dearest_46 : decode cX9_dearest 46 = .ok (.iconst (-1), 1) := by decide +kernel
theorem dX9_dearest_47 : decode cX9_dearest 47 = .ok (.if_icmp .eq 13, 3) := by decide +kernel
theorem dX9_dearest_50 : decode cX9_dearest 50 = .ok (.lload 6, 2) := by decide +kernel
theorem dX9_dearest_52 : decode cX9_dearest 52 = .ok (.lload_n 3, 1) := by decide +kernel
theorem dX9_dearest_53 : decode cX9_dearest 53 = .ok (.lcmp, 1) := by decide +kernel
theorem dX9_dearest_54 : decode cX9_dearest 54 = .ok (.ifCond .gt 6, 3) := by decide +kernel
theorem dX9_dearest_57 : decode cX9_dearest 57 = .ok (.goto 9, 3) := by decide +kernel
theorem dX9_dearest_60 : decode cX9_dearest 60 = .ok (.iload 5, 2) := by decide +kernel
theorem dX9_dearest_62 : decode cX9_dearest 62 = .ok (.istore_n 2, 1) := by decide +kernel
theorem dX9_dearest_63 : decode cX9_dearest 63 = .ok (.lload 6, 2) := by decide +kernel
theorem dX9_dearest_65 : decode cX9_dearest 65 = .ok (.lstore_n 3, 1) := by decide +kernel
theorem dX9_dearest_66 : decode cX9_dearest 66 = .ok (.iinc 5 1, 3) := by decide +kernel
theorem dX9_dearest_69 : decode cX9_dearest 69 = .ok (.goto (-43), 3) := by decide +kernel
theorem dX9_dearest_72 : decode cX9_dearest 72 = .ok (.iload_n 2, 1) := by decide +kernel
theorem dX9_dearest_73 : decode cX9_dearest 73 = .ok (.ireturn, 1) := by decide +kernel
theorem dX9_tellByte_0 : decode cX9_tellByte 0 = .ok (.aload_n 0, 1) := by decide +kernel
theorem dX9_tellByte_1 : decode cX9_tellByte 1 = .ok (.getfield 456, 3) := by decide +kernel
theorem dX9_tellByte_4 : decode cX9_tellByte 4 = .ok (.aload_n 0, 1) := by decide +kernel
theorem dX9_tellByte_5 : decode cX9_tellByte 5 = .ok (.getfield 459, 3) := by decide +kernel
theorem dX9_tellByte_8 : decode cX9_tellByte 8 = .ok (.if_icmp .ne 8, 3) := by decide +kernel
theorem dX9_tellByte_11 : decode cX9_tellByte 11 = .ok (.aload_n 0, 1) := by decide +kernel
theorem dX9_tellByte_12 : decode cX9_tellByte 12 = .ok (.iload_n 1, 1) := by decide +kernel
theorem dX9_tellByte_13 : decode cX9_tellByte 13 = .ok (.putfield 462, 3) := by decide +kernel
theorem dX9_tellByte_16 : decode cX9_tellByte 16 = .ok (.aload_n 0, 1) := by decide +kernel
theorem dX9_tellByte_17 : decode cX9_tellByte 17 = .ok (.dup, 1) := by decide +kernel
theorem dX9_tellByte_18 : decode cX9_tellByte 18 = .ok (.getfield 456, 3) := by decide +kernel
theorem dX9_tellByte_21 : decode cX9_tellByte 21 = .ok (.iconst 1, 1) := by decide +kernel
theorem dX9_tellByte_22 : decode cX9_tellByte 22 = .ok (.iadd, 1) := by decide +kernel
theorem dX9_tellByte_23 : decode cX9_tellByte 23 = .ok (.putfield 456, 3) := by decide +kernel
theorem dX9_tellByte_26 : decode cX9_tellByte 26 = .ok (.return_, 1) := by decide +kernel
theorem dX9_tellDigits_0 : decode cX9_tellDigits 0 = .ok (.iload_n 1, 1) := by decide +kernel
theorem dX9_tellDigits_1 : decode cX9_tellDigits 1 = .ok (.bipush 9, 2) := by decide +kernel
theorem dX9_tellDigits_3 : decode cX9_tellDigits 3 = .ok (.if_icmp .le 11, 3) := by decide +kernel
theorem dX9_tellDigits_6 : decode cX9_tellDigits 6 = .ok (.aload_n 0, 1) := by decide +kernel
theorem dX9_tellDigits_7 : decode cX9_tellDigits 7 = .ok (.iload_n 1, 1) := by decide +kernel
theorem dX9_tellDigits_8 : decode cX9_tellDigits 8 = .ok (.bipush 10, 2) := by decide +kernel
theorem dX9_tellDigits_10 : decode cX9_tellDigits 10 = .ok (.idiv, 1) := by decide +kernel
theorem dX9_tellDigits_11 : decode cX9_tellDigits 11 = .ok (.invokevirtual 465, 3) := by decide +kernel
theorem dX9_tellDigits_14 : decode cX9_tellDigits 14 = .ok (.aload_n 0, 1) := by decide +kernel
theorem dX9_tellDigits_15 : decode cX9_tellDigits 15 = .ok (.bipush 48, 2) := by decide +kernel
theorem dX9_tellDigits_17 : decode cX9_tellDigits 17 = .ok (.iload_n 1, 1) := by decide +kernel
theorem dX9_tellDigits_18 : decode cX9_tellDigits 18 = .ok (.bipush 10, 2) := by decide +kernel
theorem dX9_tellDigits_20 : decode cX9_tellDigits 20 = .ok (.irem, 1) := by decide +kernel
theorem dX9_tellDigits_21 : decode cX9_tellDigits 21 = .ok (.iadd, 1) := by decide +kernel
theorem dX9_tellDigits_22 : decode cX9_tellDigits 22 = .ok (.invokevirtual 468, 3) := by decide +kernel
theorem dX9_tellDigits_25 : decode cX9_tellDigits 25 = .ok (.return_, 1) := by decide +kernel
theorem dX9_tellNumber_0 : decode cX9_tellNumber 0 = .ok (.aload_n 0, 1) := by decide +kernel
theorem dX9_tellNumber_1 : decode cX9_tellNumber 1 = .ok (.bipush 32, 2) := by decide +kernel
theorem dX9_tellNumber_3 : decode cX9_tellNumber 3 = .ok (.invokevirtual 468, 3) := by decide +kernel
theorem dX9_tellNumber_6 : decode cX9_tellNumber 6 = .ok (.iload_n 1, 1) := by decide +kernel
theorem dX9_tellNumber_7 : decode cX9_tellNumber 7 = .ok (.ifCond .ge 9, 3) := by decide +kernel
theorem dX9_tellNumber_10 : decode cX9_tellNumber 10 = .ok (.aload_n 0, 1) := by decide +kernel
theorem dX9_tellNumber_11 : decode cX9_tellNumber 11 = .ok (.bipush 45, 2) := by decide +kernel
theorem dX9_tellNumber_13 : decode cX9_tellNumber 13 = .ok (.invokevirtual 468, 3) := by decide +kernel
theorem dX9_tellNumber_16 : decode cX9_tellNumber 16 = .ok (.aload_n 0, 1) := by decide +kernel
theorem dX9_tellNumber_17 : decode cX9_tellNumber 17 = .ok (.iload_n 1, 1) := by decide +kernel
theorem dX9_tellNumber_18 : decode cX9_tellNumber 18 = .ok (.invokestatic 372, 3) := by decide +kernel
theorem dX9_tellNumber_21 : decode cX9_tellNumber 21 = .ok (.invokevirtual 465, 3) := by decide +kernel
theorem dX9_tellNumber_24 : decode cX9_tellNumber 24 = .ok (.return_, 1) := by decide +kernel
theorem dX9_tellSteps_0 : decode cX9_tellSteps 0 = .ok (.aload_n 0, 1) := by decide +kernel
theorem dX9_tellSteps_1 : decode cX9_tellSteps 1 = .ok (.iconst 0, 1) := by decide +kernel
theorem dX9_tellSteps_2 : decode cX9_tellSteps 2 = .ok (.putfield 456, 3) := by decide +kernel
theorem dX9_tellSteps_5 : decode cX9_tellSteps 5 = .ok (.iconst 0, 1) := by decide +kernel
theorem dX9_tellSteps_6 : decode cX9_tellSteps 6 = .ok (.istore_n 2, 1) := by decide +kernel
theorem dX9_tellSteps_7 : decode cX9_tellSteps 7 = .ok (.iload_n 2, 1) := by decide +kernel
theorem dX9_tellSteps_8 : decode cX9_tellSteps 8 = .ok (.aload_n 0, 1) := by decide +kernel
theorem dX9_tellSteps_9 : decode cX9_tellSteps 9 = .ok (.iload_n 1, 1) := by decide +kernel
theorem dX9_tellSteps_10 : decode cX9_tellSteps 10 = .ok (.invokevirtual 337, 3) := by decide +kernel
theorem dX9_tellSteps_13 : decode cX9_tellSteps 13 = .ok (.if_icmp .ge 104, 3) := by decide +kernel
theorem dX9_tellSteps_16 : decode cX9_tellSteps 16 = .ok (.aload_n 0, 1) := by decide +kernel
theorem dX9_tellSteps_17 : decode cX9_tellSteps 17 = .ok (.iload_n 1, 1) := by decide +kernel
theorem dX9_tellSteps_18 : decode cX9_tellSteps 18 = .ok (.iload_n 2, 1) := by decide +kernel
theorem dX9_tellSteps_19 : decode cX9_tellSteps 19 = .ok (.iconst 0, 1) := by decide +kernel
theorem dX9_tellSteps_20 : decode cX9_tellSteps 20 = .ok (.invokevirtual 346, 3) := by decide +kernel
theorem dX9_tellSteps_23 : decode cX9_tellSteps 23 = .ok (.istore_n 3, 1) := by decide +kernel
theorem dX9_tellSteps_24 : decode cX9_tellSteps 24 = .ok (.iconst 0, 1) := by decide +kernel
theorem dX9_tellSteps_25 : decode cX9_tellSteps 25 = .ok (.istore 4, 2) := by decide +kernel
theorem dX9_tellSteps_27 : decode cX9_tellSteps 27 = .ok (.iload 4, 2) := by decide +kernel
theorem dX9_tellSteps_29 : decode cX9_tellSteps 29 = .ok (.aload_n 0, 1) := by decide +kernel
theorem dX9_tellSteps_30 : decode cX9_tellSteps 30 = .ok (.getfield 27, 3) := by decide +kernel
theorem dX9_tellSteps_33 : decode cX9_tellSteps 33 = .ok (.iload_n 3, 1) := by decide +kernel
theorem dX9_tellSteps_34 : decode cX9_tellSteps 34 = .ok (.aaload, 1) := by decide +kernel
theorem dX9_tellSteps_35 : decode cX9_tellSteps 35 = .ok (.invokevirtual 272, 3) := by decide +kernel
theorem dX9_tellSteps_38 : decode cX9_tellSteps 38 = .ok (.if_icmp .ge 24, 3) := by decide +kernel
theorem dX9_tellSteps_41 : decode cX9_tellSteps 41 = .ok (.aload_n 0, 1) := by decide +kernel
theorem dX9_tellSteps_42 : decode cX9_tellSteps 42 = .ok (.aload_n 0, 1) := by decide +kernel
theorem dX9_tellSteps_43 : decode cX9_tellSteps 43 = .ok (.getfield 27, 3) := by decide +kernel
theorem dX9_tellSteps_46 : decode cX9_tellSteps 46 = .ok (.iload_n 3, 1) := by decide +kernel
theorem dX9_tellSteps_47 : decode cX9_tellSteps 47 = .ok (.aaload, 1) := by decide +kernel
theorem dX9_tellSteps_48 : decode cX9_tellSteps 48 = .ok (.iload 4, 2) := by decide +kernel
theorem dX9_tellSteps_50 : decode cX9_tellSteps 50 = .ok (.invokevirtual 276, 3) := by decide +kernel
theorem dX9_tellSteps_53 : decode cX9_tellSteps 53 = .ok (.invokevirtual 468, 3) := by decide +kernel
theorem dX9_tellSteps_56 : decode cX9_tellSteps 56 = .ok (.iinc 4 1, 3) := by decide +kernel
theorem dX9_tellSteps_59 : decode cX9_tellSteps 59 = .ok (.goto (-32), 3) := by decide +kernel
theorem dX9_tellSteps_62 : decode cX9_tellSteps 62 = .ok (.iload_n 3, 1) := by decide +kernel
theorem dX9_tellSteps_63 : decode cX9_tellSteps 63 = .ok (.iconst 5, 1) := by decide +kernel
theorem dX9_tellSteps_64 : decode cX9_tellSteps 64 = .ok (.if_icmp .eq 20, 3) := by decide +kernel
theorem dX9_tellSteps_67 : decode cX9_tellSteps 67 = .ok (.iload_n 3, 1) := by decide +kernel
theorem dX9_tellSteps_68 : decode cX9_tellSteps 68 = .ok (.bipush 6, 2) := by decide +kernel
theorem dX9_tellSteps_70 : decode cX9_tellSteps 70 = .ok (.if_icmp .eq 14, 3) := by decide +kernel
theorem dX9_tellSteps_73 : decode cX9_tellSteps 73 = .ok (.aload_n 0, 1) := by decide +kernel
theorem dX9_tellSteps_74 : decode cX9_tellSteps 74 = .ok (.aload_n 0, 1) := by decide +kernel
theorem dX9_tellSteps_75 : decode cX9_tellSteps 75 = .ok (.iload_n 1, 1) := by decide +kernel
theorem dX9_tellSteps_76 : decode cX9_tellSteps 76 = .ok (.iload_n 2, 1) := by decide +kernel
theorem dX9_tellSteps_77 : decode cX9_tellSteps 77 = .ok (.iconst 1, 1) := by decide +kernel
theorem dX9_tellSteps_78 : decode cX9_tellSteps 78 = .ok (.invokevirtual 346, 3) := by decide +kernel
theorem dX9_tellSteps_81 : decode cX9_tellSteps 81 = .ok (.invokevirtual 471, 3) := by decide +kernel
theorem dX9_tellSteps_84 : decode cX9_tellSteps 84 = .ok (.iload_n 3, 1) := by decide +kernel
theorem dX9_tellSteps_85 : decode cX9_tellSteps 85 = .ok (.iconst 2, 1) := by decide +kernel
theorem dX9_tellSteps_86 : decode cX9_tellSteps 86 = .ok (.if_icmp .le 8, 3) := by decide +kernel
theorem dX9_tellSteps_89 : decode cX9_tellSteps 89 = .ok (.iload_n 3, 1) := by decide +kernel
theorem dX9_tellSteps_90 : decode cX9_tellSteps 90 = .ok (.iconst 4, 1) := by decide +kernel
theorem dX9_tellSteps_91 : decode cX9_tellSteps 91 = .ok (.if_icmp .ne 14, 3) := by decide +kernel
theorem dX9_tellSteps_94 : decode cX9_tellSteps 94 = .ok (.aload_n 0, 1) := by decide +kernel
theorem dX9_tellSteps_95 : decode cX9_tellSteps 95 = .ok (.aload_n 0, 1) := by decide +kernel
theorem dX9_tellSteps_96 : decode cX9_tellSteps 96 = .ok (.iload_n 1, 1) := by decide +kernel
theorem dX9_tellSteps_97 : decode cX9_tellSteps 97 = .ok (.iload_n 2, 1) := by decide +kernel
theorem dX9_tellSteps_98 : decode cX9_tellSteps 98 = .ok (.iconst 2, 1) := by decide +kernel
theorem dX9_tellSteps_99 : decode cX9_tellSteps 99 = .ok (.invokevirtual 346, 3) := by decide +kernel
theorem dX9_tellSteps_102 : decode cX9_tellSteps 102 = .ok (.invokevirtual 471, 3) := by decide +kernel
theorem dX9_tellSteps_105 : decode cX9_tellSteps 105 = .ok (.aload_n 0, 1) := by decide +kernel
theorem dX9_tellSteps_106 : decode cX9_tellSteps 106 = .ok (.bipush 59, 2) := by decide +kernel
theorem dX9_tellSteps_108 : decode cX9_tellSteps 108 = .ok (.invokevirtual 468, 3) := by decide +kernel
theorem dX9_tellSteps_111 : decode cX9_tellSteps 111 = .ok (.iinc 2 1, 3) := by decide +kernel
theorem dX9_tellSteps_114 : decode cX9_tellSteps 114 = .ok (.goto (-107), 3) := by decide +kernel
theorem dX9_tellSteps_117 : decode cX9_tellSteps 117 = .ok (.return_, 1) := by decide +kernel
theorem dX9_told_0 : decode cX9_told 0 = .ok (.aload_n 0, 1) := by decide +kernel
theorem dX9_told_1 : decode cX9_told 1 = .ok (.iconst 0, 1) := by decide +kernel
theorem dX9_told_2 : decode cX9_told 2 = .ok (.putfield 132, 3) := by decide +kernel
theorem dX9_told_5 : decode cX9_told 5 = .ok (.aload_n 0, 1) := by decide +kernel
theorem dX9_told_6 : decode cX9_told 6 = .ok (.iload_n 1, 1) := by decide +kernel
theorem dX9_told_7 : decode cX9_told 7 = .ok (.invokevirtual 310, 3) := by decide +kernel
theorem dX9_told_10 : decode cX9_told 10 = .ok (.ifCond .ne 9, 3) := by decide +kernel
theorem dX9_told_13 : decode cX9_told 13 = .ok (.aload_n 0, 1) := by decide +kernel
theorem dX9_told_14 : decode cX9_told 14 = .ok (.iconst 1, 1) := by decide +kernel
theorem dX9_told_15 : decode cX9_told 15 = .ok (.invokevirtual 313, 3) := by decide +kernel
theorem dX9_told_18 : decode cX9_told 18 = .ok (.ireturn, 1) := by decide +kernel
theorem dX9_told_19 : decode cX9_told 19 = .ok (.aload_n 0, 1) := by decide +kernel
theorem dX9_told_20 : decode cX9_told 20 = .ok (.iload_n 2, 1) := by decide +kernel
theorem dX9_told_21 : decode cX9_told 21 = .ok (.putfield 459, 3) := by decide +kernel
theorem dX9_told_24 : decode cX9_told 24 = .ok (.aload_n 0, 1) := by decide +kernel
theorem dX9_told_25 : decode cX9_told 25 = .ok (.iconst (-1), 1) := by decide +kernel
theorem dX9_told_26 : decode cX9_told 26 = .ok (.putfield 462, 3) := by decide +kernel
theorem dX9_told_29 : decode cX9_told 29 = .ok (.aload_n 0, 1) := by decide +kernel
theorem dX9_told_30 : decode cX9_told 30 = .ok (.iload_n 1, 1) := by decide +kernel
theorem dX9_told_31 : decode cX9_told 31 = .ok (.invokevirtual 474, 3) := by decide +kernel
theorem dX9_told_34 : decode cX9_told 34 = .ok (.iload_n 2, 1) := by decide +kernel
theorem dX9_told_35 : decode cX9_told 35 = .ok (.iconst (-1), 1) := by decide +kernel
theorem dX9_told_36 : decode cX9_told 36 = .ok (.if_icmp .ne 10, 3) := by decide +kernel
theorem dX9_told_39 : decode cX9_told 39 = .ok (.aload_n 0, 1) := by decide +kernel
theorem dX9_told_40 : decode cX9_told 40 = .ok (.getfield 456, 3) := by decide +kernel
theorem dX9_told_43 : decode cX9_told 43 = .ok (.goto 23, 3) := by decide +kernel
theorem dX9_told_46 : decode cX9_told 46 = .ok (.aload_n 0, 1) := by decide +kernel
theorem dX9_told_47 : decode cX9_told 47 = .ok (.getfield 462, 3) := by decide +kernel
theorem dX9_told_50 : decode cX9_told 50 = .ok (.iconst (-1), 1) := by decide +kernel
theorem dX9_told_51 : decode cX9_told 51 = .ok (.if_icmp .ne 11, 3) := by decide +kernel
theorem dX9_told_54 : decode cX9_told 54 = .ok (.aload_n 0, 1) := by decide +kernel
theorem dX9_told_55 : decode cX9_told 55 = .ok (.iconst 1, 1) := by decide +kernel
theorem dX9_told_56 : decode cX9_told 56 = .ok (.invokevirtual 313, 3) := by decide +kernel
theorem dX9_told_59 : decode cX9_told 59 = .ok (.goto 7, 3) := by decide +kernel
theorem dX9_told_62 : decode cX9_told 62 = .ok (.aload_n 0, 1) := by decide +kernel
theorem dX9_told_63 : decode cX9_told 63 = .ok (.getfield 462, 3) := by decide +kernel
theorem dX9_told_66 : decode cX9_told 66 = .ok (.ireturn, 1) := by decide +kernel
theorem dX9_refuse_0 : decode cX9_refuse 0 = .ok (.aload_n 0, 1) := by decide +kernel
theorem dX9_refuse_1 : decode cX9_refuse 1 = .ok (.getfield 37, 3) := by decide +kernel
theorem dX9_refuse_4 : decode cX9_refuse 4 = .ok (.iload_n 1, 1) := by decide +kernel
theorem dX9_refuse_5 : decode cX9_refuse 5 = .ok (.dup2, 1) := by decide +kernel
theorem dX9_refuse_6 : decode cX9_refuse 6 = .ok (.iaload, 1) := by decide +kernel
theorem dX9_refuse_7 : decode cX9_refuse 7 = .ok (.iconst 1, 1) := by decide +kernel
theorem dX9_refuse_8 : decode cX9_refuse 8 = .ok (.iadd, 1) := by decide +kernel
theorem dX9_refuse_9 : decode cX9_refuse 9 = .ok (.iastore, 1) := by decide +kernel
theorem dX9_refuse_10 : decode cX9_refuse 10 = .ok (.iconst (-1), 1) := by decide +kernel
theorem dX9_refuse_11 : decode cX9_refuse 11 = .ok (.ireturn, 1) := by decide +kernel
theorem dX9_keep_0 : decode cX9_keep 0 = .ok (.aload_n 0, 1) := by decide +kernel
theorem dX9_keep_1 : decode cX9_keep 1 = .ok (.getfield 331, 3) := by decide +kernel
theorem dX9_keep_4 : decode cX9_keep 4 = .ok (.bipush 40, 2) := by decide +kernel
theorem dX9_keep_6 : decode cX9_keep 6 = .ok (.if_icmp .ne 48, 3) := by decide +kernel
theorem dX9_keep_9 : decode cX9_keep 9 = .ok (.sipush 644, 3) := by decide +kernel
theorem dX9_keep_12 : decode cX9_keep 12 = .ok (.istore_n 1, 1) := by decide +kernel
theorem dX9_keep_13 : decode cX9_keep 13 = .ok (.iload_n 1, 1) := by decide +kernel
theorem dX9_keep_14 : decode cX9_keep 14 = .ok (.aload_n 0, 1) := by decide +kernel
theorem dX9_keep_15 : decode cX9_keep 15 = .ok (.getfield 102, 3) := by decide +kernel
theorem dX9_keep_18 : decode cX9_keep 18 = .ok (.arraylength, 1) := by decide +kernel
theorem dX9_keep_19 : decode cX9_keep 19 = .ok (.if_icmp .ge 25, 3) := by decide +kernel
theorem dX9_keep_22 : decode cX9_keep 22 = .ok (.aload_n 0, 1) := by decide +kernel
theorem dX9_keep_23 : decode cX9_keep 23 = .ok (.getfield 102, 3) := by decide +kernel
theorem dX9_keep_26 : decode cX9_keep 26 = .ok (.iload_n 1, 1) := by decide +kernel
theorem dX9_keep_27 : decode cX9_keep 27 = .ok (.sipush 644, 3) := by decide +kernel
theorem dX9_keep_30 : decode cX9_keep 30 = .ok (.isub, 1) := by decide +kernel
theorem dX9_keep_31 : decode cX9_keep 31 = .ok (.aload_n 0, 1) := by decide +kernel
theorem dX9_keep_32 : decode cX9_keep 32 = .ok (.getfield 102, 3) := by decide +kernel
theorem dX9_keep_35 : decode cX9_keep 35 = .ok (.iload_n 1, 1) := by decide +kernel
theorem dX9_keep_36 : decode cX9_keep 36 = .ok (.iaload, 1) := by decide +kernel
theorem dX9_keep_37 : decode cX9_keep 37 = .ok (.iastore, 1) := by decide +kernel
theorem dX9_keep_38 : decode cX9_keep 38 = .ok (.iinc 1 1, 3) := by decide +kernel
theorem dX9_keep_41 : decode cX9_keep 41 = .ok (.goto (-28), 3) := by decide +kernel
theorem dX9_keep_44 : decode cX9_keep 44 = .ok (.aload_n 0, 1) := by decide +kernel
theorem dX9_keep_45 : decode cX9_keep 45 = .ok (.dup, 1) := by decide +kernel
theorem dX9_keep_46 : decode cX9_keep 46 = .ok (.getfield 331, 3) := by decide +kernel
theorem dX9_keep_49 : decode cX9_keep 49 = .ok (.iconst 1, 1) := by decide +kernel
theorem dX9_keep_50 : decode cX9_keep 50 = .ok (.isub, 1) := by decide +kernel
theorem dX9_keep_51 : decode cX9_keep 51 = .ok (.putfield 331, 3) := by decide +kernel
theorem dX9_keep_54 : decode cX9_keep 54 = .ok (.iconst 0, 1) := by decide +kernel
theorem dX9_keep_55 : decode cX9_keep 55 = .ok (.istore_n 1, 1) := by decide +kernel
theorem dX9_keep_56 : decode cX9_keep 56 = .ok (.iload_n 1, 1) := by decide +kernel
theorem dX9_keep_57 : decode cX9_keep 57 = .ok (.sipush 644, 3) := by decide +kernel
theorem dX9_keep_60 : decode cX9_keep 60 = .ok (.if_icmp .ge 30, 3) := by decide +kernel
theorem dX9_keep_63 : decode cX9_keep 63 = .ok (.aload_n 0, 1) := by decide +kernel
theorem dX9_keep_64 : decode cX9_keep 64 = .ok (.getfield 102, 3) := by decide +kernel
theorem dX9_keep_67 : decode cX9_keep 67 = .ok (.sipush 644, 3) := by decide +kernel
theorem dX9_keep_70 : decode cX9_keep 70 = .ok (.aload_n 0, 1) := by decide +kernel
theorem dX9_keep_71 : decode cX9_keep 71 = .ok (.getfield 331, 3) := by decide +kernel
theorem dX9_keep_74 : decode cX9_keep 74 = .ok (.imul, 1) := by decide +kernel
theorem dX9_keep_75 : decode cX9_keep 75 = .ok (.iload_n 1, 1) := by decide +kernel
theorem dX9_keep_76 : decode cX9_keep 76 = .ok (.iadd, 1) := by decide +kernel
theorem dX9_keep_77 : decode cX9_keep 77 = .ok (.aload_n 0, 1) := by decide +kernel
theorem dX9_keep_78 : decode cX9_keep 78 = .ok (.getfield 33, 3) := by decide +kernel
theorem dX9_keep_81 : decode cX9_keep 81 = .ok (.iload_n 1, 1) := by decide +kernel
theorem dX9_keep_82 : decode cX9_keep 82 = .ok (.iaload, 1) := by decide +kernel
theorem dX9_keep_83 : decode cX9_keep 83 = .ok (.iastore, 1) := by decide +kernel
theorem dX9_keep_84 : decode cX9_keep 84 = .ok (.iinc 1 1, 3) := by decide +kernel
theorem dX9_keep_87 : decode cX9_keep 87 = .ok (.goto (-31), 3) := by decide +kernel
theorem dX9_keep_90 : decode cX9_keep 90 = .ok (.aload_n 0, 1) := by decide +kernel
theorem dX9_keep_91 : decode cX9_keep 91 = .ok (.dup, 1) := by decide +kernel
theorem dX9_keep_92 : decode cX9_keep 92 = .ok (.getfield 331, 3) := by decide +kernel
theorem dX9_keep_95 : decode cX9_keep 95 = .ok (.iconst 1, 1) := by decide +kernel
theorem dX9_keep_96 : decode cX9_keep 96 = .ok (.iadd, 1) := by decide +kernel
theorem dX9_keep_97 : decode cX9_keep 97 = .ok (.putfield 331, 3) := by decide +kernel
theorem dX9_keep_100 : decode cX9_keep 100 = .ok (.return_, 1) := by decide +kernel
theorem dX9_isStepTold_0 : decode cX9_isStepTold 0 = .ok (.iload_n 1, 1) := by decide +kernel
theorem dX9_isStepTold_1 : decode cX9_isStepTold 1 = .ok (.tableswitch 158 0 8 #[51, 51, 51, 83, 95, 158, 158, 125, 135], 51) := by decide +kernel
theorem dX9_isStepTold_52 : decode cX9_isStepTold 52 = .ok (.iload_n 2, 1) := by decide +kernel
theorem dX9_isStepTold_53 : decode cX9_isStepTold 53 = .ok (.i2l, 1) := by decide +kernel
theorem dX9_isStepTold_54 : decode cX9_isStepTold 54 = .ok (.ldc2_w 477, 3) := by decide +kernel
theorem dX9_isStepTold_57 : decode cX9_isStepTold 57 = .ok (.ldc2_w 479, 3) := by decide +kernel
theorem dX9_isStepTold_60 : decode cX9_isStepTold 60 = .ok (.invokestatic 166, 3) := by decide +kernel
theorem dX9_isStepTold_63 : decode cX9_isStepTold 63 = .ok (.ifCond .eq 19, 3) := by decide +kernel
theorem dX9_isStepTold_66 : decode cX9_isStepTold 66 = .ok (.iload_n 3, 1) := by decide +kernel
theorem dX9_isStepTold_67 : decode cX9_isStepTold 67 = .ok (.i2l, 1) := by decide +kernel
theorem dX9_isStepTold_68 : decode cX9_isStepTold 68 = .ok (.lconst 0, 1) := by decide +kernel
theorem dX9_isStepTold_69 : decode cX9_isStepTold 69 = .ok (.ldc2_w 481, 3) := by decide +kernel
theorem dX9_isStepTold_72 : decode cX9_isStepTold 72 = .ok (.invokestatic 166, 3) := by decide +kernel
theorem dX9_isStepTold_75 : decode cX9_isStepTold 75 = .ok (.ifCond .eq 7, 3) := by decide +kernel
theorem dX9_isStepTold_78 : decode cX9_isStepTold 78 = .ok (.iconst 1, 1) := by decide +kernel
theorem dX9_isStepTold_79 : decode cX9_isStepTold 79 = .ok (.goto 4, 3) := by decide +kernel
theorem dX9_isStepTold_82 : decode cX9_isStepTold 82 = .ok (.iconst 0, 1) := by decide +kernel
theorem dX9_isStepTold_83 : decode cX9_isStepTold 83 = .ok (.ireturn, 1) := by decide +kernel
theorem dX9_isStepTold_84 : decode cX9_isStepTold 84 = .ok (.iload_n 2, 1) := by decide +kernel
theorem dX9_isStepTold_85 : decode cX9_isStepTold 85 = .ok (.i2l, 1) := by decide +kernel
theorem dX9_isStepTold_86 : decode cX9_isStepTold 86 = .ok (.ldc2_w 477, 3) := by decide +kernel
theorem dX9_isStepTold_89 : decode cX9_isStepTold 89 = .ok (.ldc2_w 479, 3) := by decide +kernel
theorem dX9_isStepTold_92 : decode cX9_isStepTold 92 = .ok (.invokestatic 166, 3) := by decide +kernel
theorem dX9_isStepTold_95 : decode cX9_isStepTold 95 = .ok (.ireturn, 1) := by decide +kernel
theorem dX9_isStepTold_96 : decode cX9_isStepTold 96 = .ok (.iload_n 2, 1) := by decide +kernel
theorem dX9_isStepTold_97 : decode cX9_isStepTold 97 = .ok (.i2l, 1) := by decide +kernel
theorem dX9_isStepTold_98 : decode cX9_isStepTold 98 = .ok (.lconst 0, 1) := by decide +kernel
theorem dX9_isStepTold_99 : decode cX9_isStepTold 99 = .ok (.ldc2_w 481, 3) := by decide +kernel
theorem dX9_isStepTold_102 : decode cX9_isStepTold 102 = .ok (.invokestatic 166, 3) := by decide +kernel
theorem dX9_isStepTold_105 : decode cX9_isStepTold 105 = .ok (.ifCond .eq 19, 3) := by decide +kernel
theorem dX9_isStepTold_108 : decode cX9_isStepTold 108 = .ok (.iload_n 3, 1) := by decide +kernel
theorem dX9_isStepTold_109 : decode cX9_isStepTold 109 = .ok (.i2l, 1) := by decide +kernel
theorem dX9_isStepTold_110 : decode cX9_isStepTold 110 = .ok (.lconst 0, 1) := by decide +kernel
theorem dX9_isStepTold_111 : decode cX9_isStepTold 111 = .ok (.ldc2_w 481, 3) := by decide +kernel
theorem dX9_isStepTold_114 : decode cX9_isStepTold 114 = .ok (.invokestatic 166, 3) := by decide +kernel
theorem dX9_isStepTold_117 : decode cX9_isStepTold 117 = .ok (.ifCond .eq 7, 3) := by decide +kernel
theorem dX9_isStepTold_120 : decode cX9_isStepTold 120 = .ok (.iconst 1, 1) := by decide +kernel
theorem dX9_isStepTold_121 : decode cX9_isStepTold 121 = .ok (.goto 4, 3) := by decide +kernel
theorem dX9_isStepTold_124 : decode cX9_isStepTold 124 = .ok (.iconst 0, 1) := by decide +kernel
theorem dX9_isStepTold_125 : decode cX9_isStepTold 125 = .ok (.ireturn, 1) := by decide +kernel
theorem dX9_isStepTold_126 : decode cX9_isStepTold 126 = .ok (.iload_n 2, 1) := by decide +kernel
theorem dX9_isStepTold_127 : decode cX9_isStepTold 127 = .ok (.i2l, 1) := by decide +kernel
theorem dX9_isStepTold_128 : decode cX9_isStepTold 128 = .ok (.lconst 0, 1) := by decide +kernel
theorem dX9_isStepTold_129 : decode cX9_isStepTold 129 = .ok (.ldc2_w 483, 3) := by decide +kernel
theorem dX9_isStepTold_132 : decode cX9_isStepTold 132 = .ok (.invokestatic 166, 3) := by decide +kernel
theorem dX9_isStepTold_135 : decode cX9_isStepTold 135 = .ok (.ireturn, 1) := by decide +kernel
theorem dX9_isStepTold_136 : decode cX9_isStepTold 136 = .ok (.iload_n 2, 1) := by decide +kernel
theorem dX9_isStepTold_137 : decode cX9_isStepTold 137 = .ok (.i2l, 1) := by decide +kernel
theorem dX9_isStepTold_138 : decode cX9_isStepTold 138 = .ok (.lconst 0, 1) := by decide +kernel
theorem dX9_isStepTold_139 : decode cX9_isStepTold 139 = .ok (.ldc2_w 308, 3) := by decide +kernel
theorem dX9_isStepTold_142 : decode cX9_isStepTold 142 = .ok (.invokestatic 166, 3) := by decide +kernel
theorem dX9_isStepTold_145 : decode cX9_isStepTold 145 = .ok (.ifCond .eq 12, 3) := by decide +kernel
theorem dX9_isStepTold_148 : decode cX9_isStepTold 148 = .ok (.iload_n 2, 1) := by decide +kernel
theorem dX9_isStepTold_149 : decode cX9_isStepTold 149 = .ok (.iload_n 0, 1) := by decide +kernel
theorem dX9_isStepTold_150 : decode cX9_isStepTold 150 = .ok (.if_icmp .eq 7, 3) := by decide +kernel
theorem dX9_isStepTold_153 : decode cX9_isStepTold 153 = .ok (.iconst 1, 1) := by decide +kernel
theorem dX9_isStepTold_154 : decode cX9_isStepTold 154 = .ok (.goto 4, 3) := by decide +kernel
theorem dX9_isStepTold_157 : decode cX9_isStepTold 157 = .ok (.iconst 0, 1) := by decide +kernel
theorem dX9_isStepTold_158 : decode cX9_isStepTold 158 = .ok (.ireturn, 1) := by decide +kernel
theorem dX9_isStepTold_159 : decode cX9_isStepTold 159 = .ok (.iload_n 1, 1) := by decide +kernel
theorem dX9_isStepTold_160 : decode cX9_isStepTold 160 = .ok (.iconst 5, 1) := by decide +kernel
theorem dX9_isStepTold_161 : decode cX9_isStepTold 161 = .ok (.if_icmp .eq 9, 3) := by decide +kernel
theorem dX9_isStepTold_164 : decode cX9_isStepTold 164 = .ok (.iload_n 1, 1) := by decide +kernel
theorem dX9_isStepTold_165 : decode cX9_isStepTold 165 = .ok (.bipush 6, 2) := by decide +kernel
theorem dX9_isStepTold_167 : decode cX9_isStepTold 167 = .ok (.if_icmp .ne 7, 3) := by decide +kernel
theorem dX9_isStepTold_170 : decode cX9_isStepTold 170 = .ok (.iconst 1, 1) := by decide +kernel
theorem dX9_isStepTold_171 : decode cX9_isStepTold 171 = .ok (.goto 4, 3) := by decide +kernel
theorem dX9_isStepTold_174 : decode cX9_isStepTold 174 = .ok (.iconst 0, 1) := by decide +kernel
theorem dX9_isStepTold_175 : decode cX9_isStepTold 175 = .ok (.ireturn, 1) := by decide +kernel
theorem dX9_becomes_0 : decode cX9_becomes 0 = .ok (.aload_n 0, 1) := by decide +kernel
theorem dX9_becomes_1 : decode cX9_becomes 1 = .ok (.aload_n 0, 1) := by decide +kernel
theorem dX9_becomes_2 : decode cX9_becomes 2 = .ok (.getfield 77, 3) := by decide +kernel
theorem dX9_becomes_5 : decode cX9_becomes 5 = .ok (.iconst 0, 1) := by decide +kernel
theorem dX9_becomes_6 : decode cX9_becomes 6 = .ok (.invokevirtual 223, 3) := by decide +kernel
theorem dX9_becomes_9 : decode cX9_becomes 9 = .ok (.ifCond .ne 9, 3) := by decide +kernel
theorem dX9_becomes_12 : decode cX9_becomes 12 = .ok (.aload_n 0, 1) := by decide +kernel
theorem dX9_becomes_13 : decode cX9_becomes 13 = .ok (.iconst 1, 1) := by decide +kernel
theorem dX9_becomes_14 : decode cX9_becomes 14 = .ok (.invokevirtual 485, 3) := by decide +kernel
theorem dX9_becomes_17 : decode cX9_becomes 17 = .ok (.ireturn, 1) := by decide +kernel
theorem dX9_becomes_18 : decode cX9_becomes 18 = .ok (.aload_n 0, 1) := by decide +kernel
theorem dX9_becomes_19 : decode cX9_becomes 19 = .ok (.invokevirtual 322, 3) := by decide +kernel
theorem dX9_becomes_22 : decode cX9_becomes 22 = .ok (.iconst 0, 1) := by decide +kernel
theorem dX9_becomes_23 : decode cX9_becomes 23 = .ok (.istore_n 2, 1) := by decide +kernel
theorem dX9_becomes_24 : decode cX9_becomes 24 = .ok (.iload_n 2, 1) := by decide +kernel
theorem dX9_becomes_25 : decode cX9_becomes 25 = .ok (.sipush 161, 3) := by decide +kernel
theorem dX9_becomes_28 : decode cX9_becomes 28 = .ok (.if_icmp .ge 27, 3) := by decide +kernel
theorem dX9_becomes_31 : decode cX9_becomes 31 = .ok (.aload_n 0, 1) := by decide +kernel
theorem dX9_becomes_32 : decode cX9_becomes 32 = .ok (.getfield 33, 3) := by decide +kernel
theorem dX9_becomes_35 : decode cX9_becomes 35 = .ok (.sipush 161, 3) := by decide +kernel
theorem dX9_becomes_38 : decode cX9_becomes 38 = .ok (.iload_n 1, 1) := by decide +kernel
theorem dX9_becomes_39 : decode cX9_becomes 39 = .ok (.imul, 1) := by decide +kernel
theorem dX9_becomes_40 : decode cX9_becomes 40 = .ok (.iload_n 2, 1) := by decide +kernel
theorem dX9_becomes_41 : decode cX9_becomes 41 = .ok (.iadd, 1) := by decide +kernel
theorem dX9_becomes_42 : decode cX9_becomes 42 = .ok (.aload_n 0, 1) := by decide +kernel
theorem dX9_becomes_43 : decode cX9_becomes 43 = .ok (.getfield 77, 3) := by decide +kernel
theorem dX9_becomes_46 : decode cX9_becomes 46 = .ok (.iload_n 2, 1) := by decide +kernel
theorem dX9_becomes_47 : decode cX9_becomes 47 = .ok (.iaload, 1) := by decide +kernel
theorem dX9_becomes_48 : decode cX9_becomes 48 = .ok (.iastore, 1) := by decide +kernel
theorem dX9_becomes_49 : decode cX9_becomes 49 = .ok (.iinc 2 1, 3) := by decide +kernel
theorem dX9_becomes_52 : decode cX9_becomes 52 = .ok (.goto (-28), 3) := by decide +kernel
theorem dX9_becomes_55 : decode cX9_becomes 55 = .ok (.aload_n 0, 1) := by decide +kernel
theorem dX9_becomes_56 : decode cX9_becomes 56 = .ok (.getfield 77, 3) := by decide +kernel
theorem dX9_becomes_59 : decode cX9_becomes 59 = .ok (.iconst 0, 1) := by decide +kernel
theorem dX9_becomes_60 : decode cX9_becomes 60 = .ok (.iaload, 1) := by decide +kernel
theorem dX9_becomes_61 : decode cX9_becomes 61 = .ok (.ireturn, 1) := by decide +kernel
theorem dX9_does_0 : decode cX9_does 0 = .ok (.aload_n 0, 1) := by decide +kernel
theorem dX9_does_1 : decode cX9_does 1 = .ok (.iload_n 1, 1) := by decide +kernel
theorem dX9_does_2 : decode cX9_does 2 = .ok (.invokevirtual 310, 3) := by decide +kernel
theorem dX9_does_5 : decode cX9_does 5 = .ok (.ifCond .eq 20, 3) := by decide +kernel
theorem dX9_does_8 : decode cX9_does 8 = .ok (.aload_n 0, 1) := by decide +kernel
theorem dX9_does_9 : decode cX9_does 9 = .ok (.iload_n 1, 1) := by decide +kernel
theorem dX9_does_10 : decode cX9_does 10 = .ok (.aload_n 0, 1) := by decide +kernel
theorem dX9_does_11 : decode cX9_does 11 = .ok (.iload_n 1, 1) := by decide +kernel
theorem dX9_does_12 : decode cX9_does 12 = .ok (.invokevirtual 337, 3) := by decide +kernel
theorem dX9_does_15 : decode cX9_does 15 = .ok (.iload_n 2, 1) := by decide +kernel
theorem dX9_does_16 : decode cX9_does 16 = .ok (.iload_n 3, 1) := by decide +kernel
theorem dX9_does_17 : decode cX9_does 17 = .ok (.iload 4, 2) := by decide +kernel
theorem dX9_does_19 : decode cX9_does 19 = .ok (.invokevirtual 488, 3) := by decide +kernel
theorem dX9_does_22 : decode cX9_does 22 = .ok (.goto 13, 3) := by decide +kernel
theorem dX9_does_25 : decode cX9_does 25 = .ok (.aload_n 0, 1) := by decide +kernel
theorem dX9_does_26 : decode cX9_does 26 = .ok (.iload_n 1, 1) := by decide +kernel
theorem dX9_does_27 : decode cX9_does 27 = .ok (.iconst 0, 1) := by decide +kernel
theorem dX9_does_28 : decode cX9_does 28 = .ok (.iload_n 2, 1) := by decide +kernel
theorem dX9_does_29 : decode cX9_does 29 = .ok (.iload_n 3, 1) := by decide +kernel
theorem dX9_does_30 : decode cX9_does 30 = .ok (.iload 4, 2) := by decide +kernel
theorem dX9_does_32 : decode cX9_does 32 = .ok (.invokevirtual 488, 3) := by decide +kernel
theorem dX9_does_35 : decode cX9_does 35 = .ok (.ireturn, 1) := by decide +kernel
theorem dX9_puts_0 : decode cX9_puts 0 = .ok (.aload_n 0, 1) := by decide +kernel
