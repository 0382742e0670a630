theorem dX12_heaviest_32 : decode cX12_heaviest 32 = .ok (.aload_n 0, 1) := by decide +kernel
theorem dX12_heaviest_33 : decode cX12_heaviest 33 = .ok (.iconst 2, 1) := by decide +kernel
theorem dX12_heaviest_34 : decode cX12_heaviest 34 = .ok (.invokevirtual 313, 3) := by decide +kernel
theorem dX12_heaviest_37 : decode cX12_heaviest 37 = .ok (.ireturn, 1) := by decide +kernel
theorem dX12_heaviest_38 : decode cX12_heaviest 38 = .ok (.bipush 40, 2) := by decide +kernel
theorem dX12_heaviest_40 : decode cX12_heaviest 40 = .ok (.istore 4, 2) := by decide +kernel
theorem dX12_heaviest_42 : decode cX12_heaviest 42 = .ok (.iload 4, 2) := by decide +kernel
theorem dX12_heaviest_44 : decode cX12_heaviest 44 = .ok (.ifCond .lt 36, 3) := by decide +kernel
theorem dX12_heaviest_47 : decode cX12_heaviest 47 = .ok (.aload_n 0, 1) := by decide +kernel
theorem dX12_heaviest_48 : decode cX12_heaviest 48 = .ok (.iload_n 1, 1) := by decide +kernel
theorem dX12_heaviest_49 : decode cX12_heaviest 49 = .ok (.iload_n 2, 1) := by decide +kernel
theorem dX12_heaviest_50 : decode cX12_heaviest 50 = .ok (.iload 4, 2) := by decide +kernel
theorem dX12_heaviest_52 : decode cX12_heaviest 52 = .ok (.invokevirtual 443, 3) := by decide +kernel
theorem dX12_heaviest_55 : decode cX12_heaviest 55 = .ok (.ifCond .eq 19, 3) := by decide +kernel
theorem dX12_heaviest_58 : decode cX12_heaviest 58 = .ok (.aload_n 0, 1) := by decide +kernel
theorem dX12_heaviest_59 : decode cX12_heaviest 59 = .ok (.getfield 40, 3) := by decide +kernel
theorem dX12_heaviest_62 : decode cX12_heaviest 62 = .ok (.invokestatic 182, 3) := by decide +kernel
theorem dX12_heaviest_65 : decode cX12_heaviest 65 = .ok (.iload_n 3, 1) := by decide +kernel
theorem dX12_heaviest_66 : decode cX12_heaviest 66 = .ok (.i2l, 1) := by decide +kernel
theorem dX12_heaviest_67 : decode cX12_heaviest 67 = .ok (.lcmp, 1) := by decide +kernel
theorem dX12_heaviest_68 : decode cX12_heaviest 68 = .ok (.ifCond .gt 6, 3) := by decide +kernel
theorem dX12_heaviest_71 : decode cX12_heaviest 71 = .ok (.iload 4, 2) := by decide +kernel
theorem dX12_heaviest_73 : decode cX12_heaviest 73 = .ok (.ireturn, 1) := by decide +kernel
theorem dX12_heaviest_74 : decode cX12_heaviest 74 = .ok (.iinc 4 (-1), 3) := by decide +kernel
theorem dX12_heaviest_77 : decode cX12_heaviest 77 = .ok (.goto (-35), 3) := by decide +kernel
theorem dX12_heaviest_80 : decode cX12_heaviest 80 = .ok (.iconst (-1), 1) := by decide +kernel
theorem dX12_heaviest_81 : decode cX12_heaviest 81 = .ok (.ireturn, 1) := by decide +kernel
theorem dX12_sparedBy_0 : decode cX12_sparedBy 0 = .ok (.aload_n 0, 1) := by decide +kernel
theorem dX12_sparedBy_1 : decode cX12_sparedBy 1 = .ok (.iload_n 1, 1) := by decide +kernel
theorem dX12_sparedBy_2 : decode cX12_sparedBy 2 = .ok (.invokevirtual 227, 3) := by decide +kernel
theorem dX12_sparedBy_5 : decode cX12_sparedBy 5 = .ok (.aload_n 0, 1) := by decide +kernel
theorem dX12_sparedBy_6 : decode cX12_sparedBy 6 = .ok (.getfield 40, 3) := by decide +kernel
theorem dX12_sparedBy_9 : decode cX12_sparedBy 9 = .ok (.invokestatic 182, 3) := by decide +kernel
theorem dX12_sparedBy_12 : decode cX12_sparedBy 12 = .ok (.lstore_n 3, 1) := by decide +kernel
theorem dX12_sparedBy_13 : decode cX12_sparedBy 13 = .ok (.aload_n 0, 1) := by decide +kernel
theorem dX12_sparedBy_14 : decode cX12_sparedBy 14 = .ok (.iload_n 1, 1) := by decide +kernel
theorem dX12_sparedBy_15 : decode cX12_sparedBy 15 = .ok (.iload_n 2, 1) := by decide +kernel
theorem dX12_sparedBy_16 : decode cX12_sparedBy 16 = .ok (.invokevirtual 447, 3) := by decide +kernel
theorem dX12_sparedBy_19 : decode cX12_sparedBy 19 = .ok (.ifCond .eq 15, 3) := by decide +kernel
theorem dX12_sparedBy_22 : decode cX12_sparedBy 22 = .ok (.lload_n 3, 1) := by decide +kernel
theorem dX12_sparedBy_23 : decode cX12_sparedBy 23 = .ok (.aload_n 0, 1) := by decide +kernel
theorem dX12_sparedBy_24 : decode cX12_sparedBy 24 = .ok (.getfield 40, 3) := by decide +kernel
theorem dX12_sparedBy_27 : decode cX12_sparedBy 27 = .ok (.invokestatic 182, 3) := by decide +kernel
theorem dX12_sparedBy_30 : decode cX12_sparedBy 30 = .ok (.lsub, 1) := by decide +kernel
theorem dX12_sparedBy_31 : decode cX12_sparedBy 31 = .ok (.goto 6, 3) := by decide +kernel
theorem dX12_sparedBy_34 : decode cX12_sparedBy 34 = .ok (.ldc2_w 450, 3) := by decide +kernel
theorem dX12_sparedBy_37 : decode cX12_sparedBy 37 = .ok (.lreturn, 1) := by decide +kernel
theorem dX12_spared_0 : decode cX12_spared 0 = .ok (.aload_n 0, 1) := by decide +kernel
theorem dX12_spared_1 : decode cX12_spared 1 = .ok (.iconst 0, 1) := by decide +kernel
theorem dX12_spared_2 : decode cX12_spared 2 = .ok (.putfield 132, 3) := by decide +kernel
theorem dX12_spared_5 : decode cX12_spared 5 = .ok (.aload_n 0, 1) := by decide +kernel
theorem dX12_spared_6 : decode cX12_spared 6 = .ok (.iload_n 1, 1) := by decide +kernel
theorem dX12_spared_7 : decode cX12_spared 7 = .ok (.iload_n 2, 1) := by decide +kernel
theorem dX12_spared_8 : decode cX12_spared 8 = .ok (.invokevirtual 340, 3) := by decide +kernel
theorem dX12_spared_11 : decode cX12_spared 11 = .ok (.ifCond .eq 12, 3) := by decide +kernel
theorem dX12_spared_14 : decode cX12_spared 14 = .ok (.aload_n 0, 1) := by decide +kernel
theorem dX12_spared_15 : decode cX12_spared 15 = .ok (.iload_n 1, 1) := by decide +kernel
theorem dX12_spared_16 : decode cX12_spared 16 = .ok (.iload_n 2, 1) := by decide +kernel
theorem dX12_spared_17 : decode cX12_spared 17 = .ok (.invokevirtual 452, 3) := by decide +kernel
theorem dX12_spared_20 : decode cX12_spared 20 = .ok (.goto 9, 3) := by decide +kernel
theorem dX12_spared_23 : decode cX12_spared 23 = .ok (.aload_n 0, 1) := by decide +kernel
theorem dX12_spared_24 : decode cX12_spared 24 = .ok (.iconst 1, 1) := by decide +kernel
theorem dX12_spared_25 : decode cX12_spared 25 = .ok (.invokevirtual 313, 3) := by decide +kernel
theorem dX12_spared_28 : decode cX12_spared 28 = .ok (.i2l, 1) := by decide +kernel
theorem dX12_spared_29 : decode cX12_spared 29 = .ok (.lreturn, 1) := by decide +kernel
theorem dX12_dearest_0 : decode cX12_dearest 0 = .ok (.aload_n 0, 1) := by decide +kernel
theorem dX12_dearest_1 : decode cX12_dearest 1 = .ok (.iconst 0, 1) := by decide +kernel
theorem dX12_dearest_2 : decode cX12_dearest 2 = .ok (.putfield 132, 3) := by decide +kernel
theorem dX12_dearest_5 : decode cX12_dearest 5 = .ok (.aload_n 0, 1) := by decide +kernel
theorem dX12_dearest_6 : decode cX12_dearest 6 = .ok (.iload_n 1, 1) := by decide +kernel
theorem dX12_dearest_7 : decode cX12_dearest 7 = .ok (.invokevirtual 310, 3) := by decide +kernel
theorem dX12_dearest_10 : decode cX12_dearest 10 = .ok (.ifCond .ne 9, 3) := by decide +kernel
theorem dX12_dearest_13 : decode cX12_dearest 13 = .ok (.aload_n 0, 1) := by decide +kernel
theorem dX12_dearest_14 : decode cX12_dearest 14 = .ok (.iconst 1, 1) := by decide +kernel
theorem dX12_dearest_15 : decode cX12_dearest 15 = .ok (.invokevirtual 313, 3) := by decide +kernel
theorem dX12_dearest_18 : decode cX12_dearest 18 = .ok (.ireturn, 1) := by decide +kernel
theorem dX12_dearest_19 : decode cX12_dearest 19 = .ok (.iconst (-1), 1) := by decide +kernel
theorem dX12_dearest_20 : decode cX12_dearest 20 = .ok (.istore_n 2, 1) := by decide +kernel
theorem dX12_dearest_21 : decode cX12_dearest 21 = .ok (.lconst 0, 1) := by decide +kernel
theorem dX12_dearest_22 : decode cX12_dearest 22 = .ok (.lstore_n 3, 1) := by decide +kernel
theorem dX12_dearest_23 : decode cX12_dearest 23 = .ok (.iconst 0, 1) := by decide +kernel
theorem dX12_dearest_24 : decode cX12_dearest 24 = .ok (.istore 5, 2) := by decide +kernel
theorem dX12_dearest_26 : decode cX12_dearest 26 = .ok (.iload 5, 2) := by decide +kernel
theorem dX12_dearest_28 : decode cX12_dearest 28 = .ok (.aload_n 0, 1) := by decide +kernel
theorem dX12_dearest_29 : decode cX12_dearest 29 = .ok (.iload_n 1, 1) := by decide +kernel
theorem dX12_dearest_30 : decode cX12_dearest 30 = .ok (.invokevirtual 337, 3) := by decide +kernel
theorem dX12_dearest_33 : decode cX12_dearest 33 = .ok (.if_icmp .ge 39, 3) := by decide +kernel
theorem dX12_dearest_36 : decode cX12_dearest 36 = .ok (.aload_n 0, 1) := by decide +kernel
theorem dX12_dearest_37 : decode cX12_dearest 37 = .ok (.iload_n 1, 1) := by decide +kernel
theorem dX12_dearest_38 : decode cX12_dearest 38 = .ok (.iload 5, 2) := by decide +kernel
theorem dX12_dearest_40 : decode cX12_dearest 40 = .ok (.invokevirtual 452, 3) := by decide +kernel
theorem dX12_dearest_43 : decode cX12_dearest 43 = .ok (.lstore 6, 2) := by decide +kernel
theorem dX12_dearest_45 : decode cX12_dearest 45 = .ok (.iload_n 2, 1) := by decide +kernel
theorem dX12_dearest_46 : decode cX12_dearest 46 = .ok (.iconst (-1), 1) := by decide +kernel
theorem dX12_dearest_47 : decode cX12_dearest 47 = .ok (.if_icmp .eq 13, 3) := by decide +kernel
theorem dX12_dearest_50 : decode cX12_dearest 50 = .ok (.lload 6, 2) := by decide +kernel
theorem dX12_dearest_52 : decode cX12_dearest 52 = .ok (.lload_n 3, 1) := by decide +kernel
theorem dX12_dearest_53 : decode cX12_dearest 53 = .ok (.lcmp, 1) := by decide +kernel
theorem dX12_dearest_54 : decode cX12_dearest 54 = .ok (.ifCond .gt 6, 3) := by decide +kernel
theorem dX12_dearest_57 : decode cX12_dearest 57 = .ok (.goto 9, 3) := by decide +kernel
theorem dX12_dearest_60 : decode cX12_dearest 60 = .ok (.iload 5, 2) := by decide +kernel
theorem dX12_dearest_62 : decode cX12_dearest 62 = .ok (.istore_n 2, 1) := by decide +kernel
theorem dX12_dearest_63 : decode cX12_dearest 63 = .ok (.lload 6, 2) := by decide +kernel
theorem dX12_dearest_65 : decode cX12_dearest 65 = .ok (.lstore_n 3, 1) := by decide +kernel
theorem dX12_dearest_66 : decode cX12_dearest 66 = .ok (.iinc 5 1, 3) := by decide +kernel
theorem dX12_dearest_69 : decode cX12_dearest 69 = .ok (.goto (-43), 3) := by decide +kernel
theorem dX12_dearest_72 : decode cX12_dearest 72 = .ok (.iload_n 2, 1) := by decide +kernel
theorem dX12_dearest_73 : decode cX12_dearest 73 = .ok (.ireturn, 1) := by decide +kernel
theorem dX12_tellByte_0 : decode cX12_tellByte 0 = .ok (.aload_n 0, 1) := by decide +kernel
theorem dX12_tellByte_1 : decode cX12_tellByte 1 = .ok (.getfield 456, 3) := by decide +kernel
theorem dX12_tellByte_4 : decode cX12_tellByte 4 = .ok (.aload_n 0, 1) := by decide +kernel
theorem dX12_tellByte_5 : decode cX12_tellByte 5 = .ok (.getfield 459, 3) := by decide +kernel
theorem dX12_tellByte_8 : decode cX12_tellByte 8 = .ok (.if_icmp .ne 8, 3) := by decide +kernel
theorem dX12_tellByte_11 : decode cX12_tellByte 11 = .ok (.aload_n 0, 1) := by decide +kernel
theorem dX12_tellByte_12 : decode cX12_tellByte 12 = .ok (.iload_n 1, 1) := by decide +kernel
theorem dX12_tellByte_13 : decode cX12_tellByte 13 = .ok (.putfield 462, 3) := by decide +kernel
theorem dX12_tellByte_16 : decode cX12_tellByte 16 = .ok (.aload_n 0, 1) := by decide +kernel
theorem dX12_tellByte_17 : decode cX12_tellByte 17 = .ok (.dup, 1) := by decide +kernel
theorem dX12_tellByte_18 : decode cX12_tellByte 18 = .ok (.getfield 456, 3) := by decide +kernel
theorem dX12_tellByte_21 : decode cX12_tellByte 21 = .ok (.iconst 1, 1) := by decide +kernel
theorem dX12_tellByte_22 : decode cX12_tellByte 22 = .ok (.iadd, 1) := by decide +kernel
theorem dX12_tellByte_23 : decode cX12_tellByte 23 = .ok (.putfield 456, 3) := by decide +kernel
theorem dX12_tellByte_26 : decode cX12_tellByte 26 = .ok (.return_, 1) := by decide +kernel
theorem dX12_tellDigits_0 : decode cX12_tellDigits 0 = .ok (.iload_n 1, 1) := by decide +kernel
theorem dX12_tellDigits_1 : decode cX12_tellDigits 1 = .ok (.bipush 9, 2) := by decide +kernel
theorem dX12_tellDigits_3 : decode cX12_tellDigits 3 = .ok (.if_icmp .le 11, 3) := by decide +kernel
theorem dX12_tellDigits_6 : decode cX12_tellDigits 6 = .ok (.aload_n 0, 1) := by decide +kernel
theorem dX12_tellDigits_7 : decode cX12_tellDigits 7 = .ok (.iload_n 1, 1) := by decide +kernel
theorem dX12_tellDigits_8 : decode cX12_tellDigits 8 = .ok (.bipush 10, 2) := by decide +kernel
theorem dX12_tellDigits_10 : decode cX12_tellDigits 10 = .ok (.idiv, 1) := by decide +kernel
theorem dX12_tellDigits_11 : decode cX12_tellDigits 11 = .ok (.invokevirtual 465, 3) := by decide +kernel
theorem dX12_tellDigits_14 : decode cX12_tellDigits 14 = .ok (.aload_n 0, 1) := by decide +kernel
theorem dX12_tellDigits_15 : decode cX12_tellDigits 15 = .ok (.bipush 48, 2) := by decide +kernel
theorem dX12_tellDigits_17 : decode cX12_tellDigits 17 = .ok (.iload_n 1, 1) := by decide +kernel
theorem dX12_tellDigits_18 : decode cX12_tellDigits 18 = .ok (.bipush 10, 2) := by decide +kernel
theorem dX12_tellDigits_20 : decode cX12_tellDigits 20 = .ok (.irem, 1) := by decide +kernel
theorem dX12_tellDigits_21 : decode cX12_tellDigits 21 = .ok (.iadd, 1) := by decide +kernel
theorem dX12_tellDigits_22 : decode cX12_tellDigits 22 = .ok (.invokevirtual 468, 3) := by decide +kernel
theorem dX12_tellDigits_25 : decode cX12_tellDigits 25 = .ok (.return_, 1) := by decide +kernel
theorem dX12_tellNumber_0 : decode cX12_tellNumber 0 = .ok (.aload_n 0, 1) := by decide +kernel
theorem dX12_tellNumber_1 : decode cX12_tellNumber 1 = .ok (.bipush 32, 2) := by decide +kernel
theorem dX12_tellNumber_3 : decode cX12_tellNumber 3 = .ok (.invokevirtual 468, 3) := by decide +kernel
theorem dX12_tellNumber_6 : decode cX12_tellNumber 6 = .ok (.iload_n 1, 1) := by decide +kernel
theorem dX12_tellNumber_7 : decode cX12_tellNumber 7 = .ok (.ifCond .ge 9, 3) := by decide +kernel
theorem dX12_tellNumber_10 : decode cX12_tellNumber 10 = .ok (.aload_n 0, 1) := by decide +kernel
theorem dX12_tellNumber_11 : decode cX12_tellNumber 11 = .ok (.bipush 45, 2) := by decide +kernel
theorem dX12_tellNumber_13 : decode cX12_tellNumber 13 = .ok (.invokevirtual 468, 3) := by decide +kernel
theorem dX12_tellNumber_16 : decode cX12_tellNumber 16 = .ok (.aload_n 0, 1) := by decide +kernel
theorem dX12_tellNumber_17 : decode cX12_tellNumber 17 = .ok (.iload_n 1, 1) := by decide +kernel
theorem dX12_tellNumber_18 : decode cX12_tellNumber 18 = .ok (.invokestatic 372, 3) := by decide +kernel
theorem dX12_tellNumber_21 : decode cX12_tellNumber 21 = .ok (.invokevirtual 465, 3) := by decide +kernel
theorem dX12_tellNumber_24 : decode cX12_tellNumber 24 = .ok (.return_, 1) := by decide +kernel
theorem dX12_tellSteps_0 : decode cX12_tellSteps 0 = .ok (.aload_n 0, 1) := by decide +kernel
theorem dX12_tellSteps_1 : decode cX12_tellSteps 1 = .ok (.iconst 0, 1) := by decide +kernel
theorem dX12_tellSteps_2 : decode cX12_tellSteps 2 = .ok (.putfield 456, 3) := by decide +kernel
theorem dX12_tellSteps_5 : decode cX12_tellSteps 5 = .ok (.iconst 0, 1) := by decide +kernel
theorem dX12_tellSteps_6 : decode cX12_tellSteps 6 = .ok (.istore_n 2, 1) := by decide +kernel
theorem dX12_tellSteps_7 : decode cX12_tellSteps 7 = .ok (.iload_n 2, 1) := by decide +kernel
theorem dX12_tellSteps_8 : decode cX12_tellSteps 8 = .ok (.aload_n 0, 1) := by decide +kernel
theorem dX12_tellSteps_9 : decode cX12_tellSteps 9 = .ok (.iload_n 1, 1) := by decide +kernel
theorem dX12_tellSteps_10 : decode cX12_tellSteps 10 = .ok (.invokevirtual 337, 3) := by decide +kernel
theorem dX12_tellSteps_13 : decode cX12_tellSteps 13 = .ok (.if_icmp .ge 104, 3) := by decide +kernel
theorem dX12_tellSteps_16 : decode cX12_tellSteps 16 = .ok (.aload_n 0, 1) := by decide +kernel
theorem dX12_tellSteps_17 : decode cX12_tellSteps 17 = .ok (.iload_n 1, 1) := by decide +kernel
theorem dX12_tellSteps_18 : decode cX12_tellSteps 18 = .ok (.iload_n 2, 1) := by decide +kernel
theorem dX12_tellSteps_19 : decode cX12_tellSteps 19 = .ok (.iconst 0, 1) := by decide +kernel
theorem dX12_tellSteps_20 : decode cX12_tellSteps 20 = .ok (.invokevirtual 346, 3) := by decide +kernel
theorem dX12_tellSteps_23 : decode cX12_tellSteps 23 = .ok (.istore_n 3, 1) := by decide +kernel
theorem dX12_tellSteps_24 : decode cX12_tellSteps 24 = .ok (.iconst 0, 1) := by decide +kernel
theorem dX12_tellSteps_25 : decode cX12_tellSteps 25 = .ok (.istore 4, 2) := by decide +kernel
theorem dX12_tellSteps_27 : decode cX12_tellSteps 27 = .ok (.iload 4, 2) := by decide +kernel
theorem dX12_tellSteps_29 : decode cX12_tellSteps 29 = .ok (.aload_n 0, 1) := by decide +kernel
theorem dX12_tellSteps_30 : decode cX12_tellSteps 30 = .ok (.getfield 27, 3) := by decide +kernel
theorem dX12_tellSteps_33 : decode cX12_tellSteps 33 = .ok (.iload_n 3, 1) := by decide +kernel
theorem dX12_tellSteps_34 : decode cX12_tellSteps 34 = .ok (.aaload, 1) := by decide +kernel
theorem dX12_tellSteps_35 : decode cX12_tellSteps 35 = .ok (.invokevirtual 272, 3) := by decide +kernel
theorem dX12_tellSteps_38 : decode cX12_tellSteps 38 = .ok (.if_icmp .ge 24, 3) := by decide +kernel
theorem dX12_tellSteps_41 : decode cX12_tellSteps 41 = .ok (.aload_n 0, 1) := by decide +kernel
theorem dX12_tellSteps_42 : decode cX12_tellSteps 42 = .ok (.aload_n 0, 1) := by decide +kernel
theorem dX12_tellSteps_43 : decode cX12_tellSteps 43 = .ok (.getfield 27, 3) := by decide +kernel
theorem dX12_tellSteps_46 : decode cX12_tellSteps 46 = .ok (.iload_n 3, 1) := by decide +kernel
theorem dX12_tellSteps_47 : decode cX12_tellSteps 47 = .ok (.aaload, 1) := by decide +kernel
theorem dX12_tellSteps_48 : decode cX12_tellSteps 48 = .ok (.iload 4, 2) := by decide +kernel
theorem dX12_tellSteps_50 : decode cX12_tellSteps 50 = .ok (.invokevirtual 276, 3) := by decide +kernel
theorem dX12_tellSteps_53 : decode cX12_tellSteps 53 = .ok (.invokevirtual 468, 3) := by decide +kernel
theorem dX12_tellSteps_56 : decode cX12_tellSteps 56 = .ok (.iinc 4 1, 3) := by decide +kernel
theorem dX12_tellSteps_59 : decode cX12_tellSteps 59 = .ok (.goto (-32), 3) := by decide +kernel
theorem dX12_tellSteps_62 : decode cX12_tellSteps 62 = .ok (.iload_n 3, 1) := by decide +kernel
theorem dX12_tellSteps_63 : decode cX12_tellSteps 63 = .ok (.iconst 5, 1) := by decide +kernel
theorem dX12_tellSteps_64 : decode cX12_tellSteps 64 = .ok (.if_icmp .eq 20, 3) := by decide +kernel
theorem dX12_tellSteps_67 : decode cX12_tellSteps 67 = .ok (.iload_n 3, 1) := by decide +kernel
theorem dX12_tellSteps_68 : decode cX12_tellSteps 68 = .ok (.bipush 6, 2) := by decide +kernel
theorem dX12_tellSteps_70 : decode cX12_tellSteps 70 = .ok (.if_icmp .eq 14, 3) := by decide +kernel
theorem dX12_tellSteps_73 : decode cX12_tellSteps 73 = .ok (.aload_n 0, 1) := by decide +kernel
theorem dX12_tellSteps_74 : decode cX12_tellSteps 74 = .ok (.aload_n 0, 1) := by decide +kernel
theorem dX12_tellSteps_75 : decode cX12_tellSteps 75 = .ok (.iload_n 1, 1) := by decide +kernel
theorem dX12_tellSteps_76 : decode cX12_tellSteps 76 = .ok (.iload_n 2, 1) := by decide +kernel
theorem dX12_tellSteps_77 : decode cX12_tellSteps 77 = .ok (.iconst 1, 1) := by decide +kernel
theorem dX12_tellSteps_78 : decode cX12_tellSteps 78 = .ok (.invokevirtual 346, 3) := by decide +kernel
theorem dX12_tellSteps_81 : decode cX12_tellSteps 81 = .ok (.invokevirtual 471, 3) := by decide +kernel
theorem dX12_tellSteps_84 : decode cX12_tellSteps 84 = .ok (.iload_n 3, 1) := by decide +kernel
theorem dX12_tellSteps_85 : decode cX12_tellSteps 85 = .ok (.iconst 2, 1) := by decide +kernel
theorem dX12_tellSteps_86 : decode cX12_tellSteps 86 = .ok (.if_icmp .le 8, 3) := by decide +kernel
theorem dX12_tellSteps_89 : decode cX12_tellSteps 89 = .ok (.iload_n 3, 1) := by decide +kernel
theorem dX12_tellSteps_90 : decode cX12_tellSteps 90 = .ok (.iconst 4, 1) := by decide +kernel
theorem dX12_tellSteps_91 : decode cX12_tellSteps 91 = .ok (.if_icmp .ne 14, 3) := by decide +kernel
theorem dX12_tellSteps_94 : decode cX12_tellSteps 94 = .ok (.aload_n 0, 1) := by decide +kernel
theorem dX12_tellSteps_95 : decode cX12_tellSteps 95 = .ok (.aload_n 0, 1) := by decide +kernel
theorem dX12_tellSteps_96 : decode cX12_tellSteps 96 = .ok (.iload_n 1, 1) := by decide +kernel
theorem dX12_tellSteps_97 : decode cX12_tellSteps 97 = .ok (.iload_n 2, 1) := by decide +kernel
theorem dX12_tellSteps_98 : decode cX12_tellSteps 98 = .ok (.iconst 2, 1) := by decide +kernel
theorem dX12_tellSteps_99 : decode cX12_tellSteps 99 = .ok (.invokevirtual 346, 3) := by decide +kernel
theorem dX12_tellSteps_102 : decode cX12_tellSteps 102 = .ok (.invokevirtual 471, 3) := by decide +kernel
theorem dX12_tellSteps_105 : decode cX12_tellSteps 105 = .ok (.aload_n 0, 1) := by decide +kernel
theorem dX12_tellSteps_106 : decode cX12_tellSteps 106 = .ok (.bipush 59, 2) := by decide +kernel
theorem dX12_tellSteps_108 : decode cX12_tellSteps 108 = .ok (.invokevirtual 468, 3) := by decide +kernel
theorem dX12_tellSteps_111 : decode cX12_tellSteps 111 = .ok (.iinc 2 1, 3) := by decide +kernel
theorem dX12_tellSteps_114 : decode cX12_tellSteps 114 = .ok (.goto (-107), 3) := by decide +kernel
theorem dX12_tellSteps_117 : decode cX12_tellSteps 117 = .ok (.return_, 1) := by decide +kernel
theorem dX12_told_0 : decode cX12_told 0 = .ok (.aload_n 0, 1) := by decide +kernel
theorem dX12_told_1 : decode cX12_told 1 = .ok (.iconst 0, 1) := by decide +kernel
theorem dX12_told_2 : decode cX12_told 2 = .ok (.putfield 132, 3) := by decide +kernel
theorem dX12_told_5 : decode cX12_told 5 = .ok (.aload_n 0, 1) := by decide +kernel
theorem dX12_told_6 : decode cX12_told 6 = .ok (.iload_n 1, 1) := by decide +kernel
theorem dX12_told_7 : decode cX12_told 7 = .ok (.invokevirtual 310, 3) := by decide +kernel
theorem dX12_told_10 : decode cX12_told 10 = .ok (.ifCond .ne 9, 3) := by decide +kernel
theorem dX12_told_13 : decode cX12_told 13 = .ok (.aload_n 0, 1) := by decide +kernel
theorem dX12_told_14 : decode cX12_told 14 = .ok (.iconst 1, 1) := by decide +kernel
theorem dX12_told_15 : decode cX12_told 15 = .ok (.invokevirtual 313, 3) := by decide +kernel
theorem dX12_told_18 : decode cX12_told 18 = .ok (.ireturn, 1) := by decide +kernel
theorem dX12_told_19 : decode cX12_told 19 = .ok (.aload_n 0, 1) := by decide +kernel
theorem dX12_told_20 : decode cX12_told 20 = .ok (.iload_n 2, 1) := by decide +kernel
theorem dX12_told_21 : decode cX12_told 21 = .ok (.putfield 459, 3) := by decide +kernel
theorem dX12_told_24 : decode cX12_told 24 = .ok (.aload_n 0, 1) := by decide +kernel
theorem dX12_told_25 : decode cX12_told 25 = .ok (.iconst (-1), 1) := by decide +kernel
theorem dX12_told_26 : decode cX12_told 26 = .ok (.putfield 462, 3) := by decide +kernel
theorem dX12_told_29 : decode cX12_told 29 = .ok (.aload_n 0, 1) := by decide +kernel
theorem dX12_told_30 : decode cX12_told 30 = .ok (.iload_n 1, 1) := by decide +kernel
theorem dX12_told_31 : decode cX12_told 31 = .ok (.invokevirtual 474, 3) := by decide +kernel
theorem dX12_told_34 : decode cX12_told 34 = .ok (.iload_n 2, 1) := by decide +kernel
theorem dX12_told_35 : decode cX12_told 35 = .ok (.iconst (-1), 1) := by decide +kernel
theorem dX12_told_36 : decode cX12_told 36 = .ok (.if_icmp .ne 10, 3) := by decide +kernel
theorem dX12_told_39 : decode cX12_told 39 = .ok (.aload_n 0, 1) := by decide +kernel
theorem dX12_told_40 : decode cX12_told 40 = .ok (.getfield 456, 3) := by decide +kernel
theorem dX12_told_43 : decode cX12_told 43 = .ok (.goto 23, 3) := by decide +kernel
theorem dX12_told_46 : decode cX12_told 46 = .ok (.aload_n 0, 1) := by decide +kernel
theorem dX12_told_47 : decode cX12_told 47 = .ok (.getfield 462, 3) := by decide +kernel
theorem dX12_told_50 : decode cX12_told 50 = .ok (.iconst (-1), 1) := by decide +kernel
theorem dX12_told_51 : decode cX12_told 51 = .ok (.if_icmp .ne 11, 3) := by decide +kernel
theorem dX12_told_54 : decode cX12_told 54 = .ok (.aload_n 0, 1) := by decide +kernel
theorem dX12_told_55 : decode cX12_told 55 = .ok (.iconst 1, 1) := by decide +kernel
theorem dX12_told_56 : decode cX12_told 56 = .ok (.invokevirtual 313, 3) := by decide +kernel
theorem dX12_told_59 : decode cX12_told 59 = .ok (.goto 7, 3) := by decide +kernel
theorem dX12_told_62 : decode cX12_told 62 = .ok (.aload_n 0, 1) := by decide +kernel
theorem dX12_told_63 : decode cX12_told 63 = .ok (.getfield 462, 3) := by decide +kernel
theorem dX12_told_66 : decode cX12_told 66 = .ok (.ireturn, 1) := by decide +kernel
theorem dX12_refuse_0 : decode cX12_refuse 0 = .ok (.aload_n 0, 1) := by decide +kernel
theorem dX12_refuse_1 : decode cX12_refuse 1 = .ok (.getfield 37, 3) := by decide +kernel
theorem dX12_refuse_4 : decode cX12_refuse 4 = .ok (.iload_n 1, 1) := by decide +kernel
theorem dX12_refuse_5 : decode cX12_refuse 5 = .ok (.dup2, 1) := by decide +kernel
theorem dX12_refuse_6 : decode cX12_refuse 6 = .ok (.iaload, 1) := by decide +kernel
theorem dX12_refuse_7 : decode cX12_refuse 7 = .ok (.iconst 1, 1) := by decide +kernel
theorem dX12_refuse_8 : decode cX12_refuse 8 = .ok (.iadd, 1) := by decide +kernel
theorem dX12_refuse_9 : decode cX12_refuse 9 = .ok (.iastore, 1) := by decide +kernel
theorem dX12_refuse_10 : decode cX12_refuse 10 = .ok (.iconst (-1), 1) := by decide +kernel
theorem dX12_refuse_11 : decode cX12_refuse 11 = .ok (.ireturn, 1) := by decide +kernel
theorem dX12_keep_0 : decode cX12_keep 0 = .ok (.aload_n 0, 1) := by decide +kernel
theorem dX12_keep_1 : decode cX12_keep 1 = .ok (.getfield 331, 3) := by decide +kernel
theorem dX12_keep_4 : decode cX12_keep 4 = .ok (.bipush 40, 2) := by decide +kernel
theorem dX12_keep_6 : decode cX12_keep 6 = .ok (.if_icmp .ne 48, 3) := by decide +kernel
theorem dX12_keep_9 : decode cX12_keep 9 = .ok (.sipush 644, 3) := by decide +kernel
theorem dX12_keep_12 : decode cX12_keep 12 = .ok (.istore_n 1, 1) := by decide +kernel
theorem dX12_keep_13 : decode cX12_keep 13 = .ok (.iload_n 1, 1) := by decide +kernel
theorem dX12_keep_14 : decode cX12_keep 14 = .ok (.aload_n 0, 1) := by decide +kernel
theorem dX12_keep_15 : decode cX12_keep 15 = .ok (.getfield 102, 3) := by decide +kernel
theorem dX12_keep_18 : decode cX12_keep 18 = .ok (.arraylength, 1) := by decide +kernel
theorem dX12_keep_19 : decode cX12_keep 19 = .ok (.if_icmp .ge 25, 3) := by decide +kernel
theorem dX12_keep_22 : decode cX12_keep 22 = .ok (.aload_n 0, 1) := by decide +kernel
theorem dX12_keep_23 : decode cX12_keep 23 = .ok (.getfield 102, 3) := by decide +kernel
theorem dX12_keep_26 : decode cX12_keep 26 = .ok (.iload_n 1, 1) := by decide +kernel
theorem dX12_keep_27 : decode cX12_keep 27 = .ok (.sipush 644, 3) := by decide +kernel
theorem dX12_keep_30 : decode cX12_keep 30 = .ok (.isub, 1) := by decide +kernel
theorem dX12_keep_31 : decode cX12_keep 31 = .ok (.aload_n 0, 1) := by decide +kernel
theorem dX12_keep_32 : decode cX12_keep 32 = .ok (.getfield 102, 3) := by decide +kernel
theorem dX12_keep_35 : decode cX12_keep 35 = .ok (.iload_n 1, 1) := by decide +kernel
theorem dX12_keep_36 : decode cX12_keep 36 = .ok (.iaload, 1) := by decide +kernel
theorem dX12_keep_37 : decode cX12_keep 37 = .ok (.iastore, 1) := by decide +kernel
theorem dX12_keep_38 : decode cX12_keep 38 = .ok (.iinc 1 1, 3) := by decide +kernel
theorem dX12_keep_41 : decode cX12_keep 41 = .ok (.goto (-28), 3) := by decide +kernel
theorem dX12_keep_44 : decode cX12_keep 44 = .ok (.aload_n 0, 1) := by decide +kernel
theorem dX12_keep_45 : decode cX12_keep 45 = .ok (.dup, 1) := by decide +kernel
theorem dX12_keep_46 : decode cX12_keep 46 = .ok (.getfield 331, 3) := by decide +kernel
theorem dX12_keep_49 : decode cX12_keep 49 = .ok (.iconst 1, 1) := by decide +kernel
theorem dX12_keep_50 : decode cX12_keep 50 = .ok (.isub, 1) := by decide +kernel
theorem dX12_keep_51 : decode cX12_keep 51 = .ok (.putfield 331, 3) := by decide +kernel
theorem dX12_keep_54 : decode cX12_keep 54 = .ok (.iconst 0, 1) := by decide +kernel
theorem dX12_keep_55 : decode cX12_keep 55 = .ok (.istore_n 1, 1) := by decide +kernel
theorem dX12_keep_56 : decode cX12_keep 56 = .ok (.iload_n 1, 1) := by decide +kernel
theorem dX12_keep_57 : decode cX12_keep 57 = .ok (.sipush 644, 3) := by decide +kernel
theorem dX12_keep_60 : decode cX12_keep 60 = .ok (.if_icmp .ge 30, 3) := by decide +kernel
theorem dX12_keep_63 : decode cX12_keep 63 = .ok (.aload_n 0, 1) := by decide +kernel
theorem dX12_keep_64 : decode cX12_keep 64 = .ok (.getfield 102, 3) := by decide +kernel
theorem dX12_keep_67 : decode cX12_keep 67 = .ok (.sipush 644, 3) := by decide +kernel
theorem dX12_keep_70 : decode cX12_keep 70 = .ok (.aload_n 0, 1) := by decide +kernel
theorem dX12_keep_71 : decode cX12_keep 71 = .ok (.getfield 331, 3) := by decide +kernel
theorem dX12_keep_74 : decode cX12_keep 74 = .ok (.imul, 1) := by decide +kernel
theorem dX12_keep_75 : decode cX12_keep 75 = .ok (.iload_n 1, 1) := by decide +kernel
theorem dX12_keep_76 : decode cX12_keep 76 = .ok (.iadd, 1) := by decide +kernel
theorem dX12_keep_77 : decode cX12_keep 77 = .ok (.aload_n 0, 1) := by decide +kernel
theorem dX12_keep_78 : decode cX12_keep 78 = .ok (.getfield 33, 3) := by decide +kernel
theorem dX12_keep_81 : decode cX12_keep 81 = .ok (.iload_n 1, 1) := by decide +kernel
theorem dX12_keep_82 : decode cX12_keep 82 = .ok (.iaload, 1) := by decide +kernel
theorem dX12_keep_83 : decode cX12_keep 83 = .ok (.iastore, 1) := by decide +kernel
theorem dX12_keep_84 : decode cX12_keep 84 = .ok (.iinc 1 1, 3) := by decide +kernel
theorem dX12_keep_87 : decode cX12_keep 87 = .ok (.goto (-31), 3) := by decide +kernel
theorem dX12_keep_90 : decode cX12_keep 90 = .ok (.aload_n 0, 1) := by decide +kernel
theorem dX12_keep_91 : decode cX12_keep 91 = .ok (.dup, 1) := by decide +kernel
theorem dX12_keep_92 : decode cX12_keep 92 = .ok (.getfield 331, 3) := by decide +kernel
theorem dX12_keep_95 : decode cX12_keep 95 = .ok (.iconst 1, 1) := by decide +kernel
theorem dX12_keep_96 : decode cX12_keep 96 = .ok (.iadd, 1) := by decide +kernel
theorem dX12_keep_97 : decode cX12_keep 97 = .ok (.putfield 331, 3) := by decide +kernel
theorem dX12_keep_100 : decode cX12_keep 100 = .ok (.return_, 1) := by decide +kernel
theorem dX12_isStepTold_0 : decode cX12_isStepTold 0 = .ok (.iload_n 1, 1) := by decide +kernel
theorem dX12_isStepTold_1 : decode cX12_isStepTold 1 = .ok (.tableswitch 158 0 8 #[51, 51, 51, 83, 95, 158, 158, 125, 135], 51) := by decide +kernel
theorem dX12_isStepTold_52 : decode cX12_isStepTold 52 = .ok (.iload_n 2, 1) := by decide +kernel
theorem dX12_isStepTold_53 : decode cX12_isStepTold 53 = .ok (.i2l, 1) := by decide +kernel
theorem dX12_isStepTold_54 : decode cX12_isStepTold 54 = .ok (.ldc2_w 477, 3) := by decide +kernel
theorem dX12_isStepTold_57 : decode cX12_isStepTold 57 = .ok (.ldc2_w 479, 3) := by decide +kernel
theorem dX12_isStepTold_60 : decode cX12_isStepTold 60 = .ok (.invokestatic 166, 3) := by decide +kernel
theorem dX12_isStepTold_63 : decode cX12_isStepTold 63 = .ok (.ifCond .eq 19, 3) := by decide +kernel
theorem dX12_isStepTold_66 : decode cX12_isStepTold 66 = .ok (.iload_n 3, 1) := by decide +kernel
theorem dX12_isStepTold_67 : decode cX12_isStepTold 67 = .ok (.i2l, 1) := by decide +kernel
theorem dX12_isStepTold_68 : decode cX12_isStepTold 68 = .ok (.lconst 0, 1) := by decide +kernel
theorem dX12_isStepTold_69 : decode cX12_isStepTold 69 = .ok (.ldc2_w 481, 3) := by decide +kernel
theorem dX12_isStepTold_72 : decode cX12_isStepTold 72 = .ok (.invokestatic 166, 3) := by decide +kernel
theorem dX12_isStepTold_75 : decode cX12_isStepTold 75 = .ok (.ifCond .eq 7, 3) := by decide +kernel
theorem dX12_isStepTold_78 : decode cX12_isStepTold 78 = .ok (.iconst 1, 1) := by decide +kernel
theorem dX12_isStepTold_79 : decode cX12_isStepTold 79 = .ok (.goto 4, 3) := by decide +kernel
theorem dX12_isStepTold_82 : decode cX12_isStepTold 82 = .ok (.iconst 0, 1) := by decide +kernel
theorem dX12_isStepTold_83 : decode cX12_isStepTold 83 = .ok (.ireturn, 1) := by decide +kernel
theorem dX12_isStepTold_84 : decode cX12_isStepTold 84 = .ok (.iload_n 2, 1) := by decide +kernel
theorem dX12_isStepTold_85 : decode cX12_isStepTold 85 = .ok (.i2l, 1) := by decide +kernel
theorem dX12_isStepTold_86 : decode cX12_isStepTold 86 = .ok (.ldc2_w 477, 3) := by decide +kernel
theorem dX12_isStepTold_89 : decode cX12_isStepTold 89 = .ok (.ldc2_w 479, 3) := by decide +kernel
theorem dX12_isStepTold_92 : decode cX12_isStepTold 92 = .ok (.invokestatic 166, 3) := by decide +kernel
theorem dX12_isStepTold_95 : decode cX12_isStepTold 95 = .ok (.ireturn, 1) := by decide +kernel
theorem dX12_isStepTold_96 : decode cX12_isStepTold 96 = .ok (.iload_n 2, 1) := by decide +kernel
theorem dX12_isStepTold_97 : decode cX12_isStepTold 97 = .ok (.i2l, 1) := by decide +kernel
theorem dX12_isStepTold_98 : decode cX12_isStepTold 98 = .ok (.lconst 0, 1) := by decide +kernel
theorem dX12_isStepTold_99 : decode cX12_isStepTold 99 = .ok (.ldc2_w 481, 3) := by decide +kernel
theorem dX12_isStepTold_102 : decode cX12_isStepTold 102 = .ok (.invokestatic 166, 3) := by decide +kernel
theorem dX12_isStepTold_105 : decode cX12_isStepTold 105 = .ok (.ifCond .eq 19, 3) := by decide +kernel
theorem dX12_isStepTold_108 : decode cX12_isStepTold 108 = .ok (.iload_n 3, 1) := by decide +kernel
theorem dX12_isStepTold_109 : decode cX12_isStepTold 109 = .ok (.i2l, 1) := by decide +kernel
theorem dX12_isStepTold_110 : decode cX12_isStepTold 110 = .ok (.lconst 0, 1) := by decide +kernel
theorem dX12_isStepTold_111 : decode cX12_isStepTold 111 = .ok (.ldc2_w 481, 3) := by decide +kernel
theorem dX12_isStepTold_114 : decode cX12_isStepTold 114 = .ok (.invokestatic 166, 3) := by decide +kernel
theorem dX12_isStepTold_117 : decode cX12_isStepTold 117 = .ok (.ifCond .eq 7, 3) := by decide +kernel
theorem dX12_isStepTold_120 : decode cX12_isStepTold 120 = .ok (.iconst 1, 1) := by decide +kernel
theorem dX12_isStepTold_121 : decode cX12_isStepTold 121 = .ok (.goto 4, 3) := by decide +kernel
theorem dX12_isStepTold_124 : decode cX12_isStepTold 124 = .ok (.iconst 0, 1) := by decide +kernel
theorem dX12_isStepTold_125 : decode cX12_isStepTold 125 = .ok (.ireturn, 1) := by decide +kernel
theorem dX12_isStepTold_126 : decode cX12_isStepTold 126 = .ok (.iload_n 2, 1) := by decide +kernel
theorem dX12_isStepTold_127 : decode cX12_isStepTold 127 = .ok (.i2l, 1) := by decide +kernel
theorem dX12_isStepTold_128 : decode cX12_isStepTold 128 = .ok (.lconst 0, 1) := by decide +kernel
theorem dX12_isStepTold_129 : decode cX12_isStepTold 129 = .ok (.ldc2_w 483, 3) := by decide +kernel
theorem dX12_isStepTold_132 : decode cX12_isStepTold 132 = .ok (.invokestatic 166, 3) := by decide +kernel
theorem dX12_isStepTold_135 : decode cX12_isStepTold 135 = .ok (.ireturn, 1) := by decide +kernel
theorem dX12_isStepTold_136 : decode cX12_isStepTold 136 = .ok (.iload_n 2, 1) := by decide +kernel
theorem dX12_isStepTold_137 : decode cX12_isStepTold 137 = .ok (.i2l, 1) := by decide +kernel
theorem dX12_isStepTold_138 : decode cX12_isStepTold 138 = .ok (.lconst 0, 1) := by decide +kernel
theorem dX12_isStepTold_139 : decode cX12_isStepTold 139 = .ok (.ldc2_w 308, 3) := by decide +kernel
theorem dX12_isStepTold_142 : decode cX12_isStepTold 142 = .ok (.invokestatic 166, 3) := by decide +kernel
theorem dX12_isStepTold_145 : decode cX12_isStepTold 145 = .ok (.ifCond .eq 12, 3) := by decide +kernel
theorem dX12_isStepTold_148 : decode cX12_isStepTold 148 = .ok (.iload_n 2, 1) := by decide +kernel
theorem dX12_isStepTold_149 : decode cX12_isStepTold 149 = .ok (.iload_n 0, 1) := by decide +kernel
theorem dX12_isStepTold_150 : decode cX12_isStepTold 150 = .ok (.if_icmp .eq 7, 3) := by decide +kernel
theorem dX12_isStepTold_153 : decode cX12_isStepTold 153 = .ok (.iconst 1, 1) := by decide +kernel
theorem dX12_isStepTold_154 : decode cX12_isStepTold 154 = .ok (.goto 4, 3) := by decide +kernel
theorem dX12_isStepTold_157 : decode cX12_isStepTold 157 = .ok (.iconst 0, 1) := by decide +kernel
theorem dX12_isStepTold_158 : decode cX12_isStepTold 158 = .ok (.ireturn, 1) := by decide +kernel
theorem dX12_isStepTold_159 : decode cX12_isStepTold 159 = .ok (.iload_n 1, 1) := by decide +kernel
theorem dX12_isStepTold_160 : decode cX12_isStepTold 160 = .ok (.iconst 5, 1) := by decide +kernel
theorem dX12_isStepTold_161 : decode cX12_isStepTold 161 = .ok (.if_icmp .eq 9, 3) := by decide +kernel
theorem dX12_isStepTold_164 : decode cX12_isStepTold 164 = .ok (.iload_n 1, 1) := by decide +kernel
theorem dX12_isStepTold_165 : decode cX12_isStepTold 165 = .ok (.bipush 6, 2) := by decide +kernel
theorem dX12_isStepTold_167 : decode cX12_isStepTold 167 = .ok (.if_icmp .ne 7, 3) := by decide +kernel
theorem dX12_isStepTold_170 : decode cX12_isStepTold 170 = .ok (.iconst 1, 1) := by decide +kernel
theorem dX12_isStepTold_171 : decode cX12_isStepTold 171 = .ok (.goto 4, 3) := by decide +kernel
theorem dX12_isStepTold_174 : decode cX12_isStepTold 174 = .ok (.iconst 0, 1) := by decide +kernel
theorem dX12_isStepTold_175 : decode cX12_isStepTold 175 = .ok (.ireturn, 1) := by decide +kernel
theorem dX12_becomes_0 : decode cX12_becomes 0 = .ok (.aload_n 0, 1) := by decide +kernel
theorem dX12_becomes_1 : decode cX12_becomes 1 = .ok (.aload_n 0, 1) := by decide +kernel
theorem dX12_becomes_2 : decode cX12_becomes 2 = .ok (.getfield 77, 3) := by decide +kernel
theorem dX12_becomes_5 : decode cX12_becomes 5 = .ok (.iconst 0, 1) := by decide +kernel
theorem dX12_becomes_6 : decode cX12_becomes 6 = .ok (.invokevirtual 223, 3) := by decide +kernel
theorem dX12_becomes_9 : decode cX12_becomes 9 = .ok (.ifCond .ne 9, 3) := by decide +kernel
theorem dX12_becomes_12 : decode cX12_becomes 12 = .ok (.aload_n 0, 1) := by decide +kernel
theorem dX12_becomes_13 : decode cX12_becomes 13 = .ok (.iconst 1, 1) := by decide +kernel
theorem dX12_becomes_14 : decode cX12_becomes 14 = .ok (.invokevirtual 485, 3) := by decide +kernel
theorem dX12_becomes_17 : decode cX12_becomes 17 = .ok (.ireturn, 1) := by decide +kernel
theorem dX12_becomes_18 : decode cX12_becomes 18 = .ok (.aload_n 0, 1) := by decide +kernel
theorem dX12_becomes_19 : decode cX12_becomes 19 = .ok (.invokevirtual 322, 3) := by decide +kernel
theorem dX12_becomes_22 : decode cX12_becomes 22 = .ok (.iconst 0, 1) := by decide +kernel
theorem dX12_becomes_23 : decode cX12_becomes 23 = .ok (.istore_n 2, 1) := by decide +kernel
theorem dX12_becomes_24 : decode cX12_becomes 24 = .ok (.iload_n 2, 1) := by decide +kernel
theorem dX12_becomes_25 : decode cX12_becomes 25 = .ok (.sipush 161, 3) := by decide +kernel
theorem dX12_becomes_28 : decode cX12_becomes 28 = .ok (.if_icmp .ge 27, 3) := by decide +kernel
theorem dX12_becomes_31 : decode cX12_becomes 31 = .ok (.aload_n 0, 1) := by decide +kernel
theorem dX12_becomes_32 : decode cX12_becomes 32 = .ok (.getfield 33, 3) := by decide +kernel
theorem dX12_becomes_35 : decode cX12_becomes 35 = .ok (.sipush 161, 3) := by decide +kernel
theorem dX12_becomes_38 : decode cX12_becomes 38 = .ok (.iload_n 1, 1) := by decide +kernel
theorem dX12_becomes_39 : decode cX12_becomes 39 = .ok (.imul, 1) := by decide +kernel
theorem dX12_becomes_40 : decode cX12_becomes 40 = .ok (.iload_n 2, 1) := by decide +kernel
theorem dX12_becomes_41 : decode cX12_becomes 41 = .ok (.iadd, 1) := by decide +kernel
theorem dX12_becomes_42 : decode cX12_becomes 42 = .ok (.aload_n 0, 1) := by decide +kernel
theorem dX12_becomes_43 : decode cX12_becomes 43 = .ok (.getfield 77, 3) := by decide +kernel
theorem dX12_becomes_46 : decode cX12_becomes 46 = .ok (.iload_n 2, 1) := by decide +kernel
theorem dX12_becomes_47 : decode cX12_becomes 47 = .ok (.iaload, 1) := by decide +kernel
theorem dX12_becomes_48 : decode cX12_becomes 48 = .ok (.iastore, 1) := by decide +kernel
theorem dX12_becomes_49 : decode cX12_becomes 49 = .ok (.iinc 2 1, 3) := by decide +kernel
theorem dX12_becomes_52 : decode cX12_becomes 52 = .ok (.goto (-28), 3) := by decide +kernel
theorem dX12_becomes_55 : decode cX12_becomes 55 = .ok (.aload_n 0, 1) := by decide +kernel
theorem dX12_becomes_56 : decode cX12_becomes 56 = .ok (.getfield 77, 3) := by decide +kernel
theorem dX12_becomes_59 : decode cX12_becomes 59 = .ok (.iconst 0, 1) := by decide +kernel
theorem dX12_becomes_60 : decode cX12_becomes 60 = .ok (.iaload, 1) := by decide +kernel
theorem dX12_becomes_61 : decode cX12_becomes 61 = .ok (.ireturn, 1) := by decide +kernel
theorem dX12_does_0 : decode cX12_does 0 = .ok (.aload_n 0, 1) := by decide +kernel
theorem dX12_does_1 : decode cX12_does 1 = .ok (.iload_n 1, 1) := by decide +kernel
theorem dX12_does_2 : decode cX12_does 2 = .ok (.invokevirtual 310, 3) := by decide +kernel
theorem dX12_does_5 : decode cX12_does 5 = .ok (.ifCond .eq 20, 3) := by decide +kernel
theorem dX12_does_8 : decode cX12_does 8 = .ok (.aload_n 0, 1) := by decide +kernel
theorem dX12_does_9 : decode cX12_does 9 = .ok (.iload_n 1, 1) := by decide +kernel
theorem dX12_does_10 : decode cX12_does 10 = .ok (.aload_n 0, 1) := by decide +kernel
theorem dX12_does_11 : decode cX12_does 11 = .ok (.iload_n 1, 1) := by decide +kernel
theorem dX12_does_12 : decode cX12_does 12 = .ok (.invokevirtual 337, 3) := by decide +kernel
theorem dX12_does_15 : decode cX12_does 15 = .ok (.iload_n 2, 1) := by decide +kernel
theorem dX12_does_16 : decode cX12_does 16 = .ok (.iload_n 3, 1) := by decide +kernel
theorem dX12_does_17 : decode cX12_does 17 = .ok (.iload 4, 2) := by decide +kernel
theorem dX12_does_19 : decode cX12_does 19 = .ok (.invokevirtual 488, 3) := by decide +kernel
theorem dX12_does_22 : decode cX12_does 22 = .ok (.goto 13, 3) := by decide +kernel
theorem dX12_does_25 : decode cX12_does 25 = .ok (.aload_n 0, 1) := by decide +kernel
theorem dX12_does_26 : decode cX12_does 26 = .ok (.iload_n 1, 1) := by decide +kernel
theorem dX12_does_27 : decode cX12_does 27 = .ok (.iconst 0, 1) := by decide +kernel
theorem dX12_does_28 : decode cX12_does 28 = .ok (.iload_n 2, 1) := by decide +kernel
theorem dX12_does_29 : decode cX12_does 29 = .ok (.iload_n 3, 1) := by decide +kernel
theorem dX12_does_30 : decode cX12_does 30 = .ok (.iload 4, 2) := by decide +kernel
theorem dX12_does_32 : decode cX12_does 32 = .ok (.invokevirtual 488, 3) := by decide +kernel
theorem dX12_does_35 : decode cX12_does 35 = .ok (.ireturn, 1) := by decide +kernel
theorem dX12_puts_0 : decode cX12_puts 0 = .ok (.aload_n 0, 1) := by decide +kernel
