theorem dX11_liveYear_10 : decode cX11_liveYear 10 = .ok (.istore 4, 2) := by decide +kernel
theorem dX11_liveYear_12 : decode cX11_liveYear 12 = .ok (.iload_n 1, 1) := by decide +kernel
theorem dX11_liveYear_13 : decode cX11_liveYear 13 = .ok (.iconst 3, 1) := by decide +kernel
theorem dX11_liveYear_14 : decode cX11_liveYear 14 = .ok (.if_icmp .gt 30, 3) := by decide +kernel
theorem dX11_liveYear_17 : decode cX11_liveYear 17 = .ok (.iload_n 1, 1) := by decide +kernel
theorem dX11_liveYear_18 : decode cX11_liveYear 18 = .ok (.iconst 2, 1) := by decide +kernel
theorem dX11_liveYear_19 : decode cX11_liveYear 19 = .ok (.invokestatic 292, 3) := by decide +kernel
theorem dX11_liveYear_22 : decode cX11_liveYear 22 = .ok (.istore_n 2, 1) := by decide +kernel
theorem dX11_liveYear_23 : decode cX11_liveYear 23 = .ok (.aload_n 0, 1) := by decide +kernel
theorem dX11_liveYear_24 : decode cX11_liveYear 24 = .ok (.bipush 101, 2) := by decide +kernel
theorem dX11_liveYear_26 : decode cX11_liveYear 26 = .ok (.invokevirtual 450, 3) := by decide +kernel
theorem dX11_liveYear_29 : decode cX11_liveYear 29 = .ok (.bipush 50, 2) := by decide +kernel
theorem dX11_liveYear_31 : decode cX11_liveYear 31 = .ok (.isub, 1) := by decide +kernel
theorem dX11_liveYear_32 : decode cX11_liveYear 32 = .ok (.istore_n 3, 1) := by decide +kernel
theorem dX11_liveYear_33 : decode cX11_liveYear 33 = .ok (.aload_n 0, 1) := by decide +kernel
theorem dX11_liveYear_34 : decode cX11_liveYear 34 = .ok (.bipush 10, 2) := by decide +kernel
theorem dX11_liveYear_36 : decode cX11_liveYear 36 = .ok (.invokevirtual 450, 3) := by decide +kernel
theorem dX11_liveYear_39 : decode cX11_liveYear 39 = .ok (.istore 4, 2) := by decide +kernel
theorem dX11_liveYear_41 : decode cX11_liveYear 41 = .ok (.goto 69, 3) := by decide +kernel
theorem dX11_liveYear_44 : decode cX11_liveYear 44 = .ok (.iload_n 1, 1) := by decide +kernel
theorem dX11_liveYear_45 : decode cX11_liveYear 45 = .ok (.iconst 4, 1) := by decide +kernel
theorem dX11_liveYear_46 : decode cX11_liveYear 46 = .ok (.if_icmp .ne 18, 3) := by decide +kernel
theorem dX11_liveYear_49 : decode cX11_liveYear 49 = .ok (.iconst 3, 1) := by decide +kernel
theorem dX11_liveYear_50 : decode cX11_liveYear 50 = .ok (.istore_n 2, 1) := by decide +kernel
theorem dX11_liveYear_51 : decode cX11_liveYear 51 = .ok (.aload_n 0, 1) := by decide +kernel
theorem dX11_liveYear_52 : decode cX11_liveYear 52 = .ok (.bipush 21, 2) := by decide +kernel
theorem dX11_liveYear_54 : decode cX11_liveYear 54 = .ok (.invokevirtual 450, 3) := by decide +kernel
theorem dX11_liveYear_57 : decode cX11_liveYear 57 = .ok (.bipush 10, 2) := by decide +kernel
theorem dX11_liveYear_59 : decode cX11_liveYear 59 = .ok (.isub, 1) := by decide +kernel
theorem dX11_liveYear_60 : decode cX11_liveYear 60 = .ok (.istore_n 3, 1) := by decide +kernel
theorem dX11_liveYear_61 : decode cX11_liveYear 61 = .ok (.goto 49, 3) := by decide +kernel
theorem dX11_liveYear_64 : decode cX11_liveYear 64 = .ok (.iload_n 1, 1) := by decide +kernel
theorem dX11_liveYear_65 : decode cX11_liveYear 65 = .ok (.iconst 5, 1) := by decide +kernel
theorem dX11_liveYear_66 : decode cX11_liveYear 66 = .ok (.if_icmp .ne 23, 3) := by decide +kernel
theorem dX11_liveYear_69 : decode cX11_liveYear 69 = .ok (.iconst 4, 1) := by decide +kernel
theorem dX11_liveYear_70 : decode cX11_liveYear 70 = .ok (.istore_n 2, 1) := by decide +kernel
theorem dX11_liveYear_71 : decode cX11_liveYear 71 = .ok (.aload_n 0, 1) := by decide +kernel
theorem dX11_liveYear_72 : decode cX11_liveYear 72 = .ok (.bipush 6, 2) := by decide +kernel
theorem dX11_liveYear_74 : decode cX11_liveYear 74 = .ok (.invokevirtual 450, 3) := by decide +kernel
theorem dX11_liveYear_77 : decode cX11_liveYear 77 = .ok (.istore_n 3, 1) := by decide +kernel
theorem dX11_liveYear_78 : decode cX11_liveYear 78 = .ok (.aload_n 0, 1) := by decide +kernel
theorem dX11_liveYear_79 : decode cX11_liveYear 79 = .ok (.bipush 6, 2) := by decide +kernel
theorem dX11_liveYear_81 : decode cX11_liveYear 81 = .ok (.invokevirtual 450, 3) := by decide +kernel
theorem dX11_liveYear_84 : decode cX11_liveYear 84 = .ok (.istore 4, 2) := by decide +kernel
theorem dX11_liveYear_86 : decode cX11_liveYear 86 = .ok (.goto 24, 3) := by decide +kernel
theorem dX11_liveYear_89 : decode cX11_liveYear 89 = .ok (.iload_n 1, 1) := by decide +kernel
theorem dX11_liveYear_90 : decode cX11_liveYear 90 = .ok (.bipush 6, 2) := by decide +kernel
theorem dX11_liveYear_92 : decode cX11_liveYear 92 = .ok (.if_icmp .ne 8, 3) := by decide +kernel
theorem dX11_liveYear_95 : decode cX11_liveYear 95 = .ok (.iconst 5, 1) := by decide +kernel
theorem dX11_liveYear_96 : decode cX11_liveYear 96 = .ok (.istore_n 2, 1) := by decide +kernel
theorem dX11_liveYear_97 : decode cX11_liveYear 97 = .ok (.goto 13, 3) := by decide +kernel
theorem dX11_liveYear_100 : decode cX11_liveYear 100 = .ok (.bipush 7, 2) := by decide +kernel
theorem dX11_liveYear_102 : decode cX11_liveYear 102 = .ok (.istore_n 2, 1) := by decide +kernel
theorem dX11_liveYear_103 : decode cX11_liveYear 103 = .ok (.aload_n 0, 1) := by decide +kernel
theorem dX11_liveYear_104 : decode cX11_liveYear 104 = .ok (.bipush 10, 2) := by decide +kernel
theorem dX11_liveYear_106 : decode cX11_liveYear 106 = .ok (.invokevirtual 450, 3) := by decide +kernel
theorem dX11_liveYear_109 : decode cX11_liveYear 109 = .ok (.istore_n 3, 1) := by decide +kernel
theorem dX11_liveYear_110 : decode cX11_liveYear 110 = .ok (.aload_n 0, 1) := by decide +kernel
theorem dX11_liveYear_111 : decode cX11_liveYear 111 = .ok (.getfield 30, 3) := by decide +kernel
theorem dX11_liveYear_114 : decode cX11_liveYear 114 = .ok (.iload_n 2, 1) := by decide +kernel
theorem dX11_liveYear_115 : decode cX11_liveYear 115 = .ok (.iload_n 3, 1) := by decide +kernel
theorem dX11_liveYear_116 : decode cX11_liveYear 116 = .ok (.iload 4, 2) := by decide +kernel
theorem dX11_liveYear_118 : decode cX11_liveYear 118 = .ok (.invokevirtual 453, 3) := by decide +kernel
theorem dX11_liveYear_121 : decode cX11_liveYear 121 = .ok (.return_, 1) := by decide +kernel
theorem dX11_draw_0 : decode cX11_draw 0 = .ok (.aload_n 0, 1) := by decide +kernel
theorem dX11_draw_1 : decode cX11_draw 1 = .ok (.aload_n 0, 1) := by decide +kernel
theorem dX11_draw_2 : decode cX11_draw 2 = .ok (.getfield 55, 3) := by decide +kernel
theorem dX11_draw_5 : decode cX11_draw 5 = .ok (.ldc_w 457, 3) := by decide +kernel
theorem dX11_draw_8 : decode cX11_draw 8 = .ok (.imul, 1) := by decide +kernel
theorem dX11_draw_9 : decode cX11_draw 9 = .ok (.sipush 12345, 3) := by decide +kernel
theorem dX11_draw_12 : decode cX11_draw 12 = .ok (.iadd, 1) := by decide +kernel
theorem dX11_draw_13 : decode cX11_draw 13 = .ok (.putfield 55, 3) := by decide +kernel
theorem dX11_draw_16 : decode cX11_draw 16 = .ok (.iload_n 1, 1) := by decide +kernel
theorem dX11_draw_17 : decode cX11_draw 17 = .ok (.iconst 1, 1) := by decide +kernel
theorem dX11_draw_18 : decode cX11_draw 18 = .ok (.if_icmp .ge 7, 3) := by decide +kernel
theorem dX11_draw_21 : decode cX11_draw 21 = .ok (.iconst 0, 1) := by decide +kernel
theorem dX11_draw_22 : decode cX11_draw 22 = .ok (.goto 16, 3) := by decide +kernel
theorem dX11_draw_25 : decode cX11_draw 25 = .ok (.aload_n 0, 1) := by decide +kernel
theorem dX11_draw_26 : decode cX11_draw 26 = .ok (.getfield 55, 3) := by decide +kernel
theorem dX11_draw_29 : decode cX11_draw 29 = .ok (.bipush 16, 2) := by decide +kernel
theorem dX11_draw_31 : decode cX11_draw 31 = .ok (.iushr, 1) := by decide +kernel
theorem dX11_draw_32 : decode cX11_draw 32 = .ok (.sipush 32767, 3) := by decide +kernel
theorem dX11_draw_35 : decode cX11_draw 35 = .ok (.iand, 1) := by decide +kernel
theorem dX11_draw_36 : decode cX11_draw 36 = .ok (.iload_n 1, 1) := by decide +kernel
theorem dX11_draw_37 : decode cX11_draw 37 = .ok (.irem, 1) := by decide +kernel
theorem dX11_draw_38 : decode cX11_draw 38 = .ok (.ireturn, 1) := by decide +kernel
theorem dX11_image_0 : decode cX11_image 0 = .ok (.aload_n 0, 1) := by decide +kernel
theorem dX11_image_1 : decode cX11_image 1 = .ok (.getfield 102, 3) := by decide +kernel
theorem dX11_image_4 : decode cX11_image 4 = .ok (.ifnonnull 14, 3) := by decide +kernel
theorem dX11_image_7 : decode cX11_image 7 = .ok (.aload_n 0, 1) := by decide +kernel
theorem dX11_image_8 : decode cX11_image 8 = .ok (.new 95, 3) := by decide +kernel
theorem dX11_image_11 : decode cX11_image 11 = .ok (.dup, 1) := by decide +kernel
theorem dX11_image_12 : decode cX11_image 12 = .ok (.invokespecial 97, 3) := by decide +kernel
theorem dX11_image_15 : decode cX11_image 15 = .ok (.putfield 102, 3) := by decide +kernel
theorem dX11_image_18 : decode cX11_image 18 = .ok (.aload_n 0, 1) := by decide +kernel
theorem dX11_image_19 : decode cX11_image 19 = .ok (.getfield 102, 3) := by decide +kernel
theorem dX11_image_22 : decode cX11_image 22 = .ok (.aload_n 0, 1) := by decide +kernel
theorem dX11_image_23 : decode cX11_image 23 = .ok (.getfield 98, 3) := by decide +kernel
theorem dX11_image_26 : decode cX11_image 26 = .ok (.invokevirtual 458, 3) := by decide +kernel
theorem dX11_image_29 : decode cX11_image 29 = .ok (.return_, 1) := by decide +kernel
theorem dX11_restore_0 : decode cX11_restore 0 = .ok (.aload_n 0, 1) := by decide +kernel
theorem dX11_restore_1 : decode cX11_restore 1 = .ok (.getfield 102, 3) := by decide +kernel
theorem dX11_restore_4 : decode cX11_restore 4 = .ok (.ifnonnull 5, 3) := by decide +kernel
theorem dX11_restore_7 : decode cX11_restore 7 = .ok (.iconst 0, 1) := by decide +kernel
theorem dX11_restore_8 : decode cX11_restore 8 = .ok (.ireturn, 1) := by decide +kernel
theorem dX11_restore_9 : decode cX11_restore 9 = .ok (.aload_n 0, 1) := by decide +kernel
theorem dX11_restore_10 : decode cX11_restore 10 = .ok (.getfield 98, 3) := by decide +kernel
theorem dX11_restore_13 : decode cX11_restore 13 = .ok (.aload_n 0, 1) := by decide +kernel
theorem dX11_restore_14 : decode cX11_restore 14 = .ok (.getfield 102, 3) := by decide +kernel
theorem dX11_restore_17 : decode cX11_restore 17 = .ok (.invokevirtual 458, 3) := by decide +kernel
theorem dX11_restore_20 : decode cX11_restore 20 = .ok (.iconst 0, 1) := by decide +kernel
theorem dX11_restore_21 : decode cX11_restore 21 = .ok (.istore_n 1, 1) := by decide +kernel
theorem dX11_restore_22 : decode cX11_restore 22 = .ok (.iload_n 1, 1) := by decide +kernel
theorem dX11_restore_23 : decode cX11_restore 23 = .ok (.iconst 4, 1) := by decide +kernel
theorem dX11_restore_24 : decode cX11_restore 24 = .ok (.if_icmp .ge 14, 3) := by decide +kernel
theorem dX11_restore_27 : decode cX11_restore 27 = .ok (.aload_n 0, 1) := by decide +kernel
theorem dX11_restore_28 : decode cX11_restore 28 = .ok (.iload_n 1, 1) := by decide +kernel
theorem dX11_restore_29 : decode cX11_restore 29 = .ok (.invokevirtual 420, 3) := by decide +kernel
theorem dX11_restore_32 : decode cX11_restore 32 = .ok (.iinc 1 1, 3) := by decide +kernel
theorem dX11_restore_35 : decode cX11_restore 35 = .ok (.goto (-13), 3) := by decide +kernel
theorem dX11_restore_38 : decode cX11_restore 38 = .ok (.iconst 1, 1) := by decide +kernel
theorem dX11_restore_39 : decode cX11_restore 39 = .ok (.ireturn, 1) := by decide +kernel
theorem dX11_isCost_0 : decode cX11_isCost 0 = .ok (.iload_n 0, 1) := by decide +kernel
theorem dX11_isCost_1 : decode cX11_isCost 1 = .ok (.ifCond .lt 12, 3) := by decide +kernel
theorem dX11_isCost_4 : decode cX11_isCost 4 = .ok (.iload_n 0, 1) := by decide +kernel
theorem dX11_isCost_5 : decode cX11_isCost 5 = .ok (.iconst 4, 1) := by decide +kernel
theorem dX11_isCost_6 : decode cX11_isCost 6 = .ok (.if_icmp .ge 7, 3) := by decide +kernel
theorem dX11_isCost_9 : decode cX11_isCost 9 = .ok (.iconst 1, 1) := by decide +kernel
theorem dX11_isCost_10 : decode cX11_isCost 10 = .ok (.goto 4, 3) := by decide +kernel
theorem dX11_isCost_13 : decode cX11_isCost 13 = .ok (.iconst 0, 1) := by decide +kernel
theorem dX11_isCost_14 : decode cX11_isCost 14 = .ok (.ireturn, 1) := by decide +kernel
theorem dX11_isKind_0 : decode cX11_isKind 0 = .ok (.iload_n 0, 1) := by decide +kernel
theorem dX11_isKind_1 : decode cX11_isKind 1 = .ok (.ifCond .lt 13, 3) := by decide +kernel
theorem dX11_isKind_4 : decode cX11_isKind 4 = .ok (.iload_n 0, 1) := by decide +kernel
theorem dX11_isKind_5 : decode cX11_isKind 5 = .ok (.bipush 9, 2) := by decide +kernel
theorem dX11_isKind_7 : decode cX11_isKind 7 = .ok (.if_icmp .ge 7, 3) := by decide +kernel
theorem dX11_isKind_10 : decode cX11_isKind 10 = .ok (.iconst 1, 1) := by decide +kernel
theorem dX11_isKind_11 : decode cX11_isKind 11 = .ok (.goto 4, 3) := by decide +kernel
theorem dX11_isKind_14 : decode cX11_isKind 14 = .ok (.iconst 0, 1) := by decide +kernel
theorem dX11_isKind_15 : decode cX11_isKind 15 = .ok (.ireturn, 1) := by decide +kernel
theorem dX11_isX_0 : decode cX11_isX 0 = .ok (.iload_n 0, 1) := by decide +kernel
theorem dX11_isX_1 : decode cX11_isX 1 = .ok (.ldc_w 461, 3) := by decide +kernel
theorem dX11_isX_4 : decode cX11_isX 4 = .ok (.if_icmp .lt 14, 3) := by decide +kernel
theorem dX11_isX_7 : decode cX11_isX 7 = .ok (.iload_n 0, 1) := by decide +kernel
theorem dX11_isX_8 : decode cX11_isX 8 = .ok (.ldc_w 462, 3) := by decide +kernel
theorem dX11_isX_11 : decode cX11_isX 11 = .ok (.if_icmp .gt 7, 3) := by decide +kernel
theorem dX11_isX_14 : decode cX11_isX 14 = .ok (.iconst 1, 1) := by decide +kernel
theorem dX11_isX_15 : decode cX11_isX 15 = .ok (.goto 4, 3) := by decide +kernel
theorem dX11_isX_18 : decode cX11_isX 18 = .ok (.iconst 0, 1) := by decide +kernel
theorem dX11_isX_19 : decode cX11_isX 19 = .ok (.ireturn, 1) := by decide +kernel
theorem dX11_needSuch_0 : decode cX11_needSuch 0 = .ok (.iload_n 0, 1) := by decide +kernel
theorem dX11_needSuch_1 : decode cX11_needSuch 1 = .ok (.ifCond .ne 14, 3) := by decide +kernel
theorem dX11_needSuch_4 : decode cX11_needSuch 4 = .ok (.new 186, 3) := by decide +kernel
theorem dX11_needSuch_7 : decode cX11_needSuch 7 = .ok (.dup, 1) := by decide +kernel
theorem dX11_needSuch_8 : decode cX11_needSuch 8 = .ok (.ldc_w 463, 3) := by decide +kernel
theorem dX11_needSuch_11 : decode cX11_needSuch 11 = .ok (.invokespecial 190, 3) := by decide +kernel
theorem dX11_needSuch_14 : decode cX11_needSuch 14 = .ok (.athrow, 1) := by decide +kernel
theorem dX11_needSuch_15 : decode cX11_needSuch 15 = .ok (.return_, 1) := by decide +kernel
theorem dX11_needFit_0 : decode cX11_needFit 0 = .ok (.iload_n 0, 1) := by decide +kernel
theorem dX11_needFit_1 : decode cX11_needFit 1 = .ok (.ifCond .ne 14, 3) := by decide +kernel
theorem dX11_needFit_4 : decode cX11_needFit 4 = .ok (.new 465, 3) := by decide +kernel
theorem dX11_needFit_7 : decode cX11_needFit 7 = .ok (.dup, 1) := by decide +kernel
theorem dX11_needFit_8 : decode cX11_needFit 8 = .ok (.ldc_w 467, 3) := by decide +kernel
theorem dX11_needFit_11 : decode cX11_needFit 11 = .ok (.invokespecial 469, 3) := by decide +kernel
theorem dX11_needFit_14 : decode cX11_needFit 14 = .ok (.athrow, 1) := by decide +kernel
theorem dX11_needFit_15 : decode cX11_needFit 15 = .ok (.return_, 1) := by decide +kernel
theorem dX11_needCost_0 : decode cX11_needCost 0 = .ok (.iload_n 0, 1) := by decide +kernel
theorem dX11_needCost_1 : decode cX11_needCost 1 = .ok (.invokestatic 395, 3) := by decide +kernel
theorem dX11_needCost_4 : decode cX11_needCost 4 = .ok (.invokestatic 197, 3) := by decide +kernel
theorem dX11_needCost_7 : decode cX11_needCost 7 = .ok (.return_, 1) := by decide +kernel
theorem dX11_needX_0 : decode cX11_needX 0 = .ok (.iload_n 0, 1) := by decide +kernel
theorem dX11_needX_1 : decode cX11_needX 1 = .ok (.invokestatic 423, 3) := by decide +kernel
theorem dX11_needX_4 : decode cX11_needX 4 = .ok (.invokestatic 112, 3) := by decide +kernel
theorem dX11_needX_7 : decode cX11_needX 7 = .ok (.return_, 1) := by decide +kernel
theorem dX11_chainOf_0 : decode cX11_chainOf 0 = .ok (.iload_n 1, 1) := by decide +kernel
theorem dX11_chainOf_1 : decode cX11_chainOf 1 = .ok (.invokestatic 109, 3) := by decide +kernel
theorem dX11_chainOf_4 : decode cX11_chainOf 4 = .ok (.aload_n 0, 1) := by decide +kernel
theorem dX11_chainOf_5 : decode cX11_chainOf 5 = .ok (.getfield 98, 3) := by decide +kernel
theorem dX11_chainOf_8 : decode cX11_chainOf 8 = .ok (.getfield 470, 3) := by decide +kernel
theorem dX11_chainOf_11 : decode cX11_chainOf 11 = .ok (.iload_n 1, 1) := by decide +kernel
theorem dX11_chainOf_12 : decode cX11_chainOf 12 = .ok (.aaload, 1) := by decide +kernel
theorem dX11_chainOf_13 : decode cX11_chainOf 13 = .ok (.areturn, 1) := by decide +kernel
theorem dX11_curveOf_0 : decode cX11_curveOf 0 = .ok (.iload_n 1, 1) := by decide +kernel
theorem dX11_curveOf_1 : decode cX11_curveOf 1 = .ok (.invokestatic 109, 3) := by decide +kernel
theorem dX11_curveOf_4 : decode cX11_curveOf 4 = .ok (.aload_n 0, 1) := by decide +kernel
theorem dX11_curveOf_5 : decode cX11_curveOf 5 = .ok (.getfield 68, 3) := by decide +kernel
theorem dX11_curveOf_8 : decode cX11_curveOf 8 = .ok (.iload_n 1, 1) := by decide +kernel
theorem dX11_curveOf_9 : decode cX11_curveOf 9 = .ok (.aaload, 1) := by decide +kernel
theorem dX11_curveOf_10 : decode cX11_curveOf 10 = .ok (.areturn, 1) := by decide +kernel
theorem dX11_stepOf_0 : decode cX11_stepOf 0 = .ok (.aload_n 0, 1) := by decide +kernel
theorem dX11_stepOf_1 : decode cX11_stepOf 1 = .ok (.iload_n 1, 1) := by decide +kernel
theorem dX11_stepOf_2 : decode cX11_stepOf 2 = .ok (.invokevirtual 173, 3) := by decide +kernel
theorem dX11_stepOf_5 : decode cX11_stepOf 5 = .ok (.iload_n 2, 1) := by decide +kernel
theorem dX11_stepOf_6 : decode cX11_stepOf 6 = .ok (.invokevirtual 359, 3) := by decide +kernel
theorem dX11_stepOf_9 : decode cX11_stepOf 9 = .ok (.astore_n 3, 1) := by decide +kernel
theorem dX11_stepOf_10 : decode cX11_stepOf 10 = .ok (.aload_n 3, 1) := by decide +kernel
theorem dX11_stepOf_11 : decode cX11_stepOf 11 = .ok (.ifnull 7, 3) := by decide +kernel
theorem dX11_stepOf_14 : decode cX11_stepOf 14 = .ok (.iconst 1, 1) := by decide +kernel
theorem dX11_stepOf_15 : decode cX11_stepOf 15 = .ok (.goto 4, 3) := by decide +kernel
theorem dX11_stepOf_18 : decode cX11_stepOf 18 = .ok (.iconst 0, 1) := by decide +kernel
theorem dX11_stepOf_19 : decode cX11_stepOf 19 = .ok (.invokestatic 197, 3) := by decide +kernel
theorem dX11_stepOf_22 : decode cX11_stepOf 22 = .ok (.aload_n 3, 1) := by decide +kernel
theorem dX11_stepOf_23 : decode cX11_stepOf 23 = .ok (.areturn, 1) := by decide +kernel
theorem dX11_newStep_0 : decode cX11_newStep 0 = .ok (.iload_n 1, 1) := by decide +kernel
theorem dX11_newStep_1 : decode cX11_newStep 1 = .ok (.invokestatic 474, 3) := by decide +kernel
theorem dX11_newStep_4 : decode cX11_newStep 4 = .ok (.iconst 1, 1) := by decide +kernel
theorem dX11_newStep_5 : decode cX11_newStep 5 = .ok (.if_icmp .lt 7, 3) := by decide +kernel
theorem dX11_newStep_8 : decode cX11_newStep 8 = .ok (.iload_n 2, 1) := by decide +kernel
theorem dX11_newStep_9 : decode cX11_newStep 9 = .ok (.goto 4, 3) := by decide +kernel
theorem dX11_newStep_12 : decode cX11_newStep 12 = .ok (.iconst 0, 1) := by decide +kernel
theorem dX11_newStep_13 : decode cX11_newStep 13 = .ok (.istore 4, 2) := by decide +kernel
theorem dX11_newStep_15 : decode cX11_newStep 15 = .ok (.iload_n 1, 1) := by decide +kernel
theorem dX11_newStep_16 : decode cX11_newStep 16 = .ok (.invokestatic 474, 3) := by decide +kernel
theorem dX11_newStep_19 : decode cX11_newStep 19 = .ok (.iconst 2, 1) := by decide +kernel
theorem dX11_newStep_20 : decode cX11_newStep 20 = .ok (.if_icmp .ne 7, 3) := by decide +kernel
theorem dX11_newStep_23 : decode cX11_newStep 23 = .ok (.iload_n 3, 1) := by decide +kernel
theorem dX11_newStep_24 : decode cX11_newStep 24 = .ok (.goto 4, 3) := by decide +kernel
theorem dX11_newStep_27 : decode cX11_newStep 27 = .ok (.iconst 0, 1) := by decide +kernel
theorem dX11_newStep_28 : decode cX11_newStep 28 = .ok (.istore 5, 2) := by decide +kernel
theorem dX11_newStep_30 : decode cX11_newStep 30 = .ok (.new 201, 3) := by decide +kernel
theorem dX11_newStep_33 : decode cX11_newStep 33 = .ok (.dup, 1) := by decide +kernel
theorem dX11_newStep_34 : decode cX11_newStep 34 = .ok (.iload_n 1, 1) := by decide +kernel
theorem dX11_newStep_35 : decode cX11_newStep 35 = .ok (.iload 4, 2) := by decide +kernel
theorem dX11_newStep_37 : decode cX11_newStep 37 = .ok (.iload 5, 2) := by decide +kernel
theorem dX11_newStep_39 : decode cX11_newStep 39 = .ok (.iload_n 1, 1) := by decide +kernel
theorem dX11_newStep_40 : decode cX11_newStep 40 = .ok (.bipush 8, 2) := by decide +kernel
theorem dX11_newStep_42 : decode cX11_newStep 42 = .ok (.if_icmp .ne 19, 3) := by decide +kernel
theorem dX11_newStep_45 : decode cX11_newStep 45 = .ok (.aload_n 0, 1) := by decide +kernel
theorem dX11_newStep_46 : decode cX11_newStep 46 = .ok (.getfield 37, 3) := by decide +kernel
theorem dX11_newStep_49 : decode cX11_newStep 49 = .ok (.aload_n 0, 1) := by decide +kernel
theorem dX11_newStep_50 : decode cX11_newStep 50 = .ok (.iload 4, 2) := by decide +kernel
theorem dX11_newStep_52 : decode cX11_newStep 52 = .ok (.invokevirtual 211, 3) := by decide +kernel
theorem dX11_newStep_55 : decode cX11_newStep 55 = .ok (.invokevirtual 477, 3) := by decide +kernel
theorem dX11_newStep_58 : decode cX11_newStep 58 = .ok (.goto 4, 3) := by decide +kernel
theorem dX11_newStep_61 : decode cX11_newStep 61 = .ok (.aconst_null, 1) := by decide +kernel
theorem dX11_newStep_62 : decode cX11_newStep 62 = .ok (.invokespecial 481, 3) := by decide +kernel
theorem dX11_newStep_65 : decode cX11_newStep 65 = .ok (.areturn, 1) := by decide +kernel
theorem dX11_areNumbersOf_0 : decode cX11_areNumbersOf 0 = .ok (.iload_n 0, 1) := by decide +kernel
theorem dX11_areNumbersOf_1 : decode cX11_areNumbersOf 1 = .ok (.invokestatic 474, 3) := by decide +kernel
theorem dX11_areNumbersOf_4 : decode cX11_areNumbersOf 4 = .ok (.istore_n 3, 1) := by decide +kernel
theorem dX11_areNumbersOf_5 : decode cX11_areNumbersOf 5 = .ok (.iload_n 3, 1) := by decide +kernel
theorem dX11_areNumbersOf_6 : decode cX11_areNumbersOf 6 = .ok (.iconst 1, 1) := by decide +kernel
theorem dX11_areNumbersOf_7 : decode cX11_areNumbersOf 7 = .ok (.if_icmp .lt 23, 3) := by decide +kernel
theorem dX11_areNumbersOf_10 : decode cX11_areNumbersOf 10 = .ok (.iload_n 1, 1) := by decide +kernel
theorem dX11_areNumbersOf_11 : decode cX11_areNumbersOf 11 = .ok (.getstatic 484, 3) := by decide +kernel
theorem dX11_areNumbersOf_14 : decode cX11_areNumbersOf 14 = .ok (.iload_n 0, 1) := by decide +kernel
theorem dX11_areNumbersOf_15 : decode cX11_areNumbersOf 15 = .ok (.iaload, 1) := by decide +kernel
theorem dX11_areNumbersOf_16 : decode cX11_areNumbersOf 16 = .ok (.if_icmp .lt 12, 3) := by decide +kernel
theorem dX11_areNumbersOf_19 : decode cX11_areNumbersOf 19 = .ok (.iload_n 1, 1) := by decide +kernel
theorem dX11_areNumbersOf_20 : decode cX11_areNumbersOf 20 = .ok (.getstatic 487, 3) := by decide +kernel
theorem dX11_areNumbersOf_23 : decode cX11_areNumbersOf 23 = .ok (.iload_n 0, 1) := by decide +kernel
theorem dX11_areNumbersOf_24 : decode cX11_areNumbersOf 24 = .ok (.iaload, 1) := by decide +kernel
theorem dX11_areNumbersOf_25 : decode cX11_areNumbersOf 25 = .ok (.if_icmp .le 5, 3) := by decide +kernel
theorem dX11_areNumbersOf_28 : decode cX11_areNumbersOf 28 = .ok (.iconst 0, 1) := by decide +kernel
theorem dX11_areNumbersOf_29 : decode cX11_areNumbersOf 29 = .ok (.ireturn, 1) := by decide +kernel
theorem dX11_areNumbersOf_30 : decode cX11_areNumbersOf 30 = .ok (.iload_n 3, 1) := by decide +kernel
theorem dX11_areNumbersOf_31 : decode cX11_areNumbersOf 31 = .ok (.iconst 2, 1) := by decide +kernel
theorem dX11_areNumbersOf_32 : decode cX11_areNumbersOf 32 = .ok (.if_icmp .lt 13, 3) := by decide +kernel
theorem dX11_areNumbersOf_35 : decode cX11_areNumbersOf 35 = .ok (.iload_n 2, 1) := by decide +kernel
theorem dX11_areNumbersOf_36 : decode cX11_areNumbersOf 36 = .ok (.ifCond .lt 13, 3) := by decide +kernel
theorem dX11_areNumbersOf_39 : decode cX11_areNumbersOf 39 = .ok (.iload_n 2, 1) := by decide +kernel
theorem dX11_areNumbersOf_40 : decode cX11_areNumbersOf 40 = .ok (.bipush 99, 2) := by decide +kernel
theorem dX11_areNumbersOf_42 : decode cX11_areNumbersOf 42 = .ok (.if_icmp .gt 7, 3) := by decide +kernel
theorem dX11_areNumbersOf_45 : decode cX11_areNumbersOf 45 = .ok (.iconst 1, 1) := by decide +kernel
theorem dX11_areNumbersOf_46 : decode cX11_areNumbersOf 46 = .ok (.goto 4, 3) := by decide +kernel
theorem dX11_areNumbersOf_49 : decode cX11_areNumbersOf 49 = .ok (.iconst 0, 1) := by decide +kernel
theorem dX11_areNumbersOf_50 : decode cX11_areNumbersOf 50 = .ok (.ireturn, 1) := by decide +kernel
theorem dX11_numbersOf_0 : decode cX11_numbersOf 0 = .ok (.iload_n 0, 1) := by decide +kernel
theorem dX11_numbersOf_1 : decode cX11_numbersOf 1 = .ok (.invokestatic 404, 3) := by decide +kernel
theorem dX11_numbersOf_4 : decode cX11_numbersOf 4 = .ok (.ifCond .eq 11, 3) := by decide +kernel
theorem dX11_numbersOf_7 : decode cX11_numbersOf 7 = .ok (.getstatic 490, 3) := by decide +kernel
theorem dX11_numbersOf_10 : decode cX11_numbersOf 10 = .ok (.iload_n 0, 1) := by decide +kernel
theorem dX11_numbersOf_11 : decode cX11_numbersOf 11 = .ok (.iaload, 1) := by decide +kernel
theorem dX11_numbersOf_12 : decode cX11_numbersOf 12 = .ok (.goto 4, 3) := by decide +kernel
theorem dX11_numbersOf_15 : decode cX11_numbersOf 15 = .ok (.iconst 0, 1) := by decide +kernel
theorem dX11_numbersOf_16 : decode cX11_numbersOf 16 = .ok (.ireturn, 1) := by decide +kernel
theorem dX11_wordOf_0 : decode cX11_wordOf 0 = .ok (.iload_n 0, 1) := by decide +kernel
theorem dX11_wordOf_1 : decode cX11_wordOf 1 = .ok (.tableswitch 87 0 8 #[51, 55, 59, 63, 67, 71, 75, 79, 83], 51) := by decide +kernel
theorem dX11_wordOf_52 : decode cX11_wordOf 52 = .ok (.ldc_w 493, 3) := by decide +kernel
theorem dX11_wordOf_55 : decode cX11_wordOf 55 = .ok (.areturn, 1) := by decide +kernel
theorem dX11_wordOf_56 : decode cX11_wordOf 56 = .ok (.ldc_w 495, 3) := by decide +kernel
theorem dX11_wordOf_59 : decode cX11_wordOf 59 = .ok (.areturn, 1) := by decide +kernel
theorem dX11_wordOf_60 : decode cX11_wordOf 60 = .ok (.ldc_w 497, 3) := by decide +kernel
theorem dX11_wordOf_63 : decode cX11_wordOf 63 = .ok (.areturn, 1) := by decide +kernel
theorem dX11_wordOf_64 : decode cX11_wordOf 64 = .ok (.ldc_w 499, 3) := by decide +kernel
theorem dX11_wordOf_67 : decode cX11_wordOf 67 = .ok (.areturn, 1) := by decide +kernel
theorem dX11_wordOf_68 : decode cX11_wordOf 68 = .ok (.ldc_w 501, 3) := by decide +kernel
theorem dX11_wordOf_71 : decode cX11_wordOf 71 = .ok (.areturn, 1) := by decide +kernel
theorem dX11_wordOf_72 : decode cX11_wordOf 72 = .ok (.ldc_w 503, 3) := by decide +kernel
theorem dX11_wordOf_75 : decode cX11_wordOf 75 = .ok (.areturn, 1) := by decide +kernel
theorem dX11_wordOf_76 : decode cX11_wordOf 76 = .ok (.ldc_w 505, 3) := by decide +kernel
theorem dX11_wordOf_79 : decode cX11_wordOf 79 = .ok (.areturn, 1) := by decide +kernel
theorem dX11_wordOf_80 : decode cX11_wordOf 80 = .ok (.ldc_w 507, 3) := by decide +kernel
theorem dX11_wordOf_83 : decode cX11_wordOf 83 = .ok (.areturn, 1) := by decide +kernel
theorem dX11_wordOf_84 : decode cX11_wordOf 84 = .ok (.ldc_w 509, 3) := by decide +kernel
theorem dX11_wordOf_87 : decode cX11_wordOf 87 = .ok (.areturn, 1) := by decide +kernel
theorem dX11_wordOf_88 : decode cX11_wordOf 88 = .ok (.ldc_w 511, 3) := by decide +kernel
theorem dX11_wordOf_91 : decode cX11_wordOf 91 = .ok (.areturn, 1) := by decide +kernel
theorem dX11_clamp_0 : decode cX11_clamp 0 = .ok (.iload_n 0, 1) := by decide +kernel
theorem dX11_clamp_1 : decode cX11_clamp 1 = .ok (.iload_n 1, 1) := by decide +kernel
theorem dX11_clamp_2 : decode cX11_clamp 2 = .ok (.invokestatic 287, 3) := by decide +kernel
theorem dX11_clamp_5 : decode cX11_clamp 5 = .ok (.iload_n 2, 1) := by decide +kernel
theorem dX11_clamp_6 : decode cX11_clamp 6 = .ok (.invokestatic 292, 3) := by decide +kernel
theorem dX11_clamp_9 : decode cX11_clamp 9 = .ok (.ireturn, 1) := by decide +kernel
theorem dX11_isFar_0 : decode cX11_isFar 0 = .ok (.iload_n 0, 1) := by decide +kernel
theorem dX11_isFar_1 : decode cX11_isFar 1 = .ok (.ldc_w 513, 3) := by decide +kernel
theorem dX11_isFar_4 : decode cX11_isFar 4 = .ok (.if_icmp .eq 10, 3) := by decide +kernel
theorem dX11_isFar_7 : decode cX11_isFar 7 = .ok (.iload_n 0, 1) := by decide +kernel
theorem dX11_isFar_8 : decode cX11_isFar 8 = .ok (.ldc_w 514, 3) := by decide +kernel
theorem dX11_isFar_11 : decode cX11_isFar 11 = .ok (.if_icmp .ne 7, 3) := by decide +kernel
theorem dX11_isFar_14 : decode cX11_isFar 14 = .ok (.iconst 1, 1) := by decide +kernel
theorem dX11_isFar_15 : decode cX11_isFar 15 = .ok (.goto 4, 3) := by decide +kernel
theorem dX11_isFar_18 : decode cX11_isFar 18 = .ok (.iconst 0, 1) := by decide +kernel
theorem dX11_isFar_19 : decode cX11_isFar 19 = .ok (.ireturn, 1) := by decide +kernel
theorem dX11_orNowhere_0 : decode cX11_orNowhere 0 = .ok (.iload_n 0, 1) := by decide +kernel
theorem dX11_orNowhere_1 : decode cX11_orNowhere 1 = .ok (.invokestatic 267, 3) := by decide +kernel
theorem dX11_orNowhere_4 : decode cX11_orNowhere 4 = .ok (.ifCond .eq 9, 3) := by decide +kernel
theorem dX11_orNowhere_7 : decode cX11_orNowhere 7 = .ok (.ldc_w 271, 3) := by decide +kernel
theorem dX11_orNowhere_10 : decode cX11_orNowhere 10 = .ok (.goto 4, 3) := by decide +kernel
theorem dX11_orNowhere_13 : decode cX11_orNowhere 13 = .ok (.iload_n 0, 1) := by decide +kernel
theorem dX11_orNowhere_14 : decode cX11_orNowhere 14 = .ok (.ireturn, 1) := by decide +kernel
theorem dL_text_0 : decode cL_text 0 = .ok (.aload_n 3, 1) := by decide +kernel
theorem dL_text_1 : decode cL_text 1 = .ok (.iconst 0, 1) := by decide +kernel
theorem dL_text_2 : decode cL_text 2 = .ok (.aload_n 0, 1) := by decide +kernel
theorem dL_text_3 : decode cL_text 3 = .ok (.iload_n 1, 1) := by decide +kernel
theorem dL_text_4 : decode cL_text 4 = .ok (.iload_n 2, 1) := by decide +kernel
theorem dL_text_5 : decode cL_text 5 = .ok (.invokevirtual 7, 3) := by decide +kernel
theorem dL_text_8 : decode cL_text 8 = .ok (.i2l, 1) := by decide +kernel
theorem dL_text_9 : decode cL_text 9 = .ok (.lastore, 1) := by decide +kernel
theorem dL_text_10 : decode cL_text 10 = .ok (.goto 11, 3) := by decide +kernel
theorem dL_text_13 : decode cL_text 13 = .ok (.astore 4, 2) := by decide +kernel
theorem dL_text_15 : decode cL_text 15 = .ok (.iconst 1, 1) := by decide +kernel
theorem dL_text_16 : decode cL_text 16 = .ok (.ireturn, 1) := by decide +kernel
theorem dL_text_17 : decode cL_text 17 = .ok (.astore 4, 2) := by decide +kernel
theorem dL_text_19 : decode cL_text 19 = .ok (.iconst 2, 1) := by decide +kernel
theorem dL_text_20 : decode cL_text 20 = .ok (.ireturn, 1) := by decide +kernel
theorem dL_text_21 : decode cL_text 21 = .ok (.iconst 0, 1) := by decide +kernel
theorem dL_text_22 : decode cL_text 22 = .ok (.ireturn, 1) := by decide +kernel
theorem dL_count_0 : decode cL_count 0 = .ok (.aload_n 2, 1) := by decide +kernel
theorem dL_count_1 : decode cL_count 1 = .ok (.iconst 0, 1) := by decide +kernel
theorem dL_count_2 : decode cL_count 2 = .ok (.aload_n 0, 1) := by decide +kernel
theorem dL_count_3 : decode cL_count 3 = .ok (.iload_n 1, 1) := by decide +kernel
theorem dL_count_4 : decode cL_count 4 = .ok (.invokevirtual 17, 3) := by decide +kernel
theorem dL_count_7 : decode cL_count 7 = .ok (.i2l, 1) := by decide +kernel
theorem dL_count_8 : decode cL_count 8 = .ok (.lastore, 1) := by decide +kernel
theorem dL_count_9 : decode cL_count 9 = .ok (.goto 6, 3) := by decide +kernel
theorem dL_count_12 : decode cL_count 12 = .ok (.astore_n 3, 1) := by decide +kernel
theorem dL_count_13 : decode cL_count 13 = .ok (.iconst 1, 1) := by decide +kernel
theorem dL_count_14 : decode cL_count 14 = .ok (.ireturn, 1) := by decide +kernel
theorem dL_count_15 : decode cL_count 15 = .ok (.iconst 0, 1) := by decide +kernel
theorem dL_count_16 : decode cL_count 16 = .ok (.ireturn, 1) := by decide +kernel
theorem dL_step_0 : decode cL_step 0 = .ok (.aload 4, 2) := by decide +kernel
theorem dL_step_2 : decode cL_step 2 = .ok (.iconst 0, 1) := by decide +kernel
theorem dL_step_3 : decode cL_step 3 = .ok (.aload_n 0, 1) := by decide +kernel
theorem dL_step_4 : decode cL_step 4 = .ok (.iload_n 1, 1) := by decide +kernel
theorem dL_step_5 : decode cL_step 5 = .ok (.iload_n 2, 1) := by decide +kernel
theorem dL_step_6 : decode cL_step 6 = .ok (.iload_n 3, 1) := by decide +kernel
theorem dL_step_7 : decode cL_step 7 = .ok (.invokevirtual 21, 3) := by decide +kernel
theorem dL_step_10 : decode cL_step 10 = .ok (.i2l, 1) := by decide +kernel
theorem dL_step_11 : decode cL_step 11 = .ok (.lastore, 1) := by decide +kernel
theorem dL_step_12 : decode cL_step 12 = .ok (.goto 7, 3) := by decide +kernel
theorem dL_step_15 : decode cL_step 15 = .ok (.astore 5, 2) := by decide +kernel
theorem dL_step_17 : decode cL_step 17 = .ok (.iconst 1, 1) := by decide +kernel
theorem dL_step_18 : decode cL_step 18 = .ok (.ireturn, 1) := by decide +kernel
theorem dL_step_19 : decode cL_step 19 = .ok (.iconst 0, 1) := by decide +kernel
theorem dL_step_20 : decode cL_step 20 = .ok (.ireturn, 1) := by decide +kernel
theorem dL_at_0 : decode cL_at 0 = .ok (.aload_n 3, 1) := by decide +kernel
theorem dL_at_1 : decode cL_at 1 = .ok (.iconst 0, 1) := by decide +kernel
theorem dL_at_2 : decode cL_at 2 = .ok (.aload_n 0, 1) := by decide +kernel
theorem dL_at_3 : decode cL_at 3 = .ok (.iload_n 1, 1) := by decide +kernel
theorem dL_at_4 : decode cL_at 4 = .ok (.iload_n 2, 1) := by decide +kernel
theorem dL_at_5 : decode cL_at 5 = .ok (.invokevirtual 25, 3) := by decide +kernel
theorem dL_at_8 : decode cL_at 8 = .ok (.lastore, 1) := by decide +kernel
theorem dL_at_9 : decode cL_at 9 = .ok (.goto 11, 3) := by decide +kernel
theorem dL_at_12 : decode cL_at 12 = .ok (.astore 4, 2) := by decide +kernel
theorem dL_at_14 : decode cL_at 14 = .ok (.iconst 1, 1) := by decide +kernel
theorem dL_at_15 : decode cL_at 15 = .ok (.ireturn, 1) := by decide +kernel
theorem dL_at_16 : decode cL_at 16 = .ok (.astore 4, 2) := by decide +kernel
theorem dL_at_18 : decode cL_at 18 = .ok (.iconst 2, 1) := by decide +kernel
theorem dL_at_19 : decode cL_at 19 = .ok (.ireturn, 1) := by decide +kernel
theorem dL_at_20 : decode cL_at 20 = .ok (.iconst 0, 1) := by decide +kernel
theorem dL_at_21 : decode cL_at 21 = .ok (.ireturn, 1) := by decide +kernel
theorem dL_least_0 : decode cL_least 0 = .ok (.aload_n 2, 1) := by decide +kernel
theorem dL_least_1 : decode cL_least 1 = .ok (.iconst 0, 1) := by decide +kernel
theorem dL_least_2 : decode cL_least 2 = .ok (.aload_n 0, 1) := by decide +kernel
theorem dL_least_3 : decode cL_least 3 = .ok (.iload_n 1, 1) := by decide +kernel
theorem dL_least_4 : decode cL_least 4 = .ok (.invokevirtual 29, 3) := by decide +kernel
theorem dL_least_7 : decode cL_least 7 = .ok (.lastore, 1) := by decide +kernel
theorem dL_least_8 : decode cL_least 8 = .ok (.goto 6, 3) := by decide +kernel
theorem dL_least_11 : decode cL_least 11 = .ok (.astore_n 3, 1) := by decide +kernel
theorem dL_least_12 : decode cL_least 12 = .ok (.iconst 1, 1) := by decide +kernel
theorem dL_least_13 : decode cL_least 13 = .ok (.ireturn, 1) := by decide +kernel
theorem dL_least_14 : decode cL_least 14 = .ok (.iconst 0, 1) := by decide +kernel
theorem dL_least_15 : decode cL_least 15 = .ok (.ireturn, 1) := by decide +kernel
theorem dL_flat_0 : decode cL_flat 0 = .ok (.aload_n 3, 1) := by decide +kernel
theorem dL_flat_1 : decode cL_flat 1 = .ok (.iconst 0, 1) := by decide +kernel
theorem dL_flat_2 : decode cL_flat 2 = .ok (.aload_n 0, 1) := by decide +kernel
theorem dL_flat_3 : decode cL_flat 3 = .ok (.iload_n 1, 1) := by decide +kernel
theorem dL_flat_4 : decode cL_flat 4 = .ok (.iload_n 2, 1) := by decide +kernel
theorem dL_flat_5 : decode cL_flat 5 = .ok (.invokevirtual 33, 3) := by decide +kernel
theorem dL_flat_8 : decode cL_flat 8 = .ok (.i2l, 1) := by decide +kernel
theorem dL_flat_9 : decode cL_flat 9 = .ok (.lastore, 1) := by decide +kernel
theorem dL_flat_10 : decode cL_flat 10 = .ok (.goto 7, 3) := by decide +kernel
theorem dL_flat_13 : decode cL_flat 13 = .ok (.astore 4, 2) := by decide +kernel
theorem dL_flat_15 : decode cL_flat 15 = .ok (.iconst 1, 1) := by decide +kernel
theorem dL_flat_16 : decode cL_flat 16 = .ok (.ireturn, 1) := by decide +kernel
theorem dL_flat_17 : decode cL_flat 17 = .ok (.iconst 0, 1) := by decide +kernel
theorem dL_flat_18 : decode cL_flat 18 = .ok (.ireturn, 1) := by decide +kernel
theorem dL_kink_0 : decode cL_kink 0 = .ok (.aload 4, 2) := by decide +kernel
theorem dL_kink_2 : decode cL_kink 2 = .ok (.iconst 0, 1) := by decide +kernel
theorem dL_kink_3 : decode cL_kink 3 = .ok (.aload_n 0, 1) := by decide +kernel
theorem dL_kink_4 : decode cL_kink 4 = .ok (.iload_n 1, 1) := by decide +kernel
theorem dL_kink_5 : decode cL_kink 5 = .ok (.iload_n 2, 1) := by decide +kernel
theorem dL_kink_6 : decode cL_kink 6 = .ok (.iload_n 3, 1) := by decide +kernel
theorem dL_kink_7 : decode cL_kink 7 = .ok (.invokevirtual 36, 3) := by decide +kernel
theorem dL_kink_10 : decode cL_kink 10 = .ok (.i2l, 1) := by decide +kernel
theorem dL_kink_11 : decode cL_kink 11 = .ok (.lastore, 1) := by decide +kernel
theorem dL_kink_12 : decode cL_kink 12 = .ok (.goto 7, 3) := by decide +kernel
theorem dL_kink_15 : decode cL_kink 15 = .ok (.astore 5, 2) := by decide +kernel
theorem dL_kink_17 : decode cL_kink 17 = .ok (.iconst 1, 1) := by decide +kernel
theorem dL_kink_18 : decode cL_kink 18 = .ok (.ireturn, 1) := by decide +kernel
theorem dL_kink_19 : decode cL_kink 19 = .ok (.iconst 0, 1) := by decide +kernel
theorem dL_kink_20 : decode cL_kink 20 = .ok (.ireturn, 1) := by decide +kernel
theorem dL_slope_0 : decode cL_slope 0 = .ok (.aload 4, 2) := by decide +kernel
theorem dL_slope_2 : decode cL_slope 2 = .ok (.iconst 0, 1) := by decide +kernel
theorem dL_slope_3 : decode cL_slope 3 = .ok (.aload_n 0, 1) := by decide +kernel
theorem dL_slope_4 : decode cL_slope 4 = .ok (.iload_n 1, 1) := by decide +kernel
theorem dL_slope_5 : decode cL_slope 5 = .ok (.iload_n 2, 1) := by decide +kernel
theorem dL_slope_6 : decode cL_slope 6 = .ok (.iload_n 3, 1) := by decide +kernel
theorem dL_slope_7 : decode cL_slope 7 = .ok (.invokevirtual 39, 3) := by decide +kernel
theorem dL_slope_10 : decode cL_slope 10 = .ok (.i2l, 1) := by decide +kernel
theorem dL_slope_11 : decode cL_slope 11 = .ok (.lastore, 1) := by decide +kernel
theorem dL_slope_12 : decode cL_slope 12 = .ok (.goto 11, 3) := by decide +kernel
theorem dL_slope_15 : decode cL_slope 15 = .ok (.astore 5, 2) := by decide +kernel
theorem dL_slope_17 : decode cL_slope 17 = .ok (.iconst 1, 1) := by decide +kernel
theorem dL_slope_18 : decode cL_slope 18 = .ok (.ireturn, 1) := by decide +kernel
theorem dL_slope_19 : decode cL_slope 19 = .ok (.astore 5, 2) := by decide +kernel
theorem dL_slope_21 : decode cL_slope 21 = .ok (.iconst 2, 1) := by decide +kernel
theorem dL_slope_22 : decode cL_slope 22 = .ok (.ireturn, 1) := by decide +kernel
theorem dL_slope_23 : decode cL_slope 23 = .ok (.iconst 0, 1) := by decide +kernel
theorem dL_slope_24 : decode cL_slope 24 = .ok (.ireturn, 1) := by decide +kernel
theorem dL_path_0 : decode cL_path 0 = .ok (.aload 4, 2) := by decide +kernel
theorem dL_path_2 : decode cL_path 2 = .ok (.iconst 0, 1) := by decide +kernel
theorem dL_path_3 : decode cL_path 3 = .ok (.aload_n 0, 1) := by decide +kernel
theorem dL_path_4 : decode cL_path 4 = .ok (.iload_n 1, 1) := by decide +kernel
theorem dL_path_5 : decode cL_path 5 = .ok (.iload_n 2, 1) := by decide +kernel
theorem dL_path_6 : decode cL_path 6 = .ok (.iload_n 3, 1) := by decide +kernel
theorem dL_path_7 : decode cL_path 7 = .ok (.invokevirtual 42, 3) := by decide +kernel
theorem dL_path_10 : decode cL_path 10 = .ok (.i2l, 1) := by decide +kernel
theorem dL_path_11 : decode cL_path 11 = .ok (.lastore, 1) := by decide +kernel
