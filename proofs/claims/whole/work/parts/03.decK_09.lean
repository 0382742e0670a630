theorem dX11_copy_15 : decode cX11_copy 15 = .ok (.iload_n 2, 1) := by decide +kernel
theorem dX11_copy_16 : decode cX11_copy 16 = .ok (.if_icmp .eq 15, 3) := by decide +kernel
theorem dX11_copy_19 : decode cX11_copy 19 = .ok (.aload_n 0, 1) := by decide +kernel
theorem dX11_copy_20 : decode cX11_copy 20 = .ok (.iload_n 2, 1) := by decide +kernel
theorem dX11_copy_21 : decode cX11_copy 21 = .ok (.invokevirtual 173, 3) := by decide +kernel
theorem dX11_copy_24 : decode cX11_copy 24 = .ok (.iload_n 1, 1) := by decide +kernel
theorem dX11_copy_25 : decode cX11_copy 25 = .ok (.invokevirtual 401, 3) := by decide +kernel
theorem dX11_copy_28 : decode cX11_copy 28 = .ok (.ifCond .eq 8, 3) := by decide +kernel
theorem dX11_copy_31 : decode cX11_copy 31 = .ok (.aload_n 0, 1) := by decide +kernel
theorem dX11_copy_32 : decode cX11_copy 32 = .ok (.invokevirtual 377, 3) := by decide +kernel
theorem dX11_copy_35 : decode cX11_copy 35 = .ok (.ireturn, 1) := by decide +kernel
theorem dX11_copy_36 : decode cX11_copy 36 = .ok (.aload_n 0, 1) := by decide +kernel
theorem dX11_copy_37 : decode cX11_copy 37 = .ok (.getfield 91, 3) := by decide +kernel
theorem dX11_copy_40 : decode cX11_copy 40 = .ok (.aload_n 0, 1) := by decide +kernel
theorem dX11_copy_41 : decode cX11_copy 41 = .ok (.iload_n 2, 1) := by decide +kernel
theorem dX11_copy_42 : decode cX11_copy 42 = .ok (.invokevirtual 173, 3) := by decide +kernel
theorem dX11_copy_45 : decode cX11_copy 45 = .ok (.invokevirtual 388, 3) := by decide +kernel
theorem dX11_copy_48 : decode cX11_copy 48 = .ok (.aload_n 0, 1) := by decide +kernel
theorem dX11_copy_49 : decode cX11_copy 49 = .ok (.getfield 30, 3) := by decide +kernel
theorem dX11_copy_52 : decode cX11_copy 52 = .ok (.aload_n 0, 1) := by decide +kernel
theorem dX11_copy_53 : decode cX11_copy 53 = .ok (.iload_n 2, 1) := by decide +kernel
theorem dX11_copy_54 : decode cX11_copy 54 = .ok (.invokevirtual 211, 3) := by decide +kernel
theorem dX11_copy_57 : decode cX11_copy 57 = .ok (.invokevirtual 381, 3) := by decide +kernel
theorem dX11_copy_60 : decode cX11_copy 60 = .ok (.aload_n 0, 1) := by decide +kernel
theorem dX11_copy_61 : decode cX11_copy 61 = .ok (.iload_n 1, 1) := by decide +kernel
theorem dX11_copy_62 : decode cX11_copy 62 = .ok (.invokevirtual 144, 3) := by decide +kernel
theorem dX11_copy_65 : decode cX11_copy 65 = .ok (.ireturn, 1) := by decide +kernel
theorem dX11_isTellable_0 : decode cX11_isTellable 0 = .ok (.iload_n 1, 1) := by decide +kernel
theorem dX11_isTellable_1 : decode cX11_isTellable 1 = .ok (.invokestatic 395, 3) := by decide +kernel
theorem dX11_isTellable_4 : decode cX11_isTellable 4 = .ok (.ifCond .eq 20, 3) := by decide +kernel
theorem dX11_isTellable_7 : decode cX11_isTellable 7 = .ok (.iload_n 2, 1) := by decide +kernel
theorem dX11_isTellable_8 : decode cX11_isTellable 8 = .ok (.invokestatic 404, 3) := by decide +kernel
theorem dX11_isTellable_11 : decode cX11_isTellable 11 = .ok (.ifCond .eq 13, 3) := by decide +kernel
theorem dX11_isTellable_14 : decode cX11_isTellable 14 = .ok (.iload_n 2, 1) := by decide +kernel
theorem dX11_isTellable_15 : decode cX11_isTellable 15 = .ok (.iload_n 3, 1) := by decide +kernel
theorem dX11_isTellable_16 : decode cX11_isTellable 16 = .ok (.iload 4, 2) := by decide +kernel
theorem dX11_isTellable_18 : decode cX11_isTellable 18 = .ok (.invokestatic 407, 3) := by decide +kernel
theorem dX11_isTellable_21 : decode cX11_isTellable 21 = .ok (.ifCond .ne 5, 3) := by decide +kernel
theorem dX11_isTellable_24 : decode cX11_isTellable 24 = .ok (.iconst 0, 1) := by decide +kernel
theorem dX11_isTellable_25 : decode cX11_isTellable 25 = .ok (.ireturn, 1) := by decide +kernel
theorem dX11_isTellable_26 : decode cX11_isTellable 26 = .ok (.iload_n 2, 1) := by decide +kernel
theorem dX11_isTellable_27 : decode cX11_isTellable 27 = .ok (.bipush 8, 2) := by decide +kernel
theorem dX11_isTellable_29 : decode cX11_isTellable 29 = .ok (.if_icmp .ne 8, 3) := by decide +kernel
theorem dX11_isTellable_32 : decode cX11_isTellable 32 = .ok (.iload_n 3, 1) := by decide +kernel
theorem dX11_isTellable_33 : decode cX11_isTellable 33 = .ok (.iload_n 1, 1) := by decide +kernel
theorem dX11_isTellable_34 : decode cX11_isTellable 34 = .ok (.if_icmp .eq 20, 3) := by decide +kernel
theorem dX11_isTellable_37 : decode cX11_isTellable 37 = .ok (.aload_n 0, 1) := by decide +kernel
theorem dX11_isTellable_38 : decode cX11_isTellable 38 = .ok (.iload_n 1, 1) := by decide +kernel
theorem dX11_isTellable_39 : decode cX11_isTellable 39 = .ok (.invokevirtual 173, 3) := by decide +kernel
theorem dX11_isTellable_42 : decode cX11_isTellable 42 = .ok (.getfield 177, 3) := by decide +kernel
theorem dX11_isTellable_45 : decode cX11_isTellable 45 = .ok (.bipush 40, 2) := by decide +kernel
theorem dX11_isTellable_47 : decode cX11_isTellable 47 = .ok (.if_icmp .ge 7, 3) := by decide +kernel
theorem dX11_isTellable_50 : decode cX11_isTellable 50 = .ok (.iconst 1, 1) := by decide +kernel
theorem dX11_isTellable_51 : decode cX11_isTellable 51 = .ok (.goto 4, 3) := by decide +kernel
theorem dX11_isTellable_54 : decode cX11_isTellable 54 = .ok (.iconst 0, 1) := by decide +kernel
theorem dX11_isTellable_55 : decode cX11_isTellable 55 = .ok (.ireturn, 1) := by decide +kernel
theorem dX11_becomeUnlessTooMuch_0 : decode cX11_becomeUnlessTooMuch 0 = .ok (.aload_n 0, 1) := by decide +kernel
theorem dX11_becomeUnlessTooMuch_1 : decode cX11_becomeUnlessTooMuch 1 = .ok (.getfield 30, 3) := by decide +kernel
theorem dX11_becomeUnlessTooMuch_4 : decode cX11_becomeUnlessTooMuch 4 = .ok (.aload_n 0, 1) := by decide +kernel
theorem dX11_becomeUnlessTooMuch_5 : decode cX11_becomeUnlessTooMuch 5 = .ok (.getfield 91, 3) := by decide +kernel
theorem dX11_becomeUnlessTooMuch_8 : decode cX11_becomeUnlessTooMuch 8 = .ok (.invokevirtual 133, 3) := by decide +kernel
theorem dX11_becomeUnlessTooMuch_11 : decode cX11_becomeUnlessTooMuch 11 = .ok (.ifCond .eq 11, 3) := by decide +kernel
theorem dX11_becomeUnlessTooMuch_14 : decode cX11_becomeUnlessTooMuch 14 = .ok (.aload_n 0, 1) := by decide +kernel
theorem dX11_becomeUnlessTooMuch_15 : decode cX11_becomeUnlessTooMuch 15 = .ok (.iload_n 1, 1) := by decide +kernel
theorem dX11_becomeUnlessTooMuch_16 : decode cX11_becomeUnlessTooMuch 16 = .ok (.invokevirtual 144, 3) := by decide +kernel
theorem dX11_becomeUnlessTooMuch_19 : decode cX11_becomeUnlessTooMuch 19 = .ok (.goto 7, 3) := by decide +kernel
theorem dX11_becomeUnlessTooMuch_22 : decode cX11_becomeUnlessTooMuch 22 = .ok (.aload_n 0, 1) := by decide +kernel
theorem dX11_becomeUnlessTooMuch_23 : decode cX11_becomeUnlessTooMuch 23 = .ok (.invokevirtual 377, 3) := by decide +kernel
theorem dX11_becomeUnlessTooMuch_26 : decode cX11_becomeUnlessTooMuch 26 = .ok (.ireturn, 1) := by decide +kernel
theorem dX11_become_0 : decode cX11_become 0 = .ok (.aload_n 0, 1) := by decide +kernel
theorem dX11_become_1 : decode cX11_become 1 = .ok (.getfield 98, 3) := by decide +kernel
theorem dX11_become_4 : decode cX11_become 4 = .ok (.iload_n 1, 1) := by decide +kernel
theorem dX11_become_5 : decode cX11_become 5 = .ok (.aload_n 0, 1) := by decide +kernel
theorem dX11_become_6 : decode cX11_become 6 = .ok (.getfield 91, 3) := by decide +kernel
theorem dX11_become_9 : decode cX11_become 9 = .ok (.invokevirtual 411, 3) := by decide +kernel
theorem dX11_become_12 : decode cX11_become 12 = .ok (.aload_n 0, 1) := by decide +kernel
theorem dX11_become_13 : decode cX11_become 13 = .ok (.iload_n 1, 1) := by decide +kernel
theorem dX11_become_14 : decode cX11_become 14 = .ok (.invokevirtual 211, 3) := by decide +kernel
theorem dX11_become_17 : decode cX11_become 17 = .ok (.aload_n 0, 1) := by decide +kernel
theorem dX11_become_18 : decode cX11_become 18 = .ok (.getfield 30, 3) := by decide +kernel
theorem dX11_become_21 : decode cX11_become 21 = .ok (.getfield 336, 3) := by decide +kernel
theorem dX11_become_24 : decode cX11_become 24 = .ok (.invokevirtual 415, 3) := by decide +kernel
theorem dX11_become_27 : decode cX11_become 27 = .ok (.aload_n 0, 1) := by decide +kernel
theorem dX11_become_28 : decode cX11_become 28 = .ok (.getfield 91, 3) := by decide +kernel
theorem dX11_become_31 : decode cX11_become 31 = .ok (.getfield 177, 3) := by decide +kernel
theorem dX11_become_34 : decode cX11_become 34 = .ok (.ireturn, 1) := by decide +kernel
theorem dX11_refuseAct_0 : decode cX11_refuseAct 0 = .ok (.aload_n 0, 1) := by decide +kernel
theorem dX11_refuseAct_1 : decode cX11_refuseAct 1 = .ok (.getfield 98, 3) := by decide +kernel
theorem dX11_refuseAct_4 : decode cX11_refuseAct 4 = .ok (.getfield 147, 3) := by decide +kernel
theorem dX11_refuseAct_7 : decode cX11_refuseAct 7 = .ok (.iconst 1, 1) := by decide +kernel
theorem dX11_refuseAct_8 : decode cX11_refuseAct 8 = .ok (.dup2, 1) := by decide +kernel
theorem dX11_refuseAct_9 : decode cX11_refuseAct 9 = .ok (.iaload, 1) := by decide +kernel
theorem dX11_refuseAct_10 : decode cX11_refuseAct 10 = .ok (.iconst 1, 1) := by decide +kernel
theorem dX11_refuseAct_11 : decode cX11_refuseAct 11 = .ok (.iadd, 1) := by decide +kernel
theorem dX11_refuseAct_12 : decode cX11_refuseAct 12 = .ok (.iastore, 1) := by decide +kernel
theorem dX11_refuseAct_13 : decode cX11_refuseAct 13 = .ok (.iconst (-1), 1) := by decide +kernel
theorem dX11_refuseAct_14 : decode cX11_refuseAct 14 = .ok (.ireturn, 1) := by decide +kernel
theorem dX11_undo_0 : decode cX11_undo 0 = .ok (.aload_n 0, 1) := by decide +kernel
theorem dX11_undo_1 : decode cX11_undo 1 = .ok (.getfield 98, 3) := by decide +kernel
theorem dX11_undo_4 : decode cX11_undo 4 = .ok (.invokevirtual 417, 3) := by decide +kernel
theorem dX11_undo_7 : decode cX11_undo 7 = .ok (.istore_n 1, 1) := by decide +kernel
theorem dX11_undo_8 : decode cX11_undo 8 = .ok (.iload_n 1, 1) := by decide +kernel
theorem dX11_undo_9 : decode cX11_undo 9 = .ok (.iconst (-1), 1) := by decide +kernel
theorem dX11_undo_10 : decode cX11_undo 10 = .ok (.if_icmp .ne 5, 3) := by decide +kernel
theorem dX11_undo_13 : decode cX11_undo 13 = .ok (.iconst (-1), 1) := by decide +kernel
theorem dX11_undo_14 : decode cX11_undo 14 = .ok (.ireturn, 1) := by decide +kernel
theorem dX11_undo_15 : decode cX11_undo 15 = .ok (.aload_n 0, 1) := by decide +kernel
theorem dX11_undo_16 : decode cX11_undo 16 = .ok (.iload_n 1, 1) := by decide +kernel
theorem dX11_undo_17 : decode cX11_undo 17 = .ok (.invokevirtual 420, 3) := by decide +kernel
theorem dX11_undo_20 : decode cX11_undo 20 = .ok (.aload_n 0, 1) := by decide +kernel
theorem dX11_undo_21 : decode cX11_undo 21 = .ok (.getfield 98, 3) := by decide +kernel
theorem dX11_undo_24 : decode cX11_undo 24 = .ok (.getfield 180, 3) := by decide +kernel
theorem dX11_undo_27 : decode cX11_undo 27 = .ok (.ireturn, 1) := by decide +kernel
theorem dX11_makeCurve_0 : decode cX11_makeCurve 0 = .ok (.aload_n 0, 1) := by decide +kernel
theorem dX11_makeCurve_1 : decode cX11_makeCurve 1 = .ok (.getfield 30, 3) := by decide +kernel
theorem dX11_makeCurve_4 : decode cX11_makeCurve 4 = .ok (.aload_n 0, 1) := by decide +kernel
theorem dX11_makeCurve_5 : decode cX11_makeCurve 5 = .ok (.iload_n 1, 1) := by decide +kernel
theorem dX11_makeCurve_6 : decode cX11_makeCurve 6 = .ok (.invokevirtual 173, 3) := by decide +kernel
theorem dX11_makeCurve_9 : decode cX11_makeCurve 9 = .ok (.invokevirtual 133, 3) := by decide +kernel
theorem dX11_makeCurve_12 : decode cX11_makeCurve 12 = .ok (.pop, 1) := by decide +kernel
theorem dX11_makeCurve_13 : decode cX11_makeCurve 13 = .ok (.aload_n 0, 1) := by decide +kernel
theorem dX11_makeCurve_14 : decode cX11_makeCurve 14 = .ok (.iload_n 1, 1) := by decide +kernel
theorem dX11_makeCurve_15 : decode cX11_makeCurve 15 = .ok (.invokevirtual 211, 3) := by decide +kernel
theorem dX11_makeCurve_18 : decode cX11_makeCurve 18 = .ok (.aload_n 0, 1) := by decide +kernel
theorem dX11_makeCurve_19 : decode cX11_makeCurve 19 = .ok (.getfield 30, 3) := by decide +kernel
theorem dX11_makeCurve_22 : decode cX11_makeCurve 22 = .ok (.getfield 336, 3) := by decide +kernel
theorem dX11_makeCurve_25 : decode cX11_makeCurve 25 = .ok (.invokevirtual 415, 3) := by decide +kernel
theorem dX11_makeCurve_28 : decode cX11_makeCurve 28 = .ok (.return_, 1) := by decide +kernel
theorem dX11_note_0 : decode cX11_note 0 = .ok (.aload_n 0, 1) := by decide +kernel
theorem dX11_note_1 : decode cX11_note 1 = .ok (.getfield 98, 3) := by decide +kernel
theorem dX11_note_4 : decode cX11_note 4 = .ok (.getfield 183, 3) := by decide +kernel
theorem dX11_note_7 : decode cX11_note 7 = .ok (.bipush 8, 2) := by decide +kernel
theorem dX11_note_9 : decode cX11_note 9 = .ok (.if_icmp .ge 10, 3) := by decide +kernel
theorem dX11_note_12 : decode cX11_note 12 = .ok (.iload_n 1, 1) := by decide +kernel
theorem dX11_note_13 : decode cX11_note 13 = .ok (.invokestatic 423, 3) := by decide +kernel
theorem dX11_note_16 : decode cX11_note 16 = .ok (.ifCond .ne 18, 3) := by decide +kernel
theorem dX11_note_19 : decode cX11_note 19 = .ok (.aload_n 0, 1) := by decide +kernel
theorem dX11_note_20 : decode cX11_note 20 = .ok (.getfield 98, 3) := by decide +kernel
theorem dX11_note_23 : decode cX11_note 23 = .ok (.getfield 147, 3) := by decide +kernel
theorem dX11_note_26 : decode cX11_note 26 = .ok (.iconst 2, 1) := by decide +kernel
theorem dX11_note_27 : decode cX11_note 27 = .ok (.dup2, 1) := by decide +kernel
theorem dX11_note_28 : decode cX11_note 28 = .ok (.iaload, 1) := by decide +kernel
theorem dX11_note_29 : decode cX11_note 29 = .ok (.iconst 1, 1) := by decide +kernel
theorem dX11_note_30 : decode cX11_note 30 = .ok (.iadd, 1) := by decide +kernel
theorem dX11_note_31 : decode cX11_note 31 = .ok (.iastore, 1) := by decide +kernel
theorem dX11_note_32 : decode cX11_note 32 = .ok (.iconst (-1), 1) := by decide +kernel
theorem dX11_note_33 : decode cX11_note 33 = .ok (.ireturn, 1) := by decide +kernel
theorem dX11_note_34 : decode cX11_note 34 = .ok (.aload_n 0, 1) := by decide +kernel
theorem dX11_note_35 : decode cX11_note 35 = .ok (.getfield 98, 3) := by decide +kernel
theorem dX11_note_38 : decode cX11_note 38 = .ok (.getfield 426, 3) := by decide +kernel
theorem dX11_note_41 : decode cX11_note 41 = .ok (.aload_n 0, 1) := by decide +kernel
theorem dX11_note_42 : decode cX11_note 42 = .ok (.getfield 98, 3) := by decide +kernel
theorem dX11_note_45 : decode cX11_note 45 = .ok (.getfield 183, 3) := by decide +kernel
theorem dX11_note_48 : decode cX11_note 48 = .ok (.iload_n 1, 1) := by decide +kernel
theorem dX11_note_49 : decode cX11_note 49 = .ok (.iastore, 1) := by decide +kernel
theorem dX11_note_50 : decode cX11_note 50 = .ok (.aload_n 0, 1) := by decide +kernel
theorem dX11_note_51 : decode cX11_note 51 = .ok (.getfield 98, 3) := by decide +kernel
theorem dX11_note_54 : decode cX11_note 54 = .ok (.getfield 429, 3) := by decide +kernel
theorem dX11_note_57 : decode cX11_note 57 = .ok (.aload_n 0, 1) := by decide +kernel
theorem dX11_note_58 : decode cX11_note 58 = .ok (.getfield 98, 3) := by decide +kernel
theorem dX11_note_61 : decode cX11_note 61 = .ok (.getfield 183, 3) := by decide +kernel
theorem dX11_note_64 : decode cX11_note 64 = .ok (.lload_n 2, 1) := by decide +kernel
theorem dX11_note_65 : decode cX11_note 65 = .ok (.lastore, 1) := by decide +kernel
theorem dX11_note_66 : decode cX11_note 66 = .ok (.aload_n 0, 1) := by decide +kernel
theorem dX11_note_67 : decode cX11_note 67 = .ok (.getfield 98, 3) := by decide +kernel
theorem dX11_note_70 : decode cX11_note 70 = .ok (.dup, 1) := by decide +kernel
theorem dX11_note_71 : decode cX11_note 71 = .ok (.getfield 183, 3) := by decide +kernel
theorem dX11_note_74 : decode cX11_note 74 = .ok (.iconst 1, 1) := by decide +kernel
theorem dX11_note_75 : decode cX11_note 75 = .ok (.iadd, 1) := by decide +kernel
theorem dX11_note_76 : decode cX11_note 76 = .ok (.putfield 183, 3) := by decide +kernel
theorem dX11_note_79 : decode cX11_note 79 = .ok (.aload_n 0, 1) := by decide +kernel
theorem dX11_note_80 : decode cX11_note 80 = .ok (.getfield 98, 3) := by decide +kernel
theorem dX11_note_83 : decode cX11_note 83 = .ok (.getfield 183, 3) := by decide +kernel
theorem dX11_note_86 : decode cX11_note 86 = .ok (.ireturn, 1) := by decide +kernel
theorem dX11_fits_0 : decode cX11_fits 0 = .ok (.aload_n 0, 1) := by decide +kernel
theorem dX11_fits_1 : decode cX11_fits 1 = .ok (.iload_n 1, 1) := by decide +kernel
theorem dX11_fits_2 : decode cX11_fits 2 = .ok (.iload_n 2, 1) := by decide +kernel
theorem dX11_fits_3 : decode cX11_fits 3 = .ok (.invokevirtual 432, 3) := by decide +kernel
theorem dX11_fits_6 : decode cX11_fits 6 = .ok (.aload_n 0, 1) := by decide +kernel
theorem dX11_fits_7 : decode cX11_fits 7 = .ok (.iconst 0, 1) := by decide +kernel
theorem dX11_fits_8 : decode cX11_fits 8 = .ok (.invokevirtual 173, 3) := by decide +kernel
theorem dX11_fits_11 : decode cX11_fits 11 = .ok (.astore_n 3, 1) := by decide +kernel
theorem dX11_fits_12 : decode cX11_fits 12 = .ok (.iconst 0, 1) := by decide +kernel
theorem dX11_fits_13 : decode cX11_fits 13 = .ok (.istore 4, 2) := by decide +kernel
theorem dX11_fits_15 : decode cX11_fits 15 = .ok (.iconst (-1), 1) := by decide +kernel
theorem dX11_fits_16 : decode cX11_fits 16 = .ok (.istore 5, 2) := by decide +kernel
theorem dX11_fits_18 : decode cX11_fits 18 = .ok (.aload_n 0, 1) := by decide +kernel
theorem dX11_fits_19 : decode cX11_fits 19 = .ok (.getfield 30, 3) := by decide +kernel
theorem dX11_fits_22 : decode cX11_fits 22 = .ok (.aload_n 3, 1) := by decide +kernel
theorem dX11_fits_23 : decode cX11_fits 23 = .ok (.iload_n 1, 1) := by decide +kernel
theorem dX11_fits_24 : decode cX11_fits 24 = .ok (.invokevirtual 328, 3) := by decide +kernel
theorem dX11_fits_27 : decode cX11_fits 27 = .ok (.iconst 0, 1) := by decide +kernel
theorem dX11_fits_28 : decode cX11_fits 28 = .ok (.istore 6, 2) := by decide +kernel
theorem dX11_fits_30 : decode cX11_fits 30 = .ok (.iload 6, 2) := by decide +kernel
theorem dX11_fits_32 : decode cX11_fits 32 = .ok (.bipush 40, 2) := by decide +kernel
theorem dX11_fits_34 : decode cX11_fits 34 = .ok (.if_icmp .gt 57, 3) := by decide +kernel
theorem dX11_fits_37 : decode cX11_fits 37 = .ok (.aload_n 0, 1) := by decide +kernel
theorem dX11_fits_38 : decode cX11_fits 38 = .ok (.getfield 30, 3) := by decide +kernel
theorem dX11_fits_41 : decode cX11_fits 41 = .ok (.aload_n 3, 1) := by decide +kernel
theorem dX11_fits_42 : decode cX11_fits 42 = .ok (.iload_n 1, 1) := by decide +kernel
theorem dX11_fits_43 : decode cX11_fits 43 = .ok (.iload 6, 2) := by decide +kernel
theorem dX11_fits_45 : decode cX11_fits 45 = .ok (.invokevirtual 332, 3) := by decide +kernel
theorem dX11_fits_48 : decode cX11_fits 48 = .ok (.ifCond .eq 37, 3) := by decide +kernel
theorem dX11_fits_51 : decode cX11_fits 51 = .ok (.aload_n 0, 1) := by decide +kernel
theorem dX11_fits_52 : decode cX11_fits 52 = .ok (.getfield 98, 3) := by decide +kernel
theorem dX11_fits_55 : decode cX11_fits 55 = .ok (.aload_n 0, 1) := by decide +kernel
theorem dX11_fits_56 : decode cX11_fits 56 = .ok (.getfield 30, 3) := by decide +kernel
theorem dX11_fits_59 : decode cX11_fits 59 = .ok (.getfield 336, 3) := by decide +kernel
theorem dX11_fits_62 : decode cX11_fits 62 = .ok (.invokevirtual 435, 3) := by decide +kernel
theorem dX11_fits_65 : decode cX11_fits 65 = .ok (.ifCond .eq 20, 3) := by decide +kernel
theorem dX11_fits_68 : decode cX11_fits 68 = .ok (.iload 4, 2) := by decide +kernel
theorem dX11_fits_70 : decode cX11_fits 70 = .ok (.ifCond .ne 8, 3) := by decide +kernel
theorem dX11_fits_73 : decode cX11_fits 73 = .ok (.iload 6, 2) := by decide +kernel
theorem dX11_fits_75 : decode cX11_fits 75 = .ok (.goto 5, 3) := by decide +kernel
theorem dX11_fits_78 : decode cX11_fits 78 = .ok (.iload 5, 2) := by decide +kernel
theorem dX11_fits_80 : decode cX11_fits 80 = .ok (.istore 5, 2) := by decide +kernel
theorem dX11_fits_82 : decode cX11_fits 82 = .ok (.iinc 4 1, 3) := by decide +kernel
theorem dX11_fits_85 : decode cX11_fits 85 = .ok (.iinc 6 1, 3) := by decide +kernel
theorem dX11_fits_88 : decode cX11_fits 88 = .ok (.goto (-58), 3) := by decide +kernel
theorem dX11_fits_91 : decode cX11_fits 91 = .ok (.iload_n 2, 1) := by decide +kernel
theorem dX11_fits_92 : decode cX11_fits 92 = .ok (.ifCond .ne 8, 3) := by decide +kernel
theorem dX11_fits_95 : decode cX11_fits 95 = .ok (.iload 4, 2) := by decide +kernel
theorem dX11_fits_97 : decode cX11_fits 97 = .ok (.goto 5, 3) := by decide +kernel
theorem dX11_fits_100 : decode cX11_fits 100 = .ok (.iload 5, 2) := by decide +kernel
theorem dX11_fits_102 : decode cX11_fits 102 = .ok (.ireturn, 1) := by decide +kernel
theorem dX11_look_0 : decode cX11_look 0 = .ok (.aload_n 0, 1) := by decide +kernel
theorem dX11_look_1 : decode cX11_look 1 = .ok (.iload_n 1, 1) := by decide +kernel
theorem dX11_look_2 : decode cX11_look 2 = .ok (.iload_n 2, 1) := by decide +kernel
theorem dX11_look_3 : decode cX11_look 3 = .ok (.invokevirtual 432, 3) := by decide +kernel
theorem dX11_look_6 : decode cX11_look 6 = .ok (.aload_n 0, 1) := by decide +kernel
theorem dX11_look_7 : decode cX11_look 7 = .ok (.iconst 0, 1) := by decide +kernel
theorem dX11_look_8 : decode cX11_look 8 = .ok (.invokevirtual 173, 3) := by decide +kernel
theorem dX11_look_11 : decode cX11_look 11 = .ok (.astore_n 3, 1) := by decide +kernel
theorem dX11_look_12 : decode cX11_look 12 = .ok (.aload_n 0, 1) := by decide +kernel
theorem dX11_look_13 : decode cX11_look 13 = .ok (.getfield 62, 3) := by decide +kernel
theorem dX11_look_16 : decode cX11_look 16 = .ok (.iconst 0, 1) := by decide +kernel
theorem dX11_look_17 : decode cX11_look 17 = .ok (.invokestatic 438, 3) := by decide +kernel
theorem dX11_look_20 : decode cX11_look 20 = .ok (.aload_n 0, 1) := by decide +kernel
theorem dX11_look_21 : decode cX11_look 21 = .ok (.getfield 30, 3) := by decide +kernel
theorem dX11_look_24 : decode cX11_look 24 = .ok (.aload_n 3, 1) := by decide +kernel
theorem dX11_look_25 : decode cX11_look 25 = .ok (.iload_n 1, 1) := by decide +kernel
theorem dX11_look_26 : decode cX11_look 26 = .ok (.invokevirtual 328, 3) := by decide +kernel
theorem dX11_look_29 : decode cX11_look 29 = .ok (.iconst 0, 1) := by decide +kernel
theorem dX11_look_30 : decode cX11_look 30 = .ok (.istore 4, 2) := by decide +kernel
theorem dX11_look_32 : decode cX11_look 32 = .ok (.iload 4, 2) := by decide +kernel
theorem dX11_look_34 : decode cX11_look 34 = .ok (.bipush 40, 2) := by decide +kernel
theorem dX11_look_36 : decode cX11_look 36 = .ok (.if_icmp .gt 51, 3) := by decide +kernel
theorem dX11_look_39 : decode cX11_look 39 = .ok (.aload_n 0, 1) := by decide +kernel
theorem dX11_look_40 : decode cX11_look 40 = .ok (.getfield 30, 3) := by decide +kernel
theorem dX11_look_43 : decode cX11_look 43 = .ok (.aload_n 3, 1) := by decide +kernel
theorem dX11_look_44 : decode cX11_look 44 = .ok (.iload_n 1, 1) := by decide +kernel
theorem dX11_look_45 : decode cX11_look 45 = .ok (.iload 4, 2) := by decide +kernel
theorem dX11_look_47 : decode cX11_look 47 = .ok (.invokevirtual 332, 3) := by decide +kernel
theorem dX11_look_50 : decode cX11_look 50 = .ok (.ifCond .eq 31, 3) := by decide +kernel
theorem dX11_look_53 : decode cX11_look 53 = .ok (.aload_n 0, 1) := by decide +kernel
theorem dX11_look_54 : decode cX11_look 54 = .ok (.getfield 98, 3) := by decide +kernel
theorem dX11_look_57 : decode cX11_look 57 = .ok (.aload_n 0, 1) := by decide +kernel
theorem dX11_look_58 : decode cX11_look 58 = .ok (.getfield 30, 3) := by decide +kernel
theorem dX11_look_61 : decode cX11_look 61 = .ok (.getfield 336, 3) := by decide +kernel
theorem dX11_look_64 : decode cX11_look 64 = .ok (.invokevirtual 435, 3) := by decide +kernel
theorem dX11_look_67 : decode cX11_look 67 = .ok (.ifCond .eq 14, 3) := by decide +kernel
theorem dX11_look_70 : decode cX11_look 70 = .ok (.aload_n 0, 1) := by decide +kernel
theorem dX11_look_71 : decode cX11_look 71 = .ok (.aload_n 0, 1) := by decide +kernel
theorem dX11_look_72 : decode cX11_look 72 = .ok (.getfield 30, 3) := by decide +kernel
theorem dX11_look_75 : decode cX11_look 75 = .ok (.getfield 336, 3) := by decide +kernel
theorem dX11_look_78 : decode cX11_look 78 = .ok (.invokevirtual 444, 3) := by decide +kernel
theorem dX11_look_81 : decode cX11_look 81 = .ok (.iinc 4 1, 3) := by decide +kernel
theorem dX11_look_84 : decode cX11_look 84 = .ok (.goto (-52), 3) := by decide +kernel
theorem dX11_look_87 : decode cX11_look 87 = .ok (.iconst 0, 1) := by decide +kernel
theorem dX11_look_88 : decode cX11_look 88 = .ok (.istore 4, 2) := by decide +kernel
theorem dX11_look_90 : decode cX11_look 90 = .ok (.iconst 1, 1) := by decide +kernel
theorem dX11_look_91 : decode cX11_look 91 = .ok (.istore 5, 2) := by decide +kernel
theorem dX11_look_93 : decode cX11_look 93 = .ok (.iload 5, 2) := by decide +kernel
theorem dX11_look_95 : decode cX11_look 95 = .ok (.aload_n 0, 1) := by decide +kernel
theorem dX11_look_96 : decode cX11_look 96 = .ok (.getfield 62, 3) := by decide +kernel
theorem dX11_look_99 : decode cX11_look 99 = .ok (.arraylength, 1) := by decide +kernel
theorem dX11_look_100 : decode cX11_look 100 = .ok (.if_icmp .ge 35, 3) := by decide +kernel
theorem dX11_look_103 : decode cX11_look 103 = .ok (.aload_n 0, 1) := by decide +kernel
theorem dX11_look_104 : decode cX11_look 104 = .ok (.getfield 62, 3) := by decide +kernel
theorem dX11_look_107 : decode cX11_look 107 = .ok (.iload 5, 2) := by decide +kernel
theorem dX11_look_109 : decode cX11_look 109 = .ok (.iaload, 1) := by decide +kernel
theorem dX11_look_110 : decode cX11_look 110 = .ok (.aload_n 0, 1) := by decide +kernel
theorem dX11_look_111 : decode cX11_look 111 = .ok (.getfield 62, 3) := by decide +kernel
theorem dX11_look_114 : decode cX11_look 114 = .ok (.iload 4, 2) := by decide +kernel
theorem dX11_look_116 : decode cX11_look 116 = .ok (.iaload, 1) := by decide +kernel
theorem dX11_look_117 : decode cX11_look 117 = .ok (.if_icmp .le 8, 3) := by decide +kernel
theorem dX11_look_120 : decode cX11_look 120 = .ok (.iload 5, 2) := by decide +kernel
theorem dX11_look_122 : decode cX11_look 122 = .ok (.goto 5, 3) := by decide +kernel
theorem dX11_look_125 : decode cX11_look 125 = .ok (.iload 4, 2) := by decide +kernel
theorem dX11_look_127 : decode cX11_look 127 = .ok (.istore 4, 2) := by decide +kernel
theorem dX11_look_129 : decode cX11_look 129 = .ok (.iinc 5 1, 3) := by decide +kernel
theorem dX11_look_132 : decode cX11_look 132 = .ok (.goto (-39), 3) := by decide +kernel
theorem dX11_look_135 : decode cX11_look 135 = .ok (.iload_n 2, 1) := by decide +kernel
theorem dX11_look_136 : decode cX11_look 136 = .ok (.iconst 1, 1) := by decide +kernel
theorem dX11_look_137 : decode cX11_look 137 = .ok (.if_icmp .ne 11, 3) := by decide +kernel
theorem dX11_look_140 : decode cX11_look 140 = .ok (.aload_n 0, 1) := by decide +kernel
theorem dX11_look_141 : decode cX11_look 141 = .ok (.getfield 62, 3) := by decide +kernel
theorem dX11_look_144 : decode cX11_look 144 = .ok (.iload 4, 2) := by decide +kernel
theorem dX11_look_146 : decode cX11_look 146 = .ok (.iaload, 1) := by decide +kernel
theorem dX11_look_147 : decode cX11_look 147 = .ok (.ireturn, 1) := by decide +kernel
theorem dX11_look_148 : decode cX11_look 148 = .ok (.aload_n 0, 1) := by decide +kernel
theorem dX11_look_149 : decode cX11_look 149 = .ok (.getfield 62, 3) := by decide +kernel
theorem dX11_look_152 : decode cX11_look 152 = .ok (.iload 4, 2) := by decide +kernel
theorem dX11_look_154 : decode cX11_look 154 = .ok (.iaload, 1) := by decide +kernel
theorem dX11_look_155 : decode cX11_look 155 = .ok (.ifCond .ne 9, 3) := by decide +kernel
theorem dX11_look_158 : decode cX11_look 158 = .ok (.ldc_w 271, 3) := by decide +kernel
theorem dX11_look_161 : decode cX11_look 161 = .ok (.goto 8, 3) := by decide +kernel
theorem dX11_look_164 : decode cX11_look 164 = .ok (.iload 4, 2) := by decide +kernel
theorem dX11_look_166 : decode cX11_look 166 = .ok (.bipush 20, 2) := by decide +kernel
theorem dX11_look_168 : decode cX11_look 168 = .ok (.isub, 1) := by decide +kernel
theorem dX11_look_169 : decode cX11_look 169 = .ok (.ireturn, 1) := by decide +kernel
theorem dX11_lookAlong_0 : decode cX11_lookAlong 0 = .ok (.aload_n 0, 1) := by decide +kernel
theorem dX11_lookAlong_1 : decode cX11_lookAlong 1 = .ok (.getfield 81, 3) := by decide +kernel
theorem dX11_lookAlong_4 : decode cX11_lookAlong 4 = .ok (.aload_n 1, 1) := by decide +kernel
theorem dX11_lookAlong_5 : decode cX11_lookAlong 5 = .ok (.bipush (-20), 2) := by decide +kernel
theorem dX11_lookAlong_7 : decode cX11_lookAlong 7 = .ok (.invokevirtual 311, 3) := by decide +kernel
theorem dX11_lookAlong_10 : decode cX11_lookAlong 10 = .ok (.iconst 0, 1) := by decide +kernel
theorem dX11_lookAlong_11 : decode cX11_lookAlong 11 = .ok (.istore_n 2, 1) := by decide +kernel
theorem dX11_lookAlong_12 : decode cX11_lookAlong 12 = .ok (.iload_n 2, 1) := by decide +kernel
theorem dX11_lookAlong_13 : decode cX11_lookAlong 13 = .ok (.aload_n 0, 1) := by decide +kernel
theorem dX11_lookAlong_14 : decode cX11_lookAlong 14 = .ok (.getfield 62, 3) := by decide +kernel
theorem dX11_lookAlong_17 : decode cX11_lookAlong 17 = .ok (.arraylength, 1) := by decide +kernel
theorem dX11_lookAlong_18 : decode cX11_lookAlong 18 = .ok (.if_icmp .ge 74, 3) := by decide +kernel
theorem dX11_lookAlong_21 : decode cX11_lookAlong 21 = .ok (.iload_n 2, 1) := by decide +kernel
theorem dX11_lookAlong_22 : decode cX11_lookAlong 22 = .ok (.aload_n 0, 1) := by decide +kernel
theorem dX11_lookAlong_23 : decode cX11_lookAlong 23 = .ok (.getfield 58, 3) := by decide +kernel
theorem dX11_lookAlong_26 : decode cX11_lookAlong 26 = .ok (.arraylength, 1) := by decide +kernel
theorem dX11_lookAlong_27 : decode cX11_lookAlong 27 = .ok (.if_icmp .ge 65, 3) := by decide +kernel
theorem dX11_lookAlong_30 : decode cX11_lookAlong 30 = .ok (.aload_n 0, 1) := by decide +kernel
theorem dX11_lookAlong_31 : decode cX11_lookAlong 31 = .ok (.getfield 62, 3) := by decide +kernel
theorem dX11_lookAlong_34 : decode cX11_lookAlong 34 = .ok (.iload_n 2, 1) := by decide +kernel
theorem dX11_lookAlong_35 : decode cX11_lookAlong 35 = .ok (.iaload, 1) := by decide +kernel
theorem dX11_lookAlong_36 : decode cX11_lookAlong 36 = .ok (.ifCond .eq 20, 3) := by decide +kernel
theorem dX11_lookAlong_39 : decode cX11_lookAlong 39 = .ok (.aload_n 0, 1) := by decide +kernel
theorem dX11_lookAlong_40 : decode cX11_lookAlong 40 = .ok (.getfield 58, 3) := by decide +kernel
theorem dX11_lookAlong_43 : decode cX11_lookAlong 43 = .ok (.iload_n 2, 1) := by decide +kernel
theorem dX11_lookAlong_44 : decode cX11_lookAlong 44 = .ok (.laload, 1) := by decide +kernel
theorem dX11_lookAlong_45 : decode cX11_lookAlong 45 = .ok (.aload_n 0, 1) := by decide +kernel
theorem dX11_lookAlong_46 : decode cX11_lookAlong 46 = .ok (.getfield 81, 3) := by decide +kernel
theorem dX11_lookAlong_49 : decode cX11_lookAlong 49 = .ok (.getfield 315, 3) := by decide +kernel
theorem dX11_lookAlong_52 : decode cX11_lookAlong 52 = .ok (.lcmp, 1) := by decide +kernel
theorem dX11_lookAlong_53 : decode cX11_lookAlong 53 = .ok (.ifCond .eq 26, 3) := by decide +kernel
theorem dX11_lookAlong_56 : decode cX11_lookAlong 56 = .ok (.aload_n 0, 1) := by decide +kernel
theorem dX11_lookAlong_57 : decode cX11_lookAlong 57 = .ok (.getfield 62, 3) := by decide +kernel
theorem dX11_lookAlong_60 : decode cX11_lookAlong 60 = .ok (.iload_n 2, 1) := by decide +kernel
theorem dX11_lookAlong_61 : decode cX11_lookAlong 61 = .ok (.dup2, 1) := by decide +kernel
theorem dX11_lookAlong_62 : decode cX11_lookAlong 62 = .ok (.iaload, 1) := by decide +kernel
theorem dX11_lookAlong_63 : decode cX11_lookAlong 63 = .ok (.iconst 1, 1) := by decide +kernel
theorem dX11_lookAlong_64 : decode cX11_lookAlong 64 = .ok (.iadd, 1) := by decide +kernel
theorem dX11_lookAlong_65 : decode cX11_lookAlong 65 = .ok (.iastore, 1) := by decide +kernel
theorem dX11_lookAlong_66 : decode cX11_lookAlong 66 = .ok (.aload_n 0, 1) := by decide +kernel
theorem dX11_lookAlong_67 : decode cX11_lookAlong 67 = .ok (.getfield 58, 3) := by decide +kernel
theorem dX11_lookAlong_70 : decode cX11_lookAlong 70 = .ok (.iload_n 2, 1) := by decide +kernel
theorem dX11_lookAlong_71 : decode cX11_lookAlong 71 = .ok (.aload_n 0, 1) := by decide +kernel
theorem dX11_lookAlong_72 : decode cX11_lookAlong 72 = .ok (.getfield 81, 3) := by decide +kernel
theorem dX11_lookAlong_75 : decode cX11_lookAlong 75 = .ok (.getfield 315, 3) := by decide +kernel
theorem dX11_lookAlong_78 : decode cX11_lookAlong 78 = .ok (.lastore, 1) := by decide +kernel
theorem dX11_lookAlong_79 : decode cX11_lookAlong 79 = .ok (.aload_n 0, 1) := by decide +kernel
theorem dX11_lookAlong_80 : decode cX11_lookAlong 80 = .ok (.getfield 81, 3) := by decide +kernel
theorem dX11_lookAlong_83 : decode cX11_lookAlong 83 = .ok (.invokevirtual 318, 3) := by decide +kernel
theorem dX11_lookAlong_86 : decode cX11_lookAlong 86 = .ok (.iinc 2 1, 3) := by decide +kernel
theorem dX11_lookAlong_89 : decode cX11_lookAlong 89 = .ok (.goto (-77), 3) := by decide +kernel
theorem dX11_lookAlong_92 : decode cX11_lookAlong 92 = .ok (.return_, 1) := by decide +kernel
theorem dX11_needWeighted_0 : decode cX11_needWeighted 0 = .ok (.aload_n 0, 1) := by decide +kernel
theorem dX11_needWeighted_1 : decode cX11_needWeighted 1 = .ok (.iconst 0, 1) := by decide +kernel
theorem dX11_needWeighted_2 : decode cX11_needWeighted 2 = .ok (.iload_n 1, 1) := by decide +kernel
theorem dX11_needWeighted_3 : decode cX11_needWeighted 3 = .ok (.invokevirtual 193, 3) := by decide +kernel
theorem dX11_needWeighted_6 : decode cX11_needWeighted 6 = .ok (.getfield 200, 3) := by decide +kernel
theorem dX11_needWeighted_9 : decode cX11_needWeighted 9 = .ok (.iconst 2, 1) := by decide +kernel
theorem dX11_needWeighted_10 : decode cX11_needWeighted 10 = .ok (.if_icmp .gt 16, 3) := by decide +kernel
theorem dX11_needWeighted_13 : decode cX11_needWeighted 13 = .ok (.iload_n 2, 1) := by decide +kernel
theorem dX11_needWeighted_14 : decode cX11_needWeighted 14 = .ok (.ifCond .eq 8, 3) := by decide +kernel
theorem dX11_needWeighted_17 : decode cX11_needWeighted 17 = .ok (.iload_n 2, 1) := by decide +kernel
theorem dX11_needWeighted_18 : decode cX11_needWeighted 18 = .ok (.iconst 1, 1) := by decide +kernel
theorem dX11_needWeighted_19 : decode cX11_needWeighted 19 = .ok (.if_icmp .ne 7, 3) := by decide +kernel
theorem dX11_needWeighted_22 : decode cX11_needWeighted 22 = .ok (.iconst 1, 1) := by decide +kernel
theorem dX11_needWeighted_23 : decode cX11_needWeighted 23 = .ok (.goto 4, 3) := by decide +kernel
theorem dX11_needWeighted_26 : decode cX11_needWeighted 26 = .ok (.iconst 0, 1) := by decide +kernel
theorem dX11_needWeighted_27 : decode cX11_needWeighted 27 = .ok (.invokestatic 197, 3) := by decide +kernel
theorem dX11_needWeighted_30 : decode cX11_needWeighted 30 = .ok (.return_, 1) := by decide +kernel
theorem dX11_forget_0 : decode cX11_forget 0 = .ok (.aload_n 0, 1) := by decide +kernel
theorem dX11_forget_1 : decode cX11_forget 1 = .ok (.getfield 98, 3) := by decide +kernel
theorem dX11_forget_4 : decode cX11_forget 4 = .ok (.iconst 0, 1) := by decide +kernel
theorem dX11_forget_5 : decode cX11_forget 5 = .ok (.putfield 183, 3) := by decide +kernel
theorem dX11_forget_8 : decode cX11_forget 8 = .ok (.return_, 1) := by decide +kernel
theorem dX11_years_0 : decode cX11_years 0 = .ok (.iload_n 3, 1) := by decide +kernel
theorem dX11_years_1 : decode cX11_years 1 = .ok (.ifCond .lt 12, 3) := by decide +kernel
theorem dX11_years_4 : decode cX11_years 4 = .ok (.iload_n 3, 1) := by decide +kernel
theorem dX11_years_5 : decode cX11_years 5 = .ok (.iconst 2, 1) := by decide +kernel
theorem dX11_years_6 : decode cX11_years 6 = .ok (.if_icmp .gt 7, 3) := by decide +kernel
theorem dX11_years_9 : decode cX11_years 9 = .ok (.iconst 1, 1) := by decide +kernel
theorem dX11_years_10 : decode cX11_years 10 = .ok (.goto 4, 3) := by decide +kernel
theorem dX11_years_13 : decode cX11_years 13 = .ok (.iconst 0, 1) := by decide +kernel
theorem dX11_years_14 : decode cX11_years 14 = .ok (.invokestatic 197, 3) := by decide +kernel
theorem dX11_years_17 : decode cX11_years 17 = .ok (.iload_n 2, 1) := by decide +kernel
theorem dX11_years_18 : decode cX11_years 18 = .ok (.ifCond .lt 13, 3) := by decide +kernel
theorem dX11_years_21 : decode cX11_years 21 = .ok (.iload_n 2, 1) := by decide +kernel
theorem dX11_years_22 : decode cX11_years 22 = .ok (.bipush 20, 2) := by decide +kernel
theorem dX11_years_24 : decode cX11_years 24 = .ok (.if_icmp .gt 7, 3) := by decide +kernel
theorem dX11_years_27 : decode cX11_years 27 = .ok (.iconst 1, 1) := by decide +kernel
theorem dX11_years_28 : decode cX11_years 28 = .ok (.goto 4, 3) := by decide +kernel
theorem dX11_years_31 : decode cX11_years 31 = .ok (.iconst 0, 1) := by decide +kernel
theorem dX11_years_32 : decode cX11_years 32 = .ok (.invokestatic 112, 3) := by decide +kernel
theorem dX11_years_35 : decode cX11_years 35 = .ok (.aload_n 0, 1) := by decide +kernel
theorem dX11_years_36 : decode cX11_years 36 = .ok (.iload_n 1, 1) := by decide +kernel
theorem dX11_years_37 : decode cX11_years 37 = .ok (.putfield 55, 3) := by decide +kernel
theorem dX11_years_40 : decode cX11_years 40 = .ok (.aload_n 0, 1) := by decide +kernel
theorem dX11_years_41 : decode cX11_years 41 = .ok (.getfield 30, 3) := by decide +kernel
theorem dX11_years_44 : decode cX11_years 44 = .ok (.aload_n 0, 1) := by decide +kernel
theorem dX11_years_45 : decode cX11_years 45 = .ok (.iconst 0, 1) := by decide +kernel
theorem dX11_years_46 : decode cX11_years 46 = .ok (.invokevirtual 211, 3) := by decide +kernel
theorem dX11_years_49 : decode cX11_years 49 = .ok (.invokevirtual 381, 3) := by decide +kernel
theorem dX11_years_52 : decode cX11_years 52 = .ok (.iconst 0, 1) := by decide +kernel
theorem dX11_years_53 : decode cX11_years 53 = .ok (.istore 4, 2) := by decide +kernel
theorem dX11_years_55 : decode cX11_years 55 = .ok (.iload 4, 2) := by decide +kernel
theorem dX11_years_57 : decode cX11_years 57 = .ok (.iload_n 2, 1) := by decide +kernel
theorem dX11_years_58 : decode cX11_years 58 = .ok (.if_icmp .ge 13, 3) := by decide +kernel
theorem dX11_years_61 : decode cX11_years 61 = .ok (.aload_n 0, 1) := by decide +kernel
theorem dX11_years_62 : decode cX11_years 62 = .ok (.invokevirtual 447, 3) := by decide +kernel
theorem dX11_years_65 : decode cX11_years 65 = .ok (.iinc 4 1, 3) := by decide +kernel
theorem dX11_years_68 : decode cX11_years 68 = .ok (.goto (-13), 3) := by decide +kernel
theorem dX11_years_71 : decode cX11_years 71 = .ok (.iload_n 3, 1) := by decide +kernel
theorem dX11_years_72 : decode cX11_years 72 = .ok (.ifCond .ne 14, 3) := by decide +kernel
theorem dX11_years_75 : decode cX11_years 75 = .ok (.aload_n 0, 1) := by decide +kernel
theorem dX11_years_76 : decode cX11_years 76 = .ok (.getfield 30, 3) := by decide +kernel
theorem dX11_years_79 : decode cX11_years 79 = .ok (.getfield 336, 3) := by decide +kernel
theorem dX11_years_82 : decode cX11_years 82 = .ok (.getfield 222, 3) := by decide +kernel
theorem dX11_years_85 : decode cX11_years 85 = .ok (.lreturn, 1) := by decide +kernel
theorem dX11_years_86 : decode cX11_years 86 = .ok (.iload_n 3, 1) := by decide +kernel
theorem dX11_years_87 : decode cX11_years 87 = .ok (.iconst 1, 1) := by decide +kernel
theorem dX11_years_88 : decode cX11_years 88 = .ok (.if_icmp .ne 17, 3) := by decide +kernel
theorem dX11_years_91 : decode cX11_years 91 = .ok (.aload_n 0, 1) := by decide +kernel
theorem dX11_years_92 : decode cX11_years 92 = .ok (.getfield 30, 3) := by decide +kernel
theorem dX11_years_95 : decode cX11_years 95 = .ok (.getfield 336, 3) := by decide +kernel
theorem dX11_years_98 : decode cX11_years 98 = .ok (.getfield 238, 3) := by decide +kernel
theorem dX11_years_101 : decode cX11_years 101 = .ok (.i2l, 1) := by decide +kernel
theorem dX11_years_102 : decode cX11_years 102 = .ok (.goto 14, 3) := by decide +kernel
theorem dX11_years_105 : decode cX11_years 105 = .ok (.aload_n 0, 1) := by decide +kernel
theorem dX11_years_106 : decode cX11_years 106 = .ok (.getfield 30, 3) := by decide +kernel
theorem dX11_years_109 : decode cX11_years 109 = .ok (.getfield 336, 3) := by decide +kernel
theorem dX11_years_112 : decode cX11_years 112 = .ok (.iconst 0, 1) := by decide +kernel
theorem dX11_years_113 : decode cX11_years 113 = .ok (.invokevirtual 218, 3) := by decide +kernel
theorem dX11_years_116 : decode cX11_years 116 = .ok (.lreturn, 1) := by decide +kernel
theorem dX11_liveYear_0 : decode cX11_liveYear 0 = .ok (.aload_n 0, 1) := by decide +kernel
theorem dX11_liveYear_1 : decode cX11_liveYear 1 = .ok (.bipush 8, 2) := by decide +kernel
theorem dX11_liveYear_3 : decode cX11_liveYear 3 = .ok (.invokevirtual 450, 3) := by decide +kernel
theorem dX11_liveYear_6 : decode cX11_liveYear 6 = .ok (.istore_n 1, 1) := by decide +kernel
theorem dX11_liveYear_7 : decode cX11_liveYear 7 = .ok (.iconst 0, 1) := by decide +kernel
theorem dX11_liveYear_8 : decode cX11_liveYear 8 = .ok (.istore_n 3, 1) := by decide +kernel
theorem dX11_liveYear_9 : decode cX11_liveYear 9 = .ok (.iconst 0, 1) := by decide +kernel
