theorem dX11_init_115 : decode cX11_init 115 = .ok (.iload_n 1, 1) := by decide +kernel
theorem dX11_init_116 : decode cX11_init 116 = .ok (.iconst 4, 1) := by decide +kernel
theorem dX11_init_117 : decode cX11_init 117 = .ok (.if_icmp .ge 34, 3) := by decide +kernel
theorem dX11_init_120 : decode cX11_init 120 = .ok (.aload_n 0, 1) := by decide +kernel
theorem dX11_init_121 : decode cX11_init 121 = .ok (.getfield 68, 3) := by decide +kernel
theorem dX11_init_124 : decode cX11_init 124 = .ok (.iload_n 1, 1) := by decide +kernel
theorem dX11_init_125 : decode cX11_init 125 = .ok (.new 66, 3) := by decide +kernel
theorem dX11_init_128 : decode cX11_init 128 = .ok (.dup, 1) := by decide +kernel
theorem dX11_init_129 : decode cX11_init 129 = .ok (.invokespecial 75, 3) := by decide +kernel
theorem dX11_init_132 : decode cX11_init 132 = .ok (.aastore, 1) := by decide +kernel
theorem dX11_init_133 : decode cX11_init 133 = .ok (.aload_n 0, 1) := by decide +kernel
theorem dX11_init_134 : decode cX11_init 134 = .ok (.getfield 72, 3) := by decide +kernel
theorem dX11_init_137 : decode cX11_init 137 = .ok (.iload_n 1, 1) := by decide +kernel
theorem dX11_init_138 : decode cX11_init 138 = .ok (.aload_n 0, 1) := by decide +kernel
theorem dX11_init_139 : decode cX11_init 139 = .ok (.getfield 68, 3) := by decide +kernel
theorem dX11_init_142 : decode cX11_init 142 = .ok (.iload_n 1, 1) := by decide +kernel
theorem dX11_init_143 : decode cX11_init 143 = .ok (.aaload, 1) := by decide +kernel
theorem dX11_init_144 : decode cX11_init 144 = .ok (.aastore, 1) := by decide +kernel
theorem dX11_init_145 : decode cX11_init 145 = .ok (.iinc 1 1, 3) := by decide +kernel
theorem dX11_init_148 : decode cX11_init 148 = .ok (.goto (-33), 3) := by decide +kernel
theorem dX11_init_151 : decode cX11_init 151 = .ok (.aload_n 0, 1) := by decide +kernel
theorem dX11_init_152 : decode cX11_init 152 = .ok (.new 76, 3) := by decide +kernel
theorem dX11_init_155 : decode cX11_init 155 = .ok (.dup, 1) := by decide +kernel
theorem dX11_init_156 : decode cX11_init 156 = .ok (.aload_n 0, 1) := by decide +kernel
theorem dX11_init_157 : decode cX11_init 157 = .ok (.getfield 68, 3) := by decide +kernel
theorem dX11_init_160 : decode cX11_init 160 = .ok (.iconst 0, 1) := by decide +kernel
theorem dX11_init_161 : decode cX11_init 161 = .ok (.aaload, 1) := by decide +kernel
theorem dX11_init_162 : decode cX11_init 162 = .ok (.invokespecial 78, 3) := by decide +kernel
theorem dX11_init_165 : decode cX11_init 165 = .ok (.putfield 81, 3) := by decide +kernel
theorem dX11_init_168 : decode cX11_init 168 = .ok (.aload_n 0, 1) := by decide +kernel
theorem dX11_init_169 : decode cX11_init 169 = .ok (.new 76, 3) := by decide +kernel
theorem dX11_init_172 : decode cX11_init 172 = .ok (.dup, 1) := by decide +kernel
theorem dX11_init_173 : decode cX11_init 173 = .ok (.aload_n 0, 1) := by decide +kernel
theorem dX11_init_174 : decode cX11_init 174 = .ok (.getfield 68, 3) := by decide +kernel
theorem dX11_init_177 : decode cX11_init 177 = .ok (.iconst 0, 1) := by decide +kernel
theorem dX11_init_178 : decode cX11_init 178 = .ok (.aaload, 1) := by decide +kernel
theorem dX11_init_179 : decode cX11_init 179 = .ok (.invokespecial 78, 3) := by decide +kernel
theorem dX11_init_182 : decode cX11_init 182 = .ok (.putfield 85, 3) := by decide +kernel
theorem dX11_init_185 : decode cX11_init 185 = .ok (.aload_n 0, 1) := by decide +kernel
theorem dX11_init_186 : decode cX11_init 186 = .ok (.new 88, 3) := by decide +kernel
theorem dX11_init_189 : decode cX11_init 189 = .ok (.dup, 1) := by decide +kernel
theorem dX11_init_190 : decode cX11_init 190 = .ok (.invokespecial 90, 3) := by decide +kernel
theorem dX11_init_193 : decode cX11_init 193 = .ok (.putfield 91, 3) := by decide +kernel
theorem dX11_init_196 : decode cX11_init 196 = .ok (.aload_n 0, 1) := by decide +kernel
theorem dX11_init_197 : decode cX11_init 197 = .ok (.new 95, 3) := by decide +kernel
theorem dX11_init_200 : decode cX11_init 200 = .ok (.dup, 1) := by decide +kernel
theorem dX11_init_201 : decode cX11_init 201 = .ok (.invokespecial 97, 3) := by decide +kernel
theorem dX11_init_204 : decode cX11_init 204 = .ok (.putfield 98, 3) := by decide +kernel
theorem dX11_init_207 : decode cX11_init 207 = .ok (.aload_n 0, 1) := by decide +kernel
theorem dX11_init_208 : decode cX11_init 208 = .ok (.aconst_null, 1) := by decide +kernel
theorem dX11_init_209 : decode cX11_init 209 = .ok (.putfield 102, 3) := by decide +kernel
theorem dX11_init_212 : decode cX11_init 212 = .ok (.return_, 1) := by decide +kernel
theorem dX11_feed_0 : decode cX11_feed 0 = .ok (.aload_n 0, 1) := by decide +kernel
theorem dX11_feed_1 : decode cX11_feed 1 = .ok (.getfield 13, 3) := by decide +kernel
theorem dX11_feed_4 : decode cX11_feed 4 = .ok (.bipush 20, 2) := by decide +kernel
theorem dX11_feed_6 : decode cX11_feed 6 = .ok (.iadd, 1) := by decide +kernel
theorem dX11_feed_7 : decode cX11_feed 7 = .ok (.sipush 600, 3) := by decide +kernel
theorem dX11_feed_10 : decode cX11_feed 10 = .ok (.if_icmp .le 5, 3) := by decide +kernel
theorem dX11_feed_13 : decode cX11_feed 13 = .ok (.iconst (-1), 1) := by decide +kernel
theorem dX11_feed_14 : decode cX11_feed 14 = .ok (.ireturn, 1) := by decide +kernel
theorem dX11_feed_15 : decode cX11_feed 15 = .ok (.aload_n 0, 1) := by decide +kernel
theorem dX11_feed_16 : decode cX11_feed 16 = .ok (.getfield 7, 3) := by decide +kernel
theorem dX11_feed_19 : decode cX11_feed 19 = .ok (.arraylength, 1) := by decide +kernel
theorem dX11_feed_20 : decode cX11_feed 20 = .ok (.sipush 600, 3) := by decide +kernel
theorem dX11_feed_23 : decode cX11_feed 23 = .ok (.if_icmp .ge 12, 3) := by decide +kernel
theorem dX11_feed_26 : decode cX11_feed 26 = .ok (.aload_n 0, 1) := by decide +kernel
theorem dX11_feed_27 : decode cX11_feed 27 = .ok (.sipush 600, 3) := by decide +kernel
theorem dX11_feed_30 : decode cX11_feed 30 = .ok (.newarray .byte, 2) := by decide +kernel
theorem dX11_feed_32 : decode cX11_feed 32 = .ok (.putfield 7, 3) := by decide +kernel
theorem dX11_feed_35 : decode cX11_feed 35 = .ok (.aload_n 0, 1) := by decide +kernel
theorem dX11_feed_36 : decode cX11_feed 36 = .ok (.iload_n 1, 1) := by decide +kernel
theorem dX11_feed_37 : decode cX11_feed 37 = .ok (.invokevirtual 105, 3) := by decide +kernel
theorem dX11_feed_40 : decode cX11_feed 40 = .ok (.aload_n 0, 1) := by decide +kernel
theorem dX11_feed_41 : decode cX11_feed 41 = .ok (.iload_n 2, 1) := by decide +kernel
theorem dX11_feed_42 : decode cX11_feed 42 = .ok (.invokevirtual 105, 3) := by decide +kernel
theorem dX11_feed_45 : decode cX11_feed 45 = .ok (.aload_n 0, 1) := by decide +kernel
theorem dX11_feed_46 : decode cX11_feed 46 = .ok (.iload_n 3, 1) := by decide +kernel
theorem dX11_feed_47 : decode cX11_feed 47 = .ok (.invokevirtual 105, 3) := by decide +kernel
theorem dX11_feed_50 : decode cX11_feed 50 = .ok (.aload_n 0, 1) := by decide +kernel
theorem dX11_feed_51 : decode cX11_feed 51 = .ok (.iload 4, 2) := by decide +kernel
theorem dX11_feed_53 : decode cX11_feed 53 = .ok (.invokevirtual 105, 3) := by decide +kernel
theorem dX11_feed_56 : decode cX11_feed 56 = .ok (.aload_n 0, 1) := by decide +kernel
theorem dX11_feed_57 : decode cX11_feed 57 = .ok (.iload 5, 2) := by decide +kernel
theorem dX11_feed_59 : decode cX11_feed 59 = .ok (.invokevirtual 105, 3) := by decide +kernel
theorem dX11_feed_62 : decode cX11_feed 62 = .ok (.aload_n 0, 1) := by decide +kernel
theorem dX11_feed_63 : decode cX11_feed 63 = .ok (.getfield 13, 3) := by decide +kernel
theorem dX11_feed_66 : decode cX11_feed 66 = .ok (.ireturn, 1) := by decide +kernel
theorem dX11_feedFour_0 : decode cX11_feedFour 0 = .ok (.bipush 24, 2) := by decide +kernel
theorem dX11_feedFour_2 : decode cX11_feedFour 2 = .ok (.istore_n 2, 1) := by decide +kernel
theorem dX11_feedFour_3 : decode cX11_feedFour 3 = .ok (.iload_n 2, 1) := by decide +kernel
theorem dX11_feedFour_4 : decode cX11_feedFour 4 = .ok (.ifCond .lt 44, 3) := by decide +kernel
theorem dX11_feedFour_7 : decode cX11_feedFour 7 = .ok (.aload_n 0, 1) := by decide +kernel
theorem dX11_feedFour_8 : decode cX11_feedFour 8 = .ok (.getfield 13, 3) := by decide +kernel
theorem dX11_feedFour_11 : decode cX11_feedFour 11 = .ok (.aload_n 0, 1) := by decide +kernel
theorem dX11_feedFour_12 : decode cX11_feedFour 12 = .ok (.getfield 7, 3) := by decide +kernel
theorem dX11_feedFour_15 : decode cX11_feedFour 15 = .ok (.arraylength, 1) := by decide +kernel
theorem dX11_feedFour_16 : decode cX11_feedFour 16 = .ok (.if_icmp .ge 26, 3) := by decide +kernel
theorem dX11_feedFour_19 : decode cX11_feedFour 19 = .ok (.aload_n 0, 1) := by decide +kernel
theorem dX11_feedFour_20 : decode cX11_feedFour 20 = .ok (.getfield 7, 3) := by decide +kernel
theorem dX11_feedFour_23 : decode cX11_feedFour 23 = .ok (.aload_n 0, 1) := by decide +kernel
theorem dX11_feedFour_24 : decode cX11_feedFour 24 = .ok (.getfield 13, 3) := by decide +kernel
theorem dX11_feedFour_27 : decode cX11_feedFour 27 = .ok (.iload_n 1, 1) := by decide +kernel
theorem dX11_feedFour_28 : decode cX11_feedFour 28 = .ok (.iload_n 2, 1) := by decide +kernel
theorem dX11_feedFour_29 : decode cX11_feedFour 29 = .ok (.iushr, 1) := by decide +kernel
theorem dX11_feedFour_30 : decode cX11_feedFour 30 = .ok (.i2b, 1) := by decide +kernel
theorem dX11_feedFour_31 : decode cX11_feedFour 31 = .ok (.bastore, 1) := by decide +kernel
theorem dX11_feedFour_32 : decode cX11_feedFour 32 = .ok (.aload_n 0, 1) := by decide +kernel
theorem dX11_feedFour_33 : decode cX11_feedFour 33 = .ok (.dup, 1) := by decide +kernel
theorem dX11_feedFour_34 : decode cX11_feedFour 34 = .ok (.getfield 13, 3) := by decide +kernel
theorem dX11_feedFour_37 : decode cX11_feedFour 37 = .ok (.iconst 1, 1) := by decide +kernel
theorem dX11_feedFour_38 : decode cX11_feedFour 38 = .ok (.iadd, 1) := by decide +kernel
theorem dX11_feedFour_39 : decode cX11_feedFour 39 = .ok (.putfield 13, 3) := by decide +kernel
theorem dX11_feedFour_42 : decode cX11_feedFour 42 = .ok (.iinc 2 (-8), 3) := by decide +kernel
theorem dX11_feedFour_45 : decode cX11_feedFour 45 = .ok (.goto (-42), 3) := by decide +kernel
theorem dX11_feedFour_48 : decode cX11_feedFour 48 = .ok (.return_, 1) := by decide +kernel
theorem dX11_text_0 : decode cX11_text 0 = .ok (.iload_n 1, 1) := by decide +kernel
theorem dX11_text_1 : decode cX11_text 1 = .ok (.invokestatic 109, 3) := by decide +kernel
theorem dX11_text_4 : decode cX11_text 4 = .ok (.iload_n 2, 1) := by decide +kernel
theorem dX11_text_5 : decode cX11_text 5 = .ok (.ifCond .lt 15, 3) := by decide +kernel
theorem dX11_text_8 : decode cX11_text 8 = .ok (.iload_n 2, 1) := by decide +kernel
theorem dX11_text_9 : decode cX11_text 9 = .ok (.aload_n 0, 1) := by decide +kernel
theorem dX11_text_10 : decode cX11_text 10 = .ok (.getfield 13, 3) := by decide +kernel
theorem dX11_text_13 : decode cX11_text 13 = .ok (.if_icmp .gt 7, 3) := by decide +kernel
theorem dX11_text_16 : decode cX11_text 16 = .ok (.iconst 1, 1) := by decide +kernel
theorem dX11_text_17 : decode cX11_text 17 = .ok (.goto 4, 3) := by decide +kernel
theorem dX11_text_20 : decode cX11_text 20 = .ok (.iconst 0, 1) := by decide +kernel
theorem dX11_text_21 : decode cX11_text 21 = .ok (.invokestatic 112, 3) := by decide +kernel
theorem dX11_text_24 : decode cX11_text 24 = .ok (.aload_n 0, 1) := by decide +kernel
theorem dX11_text_25 : decode cX11_text 25 = .ok (.iconst 0, 1) := by decide +kernel
theorem dX11_text_26 : decode cX11_text 26 = .ok (.putfield 13, 3) := by decide +kernel
theorem dX11_text_29 : decode cX11_text 29 = .ok (.aload_n 0, 1) := by decide +kernel
theorem dX11_text_30 : decode cX11_text 30 = .ok (.getfield 23, 3) := by decide +kernel
theorem dX11_text_33 : decode cX11_text 33 = .ok (.aload_n 0, 1) := by decide +kernel
theorem dX11_text_34 : decode cX11_text 34 = .ok (.getfield 7, 3) := by decide +kernel
theorem dX11_text_37 : decode cX11_text 37 = .ok (.iload_n 2, 1) := by decide +kernel
theorem dX11_text_38 : decode cX11_text 38 = .ok (.iload_n 1, 1) := by decide +kernel
theorem dX11_text_39 : decode cX11_text 39 = .ok (.invokevirtual 116, 3) := by decide +kernel
theorem dX11_text_42 : decode cX11_text 42 = .ok (.aload_n 0, 1) := by decide +kernel
theorem dX11_text_43 : decode cX11_text 43 = .ok (.getfield 23, 3) := by decide +kernel
theorem dX11_text_46 : decode cX11_text 46 = .ok (.getfield 120, 3) := by decide +kernel
theorem dX11_text_49 : decode cX11_text 49 = .ok (.ifCond .eq 22, 3) := by decide +kernel
theorem dX11_text_52 : decode cX11_text 52 = .ok (.aload_n 0, 1) := by decide +kernel
theorem dX11_text_53 : decode cX11_text 53 = .ok (.aload_n 0, 1) := by decide +kernel
theorem dX11_text_54 : decode cX11_text 54 = .ok (.getfield 23, 3) := by decide +kernel
theorem dX11_text_57 : decode cX11_text 57 = .ok (.getfield 120, 3) := by decide +kernel
theorem dX11_text_60 : decode cX11_text 60 = .ok (.aload_n 0, 1) := by decide +kernel
theorem dX11_text_61 : decode cX11_text 61 = .ok (.getfield 23, 3) := by decide +kernel
theorem dX11_text_64 : decode cX11_text 64 = .ok (.getfield 123, 3) := by decide +kernel
theorem dX11_text_67 : decode cX11_text 67 = .ok (.invokevirtual 126, 3) := by decide +kernel
theorem dX11_text_70 : decode cX11_text 70 = .ok (.ireturn, 1) := by decide +kernel
theorem dX11_text_71 : decode cX11_text 71 = .ok (.aload_n 0, 1) := by decide +kernel
theorem dX11_text_72 : decode cX11_text 72 = .ok (.invokevirtual 130, 3) := by decide +kernel
theorem dX11_text_75 : decode cX11_text 75 = .ok (.aload_n 0, 1) := by decide +kernel
theorem dX11_text_76 : decode cX11_text 76 = .ok (.getfield 30, 3) := by decide +kernel
theorem dX11_text_79 : decode cX11_text 79 = .ok (.aload_n 0, 1) := by decide +kernel
theorem dX11_text_80 : decode cX11_text 80 = .ok (.getfield 91, 3) := by decide +kernel
theorem dX11_text_83 : decode cX11_text 83 = .ok (.invokevirtual 133, 3) := by decide +kernel
theorem dX11_text_86 : decode cX11_text 86 = .ok (.ifCond .ne 23, 3) := by decide +kernel
theorem dX11_text_89 : decode cX11_text 89 = .ok (.aload_n 0, 1) := by decide +kernel
theorem dX11_text_90 : decode cX11_text 90 = .ok (.iconst 4, 1) := by decide +kernel
theorem dX11_text_91 : decode cX11_text 91 = .ok (.aload_n 0, 1) := by decide +kernel
theorem dX11_text_92 : decode cX11_text 92 = .ok (.getfield 23, 3) := by decide +kernel
theorem dX11_text_95 : decode cX11_text 95 = .ok (.aload_n 0, 1) := by decide +kernel
theorem dX11_text_96 : decode cX11_text 96 = .ok (.getfield 30, 3) := by decide +kernel
theorem dX11_text_99 : decode cX11_text 99 = .ok (.getfield 137, 3) := by decide +kernel
theorem dX11_text_102 : decode cX11_text 102 = .ok (.invokevirtual 140, 3) := by decide +kernel
theorem dX11_text_105 : decode cX11_text 105 = .ok (.invokevirtual 126, 3) := by decide +kernel
theorem dX11_text_108 : decode cX11_text 108 = .ok (.ireturn, 1) := by decide +kernel
theorem dX11_text_109 : decode cX11_text 109 = .ok (.aload_n 0, 1) := by decide +kernel
theorem dX11_text_110 : decode cX11_text 110 = .ok (.iconst (-1), 1) := by decide +kernel
theorem dX11_text_111 : decode cX11_text 111 = .ok (.putfield 17, 3) := by decide +kernel
theorem dX11_text_114 : decode cX11_text 114 = .ok (.aload_n 0, 1) := by decide +kernel
theorem dX11_text_115 : decode cX11_text 115 = .ok (.iload_n 1, 1) := by decide +kernel
theorem dX11_text_116 : decode cX11_text 116 = .ok (.invokevirtual 144, 3) := by decide +kernel
theorem dX11_text_119 : decode cX11_text 119 = .ok (.pop, 1) := by decide +kernel
theorem dX11_text_120 : decode cX11_text 120 = .ok (.iconst 0, 1) := by decide +kernel
theorem dX11_text_121 : decode cX11_text 121 = .ok (.ireturn, 1) := by decide +kernel
theorem dX11_refuseText_0 : decode cX11_refuseText 0 = .ok (.aload_n 0, 1) := by decide +kernel
theorem dX11_refuseText_1 : decode cX11_refuseText 1 = .ok (.iload_n 2, 1) := by decide +kernel
theorem dX11_refuseText_2 : decode cX11_refuseText 2 = .ok (.putfield 17, 3) := by decide +kernel
theorem dX11_refuseText_5 : decode cX11_refuseText 5 = .ok (.aload_n 0, 1) := by decide +kernel
theorem dX11_refuseText_6 : decode cX11_refuseText 6 = .ok (.getfield 98, 3) := by decide +kernel
theorem dX11_refuseText_9 : decode cX11_refuseText 9 = .ok (.getfield 147, 3) := by decide +kernel
theorem dX11_refuseText_12 : decode cX11_refuseText 12 = .ok (.iconst 0, 1) := by decide +kernel
theorem dX11_refuseText_13 : decode cX11_refuseText 13 = .ok (.dup2, 1) := by decide +kernel
theorem dX11_refuseText_14 : decode cX11_refuseText 14 = .ok (.iaload, 1) := by decide +kernel
theorem dX11_refuseText_15 : decode cX11_refuseText 15 = .ok (.iconst 1, 1) := by decide +kernel
theorem dX11_refuseText_16 : decode cX11_refuseText 16 = .ok (.iadd, 1) := by decide +kernel
theorem dX11_refuseText_17 : decode cX11_refuseText 17 = .ok (.iastore, 1) := by decide +kernel
theorem dX11_refuseText_18 : decode cX11_refuseText 18 = .ok (.iload_n 1, 1) := by decide +kernel
theorem dX11_refuseText_19 : decode cX11_refuseText 19 = .ok (.ireturn, 1) := by decide +kernel
theorem dX11_draftReadSteps_0 : decode cX11_draftReadSteps 0 = .ok (.aload_n 0, 1) := by decide +kernel
theorem dX11_draftReadSteps_1 : decode cX11_draftReadSteps 1 = .ok (.getfield 91, 3) := by decide +kernel
theorem dX11_draftReadSteps_4 : decode cX11_draftReadSteps 4 = .ok (.invokevirtual 150, 3) := by decide +kernel
theorem dX11_draftReadSteps_7 : decode cX11_draftReadSteps 7 = .ok (.iconst 0, 1) := by decide +kernel
theorem dX11_draftReadSteps_8 : decode cX11_draftReadSteps 8 = .ok (.istore_n 1, 1) := by decide +kernel
theorem dX11_draftReadSteps_9 : decode cX11_draftReadSteps 9 = .ok (.iload_n 1, 1) := by decide +kernel
theorem dX11_draftReadSteps_10 : decode cX11_draftReadSteps 10 = .ok (.aload_n 0, 1) := by decide +kernel
theorem dX11_draftReadSteps_11 : decode cX11_draftReadSteps 11 = .ok (.getfield 23, 3) := by decide +kernel
theorem dX11_draftReadSteps_14 : decode cX11_draftReadSteps 14 = .ok (.getfield 153, 3) := by decide +kernel
theorem dX11_draftReadSteps_17 : decode cX11_draftReadSteps 17 = .ok (.if_icmp .ge 54, 3) := by decide +kernel
theorem dX11_draftReadSteps_20 : decode cX11_draftReadSteps 20 = .ok (.iload_n 1, 1) := by decide +kernel
theorem dX11_draftReadSteps_21 : decode cX11_draftReadSteps 21 = .ok (.bipush 40, 2) := by decide +kernel
theorem dX11_draftReadSteps_23 : decode cX11_draftReadSteps 23 = .ok (.if_icmp .ge 48, 3) := by decide +kernel
theorem dX11_draftReadSteps_26 : decode cX11_draftReadSteps 26 = .ok (.aload_n 0, 1) := by decide +kernel
theorem dX11_draftReadSteps_27 : decode cX11_draftReadSteps 27 = .ok (.getfield 91, 3) := by decide +kernel
theorem dX11_draftReadSteps_30 : decode cX11_draftReadSteps 30 = .ok (.iload_n 1, 1) := by decide +kernel
theorem dX11_draftReadSteps_31 : decode cX11_draftReadSteps 31 = .ok (.aload_n 0, 1) := by decide +kernel
theorem dX11_draftReadSteps_32 : decode cX11_draftReadSteps 32 = .ok (.aload_n 0, 1) := by decide +kernel
theorem dX11_draftReadSteps_33 : decode cX11_draftReadSteps 33 = .ok (.getfield 23, 3) := by decide +kernel
theorem dX11_draftReadSteps_36 : decode cX11_draftReadSteps 36 = .ok (.getfield 156, 3) := by decide +kernel
theorem dX11_draftReadSteps_39 : decode cX11_draftReadSteps 39 = .ok (.iload_n 1, 1) := by decide +kernel
theorem dX11_draftReadSteps_40 : decode cX11_draftReadSteps 40 = .ok (.iaload, 1) := by decide +kernel
theorem dX11_draftReadSteps_41 : decode cX11_draftReadSteps 41 = .ok (.aload_n 0, 1) := by decide +kernel
theorem dX11_draftReadSteps_42 : decode cX11_draftReadSteps 42 = .ok (.getfield 23, 3) := by decide +kernel
theorem dX11_draftReadSteps_45 : decode cX11_draftReadSteps 45 = .ok (.getfield 159, 3) := by decide +kernel
theorem dX11_draftReadSteps_48 : decode cX11_draftReadSteps 48 = .ok (.iload_n 1, 1) := by decide +kernel
theorem dX11_draftReadSteps_49 : decode cX11_draftReadSteps 49 = .ok (.iaload, 1) := by decide +kernel
theorem dX11_draftReadSteps_50 : decode cX11_draftReadSteps 50 = .ok (.aload_n 0, 1) := by decide +kernel
theorem dX11_draftReadSteps_51 : decode cX11_draftReadSteps 51 = .ok (.getfield 23, 3) := by decide +kernel
theorem dX11_draftReadSteps_54 : decode cX11_draftReadSteps 54 = .ok (.getfield 162, 3) := by decide +kernel
theorem dX11_draftReadSteps_57 : decode cX11_draftReadSteps 57 = .ok (.iload_n 1, 1) := by decide +kernel
theorem dX11_draftReadSteps_58 : decode cX11_draftReadSteps 58 = .ok (.iaload, 1) := by decide +kernel
theorem dX11_draftReadSteps_59 : decode cX11_draftReadSteps 59 = .ok (.invokevirtual 165, 3) := by decide +kernel
theorem dX11_draftReadSteps_62 : decode cX11_draftReadSteps 62 = .ok (.invokevirtual 169, 3) := by decide +kernel
theorem dX11_draftReadSteps_65 : decode cX11_draftReadSteps 65 = .ok (.iinc 1 1, 3) := by decide +kernel
theorem dX11_draftReadSteps_68 : decode cX11_draftReadSteps 68 = .ok (.goto (-59), 3) := by decide +kernel
theorem dX11_draftReadSteps_71 : decode cX11_draftReadSteps 71 = .ok (.return_, 1) := by decide +kernel
theorem dX11_fault_0 : decode cX11_fault 0 = .ok (.aload_n 0, 1) := by decide +kernel
theorem dX11_fault_1 : decode cX11_fault 1 = .ok (.getfield 17, 3) := by decide +kernel
theorem dX11_fault_4 : decode cX11_fault 4 = .ok (.ireturn, 1) := by decide +kernel
theorem dX11_count_0 : decode cX11_count 0 = .ok (.iload_n 1, 1) := by decide +kernel
theorem dX11_count_1 : decode cX11_count 1 = .ok (.tableswitch 115 0 9 #[55, 55, 55, 55, 64, 72, 80, 85, 95, 105], 55) := by decide +kernel
theorem dX11_count_56 : decode cX11_count 56 = .ok (.aload_n 0, 1) := by decide +kernel
theorem dX11_count_57 : decode cX11_count 57 = .ok (.iload_n 1, 1) := by decide +kernel
theorem dX11_count_58 : decode cX11_count 58 = .ok (.invokevirtual 173, 3) := by decide +kernel
theorem dX11_count_61 : decode cX11_count 61 = .ok (.getfield 177, 3) := by decide +kernel
theorem dX11_count_64 : decode cX11_count 64 = .ok (.ireturn, 1) := by decide +kernel
theorem dX11_count_65 : decode cX11_count 65 = .ok (.aload_n 0, 1) := by decide +kernel
theorem dX11_count_66 : decode cX11_count 66 = .ok (.getfield 98, 3) := by decide +kernel
theorem dX11_count_69 : decode cX11_count 69 = .ok (.getfield 180, 3) := by decide +kernel
theorem dX11_count_72 : decode cX11_count 72 = .ok (.ireturn, 1) := by decide +kernel
theorem dX11_count_73 : decode cX11_count 73 = .ok (.aload_n 0, 1) := by decide +kernel
theorem dX11_count_74 : decode cX11_count 74 = .ok (.getfield 98, 3) := by decide +kernel
theorem dX11_count_77 : decode cX11_count 77 = .ok (.getfield 183, 3) := by decide +kernel
theorem dX11_count_80 : decode cX11_count 80 = .ok (.ireturn, 1) := by decide +kernel
theorem dX11_count_81 : decode cX11_count 81 = .ok (.aload_n 0, 1) := by decide +kernel
theorem dX11_count_82 : decode cX11_count 82 = .ok (.getfield 13, 3) := by decide +kernel
theorem dX11_count_85 : decode cX11_count 85 = .ok (.ireturn, 1) := by decide +kernel
theorem dX11_count_86 : decode cX11_count 86 = .ok (.aload_n 0, 1) := by decide +kernel
theorem dX11_count_87 : decode cX11_count 87 = .ok (.getfield 98, 3) := by decide +kernel
theorem dX11_count_90 : decode cX11_count 90 = .ok (.getfield 147, 3) := by decide +kernel
theorem dX11_count_93 : decode cX11_count 93 = .ok (.iconst 0, 1) := by decide +kernel
theorem dX11_count_94 : decode cX11_count 94 = .ok (.iaload, 1) := by decide +kernel
theorem dX11_count_95 : decode cX11_count 95 = .ok (.ireturn, 1) := by decide +kernel
theorem dX11_count_96 : decode cX11_count 96 = .ok (.aload_n 0, 1) := by decide +kernel
theorem dX11_count_97 : decode cX11_count 97 = .ok (.getfield 98, 3) := by decide +kernel
theorem dX11_count_100 : decode cX11_count 100 = .ok (.getfield 147, 3) := by decide +kernel
theorem dX11_count_103 : decode cX11_count 103 = .ok (.iconst 1, 1) := by decide +kernel
theorem dX11_count_104 : decode cX11_count 104 = .ok (.iaload, 1) := by decide +kernel
theorem dX11_count_105 : decode cX11_count 105 = .ok (.ireturn, 1) := by decide +kernel
theorem dX11_count_106 : decode cX11_count 106 = .ok (.aload_n 0, 1) := by decide +kernel
theorem dX11_count_107 : decode cX11_count 107 = .ok (.getfield 98, 3) := by decide +kernel
theorem dX11_count_110 : decode cX11_count 110 = .ok (.getfield 147, 3) := by decide +kernel
theorem dX11_count_113 : decode cX11_count 113 = .ok (.iconst 2, 1) := by decide +kernel
theorem dX11_count_114 : decode cX11_count 114 = .ok (.iaload, 1) := by decide +kernel
theorem dX11_count_115 : decode cX11_count 115 = .ok (.ireturn, 1) := by decide +kernel
theorem dX11_count_116 : decode cX11_count 116 = .ok (.new 186, 3) := by decide +kernel
theorem dX11_count_119 : decode cX11_count 119 = .ok (.dup, 1) := by decide +kernel
theorem dX11_count_120 : decode cX11_count 120 = .ok (.ldc 188, 2) := by decide +kernel
theorem dX11_count_122 : decode cX11_count 122 = .ok (.invokespecial 190, 3) := by decide +kernel
theorem dX11_count_125 : decode cX11_count 125 = .ok (.athrow, 1) := by decide +kernel
theorem dX11_step_0 : decode cX11_step 0 = .ok (.aload_n 0, 1) := by decide +kernel
theorem dX11_step_1 : decode cX11_step 1 = .ok (.iload_n 1, 1) := by decide +kernel
theorem dX11_step_2 : decode cX11_step 2 = .ok (.iload_n 2, 1) := by decide +kernel
theorem dX11_step_3 : decode cX11_step 3 = .ok (.invokevirtual 193, 3) := by decide +kernel
theorem dX11_step_6 : decode cX11_step 6 = .ok (.astore 4, 2) := by decide +kernel
theorem dX11_step_8 : decode cX11_step 8 = .ok (.iload_n 3, 1) := by decide +kernel
theorem dX11_step_9 : decode cX11_step 9 = .ok (.ifCond .lt 12, 3) := by decide +kernel
theorem dX11_step_12 : decode cX11_step 12 = .ok (.iload_n 3, 1) := by decide +kernel
theorem dX11_step_13 : decode cX11_step 13 = .ok (.iconst 2, 1) := by decide +kernel
theorem dX11_step_14 : decode cX11_step 14 = .ok (.if_icmp .gt 7, 3) := by decide +kernel
theorem dX11_step_17 : decode cX11_step 17 = .ok (.iconst 1, 1) := by decide +kernel
theorem dX11_step_18 : decode cX11_step 18 = .ok (.goto 4, 3) := by decide +kernel
theorem dX11_step_21 : decode cX11_step 21 = .ok (.iconst 0, 1) := by decide +kernel
theorem dX11_step_22 : decode cX11_step 22 = .ok (.invokestatic 197, 3) := by decide +kernel
theorem dX11_step_25 : decode cX11_step 25 = .ok (.iload_n 3, 1) := by decide +kernel
theorem dX11_step_26 : decode cX11_step 26 = .ok (.ifCond .ne 9, 3) := by decide +kernel
theorem dX11_step_29 : decode cX11_step 29 = .ok (.aload 4, 2) := by decide +kernel
theorem dX11_step_31 : decode cX11_step 31 = .ok (.getfield 200, 3) := by decide +kernel
theorem dX11_step_34 : decode cX11_step 34 = .ok (.ireturn, 1) := by decide +kernel
theorem dX11_step_35 : decode cX11_step 35 = .ok (.iload_n 3, 1) := by decide +kernel
theorem dX11_step_36 : decode cX11_step 36 = .ok (.iconst 1, 1) := by decide +kernel
theorem dX11_step_37 : decode cX11_step 37 = .ok (.if_icmp .ne 11, 3) := by decide +kernel
theorem dX11_step_40 : decode cX11_step 40 = .ok (.aload 4, 2) := by decide +kernel
theorem dX11_step_42 : decode cX11_step 42 = .ok (.getfield 205, 3) := by decide +kernel
theorem dX11_step_45 : decode cX11_step 45 = .ok (.goto 8, 3) := by decide +kernel
theorem dX11_step_48 : decode cX11_step 48 = .ok (.aload 4, 2) := by decide +kernel
theorem dX11_step_50 : decode cX11_step 50 = .ok (.getfield 208, 3) := by decide +kernel
theorem dX11_step_53 : decode cX11_step 53 = .ok (.ireturn, 1) := by decide +kernel
theorem dX11_at_0 : decode cX11_at 0 = .ok (.aload_n 0, 1) := by decide +kernel
theorem dX11_at_1 : decode cX11_at 1 = .ok (.iload_n 1, 1) := by decide +kernel
theorem dX11_at_2 : decode cX11_at 2 = .ok (.invokevirtual 211, 3) := by decide +kernel
theorem dX11_at_5 : decode cX11_at 5 = .ok (.astore_n 3, 1) := by decide +kernel
theorem dX11_at_6 : decode cX11_at 6 = .ok (.iload_n 2, 1) := by decide +kernel
theorem dX11_at_7 : decode cX11_at 7 = .ok (.invokestatic 215, 3) := by decide +kernel
theorem dX11_at_10 : decode cX11_at 10 = .ok (.aload_n 3, 1) := by decide +kernel
theorem dX11_at_11 : decode cX11_at 11 = .ok (.iload_n 2, 1) := by decide +kernel
theorem dX11_at_12 : decode cX11_at 12 = .ok (.invokevirtual 218, 3) := by decide +kernel
theorem dX11_at_15 : decode cX11_at 15 = .ok (.lreturn, 1) := by decide +kernel
theorem dX11_least_0 : decode cX11_least 0 = .ok (.aload_n 0, 1) := by decide +kernel
theorem dX11_least_1 : decode cX11_least 1 = .ok (.iload_n 1, 1) := by decide +kernel
theorem dX11_least_2 : decode cX11_least 2 = .ok (.invokevirtual 211, 3) := by decide +kernel
theorem dX11_least_5 : decode cX11_least 5 = .ok (.getfield 222, 3) := by decide +kernel
theorem dX11_least_8 : decode cX11_least 8 = .ok (.lreturn, 1) := by decide +kernel
theorem dX11_flat_0 : decode cX11_flat 0 = .ok (.aload_n 0, 1) := by decide +kernel
theorem dX11_flat_1 : decode cX11_flat 1 = .ok (.iload_n 1, 1) := by decide +kernel
theorem dX11_flat_2 : decode cX11_flat 2 = .ok (.invokevirtual 211, 3) := by decide +kernel
theorem dX11_flat_5 : decode cX11_flat 5 = .ok (.astore_n 3, 1) := by decide +kernel
theorem dX11_flat_6 : decode cX11_flat 6 = .ok (.iload_n 2, 1) := by decide +kernel
theorem dX11_flat_7 : decode cX11_flat 7 = .ok (.tableswitch 67 0 4 #[33, 42, 51, 57, 62], 33) := by decide +kernel
theorem dX11_flat_40 : decode cX11_flat 40 = .ok (.aload_n 3, 1) := by decide +kernel
theorem dX11_flat_41 : decode cX11_flat 41 = .ok (.iconst 0, 1) := by decide +kernel
theorem dX11_flat_42 : decode cX11_flat 42 = .ok (.invokevirtual 226, 3) := by decide +kernel
theorem dX11_flat_45 : decode cX11_flat 45 = .ok (.invokestatic 229, 3) := by decide +kernel
theorem dX11_flat_48 : decode cX11_flat 48 = .ok (.ireturn, 1) := by decide +kernel
theorem dX11_flat_49 : decode cX11_flat 49 = .ok (.aload_n 3, 1) := by decide +kernel
theorem dX11_flat_50 : decode cX11_flat 50 = .ok (.iconst 0, 1) := by decide +kernel
theorem dX11_flat_51 : decode cX11_flat 51 = .ok (.invokevirtual 232, 3) := by decide +kernel
theorem dX11_flat_54 : decode cX11_flat 54 = .ok (.invokestatic 229, 3) := by decide +kernel
theorem dX11_flat_57 : decode cX11_flat 57 = .ok (.ireturn, 1) := by decide +kernel
theorem dX11_flat_58 : decode cX11_flat 58 = .ok (.aload_n 3, 1) := by decide +kernel
theorem dX11_flat_59 : decode cX11_flat 59 = .ok (.iconst 0, 1) := by decide +kernel
theorem dX11_flat_60 : decode cX11_flat 60 = .ok (.invokevirtual 235, 3) := by decide +kernel
theorem dX11_flat_63 : decode cX11_flat 63 = .ok (.ireturn, 1) := by decide +kernel
theorem dX11_flat_64 : decode cX11_flat 64 = .ok (.aload_n 3, 1) := by decide +kernel
theorem dX11_flat_65 : decode cX11_flat 65 = .ok (.getfield 238, 3) := by decide +kernel
theorem dX11_flat_68 : decode cX11_flat 68 = .ok (.ireturn, 1) := by decide +kernel
theorem dX11_flat_69 : decode cX11_flat 69 = .ok (.aload_n 3, 1) := by decide +kernel
theorem dX11_flat_70 : decode cX11_flat 70 = .ok (.getfield 241, 3) := by decide +kernel
theorem dX11_flat_73 : decode cX11_flat 73 = .ok (.ireturn, 1) := by decide +kernel
theorem dX11_flat_74 : decode cX11_flat 74 = .ok (.new 186, 3) := by decide +kernel
theorem dX11_flat_77 : decode cX11_flat 77 = .ok (.dup, 1) := by decide +kernel
theorem dX11_flat_78 : decode cX11_flat 78 = .ok (.ldc 244, 2) := by decide +kernel
theorem dX11_flat_80 : decode cX11_flat 80 = .ok (.invokespecial 190, 3) := by decide +kernel
theorem dX11_flat_83 : decode cX11_flat 83 = .ok (.athrow, 1) := by decide +kernel
theorem dX11_kink_0 : decode cX11_kink 0 = .ok (.aload_n 0, 1) := by decide +kernel
theorem dX11_kink_1 : decode cX11_kink 1 = .ok (.iload_n 1, 1) := by decide +kernel
theorem dX11_kink_2 : decode cX11_kink 2 = .ok (.invokevirtual 211, 3) := by decide +kernel
theorem dX11_kink_5 : decode cX11_kink 5 = .ok (.astore 4, 2) := by decide +kernel
theorem dX11_kink_7 : decode cX11_kink 7 = .ok (.iload_n 2, 1) := by decide +kernel
theorem dX11_kink_8 : decode cX11_kink 8 = .ok (.ifCond .lt 25, 3) := by decide +kernel
theorem dX11_kink_11 : decode cX11_kink 11 = .ok (.iload_n 2, 1) := by decide +kernel
theorem dX11_kink_12 : decode cX11_kink 12 = .ok (.aload 4, 2) := by decide +kernel
theorem dX11_kink_14 : decode cX11_kink 14 = .ok (.getfield 238, 3) := by decide +kernel
theorem dX11_kink_17 : decode cX11_kink 17 = .ok (.if_icmp .ge 16, 3) := by decide +kernel
theorem dX11_kink_20 : decode cX11_kink 20 = .ok (.iload_n 3, 1) := by decide +kernel
theorem dX11_kink_21 : decode cX11_kink 21 = .ok (.ifCond .eq 8, 3) := by decide +kernel
theorem dX11_kink_24 : decode cX11_kink 24 = .ok (.iload_n 3, 1) := by decide +kernel
theorem dX11_kink_25 : decode cX11_kink 25 = .ok (.iconst 1, 1) := by decide +kernel
theorem dX11_kink_26 : decode cX11_kink 26 = .ok (.if_icmp .ne 7, 3) := by decide +kernel
theorem dX11_kink_29 : decode cX11_kink 29 = .ok (.iconst 1, 1) := by decide +kernel
theorem dX11_kink_30 : decode cX11_kink 30 = .ok (.goto 4, 3) := by decide +kernel
theorem dX11_kink_33 : decode cX11_kink 33 = .ok (.iconst 0, 1) := by decide +kernel
theorem dX11_kink_34 : decode cX11_kink 34 = .ok (.invokestatic 197, 3) := by decide +kernel
theorem dX11_kink_37 : decode cX11_kink 37 = .ok (.iload_n 3, 1) := by decide +kernel
theorem dX11_kink_38 : decode cX11_kink 38 = .ok (.ifCond .ne 12, 3) := by decide +kernel
theorem dX11_kink_41 : decode cX11_kink 41 = .ok (.aload 4, 2) := by decide +kernel
theorem dX11_kink_43 : decode cX11_kink 43 = .ok (.iload_n 2, 1) := by decide +kernel
theorem dX11_kink_44 : decode cX11_kink 44 = .ok (.invokevirtual 246, 3) := by decide +kernel
theorem dX11_kink_47 : decode cX11_kink 47 = .ok (.goto 9, 3) := by decide +kernel
theorem dX11_kink_50 : decode cX11_kink 50 = .ok (.aload 4, 2) := by decide +kernel
theorem dX11_kink_52 : decode cX11_kink 52 = .ok (.iload_n 2, 1) := by decide +kernel
theorem dX11_kink_53 : decode cX11_kink 53 = .ok (.invokevirtual 249, 3) := by decide +kernel
theorem dX11_kink_56 : decode cX11_kink 56 = .ok (.ireturn, 1) := by decide +kernel
theorem dX11_slope_0 : decode cX11_slope 0 = .ok (.aload_n 0, 1) := by decide +kernel
theorem dX11_slope_1 : decode cX11_slope 1 = .ok (.iload_n 1, 1) := by decide +kernel
theorem dX11_slope_2 : decode cX11_slope 2 = .ok (.invokevirtual 211, 3) := by decide +kernel
theorem dX11_slope_5 : decode cX11_slope 5 = .ok (.astore 4, 2) := by decide +kernel
theorem dX11_slope_7 : decode cX11_slope 7 = .ok (.iload_n 3, 1) := by decide +kernel
theorem dX11_slope_8 : decode cX11_slope 8 = .ok (.ifCond .eq 8, 3) := by decide +kernel
theorem dX11_slope_11 : decode cX11_slope 11 = .ok (.iload_n 3, 1) := by decide +kernel
theorem dX11_slope_12 : decode cX11_slope 12 = .ok (.iconst 1, 1) := by decide +kernel
theorem dX11_slope_13 : decode cX11_slope 13 = .ok (.if_icmp .ne 7, 3) := by decide +kernel
theorem dX11_slope_16 : decode cX11_slope 16 = .ok (.iconst 1, 1) := by decide +kernel
theorem dX11_slope_17 : decode cX11_slope 17 = .ok (.goto 4, 3) := by decide +kernel
theorem dX11_slope_20 : decode cX11_slope 20 = .ok (.iconst 0, 1) := by decide +kernel
theorem dX11_slope_21 : decode cX11_slope 21 = .ok (.invokestatic 197, 3) := by decide +kernel
theorem dX11_slope_24 : decode cX11_slope 24 = .ok (.iload_n 2, 1) := by decide +kernel
theorem dX11_slope_25 : decode cX11_slope 25 = .ok (.invokestatic 215, 3) := by decide +kernel
theorem dX11_slope_28 : decode cX11_slope 28 = .ok (.aload 4, 2) := by decide +kernel
theorem dX11_slope_30 : decode cX11_slope 30 = .ok (.iload_n 3, 1) := by decide +kernel
theorem dX11_slope_31 : decode cX11_slope 31 = .ok (.ifCond .ne 9, 3) := by decide +kernel
theorem dX11_slope_34 : decode cX11_slope 34 = .ok (.iload_n 2, 1) := by decide +kernel
theorem dX11_slope_35 : decode cX11_slope 35 = .ok (.iconst 1, 1) := by decide +kernel
theorem dX11_slope_36 : decode cX11_slope 36 = .ok (.isub, 1) := by decide +kernel
theorem dX11_slope_37 : decode cX11_slope 37 = .ok (.goto 4, 3) := by decide +kernel
theorem dX11_slope_40 : decode cX11_slope 40 = .ok (.iload_n 2, 1) := by decide +kernel
theorem dX11_slope_41 : decode cX11_slope 41 = .ok (.invokevirtual 252, 3) := by decide +kernel
theorem dX11_slope_44 : decode cX11_slope 44 = .ok (.ireturn, 1) := by decide +kernel
theorem dX11_path_0 : decode cX11_path 0 = .ok (.aload_n 0, 1) := by decide +kernel
theorem dX11_path_1 : decode cX11_path 1 = .ok (.iload_n 1, 1) := by decide +kernel
theorem dX11_path_2 : decode cX11_path 2 = .ok (.invokevirtual 173, 3) := by decide +kernel
theorem dX11_path_5 : decode cX11_path 5 = .ok (.astore 4, 2) := by decide +kernel
theorem dX11_path_7 : decode cX11_path 7 = .ok (.iload_n 3, 1) := by decide +kernel
theorem dX11_path_8 : decode cX11_path 8 = .ok (.ifCond .lt 16, 3) := by decide +kernel
theorem dX11_path_11 : decode cX11_path 11 = .ok (.iload_n 3, 1) := by decide +kernel
theorem dX11_path_12 : decode cX11_path 12 = .ok (.aload 4, 2) := by decide +kernel
theorem dX11_path_14 : decode cX11_path 14 = .ok (.getfield 177, 3) := by decide +kernel
theorem dX11_path_17 : decode cX11_path 17 = .ok (.if_icmp .gt 7, 3) := by decide +kernel
theorem dX11_path_20 : decode cX11_path 20 = .ok (.iconst 1, 1) := by decide +kernel
theorem dX11_path_21 : decode cX11_path 21 = .ok (.goto 4, 3) := by decide +kernel
theorem dX11_path_24 : decode cX11_path 24 = .ok (.iconst 0, 1) := by decide +kernel
theorem dX11_path_25 : decode cX11_path 25 = .ok (.invokestatic 197, 3) := by decide +kernel
theorem dX11_path_28 : decode cX11_path 28 = .ok (.iload_n 2, 1) := by decide +kernel
theorem dX11_path_29 : decode cX11_path 29 = .ok (.invokestatic 215, 3) := by decide +kernel
theorem dX11_path_32 : decode cX11_path 32 = .ok (.aload_n 0, 1) := by decide +kernel
theorem dX11_path_33 : decode cX11_path 33 = .ok (.getfield 44, 3) := by decide +kernel
theorem dX11_path_36 : decode cX11_path 36 = .ok (.aload 4, 2) := by decide +kernel
theorem dX11_path_38 : decode cX11_path 38 = .ok (.aload_n 0, 1) := by decide +kernel
theorem dX11_path_39 : decode cX11_path 39 = .ok (.getfield 30, 3) := by decide +kernel
theorem dX11_path_42 : decode cX11_path 42 = .ok (.invokevirtual 255, 3) := by decide +kernel
theorem dX11_path_45 : decode cX11_path 45 = .ok (.aload_n 0, 1) := by decide +kernel
theorem dX11_path_46 : decode cX11_path 46 = .ok (.getfield 44, 3) := by decide +kernel
theorem dX11_path_49 : decode cX11_path 49 = .ok (.iload_n 3, 1) := by decide +kernel
theorem dX11_path_50 : decode cX11_path 50 = .ok (.iload_n 2, 1) := by decide +kernel
theorem dX11_path_51 : decode cX11_path 51 = .ok (.invokevirtual 259, 3) := by decide +kernel
theorem dX11_path_54 : decode cX11_path 54 = .ok (.ireturn, 1) := by decide +kernel
theorem dX11_paid_0 : decode cX11_paid 0 = .ok (.aload_n 0, 1) := by decide +kernel
theorem dX11_paid_1 : decode cX11_paid 1 = .ok (.iload_n 1, 1) := by decide +kernel
theorem dX11_paid_2 : decode cX11_paid 2 = .ok (.iload_n 3, 1) := by decide +kernel
theorem dX11_paid_3 : decode cX11_paid 3 = .ok (.invokevirtual 193, 3) := by decide +kernel
theorem dX11_paid_6 : decode cX11_paid 6 = .ok (.astore 4, 2) := by decide +kernel
theorem dX11_paid_8 : decode cX11_paid 8 = .ok (.iload_n 2, 1) := by decide +kernel
theorem dX11_paid_9 : decode cX11_paid 9 = .ok (.invokestatic 215, 3) := by decide +kernel
theorem dX11_paid_12 : decode cX11_paid 12 = .ok (.aload_n 0, 1) := by decide +kernel
theorem dX11_paid_13 : decode cX11_paid 13 = .ok (.getfield 44, 3) := by decide +kernel
theorem dX11_paid_16 : decode cX11_paid 16 = .ok (.aload_n 0, 1) := by decide +kernel
theorem dX11_paid_17 : decode cX11_paid 17 = .ok (.iload_n 1, 1) := by decide +kernel
theorem dX11_paid_18 : decode cX11_paid 18 = .ok (.invokevirtual 173, 3) := by decide +kernel
theorem dX11_paid_21 : decode cX11_paid 21 = .ok (.aload_n 0, 1) := by decide +kernel
theorem dX11_paid_22 : decode cX11_paid 22 = .ok (.getfield 30, 3) := by decide +kernel
theorem dX11_paid_25 : decode cX11_paid 25 = .ok (.invokevirtual 255, 3) := by decide +kernel
theorem dX11_paid_28 : decode cX11_paid 28 = .ok (.aload_n 0, 1) := by decide +kernel
theorem dX11_paid_29 : decode cX11_paid 29 = .ok (.getfield 30, 3) := by decide +kernel
theorem dX11_paid_32 : decode cX11_paid 32 = .ok (.aload 4, 2) := by decide +kernel
theorem dX11_paid_34 : decode cX11_paid 34 = .ok (.aload_n 0, 1) := by decide +kernel
theorem dX11_paid_35 : decode cX11_paid 35 = .ok (.getfield 44, 3) := by decide +kernel
theorem dX11_paid_38 : decode cX11_paid 38 = .ok (.iload_n 3, 1) := by decide +kernel
theorem dX11_paid_39 : decode cX11_paid 39 = .ok (.iconst 1, 1) := by decide +kernel
