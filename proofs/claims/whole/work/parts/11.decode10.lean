theorem d_Lw_lasts_20 : decode method_8_code 20 = .ok (.iconst 1, 1) := by decide +kernel
theorem d_Lw_lasts_21 : decode method_8_code 21 = .ok (.ireturn, 1) := by decide +kernel
theorem d_Lw_lasts_22 : decode method_8_code 22 = .ok (.astore_n 3, 1) := by decide +kernel
theorem d_Lw_lasts_23 : decode method_8_code 23 = .ok (.iconst 2, 1) := by decide +kernel
theorem d_Lw_lasts_24 : decode method_8_code 24 = .ok (.ireturn, 1) := by decide +kernel
theorem d_Lw_lasts_25 : decode method_8_code 25 = .ok (.iconst 0, 1) := by decide +kernel
theorem d_Lw_lasts_26 : decode method_8_code 26 = .ok (.ireturn, 1) := by decide +kernel
theorem d_Lw_lasting_0 : decode method_9_code 0 = .ok (.aload_n 1, 1) := by decide +kernel
theorem d_Lw_lasting_1 : decode method_9_code 1 = .ok (.iconst 0, 1) := by decide +kernel
theorem d_Lw_lasting_2 : decode method_9_code 2 = .ok (.aload_n 0, 1) := by decide +kernel
theorem d_Lw_lasting_3 : decode method_9_code 3 = .ok (.invokevirtual 36, 3) := by decide +kernel
theorem d_Lw_lasting_6 : decode method_9_code 6 = .ok (.i2l, 1) := by decide +kernel
theorem d_Lw_lasting_7 : decode method_9_code 7 = .ok (.lastore, 1) := by decide +kernel
theorem d_Lw_lasting_8 : decode method_9_code 8 = .ok (.goto 6, 3) := by decide +kernel
theorem d_Lw_lasting_11 : decode method_9_code 11 = .ok (.astore_n 2, 1) := by decide +kernel
theorem d_Lw_lasting_12 : decode method_9_code 12 = .ok (.iconst 1, 1) := by decide +kernel
theorem d_Lw_lasting_13 : decode method_9_code 13 = .ok (.ireturn, 1) := by decide +kernel
theorem d_Lw_lasting_14 : decode method_9_code 14 = .ok (.iconst 0, 1) := by decide +kernel
theorem d_Lw_lasting_15 : decode method_9_code 15 = .ok (.ireturn, 1) := by decide +kernel
theorem d_Lw_promises_0 : decode method_10_code 0 = .ok (.aload_n 1, 1) := by decide +kernel
theorem d_Lw_promises_1 : decode method_10_code 1 = .ok (.iconst 0, 1) := by decide +kernel
theorem d_Lw_promises_2 : decode method_10_code 2 = .ok (.aload_n 0, 1) := by decide +kernel
theorem d_Lw_promises_3 : decode method_10_code 3 = .ok (.invokevirtual 39, 3) := by decide +kernel
theorem d_Lw_promises_6 : decode method_10_code 6 = .ok (.i2l, 1) := by decide +kernel
theorem d_Lw_promises_7 : decode method_10_code 7 = .ok (.lastore, 1) := by decide +kernel
theorem d_Lw_promises_8 : decode method_10_code 8 = .ok (.goto 6, 3) := by decide +kernel
theorem d_Lw_promises_11 : decode method_10_code 11 = .ok (.astore_n 2, 1) := by decide +kernel
theorem d_Lw_promises_12 : decode method_10_code 12 = .ok (.iconst 1, 1) := by decide +kernel
theorem d_Lw_promises_13 : decode method_10_code 13 = .ok (.ireturn, 1) := by decide +kernel
theorem d_Lw_promises_14 : decode method_10_code 14 = .ok (.iconst 0, 1) := by decide +kernel
theorem d_Lw_promises_15 : decode method_10_code 15 = .ok (.ireturn, 1) := by decide +kernel
theorem d_Lw_can_0 : decode method_11_code 0 = .ok (.aload_n 1, 1) := by decide +kernel
theorem d_Lw_can_1 : decode method_11_code 1 = .ok (.iconst 0, 1) := by decide +kernel
theorem d_Lw_can_2 : decode method_11_code 2 = .ok (.aload_n 0, 1) := by decide +kernel
theorem d_Lw_can_3 : decode method_11_code 3 = .ok (.invokevirtual 42, 3) := by decide +kernel
theorem d_Lw_can_6 : decode method_11_code 6 = .ok (.ifCond .eq 7, 3) := by decide +kernel
theorem d_Lw_can_9 : decode method_11_code 9 = .ok (.lconst 1, 1) := by decide +kernel
theorem d_Lw_can_10 : decode method_11_code 10 = .ok (.goto 4, 3) := by decide +kernel
theorem d_Lw_can_13 : decode method_11_code 13 = .ok (.lconst 0, 1) := by decide +kernel
theorem d_Lw_can_14 : decode method_11_code 14 = .ok (.lastore, 1) := by decide +kernel
theorem d_Lw_can_15 : decode method_11_code 15 = .ok (.goto 6, 3) := by decide +kernel
theorem d_Lw_can_18 : decode method_11_code 18 = .ok (.astore_n 2, 1) := by decide +kernel
theorem d_Lw_can_19 : decode method_11_code 19 = .ok (.iconst 1, 1) := by decide +kernel
theorem d_Lw_can_20 : decode method_11_code 20 = .ok (.ireturn, 1) := by decide +kernel
theorem d_Lw_can_21 : decode method_11_code 21 = .ok (.iconst 0, 1) := by decide +kernel
theorem d_Lw_can_22 : decode method_11_code 22 = .ok (.ireturn, 1) := by decide +kernel
theorem d_Lw_stem_0 : decode method_12_code 0 = .ok (.aload_n 1, 1) := by decide +kernel
theorem d_Lw_stem_1 : decode method_12_code 1 = .ok (.iconst 0, 1) := by decide +kernel
theorem d_Lw_stem_2 : decode method_12_code 2 = .ok (.aload_n 0, 1) := by decide +kernel
theorem d_Lw_stem_3 : decode method_12_code 3 = .ok (.invokevirtual 46, 3) := by decide +kernel
theorem d_Lw_stem_6 : decode method_12_code 6 = .ok (.i2l, 1) := by decide +kernel
theorem d_Lw_stem_7 : decode method_12_code 7 = .ok (.lastore, 1) := by decide +kernel
theorem d_Lw_stem_8 : decode method_12_code 8 = .ok (.goto 6, 3) := by decide +kernel
theorem d_Lw_stem_11 : decode method_12_code 11 = .ok (.astore_n 2, 1) := by decide +kernel
theorem d_Lw_stem_12 : decode method_12_code 12 = .ok (.iconst 1, 1) := by decide +kernel
theorem d_Lw_stem_13 : decode method_12_code 13 = .ok (.ireturn, 1) := by decide +kernel
theorem d_Lw_stem_14 : decode method_12_code 14 = .ok (.iconst 0, 1) := by decide +kernel
theorem d_Lw_stem_15 : decode method_12_code 15 = .ok (.ireturn, 1) := by decide +kernel
theorem d_Lw_loop_0 : decode method_13_code 0 = .ok (.aload_n 1, 1) := by decide +kernel
theorem d_Lw_loop_1 : decode method_13_code 1 = .ok (.iconst 0, 1) := by decide +kernel
theorem d_Lw_loop_2 : decode method_13_code 2 = .ok (.aload_n 0, 1) := by decide +kernel
theorem d_Lw_loop_3 : decode method_13_code 3 = .ok (.invokevirtual 49, 3) := by decide +kernel
theorem d_Lw_loop_6 : decode method_13_code 6 = .ok (.i2l, 1) := by decide +kernel
theorem d_Lw_loop_7 : decode method_13_code 7 = .ok (.lastore, 1) := by decide +kernel
theorem d_Lw_loop_8 : decode method_13_code 8 = .ok (.goto 6, 3) := by decide +kernel
theorem d_Lw_loop_11 : decode method_13_code 11 = .ok (.astore_n 2, 1) := by decide +kernel
theorem d_Lw_loop_12 : decode method_13_code 12 = .ok (.iconst 1, 1) := by decide +kernel
theorem d_Lw_loop_13 : decode method_13_code 13 = .ok (.ireturn, 1) := by decide +kernel
theorem d_Lw_loop_14 : decode method_13_code 14 = .ok (.iconst 0, 1) := by decide +kernel
theorem d_Lw_loop_15 : decode method_13_code 15 = .ok (.ireturn, 1) := by decide +kernel
theorem d_Lw_step_0 : decode method_14_code 0 = .ok (.aload_n 2, 1) := by decide +kernel
theorem d_Lw_step_1 : decode method_14_code 1 = .ok (.iconst 0, 1) := by decide +kernel
theorem d_Lw_step_2 : decode method_14_code 2 = .ok (.aload_n 0, 1) := by decide +kernel
theorem d_Lw_step_3 : decode method_14_code 3 = .ok (.iload_n 1, 1) := by decide +kernel
theorem d_Lw_step_4 : decode method_14_code 4 = .ok (.invokevirtual 52, 3) := by decide +kernel
theorem d_Lw_step_7 : decode method_14_code 7 = .ok (.i2l, 1) := by decide +kernel
theorem d_Lw_step_8 : decode method_14_code 8 = .ok (.lastore, 1) := by decide +kernel
theorem d_Lw_step_9 : decode method_14_code 9 = .ok (.goto 9, 3) := by decide +kernel
theorem d_Lw_step_12 : decode method_14_code 12 = .ok (.astore_n 3, 1) := by decide +kernel
theorem d_Lw_step_13 : decode method_14_code 13 = .ok (.iconst 1, 1) := by decide +kernel
theorem d_Lw_step_14 : decode method_14_code 14 = .ok (.ireturn, 1) := by decide +kernel
theorem d_Lw_step_15 : decode method_14_code 15 = .ok (.astore_n 3, 1) := by decide +kernel
theorem d_Lw_step_16 : decode method_14_code 16 = .ok (.iconst 2, 1) := by decide +kernel
theorem d_Lw_step_17 : decode method_14_code 17 = .ok (.ireturn, 1) := by decide +kernel
theorem d_Lw_step_18 : decode method_14_code 18 = .ok (.iconst 0, 1) := by decide +kernel
theorem d_Lw_step_19 : decode method_14_code 19 = .ok (.ireturn, 1) := by decide +kernel
theorem d_Lw_shape_0 : decode method_15_code 0 = .ok (.aload_n 0, 1) := by decide +kernel
theorem d_Lw_shape_1 : decode method_15_code 1 = .ok (.iload_n 1, 1) := by decide +kernel
theorem d_Lw_shape_2 : decode method_15_code 2 = .ok (.iload_n 2, 1) := by decide +kernel
theorem d_Lw_shape_3 : decode method_15_code 3 = .ok (.invokevirtual 56, 3) := by decide +kernel
theorem d_Lw_shape_6 : decode method_15_code 6 = .ok (.goto 6, 3) := by decide +kernel
theorem d_Lw_shape_9 : decode method_15_code 9 = .ok (.astore_n 3, 1) := by decide +kernel
theorem d_Lw_shape_10 : decode method_15_code 10 = .ok (.iconst 1, 1) := by decide +kernel
theorem d_Lw_shape_11 : decode method_15_code 11 = .ok (.ireturn, 1) := by decide +kernel
theorem d_Lw_shape_12 : decode method_15_code 12 = .ok (.iconst 0, 1) := by decide +kernel
theorem d_Lw_shape_13 : decode method_15_code 13 = .ok (.ireturn, 1) := by decide +kernel
theorem d_Lw_set_0 : decode method_16_code 0 = .ok (.aload_n 3, 1) := by decide +kernel
theorem d_Lw_set_1 : decode method_16_code 1 = .ok (.iconst 0, 1) := by decide +kernel
theorem d_Lw_set_2 : decode method_16_code 2 = .ok (.aload_n 0, 1) := by decide +kernel
theorem d_Lw_set_3 : decode method_16_code 3 = .ok (.iload_n 1, 1) := by decide +kernel
theorem d_Lw_set_4 : decode method_16_code 4 = .ok (.iload_n 2, 1) := by decide +kernel
theorem d_Lw_set_5 : decode method_16_code 5 = .ok (.invokevirtual 60, 3) := by decide +kernel
theorem d_Lw_set_8 : decode method_16_code 8 = .ok (.i2l, 1) := by decide +kernel
theorem d_Lw_set_9 : decode method_16_code 9 = .ok (.lastore, 1) := by decide +kernel
theorem d_Lw_set_10 : decode method_16_code 10 = .ok (.goto 7, 3) := by decide +kernel
theorem d_Lw_set_13 : decode method_16_code 13 = .ok (.astore 4, 2) := by decide +kernel
theorem d_Lw_set_15 : decode method_16_code 15 = .ok (.iconst 1, 1) := by decide +kernel
theorem d_Lw_set_16 : decode method_16_code 16 = .ok (.ireturn, 1) := by decide +kernel
theorem d_Lw_set_17 : decode method_16_code 17 = .ok (.iconst 0, 1) := by decide +kernel
theorem d_Lw_set_18 : decode method_16_code 18 = .ok (.ireturn, 1) := by decide +kernel
theorem d_Lw_adopt_0 : decode method_17_code 0 = .ok (.aload_n 1, 1) := by decide +kernel
theorem d_Lw_adopt_1 : decode method_17_code 1 = .ok (.iconst 0, 1) := by decide +kernel
theorem d_Lw_adopt_2 : decode method_17_code 2 = .ok (.aload_n 0, 1) := by decide +kernel
theorem d_Lw_adopt_3 : decode method_17_code 3 = .ok (.invokevirtual 64, 3) := by decide +kernel
theorem d_Lw_adopt_6 : decode method_17_code 6 = .ok (.ifCond .eq 7, 3) := by decide +kernel
theorem d_Lw_adopt_9 : decode method_17_code 9 = .ok (.lconst 1, 1) := by decide +kernel
theorem d_Lw_adopt_10 : decode method_17_code 10 = .ok (.goto 4, 3) := by decide +kernel
theorem d_Lw_adopt_13 : decode method_17_code 13 = .ok (.lconst 0, 1) := by decide +kernel
theorem d_Lw_adopt_14 : decode method_17_code 14 = .ok (.lastore, 1) := by decide +kernel
theorem d_Lw_adopt_15 : decode method_17_code 15 = .ok (.goto 6, 3) := by decide +kernel
theorem d_Lw_adopt_18 : decode method_17_code 18 = .ok (.astore_n 2, 1) := by decide +kernel
theorem d_Lw_adopt_19 : decode method_17_code 19 = .ok (.iconst 1, 1) := by decide +kernel
theorem d_Lw_adopt_20 : decode method_17_code 20 = .ok (.ireturn, 1) := by decide +kernel
theorem d_Lw_adopt_21 : decode method_17_code 21 = .ok (.iconst 0, 1) := by decide +kernel
theorem d_Lw_adopt_22 : decode method_17_code 22 = .ok (.ireturn, 1) := by decide +kernel
theorem d_Lw_letter_0 : decode method_18_code 0 = .ok (.aload_n 2, 1) := by decide +kernel
theorem d_Lw_letter_1 : decode method_18_code 1 = .ok (.iconst 0, 1) := by decide +kernel
theorem d_Lw_letter_2 : decode method_18_code 2 = .ok (.aload_n 0, 1) := by decide +kernel
theorem d_Lw_letter_3 : decode method_18_code 3 = .ok (.iload_n 1, 1) := by decide +kernel
theorem d_Lw_letter_4 : decode method_18_code 4 = .ok (.invokevirtual 67, 3) := by decide +kernel
theorem d_Lw_letter_7 : decode method_18_code 7 = .ok (.i2l, 1) := by decide +kernel
theorem d_Lw_letter_8 : decode method_18_code 8 = .ok (.lastore, 1) := by decide +kernel
theorem d_Lw_letter_9 : decode method_18_code 9 = .ok (.goto 6, 3) := by decide +kernel
theorem d_Lw_letter_12 : decode method_18_code 12 = .ok (.astore_n 3, 1) := by decide +kernel
theorem d_Lw_letter_13 : decode method_18_code 13 = .ok (.iconst 1, 1) := by decide +kernel
theorem d_Lw_letter_14 : decode method_18_code 14 = .ok (.ireturn, 1) := by decide +kernel
theorem d_Lw_letter_15 : decode method_18_code 15 = .ok (.iconst 0, 1) := by decide +kernel
theorem d_Lw_letter_16 : decode method_18_code 16 = .ok (.ireturn, 1) := by decide +kernel
theorem d_Lw_holds_0 : decode method_19_code 0 = .ok (.aload_n 2, 1) := by decide +kernel
theorem d_Lw_holds_1 : decode method_19_code 1 = .ok (.iconst 0, 1) := by decide +kernel
theorem d_Lw_holds_2 : decode method_19_code 2 = .ok (.aload_n 0, 1) := by decide +kernel
theorem d_Lw_holds_3 : decode method_19_code 3 = .ok (.iload_n 1, 1) := by decide +kernel
theorem d_Lw_holds_4 : decode method_19_code 4 = .ok (.invokevirtual 70, 3) := by decide +kernel
theorem d_Lw_holds_7 : decode method_19_code 7 = .ok (.ifCond .eq 7, 3) := by decide +kernel
theorem d_Lw_holds_10 : decode method_19_code 10 = .ok (.lconst 1, 1) := by decide +kernel
theorem d_Lw_holds_11 : decode method_19_code 11 = .ok (.goto 4, 3) := by decide +kernel
theorem d_Lw_holds_14 : decode method_19_code 14 = .ok (.lconst 0, 1) := by decide +kernel
theorem d_Lw_holds_15 : decode method_19_code 15 = .ok (.lastore, 1) := by decide +kernel
theorem d_Lw_holds_16 : decode method_19_code 16 = .ok (.goto 9, 3) := by decide +kernel
theorem d_Lw_holds_19 : decode method_19_code 19 = .ok (.astore_n 3, 1) := by decide +kernel
theorem d_Lw_holds_20 : decode method_19_code 20 = .ok (.iconst 1, 1) := by decide +kernel
theorem d_Lw_holds_21 : decode method_19_code 21 = .ok (.ireturn, 1) := by decide +kernel
theorem d_Lw_holds_22 : decode method_19_code 22 = .ok (.astore_n 3, 1) := by decide +kernel
theorem d_Lw_holds_23 : decode method_19_code 23 = .ok (.iconst 2, 1) := by decide +kernel
theorem d_Lw_holds_24 : decode method_19_code 24 = .ok (.ireturn, 1) := by decide +kernel
theorem d_Lw_holds_25 : decode method_19_code 25 = .ok (.iconst 0, 1) := by decide +kernel
theorem d_Lw_holds_26 : decode method_19_code 26 = .ok (.ireturn, 1) := by decide +kernel
theorem d_Lw_law_0 : decode code 0 = .ok (.new 8, 3) := by decide +kernel
theorem d_Lw_law_3 : decode code 3 = .ok (.dup, 1) := by decide +kernel
theorem d_Lw_law_4 : decode code 4 = .ok (.invokespecial 73, 3) := by decide +kernel
theorem d_Lw_law_7 : decode code 7 = .ok (.astore_n 1, 1) := by decide +kernel
theorem d_Lw_law_8 : decode code 8 = .ok (.new 74, 3) := by decide +kernel
theorem d_Lw_law_11 : decode code 11 = .ok (.dup, 1) := by decide +kernel
theorem d_Lw_law_12 : decode code 12 = .ok (.invokespecial 76, 3) := by decide +kernel
theorem d_Lw_law_15 : decode code 15 = .ok (.astore_n 2, 1) := by decide +kernel
theorem d_Lw_law_16 : decode code 16 = .ok (.iconst 1, 1) := by decide +kernel
theorem d_Lw_law_17 : decode code 17 = .ok (.newarray .long, 2) := by decide +kernel
theorem d_Lw_law_19 : decode code 19 = .ok (.astore_n 3, 1) := by decide +kernel
theorem d_Lw_law_20 : decode code 20 = .ok (.iconst 0, 1) := by decide +kernel
theorem d_Lw_law_21 : decode code 21 = .ok (.istore 4, 2) := by decide +kernel
theorem d_Lw_law_23 : decode code 23 = .ok (.iload 4, 2) := by decide +kernel
theorem d_Lw_law_25 : decode code 25 = .ok (.aload_n 0, 1) := by decide +kernel
theorem d_Lw_law_26 : decode code 26 = .ok (.arraylength, 1) := by decide +kernel
theorem d_Lw_law_27 : decode code 27 = .ok (.iconst 3, 1) := by decide +kernel
theorem d_Lw_law_28 : decode code 28 = .ok (.isub, 1) := by decide +kernel
theorem d_Lw_law_29 : decode code 29 = .ok (.if_icmp .gt 1018, 3) := by decide +kernel
theorem d_Lw_law_32 : decode code 32 = .ok (.aload_n 0, 1) := by decide +kernel
theorem d_Lw_law_33 : decode code 33 = .ok (.iload 4, 2) := by decide +kernel
theorem d_Lw_law_35 : decode code 35 = .ok (.iaload, 1) := by decide +kernel
theorem d_Lw_law_36 : decode code 36 = .ok (.bipush 31, 2) := by decide +kernel
theorem d_Lw_law_38 : decode code 38 = .ok (.iand, 1) := by decide +kernel
theorem d_Lw_law_39 : decode code 39 = .ok (.tableswitch 1002 0 16 #[81, 144, 188, 232, 295, 370, 433, 477, 521, 572, 616, 660, 716, 764, 832, 883, 939], 81) := by decide +kernel
theorem d_Lw_law_120 : decode code 120 = .ok (.aload_n 1, 1) := by decide +kernel
theorem d_Lw_law_121 : decode code 121 = .ok (.aload_n 0, 1) := by decide +kernel
theorem d_Lw_law_122 : decode code 122 = .ok (.iload 4, 2) := by decide +kernel
theorem d_Lw_law_124 : decode code 124 = .ok (.iconst 1, 1) := by decide +kernel
theorem d_Lw_law_125 : decode code 125 = .ok (.iadd, 1) := by decide +kernel
theorem d_Lw_law_126 : decode code 126 = .ok (.iaload, 1) := by decide +kernel
theorem d_Lw_law_127 : decode code 127 = .ok (.aload_n 3, 1) := by decide +kernel
theorem d_Lw_law_128 : decode code 128 = .ok (.invokestatic 77, 3) := by decide +kernel
theorem d_Lw_law_131 : decode code 131 = .ok (.istore 5, 2) := by decide +kernel
theorem d_Lw_law_133 : decode code 133 = .ok (.aload_n 2, 1) := by decide +kernel
theorem d_Lw_law_134 : decode code 134 = .ok (.aload_n 0, 1) := by decide +kernel
theorem d_Lw_law_135 : decode code 135 = .ok (.iload 4, 2) := by decide +kernel
theorem d_Lw_law_137 : decode code 137 = .ok (.iconst 1, 1) := by decide +kernel
theorem d_Lw_law_138 : decode code 138 = .ok (.iadd, 1) := by decide +kernel
theorem d_Lw_law_139 : decode code 139 = .ok (.iaload, 1) := by decide +kernel
theorem d_Lw_law_140 : decode code 140 = .ok (.invokevirtual 82, 3) := by decide +kernel
theorem d_Lw_law_143 : decode code 143 = .ok (.istore 6, 2) := by decide +kernel
theorem d_Lw_law_145 : decode code 145 = .ok (.aload_n 2, 1) := by decide +kernel
theorem d_Lw_law_146 : decode code 146 = .ok (.invokevirtual 83, 3) := by decide +kernel
theorem d_Lw_law_149 : decode code 149 = .ok (.iload 5, 2) := by decide +kernel
theorem d_Lw_law_151 : decode code 151 = .ok (.if_icmp .eq 5, 3) := by decide +kernel
theorem d_Lw_law_154 : decode code 154 = .ok (.iconst 0, 1) := by decide +kernel
theorem d_Lw_law_155 : decode code 155 = .ok (.ireturn, 1) := by decide +kernel
theorem d_Lw_law_156 : decode code 156 = .ok (.iload 5, 2) := by decide +kernel
theorem d_Lw_law_158 : decode code 158 = .ok (.ifCond .ne 22, 3) := by decide +kernel
theorem d_Lw_law_161 : decode code 161 = .ok (.aload_n 3, 1) := by decide +kernel
theorem d_Lw_law_162 : decode code 162 = .ok (.iconst 0, 1) := by decide +kernel
theorem d_Lw_law_163 : decode code 163 = .ok (.laload, 1) := by decide +kernel
theorem d_Lw_law_164 : decode code 164 = .ok (.iload 6, 2) := by decide +kernel
theorem d_Lw_law_166 : decode code 166 = .ok (.ifCond .eq 7, 3) := by decide +kernel
theorem d_Lw_law_169 : decode code 169 = .ok (.lconst 1, 1) := by decide +kernel
theorem d_Lw_law_170 : decode code 170 = .ok (.goto 4, 3) := by decide +kernel
theorem d_Lw_law_173 : decode code 173 = .ok (.lconst 0, 1) := by decide +kernel
theorem d_Lw_law_174 : decode code 174 = .ok (.lcmp, 1) := by decide +kernel
theorem d_Lw_law_175 : decode code 175 = .ok (.ifCond .eq 5, 3) := by decide +kernel
theorem d_Lw_law_178 : decode code 178 = .ok (.iconst 0, 1) := by decide +kernel
theorem d_Lw_law_179 : decode code 179 = .ok (.ireturn, 1) := by decide +kernel
theorem d_Lw_law_180 : decode code 180 = .ok (.goto 861, 3) := by decide +kernel
theorem d_Lw_law_183 : decode code 183 = .ok (.aload_n 1, 1) := by decide +kernel
theorem d_Lw_law_184 : decode code 184 = .ok (.aload_n 3, 1) := by decide +kernel
theorem d_Lw_law_185 : decode code 185 = .ok (.invokestatic 86, 3) := by decide +kernel
theorem d_Lw_law_188 : decode code 188 = .ok (.istore 5, 2) := by decide +kernel
theorem d_Lw_law_190 : decode code 190 = .ok (.aload_n 2, 1) := by decide +kernel
theorem d_Lw_law_191 : decode code 191 = .ok (.invokevirtual 89, 3) := by decide +kernel
theorem d_Lw_law_194 : decode code 194 = .ok (.istore 6, 2) := by decide +kernel
theorem d_Lw_law_196 : decode code 196 = .ok (.aload_n 2, 1) := by decide +kernel
theorem d_Lw_law_197 : decode code 197 = .ok (.invokevirtual 83, 3) := by decide +kernel
theorem d_Lw_law_200 : decode code 200 = .ok (.iload 5, 2) := by decide +kernel
theorem d_Lw_law_202 : decode code 202 = .ok (.if_icmp .eq 5, 3) := by decide +kernel
theorem d_Lw_law_205 : decode code 205 = .ok (.iconst 0, 1) := by decide +kernel
theorem d_Lw_law_206 : decode code 206 = .ok (.ireturn, 1) := by decide +kernel
theorem d_Lw_law_207 : decode code 207 = .ok (.iload 5, 2) := by decide +kernel
theorem d_Lw_law_209 : decode code 209 = .ok (.ifCond .ne 15, 3) := by decide +kernel
theorem d_Lw_law_212 : decode code 212 = .ok (.aload_n 3, 1) := by decide +kernel
theorem d_Lw_law_213 : decode code 213 = .ok (.iconst 0, 1) := by decide +kernel
theorem d_Lw_law_214 : decode code 214 = .ok (.laload, 1) := by decide +kernel
theorem d_Lw_law_215 : decode code 215 = .ok (.iload 6, 2) := by decide +kernel
theorem d_Lw_law_217 : decode code 217 = .ok (.i2l, 1) := by decide +kernel
theorem d_Lw_law_218 : decode code 218 = .ok (.lcmp, 1) := by decide +kernel
theorem d_Lw_law_219 : decode code 219 = .ok (.ifCond .eq 5, 3) := by decide +kernel
theorem d_Lw_law_222 : decode code 222 = .ok (.iconst 0, 1) := by decide +kernel
theorem d_Lw_law_223 : decode code 223 = .ok (.ireturn, 1) := by decide +kernel
theorem d_Lw_law_224 : decode code 224 = .ok (.goto 817, 3) := by decide +kernel
theorem d_Lw_law_227 : decode code 227 = .ok (.aload_n 1, 1) := by decide +kernel
theorem d_Lw_law_228 : decode code 228 = .ok (.aload_n 3, 1) := by decide +kernel
theorem d_Lw_law_229 : decode code 229 = .ok (.invokestatic 90, 3) := by decide +kernel
theorem d_Lw_law_232 : decode code 232 = .ok (.istore 5, 2) := by decide +kernel
theorem d_Lw_law_234 : decode code 234 = .ok (.aload_n 2, 1) := by decide +kernel
theorem d_Lw_law_235 : decode code 235 = .ok (.invokevirtual 92, 3) := by decide +kernel
theorem d_Lw_law_238 : decode code 238 = .ok (.istore 6, 2) := by decide +kernel
theorem d_Lw_law_240 : decode code 240 = .ok (.aload_n 2, 1) := by decide +kernel
theorem d_Lw_law_241 : decode code 241 = .ok (.invokevirtual 83, 3) := by decide +kernel
theorem d_Lw_law_244 : decode code 244 = .ok (.iload 5, 2) := by decide +kernel
theorem d_Lw_law_246 : decode code 246 = .ok (.if_icmp .eq 5, 3) := by decide +kernel
theorem d_Lw_law_249 : decode code 249 = .ok (.iconst 0, 1) := by decide +kernel
theorem d_Lw_law_250 : decode code 250 = .ok (.ireturn, 1) := by decide +kernel
theorem d_Lw_law_251 : decode code 251 = .ok (.iload 5, 2) := by decide +kernel
theorem d_Lw_law_253 : decode code 253 = .ok (.ifCond .ne 15, 3) := by decide +kernel
theorem d_Lw_law_256 : decode code 256 = .ok (.aload_n 3, 1) := by decide +kernel
theorem d_Lw_law_257 : decode code 257 = .ok (.iconst 0, 1) := by decide +kernel
theorem d_Lw_law_258 : decode code 258 = .ok (.laload, 1) := by decide +kernel
theorem d_Lw_law_259 : decode code 259 = .ok (.iload 6, 2) := by decide +kernel
theorem d_Lw_law_261 : decode code 261 = .ok (.i2l, 1) := by decide +kernel
theorem d_Lw_law_262 : decode code 262 = .ok (.lcmp, 1) := by decide +kernel
theorem d_Lw_law_263 : decode code 263 = .ok (.ifCond .eq 5, 3) := by decide +kernel
theorem d_Lw_law_266 : decode code 266 = .ok (.iconst 0, 1) := by decide +kernel
theorem d_Lw_law_267 : decode code 267 = .ok (.ireturn, 1) := by decide +kernel
theorem d_Lw_law_268 : decode code 268 = .ok (.goto 773, 3) := by decide +kernel
theorem d_Lw_law_271 : decode code 271 = .ok (.aload_n 1, 1) := by decide +kernel
theorem d_Lw_law_272 : decode code 272 = .ok (.aload_n 0, 1) := by decide +kernel
theorem d_Lw_law_273 : decode code 273 = .ok (.iload 4, 2) := by decide +kernel
theorem d_Lw_law_275 : decode code 275 = .ok (.iconst 1, 1) := by decide +kernel
theorem d_Lw_law_276 : decode code 276 = .ok (.iadd, 1) := by decide +kernel
theorem d_Lw_law_277 : decode code 277 = .ok (.iaload, 1) := by decide +kernel
theorem d_Lw_law_278 : decode code 278 = .ok (.aload_n 3, 1) := by decide +kernel
theorem d_Lw_law_279 : decode code 279 = .ok (.invokestatic 93, 3) := by decide +kernel
theorem d_Lw_law_282 : decode code 282 = .ok (.istore 5, 2) := by decide +kernel
theorem d_Lw_law_284 : decode code 284 = .ok (.aload_n 2, 1) := by decide +kernel
theorem d_Lw_law_285 : decode code 285 = .ok (.aload_n 0, 1) := by decide +kernel
theorem d_Lw_law_286 : decode code 286 = .ok (.iload 4, 2) := by decide +kernel
theorem d_Lw_law_288 : decode code 288 = .ok (.iconst 1, 1) := by decide +kernel
theorem d_Lw_law_289 : decode code 289 = .ok (.iadd, 1) := by decide +kernel
theorem d_Lw_law_290 : decode code 290 = .ok (.iaload, 1) := by decide +kernel
theorem d_Lw_law_291 : decode code 291 = .ok (.invokevirtual 95, 3) := by decide +kernel
theorem d_Lw_law_294 : decode code 294 = .ok (.istore 6, 2) := by decide +kernel
theorem d_Lw_law_296 : decode code 296 = .ok (.aload_n 2, 1) := by decide +kernel
theorem d_Lw_law_297 : decode code 297 = .ok (.invokevirtual 83, 3) := by decide +kernel
theorem d_Lw_law_300 : decode code 300 = .ok (.iload 5, 2) := by decide +kernel
theorem d_Lw_law_302 : decode code 302 = .ok (.if_icmp .eq 5, 3) := by decide +kernel
theorem d_Lw_law_305 : decode code 305 = .ok (.iconst 0, 1) := by decide +kernel
theorem d_Lw_law_306 : decode code 306 = .ok (.ireturn, 1) := by decide +kernel
theorem d_Lw_law_307 : decode code 307 = .ok (.iload 5, 2) := by decide +kernel
theorem d_Lw_law_309 : decode code 309 = .ok (.ifCond .ne 22, 3) := by decide +kernel
theorem d_Lw_law_312 : decode code 312 = .ok (.aload_n 3, 1) := by decide +kernel
theorem d_Lw_law_313 : decode code 313 = .ok (.iconst 0, 1) := by decide +kernel
theorem d_Lw_law_314 : decode code 314 = .ok (.laload, 1) := by decide +kernel
theorem d_Lw_law_315 : decode code 315 = .ok (.iload 6, 2) := by decide +kernel
theorem d_Lw_law_317 : decode code 317 = .ok (.ifCond .eq 7, 3) := by decide +kernel
theorem d_Lw_law_320 : decode code 320 = .ok (.lconst 1, 1) := by decide +kernel
theorem d_Lw_law_321 : decode code 321 = .ok (.goto 4, 3) := by decide +kernel
theorem d_Lw_law_324 : decode code 324 = .ok (.lconst 0, 1) := by decide +kernel
theorem d_Lw_law_325 : decode code 325 = .ok (.lcmp, 1) := by decide +kernel
theorem d_Lw_law_326 : decode code 326 = .ok (.ifCond .eq 5, 3) := by decide +kernel
theorem d_Lw_law_329 : decode code 329 = .ok (.iconst 0, 1) := by decide +kernel
theorem d_Lw_law_330 : decode code 330 = .ok (.ireturn, 1) := by decide +kernel
theorem d_Lw_law_331 : decode code 331 = .ok (.goto 710, 3) := by decide +kernel
theorem d_Lw_law_334 : decode code 334 = .ok (.aload_n 1, 1) := by decide +kernel
theorem d_Lw_law_335 : decode code 335 = .ok (.aload_n 0, 1) := by decide +kernel
theorem d_Lw_law_336 : decode code 336 = .ok (.iload 4, 2) := by decide +kernel
theorem d_Lw_law_338 : decode code 338 = .ok (.iconst 1, 1) := by decide +kernel
theorem d_Lw_law_339 : decode code 339 = .ok (.iadd, 1) := by decide +kernel
theorem d_Lw_law_340 : decode code 340 = .ok (.iaload, 1) := by decide +kernel
theorem d_Lw_law_341 : decode code 341 = .ok (.aload_n 0, 1) := by decide +kernel
theorem d_Lw_law_342 : decode code 342 = .ok (.iload 4, 2) := by decide +kernel
theorem d_Lw_law_344 : decode code 344 = .ok (.iconst 2, 1) := by decide +kernel
theorem d_Lw_law_345 : decode code 345 = .ok (.iadd, 1) := by decide +kernel
theorem d_Lw_law_346 : decode code 346 = .ok (.iaload, 1) := by decide +kernel
theorem d_Lw_law_347 : decode code 347 = .ok (.aload_n 3, 1) := by decide +kernel
theorem d_Lw_law_348 : decode code 348 = .ok (.invokestatic 96, 3) := by decide +kernel
theorem d_Lw_law_351 : decode code 351 = .ok (.istore 5, 2) := by decide +kernel
theorem d_Lw_law_353 : decode code 353 = .ok (.aload_n 2, 1) := by decide +kernel
theorem d_Lw_law_354 : decode code 354 = .ok (.aload_n 0, 1) := by decide +kernel
theorem d_Lw_law_355 : decode code 355 = .ok (.iload 4, 2) := by decide +kernel
theorem d_Lw_law_357 : decode code 357 = .ok (.iconst 1, 1) := by decide +kernel
theorem d_Lw_law_358 : decode code 358 = .ok (.iadd, 1) := by decide +kernel
theorem d_Lw_law_359 : decode code 359 = .ok (.iaload, 1) := by decide +kernel
theorem d_Lw_law_360 : decode code 360 = .ok (.aload_n 0, 1) := by decide +kernel
theorem d_Lw_law_361 : decode code 361 = .ok (.iload 4, 2) := by decide +kernel
theorem d_Lw_law_363 : decode code 363 = .ok (.iconst 2, 1) := by decide +kernel
theorem d_Lw_law_364 : decode code 364 = .ok (.iadd, 1) := by decide +kernel
theorem d_Lw_law_365 : decode code 365 = .ok (.iaload, 1) := by decide +kernel
theorem d_Lw_law_366 : decode code 366 = .ok (.invokevirtual 99, 3) := by decide +kernel
theorem d_Lw_law_369 : decode code 369 = .ok (.istore 6, 2) := by decide +kernel
theorem d_Lw_law_371 : decode code 371 = .ok (.aload_n 2, 1) := by decide +kernel
theorem d_Lw_law_372 : decode code 372 = .ok (.invokevirtual 83, 3) := by decide +kernel
theorem d_Lw_law_375 : decode code 375 = .ok (.iload 5, 2) := by decide +kernel
theorem d_Lw_law_377 : decode code 377 = .ok (.if_icmp .eq 5, 3) := by decide +kernel
theorem d_Lw_law_380 : decode code 380 = .ok (.iconst 0, 1) := by decide +kernel
theorem d_Lw_law_381 : decode code 381 = .ok (.ireturn, 1) := by decide +kernel
theorem d_Lw_law_382 : decode code 382 = .ok (.iload 5, 2) := by decide +kernel
theorem d_Lw_law_384 : decode code 384 = .ok (.ifCond .ne 22, 3) := by decide +kernel
theorem d_Lw_law_387 : decode code 387 = .ok (.aload_n 3, 1) := by decide +kernel
theorem d_Lw_law_388 : decode code 388 = .ok (.iconst 0, 1) := by decide +kernel
theorem d_Lw_law_389 : decode code 389 = .ok (.laload, 1) := by decide +kernel
theorem d_Lw_law_390 : decode code 390 = .ok (.iload 6, 2) := by decide +kernel
theorem d_Lw_law_392 : decode code 392 = .ok (.ifCond .eq 7, 3) := by decide +kernel
theorem d_Lw_law_395 : decode code 395 = .ok (.lconst 1, 1) := by decide +kernel
theorem d_Lw_law_396 : decode code 396 = .ok (.goto 4, 3) := by decide +kernel
theorem d_Lw_law_399 : decode code 399 = .ok (.lconst 0, 1) := by decide +kernel
theorem d_Lw_law_400 : decode code 400 = .ok (.lcmp, 1) := by decide +kernel
theorem d_Lw_law_401 : decode code 401 = .ok (.ifCond .eq 5, 3) := by decide +kernel
theorem d_Lw_law_404 : decode code 404 = .ok (.iconst 0, 1) := by decide +kernel
theorem d_Lw_law_405 : decode code 405 = .ok (.ireturn, 1) := by decide +kernel
theorem d_Lw_law_406 : decode code 406 = .ok (.goto 635, 3) := by decide +kernel
theorem d_Lw_law_409 : decode code 409 = .ok (.aload_n 1, 1) := by decide +kernel
theorem d_Lw_law_410 : decode code 410 = .ok (.aload_n 0, 1) := by decide +kernel
theorem d_Lw_law_411 : decode code 411 = .ok (.iload 4, 2) := by decide +kernel
theorem d_Lw_law_413 : decode code 413 = .ok (.iconst 1, 1) := by decide +kernel
theorem d_Lw_law_414 : decode code 414 = .ok (.iadd, 1) := by decide +kernel
theorem d_Lw_law_415 : decode code 415 = .ok (.iaload, 1) := by decide +kernel
theorem d_Lw_law_416 : decode code 416 = .ok (.aload_n 3, 1) := by decide +kernel
theorem d_Lw_law_417 : decode code 417 = .ok (.invokestatic 100, 3) := by decide +kernel
theorem d_Lw_law_420 : decode code 420 = .ok (.istore 5, 2) := by decide +kernel
theorem d_Lw_law_422 : decode code 422 = .ok (.aload_n 2, 1) := by decide +kernel
theorem d_Lw_law_423 : decode code 423 = .ok (.aload_n 0, 1) := by decide +kernel
theorem d_Lw_law_424 : decode code 424 = .ok (.iload 4, 2) := by decide +kernel
theorem d_Lw_law_426 : decode code 426 = .ok (.iconst 1, 1) := by decide +kernel
theorem d_Lw_law_427 : decode code 427 = .ok (.iadd, 1) := by decide +kernel
theorem d_Lw_law_428 : decode code 428 = .ok (.iaload, 1) := by decide +kernel
theorem d_Lw_law_429 : decode code 429 = .ok (.invokevirtual 102, 3) := by decide +kernel
theorem d_Lw_law_432 : decode code 432 = .ok (.istore 6, 2) := by decide +kernel
theorem d_Lw_law_434 : decode code 434 = .ok (.aload_n 2, 1) := by decide +kernel
theorem d_Lw_law_435 : decode code 435 = .ok (.invokevirtual 83, 3) := by decide +kernel
theorem d_Lw_law_438 : decode code 438 = .ok (.iload 5, 2) := by decide +kernel
theorem d_Lw_law_440 : decode code 440 = .ok (.if_icmp .eq 5, 3) := by decide +kernel
theorem d_Lw_law_443 : decode code 443 = .ok (.iconst 0, 1) := by decide +kernel
theorem d_Lw_law_444 : decode code 444 = .ok (.ireturn, 1) := by decide +kernel
theorem d_Lw_law_445 : decode code 445 = .ok (.iload 5, 2) := by decide +kernel
theorem d_Lw_law_447 : decode code 447 = .ok (.ifCond .ne 22, 3) := by decide +kernel
theorem d_Lw_law_450 : decode code 450 = .ok (.aload_n 3, 1) := by decide +kernel
theorem d_Lw_law_451 : decode code 451 = .ok (.iconst 0, 1) := by decide +kernel
theorem d_Lw_law_452 : decode code 452 = .ok (.laload, 1) := by decide +kernel
theorem d_Lw_law_453 : decode code 453 = .ok (.iload 6, 2) := by decide +kernel
theorem d_Lw_law_455 : decode code 455 = .ok (.ifCond .eq 7, 3) := by decide +kernel
theorem d_Lw_law_458 : decode code 458 = .ok (.lconst 1, 1) := by decide +kernel
theorem d_Lw_law_459 : decode code 459 = .ok (.goto 4, 3) := by decide +kernel
theorem d_Lw_law_462 : decode code 462 = .ok (.lconst 0, 1) := by decide +kernel
theorem d_Lw_law_463 : decode code 463 = .ok (.lcmp, 1) := by decide +kernel
theorem d_Lw_law_464 : decode code 464 = .ok (.ifCond .eq 5, 3) := by decide +kernel
theorem d_Lw_law_467 : decode code 467 = .ok (.iconst 0, 1) := by decide +kernel
theorem d_Lw_law_468 : decode code 468 = .ok (.ireturn, 1) := by decide +kernel
theorem d_Lw_law_469 : decode code 469 = .ok (.goto 572, 3) := by decide +kernel
theorem d_Lw_law_472 : decode code 472 = .ok (.aload_n 1, 1) := by decide +kernel
theorem d_Lw_law_473 : decode code 473 = .ok (.aload_n 3, 1) := by decide +kernel
theorem d_Lw_law_474 : decode code 474 = .ok (.invokestatic 103, 3) := by decide +kernel
theorem d_Lw_law_477 : decode code 477 = .ok (.istore 5, 2) := by decide +kernel
theorem d_Lw_law_479 : decode code 479 = .ok (.aload_n 2, 1) := by decide +kernel
theorem d_Lw_law_480 : decode code 480 = .ok (.invokevirtual 105, 3) := by decide +kernel
