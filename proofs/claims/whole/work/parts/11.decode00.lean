theorem d_D_type_0 : decode prog_1_method_2_code 0 = .ok (.iload_n 1, 1) := by decide +kernel
theorem d_D_type_1 : decode prog_1_method_2_code 1 = .ok (.invokestatic 54, 3) := by decide +kernel
theorem d_D_type_4 : decode prog_1_method_2_code 4 = .ok (.istore_n 2, 1) := by decide +kernel
theorem d_D_type_5 : decode prog_1_method_2_code 5 = .ok (.iload_n 1, 1) := by decide +kernel
theorem d_D_type_6 : decode prog_1_method_2_code 6 = .ok (.iload_n 2, 1) := by decide +kernel
theorem d_D_type_7 : decode prog_1_method_2_code 7 = .ok (.invokestatic 58, 3) := by decide +kernel
theorem d_D_type_10 : decode prog_1_method_2_code 10 = .ok (.ifCond .ne 13, 3) := by decide +kernel
theorem d_D_type_13 : decode prog_1_method_2_code 13 = .ok (.new 62, 3) := by decide +kernel
theorem d_D_type_16 : decode prog_1_method_2_code 16 = .ok (.dup, 1) := by decide +kernel
theorem d_D_type_17 : decode prog_1_method_2_code 17 = .ok (.ldc 64, 2) := by decide +kernel
theorem d_D_type_19 : decode prog_1_method_2_code 19 = .ok (.invokespecial 66, 3) := by decide +kernel
theorem d_D_type_22 : decode prog_1_method_2_code 22 = .ok (.athrow, 1) := by decide +kernel
theorem d_D_type_23 : decode prog_1_method_2_code 23 = .ok (.aload_n 0, 1) := by decide +kernel
theorem d_D_type_24 : decode prog_1_method_2_code 24 = .ok (.getfield 12, 3) := by decide +kernel
theorem d_D_type_27 : decode prog_1_method_2_code 27 = .ok (.iload_n 1, 1) := by decide +kernel
theorem d_D_type_28 : decode prog_1_method_2_code 28 = .ok (.iload_n 2, 1) := by decide +kernel
theorem d_D_type_29 : decode prog_1_method_2_code 29 = .ok (.invokevirtual 69, 3) := by decide +kernel
theorem d_D_type_32 : decode prog_1_method_2_code 32 = .ok (.ireturn, 1) := by decide +kernel
theorem d_D_formula_0 : decode prog_1_method_3_code 0 = .ok (.aload_n 0, 1) := by decide +kernel
theorem d_D_formula_1 : decode prog_1_method_3_code 1 = .ok (.getfield 12, 3) := by decide +kernel
theorem d_D_formula_4 : decode prog_1_method_3_code 4 = .ok (.aload_n 0, 1) := by decide +kernel
theorem d_D_formula_5 : decode prog_1_method_3_code 5 = .ok (.getfield 44, 3) := by decide +kernel
theorem d_D_formula_8 : decode prog_1_method_3_code 8 = .ok (.invokevirtual 72, 3) := by decide +kernel
theorem d_D_formula_11 : decode prog_1_method_3_code 11 = .ok (.istore_n 1, 1) := by decide +kernel
theorem d_D_formula_12 : decode prog_1_method_3_code 12 = .ok (.aload_n 0, 1) := by decide +kernel
theorem d_D_formula_13 : decode prog_1_method_3_code 13 = .ok (.getfield 12, 3) := by decide +kernel
theorem d_D_formula_16 : decode prog_1_method_3_code 16 = .ok (.invokevirtual 76, 3) := by decide +kernel
theorem d_D_formula_19 : decode prog_1_method_3_code 19 = .ok (.iload_n 1, 1) := by decide +kernel
theorem d_D_formula_20 : decode prog_1_method_3_code 20 = .ok (.ifCond .ne 13, 3) := by decide +kernel
theorem d_D_formula_23 : decode prog_1_method_3_code 23 = .ok (.new 62, 3) := by decide +kernel
theorem d_D_formula_26 : decode prog_1_method_3_code 26 = .ok (.dup, 1) := by decide +kernel
theorem d_D_formula_27 : decode prog_1_method_3_code 27 = .ok (.ldc 79, 2) := by decide +kernel
theorem d_D_formula_29 : decode prog_1_method_3_code 29 = .ok (.invokespecial 66, 3) := by decide +kernel
theorem d_D_formula_32 : decode prog_1_method_3_code 32 = .ok (.athrow, 1) := by decide +kernel
theorem d_D_formula_33 : decode prog_1_method_3_code 33 = .ok (.aload_n 0, 1) := by decide +kernel
theorem d_D_formula_34 : decode prog_1_method_3_code 34 = .ok (.getfield 40, 3) := by decide +kernel
theorem d_D_formula_37 : decode prog_1_method_3_code 37 = .ok (.astore_n 2, 1) := by decide +kernel
theorem d_D_formula_38 : decode prog_1_method_3_code 38 = .ok (.aload_n 0, 1) := by decide +kernel
theorem d_D_formula_39 : decode prog_1_method_3_code 39 = .ok (.aload_n 0, 1) := by decide +kernel
theorem d_D_formula_40 : decode prog_1_method_3_code 40 = .ok (.getfield 44, 3) := by decide +kernel
theorem d_D_formula_43 : decode prog_1_method_3_code 43 = .ok (.putfield 40, 3) := by decide +kernel
theorem d_D_formula_46 : decode prog_1_method_3_code 46 = .ok (.aload_n 0, 1) := by decide +kernel
theorem d_D_formula_47 : decode prog_1_method_3_code 47 = .ok (.aload_n 2, 1) := by decide +kernel
theorem d_D_formula_48 : decode prog_1_method_3_code 48 = .ok (.putfield 44, 3) := by decide +kernel
theorem d_D_formula_51 : decode prog_1_method_3_code 51 = .ok (.aload_n 0, 1) := by decide +kernel
theorem d_D_formula_52 : decode prog_1_method_3_code 52 = .ok (.iconst 1, 1) := by decide +kernel
theorem d_D_formula_53 : decode prog_1_method_3_code 53 = .ok (.putfield 47, 3) := by decide +kernel
theorem d_D_formula_56 : decode prog_1_method_3_code 56 = .ok (.aload_n 0, 1) := by decide +kernel
theorem d_D_formula_57 : decode prog_1_method_3_code 57 = .ok (.iconst 0, 1) := by decide +kernel
theorem d_D_formula_58 : decode prog_1_method_3_code 58 = .ok (.putfield 51, 3) := by decide +kernel
theorem d_D_formula_61 : decode prog_1_method_3_code 61 = .ok (.aload_n 0, 1) := by decide +kernel
theorem d_D_formula_62 : decode prog_1_method_3_code 62 = .ok (.getfield 40, 3) := by decide +kernel
theorem d_D_formula_65 : decode prog_1_method_3_code 65 = .ok (.invokevirtual 81, 3) := by decide +kernel
theorem d_D_formula_68 : decode prog_1_method_3_code 68 = .ok (.ireturn, 1) := by decide +kernel
theorem d_D_states_0 : decode prog_1_method_4_code 0 = .ok (.aload_n 0, 1) := by decide +kernel
theorem d_D_states_1 : decode prog_1_method_4_code 1 = .ok (.invokevirtual 85, 3) := by decide +kernel
theorem d_D_states_4 : decode prog_1_method_4_code 4 = .ok (.aload_n 0, 1) := by decide +kernel
theorem d_D_states_5 : decode prog_1_method_4_code 5 = .ok (.getfield 40, 3) := by decide +kernel
theorem d_D_states_8 : decode prog_1_method_4_code 8 = .ok (.invokevirtual 88, 3) := by decide +kernel
theorem d_D_states_11 : decode prog_1_method_4_code 11 = .ok (.ireturn, 1) := by decide +kernel
theorem d_D_isAt_0 : decode prog_1_method_5_code 0 = .ok (.aload_n 0, 1) := by decide +kernel
theorem d_D_isAt_1 : decode prog_1_method_5_code 1 = .ok (.invokevirtual 85, 3) := by decide +kernel
theorem d_D_isAt_4 : decode prog_1_method_5_code 4 = .ok (.aload_n 0, 1) := by decide +kernel
theorem d_D_isAt_5 : decode prog_1_method_5_code 5 = .ok (.iload_n 1, 1) := by decide +kernel
theorem d_D_isAt_6 : decode prog_1_method_5_code 6 = .ok (.invokevirtual 91, 3) := by decide +kernel
theorem d_D_isAt_9 : decode prog_1_method_5_code 9 = .ok (.aload_n 0, 1) := by decide +kernel
theorem d_D_isAt_10 : decode prog_1_method_5_code 10 = .ok (.getfield 40, 3) := by decide +kernel
theorem d_D_isAt_13 : decode prog_1_method_5_code 13 = .ok (.aload_n 0, 1) := by decide +kernel
theorem d_D_isAt_14 : decode prog_1_method_5_code 14 = .ok (.getfield 40, 3) := by decide +kernel
theorem d_D_isAt_17 : decode prog_1_method_5_code 17 = .ok (.iload_n 1, 1) := by decide +kernel
theorem d_D_isAt_18 : decode prog_1_method_5_code 18 = .ok (.invokevirtual 95, 3) := by decide +kernel
theorem d_D_isAt_21 : decode prog_1_method_5_code 21 = .ok (.invokevirtual 98, 3) := by decide +kernel
theorem d_D_isAt_24 : decode prog_1_method_5_code 24 = .ok (.ireturn, 1) := by decide +kernel
theorem d_D_leads_0 : decode prog_1_method_6_code 0 = .ok (.aload_n 0, 1) := by decide +kernel
theorem d_D_leads_1 : decode prog_1_method_6_code 1 = .ok (.invokevirtual 85, 3) := by decide +kernel
theorem d_D_leads_4 : decode prog_1_method_6_code 4 = .ok (.aload_n 0, 1) := by decide +kernel
theorem d_D_leads_5 : decode prog_1_method_6_code 5 = .ok (.iload_n 1, 1) := by decide +kernel
theorem d_D_leads_6 : decode prog_1_method_6_code 6 = .ok (.invokevirtual 91, 3) := by decide +kernel
theorem d_D_leads_9 : decode prog_1_method_6_code 9 = .ok (.aload_n 0, 1) := by decide +kernel
theorem d_D_leads_10 : decode prog_1_method_6_code 10 = .ok (.iload_n 2, 1) := by decide +kernel
theorem d_D_leads_11 : decode prog_1_method_6_code 11 = .ok (.invokevirtual 91, 3) := by decide +kernel
theorem d_D_leads_14 : decode prog_1_method_6_code 14 = .ok (.iload_n 1, 1) := by decide +kernel
theorem d_D_leads_15 : decode prog_1_method_6_code 15 = .ok (.iconst 3, 1) := by decide +kernel
theorem d_D_leads_16 : decode prog_1_method_6_code 16 = .ok (.ishr, 1) := by decide +kernel
theorem d_D_leads_17 : decode prog_1_method_6_code 17 = .ok (.aload_n 0, 1) := by decide +kernel
theorem d_D_leads_18 : decode prog_1_method_6_code 18 = .ok (.getfield 40, 3) := by decide +kernel
theorem d_D_leads_21 : decode prog_1_method_6_code 21 = .ok (.aload_n 0, 1) := by decide +kernel
theorem d_D_leads_22 : decode prog_1_method_6_code 22 = .ok (.getfield 40, 3) := by decide +kernel
theorem d_D_leads_25 : decode prog_1_method_6_code 25 = .ok (.iload_n 2, 1) := by decide +kernel
theorem d_D_leads_26 : decode prog_1_method_6_code 26 = .ok (.invokevirtual 95, 3) := by decide +kernel
theorem d_D_leads_29 : decode prog_1_method_6_code 29 = .ok (.invokevirtual 102, 3) := by decide +kernel
theorem d_D_leads_32 : decode prog_1_method_6_code 32 = .ok (.if_icmp .ne 7, 3) := by decide +kernel
theorem d_D_leads_35 : decode prog_1_method_6_code 35 = .ok (.iconst 1, 1) := by decide +kernel
theorem d_D_leads_36 : decode prog_1_method_6_code 36 = .ok (.goto 4, 3) := by decide +kernel
theorem d_D_leads_39 : decode prog_1_method_6_code 39 = .ok (.iconst 0, 1) := by decide +kernel
theorem d_D_leads_40 : decode prog_1_method_6_code 40 = .ok (.ireturn, 1) := by decide +kernel
theorem d_D_lasts_0 : decode prog_1_method_7_code 0 = .ok (.aload_n 0, 1) := by decide +kernel
theorem d_D_lasts_1 : decode prog_1_method_7_code 1 = .ok (.invokevirtual 85, 3) := by decide +kernel
theorem d_D_lasts_4 : decode prog_1_method_7_code 4 = .ok (.aload_n 0, 1) := by decide +kernel
theorem d_D_lasts_5 : decode prog_1_method_7_code 5 = .ok (.iload_n 1, 1) := by decide +kernel
theorem d_D_lasts_6 : decode prog_1_method_7_code 6 = .ok (.invokevirtual 91, 3) := by decide +kernel
theorem d_D_lasts_9 : decode prog_1_method_7_code 9 = .ok (.aload_n 0, 1) := by decide +kernel
theorem d_D_lasts_10 : decode prog_1_method_7_code 10 = .ok (.invokevirtual 105, 3) := by decide +kernel
theorem d_D_lasts_13 : decode prog_1_method_7_code 13 = .ok (.aload_n 0, 1) := by decide +kernel
theorem d_D_lasts_14 : decode prog_1_method_7_code 14 = .ok (.getfield 19, 3) := by decide +kernel
theorem d_D_lasts_17 : decode prog_1_method_7_code 17 = .ok (.iload_n 1, 1) := by decide +kernel
theorem d_D_lasts_18 : decode prog_1_method_7_code 18 = .ok (.invokevirtual 108, 3) := by decide +kernel
theorem d_D_lasts_21 : decode prog_1_method_7_code 21 = .ok (.ireturn, 1) := by decide +kernel
theorem d_D_lasting_0 : decode prog_1_method_8_code 0 = .ok (.aload_n 0, 1) := by decide +kernel
theorem d_D_lasting_1 : decode prog_1_method_8_code 1 = .ok (.invokevirtual 85, 3) := by decide +kernel
theorem d_D_lasting_4 : decode prog_1_method_8_code 4 = .ok (.aload_n 0, 1) := by decide +kernel
theorem d_D_lasting_5 : decode prog_1_method_8_code 5 = .ok (.invokevirtual 105, 3) := by decide +kernel
theorem d_D_lasting_8 : decode prog_1_method_8_code 8 = .ok (.aload_n 0, 1) := by decide +kernel
theorem d_D_lasting_9 : decode prog_1_method_8_code 9 = .ok (.getfield 19, 3) := by decide +kernel
theorem d_D_lasting_12 : decode prog_1_method_8_code 12 = .ok (.invokevirtual 111, 3) := by decide +kernel
theorem d_D_lasting_15 : decode prog_1_method_8_code 15 = .ok (.ireturn, 1) := by decide +kernel
theorem d_D_promises_0 : decode prog_1_method_9_code 0 = .ok (.aload_n 0, 1) := by decide +kernel
theorem d_D_promises_1 : decode prog_1_method_9_code 1 = .ok (.invokevirtual 85, 3) := by decide +kernel
theorem d_D_promises_4 : decode prog_1_method_9_code 4 = .ok (.aload_n 0, 1) := by decide +kernel
theorem d_D_promises_5 : decode prog_1_method_9_code 5 = .ok (.getfield 40, 3) := by decide +kernel
theorem d_D_promises_8 : decode prog_1_method_9_code 8 = .ok (.invokevirtual 112, 3) := by decide +kernel
theorem d_D_promises_11 : decode prog_1_method_9_code 11 = .ok (.ireturn, 1) := by decide +kernel
theorem d_D_can_0 : decode prog_1_method_10_code 0 = .ok (.aload_n 0, 1) := by decide +kernel
theorem d_D_can_1 : decode prog_1_method_10_code 1 = .ok (.invokevirtual 85, 3) := by decide +kernel
theorem d_D_can_4 : decode prog_1_method_10_code 4 = .ok (.aload_n 0, 1) := by decide +kernel
theorem d_D_can_5 : decode prog_1_method_10_code 5 = .ok (.invokevirtual 105, 3) := by decide +kernel
theorem d_D_can_8 : decode prog_1_method_10_code 8 = .ok (.aload_n 0, 1) := by decide +kernel
theorem d_D_can_9 : decode prog_1_method_10_code 9 = .ok (.getfield 26, 3) := by decide +kernel
theorem d_D_can_12 : decode prog_1_method_10_code 12 = .ok (.invokevirtual 115, 3) := by decide +kernel
theorem d_D_can_15 : decode prog_1_method_10_code 15 = .ok (.ireturn, 1) := by decide +kernel
theorem d_D_stem_0 : decode prog_1_method_11_code 0 = .ok (.aload_n 0, 1) := by decide +kernel
theorem d_D_stem_1 : decode prog_1_method_11_code 1 = .ok (.invokevirtual 85, 3) := by decide +kernel
theorem d_D_stem_4 : decode prog_1_method_11_code 4 = .ok (.aload_n 0, 1) := by decide +kernel
theorem d_D_stem_5 : decode prog_1_method_11_code 5 = .ok (.invokevirtual 105, 3) := by decide +kernel
theorem d_D_stem_8 : decode prog_1_method_11_code 8 = .ok (.aload_n 0, 1) := by decide +kernel
theorem d_D_stem_9 : decode prog_1_method_11_code 9 = .ok (.getfield 26, 3) := by decide +kernel
theorem d_D_stem_12 : decode prog_1_method_11_code 12 = .ok (.invokevirtual 119, 3) := by decide +kernel
theorem d_D_stem_15 : decode prog_1_method_11_code 15 = .ok (.ireturn, 1) := by decide +kernel
theorem d_D_loop_0 : decode prog_1_method_12_code 0 = .ok (.aload_n 0, 1) := by decide +kernel
theorem d_D_loop_1 : decode prog_1_method_12_code 1 = .ok (.invokevirtual 85, 3) := by decide +kernel
theorem d_D_loop_4 : decode prog_1_method_12_code 4 = .ok (.aload_n 0, 1) := by decide +kernel
theorem d_D_loop_5 : decode prog_1_method_12_code 5 = .ok (.invokevirtual 105, 3) := by decide +kernel
theorem d_D_loop_8 : decode prog_1_method_12_code 8 = .ok (.aload_n 0, 1) := by decide +kernel
theorem d_D_loop_9 : decode prog_1_method_12_code 9 = .ok (.getfield 26, 3) := by decide +kernel
theorem d_D_loop_12 : decode prog_1_method_12_code 12 = .ok (.invokevirtual 122, 3) := by decide +kernel
theorem d_D_loop_15 : decode prog_1_method_12_code 15 = .ok (.ireturn, 1) := by decide +kernel
theorem d_D_step_0 : decode prog_1_method_13_code 0 = .ok (.aload_n 0, 1) := by decide +kernel
theorem d_D_step_1 : decode prog_1_method_13_code 1 = .ok (.invokevirtual 85, 3) := by decide +kernel
theorem d_D_step_4 : decode prog_1_method_13_code 4 = .ok (.aload_n 0, 1) := by decide +kernel
theorem d_D_step_5 : decode prog_1_method_13_code 5 = .ok (.invokevirtual 105, 3) := by decide +kernel
theorem d_D_step_8 : decode prog_1_method_13_code 8 = .ok (.aload_n 0, 1) := by decide +kernel
theorem d_D_step_9 : decode prog_1_method_13_code 9 = .ok (.getfield 26, 3) := by decide +kernel
theorem d_D_step_12 : decode prog_1_method_13_code 12 = .ok (.invokevirtual 115, 3) := by decide +kernel
theorem d_D_step_15 : decode prog_1_method_13_code 15 = .ok (.ifCond .ne 13, 3) := by decide +kernel
theorem d_D_step_18 : decode prog_1_method_13_code 18 = .ok (.new 125, 3) := by decide +kernel
theorem d_D_step_21 : decode prog_1_method_13_code 21 = .ok (.dup, 1) := by decide +kernel
theorem d_D_step_22 : decode prog_1_method_13_code 22 = .ok (.ldc 127, 2) := by decide +kernel
theorem d_D_step_24 : decode prog_1_method_13_code 24 = .ok (.invokespecial 129, 3) := by decide +kernel
theorem d_D_step_27 : decode prog_1_method_13_code 27 = .ok (.athrow, 1) := by decide +kernel
theorem d_D_step_28 : decode prog_1_method_13_code 28 = .ok (.iload_n 1, 1) := by decide +kernel
theorem d_D_step_29 : decode prog_1_method_13_code 29 = .ok (.ifCond .lt 14, 3) := by decide +kernel
theorem d_D_step_32 : decode prog_1_method_13_code 32 = .ok (.iload_n 1, 1) := by decide +kernel
theorem d_D_step_33 : decode prog_1_method_13_code 33 = .ok (.aload_n 0, 1) := by decide +kernel
theorem d_D_step_34 : decode prog_1_method_13_code 34 = .ok (.getfield 26, 3) := by decide +kernel
theorem d_D_step_37 : decode prog_1_method_13_code 37 = .ok (.invokevirtual 130, 3) := by decide +kernel
theorem d_D_step_40 : decode prog_1_method_13_code 40 = .ok (.if_icmp .lt 13, 3) := by decide +kernel
theorem d_D_step_43 : decode prog_1_method_13_code 43 = .ok (.new 131, 3) := by decide +kernel
theorem d_D_step_46 : decode prog_1_method_13_code 46 = .ok (.dup, 1) := by decide +kernel
theorem d_D_step_47 : decode prog_1_method_13_code 47 = .ok (.ldc 133, 2) := by decide +kernel
theorem d_D_step_49 : decode prog_1_method_13_code 49 = .ok (.invokespecial 135, 3) := by decide +kernel
theorem d_D_step_52 : decode prog_1_method_13_code 52 = .ok (.athrow, 1) := by decide +kernel
theorem d_D_step_53 : decode prog_1_method_13_code 53 = .ok (.aload_n 0, 1) := by decide +kernel
theorem d_D_step_54 : decode prog_1_method_13_code 54 = .ok (.getfield 26, 3) := by decide +kernel
theorem d_D_step_57 : decode prog_1_method_13_code 57 = .ok (.iload_n 1, 1) := by decide +kernel
theorem d_D_step_58 : decode prog_1_method_13_code 58 = .ok (.invokevirtual 136, 3) := by decide +kernel
theorem d_D_step_61 : decode prog_1_method_13_code 61 = .ok (.ireturn, 1) := by decide +kernel
theorem d_D_shape_0 : decode prog_1_method_14_code 0 = .ok (.iload_n 1, 1) := by decide +kernel
theorem d_D_shape_1 : decode prog_1_method_14_code 1 = .ok (.iload_n 2, 1) := by decide +kernel
theorem d_D_shape_2 : decode prog_1_method_14_code 2 = .ok (.invokestatic 139, 3) := by decide +kernel
theorem d_D_shape_5 : decode prog_1_method_14_code 5 = .ok (.ifCond .ne 13, 3) := by decide +kernel
theorem d_D_shape_8 : decode prog_1_method_14_code 8 = .ok (.new 62, 3) := by decide +kernel
theorem d_D_shape_11 : decode prog_1_method_14_code 11 = .ok (.dup, 1) := by decide +kernel
theorem d_D_shape_12 : decode prog_1_method_14_code 12 = .ok (.ldc 142, 2) := by decide +kernel
theorem d_D_shape_14 : decode prog_1_method_14_code 14 = .ok (.invokespecial 66, 3) := by decide +kernel
theorem d_D_shape_17 : decode prog_1_method_14_code 17 = .ok (.athrow, 1) := by decide +kernel
theorem d_D_shape_18 : decode prog_1_method_14_code 18 = .ok (.aload_n 0, 1) := by decide +kernel
theorem d_D_shape_19 : decode prog_1_method_14_code 19 = .ok (.getfield 33, 3) := by decide +kernel
theorem d_D_shape_22 : decode prog_1_method_14_code 22 = .ok (.iload_n 1, 1) := by decide +kernel
theorem d_D_shape_23 : decode prog_1_method_14_code 23 = .ok (.iload_n 2, 1) := by decide +kernel
theorem d_D_shape_24 : decode prog_1_method_14_code 24 = .ok (.invokevirtual 144, 3) := by decide +kernel
theorem d_D_shape_27 : decode prog_1_method_14_code 27 = .ok (.return_, 1) := by decide +kernel
theorem d_D_set_0 : decode prog_1_method_15_code 0 = .ok (.iload_n 1, 1) := by decide +kernel
theorem d_D_set_1 : decode prog_1_method_15_code 1 = .ok (.ifCond .lt 14, 3) := by decide +kernel
theorem d_D_set_4 : decode prog_1_method_15_code 4 = .ok (.iload_n 1, 1) := by decide +kernel
theorem d_D_set_5 : decode prog_1_method_15_code 5 = .ok (.aload_n 0, 1) := by decide +kernel
theorem d_D_set_6 : decode prog_1_method_15_code 6 = .ok (.getfield 33, 3) := by decide +kernel
theorem d_D_set_9 : decode prog_1_method_15_code 9 = .ok (.invokevirtual 148, 3) := by decide +kernel
theorem d_D_set_12 : decode prog_1_method_15_code 12 = .ok (.if_icmp .lt 13, 3) := by decide +kernel
theorem d_D_set_15 : decode prog_1_method_15_code 15 = .ok (.new 131, 3) := by decide +kernel
theorem d_D_set_18 : decode prog_1_method_15_code 18 = .ok (.dup, 1) := by decide +kernel
theorem d_D_set_19 : decode prog_1_method_15_code 19 = .ok (.ldc 149, 2) := by decide +kernel
theorem d_D_set_21 : decode prog_1_method_15_code 21 = .ok (.invokespecial 135, 3) := by decide +kernel
theorem d_D_set_24 : decode prog_1_method_15_code 24 = .ok (.athrow, 1) := by decide +kernel
theorem d_D_set_25 : decode prog_1_method_15_code 25 = .ok (.aload_n 0, 1) := by decide +kernel
theorem d_D_set_26 : decode prog_1_method_15_code 26 = .ok (.getfield 33, 3) := by decide +kernel
theorem d_D_set_29 : decode prog_1_method_15_code 29 = .ok (.iload_n 1, 1) := by decide +kernel
theorem d_D_set_30 : decode prog_1_method_15_code 30 = .ok (.iload_n 2, 1) := by decide +kernel
theorem d_D_set_31 : decode prog_1_method_15_code 31 = .ok (.invokevirtual 151, 3) := by decide +kernel
theorem d_D_set_34 : decode prog_1_method_15_code 34 = .ok (.ireturn, 1) := by decide +kernel
theorem d_D_adopt_0 : decode prog_1_method_16_code 0 = .ok (.aload_n 0, 1) := by decide +kernel
theorem d_D_adopt_1 : decode prog_1_method_16_code 1 = .ok (.invokevirtual 85, 3) := by decide +kernel
theorem d_D_adopt_4 : decode prog_1_method_16_code 4 = .ok (.aload_n 0, 1) := by decide +kernel
theorem d_D_adopt_5 : decode prog_1_method_16_code 5 = .ok (.invokevirtual 105, 3) := by decide +kernel
theorem d_D_adopt_8 : decode prog_1_method_16_code 8 = .ok (.aload_n 0, 1) := by decide +kernel
theorem d_D_adopt_9 : decode prog_1_method_16_code 9 = .ok (.getfield 26, 3) := by decide +kernel
theorem d_D_adopt_12 : decode prog_1_method_16_code 12 = .ok (.invokevirtual 115, 3) := by decide +kernel
theorem d_D_adopt_15 : decode prog_1_method_16_code 15 = .ok (.ifCond .eq 23, 3) := by decide +kernel
theorem d_D_adopt_18 : decode prog_1_method_16_code 18 = .ok (.aload_n 0, 1) := by decide +kernel
theorem d_D_adopt_19 : decode prog_1_method_16_code 19 = .ok (.getfield 26, 3) := by decide +kernel
theorem d_D_adopt_22 : decode prog_1_method_16_code 22 = .ok (.invokevirtual 119, 3) := by decide +kernel
theorem d_D_adopt_25 : decode prog_1_method_16_code 25 = .ok (.aload_n 0, 1) := by decide +kernel
theorem d_D_adopt_26 : decode prog_1_method_16_code 26 = .ok (.getfield 26, 3) := by decide +kernel
theorem d_D_adopt_29 : decode prog_1_method_16_code 29 = .ok (.invokevirtual 122, 3) := by decide +kernel
theorem d_D_adopt_32 : decode prog_1_method_16_code 32 = .ok (.invokestatic 139, 3) := by decide +kernel
theorem d_D_adopt_35 : decode prog_1_method_16_code 35 = .ok (.ifCond .ne 5, 3) := by decide +kernel
theorem d_D_adopt_38 : decode prog_1_method_16_code 38 = .ok (.iconst 0, 1) := by decide +kernel
theorem d_D_adopt_39 : decode prog_1_method_16_code 39 = .ok (.ireturn, 1) := by decide +kernel
theorem d_D_adopt_40 : decode prog_1_method_16_code 40 = .ok (.aload_n 0, 1) := by decide +kernel
theorem d_D_adopt_41 : decode prog_1_method_16_code 41 = .ok (.getfield 33, 3) := by decide +kernel
theorem d_D_adopt_44 : decode prog_1_method_16_code 44 = .ok (.aload_n 0, 1) := by decide +kernel
theorem d_D_adopt_45 : decode prog_1_method_16_code 45 = .ok (.getfield 26, 3) := by decide +kernel
theorem d_D_adopt_48 : decode prog_1_method_16_code 48 = .ok (.invokevirtual 155, 3) := by decide +kernel
theorem d_D_adopt_51 : decode prog_1_method_16_code 51 = .ok (.iconst 1, 1) := by decide +kernel
theorem d_D_adopt_52 : decode prog_1_method_16_code 52 = .ok (.ireturn, 1) := by decide +kernel
theorem d_D_letter_0 : decode prog_1_method_17_code 0 = .ok (.aload_n 0, 1) := by decide +kernel
theorem d_D_letter_1 : decode prog_1_method_17_code 1 = .ok (.iload_n 1, 1) := by decide +kernel
theorem d_D_letter_2 : decode prog_1_method_17_code 2 = .ok (.invokevirtual 159, 3) := by decide +kernel
theorem d_D_letter_5 : decode prog_1_method_17_code 5 = .ok (.aload_n 0, 1) := by decide +kernel
theorem d_D_letter_6 : decode prog_1_method_17_code 6 = .ok (.getfield 33, 3) := by decide +kernel
theorem d_D_letter_9 : decode prog_1_method_17_code 9 = .ok (.iload_n 1, 1) := by decide +kernel
theorem d_D_letter_10 : decode prog_1_method_17_code 10 = .ok (.invokevirtual 162, 3) := by decide +kernel
theorem d_D_letter_13 : decode prog_1_method_17_code 13 = .ok (.ireturn, 1) := by decide +kernel
theorem d_D_holds_0 : decode prog_1_method_18_code 0 = .ok (.aload_n 0, 1) := by decide +kernel
theorem d_D_holds_1 : decode prog_1_method_18_code 1 = .ok (.invokevirtual 85, 3) := by decide +kernel
theorem d_D_holds_4 : decode prog_1_method_18_code 4 = .ok (.aload_n 0, 1) := by decide +kernel
theorem d_D_holds_5 : decode prog_1_method_18_code 5 = .ok (.iload_n 1, 1) := by decide +kernel
theorem d_D_holds_6 : decode prog_1_method_18_code 6 = .ok (.invokevirtual 159, 3) := by decide +kernel
theorem d_D_holds_9 : decode prog_1_method_18_code 9 = .ok (.aload_n 0, 1) := by decide +kernel
theorem d_D_holds_10 : decode prog_1_method_18_code 10 = .ok (.getfield 40, 3) := by decide +kernel
theorem d_D_holds_13 : decode prog_1_method_18_code 13 = .ok (.aload_n 0, 1) := by decide +kernel
theorem d_D_holds_14 : decode prog_1_method_18_code 14 = .ok (.getfield 33, 3) := by decide +kernel
theorem d_D_holds_17 : decode prog_1_method_18_code 17 = .ok (.invokevirtual 165, 3) := by decide +kernel
theorem d_D_holds_20 : decode prog_1_method_18_code 20 = .ok (.aload_n 0, 1) := by decide +kernel
theorem d_D_holds_21 : decode prog_1_method_18_code 21 = .ok (.getfield 33, 3) := by decide +kernel
theorem d_D_holds_24 : decode prog_1_method_18_code 24 = .ok (.iload_n 1, 1) := by decide +kernel
theorem d_D_holds_25 : decode prog_1_method_18_code 25 = .ok (.invokevirtual 169, 3) := by decide +kernel
theorem d_D_holds_28 : decode prog_1_method_18_code 28 = .ok (.invokestatic 172, 3) := by decide +kernel
theorem d_D_holds_31 : decode prog_1_method_18_code 31 = .ok (.ireturn, 1) := by decide +kernel
theorem d_D_requireFormula_0 : decode prog_1_method_19_code 0 = .ok (.aload_n 0, 1) := by decide +kernel
theorem d_D_requireFormula_1 : decode prog_1_method_19_code 1 = .ok (.getfield 47, 3) := by decide +kernel
theorem d_D_requireFormula_4 : decode prog_1_method_19_code 4 = .ok (.ifCond .ne 13, 3) := by decide +kernel
theorem d_D_requireFormula_7 : decode prog_1_method_19_code 7 = .ok (.new 125, 3) := by decide +kernel
theorem d_D_requireFormula_10 : decode prog_1_method_19_code 10 = .ok (.dup, 1) := by decide +kernel
theorem d_D_requireFormula_11 : decode prog_1_method_19_code 11 = .ok (.ldc 175, 2) := by decide +kernel
theorem d_D_requireFormula_13 : decode prog_1_method_19_code 13 = .ok (.invokespecial 129, 3) := by decide +kernel
theorem d_D_requireFormula_16 : decode prog_1_method_19_code 16 = .ok (.athrow, 1) := by decide +kernel
theorem d_D_requireFormula_17 : decode prog_1_method_19_code 17 = .ok (.return_, 1) := by decide +kernel
theorem d_D_requireState_0 : decode prog_1_method_20_code 0 = .ok (.iload_n 1, 1) := by decide +kernel
theorem d_D_requireState_1 : decode prog_1_method_20_code 1 = .ok (.ifCond .lt 14, 3) := by decide +kernel
theorem d_D_requireState_4 : decode prog_1_method_20_code 4 = .ok (.iload_n 1, 1) := by decide +kernel
theorem d_D_requireState_5 : decode prog_1_method_20_code 5 = .ok (.aload_n 0, 1) := by decide +kernel
theorem d_D_requireState_6 : decode prog_1_method_20_code 6 = .ok (.getfield 40, 3) := by decide +kernel
theorem d_D_requireState_9 : decode prog_1_method_20_code 9 = .ok (.invokevirtual 88, 3) := by decide +kernel
theorem d_D_requireState_12 : decode prog_1_method_20_code 12 = .ok (.if_icmp .lt 13, 3) := by decide +kernel
theorem d_D_requireState_15 : decode prog_1_method_20_code 15 = .ok (.new 131, 3) := by decide +kernel
theorem d_D_requireState_18 : decode prog_1_method_20_code 18 = .ok (.dup, 1) := by decide +kernel
theorem d_D_requireState_19 : decode prog_1_method_20_code 19 = .ok (.ldc 177, 2) := by decide +kernel
theorem d_D_requireState_21 : decode prog_1_method_20_code 21 = .ok (.invokespecial 135, 3) := by decide +kernel
theorem d_D_requireState_24 : decode prog_1_method_20_code 24 = .ok (.athrow, 1) := by decide +kernel
theorem d_D_requireState_25 : decode prog_1_method_20_code 25 = .ok (.return_, 1) := by decide +kernel
theorem d_D_requirePlace_0 : decode prog_1_method_21_code 0 = .ok (.iload_n 1, 1) := by decide +kernel
theorem d_D_requirePlace_1 : decode prog_1_method_21_code 1 = .ok (.ifCond .ge 13, 3) := by decide +kernel
theorem d_D_requirePlace_4 : decode prog_1_method_21_code 4 = .ok (.new 131, 3) := by decide +kernel
theorem d_D_requirePlace_7 : decode prog_1_method_21_code 7 = .ok (.dup, 1) := by decide +kernel
theorem d_D_requirePlace_8 : decode prog_1_method_21_code 8 = .ok (.ldc 179, 2) := by decide +kernel
theorem d_D_requirePlace_10 : decode prog_1_method_21_code 10 = .ok (.invokespecial 135, 3) := by decide +kernel
theorem d_D_requirePlace_13 : decode prog_1_method_21_code 13 = .ok (.athrow, 1) := by decide +kernel
theorem d_D_requirePlace_14 : decode prog_1_method_21_code 14 = .ok (.return_, 1) := by decide +kernel
theorem d_D_settle_0 : decode prog_1_method_22_code 0 = .ok (.aload_n 0, 1) := by decide +kernel
theorem d_D_settle_1 : decode prog_1_method_22_code 1 = .ok (.getfield 51, 3) := by decide +kernel
theorem d_D_settle_4 : decode prog_1_method_22_code 4 = .ok (.ifCond .ne 30, 3) := by decide +kernel
theorem d_D_settle_7 : decode prog_1_method_22_code 7 = .ok (.aload_n 0, 1) := by decide +kernel
theorem d_D_settle_8 : decode prog_1_method_22_code 8 = .ok (.getfield 19, 3) := by decide +kernel
theorem d_D_settle_11 : decode prog_1_method_22_code 11 = .ok (.aload_n 0, 1) := by decide +kernel
theorem d_D_settle_12 : decode prog_1_method_22_code 12 = .ok (.getfield 40, 3) := by decide +kernel
theorem d_D_settle_15 : decode prog_1_method_22_code 15 = .ok (.invokevirtual 181, 3) := by decide +kernel
theorem d_D_settle_18 : decode prog_1_method_22_code 18 = .ok (.aload_n 0, 1) := by decide +kernel
theorem d_D_settle_19 : decode prog_1_method_22_code 19 = .ok (.getfield 26, 3) := by decide +kernel
theorem d_D_settle_22 : decode prog_1_method_22_code 22 = .ok (.aload_n 0, 1) := by decide +kernel
theorem d_D_settle_23 : decode prog_1_method_22_code 23 = .ok (.getfield 19, 3) := by decide +kernel
theorem d_D_settle_26 : decode prog_1_method_22_code 26 = .ok (.invokevirtual 185, 3) := by decide +kernel
theorem d_D_settle_29 : decode prog_1_method_22_code 29 = .ok (.aload_n 0, 1) := by decide +kernel
theorem d_D_settle_30 : decode prog_1_method_22_code 30 = .ok (.iconst 1, 1) := by decide +kernel
theorem d_D_settle_31 : decode prog_1_method_22_code 31 = .ok (.putfield 51, 3) := by decide +kernel
theorem d_D_settle_34 : decode prog_1_method_22_code 34 = .ok (.return_, 1) := by decide +kernel
theorem d_D_hasBit_0 : decode prog_1_method_23_code 0 = .ok (.iload_n 0, 1) := by decide +kernel
theorem d_D_hasBit_1 : decode prog_1_method_23_code 1 = .ok (.iload_n 1, 1) := by decide +kernel
theorem d_D_hasBit_2 : decode prog_1_method_23_code 2 = .ok (.ishr, 1) := by decide +kernel
theorem d_D_hasBit_3 : decode prog_1_method_23_code 3 = .ok (.iconst 1, 1) := by decide +kernel
theorem d_D_hasBit_4 : decode prog_1_method_23_code 4 = .ok (.iand, 1) := by decide +kernel
theorem d_D_hasBit_5 : decode prog_1_method_23_code 5 = .ok (.ifCond .eq 7, 3) := by decide +kernel
theorem d_D_hasBit_8 : decode prog_1_method_23_code 8 = .ok (.iconst 1, 1) := by decide +kernel
theorem d_D_hasBit_9 : decode prog_1_method_23_code 9 = .ok (.goto 4, 3) := by decide +kernel
theorem d_D_hasBit_12 : decode prog_1_method_23_code 12 = .ok (.iconst 0, 1) := by decide +kernel
theorem d_D_hasBit_13 : decode prog_1_method_23_code 13 = .ok (.ireturn, 1) := by decide +kernel
theorem d_D_isTemporal_0 : decode prog_1_method_24_code 0 = .ok (.iload_n 0, 1) := by decide +kernel
theorem d_D_isTemporal_1 : decode prog_1_method_24_code 1 = .ok (.bipush 88, 2) := by decide +kernel
theorem d_D_isTemporal_3 : decode prog_1_method_24_code 3 = .ok (.if_icmp .eq 27, 3) := by decide +kernel
theorem d_D_isTemporal_6 : decode prog_1_method_24_code 6 = .ok (.iload_n 0, 1) := by decide +kernel
theorem d_D_isTemporal_7 : decode prog_1_method_24_code 7 = .ok (.bipush 70, 2) := by decide +kernel
theorem d_D_isTemporal_9 : decode prog_1_method_24_code 9 = .ok (.if_icmp .eq 21, 3) := by decide +kernel
theorem d_D_isTemporal_12 : decode prog_1_method_24_code 12 = .ok (.iload_n 0, 1) := by decide +kernel
theorem d_D_isTemporal_13 : decode prog_1_method_24_code 13 = .ok (.bipush 71, 2) := by decide +kernel
theorem d_D_isTemporal_15 : decode prog_1_method_24_code 15 = .ok (.if_icmp .eq 15, 3) := by decide +kernel
theorem d_D_isTemporal_18 : decode prog_1_method_24_code 18 = .ok (.iload_n 0, 1) := by decide +kernel
theorem d_D_isTemporal_19 : decode prog_1_method_24_code 19 = .ok (.bipush 85, 2) := by decide +kernel
theorem d_D_isTemporal_21 : decode prog_1_method_24_code 21 = .ok (.if_icmp .eq 9, 3) := by decide +kernel
theorem d_D_isTemporal_24 : decode prog_1_method_24_code 24 = .ok (.iload_n 0, 1) := by decide +kernel
theorem d_D_isTemporal_25 : decode prog_1_method_24_code 25 = .ok (.bipush 82, 2) := by decide +kernel
theorem d_D_isTemporal_27 : decode prog_1_method_24_code 27 = .ok (.if_icmp .ne 7, 3) := by decide +kernel
theorem d_D_isTemporal_30 : decode prog_1_method_24_code 30 = .ok (.iconst 1, 1) := by decide +kernel
theorem d_D_isTemporal_31 : decode prog_1_method_24_code 31 = .ok (.goto 4, 3) := by decide +kernel
theorem d_D_isTemporal_34 : decode prog_1_method_24_code 34 = .ok (.iconst 0, 1) := by decide +kernel
theorem d_D_isTemporal_35 : decode prog_1_method_24_code 35 = .ok (.ireturn, 1) := by decide +kernel
theorem d_Mo_thrown_0 : decode prog_8_method_2_code 0 = .ok (.aload_n 0, 1) := by decide +kernel
theorem d_Mo_thrown_1 : decode prog_8_method_2_code 1 = .ok (.getfield 93, 3) := by decide +kernel
theorem d_Mo_thrown_4 : decode prog_8_method_2_code 4 = .ok (.ireturn, 1) := by decide +kernel
theorem d_Mo_type_0 : decode prog_8_method_3_code 0 = .ok (.iconst 0, 1) := by decide +kernel
theorem d_Mo_type_1 : decode prog_8_method_3_code 1 = .ok (.istore_n 2, 1) := by decide +kernel
theorem d_Mo_type_2 : decode prog_8_method_3_code 2 = .ok (.iconst 1, 1) := by decide +kernel
theorem d_Mo_type_3 : decode prog_8_method_3_code 3 = .ok (.istore_n 3, 1) := by decide +kernel
theorem d_Mo_type_4 : decode prog_8_method_3_code 4 = .ok (.iconst 0, 1) := by decide +kernel
theorem d_Mo_type_5 : decode prog_8_method_3_code 5 = .ok (.istore 4, 2) := by decide +kernel
theorem d_Mo_type_7 : decode prog_8_method_3_code 7 = .ok (.iconst 0, 1) := by decide +kernel
theorem d_Mo_type_8 : decode prog_8_method_3_code 8 = .ok (.istore 5, 2) := by decide +kernel
theorem d_Mo_type_10 : decode prog_8_method_3_code 10 = .ok (.iload 5, 2) := by decide +kernel
theorem d_Mo_type_12 : decode prog_8_method_3_code 12 = .ok (.iconst 4, 1) := by decide +kernel
theorem d_Mo_type_13 : decode prog_8_method_3_code 13 = .ok (.if_icmp .ge 79, 3) := by decide +kernel
theorem d_Mo_type_16 : decode prog_8_method_3_code 16 = .ok (.iload_n 1, 1) := by decide +kernel
theorem d_Mo_type_17 : decode prog_8_method_3_code 17 = .ok (.bipush 8, 2) := by decide +kernel
theorem d_Mo_type_19 : decode prog_8_method_3_code 19 = .ok (.iload 5, 2) := by decide +kernel
theorem d_Mo_type_21 : decode prog_8_method_3_code 21 = .ok (.imul, 1) := by decide +kernel
theorem d_Mo_type_22 : decode prog_8_method_3_code 22 = .ok (.ishr, 1) := by decide +kernel
theorem d_Mo_type_23 : decode prog_8_method_3_code 23 = .ok (.sipush 255, 3) := by decide +kernel
theorem d_Mo_type_26 : decode prog_8_method_3_code 26 = .ok (.iand, 1) := by decide +kernel
theorem d_Mo_type_27 : decode prog_8_method_3_code 27 = .ok (.istore 6, 2) := by decide +kernel
theorem d_Mo_type_29 : decode prog_8_method_3_code 29 = .ok (.iload_n 3, 1) := by decide +kernel
theorem d_Mo_type_30 : decode prog_8_method_3_code 30 = .ok (.ifCond .eq 12, 3) := by decide +kernel
theorem d_Mo_type_33 : decode prog_8_method_3_code 33 = .ok (.iload 6, 2) := by decide +kernel
theorem d_Mo_type_35 : decode prog_8_method_3_code 35 = .ok (.ifCond .eq 7, 3) := by decide +kernel
theorem d_Mo_type_38 : decode prog_8_method_3_code 38 = .ok (.iconst 1, 1) := by decide +kernel
theorem d_Mo_type_39 : decode prog_8_method_3_code 39 = .ok (.goto 4, 3) := by decide +kernel
theorem d_Mo_type_42 : decode prog_8_method_3_code 42 = .ok (.iconst 0, 1) := by decide +kernel
theorem d_Mo_type_43 : decode prog_8_method_3_code 43 = .ok (.istore_n 3, 1) := by decide +kernel
theorem d_Mo_type_44 : decode prog_8_method_3_code 44 = .ok (.iload 4, 2) := by decide +kernel
theorem d_Mo_type_46 : decode prog_8_method_3_code 46 = .ok (.ifCond .ne 21, 3) := by decide +kernel
theorem d_Mo_type_49 : decode prog_8_method_3_code 49 = .ok (.iload_n 3, 1) := by decide +kernel
theorem d_Mo_type_50 : decode prog_8_method_3_code 50 = .ok (.ifCond .eq 21, 3) := by decide +kernel
theorem d_Mo_type_53 : decode prog_8_method_3_code 53 = .ok (.iload 6, 2) := by decide +kernel
theorem d_Mo_type_55 : decode prog_8_method_3_code 55 = .ok (.bipush 33, 2) := by decide +kernel
theorem d_Mo_type_57 : decode prog_8_method_3_code 57 = .ok (.if_icmp .lt 10, 3) := by decide +kernel
theorem d_Mo_type_60 : decode prog_8_method_3_code 60 = .ok (.iload 6, 2) := by decide +kernel
theorem d_Mo_type_62 : decode prog_8_method_3_code 62 = .ok (.bipush 126, 2) := by decide +kernel
theorem d_Mo_type_64 : decode prog_8_method_3_code 64 = .ok (.if_icmp .le 7, 3) := by decide +kernel
theorem d_Mo_type_67 : decode prog_8_method_3_code 67 = .ok (.iconst 1, 1) := by decide +kernel
theorem d_Mo_type_68 : decode prog_8_method_3_code 68 = .ok (.goto 4, 3) := by decide +kernel
theorem d_Mo_type_71 : decode prog_8_method_3_code 71 = .ok (.iconst 0, 1) := by decide +kernel
theorem d_Mo_type_72 : decode prog_8_method_3_code 72 = .ok (.istore 4, 2) := by decide +kernel
theorem d_Mo_type_74 : decode prog_8_method_3_code 74 = .ok (.iload_n 3, 1) := by decide +kernel
theorem d_Mo_type_75 : decode prog_8_method_3_code 75 = .ok (.ifCond .eq 9, 3) := by decide +kernel
theorem d_Mo_type_78 : decode prog_8_method_3_code 78 = .ok (.iload_n 2, 1) := by decide +kernel
theorem d_Mo_type_79 : decode prog_8_method_3_code 79 = .ok (.iconst 1, 1) := by decide +kernel
theorem d_Mo_type_80 : decode prog_8_method_3_code 80 = .ok (.iadd, 1) := by decide +kernel
theorem d_Mo_type_81 : decode prog_8_method_3_code 81 = .ok (.goto 4, 3) := by decide +kernel
theorem d_Mo_type_84 : decode prog_8_method_3_code 84 = .ok (.iload_n 2, 1) := by decide +kernel
theorem d_Mo_type_85 : decode prog_8_method_3_code 85 = .ok (.istore_n 2, 1) := by decide +kernel
theorem d_Mo_type_86 : decode prog_8_method_3_code 86 = .ok (.iinc 5 1, 3) := by decide +kernel
theorem d_Mo_type_89 : decode prog_8_method_3_code 89 = .ok (.goto (-79), 3) := by decide +kernel
theorem d_Mo_type_92 : decode prog_8_method_3_code 92 = .ok (.aload_n 0, 1) := by decide +kernel
theorem d_Mo_type_93 : decode prog_8_method_3_code 93 = .ok (.iload 4, 2) := by decide +kernel
theorem d_Mo_type_95 : decode prog_8_method_3_code 95 = .ok (.ifCond .eq 7, 3) := by decide +kernel
theorem d_Mo_type_98 : decode prog_8_method_3_code 98 = .ok (.iconst 1, 1) := by decide +kernel
theorem d_Mo_type_99 : decode prog_8_method_3_code 99 = .ok (.goto 4, 3) := by decide +kernel
theorem d_Mo_type_102 : decode prog_8_method_3_code 102 = .ok (.iconst 0, 1) := by decide +kernel
theorem d_Mo_type_103 : decode prog_8_method_3_code 103 = .ok (.putfield 93, 3) := by decide +kernel
theorem d_Mo_type_106 : decode prog_8_method_3_code 106 = .ok (.iload 4, 2) := by decide +kernel
theorem d_Mo_type_108 : decode prog_8_method_3_code 108 = .ok (.ifCond .ne 14, 3) := by decide +kernel
theorem d_Mo_type_111 : decode prog_8_method_3_code 111 = .ok (.aload_n 0, 1) := by decide +kernel
theorem d_Mo_type_112 : decode prog_8_method_3_code 112 = .ok (.getfield 96, 3) := by decide +kernel
theorem d_Mo_type_115 : decode prog_8_method_3_code 115 = .ok (.iload_n 2, 1) := by decide +kernel
