theorem d_Mo_type_116 : decode prog_8_method_3_code 116 = .ok (.iadd, 1) := by decide +kernel
theorem d_Mo_type_117 : decode prog_8_method_3_code 117 = .ok (.bipush 18, 2) := by decide +kernel
theorem d_Mo_type_119 : decode prog_8_method_3_code 119 = .ok (.if_icmp .le 5, 3) := by decide +kernel
theorem d_Mo_type_122 : decode prog_8_method_3_code 122 = .ok (.iconst 0, 1) := by decide +kernel
theorem d_Mo_type_123 : decode prog_8_method_3_code 123 = .ok (.ireturn, 1) := by decide +kernel
theorem d_Mo_type_124 : decode prog_8_method_3_code 124 = .ok (.iconst 0, 1) := by decide +kernel
theorem d_Mo_type_125 : decode prog_8_method_3_code 125 = .ok (.istore 5, 2) := by decide +kernel
theorem d_Mo_type_127 : decode prog_8_method_3_code 127 = .ok (.iload 5, 2) := by decide +kernel
theorem d_Mo_type_129 : decode prog_8_method_3_code 129 = .ok (.iload_n 2, 1) := by decide +kernel
theorem d_Mo_type_130 : decode prog_8_method_3_code 130 = .ok (.if_icmp .ge 39, 3) := by decide +kernel
theorem d_Mo_type_133 : decode prog_8_method_3_code 133 = .ok (.aload_n 0, 1) := by decide +kernel
theorem d_Mo_type_134 : decode prog_8_method_3_code 134 = .ok (.getfield 7, 3) := by decide +kernel
theorem d_Mo_type_137 : decode prog_8_method_3_code 137 = .ok (.aload_n 0, 1) := by decide +kernel
theorem d_Mo_type_138 : decode prog_8_method_3_code 138 = .ok (.getfield 96, 3) := by decide +kernel
theorem d_Mo_type_141 : decode prog_8_method_3_code 141 = .ok (.iload_n 1, 1) := by decide +kernel
theorem d_Mo_type_142 : decode prog_8_method_3_code 142 = .ok (.bipush 8, 2) := by decide +kernel
theorem d_Mo_type_144 : decode prog_8_method_3_code 144 = .ok (.iload 5, 2) := by decide +kernel
theorem d_Mo_type_146 : decode prog_8_method_3_code 146 = .ok (.imul, 1) := by decide +kernel
theorem d_Mo_type_147 : decode prog_8_method_3_code 147 = .ok (.ishr, 1) := by decide +kernel
theorem d_Mo_type_148 : decode prog_8_method_3_code 148 = .ok (.sipush 255, 3) := by decide +kernel
theorem d_Mo_type_151 : decode prog_8_method_3_code 151 = .ok (.iand, 1) := by decide +kernel
theorem d_Mo_type_152 : decode prog_8_method_3_code 152 = .ok (.iastore, 1) := by decide +kernel
theorem d_Mo_type_153 : decode prog_8_method_3_code 153 = .ok (.aload_n 0, 1) := by decide +kernel
theorem d_Mo_type_154 : decode prog_8_method_3_code 154 = .ok (.dup, 1) := by decide +kernel
theorem d_Mo_type_155 : decode prog_8_method_3_code 155 = .ok (.getfield 96, 3) := by decide +kernel
theorem d_Mo_type_158 : decode prog_8_method_3_code 158 = .ok (.iconst 1, 1) := by decide +kernel
theorem d_Mo_type_159 : decode prog_8_method_3_code 159 = .ok (.iadd, 1) := by decide +kernel
theorem d_Mo_type_160 : decode prog_8_method_3_code 160 = .ok (.putfield 96, 3) := by decide +kernel
theorem d_Mo_type_163 : decode prog_8_method_3_code 163 = .ok (.iinc 5 1, 3) := by decide +kernel
theorem d_Mo_type_166 : decode prog_8_method_3_code 166 = .ok (.goto (-39), 3) := by decide +kernel
theorem d_Mo_type_169 : decode prog_8_method_3_code 169 = .ok (.iconst 1, 1) := by decide +kernel
theorem d_Mo_type_170 : decode prog_8_method_3_code 170 = .ok (.ireturn, 1) := by decide +kernel
theorem d_Mo_tightness_0 : decode prog_8_method_4_code 0 = .ok (.iload_n 0, 1) := by decide +kernel
theorem d_Mo_tightness_1 : decode prog_8_method_4_code 1 = .ok (.bipush 9, 2) := by decide +kernel
theorem d_Mo_tightness_3 : decode prog_8_method_4_code 3 = .ok (.if_icmp .ge 7, 3) := by decide +kernel
theorem d_Mo_tightness_6 : decode prog_8_method_4_code 6 = .ok (.iconst 5, 1) := by decide +kernel
theorem d_Mo_tightness_7 : decode prog_8_method_4_code 7 = .ok (.goto 44, 3) := by decide +kernel
theorem d_Mo_tightness_10 : decode prog_8_method_4_code 10 = .ok (.iload_n 0, 1) := by decide +kernel
theorem d_Mo_tightness_11 : decode prog_8_method_4_code 11 = .ok (.bipush 11, 2) := by decide +kernel
theorem d_Mo_tightness_13 : decode prog_8_method_4_code 13 = .ok (.if_icmp .ge 7, 3) := by decide +kernel
theorem d_Mo_tightness_16 : decode prog_8_method_4_code 16 = .ok (.iconst 4, 1) := by decide +kernel
theorem d_Mo_tightness_17 : decode prog_8_method_4_code 17 = .ok (.goto 34, 3) := by decide +kernel
theorem d_Mo_tightness_20 : decode prog_8_method_4_code 20 = .ok (.iload_n 0, 1) := by decide +kernel
theorem d_Mo_tightness_21 : decode prog_8_method_4_code 21 = .ok (.bipush 11, 2) := by decide +kernel
theorem d_Mo_tightness_23 : decode prog_8_method_4_code 23 = .ok (.if_icmp .ne 7, 3) := by decide +kernel
theorem d_Mo_tightness_26 : decode prog_8_method_4_code 26 = .ok (.iconst 3, 1) := by decide +kernel
theorem d_Mo_tightness_27 : decode prog_8_method_4_code 27 = .ok (.goto 24, 3) := by decide +kernel
theorem d_Mo_tightness_30 : decode prog_8_method_4_code 30 = .ok (.iload_n 0, 1) := by decide +kernel
theorem d_Mo_tightness_31 : decode prog_8_method_4_code 31 = .ok (.bipush 12, 2) := by decide +kernel
theorem d_Mo_tightness_33 : decode prog_8_method_4_code 33 = .ok (.if_icmp .ne 7, 3) := by decide +kernel
theorem d_Mo_tightness_36 : decode prog_8_method_4_code 36 = .ok (.iconst 2, 1) := by decide +kernel
theorem d_Mo_tightness_37 : decode prog_8_method_4_code 37 = .ok (.goto 14, 3) := by decide +kernel
theorem d_Mo_tightness_40 : decode prog_8_method_4_code 40 = .ok (.iload_n 0, 1) := by decide +kernel
theorem d_Mo_tightness_41 : decode prog_8_method_4_code 41 = .ok (.bipush 13, 2) := by decide +kernel
theorem d_Mo_tightness_43 : decode prog_8_method_4_code 43 = .ok (.if_icmp .ne 7, 3) := by decide +kernel
theorem d_Mo_tightness_46 : decode prog_8_method_4_code 46 = .ok (.iconst 1, 1) := by decide +kernel
theorem d_Mo_tightness_47 : decode prog_8_method_4_code 47 = .ok (.goto 4, 3) := by decide +kernel
theorem d_Mo_tightness_50 : decode prog_8_method_4_code 50 = .ok (.iconst 0, 1) := by decide +kernel
theorem d_Mo_tightness_51 : decode prog_8_method_4_code 51 = .ok (.ireturn, 1) := by decide +kernel
theorem d_Mo_isTemporal_0 : decode prog_8_method_5_code 0 = .ok (.iload_n 0, 1) := by decide +kernel
theorem d_Mo_isTemporal_1 : decode prog_8_method_5_code 1 = .ok (.bipush 6, 2) := by decide +kernel
theorem d_Mo_isTemporal_3 : decode prog_8_method_5_code 3 = .ok (.if_icmp .lt 13, 3) := by decide +kernel
theorem d_Mo_isTemporal_6 : decode prog_8_method_5_code 6 = .ok (.iload_n 0, 1) := by decide +kernel
theorem d_Mo_isTemporal_7 : decode prog_8_method_5_code 7 = .ok (.bipush 10, 2) := by decide +kernel
theorem d_Mo_isTemporal_9 : decode prog_8_method_5_code 9 = .ok (.if_icmp .gt 7, 3) := by decide +kernel
theorem d_Mo_isTemporal_12 : decode prog_8_method_5_code 12 = .ok (.iconst 1, 1) := by decide +kernel
theorem d_Mo_isTemporal_13 : decode prog_8_method_5_code 13 = .ok (.goto 4, 3) := by decide +kernel
theorem d_Mo_isTemporal_16 : decode prog_8_method_5_code 16 = .ok (.iconst 0, 1) := by decide +kernel
theorem d_Mo_isTemporal_17 : decode prog_8_method_5_code 17 = .ok (.ireturn, 1) := by decide +kernel
theorem d_Mo_part_0 : decode prog_8_method_6_code 0 = .ok (.aload_n 0, 1) := by decide +kernel
theorem d_Mo_part_1 : decode prog_8_method_6_code 1 = .ok (.getfield 31, 3) := by decide +kernel
theorem d_Mo_part_4 : decode prog_8_method_6_code 4 = .ok (.aload_n 0, 1) := by decide +kernel
theorem d_Mo_part_5 : decode prog_8_method_6_code 5 = .ok (.getfield 99, 3) := by decide +kernel
theorem d_Mo_part_8 : decode prog_8_method_6_code 8 = .ok (.iload_n 1, 1) := by decide +kernel
theorem d_Mo_part_9 : decode prog_8_method_6_code 9 = .ok (.iastore, 1) := by decide +kernel
theorem d_Mo_part_10 : decode prog_8_method_6_code 10 = .ok (.aload_n 0, 1) := by decide +kernel
theorem d_Mo_part_11 : decode prog_8_method_6_code 11 = .ok (.getfield 40, 3) := by decide +kernel
theorem d_Mo_part_14 : decode prog_8_method_6_code 14 = .ok (.aload_n 0, 1) := by decide +kernel
theorem d_Mo_part_15 : decode prog_8_method_6_code 15 = .ok (.getfield 99, 3) := by decide +kernel
theorem d_Mo_part_18 : decode prog_8_method_6_code 18 = .ok (.iload_n 2, 1) := by decide +kernel
theorem d_Mo_part_19 : decode prog_8_method_6_code 19 = .ok (.iastore, 1) := by decide +kernel
theorem d_Mo_part_20 : decode prog_8_method_6_code 20 = .ok (.aload_n 0, 1) := by decide +kernel
theorem d_Mo_part_21 : decode prog_8_method_6_code 21 = .ok (.getfield 34, 3) := by decide +kernel
theorem d_Mo_part_24 : decode prog_8_method_6_code 24 = .ok (.aload_n 0, 1) := by decide +kernel
theorem d_Mo_part_25 : decode prog_8_method_6_code 25 = .ok (.getfield 99, 3) := by decide +kernel
theorem d_Mo_part_28 : decode prog_8_method_6_code 28 = .ok (.iload_n 3, 1) := by decide +kernel
theorem d_Mo_part_29 : decode prog_8_method_6_code 29 = .ok (.iastore, 1) := by decide +kernel
theorem d_Mo_part_30 : decode prog_8_method_6_code 30 = .ok (.aload_n 0, 1) := by decide +kernel
theorem d_Mo_part_31 : decode prog_8_method_6_code 31 = .ok (.getfield 37, 3) := by decide +kernel
theorem d_Mo_part_34 : decode prog_8_method_6_code 34 = .ok (.aload_n 0, 1) := by decide +kernel
theorem d_Mo_part_35 : decode prog_8_method_6_code 35 = .ok (.getfield 99, 3) := by decide +kernel
theorem d_Mo_part_38 : decode prog_8_method_6_code 38 = .ok (.iload 4, 2) := by decide +kernel
theorem d_Mo_part_40 : decode prog_8_method_6_code 40 = .ok (.iastore, 1) := by decide +kernel
theorem d_Mo_part_41 : decode prog_8_method_6_code 41 = .ok (.aload_n 0, 1) := by decide +kernel
theorem d_Mo_part_42 : decode prog_8_method_6_code 42 = .ok (.getfield 43, 3) := by decide +kernel
theorem d_Mo_part_45 : decode prog_8_method_6_code 45 = .ok (.aload_n 0, 1) := by decide +kernel
theorem d_Mo_part_46 : decode prog_8_method_6_code 46 = .ok (.getfield 102, 3) := by decide +kernel
theorem d_Mo_part_49 : decode prog_8_method_6_code 49 = .ok (.aload_n 0, 1) := by decide +kernel
theorem d_Mo_part_50 : decode prog_8_method_6_code 50 = .ok (.getfield 99, 3) := by decide +kernel
theorem d_Mo_part_53 : decode prog_8_method_6_code 53 = .ok (.iastore, 1) := by decide +kernel
theorem d_Mo_part_54 : decode prog_8_method_6_code 54 = .ok (.aload_n 0, 1) := by decide +kernel
theorem d_Mo_part_55 : decode prog_8_method_6_code 55 = .ok (.dup, 1) := by decide +kernel
theorem d_Mo_part_56 : decode prog_8_method_6_code 56 = .ok (.getfield 102, 3) := by decide +kernel
theorem d_Mo_part_59 : decode prog_8_method_6_code 59 = .ok (.iconst 1, 1) := by decide +kernel
theorem d_Mo_part_60 : decode prog_8_method_6_code 60 = .ok (.iadd, 1) := by decide +kernel
theorem d_Mo_part_61 : decode prog_8_method_6_code 61 = .ok (.putfield 102, 3) := by decide +kernel
theorem d_Mo_part_64 : decode prog_8_method_6_code 64 = .ok (.aload_n 0, 1) := by decide +kernel
theorem d_Mo_part_65 : decode prog_8_method_6_code 65 = .ok (.dup, 1) := by decide +kernel
theorem d_Mo_part_66 : decode prog_8_method_6_code 66 = .ok (.getfield 99, 3) := by decide +kernel
theorem d_Mo_part_69 : decode prog_8_method_6_code 69 = .ok (.iconst 1, 1) := by decide +kernel
theorem d_Mo_part_70 : decode prog_8_method_6_code 70 = .ok (.iadd, 1) := by decide +kernel
theorem d_Mo_part_71 : decode prog_8_method_6_code 71 = .ok (.putfield 99, 3) := by decide +kernel
theorem d_Mo_part_74 : decode prog_8_method_6_code 74 = .ok (.return_, 1) := by decide +kernel
theorem d_Mo_taken_0 : decode prog_8_method_7_code 0 = .ok (.aload_n 0, 1) := by decide +kernel
theorem d_Mo_taken_1 : decode prog_8_method_7_code 1 = .ok (.dup, 1) := by decide +kernel
theorem d_Mo_taken_2 : decode prog_8_method_7_code 2 = .ok (.getfield 102, 3) := by decide +kernel
theorem d_Mo_taken_5 : decode prog_8_method_7_code 5 = .ok (.iconst 1, 1) := by decide +kernel
theorem d_Mo_taken_6 : decode prog_8_method_7_code 6 = .ok (.isub, 1) := by decide +kernel
theorem d_Mo_taken_7 : decode prog_8_method_7_code 7 = .ok (.putfield 102, 3) := by decide +kernel
theorem d_Mo_taken_10 : decode prog_8_method_7_code 10 = .ok (.aload_n 0, 1) := by decide +kernel
theorem d_Mo_taken_11 : decode prog_8_method_7_code 11 = .ok (.getfield 43, 3) := by decide +kernel
theorem d_Mo_taken_14 : decode prog_8_method_7_code 14 = .ok (.aload_n 0, 1) := by decide +kernel
theorem d_Mo_taken_15 : decode prog_8_method_7_code 15 = .ok (.getfield 102, 3) := by decide +kernel
theorem d_Mo_taken_18 : decode prog_8_method_7_code 18 = .ok (.iaload, 1) := by decide +kernel
theorem d_Mo_taken_19 : decode prog_8_method_7_code 19 = .ok (.ireturn, 1) := by decide +kernel
theorem d_Mo_settle_0 : decode prog_8_method_8_code 0 = .ok (.aload_n 0, 1) := by decide +kernel
theorem d_Mo_settle_1 : decode prog_8_method_8_code 1 = .ok (.getfield 105, 3) := by decide +kernel
theorem d_Mo_settle_4 : decode prog_8_method_8_code 4 = .ok (.ifCond .le 90, 3) := by decide +kernel
theorem d_Mo_settle_7 : decode prog_8_method_8_code 7 = .ok (.aload_n 0, 1) := by decide +kernel
theorem d_Mo_settle_8 : decode prog_8_method_8_code 8 = .ok (.getfield 46, 3) := by decide +kernel
theorem d_Mo_settle_11 : decode prog_8_method_8_code 11 = .ok (.aload_n 0, 1) := by decide +kernel
theorem d_Mo_settle_12 : decode prog_8_method_8_code 12 = .ok (.getfield 105, 3) := by decide +kernel
theorem d_Mo_settle_15 : decode prog_8_method_8_code 15 = .ok (.iconst 1, 1) := by decide +kernel
theorem d_Mo_settle_16 : decode prog_8_method_8_code 16 = .ok (.isub, 1) := by decide +kernel
theorem d_Mo_settle_17 : decode prog_8_method_8_code 17 = .ok (.iaload, 1) := by decide +kernel
theorem d_Mo_settle_18 : decode prog_8_method_8_code 18 = .ok (.bipush 15, 2) := by decide +kernel
theorem d_Mo_settle_20 : decode prog_8_method_8_code 20 = .ok (.iand, 1) := by decide +kernel
theorem d_Mo_settle_21 : decode prog_8_method_8_code 21 = .ok (.invokestatic 108, 3) := by decide +kernel
theorem d_Mo_settle_24 : decode prog_8_method_8_code 24 = .ok (.iload_n 1, 1) := by decide +kernel
theorem d_Mo_settle_25 : decode prog_8_method_8_code 25 = .ok (.if_icmp .lt 69, 3) := by decide +kernel
theorem d_Mo_settle_28 : decode prog_8_method_8_code 28 = .ok (.aload_n 0, 1) := by decide +kernel
theorem d_Mo_settle_29 : decode prog_8_method_8_code 29 = .ok (.dup, 1) := by decide +kernel
theorem d_Mo_settle_30 : decode prog_8_method_8_code 30 = .ok (.getfield 105, 3) := by decide +kernel
theorem d_Mo_settle_33 : decode prog_8_method_8_code 33 = .ok (.iconst 1, 1) := by decide +kernel
theorem d_Mo_settle_34 : decode prog_8_method_8_code 34 = .ok (.isub, 1) := by decide +kernel
theorem d_Mo_settle_35 : decode prog_8_method_8_code 35 = .ok (.putfield 105, 3) := by decide +kernel
theorem d_Mo_settle_38 : decode prog_8_method_8_code 38 = .ok (.aload_n 0, 1) := by decide +kernel
theorem d_Mo_settle_39 : decode prog_8_method_8_code 39 = .ok (.getfield 46, 3) := by decide +kernel
theorem d_Mo_settle_42 : decode prog_8_method_8_code 42 = .ok (.aload_n 0, 1) := by decide +kernel
theorem d_Mo_settle_43 : decode prog_8_method_8_code 43 = .ok (.getfield 105, 3) := by decide +kernel
theorem d_Mo_settle_46 : decode prog_8_method_8_code 46 = .ok (.iaload, 1) := by decide +kernel
theorem d_Mo_settle_47 : decode prog_8_method_8_code 47 = .ok (.bipush 15, 2) := by decide +kernel
theorem d_Mo_settle_49 : decode prog_8_method_8_code 49 = .ok (.iand, 1) := by decide +kernel
theorem d_Mo_settle_50 : decode prog_8_method_8_code 50 = .ok (.istore_n 2, 1) := by decide +kernel
theorem d_Mo_settle_51 : decode prog_8_method_8_code 51 = .ok (.aload_n 0, 1) := by decide +kernel
theorem d_Mo_settle_52 : decode prog_8_method_8_code 52 = .ok (.invokevirtual 112, 3) := by decide +kernel
theorem d_Mo_settle_55 : decode prog_8_method_8_code 55 = .ok (.istore_n 3, 1) := by decide +kernel
theorem d_Mo_settle_56 : decode prog_8_method_8_code 56 = .ok (.iload_n 2, 1) := by decide +kernel
theorem d_Mo_settle_57 : decode prog_8_method_8_code 57 = .ok (.bipush 9, 2) := by decide +kernel
theorem d_Mo_settle_59 : decode prog_8_method_8_code 59 = .ok (.if_icmp .ge 7, 3) := by decide +kernel
theorem d_Mo_settle_62 : decode prog_8_method_8_code 62 = .ok (.iload_n 3, 1) := by decide +kernel
theorem d_Mo_settle_63 : decode prog_8_method_8_code 63 = .ok (.goto 7, 3) := by decide +kernel
theorem d_Mo_settle_66 : decode prog_8_method_8_code 66 = .ok (.aload_n 0, 1) := by decide +kernel
theorem d_Mo_settle_67 : decode prog_8_method_8_code 67 = .ok (.invokevirtual 112, 3) := by decide +kernel
theorem d_Mo_settle_70 : decode prog_8_method_8_code 70 = .ok (.istore 4, 2) := by decide +kernel
theorem d_Mo_settle_72 : decode prog_8_method_8_code 72 = .ok (.aload_n 0, 1) := by decide +kernel
theorem d_Mo_settle_73 : decode prog_8_method_8_code 73 = .ok (.iload_n 2, 1) := by decide +kernel
theorem d_Mo_settle_74 : decode prog_8_method_8_code 74 = .ok (.aload_n 0, 1) := by decide +kernel
theorem d_Mo_settle_75 : decode prog_8_method_8_code 75 = .ok (.getfield 46, 3) := by decide +kernel
theorem d_Mo_settle_78 : decode prog_8_method_8_code 78 = .ok (.aload_n 0, 1) := by decide +kernel
theorem d_Mo_settle_79 : decode prog_8_method_8_code 79 = .ok (.getfield 105, 3) := by decide +kernel
theorem d_Mo_settle_82 : decode prog_8_method_8_code 82 = .ok (.iaload, 1) := by decide +kernel
theorem d_Mo_settle_83 : decode prog_8_method_8_code 83 = .ok (.iconst 4, 1) := by decide +kernel
theorem d_Mo_settle_84 : decode prog_8_method_8_code 84 = .ok (.ishr, 1) := by decide +kernel
theorem d_Mo_settle_85 : decode prog_8_method_8_code 85 = .ok (.iload 4, 2) := by decide +kernel
theorem d_Mo_settle_87 : decode prog_8_method_8_code 87 = .ok (.iload_n 3, 1) := by decide +kernel
theorem d_Mo_settle_88 : decode prog_8_method_8_code 88 = .ok (.invokevirtual 116, 3) := by decide +kernel
theorem d_Mo_settle_91 : decode prog_8_method_8_code 91 = .ok (.goto (-91), 3) := by decide +kernel
theorem d_Mo_settle_94 : decode prog_8_method_8_code 94 = .ok (.return_, 1) := by decide +kernel
theorem d_Mo_push_0 : decode prog_8_method_9_code 0 = .ok (.aload_n 0, 1) := by decide +kernel
theorem d_Mo_push_1 : decode prog_8_method_9_code 1 = .ok (.getfield 46, 3) := by decide +kernel
theorem d_Mo_push_4 : decode prog_8_method_9_code 4 = .ok (.aload_n 0, 1) := by decide +kernel
theorem d_Mo_push_5 : decode prog_8_method_9_code 5 = .ok (.getfield 105, 3) := by decide +kernel
theorem d_Mo_push_8 : decode prog_8_method_9_code 8 = .ok (.iload_n 1, 1) := by decide +kernel
theorem d_Mo_push_9 : decode prog_8_method_9_code 9 = .ok (.bipush 16, 2) := by decide +kernel
theorem d_Mo_push_11 : decode prog_8_method_9_code 11 = .ok (.aload_n 0, 1) := by decide +kernel
theorem d_Mo_push_12 : decode prog_8_method_9_code 12 = .ok (.getfield 120, 3) := by decide +kernel
theorem d_Mo_push_15 : decode prog_8_method_9_code 15 = .ok (.imul, 1) := by decide +kernel
theorem d_Mo_push_16 : decode prog_8_method_9_code 16 = .ok (.iadd, 1) := by decide +kernel
theorem d_Mo_push_17 : decode prog_8_method_9_code 17 = .ok (.iastore, 1) := by decide +kernel
theorem d_Mo_push_18 : decode prog_8_method_9_code 18 = .ok (.aload_n 0, 1) := by decide +kernel
theorem d_Mo_push_19 : decode prog_8_method_9_code 19 = .ok (.dup, 1) := by decide +kernel
theorem d_Mo_push_20 : decode prog_8_method_9_code 20 = .ok (.getfield 105, 3) := by decide +kernel
theorem d_Mo_push_23 : decode prog_8_method_9_code 23 = .ok (.iconst 1, 1) := by decide +kernel
theorem d_Mo_push_24 : decode prog_8_method_9_code 24 = .ok (.iadd, 1) := by decide +kernel
theorem d_Mo_push_25 : decode prog_8_method_9_code 25 = .ok (.putfield 105, 3) := by decide +kernel
theorem d_Mo_push_28 : decode prog_8_method_9_code 28 = .ok (.aload_n 0, 1) := by decide +kernel
theorem d_Mo_push_29 : decode prog_8_method_9_code 29 = .ok (.iload_n 1, 1) := by decide +kernel
theorem d_Mo_push_30 : decode prog_8_method_9_code 30 = .ok (.invokestatic 123, 3) := by decide +kernel
theorem d_Mo_push_33 : decode prog_8_method_9_code 33 = .ok (.ifCond .eq 12, 3) := by decide +kernel
theorem d_Mo_push_36 : decode prog_8_method_9_code 36 = .ok (.aload_n 0, 1) := by decide +kernel
theorem d_Mo_push_37 : decode prog_8_method_9_code 37 = .ok (.getfield 120, 3) := by decide +kernel
theorem d_Mo_push_40 : decode prog_8_method_9_code 40 = .ok (.iconst 1, 1) := by decide +kernel
theorem d_Mo_push_41 : decode prog_8_method_9_code 41 = .ok (.iadd, 1) := by decide +kernel
theorem d_Mo_push_42 : decode prog_8_method_9_code 42 = .ok (.goto 7, 3) := by decide +kernel
theorem d_Mo_push_45 : decode prog_8_method_9_code 45 = .ok (.aload_n 0, 1) := by decide +kernel
theorem d_Mo_push_46 : decode prog_8_method_9_code 46 = .ok (.getfield 120, 3) := by decide +kernel
theorem d_Mo_push_49 : decode prog_8_method_9_code 49 = .ok (.putfield 120, 3) := by decide +kernel
theorem d_Mo_push_52 : decode prog_8_method_9_code 52 = .ok (.return_, 1) := by decide +kernel
theorem d_Mo_leafOf_0 : decode prog_8_method_10_code 0 = .ok (.iload_n 0, 1) := by decide +kernel
theorem d_Mo_leafOf_1 : decode prog_8_method_10_code 1 = .ok (.bipush 48, 2) := by decide +kernel
theorem d_Mo_leafOf_3 : decode prog_8_method_10_code 3 = .ok (.if_icmp .ne 7, 3) := by decide +kernel
theorem d_Mo_leafOf_6 : decode prog_8_method_10_code 6 = .ok (.iconst 0, 1) := by decide +kernel
theorem d_Mo_leafOf_7 : decode prog_8_method_10_code 7 = .ok (.goto 35, 3) := by decide +kernel
theorem d_Mo_leafOf_10 : decode prog_8_method_10_code 10 = .ok (.iload_n 0, 1) := by decide +kernel
theorem d_Mo_leafOf_11 : decode prog_8_method_10_code 11 = .ok (.bipush 49, 2) := by decide +kernel
theorem d_Mo_leafOf_13 : decode prog_8_method_10_code 13 = .ok (.if_icmp .ne 7, 3) := by decide +kernel
theorem d_Mo_leafOf_16 : decode prog_8_method_10_code 16 = .ok (.iconst 1, 1) := by decide +kernel
theorem d_Mo_leafOf_17 : decode prog_8_method_10_code 17 = .ok (.goto 25, 3) := by decide +kernel
theorem d_Mo_leafOf_20 : decode prog_8_method_10_code 20 = .ok (.iload_n 0, 1) := by decide +kernel
theorem d_Mo_leafOf_21 : decode prog_8_method_10_code 21 = .ok (.bipush 97, 2) := by decide +kernel
theorem d_Mo_leafOf_23 : decode prog_8_method_10_code 23 = .ok (.if_icmp .lt 18, 3) := by decide +kernel
theorem d_Mo_leafOf_26 : decode prog_8_method_10_code 26 = .ok (.iload_n 0, 1) := by decide +kernel
theorem d_Mo_leafOf_27 : decode prog_8_method_10_code 27 = .ok (.bipush 99, 2) := by decide +kernel
theorem d_Mo_leafOf_29 : decode prog_8_method_10_code 29 = .ok (.if_icmp .gt 12, 3) := by decide +kernel
theorem d_Mo_leafOf_32 : decode prog_8_method_10_code 32 = .ok (.iconst 2, 1) := by decide +kernel
theorem d_Mo_leafOf_33 : decode prog_8_method_10_code 33 = .ok (.iload_n 0, 1) := by decide +kernel
theorem d_Mo_leafOf_34 : decode prog_8_method_10_code 34 = .ok (.iadd, 1) := by decide +kernel
theorem d_Mo_leafOf_35 : decode prog_8_method_10_code 35 = .ok (.bipush 97, 2) := by decide +kernel
theorem d_Mo_leafOf_37 : decode prog_8_method_10_code 37 = .ok (.isub, 1) := by decide +kernel
theorem d_Mo_leafOf_38 : decode prog_8_method_10_code 38 = .ok (.goto 4, 3) := by decide +kernel
theorem d_Mo_leafOf_41 : decode prog_8_method_10_code 41 = .ok (.iconst (-1), 1) := by decide +kernel
theorem d_Mo_leafOf_42 : decode prog_8_method_10_code 42 = .ok (.ireturn, 1) := by decide +kernel
theorem d_Mo_prefixOf_0 : decode prog_8_method_11_code 0 = .ok (.iload_n 0, 1) := by decide +kernel
theorem d_Mo_prefixOf_1 : decode prog_8_method_11_code 1 = .ok (.bipush 33, 2) := by decide +kernel
theorem d_Mo_prefixOf_3 : decode prog_8_method_11_code 3 = .ok (.if_icmp .ne 7, 3) := by decide +kernel
theorem d_Mo_prefixOf_6 : decode prog_8_method_11_code 6 = .ok (.iconst 5, 1) := by decide +kernel
theorem d_Mo_prefixOf_7 : decode prog_8_method_11_code 7 = .ok (.goto 37, 3) := by decide +kernel
theorem d_Mo_prefixOf_10 : decode prog_8_method_11_code 10 = .ok (.iload_n 0, 1) := by decide +kernel
theorem d_Mo_prefixOf_11 : decode prog_8_method_11_code 11 = .ok (.bipush 88, 2) := by decide +kernel
theorem d_Mo_prefixOf_13 : decode prog_8_method_11_code 13 = .ok (.if_icmp .ne 8, 3) := by decide +kernel
theorem d_Mo_prefixOf_16 : decode prog_8_method_11_code 16 = .ok (.bipush 6, 2) := by decide +kernel
theorem d_Mo_prefixOf_18 : decode prog_8_method_11_code 18 = .ok (.goto 26, 3) := by decide +kernel
theorem d_Mo_prefixOf_21 : decode prog_8_method_11_code 21 = .ok (.iload_n 0, 1) := by decide +kernel
theorem d_Mo_prefixOf_22 : decode prog_8_method_11_code 22 = .ok (.bipush 70, 2) := by decide +kernel
theorem d_Mo_prefixOf_24 : decode prog_8_method_11_code 24 = .ok (.if_icmp .ne 8, 3) := by decide +kernel
theorem d_Mo_prefixOf_27 : decode prog_8_method_11_code 27 = .ok (.bipush 7, 2) := by decide +kernel
theorem d_Mo_prefixOf_29 : decode prog_8_method_11_code 29 = .ok (.goto 15, 3) := by decide +kernel
theorem d_Mo_prefixOf_32 : decode prog_8_method_11_code 32 = .ok (.iload_n 0, 1) := by decide +kernel
theorem d_Mo_prefixOf_33 : decode prog_8_method_11_code 33 = .ok (.bipush 71, 2) := by decide +kernel
theorem d_Mo_prefixOf_35 : decode prog_8_method_11_code 35 = .ok (.if_icmp .ne 8, 3) := by decide +kernel
theorem d_Mo_prefixOf_38 : decode prog_8_method_11_code 38 = .ok (.bipush 8, 2) := by decide +kernel
theorem d_Mo_prefixOf_40 : decode prog_8_method_11_code 40 = .ok (.goto 4, 3) := by decide +kernel
theorem d_Mo_prefixOf_43 : decode prog_8_method_11_code 43 = .ok (.iconst (-1), 1) := by decide +kernel
theorem d_Mo_prefixOf_44 : decode prog_8_method_11_code 44 = .ok (.ireturn, 1) := by decide +kernel
theorem d_Mo_signOf_0 : decode prog_8_method_12_code 0 = .ok (.iload_n 0, 1) := by decide +kernel
theorem d_Mo_signOf_1 : decode prog_8_method_12_code 1 = .ok (.bipush 85, 2) := by decide +kernel
theorem d_Mo_signOf_3 : decode prog_8_method_12_code 3 = .ok (.if_icmp .ne 8, 3) := by decide +kernel
theorem d_Mo_signOf_6 : decode prog_8_method_12_code 6 = .ok (.bipush 9, 2) := by decide +kernel
theorem d_Mo_signOf_8 : decode prog_8_method_12_code 8 = .ok (.goto 48, 3) := by decide +kernel
theorem d_Mo_signOf_11 : decode prog_8_method_12_code 11 = .ok (.iload_n 0, 1) := by decide +kernel
theorem d_Mo_signOf_12 : decode prog_8_method_12_code 12 = .ok (.bipush 82, 2) := by decide +kernel
theorem d_Mo_signOf_14 : decode prog_8_method_12_code 14 = .ok (.if_icmp .ne 8, 3) := by decide +kernel
theorem d_Mo_signOf_17 : decode prog_8_method_12_code 17 = .ok (.bipush 10, 2) := by decide +kernel
theorem d_Mo_signOf_19 : decode prog_8_method_12_code 19 = .ok (.goto 37, 3) := by decide +kernel
theorem d_Mo_signOf_22 : decode prog_8_method_12_code 22 = .ok (.iload_n 0, 1) := by decide +kernel
theorem d_Mo_signOf_23 : decode prog_8_method_12_code 23 = .ok (.bipush 38, 2) := by decide +kernel
theorem d_Mo_signOf_25 : decode prog_8_method_12_code 25 = .ok (.if_icmp .ne 8, 3) := by decide +kernel
theorem d_Mo_signOf_28 : decode prog_8_method_12_code 28 = .ok (.bipush 11, 2) := by decide +kernel
theorem d_Mo_signOf_30 : decode prog_8_method_12_code 30 = .ok (.goto 26, 3) := by decide +kernel
theorem d_Mo_signOf_33 : decode prog_8_method_12_code 33 = .ok (.iload_n 0, 1) := by decide +kernel
theorem d_Mo_signOf_34 : decode prog_8_method_12_code 34 = .ok (.bipush 124, 2) := by decide +kernel
theorem d_Mo_signOf_36 : decode prog_8_method_12_code 36 = .ok (.if_icmp .ne 8, 3) := by decide +kernel
theorem d_Mo_signOf_39 : decode prog_8_method_12_code 39 = .ok (.bipush 12, 2) := by decide +kernel
theorem d_Mo_signOf_41 : decode prog_8_method_12_code 41 = .ok (.goto 15, 3) := by decide +kernel
theorem d_Mo_signOf_44 : decode prog_8_method_12_code 44 = .ok (.iload_n 0, 1) := by decide +kernel
theorem d_Mo_signOf_45 : decode prog_8_method_12_code 45 = .ok (.bipush 62, 2) := by decide +kernel
theorem d_Mo_signOf_47 : decode prog_8_method_12_code 47 = .ok (.if_icmp .ne 8, 3) := by decide +kernel
theorem d_Mo_signOf_50 : decode prog_8_method_12_code 50 = .ok (.bipush 13, 2) := by decide +kernel
theorem d_Mo_signOf_52 : decode prog_8_method_12_code 52 = .ok (.goto 4, 3) := by decide +kernel
theorem d_Mo_signOf_55 : decode prog_8_method_12_code 55 = .ok (.iconst (-1), 1) := by decide +kernel
theorem d_Mo_signOf_56 : decode prog_8_method_12_code 56 = .ok (.ireturn, 1) := by decide +kernel
theorem d_Mo_reads_0 : decode prog_8_method_13_code 0 = .ok (.aload_n 0, 1) := by decide +kernel
theorem d_Mo_reads_1 : decode prog_8_method_13_code 1 = .ok (.iconst 0, 1) := by decide +kernel
theorem d_Mo_reads_2 : decode prog_8_method_13_code 2 = .ok (.putfield 99, 3) := by decide +kernel
theorem d_Mo_reads_5 : decode prog_8_method_13_code 5 = .ok (.aload_n 0, 1) := by decide +kernel
theorem d_Mo_reads_6 : decode prog_8_method_13_code 6 = .ok (.iconst 0, 1) := by decide +kernel
theorem d_Mo_reads_7 : decode prog_8_method_13_code 7 = .ok (.putfield 120, 3) := by decide +kernel
theorem d_Mo_reads_10 : decode prog_8_method_13_code 10 = .ok (.aload_n 0, 1) := by decide +kernel
theorem d_Mo_reads_11 : decode prog_8_method_13_code 11 = .ok (.iconst 0, 1) := by decide +kernel
theorem d_Mo_reads_12 : decode prog_8_method_13_code 12 = .ok (.putfield 102, 3) := by decide +kernel
theorem d_Mo_reads_15 : decode prog_8_method_13_code 15 = .ok (.aload_n 0, 1) := by decide +kernel
theorem d_Mo_reads_16 : decode prog_8_method_13_code 16 = .ok (.iconst 0, 1) := by decide +kernel
theorem d_Mo_reads_17 : decode prog_8_method_13_code 17 = .ok (.putfield 105, 3) := by decide +kernel
theorem d_Mo_reads_20 : decode prog_8_method_13_code 20 = .ok (.iconst 0, 1) := by decide +kernel
theorem d_Mo_reads_21 : decode prog_8_method_13_code 21 = .ok (.istore_n 2, 1) := by decide +kernel
theorem d_Mo_reads_22 : decode prog_8_method_13_code 22 = .ok (.iconst 0, 1) := by decide +kernel
theorem d_Mo_reads_23 : decode prog_8_method_13_code 23 = .ok (.istore_n 3, 1) := by decide +kernel
theorem d_Mo_reads_24 : decode prog_8_method_13_code 24 = .ok (.iconst 1, 1) := by decide +kernel
theorem d_Mo_reads_25 : decode prog_8_method_13_code 25 = .ok (.istore 4, 2) := by decide +kernel
theorem d_Mo_reads_27 : decode prog_8_method_13_code 27 = .ok (.iconst 0, 1) := by decide +kernel
theorem d_Mo_reads_28 : decode prog_8_method_13_code 28 = .ok (.istore 5, 2) := by decide +kernel
theorem d_Mo_reads_30 : decode prog_8_method_13_code 30 = .ok (.iload 5, 2) := by decide +kernel
theorem d_Mo_reads_32 : decode prog_8_method_13_code 32 = .ok (.iload_n 1, 1) := by decide +kernel
theorem d_Mo_reads_33 : decode prog_8_method_13_code 33 = .ok (.if_icmp .ge 263, 3) := by decide +kernel
theorem d_Mo_reads_36 : decode prog_8_method_13_code 36 = .ok (.iload 4, 2) := by decide +kernel
theorem d_Mo_reads_38 : decode prog_8_method_13_code 38 = .ok (.ifCond .eq 258, 3) := by decide +kernel
theorem d_Mo_reads_41 : decode prog_8_method_13_code 41 = .ok (.aload_n 0, 1) := by decide +kernel
theorem d_Mo_reads_42 : decode prog_8_method_13_code 42 = .ok (.getfield 7, 3) := by decide +kernel
theorem d_Mo_reads_45 : decode prog_8_method_13_code 45 = .ok (.iload 5, 2) := by decide +kernel
theorem d_Mo_reads_47 : decode prog_8_method_13_code 47 = .ok (.iaload, 1) := by decide +kernel
theorem d_Mo_reads_48 : decode prog_8_method_13_code 48 = .ok (.istore 6, 2) := by decide +kernel
theorem d_Mo_reads_50 : decode prog_8_method_13_code 50 = .ok (.iload_n 3, 1) := by decide +kernel
theorem d_Mo_reads_51 : decode prog_8_method_13_code 51 = .ok (.ifCond .ne 118, 3) := by decide +kernel
theorem d_Mo_reads_54 : decode prog_8_method_13_code 54 = .ok (.iload 6, 2) := by decide +kernel
theorem d_Mo_reads_56 : decode prog_8_method_13_code 56 = .ok (.invokestatic 127, 3) := by decide +kernel
theorem d_Mo_reads_59 : decode prog_8_method_13_code 59 = .ok (.ifCond .lt 7, 3) := by decide +kernel
theorem d_Mo_reads_62 : decode prog_8_method_13_code 62 = .ok (.iconst 1, 1) := by decide +kernel
theorem d_Mo_reads_63 : decode prog_8_method_13_code 63 = .ok (.goto 4, 3) := by decide +kernel
theorem d_Mo_reads_66 : decode prog_8_method_13_code 66 = .ok (.iconst 0, 1) := by decide +kernel
theorem d_Mo_reads_67 : decode prog_8_method_13_code 67 = .ok (.istore_n 3, 1) := by decide +kernel
theorem d_Mo_reads_68 : decode prog_8_method_13_code 68 = .ok (.iload_n 3, 1) := by decide +kernel
theorem d_Mo_reads_69 : decode prog_8_method_13_code 69 = .ok (.ifCond .eq 18, 3) := by decide +kernel
theorem d_Mo_reads_72 : decode prog_8_method_13_code 72 = .ok (.aload_n 0, 1) := by decide +kernel
theorem d_Mo_reads_73 : decode prog_8_method_13_code 73 = .ok (.iload 6, 2) := by decide +kernel
theorem d_Mo_reads_75 : decode prog_8_method_13_code 75 = .ok (.invokestatic 127, 3) := by decide +kernel
theorem d_Mo_reads_78 : decode prog_8_method_13_code 78 = .ok (.iconst 0, 1) := by decide +kernel
theorem d_Mo_reads_79 : decode prog_8_method_13_code 79 = .ok (.iconst (-1), 1) := by decide +kernel
theorem d_Mo_reads_80 : decode prog_8_method_13_code 80 = .ok (.iconst (-1), 1) := by decide +kernel
theorem d_Mo_reads_81 : decode prog_8_method_13_code 81 = .ok (.invokevirtual 116, 3) := by decide +kernel
theorem d_Mo_reads_84 : decode prog_8_method_13_code 84 = .ok (.goto 206, 3) := by decide +kernel
theorem d_Mo_reads_87 : decode prog_8_method_13_code 87 = .ok (.iload 6, 2) := by decide +kernel
theorem d_Mo_reads_89 : decode prog_8_method_13_code 89 = .ok (.bipush 40, 2) := by decide +kernel
theorem d_Mo_reads_91 : decode prog_8_method_13_code 91 = .ok (.if_icmp .ne 42, 3) := by decide +kernel
theorem d_Mo_reads_94 : decode prog_8_method_13_code 94 = .ok (.aload_n 0, 1) := by decide +kernel
theorem d_Mo_reads_95 : decode prog_8_method_13_code 95 = .ok (.getfield 46, 3) := by decide +kernel
theorem d_Mo_reads_98 : decode prog_8_method_13_code 98 = .ok (.aload_n 0, 1) := by decide +kernel
theorem d_Mo_reads_99 : decode prog_8_method_13_code 99 = .ok (.getfield 105, 3) := by decide +kernel
theorem d_Mo_reads_102 : decode prog_8_method_13_code 102 = .ok (.bipush 14, 2) := by decide +kernel
theorem d_Mo_reads_104 : decode prog_8_method_13_code 104 = .ok (.iastore, 1) := by decide +kernel
theorem d_Mo_reads_105 : decode prog_8_method_13_code 105 = .ok (.aload_n 0, 1) := by decide +kernel
theorem d_Mo_reads_106 : decode prog_8_method_13_code 106 = .ok (.dup, 1) := by decide +kernel
theorem d_Mo_reads_107 : decode prog_8_method_13_code 107 = .ok (.getfield 105, 3) := by decide +kernel
theorem d_Mo_reads_110 : decode prog_8_method_13_code 110 = .ok (.iconst 1, 1) := by decide +kernel
theorem d_Mo_reads_111 : decode prog_8_method_13_code 111 = .ok (.iadd, 1) := by decide +kernel
theorem d_Mo_reads_112 : decode prog_8_method_13_code 112 = .ok (.putfield 105, 3) := by decide +kernel
theorem d_Mo_reads_115 : decode prog_8_method_13_code 115 = .ok (.iinc 2 1, 3) := by decide +kernel
theorem d_Mo_reads_118 : decode prog_8_method_13_code 118 = .ok (.iload_n 2, 1) := by decide +kernel
theorem d_Mo_reads_119 : decode prog_8_method_13_code 119 = .ok (.iconst 5, 1) := by decide +kernel
theorem d_Mo_reads_120 : decode prog_8_method_13_code 120 = .ok (.if_icmp .ge 7, 3) := by decide +kernel
theorem d_Mo_reads_123 : decode prog_8_method_13_code 123 = .ok (.iconst 1, 1) := by decide +kernel
theorem d_Mo_reads_124 : decode prog_8_method_13_code 124 = .ok (.goto 4, 3) := by decide +kernel
theorem d_Mo_reads_127 : decode prog_8_method_13_code 127 = .ok (.iconst 0, 1) := by decide +kernel
theorem d_Mo_reads_128 : decode prog_8_method_13_code 128 = .ok (.istore 4, 2) := by decide +kernel
theorem d_Mo_reads_130 : decode prog_8_method_13_code 130 = .ok (.goto 160, 3) := by decide +kernel
theorem d_Mo_reads_133 : decode prog_8_method_13_code 133 = .ok (.iload 6, 2) := by decide +kernel
theorem d_Mo_reads_135 : decode prog_8_method_13_code 135 = .ok (.invokestatic 130, 3) := by decide +kernel
theorem d_Mo_reads_138 : decode prog_8_method_13_code 138 = .ok (.ifCond .lt 7, 3) := by decide +kernel
theorem d_Mo_reads_141 : decode prog_8_method_13_code 141 = .ok (.iconst 1, 1) := by decide +kernel
theorem d_Mo_reads_142 : decode prog_8_method_13_code 142 = .ok (.goto 4, 3) := by decide +kernel
theorem d_Mo_reads_145 : decode prog_8_method_13_code 145 = .ok (.iconst 0, 1) := by decide +kernel
theorem d_Mo_reads_146 : decode prog_8_method_13_code 146 = .ok (.istore 4, 2) := by decide +kernel
theorem d_Mo_reads_148 : decode prog_8_method_13_code 148 = .ok (.aload_n 0, 1) := by decide +kernel
theorem d_Mo_reads_149 : decode prog_8_method_13_code 149 = .ok (.iload 4, 2) := by decide +kernel
theorem d_Mo_reads_151 : decode prog_8_method_13_code 151 = .ok (.ifCond .eq 11, 3) := by decide +kernel
theorem d_Mo_reads_154 : decode prog_8_method_13_code 154 = .ok (.iload 6, 2) := by decide +kernel
theorem d_Mo_reads_156 : decode prog_8_method_13_code 156 = .ok (.invokestatic 130, 3) := by decide +kernel
theorem d_Mo_reads_159 : decode prog_8_method_13_code 159 = .ok (.goto 4, 3) := by decide +kernel
theorem d_Mo_reads_162 : decode prog_8_method_13_code 162 = .ok (.iconst 5, 1) := by decide +kernel
theorem d_Mo_reads_163 : decode prog_8_method_13_code 163 = .ok (.invokevirtual 133, 3) := by decide +kernel
theorem d_Mo_reads_166 : decode prog_8_method_13_code 166 = .ok (.goto 124, 3) := by decide +kernel
theorem d_Mo_reads_169 : decode prog_8_method_13_code 169 = .ok (.iload 6, 2) := by decide +kernel
theorem d_Mo_reads_171 : decode prog_8_method_13_code 171 = .ok (.bipush 41, 2) := by decide +kernel
theorem d_Mo_reads_173 : decode prog_8_method_13_code 173 = .ok (.if_icmp .ne 47, 3) := by decide +kernel
theorem d_Mo_reads_176 : decode prog_8_method_13_code 176 = .ok (.aload_n 0, 1) := by decide +kernel
theorem d_Mo_reads_177 : decode prog_8_method_13_code 177 = .ok (.iconst 1, 1) := by decide +kernel
theorem d_Mo_reads_178 : decode prog_8_method_13_code 178 = .ok (.invokevirtual 137, 3) := by decide +kernel
theorem d_Mo_reads_181 : decode prog_8_method_13_code 181 = .ok (.aload_n 0, 1) := by decide +kernel
theorem d_Mo_reads_182 : decode prog_8_method_13_code 182 = .ok (.getfield 105, 3) := by decide +kernel
theorem d_Mo_reads_185 : decode prog_8_method_13_code 185 = .ok (.ifCond .le 7, 3) := by decide +kernel
theorem d_Mo_reads_188 : decode prog_8_method_13_code 188 = .ok (.iconst 1, 1) := by decide +kernel
theorem d_Mo_reads_189 : decode prog_8_method_13_code 189 = .ok (.goto 4, 3) := by decide +kernel
theorem d_Mo_reads_192 : decode prog_8_method_13_code 192 = .ok (.iconst 0, 1) := by decide +kernel
theorem d_Mo_reads_193 : decode prog_8_method_13_code 193 = .ok (.istore 4, 2) := by decide +kernel
theorem d_Mo_reads_195 : decode prog_8_method_13_code 195 = .ok (.aload_n 0, 1) := by decide +kernel
theorem d_Mo_reads_196 : decode prog_8_method_13_code 196 = .ok (.iload 4, 2) := by decide +kernel
theorem d_Mo_reads_198 : decode prog_8_method_13_code 198 = .ok (.ifCond .eq 12, 3) := by decide +kernel
theorem d_Mo_reads_201 : decode prog_8_method_13_code 201 = .ok (.aload_n 0, 1) := by decide +kernel
theorem d_Mo_reads_202 : decode prog_8_method_13_code 202 = .ok (.getfield 105, 3) := by decide +kernel
theorem d_Mo_reads_205 : decode prog_8_method_13_code 205 = .ok (.iconst 1, 1) := by decide +kernel
theorem d_Mo_reads_206 : decode prog_8_method_13_code 206 = .ok (.isub, 1) := by decide +kernel
theorem d_Mo_reads_207 : decode prog_8_method_13_code 207 = .ok (.goto 4, 3) := by decide +kernel
theorem d_Mo_reads_210 : decode prog_8_method_13_code 210 = .ok (.iconst 0, 1) := by decide +kernel
theorem d_Mo_reads_211 : decode prog_8_method_13_code 211 = .ok (.putfield 105, 3) := by decide +kernel
theorem d_Mo_reads_214 : decode prog_8_method_13_code 214 = .ok (.iinc 2 (-1), 3) := by decide +kernel
theorem d_Mo_reads_217 : decode prog_8_method_13_code 217 = .ok (.goto 73, 3) := by decide +kernel
theorem d_Mo_reads_220 : decode prog_8_method_13_code 220 = .ok (.iload 6, 2) := by decide +kernel
theorem d_Mo_reads_222 : decode prog_8_method_13_code 222 = .ok (.invokestatic 140, 3) := by decide +kernel
theorem d_Mo_reads_225 : decode prog_8_method_13_code 225 = .ok (.istore 7, 2) := by decide +kernel
theorem d_Mo_reads_227 : decode prog_8_method_13_code 227 = .ok (.iload 7, 2) := by decide +kernel
