theorem d_Li_signAt_6 : decode prog_5_method_7_code 6 = .ok (.getfield 15, 3) := by decide +kernel
theorem d_Li_signAt_9 : decode prog_5_method_7_code 9 = .ok (.if_icmp .ge 12, 3) := by decide +kernel
theorem d_Li_signAt_12 : decode prog_5_method_7_code 12 = .ok (.aload_n 0, 1) := by decide +kernel
theorem d_Li_signAt_13 : decode prog_5_method_7_code 13 = .ok (.getfield 9, 3) := by decide +kernel
theorem d_Li_signAt_16 : decode prog_5_method_7_code 16 = .ok (.iload_n 1, 1) := by decide +kernel
theorem d_Li_signAt_17 : decode prog_5_method_7_code 17 = .ok (.caload, 1) := by decide +kernel
theorem d_Li_signAt_18 : decode prog_5_method_7_code 18 = .ok (.goto 4, 3) := by decide +kernel
theorem d_Li_signAt_21 : decode prog_5_method_7_code 21 = .ok (.iconst 0, 1) := by decide +kernel
theorem d_Li_signAt_22 : decode prog_5_method_7_code 22 = .ok (.ireturn, 1) := by decide +kernel
theorem d_Li_temporalsBefore_0 : decode prog_5_method_8_code 0 = .ok (.iconst 0, 1) := by decide +kernel
theorem d_Li_temporalsBefore_1 : decode prog_5_method_8_code 1 = .ok (.istore_n 2, 1) := by decide +kernel
theorem d_Li_temporalsBefore_2 : decode prog_5_method_8_code 2 = .ok (.iconst 0, 1) := by decide +kernel
theorem d_Li_temporalsBefore_3 : decode prog_5_method_8_code 3 = .ok (.istore_n 3, 1) := by decide +kernel
theorem d_Li_temporalsBefore_4 : decode prog_5_method_8_code 4 = .ok (.iload_n 3, 1) := by decide +kernel
theorem d_Li_temporalsBefore_5 : decode prog_5_method_8_code 5 = .ok (.iload_n 1, 1) := by decide +kernel
theorem d_Li_temporalsBefore_6 : decode prog_5_method_8_code 6 = .ok (.if_icmp .ge 23, 3) := by decide +kernel
theorem d_Li_temporalsBefore_9 : decode prog_5_method_8_code 9 = .ok (.aload_n 0, 1) := by decide +kernel
theorem d_Li_temporalsBefore_10 : decode prog_5_method_8_code 10 = .ok (.iload_n 3, 1) := by decide +kernel
theorem d_Li_temporalsBefore_11 : decode prog_5_method_8_code 11 = .ok (.invokevirtual 26, 3) := by decide +kernel
theorem d_Li_temporalsBefore_14 : decode prog_5_method_8_code 14 = .ok (.invokestatic 30, 3) := by decide +kernel
theorem d_Li_temporalsBefore_17 : decode prog_5_method_8_code 17 = .ok (.ifCond .eq 6, 3) := by decide +kernel
theorem d_Li_temporalsBefore_20 : decode prog_5_method_8_code 20 = .ok (.iinc 2 1, 3) := by decide +kernel
theorem d_Li_temporalsBefore_23 : decode prog_5_method_8_code 23 = .ok (.iinc 3 1, 3) := by decide +kernel
theorem d_Li_temporalsBefore_26 : decode prog_5_method_8_code 26 = .ok (.goto (-22), 3) := by decide +kernel
theorem d_Li_temporalsBefore_29 : decode prog_5_method_8_code 29 = .ok (.iload_n 2, 1) := by decide +kernel
theorem d_Li_temporalsBefore_30 : decode prog_5_method_8_code 30 = .ok (.ireturn, 1) := by decide +kernel
theorem d_Li_readInto_0 : decode prog_5_method_9_code 0 = .ok (.aload_n 1, 1) := by decide +kernel
theorem d_Li_readInto_1 : decode prog_5_method_9_code 1 = .ok (.invokevirtual 34, 3) := by decide +kernel
theorem d_Li_readInto_4 : decode prog_5_method_9_code 4 = .ok (.aload_n 0, 1) := by decide +kernel
theorem d_Li_readInto_5 : decode prog_5_method_9_code 5 = .ok (.iconst 0, 1) := by decide +kernel
theorem d_Li_readInto_6 : decode prog_5_method_9_code 6 = .ok (.putfield 19, 3) := by decide +kernel
theorem d_Li_readInto_9 : decode prog_5_method_9_code 9 = .ok (.aload_n 0, 1) := by decide +kernel
theorem d_Li_readInto_10 : decode prog_5_method_9_code 10 = .ok (.aload_n 0, 1) := by decide +kernel
theorem d_Li_readInto_11 : decode prog_5_method_9_code 11 = .ok (.getfield 15, 3) := by decide +kernel
theorem d_Li_readInto_14 : decode prog_5_method_9_code 14 = .ok (.invokevirtual 39, 3) := by decide +kernel
theorem d_Li_readInto_17 : decode prog_5_method_9_code 17 = .ok (.iconst 5, 1) := by decide +kernel
theorem d_Li_readInto_18 : decode prog_5_method_9_code 18 = .ok (.if_icmp .le 5, 3) := by decide +kernel
theorem d_Li_readInto_21 : decode prog_5_method_9_code 21 = .ok (.iconst 0, 1) := by decide +kernel
theorem d_Li_readInto_22 : decode prog_5_method_9_code 22 = .ok (.ireturn, 1) := by decide +kernel
theorem d_Li_readInto_23 : decode prog_5_method_9_code 23 = .ok (.aload_n 0, 1) := by decide +kernel
theorem d_Li_readInto_24 : decode prog_5_method_9_code 24 = .ok (.aload_n 1, 1) := by decide +kernel
theorem d_Li_readInto_25 : decode prog_5_method_9_code 25 = .ok (.iconst 0, 1) := by decide +kernel
theorem d_Li_readInto_26 : decode prog_5_method_9_code 26 = .ok (.iconst 0, 1) := by decide +kernel
theorem d_Li_readInto_27 : decode prog_5_method_9_code 27 = .ok (.invokevirtual 42, 3) := by decide +kernel
theorem d_Li_readInto_30 : decode prog_5_method_9_code 30 = .ok (.istore_n 2, 1) := by decide +kernel
theorem d_Li_readInto_31 : decode prog_5_method_9_code 31 = .ok (.iload_n 2, 1) := by decide +kernel
theorem d_Li_readInto_32 : decode prog_5_method_9_code 32 = .ok (.iconst (-1), 1) := by decide +kernel
theorem d_Li_readInto_33 : decode prog_5_method_9_code 33 = .ok (.if_icmp .eq 14, 3) := by decide +kernel
theorem d_Li_readInto_36 : decode prog_5_method_9_code 36 = .ok (.aload_n 0, 1) := by decide +kernel
theorem d_Li_readInto_37 : decode prog_5_method_9_code 37 = .ok (.getfield 19, 3) := by decide +kernel
theorem d_Li_readInto_40 : decode prog_5_method_9_code 40 = .ok (.aload_n 0, 1) := by decide +kernel
theorem d_Li_readInto_41 : decode prog_5_method_9_code 41 = .ok (.getfield 15, 3) := by decide +kernel
theorem d_Li_readInto_44 : decode prog_5_method_9_code 44 = .ok (.if_icmp .eq 5, 3) := by decide +kernel
theorem d_Li_readInto_47 : decode prog_5_method_9_code 47 = .ok (.iconst 0, 1) := by decide +kernel
theorem d_Li_readInto_48 : decode prog_5_method_9_code 48 = .ok (.ireturn, 1) := by decide +kernel
theorem d_Li_readInto_49 : decode prog_5_method_9_code 49 = .ok (.aload_n 1, 1) := by decide +kernel
theorem d_Li_readInto_50 : decode prog_5_method_9_code 50 = .ok (.invokevirtual 46, 3) := by decide +kernel
theorem d_Li_readInto_53 : decode prog_5_method_9_code 53 = .ok (.iconst 1, 1) := by decide +kernel
theorem d_Li_readInto_54 : decode prog_5_method_9_code 54 = .ok (.ireturn, 1) := by decide +kernel
theorem d_Li_readLevel_0 : decode prog_5_method_10_code 0 = .ok (.iload_n 2, 1) := by decide +kernel
theorem d_Li_readLevel_1 : decode prog_5_method_10_code 1 = .ok (.iconst 4, 1) := by decide +kernel
theorem d_Li_readLevel_2 : decode prog_5_method_10_code 2 = .ok (.if_icmp .lt 10, 3) := by decide +kernel
theorem d_Li_readLevel_5 : decode prog_5_method_10_code 5 = .ok (.aload_n 0, 1) := by decide +kernel
theorem d_Li_readLevel_6 : decode prog_5_method_10_code 6 = .ok (.aload_n 1, 1) := by decide +kernel
theorem d_Li_readLevel_7 : decode prog_5_method_10_code 7 = .ok (.iload_n 3, 1) := by decide +kernel
theorem d_Li_readLevel_8 : decode prog_5_method_10_code 8 = .ok (.invokevirtual 49, 3) := by decide +kernel
theorem d_Li_readLevel_11 : decode prog_5_method_10_code 11 = .ok (.ireturn, 1) := by decide +kernel
theorem d_Li_readLevel_12 : decode prog_5_method_10_code 12 = .ok (.aload_n 0, 1) := by decide +kernel
theorem d_Li_readLevel_13 : decode prog_5_method_10_code 13 = .ok (.aload_n 1, 1) := by decide +kernel
theorem d_Li_readLevel_14 : decode prog_5_method_10_code 14 = .ok (.iload_n 2, 1) := by decide +kernel
theorem d_Li_readLevel_15 : decode prog_5_method_10_code 15 = .ok (.iconst 1, 1) := by decide +kernel
theorem d_Li_readLevel_16 : decode prog_5_method_10_code 16 = .ok (.iadd, 1) := by decide +kernel
theorem d_Li_readLevel_17 : decode prog_5_method_10_code 17 = .ok (.iload_n 3, 1) := by decide +kernel
theorem d_Li_readLevel_18 : decode prog_5_method_10_code 18 = .ok (.invokevirtual 42, 3) := by decide +kernel
theorem d_Li_readLevel_21 : decode prog_5_method_10_code 21 = .ok (.istore 4, 2) := by decide +kernel
theorem d_Li_readLevel_23 : decode prog_5_method_10_code 23 = .ok (.aload_n 0, 1) := by decide +kernel
theorem d_Li_readLevel_24 : decode prog_5_method_10_code 24 = .ok (.aload_n 0, 1) := by decide +kernel
theorem d_Li_readLevel_25 : decode prog_5_method_10_code 25 = .ok (.getfield 19, 3) := by decide +kernel
theorem d_Li_readLevel_28 : decode prog_5_method_10_code 28 = .ok (.invokevirtual 26, 3) := by decide +kernel
theorem d_Li_readLevel_31 : decode prog_5_method_10_code 31 = .ok (.istore 5, 2) := by decide +kernel
theorem d_Li_readLevel_33 : decode prog_5_method_10_code 33 = .ok (.iload 4, 2) := by decide +kernel
theorem d_Li_readLevel_35 : decode prog_5_method_10_code 35 = .ok (.iconst (-1), 1) := by decide +kernel
theorem d_Li_readLevel_36 : decode prog_5_method_10_code 36 = .ok (.if_icmp .eq 12, 3) := by decide +kernel
theorem d_Li_readLevel_39 : decode prog_5_method_10_code 39 = .ok (.iload 5, 2) := by decide +kernel
theorem d_Li_readLevel_41 : decode prog_5_method_10_code 41 = .ok (.invokestatic 53, 3) := by decide +kernel
theorem d_Li_readLevel_44 : decode prog_5_method_10_code 44 = .ok (.iload_n 2, 1) := by decide +kernel
theorem d_Li_readLevel_45 : decode prog_5_method_10_code 45 = .ok (.if_icmp .eq 6, 3) := by decide +kernel
theorem d_Li_readLevel_48 : decode prog_5_method_10_code 48 = .ok (.iload 4, 2) := by decide +kernel
theorem d_Li_readLevel_50 : decode prog_5_method_10_code 50 = .ok (.ireturn, 1) := by decide +kernel
theorem d_Li_readLevel_51 : decode prog_5_method_10_code 51 = .ok (.aload_n 0, 1) := by decide +kernel
theorem d_Li_readLevel_52 : decode prog_5_method_10_code 52 = .ok (.aload_n 0, 1) := by decide +kernel
theorem d_Li_readLevel_53 : decode prog_5_method_10_code 53 = .ok (.getfield 19, 3) := by decide +kernel
theorem d_Li_readLevel_56 : decode prog_5_method_10_code 56 = .ok (.invokevirtual 39, 3) := by decide +kernel
theorem d_Li_readLevel_59 : decode prog_5_method_10_code 59 = .ok (.istore 6, 2) := by decide +kernel
theorem d_Li_readLevel_61 : decode prog_5_method_10_code 61 = .ok (.aload_n 0, 1) := by decide +kernel
theorem d_Li_readLevel_62 : decode prog_5_method_10_code 62 = .ok (.dup, 1) := by decide +kernel
theorem d_Li_readLevel_63 : decode prog_5_method_10_code 63 = .ok (.getfield 19, 3) := by decide +kernel
theorem d_Li_readLevel_66 : decode prog_5_method_10_code 66 = .ok (.iconst 1, 1) := by decide +kernel
theorem d_Li_readLevel_67 : decode prog_5_method_10_code 67 = .ok (.iadd, 1) := by decide +kernel
theorem d_Li_readLevel_68 : decode prog_5_method_10_code 68 = .ok (.putfield 19, 3) := by decide +kernel
theorem d_Li_readLevel_71 : decode prog_5_method_10_code 71 = .ok (.aload_n 0, 1) := by decide +kernel
theorem d_Li_readLevel_72 : decode prog_5_method_10_code 72 = .ok (.aload_n 1, 1) := by decide +kernel
theorem d_Li_readLevel_73 : decode prog_5_method_10_code 73 = .ok (.iload_n 2, 1) := by decide +kernel
theorem d_Li_readLevel_74 : decode prog_5_method_10_code 74 = .ok (.iload_n 3, 1) := by decide +kernel
theorem d_Li_readLevel_75 : decode prog_5_method_10_code 75 = .ok (.invokevirtual 42, 3) := by decide +kernel
theorem d_Li_readLevel_78 : decode prog_5_method_10_code 78 = .ok (.istore 7, 2) := by decide +kernel
theorem d_Li_readLevel_80 : decode prog_5_method_10_code 80 = .ok (.iload 7, 2) := by decide +kernel
theorem d_Li_readLevel_82 : decode prog_5_method_10_code 82 = .ok (.iconst (-1), 1) := by decide +kernel
theorem d_Li_readLevel_83 : decode prog_5_method_10_code 83 = .ok (.if_icmp .ne 7, 3) := by decide +kernel
theorem d_Li_readLevel_86 : decode prog_5_method_10_code 86 = .ok (.iconst (-1), 1) := by decide +kernel
theorem d_Li_readLevel_87 : decode prog_5_method_10_code 87 = .ok (.goto 15, 3) := by decide +kernel
theorem d_Li_readLevel_90 : decode prog_5_method_10_code 90 = .ok (.aload_n 1, 1) := by decide +kernel
theorem d_Li_readLevel_91 : decode prog_5_method_10_code 91 = .ok (.iload 5, 2) := by decide +kernel
theorem d_Li_readLevel_93 : decode prog_5_method_10_code 93 = .ok (.iload 4, 2) := by decide +kernel
theorem d_Li_readLevel_95 : decode prog_5_method_10_code 95 = .ok (.iload 7, 2) := by decide +kernel
theorem d_Li_readLevel_97 : decode prog_5_method_10_code 97 = .ok (.iload 6, 2) := by decide +kernel
theorem d_Li_readLevel_99 : decode prog_5_method_10_code 99 = .ok (.invokevirtual 56, 3) := by decide +kernel
theorem d_Li_readLevel_102 : decode prog_5_method_10_code 102 = .ok (.ireturn, 1) := by decide +kernel
theorem d_Li_readSimple_0 : decode prog_5_method_11_code 0 = .ok (.aload_n 0, 1) := by decide +kernel
theorem d_Li_readSimple_1 : decode prog_5_method_11_code 1 = .ok (.aload_n 0, 1) := by decide +kernel
theorem d_Li_readSimple_2 : decode prog_5_method_11_code 2 = .ok (.getfield 19, 3) := by decide +kernel
theorem d_Li_readSimple_5 : decode prog_5_method_11_code 5 = .ok (.invokevirtual 26, 3) := by decide +kernel
theorem d_Li_readSimple_8 : decode prog_5_method_11_code 8 = .ok (.istore_n 3, 1) := by decide +kernel
theorem d_Li_readSimple_9 : decode prog_5_method_11_code 9 = .ok (.aload_n 0, 1) := by decide +kernel
theorem d_Li_readSimple_10 : decode prog_5_method_11_code 10 = .ok (.aload_n 0, 1) := by decide +kernel
theorem d_Li_readSimple_11 : decode prog_5_method_11_code 11 = .ok (.getfield 19, 3) := by decide +kernel
theorem d_Li_readSimple_14 : decode prog_5_method_11_code 14 = .ok (.invokevirtual 39, 3) := by decide +kernel
theorem d_Li_readSimple_17 : decode prog_5_method_11_code 17 = .ok (.istore 4, 2) := by decide +kernel
theorem d_Li_readSimple_19 : decode prog_5_method_11_code 19 = .ok (.aload_n 0, 1) := by decide +kernel
theorem d_Li_readSimple_20 : decode prog_5_method_11_code 20 = .ok (.dup, 1) := by decide +kernel
theorem d_Li_readSimple_21 : decode prog_5_method_11_code 21 = .ok (.getfield 19, 3) := by decide +kernel
theorem d_Li_readSimple_24 : decode prog_5_method_11_code 24 = .ok (.iconst 1, 1) := by decide +kernel
theorem d_Li_readSimple_25 : decode prog_5_method_11_code 25 = .ok (.iadd, 1) := by decide +kernel
theorem d_Li_readSimple_26 : decode prog_5_method_11_code 26 = .ok (.putfield 19, 3) := by decide +kernel
theorem d_Li_readSimple_29 : decode prog_5_method_11_code 29 = .ok (.iload_n 3, 1) := by decide +kernel
theorem d_Li_readSimple_30 : decode prog_5_method_11_code 30 = .ok (.lookupswitch 148 #[(33, 100), (40, 130), (48, 90), (49, 90), (70, 100), (71, 100), (88, 100), (97, 90), (98, 90), (99, 90)], 90) := by decide +kernel
theorem d_Li_readSimple_120 : decode prog_5_method_11_code 120 = .ok (.aload_n 1, 1) := by decide +kernel
theorem d_Li_readSimple_121 : decode prog_5_method_11_code 121 = .ok (.iload_n 3, 1) := by decide +kernel
theorem d_Li_readSimple_122 : decode prog_5_method_11_code 122 = .ok (.iconst 0, 1) := by decide +kernel
theorem d_Li_readSimple_123 : decode prog_5_method_11_code 123 = .ok (.iconst 0, 1) := by decide +kernel
theorem d_Li_readSimple_124 : decode prog_5_method_11_code 124 = .ok (.iload 4, 2) := by decide +kernel
theorem d_Li_readSimple_126 : decode prog_5_method_11_code 126 = .ok (.invokevirtual 56, 3) := by decide +kernel
theorem d_Li_readSimple_129 : decode prog_5_method_11_code 129 = .ok (.ireturn, 1) := by decide +kernel
theorem d_Li_readSimple_130 : decode prog_5_method_11_code 130 = .ok (.aload_n 0, 1) := by decide +kernel
theorem d_Li_readSimple_131 : decode prog_5_method_11_code 131 = .ok (.aload_n 1, 1) := by decide +kernel
theorem d_Li_readSimple_132 : decode prog_5_method_11_code 132 = .ok (.iload_n 2, 1) := by decide +kernel
theorem d_Li_readSimple_133 : decode prog_5_method_11_code 133 = .ok (.invokevirtual 49, 3) := by decide +kernel
theorem d_Li_readSimple_136 : decode prog_5_method_11_code 136 = .ok (.istore 5, 2) := by decide +kernel
theorem d_Li_readSimple_138 : decode prog_5_method_11_code 138 = .ok (.iload 5, 2) := by decide +kernel
theorem d_Li_readSimple_140 : decode prog_5_method_11_code 140 = .ok (.iconst (-1), 1) := by decide +kernel
theorem d_Li_readSimple_141 : decode prog_5_method_11_code 141 = .ok (.if_icmp .ne 7, 3) := by decide +kernel
theorem d_Li_readSimple_144 : decode prog_5_method_11_code 144 = .ok (.iconst (-1), 1) := by decide +kernel
theorem d_Li_readSimple_145 : decode prog_5_method_11_code 145 = .ok (.goto 14, 3) := by decide +kernel
theorem d_Li_readSimple_148 : decode prog_5_method_11_code 148 = .ok (.aload_n 1, 1) := by decide +kernel
theorem d_Li_readSimple_149 : decode prog_5_method_11_code 149 = .ok (.iload_n 3, 1) := by decide +kernel
theorem d_Li_readSimple_150 : decode prog_5_method_11_code 150 = .ok (.iload 5, 2) := by decide +kernel
theorem d_Li_readSimple_152 : decode prog_5_method_11_code 152 = .ok (.iload 5, 2) := by decide +kernel
theorem d_Li_readSimple_154 : decode prog_5_method_11_code 154 = .ok (.iload 4, 2) := by decide +kernel
theorem d_Li_readSimple_156 : decode prog_5_method_11_code 156 = .ok (.invokevirtual 56, 3) := by decide +kernel
theorem d_Li_readSimple_159 : decode prog_5_method_11_code 159 = .ok (.ireturn, 1) := by decide +kernel
theorem d_Li_readSimple_160 : decode prog_5_method_11_code 160 = .ok (.iload_n 2, 1) := by decide +kernel
theorem d_Li_readSimple_161 : decode prog_5_method_11_code 161 = .ok (.iconst 4, 1) := by decide +kernel
theorem d_Li_readSimple_162 : decode prog_5_method_11_code 162 = .ok (.if_icmp .lt 7, 3) := by decide +kernel
theorem d_Li_readSimple_165 : decode prog_5_method_11_code 165 = .ok (.iconst (-1), 1) := by decide +kernel
theorem d_Li_readSimple_166 : decode prog_5_method_11_code 166 = .ok (.goto 11, 3) := by decide +kernel
theorem d_Li_readSimple_169 : decode prog_5_method_11_code 169 = .ok (.aload_n 0, 1) := by decide +kernel
theorem d_Li_readSimple_170 : decode prog_5_method_11_code 170 = .ok (.aload_n 1, 1) := by decide +kernel
theorem d_Li_readSimple_171 : decode prog_5_method_11_code 171 = .ok (.iload_n 2, 1) := by decide +kernel
theorem d_Li_readSimple_172 : decode prog_5_method_11_code 172 = .ok (.iconst 1, 1) := by decide +kernel
theorem d_Li_readSimple_173 : decode prog_5_method_11_code 173 = .ok (.iadd, 1) := by decide +kernel
theorem d_Li_readSimple_174 : decode prog_5_method_11_code 174 = .ok (.invokevirtual 60, 3) := by decide +kernel
theorem d_Li_readSimple_177 : decode prog_5_method_11_code 177 = .ok (.ireturn, 1) := by decide +kernel
theorem d_Li_readSimple_178 : decode prog_5_method_11_code 178 = .ok (.iconst (-1), 1) := by decide +kernel
theorem d_Li_readSimple_179 : decode prog_5_method_11_code 179 = .ok (.ireturn, 1) := by decide +kernel
theorem d_Li_readBracket_0 : decode prog_5_method_12_code 0 = .ok (.aload_n 0, 1) := by decide +kernel
theorem d_Li_readBracket_1 : decode prog_5_method_12_code 1 = .ok (.aload_n 1, 1) := by decide +kernel
theorem d_Li_readBracket_2 : decode prog_5_method_12_code 2 = .ok (.iconst 0, 1) := by decide +kernel
theorem d_Li_readBracket_3 : decode prog_5_method_12_code 3 = .ok (.iload_n 2, 1) := by decide +kernel
theorem d_Li_readBracket_4 : decode prog_5_method_12_code 4 = .ok (.invokevirtual 42, 3) := by decide +kernel
theorem d_Li_readBracket_7 : decode prog_5_method_12_code 7 = .ok (.istore_n 3, 1) := by decide +kernel
theorem d_Li_readBracket_8 : decode prog_5_method_12_code 8 = .ok (.aload_n 0, 1) := by decide +kernel
theorem d_Li_readBracket_9 : decode prog_5_method_12_code 9 = .ok (.aload_n 0, 1) := by decide +kernel
theorem d_Li_readBracket_10 : decode prog_5_method_12_code 10 = .ok (.getfield 19, 3) := by decide +kernel
theorem d_Li_readBracket_13 : decode prog_5_method_12_code 13 = .ok (.invokevirtual 26, 3) := by decide +kernel
theorem d_Li_readBracket_16 : decode prog_5_method_12_code 16 = .ok (.bipush 41, 2) := by decide +kernel
theorem d_Li_readBracket_18 : decode prog_5_method_12_code 18 = .ok (.if_icmp .eq 5, 3) := by decide +kernel
theorem d_Li_readBracket_21 : decode prog_5_method_12_code 21 = .ok (.iconst (-1), 1) := by decide +kernel
theorem d_Li_readBracket_22 : decode prog_5_method_12_code 22 = .ok (.ireturn, 1) := by decide +kernel
theorem d_Li_readBracket_23 : decode prog_5_method_12_code 23 = .ok (.aload_n 0, 1) := by decide +kernel
theorem d_Li_readBracket_24 : decode prog_5_method_12_code 24 = .ok (.dup, 1) := by decide +kernel
theorem d_Li_readBracket_25 : decode prog_5_method_12_code 25 = .ok (.getfield 19, 3) := by decide +kernel
theorem d_Li_readBracket_28 : decode prog_5_method_12_code 28 = .ok (.iconst 1, 1) := by decide +kernel
theorem d_Li_readBracket_29 : decode prog_5_method_12_code 29 = .ok (.iadd, 1) := by decide +kernel
theorem d_Li_readBracket_30 : decode prog_5_method_12_code 30 = .ok (.putfield 19, 3) := by decide +kernel
theorem d_Li_readBracket_33 : decode prog_5_method_12_code 33 = .ok (.iload_n 3, 1) := by decide +kernel
theorem d_Li_readBracket_34 : decode prog_5_method_12_code 34 = .ok (.ireturn, 1) := by decide +kernel
theorem d_Li_levelJoinedBy_0 : decode prog_5_method_13_code 0 = .ok (.iload_n 0, 1) := by decide +kernel
theorem d_Li_levelJoinedBy_1 : decode prog_5_method_13_code 1 = .ok (.lookupswitch 59 #[(38, 55), (62, 51), (82, 57), (85, 57), (124, 53)], 51) := by decide +kernel
theorem d_Li_levelJoinedBy_52 : decode prog_5_method_13_code 52 = .ok (.iconst 0, 1) := by decide +kernel
theorem d_Li_levelJoinedBy_53 : decode prog_5_method_13_code 53 = .ok (.ireturn, 1) := by decide +kernel
theorem d_Li_levelJoinedBy_54 : decode prog_5_method_13_code 54 = .ok (.iconst 1, 1) := by decide +kernel
theorem d_Li_levelJoinedBy_55 : decode prog_5_method_13_code 55 = .ok (.ireturn, 1) := by decide +kernel
theorem d_Li_levelJoinedBy_56 : decode prog_5_method_13_code 56 = .ok (.iconst 2, 1) := by decide +kernel
theorem d_Li_levelJoinedBy_57 : decode prog_5_method_13_code 57 = .ok (.ireturn, 1) := by decide +kernel
theorem d_Li_levelJoinedBy_58 : decode prog_5_method_13_code 58 = .ok (.iconst 3, 1) := by decide +kernel
theorem d_Li_levelJoinedBy_59 : decode prog_5_method_13_code 59 = .ok (.ireturn, 1) := by decide +kernel
theorem d_Li_levelJoinedBy_60 : decode prog_5_method_13_code 60 = .ok (.iconst (-1), 1) := by decide +kernel
theorem d_Li_levelJoinedBy_61 : decode prog_5_method_13_code 61 = .ok (.ireturn, 1) := by decide +kernel
theorem d_Wa_go_0 : decode prog_6_method_2_code 0 = .ok (.aload_n 0, 1) := by decide +kernel
theorem d_Wa_go_1 : decode prog_6_method_2_code 1 = .ok (.iconst (-1), 1) := by decide +kernel
theorem d_Wa_go_2 : decode prog_6_method_2_code 2 = .ok (.putfield 18, 3) := by decide +kernel
theorem d_Wa_go_5 : decode prog_6_method_2_code 5 = .ok (.aload_n 0, 1) := by decide +kernel
theorem d_Wa_go_6 : decode prog_6_method_2_code 6 = .ok (.iconst (-1), 1) := by decide +kernel
theorem d_Wa_go_7 : decode prog_6_method_2_code 7 = .ok (.putfield 22, 3) := by decide +kernel
theorem d_Wa_go_10 : decode prog_6_method_2_code 10 = .ok (.aload_n 0, 1) := by decide +kernel
theorem d_Wa_go_11 : decode prog_6_method_2_code 11 = .ok (.getfield 15, 3) := by decide +kernel
theorem d_Wa_go_14 : decode prog_6_method_2_code 14 = .ok (.iconst (-1), 1) := by decide +kernel
theorem d_Wa_go_15 : decode prog_6_method_2_code 15 = .ok (.invokestatic 25, 3) := by decide +kernel
theorem d_Wa_go_18 : decode prog_6_method_2_code 18 = .ok (.aload_n 1, 1) := by decide +kernel
theorem d_Wa_go_19 : decode prog_6_method_2_code 19 = .ok (.invokevirtual 31, 3) := by decide +kernel
theorem d_Wa_go_22 : decode prog_6_method_2_code 22 = .ok (.istore_n 2, 1) := by decide +kernel
theorem d_Wa_go_23 : decode prog_6_method_2_code 23 = .ok (.iconst 0, 1) := by decide +kernel
theorem d_Wa_go_24 : decode prog_6_method_2_code 24 = .ok (.istore_n 3, 1) := by decide +kernel
theorem d_Wa_go_25 : decode prog_6_method_2_code 25 = .ok (.iconst 0, 1) := by decide +kernel
theorem d_Wa_go_26 : decode prog_6_method_2_code 26 = .ok (.istore 4, 2) := by decide +kernel
theorem d_Wa_go_28 : decode prog_6_method_2_code 28 = .ok (.iload 4, 2) := by decide +kernel
theorem d_Wa_go_30 : decode prog_6_method_2_code 30 = .ok (.sipush 1280, 3) := by decide +kernel
theorem d_Wa_go_33 : decode prog_6_method_2_code 33 = .ok (.if_icmp .gt 86, 3) := by decide +kernel
theorem d_Wa_go_36 : decode prog_6_method_2_code 36 = .ok (.iload_n 2, 1) := by decide +kernel
theorem d_Wa_go_37 : decode prog_6_method_2_code 37 = .ok (.iconst (-1), 1) := by decide +kernel
theorem d_Wa_go_38 : decode prog_6_method_2_code 38 = .ok (.if_icmp .eq 81, 3) := by decide +kernel
theorem d_Wa_go_41 : decode prog_6_method_2_code 41 = .ok (.aload_n 1, 1) := by decide +kernel
theorem d_Wa_go_42 : decode prog_6_method_2_code 42 = .ok (.iload_n 2, 1) := by decide +kernel
theorem d_Wa_go_43 : decode prog_6_method_2_code 43 = .ok (.iload_n 3, 1) := by decide +kernel
theorem d_Wa_go_44 : decode prog_6_method_2_code 44 = .ok (.invokevirtual 37, 3) := by decide +kernel
theorem d_Wa_go_47 : decode prog_6_method_2_code 47 = .ok (.istore_n 3, 1) := by decide +kernel
theorem d_Wa_go_48 : decode prog_6_method_2_code 48 = .ok (.iload_n 2, 1) := by decide +kernel
theorem d_Wa_go_49 : decode prog_6_method_2_code 49 = .ok (.iconst 5, 1) := by decide +kernel
theorem d_Wa_go_50 : decode prog_6_method_2_code 50 = .ok (.imul, 1) := by decide +kernel
theorem d_Wa_go_51 : decode prog_6_method_2_code 51 = .ok (.iload_n 3, 1) := by decide +kernel
theorem d_Wa_go_52 : decode prog_6_method_2_code 52 = .ok (.iadd, 1) := by decide +kernel
theorem d_Wa_go_53 : decode prog_6_method_2_code 53 = .ok (.istore 5, 2) := by decide +kernel
theorem d_Wa_go_55 : decode prog_6_method_2_code 55 = .ok (.aload_n 0, 1) := by decide +kernel
theorem d_Wa_go_56 : decode prog_6_method_2_code 56 = .ok (.getfield 15, 3) := by decide +kernel
theorem d_Wa_go_59 : decode prog_6_method_2_code 59 = .ok (.iload 5, 2) := by decide +kernel
theorem d_Wa_go_61 : decode prog_6_method_2_code 61 = .ok (.iaload, 1) := by decide +kernel
theorem d_Wa_go_62 : decode prog_6_method_2_code 62 = .ok (.iconst (-1), 1) := by decide +kernel
theorem d_Wa_go_63 : decode prog_6_method_2_code 63 = .ok (.if_icmp .eq 26, 3) := by decide +kernel
theorem d_Wa_go_66 : decode prog_6_method_2_code 66 = .ok (.aload_n 0, 1) := by decide +kernel
theorem d_Wa_go_67 : decode prog_6_method_2_code 67 = .ok (.aload_n 0, 1) := by decide +kernel
theorem d_Wa_go_68 : decode prog_6_method_2_code 68 = .ok (.getfield 15, 3) := by decide +kernel
theorem d_Wa_go_71 : decode prog_6_method_2_code 71 = .ok (.iload 5, 2) := by decide +kernel
theorem d_Wa_go_73 : decode prog_6_method_2_code 73 = .ok (.iaload, 1) := by decide +kernel
theorem d_Wa_go_74 : decode prog_6_method_2_code 74 = .ok (.putfield 18, 3) := by decide +kernel
theorem d_Wa_go_77 : decode prog_6_method_2_code 77 = .ok (.aload_n 0, 1) := by decide +kernel
theorem d_Wa_go_78 : decode prog_6_method_2_code 78 = .ok (.iload 4, 2) := by decide +kernel
theorem d_Wa_go_80 : decode prog_6_method_2_code 80 = .ok (.aload_n 0, 1) := by decide +kernel
theorem d_Wa_go_81 : decode prog_6_method_2_code 81 = .ok (.getfield 18, 3) := by decide +kernel
theorem d_Wa_go_84 : decode prog_6_method_2_code 84 = .ok (.isub, 1) := by decide +kernel
theorem d_Wa_go_85 : decode prog_6_method_2_code 85 = .ok (.putfield 22, 3) := by decide +kernel
theorem d_Wa_go_88 : decode prog_6_method_2_code 88 = .ok (.return_, 1) := by decide +kernel
theorem d_Wa_go_89 : decode prog_6_method_2_code 89 = .ok (.aload_n 0, 1) := by decide +kernel
theorem d_Wa_go_90 : decode prog_6_method_2_code 90 = .ok (.getfield 15, 3) := by decide +kernel
theorem d_Wa_go_93 : decode prog_6_method_2_code 93 = .ok (.iload 5, 2) := by decide +kernel
theorem d_Wa_go_95 : decode prog_6_method_2_code 95 = .ok (.iload 4, 2) := by decide +kernel
theorem d_Wa_go_97 : decode prog_6_method_2_code 97 = .ok (.iastore, 1) := by decide +kernel
theorem d_Wa_go_98 : decode prog_6_method_2_code 98 = .ok (.aload_n 0, 1) := by decide +kernel
theorem d_Wa_go_99 : decode prog_6_method_2_code 99 = .ok (.getfield 11, 3) := by decide +kernel
theorem d_Wa_go_102 : decode prog_6_method_2_code 102 = .ok (.iload 4, 2) := by decide +kernel
theorem d_Wa_go_104 : decode prog_6_method_2_code 104 = .ok (.iload_n 2, 1) := by decide +kernel
theorem d_Wa_go_105 : decode prog_6_method_2_code 105 = .ok (.iastore, 1) := by decide +kernel
theorem d_Wa_go_106 : decode prog_6_method_2_code 106 = .ok (.aload_n 1, 1) := by decide +kernel
theorem d_Wa_go_107 : decode prog_6_method_2_code 107 = .ok (.iload_n 2, 1) := by decide +kernel
theorem d_Wa_go_108 : decode prog_6_method_2_code 108 = .ok (.iload_n 3, 1) := by decide +kernel
theorem d_Wa_go_109 : decode prog_6_method_2_code 109 = .ok (.invokevirtual 41, 3) := by decide +kernel
theorem d_Wa_go_112 : decode prog_6_method_2_code 112 = .ok (.istore_n 2, 1) := by decide +kernel
theorem d_Wa_go_113 : decode prog_6_method_2_code 113 = .ok (.iinc 4 1, 3) := by decide +kernel
theorem d_Wa_go_116 : decode prog_6_method_2_code 116 = .ok (.goto (-88), 3) := by decide +kernel
theorem d_Wa_go_119 : decode prog_6_method_2_code 119 = .ok (.return_, 1) := by decide +kernel
theorem d_Wa_exists_0 : decode prog_6_method_3_code 0 = .ok (.aload_n 0, 1) := by decide +kernel
theorem d_Wa_exists_1 : decode prog_6_method_3_code 1 = .ok (.getfield 18, 3) := by decide +kernel
theorem d_Wa_exists_4 : decode prog_6_method_3_code 4 = .ok (.iconst (-1), 1) := by decide +kernel
theorem d_Wa_exists_5 : decode prog_6_method_3_code 5 = .ok (.if_icmp .eq 7, 3) := by decide +kernel
theorem d_Wa_exists_8 : decode prog_6_method_3_code 8 = .ok (.iconst 1, 1) := by decide +kernel
theorem d_Wa_exists_9 : decode prog_6_method_3_code 9 = .ok (.goto 4, 3) := by decide +kernel
theorem d_Wa_exists_12 : decode prog_6_method_3_code 12 = .ok (.iconst 0, 1) := by decide +kernel
theorem d_Wa_exists_13 : decode prog_6_method_3_code 13 = .ok (.ireturn, 1) := by decide +kernel
theorem d_Wa_stemLength_0 : decode prog_6_method_4_code 0 = .ok (.aload_n 0, 1) := by decide +kernel
theorem d_Wa_stemLength_1 : decode prog_6_method_4_code 1 = .ok (.getfield 18, 3) := by decide +kernel
theorem d_Wa_stemLength_4 : decode prog_6_method_4_code 4 = .ok (.ireturn, 1) := by decide +kernel
theorem d_Wa_loopLength_0 : decode prog_6_method_5_code 0 = .ok (.aload_n 0, 1) := by decide +kernel
theorem d_Wa_loopLength_1 : decode prog_6_method_5_code 1 = .ok (.getfield 22, 3) := by decide +kernel
theorem d_Wa_loopLength_4 : decode prog_6_method_5_code 4 = .ok (.ireturn, 1) := by decide +kernel
theorem d_Wa_size_0 : decode prog_6_method_6_code 0 = .ok (.aload_n 0, 1) := by decide +kernel
theorem d_Wa_size_1 : decode prog_6_method_6_code 1 = .ok (.invokevirtual 44, 3) := by decide +kernel
theorem d_Wa_size_4 : decode prog_6_method_6_code 4 = .ok (.ifCond .eq 15, 3) := by decide +kernel
theorem d_Wa_size_7 : decode prog_6_method_6_code 7 = .ok (.aload_n 0, 1) := by decide +kernel
theorem d_Wa_size_8 : decode prog_6_method_6_code 8 = .ok (.getfield 18, 3) := by decide +kernel
theorem d_Wa_size_11 : decode prog_6_method_6_code 11 = .ok (.aload_n 0, 1) := by decide +kernel
theorem d_Wa_size_12 : decode prog_6_method_6_code 12 = .ok (.getfield 22, 3) := by decide +kernel
theorem d_Wa_size_15 : decode prog_6_method_6_code 15 = .ok (.iadd, 1) := by decide +kernel
theorem d_Wa_size_16 : decode prog_6_method_6_code 16 = .ok (.goto 4, 3) := by decide +kernel
theorem d_Wa_size_19 : decode prog_6_method_6_code 19 = .ok (.iconst 0, 1) := by decide +kernel
theorem d_Wa_size_20 : decode prog_6_method_6_code 20 = .ok (.ireturn, 1) := by decide +kernel
theorem d_Wa_stateAt_0 : decode prog_6_method_7_code 0 = .ok (.aload_n 0, 1) := by decide +kernel
theorem d_Wa_stateAt_1 : decode prog_6_method_7_code 1 = .ok (.getfield 11, 3) := by decide +kernel
theorem d_Wa_stateAt_4 : decode prog_6_method_7_code 4 = .ok (.iload_n 1, 1) := by decide +kernel
theorem d_Wa_stateAt_5 : decode prog_6_method_7_code 5 = .ok (.iaload, 1) := by decide +kernel
theorem d_Wa_stateAt_6 : decode prog_6_method_7_code 6 = .ok (.ireturn, 1) := by decide +kernel
theorem d_Lw_type_0 : decode method_3_code 0 = .ok (.aload_n 2, 1) := by decide +kernel
theorem d_Lw_type_1 : decode method_3_code 1 = .ok (.iconst 0, 1) := by decide +kernel
theorem d_Lw_type_2 : decode method_3_code 2 = .ok (.aload_n 0, 1) := by decide +kernel
theorem d_Lw_type_3 : decode method_3_code 3 = .ok (.iload_n 1, 1) := by decide +kernel
theorem d_Lw_type_4 : decode method_3_code 4 = .ok (.invokevirtual 7, 3) := by decide +kernel
theorem d_Lw_type_7 : decode method_3_code 7 = .ok (.ifCond .eq 7, 3) := by decide +kernel
theorem d_Lw_type_10 : decode method_3_code 10 = .ok (.lconst 1, 1) := by decide +kernel
theorem d_Lw_type_11 : decode method_3_code 11 = .ok (.goto 4, 3) := by decide +kernel
theorem d_Lw_type_14 : decode method_3_code 14 = .ok (.lconst 0, 1) := by decide +kernel
theorem d_Lw_type_15 : decode method_3_code 15 = .ok (.lastore, 1) := by decide +kernel
theorem d_Lw_type_16 : decode method_3_code 16 = .ok (.goto 6, 3) := by decide +kernel
theorem d_Lw_type_19 : decode method_3_code 19 = .ok (.astore_n 3, 1) := by decide +kernel
theorem d_Lw_type_20 : decode method_3_code 20 = .ok (.iconst 1, 1) := by decide +kernel
theorem d_Lw_type_21 : decode method_3_code 21 = .ok (.ireturn, 1) := by decide +kernel
theorem d_Lw_type_22 : decode method_3_code 22 = .ok (.iconst 0, 1) := by decide +kernel
theorem d_Lw_type_23 : decode method_3_code 23 = .ok (.ireturn, 1) := by decide +kernel
theorem d_Lw_formula_0 : decode method_4_code 0 = .ok (.aload_n 1, 1) := by decide +kernel
theorem d_Lw_formula_1 : decode method_4_code 1 = .ok (.iconst 0, 1) := by decide +kernel
theorem d_Lw_formula_2 : decode method_4_code 2 = .ok (.aload_n 0, 1) := by decide +kernel
theorem d_Lw_formula_3 : decode method_4_code 3 = .ok (.invokevirtual 15, 3) := by decide +kernel
theorem d_Lw_formula_6 : decode method_4_code 6 = .ok (.i2l, 1) := by decide +kernel
theorem d_Lw_formula_7 : decode method_4_code 7 = .ok (.lastore, 1) := by decide +kernel
theorem d_Lw_formula_8 : decode method_4_code 8 = .ok (.goto 6, 3) := by decide +kernel
theorem d_Lw_formula_11 : decode method_4_code 11 = .ok (.astore_n 2, 1) := by decide +kernel
theorem d_Lw_formula_12 : decode method_4_code 12 = .ok (.iconst 1, 1) := by decide +kernel
theorem d_Lw_formula_13 : decode method_4_code 13 = .ok (.ireturn, 1) := by decide +kernel
theorem d_Lw_formula_14 : decode method_4_code 14 = .ok (.iconst 0, 1) := by decide +kernel
theorem d_Lw_formula_15 : decode method_4_code 15 = .ok (.ireturn, 1) := by decide +kernel
theorem d_Lw_states_0 : decode method_5_code 0 = .ok (.aload_n 1, 1) := by decide +kernel
theorem d_Lw_states_1 : decode method_5_code 1 = .ok (.iconst 0, 1) := by decide +kernel
theorem d_Lw_states_2 : decode method_5_code 2 = .ok (.aload_n 0, 1) := by decide +kernel
theorem d_Lw_states_3 : decode method_5_code 3 = .ok (.invokevirtual 19, 3) := by decide +kernel
theorem d_Lw_states_6 : decode method_5_code 6 = .ok (.i2l, 1) := by decide +kernel
theorem d_Lw_states_7 : decode method_5_code 7 = .ok (.lastore, 1) := by decide +kernel
theorem d_Lw_states_8 : decode method_5_code 8 = .ok (.goto 6, 3) := by decide +kernel
theorem d_Lw_states_11 : decode method_5_code 11 = .ok (.astore_n 2, 1) := by decide +kernel
theorem d_Lw_states_12 : decode method_5_code 12 = .ok (.iconst 1, 1) := by decide +kernel
theorem d_Lw_states_13 : decode method_5_code 13 = .ok (.ireturn, 1) := by decide +kernel
theorem d_Lw_states_14 : decode method_5_code 14 = .ok (.iconst 0, 1) := by decide +kernel
theorem d_Lw_states_15 : decode method_5_code 15 = .ok (.ireturn, 1) := by decide +kernel
theorem d_Lw_isAt_0 : decode method_6_code 0 = .ok (.aload_n 2, 1) := by decide +kernel
theorem d_Lw_isAt_1 : decode method_6_code 1 = .ok (.iconst 0, 1) := by decide +kernel
theorem d_Lw_isAt_2 : decode method_6_code 2 = .ok (.aload_n 0, 1) := by decide +kernel
theorem d_Lw_isAt_3 : decode method_6_code 3 = .ok (.iload_n 1, 1) := by decide +kernel
theorem d_Lw_isAt_4 : decode method_6_code 4 = .ok (.invokevirtual 24, 3) := by decide +kernel
theorem d_Lw_isAt_7 : decode method_6_code 7 = .ok (.ifCond .eq 7, 3) := by decide +kernel
theorem d_Lw_isAt_10 : decode method_6_code 10 = .ok (.lconst 1, 1) := by decide +kernel
theorem d_Lw_isAt_11 : decode method_6_code 11 = .ok (.goto 4, 3) := by decide +kernel
theorem d_Lw_isAt_14 : decode method_6_code 14 = .ok (.lconst 0, 1) := by decide +kernel
theorem d_Lw_isAt_15 : decode method_6_code 15 = .ok (.lastore, 1) := by decide +kernel
theorem d_Lw_isAt_16 : decode method_6_code 16 = .ok (.goto 9, 3) := by decide +kernel
theorem d_Lw_isAt_19 : decode method_6_code 19 = .ok (.astore_n 3, 1) := by decide +kernel
theorem d_Lw_isAt_20 : decode method_6_code 20 = .ok (.iconst 1, 1) := by decide +kernel
theorem d_Lw_isAt_21 : decode method_6_code 21 = .ok (.ireturn, 1) := by decide +kernel
theorem d_Lw_isAt_22 : decode method_6_code 22 = .ok (.astore_n 3, 1) := by decide +kernel
theorem d_Lw_isAt_23 : decode method_6_code 23 = .ok (.iconst 2, 1) := by decide +kernel
theorem d_Lw_isAt_24 : decode method_6_code 24 = .ok (.ireturn, 1) := by decide +kernel
theorem d_Lw_isAt_25 : decode method_6_code 25 = .ok (.iconst 0, 1) := by decide +kernel
theorem d_Lw_isAt_26 : decode method_6_code 26 = .ok (.ireturn, 1) := by decide +kernel
theorem d_Lw_leads_0 : decode method_7_code 0 = .ok (.aload_n 3, 1) := by decide +kernel
theorem d_Lw_leads_1 : decode method_7_code 1 = .ok (.iconst 0, 1) := by decide +kernel
theorem d_Lw_leads_2 : decode method_7_code 2 = .ok (.aload_n 0, 1) := by decide +kernel
theorem d_Lw_leads_3 : decode method_7_code 3 = .ok (.iload_n 1, 1) := by decide +kernel
theorem d_Lw_leads_4 : decode method_7_code 4 = .ok (.iload_n 2, 1) := by decide +kernel
theorem d_Lw_leads_5 : decode method_7_code 5 = .ok (.invokevirtual 29, 3) := by decide +kernel
theorem d_Lw_leads_8 : decode method_7_code 8 = .ok (.ifCond .eq 7, 3) := by decide +kernel
theorem d_Lw_leads_11 : decode method_7_code 11 = .ok (.lconst 1, 1) := by decide +kernel
theorem d_Lw_leads_12 : decode method_7_code 12 = .ok (.goto 4, 3) := by decide +kernel
theorem d_Lw_leads_15 : decode method_7_code 15 = .ok (.lconst 0, 1) := by decide +kernel
theorem d_Lw_leads_16 : decode method_7_code 16 = .ok (.lastore, 1) := by decide +kernel
theorem d_Lw_leads_17 : decode method_7_code 17 = .ok (.goto 11, 3) := by decide +kernel
theorem d_Lw_leads_20 : decode method_7_code 20 = .ok (.astore 4, 2) := by decide +kernel
theorem d_Lw_leads_22 : decode method_7_code 22 = .ok (.iconst 1, 1) := by decide +kernel
theorem d_Lw_leads_23 : decode method_7_code 23 = .ok (.ireturn, 1) := by decide +kernel
theorem d_Lw_leads_24 : decode method_7_code 24 = .ok (.astore 4, 2) := by decide +kernel
theorem d_Lw_leads_26 : decode method_7_code 26 = .ok (.iconst 2, 1) := by decide +kernel
theorem d_Lw_leads_27 : decode method_7_code 27 = .ok (.ireturn, 1) := by decide +kernel
theorem d_Lw_leads_28 : decode method_7_code 28 = .ok (.iconst 0, 1) := by decide +kernel
theorem d_Lw_leads_29 : decode method_7_code 29 = .ok (.ireturn, 1) := by decide +kernel
theorem d_Lw_lasts_0 : decode method_8_code 0 = .ok (.aload_n 2, 1) := by decide +kernel
theorem d_Lw_lasts_1 : decode method_8_code 1 = .ok (.iconst 0, 1) := by decide +kernel
theorem d_Lw_lasts_2 : decode method_8_code 2 = .ok (.aload_n 0, 1) := by decide +kernel
theorem d_Lw_lasts_3 : decode method_8_code 3 = .ok (.iload_n 1, 1) := by decide +kernel
theorem d_Lw_lasts_4 : decode method_8_code 4 = .ok (.invokevirtual 33, 3) := by decide +kernel
theorem d_Lw_lasts_7 : decode method_8_code 7 = .ok (.ifCond .eq 7, 3) := by decide +kernel
theorem d_Lw_lasts_10 : decode method_8_code 10 = .ok (.lconst 1, 1) := by decide +kernel
theorem d_Lw_lasts_11 : decode method_8_code 11 = .ok (.goto 4, 3) := by decide +kernel
theorem d_Lw_lasts_14 : decode method_8_code 14 = .ok (.lconst 0, 1) := by decide +kernel
theorem d_Lw_lasts_15 : decode method_8_code 15 = .ok (.lastore, 1) := by decide +kernel
theorem d_Lw_lasts_16 : decode method_8_code 16 = .ok (.goto 9, 3) := by decide +kernel
theorem d_Lw_lasts_19 : decode method_8_code 19 = .ok (.astore_n 3, 1) := by decide +kernel
