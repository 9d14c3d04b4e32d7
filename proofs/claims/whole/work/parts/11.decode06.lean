theorem d_Fo_add_61 : decode prog_2_method_3_code 61 = .ok (.iconst 5, 1) := by decide +kernel
theorem d_Fo_add_62 : decode prog_2_method_3_code 62 = .ok (.if_icmp .ge 24, 3) := by decide +kernel
theorem d_Fo_add_65 : decode prog_2_method_3_code 65 = .ok (.aload_n 0, 1) := by decide +kernel
theorem d_Fo_add_66 : decode prog_2_method_3_code 66 = .ok (.getfield 24, 3) := by decide +kernel
theorem d_Fo_add_69 : decode prog_2_method_3_code 69 = .ok (.iload 4, 2) := by decide +kernel
theorem d_Fo_add_71 : decode prog_2_method_3_code 71 = .ok (.aload_n 0, 1) := by decide +kernel
theorem d_Fo_add_72 : decode prog_2_method_3_code 72 = .ok (.getfield 33, 3) := by decide +kernel
theorem d_Fo_add_75 : decode prog_2_method_3_code 75 = .ok (.iastore, 1) := by decide +kernel
theorem d_Fo_add_76 : decode prog_2_method_3_code 76 = .ok (.aload_n 0, 1) := by decide +kernel
theorem d_Fo_add_77 : decode prog_2_method_3_code 77 = .ok (.dup, 1) := by decide +kernel
theorem d_Fo_add_78 : decode prog_2_method_3_code 78 = .ok (.getfield 37, 3) := by decide +kernel
theorem d_Fo_add_81 : decode prog_2_method_3_code 81 = .ok (.iconst 1, 1) := by decide +kernel
theorem d_Fo_add_82 : decode prog_2_method_3_code 82 = .ok (.iadd, 1) := by decide +kernel
theorem d_Fo_add_83 : decode prog_2_method_3_code 83 = .ok (.putfield 37, 3) := by decide +kernel
theorem d_Fo_add_86 : decode prog_2_method_3_code 86 = .ok (.aload_n 0, 1) := by decide +kernel
theorem d_Fo_add_87 : decode prog_2_method_3_code 87 = .ok (.dup, 1) := by decide +kernel
theorem d_Fo_add_88 : decode prog_2_method_3_code 88 = .ok (.getfield 33, 3) := by decide +kernel
theorem d_Fo_add_91 : decode prog_2_method_3_code 91 = .ok (.iconst 1, 1) := by decide +kernel
theorem d_Fo_add_92 : decode prog_2_method_3_code 92 = .ok (.iadd, 1) := by decide +kernel
theorem d_Fo_add_93 : decode prog_2_method_3_code 93 = .ok (.putfield 33, 3) := by decide +kernel
theorem d_Fo_add_96 : decode prog_2_method_3_code 96 = .ok (.aload_n 0, 1) := by decide +kernel
theorem d_Fo_add_97 : decode prog_2_method_3_code 97 = .ok (.getfield 33, 3) := by decide +kernel
theorem d_Fo_add_100 : decode prog_2_method_3_code 100 = .ok (.iconst 1, 1) := by decide +kernel
theorem d_Fo_add_101 : decode prog_2_method_3_code 101 = .ok (.isub, 1) := by decide +kernel
theorem d_Fo_add_102 : decode prog_2_method_3_code 102 = .ok (.ireturn, 1) := by decide +kernel
theorem d_Fo_listPromises_0 : decode prog_2_method_4_code 0 = .ok (.aload_n 0, 1) := by decide +kernel
theorem d_Fo_listPromises_1 : decode prog_2_method_4_code 1 = .ok (.iconst 0, 1) := by decide +kernel
theorem d_Fo_listPromises_2 : decode prog_2_method_4_code 2 = .ok (.putfield 40, 3) := by decide +kernel
theorem d_Fo_listPromises_5 : decode prog_2_method_4_code 5 = .ok (.iconst 0, 1) := by decide +kernel
theorem d_Fo_listPromises_6 : decode prog_2_method_4_code 6 = .ok (.istore_n 1, 1) := by decide +kernel
theorem d_Fo_listPromises_7 : decode prog_2_method_4_code 7 = .ok (.iload_n 1, 1) := by decide +kernel
theorem d_Fo_listPromises_8 : decode prog_2_method_4_code 8 = .ok (.aload_n 0, 1) := by decide +kernel
theorem d_Fo_listPromises_9 : decode prog_2_method_4_code 9 = .ok (.getfield 37, 3) := by decide +kernel
theorem d_Fo_listPromises_12 : decode prog_2_method_4_code 12 = .ok (.if_icmp .ge 55, 3) := by decide +kernel
theorem d_Fo_listPromises_15 : decode prog_2_method_4_code 15 = .ok (.iload_n 1, 1) := by decide +kernel
theorem d_Fo_listPromises_16 : decode prog_2_method_4_code 16 = .ok (.iconst 5, 1) := by decide +kernel
theorem d_Fo_listPromises_17 : decode prog_2_method_4_code 17 = .ok (.if_icmp .ge 50, 3) := by decide +kernel
theorem d_Fo_listPromises_20 : decode prog_2_method_4_code 20 = .ok (.aload_n 0, 1) := by decide +kernel
theorem d_Fo_listPromises_21 : decode prog_2_method_4_code 21 = .ok (.getfield 9, 3) := by decide +kernel
theorem d_Fo_listPromises_24 : decode prog_2_method_4_code 24 = .ok (.aload_n 0, 1) := by decide +kernel
theorem d_Fo_listPromises_25 : decode prog_2_method_4_code 25 = .ok (.getfield 24, 3) := by decide +kernel
theorem d_Fo_listPromises_28 : decode prog_2_method_4_code 28 = .ok (.iload_n 1, 1) := by decide +kernel
theorem d_Fo_listPromises_29 : decode prog_2_method_4_code 29 = .ok (.iaload, 1) := by decide +kernel
theorem d_Fo_listPromises_30 : decode prog_2_method_4_code 30 = .ok (.iaload, 1) := by decide +kernel
theorem d_Fo_listPromises_31 : decode prog_2_method_4_code 31 = .ok (.bipush 88, 2) := by decide +kernel
theorem d_Fo_listPromises_33 : decode prog_2_method_4_code 33 = .ok (.if_icmp .eq 28, 3) := by decide +kernel
theorem d_Fo_listPromises_36 : decode prog_2_method_4_code 36 = .ok (.aload_n 0, 1) := by decide +kernel
theorem d_Fo_listPromises_37 : decode prog_2_method_4_code 37 = .ok (.getfield 27, 3) := by decide +kernel
theorem d_Fo_listPromises_40 : decode prog_2_method_4_code 40 = .ok (.aload_n 0, 1) := by decide +kernel
theorem d_Fo_listPromises_41 : decode prog_2_method_4_code 41 = .ok (.getfield 40, 3) := by decide +kernel
theorem d_Fo_listPromises_44 : decode prog_2_method_4_code 44 = .ok (.aload_n 0, 1) := by decide +kernel
theorem d_Fo_listPromises_45 : decode prog_2_method_4_code 45 = .ok (.getfield 24, 3) := by decide +kernel
theorem d_Fo_listPromises_48 : decode prog_2_method_4_code 48 = .ok (.iload_n 1, 1) := by decide +kernel
theorem d_Fo_listPromises_49 : decode prog_2_method_4_code 49 = .ok (.iaload, 1) := by decide +kernel
theorem d_Fo_listPromises_50 : decode prog_2_method_4_code 50 = .ok (.iastore, 1) := by decide +kernel
theorem d_Fo_listPromises_51 : decode prog_2_method_4_code 51 = .ok (.aload_n 0, 1) := by decide +kernel
theorem d_Fo_listPromises_52 : decode prog_2_method_4_code 52 = .ok (.dup, 1) := by decide +kernel
theorem d_Fo_listPromises_53 : decode prog_2_method_4_code 53 = .ok (.getfield 40, 3) := by decide +kernel
theorem d_Fo_listPromises_56 : decode prog_2_method_4_code 56 = .ok (.iconst 1, 1) := by decide +kernel
theorem d_Fo_listPromises_57 : decode prog_2_method_4_code 57 = .ok (.iadd, 1) := by decide +kernel
theorem d_Fo_listPromises_58 : decode prog_2_method_4_code 58 = .ok (.putfield 40, 3) := by decide +kernel
theorem d_Fo_listPromises_61 : decode prog_2_method_4_code 61 = .ok (.iinc 1 1, 3) := by decide +kernel
theorem d_Fo_listPromises_64 : decode prog_2_method_4_code 64 = .ok (.goto (-57), 3) := by decide +kernel
theorem d_Fo_listPromises_67 : decode prog_2_method_4_code 67 = .ok (.return_, 1) := by decide +kernel
theorem d_Fo_size_0 : decode prog_2_method_5_code 0 = .ok (.aload_n 0, 1) := by decide +kernel
theorem d_Fo_size_1 : decode prog_2_method_5_code 1 = .ok (.getfield 33, 3) := by decide +kernel
theorem d_Fo_size_4 : decode prog_2_method_5_code 4 = .ok (.ireturn, 1) := by decide +kernel
theorem d_Fo_stateCount_0 : decode prog_2_method_6_code 0 = .ok (.bipush 8, 2) := by decide +kernel
theorem d_Fo_stateCount_2 : decode prog_2_method_6_code 2 = .ok (.aload_n 0, 1) := by decide +kernel
theorem d_Fo_stateCount_3 : decode prog_2_method_6_code 3 = .ok (.getfield 37, 3) := by decide +kernel
theorem d_Fo_stateCount_6 : decode prog_2_method_6_code 6 = .ok (.ishl, 1) := by decide +kernel
theorem d_Fo_stateCount_7 : decode prog_2_method_6_code 7 = .ok (.ireturn, 1) := by decide +kernel
theorem d_Fo_promiseCount_0 : decode prog_2_method_7_code 0 = .ok (.aload_n 0, 1) := by decide +kernel
theorem d_Fo_promiseCount_1 : decode prog_2_method_7_code 1 = .ok (.getfield 40, 3) := by decide +kernel
theorem d_Fo_promiseCount_4 : decode prog_2_method_7_code 4 = .ok (.ireturn, 1) := by decide +kernel
theorem d_Fo_isWholeIn_0 : decode prog_2_method_8_code 0 = .ok (.iload_n 1, 1) := by decide +kernel
theorem d_Fo_isWholeIn_1 : decode prog_2_method_8_code 1 = .ok (.aload_n 0, 1) := by decide +kernel
theorem d_Fo_isWholeIn_2 : decode prog_2_method_8_code 2 = .ok (.getfield 33, 3) := by decide +kernel
theorem d_Fo_isWholeIn_5 : decode prog_2_method_8_code 5 = .ok (.iconst 1, 1) := by decide +kernel
theorem d_Fo_isWholeIn_6 : decode prog_2_method_8_code 6 = .ok (.isub, 1) := by decide +kernel
theorem d_Fo_isWholeIn_7 : decode prog_2_method_8_code 7 = .ok (.invokestatic 47, 3) := by decide +kernel
theorem d_Fo_isWholeIn_10 : decode prog_2_method_8_code 10 = .ok (.ireturn, 1) := by decide +kernel
theorem d_Fo_partsAt_0 : decode prog_2_method_9_code 0 = .ok (.iconst 0, 1) := by decide +kernel
theorem d_Fo_partsAt_1 : decode prog_2_method_9_code 1 = .ok (.istore_n 2, 1) := by decide +kernel
theorem d_Fo_partsAt_2 : decode prog_2_method_9_code 2 = .ok (.iconst 0, 1) := by decide +kernel
theorem d_Fo_partsAt_3 : decode prog_2_method_9_code 3 = .ok (.istore_n 3, 1) := by decide +kernel
theorem d_Fo_partsAt_4 : decode prog_2_method_9_code 4 = .ok (.iload_n 3, 1) := by decide +kernel
theorem d_Fo_partsAt_5 : decode prog_2_method_9_code 5 = .ok (.aload_n 0, 1) := by decide +kernel
theorem d_Fo_partsAt_6 : decode prog_2_method_9_code 6 = .ok (.getfield 33, 3) := by decide +kernel
theorem d_Fo_partsAt_9 : decode prog_2_method_9_code 9 = .ok (.if_icmp .ge 25, 3) := by decide +kernel
theorem d_Fo_partsAt_12 : decode prog_2_method_9_code 12 = .ok (.aload_n 0, 1) := by decide +kernel
theorem d_Fo_partsAt_13 : decode prog_2_method_9_code 13 = .ok (.iload_n 3, 1) := by decide +kernel
theorem d_Fo_partsAt_14 : decode prog_2_method_9_code 14 = .ok (.iload_n 1, 1) := by decide +kernel
theorem d_Fo_partsAt_15 : decode prog_2_method_9_code 15 = .ok (.iload_n 2, 1) := by decide +kernel
theorem d_Fo_partsAt_16 : decode prog_2_method_9_code 16 = .ok (.invokevirtual 51, 3) := by decide +kernel
theorem d_Fo_partsAt_19 : decode prog_2_method_9_code 19 = .ok (.ifCond .eq 9, 3) := by decide +kernel
theorem d_Fo_partsAt_22 : decode prog_2_method_9_code 22 = .ok (.iload_n 2, 1) := by decide +kernel
theorem d_Fo_partsAt_23 : decode prog_2_method_9_code 23 = .ok (.iconst 1, 1) := by decide +kernel
theorem d_Fo_partsAt_24 : decode prog_2_method_9_code 24 = .ok (.iload_n 3, 1) := by decide +kernel
theorem d_Fo_partsAt_25 : decode prog_2_method_9_code 25 = .ok (.ishl, 1) := by decide +kernel
theorem d_Fo_partsAt_26 : decode prog_2_method_9_code 26 = .ok (.ior, 1) := by decide +kernel
theorem d_Fo_partsAt_27 : decode prog_2_method_9_code 27 = .ok (.istore_n 2, 1) := by decide +kernel
theorem d_Fo_partsAt_28 : decode prog_2_method_9_code 28 = .ok (.iinc 3 1, 3) := by decide +kernel
theorem d_Fo_partsAt_31 : decode prog_2_method_9_code 31 = .ok (.goto (-27), 3) := by decide +kernel
theorem d_Fo_partsAt_34 : decode prog_2_method_9_code 34 = .ok (.iload_n 2, 1) := by decide +kernel
theorem d_Fo_partsAt_35 : decode prog_2_method_9_code 35 = .ok (.ireturn, 1) := by decide +kernel
theorem d_Fo_isPartAt_0 : decode prog_2_method_10_code 0 = .ok (.iload_n 3, 1) := by decide +kernel
theorem d_Fo_isPartAt_1 : decode prog_2_method_10_code 1 = .ok (.aload_n 0, 1) := by decide +kernel
theorem d_Fo_isPartAt_2 : decode prog_2_method_10_code 2 = .ok (.getfield 15, 3) := by decide +kernel
theorem d_Fo_isPartAt_5 : decode prog_2_method_10_code 5 = .ok (.iload_n 1, 1) := by decide +kernel
theorem d_Fo_isPartAt_6 : decode prog_2_method_10_code 6 = .ok (.iaload, 1) := by decide +kernel
theorem d_Fo_isPartAt_7 : decode prog_2_method_10_code 7 = .ok (.invokestatic 47, 3) := by decide +kernel
theorem d_Fo_isPartAt_10 : decode prog_2_method_10_code 10 = .ok (.istore 4, 2) := by decide +kernel
theorem d_Fo_isPartAt_12 : decode prog_2_method_10_code 12 = .ok (.iload_n 3, 1) := by decide +kernel
theorem d_Fo_isPartAt_13 : decode prog_2_method_10_code 13 = .ok (.aload_n 0, 1) := by decide +kernel
theorem d_Fo_isPartAt_14 : decode prog_2_method_10_code 14 = .ok (.getfield 18, 3) := by decide +kernel
theorem d_Fo_isPartAt_17 : decode prog_2_method_10_code 17 = .ok (.iload_n 1, 1) := by decide +kernel
theorem d_Fo_isPartAt_18 : decode prog_2_method_10_code 18 = .ok (.iaload, 1) := by decide +kernel
theorem d_Fo_isPartAt_19 : decode prog_2_method_10_code 19 = .ok (.invokestatic 47, 3) := by decide +kernel
theorem d_Fo_isPartAt_22 : decode prog_2_method_10_code 22 = .ok (.istore 5, 2) := by decide +kernel
theorem d_Fo_isPartAt_24 : decode prog_2_method_10_code 24 = .ok (.iload_n 2, 1) := by decide +kernel
theorem d_Fo_isPartAt_25 : decode prog_2_method_10_code 25 = .ok (.iconst 3, 1) := by decide +kernel
theorem d_Fo_isPartAt_26 : decode prog_2_method_10_code 26 = .ok (.aload_n 0, 1) := by decide +kernel
theorem d_Fo_isPartAt_27 : decode prog_2_method_10_code 27 = .ok (.getfield 21, 3) := by decide +kernel
theorem d_Fo_isPartAt_30 : decode prog_2_method_10_code 30 = .ok (.iload_n 1, 1) := by decide +kernel
theorem d_Fo_isPartAt_31 : decode prog_2_method_10_code 31 = .ok (.iaload, 1) := by decide +kernel
theorem d_Fo_isPartAt_32 : decode prog_2_method_10_code 32 = .ok (.iadd, 1) := by decide +kernel
theorem d_Fo_isPartAt_33 : decode prog_2_method_10_code 33 = .ok (.invokestatic 47, 3) := by decide +kernel
theorem d_Fo_isPartAt_36 : decode prog_2_method_10_code 36 = .ok (.istore 6, 2) := by decide +kernel
theorem d_Fo_isPartAt_38 : decode prog_2_method_10_code 38 = .ok (.aload_n 0, 1) := by decide +kernel
theorem d_Fo_isPartAt_39 : decode prog_2_method_10_code 39 = .ok (.getfield 9, 3) := by decide +kernel
theorem d_Fo_isPartAt_42 : decode prog_2_method_10_code 42 = .ok (.iload_n 1, 1) := by decide +kernel
theorem d_Fo_isPartAt_43 : decode prog_2_method_10_code 43 = .ok (.iaload, 1) := by decide +kernel
theorem d_Fo_isPartAt_44 : decode prog_2_method_10_code 44 = .ok (.lookupswitch 272 #[(33, 136), (38, 147), (49, 116), (62, 179), (70, 198), (71, 214), (82, 251), (85, 230), (88, 195), (97, 118), (98, 124), (99, 130), (124, 163)], 116) := by decide +kernel
theorem d_Fo_isPartAt_160 : decode prog_2_method_10_code 160 = .ok (.iconst 1, 1) := by decide +kernel
theorem d_Fo_isPartAt_161 : decode prog_2_method_10_code 161 = .ok (.ireturn, 1) := by decide +kernel
theorem d_Fo_isPartAt_162 : decode prog_2_method_10_code 162 = .ok (.iload_n 2, 1) := by decide +kernel
theorem d_Fo_isPartAt_163 : decode prog_2_method_10_code 163 = .ok (.iconst 0, 1) := by decide +kernel
theorem d_Fo_isPartAt_164 : decode prog_2_method_10_code 164 = .ok (.invokestatic 47, 3) := by decide +kernel
theorem d_Fo_isPartAt_167 : decode prog_2_method_10_code 167 = .ok (.ireturn, 1) := by decide +kernel
theorem d_Fo_isPartAt_168 : decode prog_2_method_10_code 168 = .ok (.iload_n 2, 1) := by decide +kernel
theorem d_Fo_isPartAt_169 : decode prog_2_method_10_code 169 = .ok (.iconst 1, 1) := by decide +kernel
theorem d_Fo_isPartAt_170 : decode prog_2_method_10_code 170 = .ok (.invokestatic 47, 3) := by decide +kernel
theorem d_Fo_isPartAt_173 : decode prog_2_method_10_code 173 = .ok (.ireturn, 1) := by decide +kernel
theorem d_Fo_isPartAt_174 : decode prog_2_method_10_code 174 = .ok (.iload_n 2, 1) := by decide +kernel
theorem d_Fo_isPartAt_175 : decode prog_2_method_10_code 175 = .ok (.iconst 2, 1) := by decide +kernel
theorem d_Fo_isPartAt_176 : decode prog_2_method_10_code 176 = .ok (.invokestatic 47, 3) := by decide +kernel
theorem d_Fo_isPartAt_179 : decode prog_2_method_10_code 179 = .ok (.ireturn, 1) := by decide +kernel
theorem d_Fo_isPartAt_180 : decode prog_2_method_10_code 180 = .ok (.iload 5, 2) := by decide +kernel
theorem d_Fo_isPartAt_182 : decode prog_2_method_10_code 182 = .ok (.ifCond .ne 7, 3) := by decide +kernel
theorem d_Fo_isPartAt_185 : decode prog_2_method_10_code 185 = .ok (.iconst 1, 1) := by decide +kernel
theorem d_Fo_isPartAt_186 : decode prog_2_method_10_code 186 = .ok (.goto 4, 3) := by decide +kernel
theorem d_Fo_isPartAt_189 : decode prog_2_method_10_code 189 = .ok (.iconst 0, 1) := by decide +kernel
theorem d_Fo_isPartAt_190 : decode prog_2_method_10_code 190 = .ok (.ireturn, 1) := by decide +kernel
theorem d_Fo_isPartAt_191 : decode prog_2_method_10_code 191 = .ok (.iload 4, 2) := by decide +kernel
theorem d_Fo_isPartAt_193 : decode prog_2_method_10_code 193 = .ok (.ifCond .eq 12, 3) := by decide +kernel
theorem d_Fo_isPartAt_196 : decode prog_2_method_10_code 196 = .ok (.iload 5, 2) := by decide +kernel
theorem d_Fo_isPartAt_198 : decode prog_2_method_10_code 198 = .ok (.ifCond .eq 7, 3) := by decide +kernel
theorem d_Fo_isPartAt_201 : decode prog_2_method_10_code 201 = .ok (.iconst 1, 1) := by decide +kernel
theorem d_Fo_isPartAt_202 : decode prog_2_method_10_code 202 = .ok (.goto 4, 3) := by decide +kernel
theorem d_Fo_isPartAt_205 : decode prog_2_method_10_code 205 = .ok (.iconst 0, 1) := by decide +kernel
theorem d_Fo_isPartAt_206 : decode prog_2_method_10_code 206 = .ok (.ireturn, 1) := by decide +kernel
theorem d_Fo_isPartAt_207 : decode prog_2_method_10_code 207 = .ok (.iload 4, 2) := by decide +kernel
theorem d_Fo_isPartAt_209 : decode prog_2_method_10_code 209 = .ok (.ifCond .ne 8, 3) := by decide +kernel
theorem d_Fo_isPartAt_212 : decode prog_2_method_10_code 212 = .ok (.iload 5, 2) := by decide +kernel
theorem d_Fo_isPartAt_214 : decode prog_2_method_10_code 214 = .ok (.ifCond .eq 7, 3) := by decide +kernel
theorem d_Fo_isPartAt_217 : decode prog_2_method_10_code 217 = .ok (.iconst 1, 1) := by decide +kernel
theorem d_Fo_isPartAt_218 : decode prog_2_method_10_code 218 = .ok (.goto 4, 3) := by decide +kernel
theorem d_Fo_isPartAt_221 : decode prog_2_method_10_code 221 = .ok (.iconst 0, 1) := by decide +kernel
theorem d_Fo_isPartAt_222 : decode prog_2_method_10_code 222 = .ok (.ireturn, 1) := by decide +kernel
theorem d_Fo_isPartAt_223 : decode prog_2_method_10_code 223 = .ok (.iload 4, 2) := by decide +kernel
theorem d_Fo_isPartAt_225 : decode prog_2_method_10_code 225 = .ok (.ifCond .eq 8, 3) := by decide +kernel
theorem d_Fo_isPartAt_228 : decode prog_2_method_10_code 228 = .ok (.iload 5, 2) := by decide +kernel
theorem d_Fo_isPartAt_230 : decode prog_2_method_10_code 230 = .ok (.ifCond .eq 7, 3) := by decide +kernel
theorem d_Fo_isPartAt_233 : decode prog_2_method_10_code 233 = .ok (.iconst 1, 1) := by decide +kernel
theorem d_Fo_isPartAt_234 : decode prog_2_method_10_code 234 = .ok (.goto 4, 3) := by decide +kernel
theorem d_Fo_isPartAt_237 : decode prog_2_method_10_code 237 = .ok (.iconst 0, 1) := by decide +kernel
theorem d_Fo_isPartAt_238 : decode prog_2_method_10_code 238 = .ok (.ireturn, 1) := by decide +kernel
theorem d_Fo_isPartAt_239 : decode prog_2_method_10_code 239 = .ok (.iload 6, 2) := by decide +kernel
theorem d_Fo_isPartAt_241 : decode prog_2_method_10_code 241 = .ok (.ireturn, 1) := by decide +kernel
theorem d_Fo_isPartAt_242 : decode prog_2_method_10_code 242 = .ok (.iload 5, 2) := by decide +kernel
theorem d_Fo_isPartAt_244 : decode prog_2_method_10_code 244 = .ok (.ifCond .ne 8, 3) := by decide +kernel
theorem d_Fo_isPartAt_247 : decode prog_2_method_10_code 247 = .ok (.iload 6, 2) := by decide +kernel
theorem d_Fo_isPartAt_249 : decode prog_2_method_10_code 249 = .ok (.ifCond .eq 7, 3) := by decide +kernel
theorem d_Fo_isPartAt_252 : decode prog_2_method_10_code 252 = .ok (.iconst 1, 1) := by decide +kernel
theorem d_Fo_isPartAt_253 : decode prog_2_method_10_code 253 = .ok (.goto 4, 3) := by decide +kernel
theorem d_Fo_isPartAt_256 : decode prog_2_method_10_code 256 = .ok (.iconst 0, 1) := by decide +kernel
theorem d_Fo_isPartAt_257 : decode prog_2_method_10_code 257 = .ok (.ireturn, 1) := by decide +kernel
theorem d_Fo_isPartAt_258 : decode prog_2_method_10_code 258 = .ok (.iload 5, 2) := by decide +kernel
theorem d_Fo_isPartAt_260 : decode prog_2_method_10_code 260 = .ok (.ifCond .eq 12, 3) := by decide +kernel
theorem d_Fo_isPartAt_263 : decode prog_2_method_10_code 263 = .ok (.iload 6, 2) := by decide +kernel
theorem d_Fo_isPartAt_265 : decode prog_2_method_10_code 265 = .ok (.ifCond .eq 7, 3) := by decide +kernel
theorem d_Fo_isPartAt_268 : decode prog_2_method_10_code 268 = .ok (.iconst 1, 1) := by decide +kernel
theorem d_Fo_isPartAt_269 : decode prog_2_method_10_code 269 = .ok (.goto 4, 3) := by decide +kernel
theorem d_Fo_isPartAt_272 : decode prog_2_method_10_code 272 = .ok (.iconst 0, 1) := by decide +kernel
theorem d_Fo_isPartAt_273 : decode prog_2_method_10_code 273 = .ok (.ireturn, 1) := by decide +kernel
theorem d_Fo_isPartAt_274 : decode prog_2_method_10_code 274 = .ok (.iload 5, 2) := by decide +kernel
theorem d_Fo_isPartAt_276 : decode prog_2_method_10_code 276 = .ok (.ifCond .ne 13, 3) := by decide +kernel
theorem d_Fo_isPartAt_279 : decode prog_2_method_10_code 279 = .ok (.iload 4, 2) := by decide +kernel
theorem d_Fo_isPartAt_281 : decode prog_2_method_10_code 281 = .ok (.ifCond .eq 12, 3) := by decide +kernel
theorem d_Fo_isPartAt_284 : decode prog_2_method_10_code 284 = .ok (.iload 6, 2) := by decide +kernel
theorem d_Fo_isPartAt_286 : decode prog_2_method_10_code 286 = .ok (.ifCond .eq 7, 3) := by decide +kernel
theorem d_Fo_isPartAt_289 : decode prog_2_method_10_code 289 = .ok (.iconst 1, 1) := by decide +kernel
theorem d_Fo_isPartAt_290 : decode prog_2_method_10_code 290 = .ok (.goto 4, 3) := by decide +kernel
theorem d_Fo_isPartAt_293 : decode prog_2_method_10_code 293 = .ok (.iconst 0, 1) := by decide +kernel
theorem d_Fo_isPartAt_294 : decode prog_2_method_10_code 294 = .ok (.ireturn, 1) := by decide +kernel
theorem d_Fo_isPartAt_295 : decode prog_2_method_10_code 295 = .ok (.iload 5, 2) := by decide +kernel
theorem d_Fo_isPartAt_297 : decode prog_2_method_10_code 297 = .ok (.ifCond .eq 17, 3) := by decide +kernel
theorem d_Fo_isPartAt_300 : decode prog_2_method_10_code 300 = .ok (.iload 4, 2) := by decide +kernel
theorem d_Fo_isPartAt_302 : decode prog_2_method_10_code 302 = .ok (.ifCond .ne 8, 3) := by decide +kernel
theorem d_Fo_isPartAt_305 : decode prog_2_method_10_code 305 = .ok (.iload 6, 2) := by decide +kernel
theorem d_Fo_isPartAt_307 : decode prog_2_method_10_code 307 = .ok (.ifCond .eq 7, 3) := by decide +kernel
theorem d_Fo_isPartAt_310 : decode prog_2_method_10_code 310 = .ok (.iconst 1, 1) := by decide +kernel
theorem d_Fo_isPartAt_311 : decode prog_2_method_10_code 311 = .ok (.goto 4, 3) := by decide +kernel
theorem d_Fo_isPartAt_314 : decode prog_2_method_10_code 314 = .ok (.iconst 0, 1) := by decide +kernel
theorem d_Fo_isPartAt_315 : decode prog_2_method_10_code 315 = .ok (.ireturn, 1) := by decide +kernel
theorem d_Fo_isPartAt_316 : decode prog_2_method_10_code 316 = .ok (.iconst 0, 1) := by decide +kernel
theorem d_Fo_isPartAt_317 : decode prog_2_method_10_code 317 = .ok (.ireturn, 1) := by decide +kernel
theorem d_Fo_expectedBefore_0 : decode prog_2_method_11_code 0 = .ok (.iconst 0, 1) := by decide +kernel
theorem d_Fo_expectedBefore_1 : decode prog_2_method_11_code 1 = .ok (.istore_n 2, 1) := by decide +kernel
theorem d_Fo_expectedBefore_2 : decode prog_2_method_11_code 2 = .ok (.iconst 0, 1) := by decide +kernel
theorem d_Fo_expectedBefore_3 : decode prog_2_method_11_code 3 = .ok (.istore_n 3, 1) := by decide +kernel
theorem d_Fo_expectedBefore_4 : decode prog_2_method_11_code 4 = .ok (.iload_n 3, 1) := by decide +kernel
theorem d_Fo_expectedBefore_5 : decode prog_2_method_11_code 5 = .ok (.aload_n 0, 1) := by decide +kernel
theorem d_Fo_expectedBefore_6 : decode prog_2_method_11_code 6 = .ok (.getfield 37, 3) := by decide +kernel
theorem d_Fo_expectedBefore_9 : decode prog_2_method_11_code 9 = .ok (.if_icmp .ge 54, 3) := by decide +kernel
theorem d_Fo_expectedBefore_12 : decode prog_2_method_11_code 12 = .ok (.aload_n 0, 1) := by decide +kernel
theorem d_Fo_expectedBefore_13 : decode prog_2_method_11_code 13 = .ok (.getfield 24, 3) := by decide +kernel
theorem d_Fo_expectedBefore_16 : decode prog_2_method_11_code 16 = .ok (.iload_n 3, 1) := by decide +kernel
theorem d_Fo_expectedBefore_17 : decode prog_2_method_11_code 17 = .ok (.iaload, 1) := by decide +kernel
theorem d_Fo_expectedBefore_18 : decode prog_2_method_11_code 18 = .ok (.istore 4, 2) := by decide +kernel
theorem d_Fo_expectedBefore_20 : decode prog_2_method_11_code 20 = .ok (.iload_n 1, 1) := by decide +kernel
theorem d_Fo_expectedBefore_21 : decode prog_2_method_11_code 21 = .ok (.aload_n 0, 1) := by decide +kernel
theorem d_Fo_expectedBefore_22 : decode prog_2_method_11_code 22 = .ok (.getfield 9, 3) := by decide +kernel
theorem d_Fo_expectedBefore_25 : decode prog_2_method_11_code 25 = .ok (.iload 4, 2) := by decide +kernel
theorem d_Fo_expectedBefore_27 : decode prog_2_method_11_code 27 = .ok (.iaload, 1) := by decide +kernel
theorem d_Fo_expectedBefore_28 : decode prog_2_method_11_code 28 = .ok (.bipush 88, 2) := by decide +kernel
theorem d_Fo_expectedBefore_30 : decode prog_2_method_11_code 30 = .ok (.if_icmp .ne 13, 3) := by decide +kernel
theorem d_Fo_expectedBefore_33 : decode prog_2_method_11_code 33 = .ok (.aload_n 0, 1) := by decide +kernel
theorem d_Fo_expectedBefore_34 : decode prog_2_method_11_code 34 = .ok (.getfield 18, 3) := by decide +kernel
theorem d_Fo_expectedBefore_37 : decode prog_2_method_11_code 37 = .ok (.iload 4, 2) := by decide +kernel
theorem d_Fo_expectedBefore_39 : decode prog_2_method_11_code 39 = .ok (.iaload, 1) := by decide +kernel
theorem d_Fo_expectedBefore_40 : decode prog_2_method_11_code 40 = .ok (.goto 5, 3) := by decide +kernel
theorem d_Fo_expectedBefore_43 : decode prog_2_method_11_code 43 = .ok (.iload 4, 2) := by decide +kernel
theorem d_Fo_expectedBefore_45 : decode prog_2_method_11_code 45 = .ok (.invokestatic 47, 3) := by decide +kernel
theorem d_Fo_expectedBefore_48 : decode prog_2_method_11_code 48 = .ok (.ifCond .eq 9, 3) := by decide +kernel
theorem d_Fo_expectedBefore_51 : decode prog_2_method_11_code 51 = .ok (.iload_n 2, 1) := by decide +kernel
theorem d_Fo_expectedBefore_52 : decode prog_2_method_11_code 52 = .ok (.iconst 1, 1) := by decide +kernel
theorem d_Fo_expectedBefore_53 : decode prog_2_method_11_code 53 = .ok (.iload_n 3, 1) := by decide +kernel
theorem d_Fo_expectedBefore_54 : decode prog_2_method_11_code 54 = .ok (.ishl, 1) := by decide +kernel
theorem d_Fo_expectedBefore_55 : decode prog_2_method_11_code 55 = .ok (.ior, 1) := by decide +kernel
theorem d_Fo_expectedBefore_56 : decode prog_2_method_11_code 56 = .ok (.istore_n 2, 1) := by decide +kernel
theorem d_Fo_expectedBefore_57 : decode prog_2_method_11_code 57 = .ok (.iinc 3 1, 3) := by decide +kernel
theorem d_Fo_expectedBefore_60 : decode prog_2_method_11_code 60 = .ok (.goto (-56), 3) := by decide +kernel
theorem d_Fo_expectedBefore_63 : decode prog_2_method_11_code 63 = .ok (.iload_n 2, 1) := by decide +kernel
theorem d_Fo_expectedBefore_64 : decode prog_2_method_11_code 64 = .ok (.ireturn, 1) := by decide +kernel
theorem d_Fo_openIn_0 : decode prog_2_method_12_code 0 = .ok (.iconst 0, 1) := by decide +kernel
theorem d_Fo_openIn_1 : decode prog_2_method_12_code 1 = .ok (.istore_n 2, 1) := by decide +kernel
theorem d_Fo_openIn_2 : decode prog_2_method_12_code 2 = .ok (.iconst 0, 1) := by decide +kernel
theorem d_Fo_openIn_3 : decode prog_2_method_12_code 3 = .ok (.istore_n 3, 1) := by decide +kernel
theorem d_Fo_openIn_4 : decode prog_2_method_12_code 4 = .ok (.iload_n 3, 1) := by decide +kernel
theorem d_Fo_openIn_5 : decode prog_2_method_12_code 5 = .ok (.aload_n 0, 1) := by decide +kernel
theorem d_Fo_openIn_6 : decode prog_2_method_12_code 6 = .ok (.getfield 40, 3) := by decide +kernel
theorem d_Fo_openIn_9 : decode prog_2_method_12_code 9 = .ok (.if_icmp .ge 38, 3) := by decide +kernel
theorem d_Fo_openIn_12 : decode prog_2_method_12_code 12 = .ok (.aload_n 0, 1) := by decide +kernel
theorem d_Fo_openIn_13 : decode prog_2_method_12_code 13 = .ok (.getfield 27, 3) := by decide +kernel
theorem d_Fo_openIn_16 : decode prog_2_method_12_code 16 = .ok (.iload_n 3, 1) := by decide +kernel
theorem d_Fo_openIn_17 : decode prog_2_method_12_code 17 = .ok (.iaload, 1) := by decide +kernel
theorem d_Fo_openIn_18 : decode prog_2_method_12_code 18 = .ok (.istore 4, 2) := by decide +kernel
theorem d_Fo_openIn_20 : decode prog_2_method_12_code 20 = .ok (.iload_n 1, 1) := by decide +kernel
theorem d_Fo_openIn_21 : decode prog_2_method_12_code 21 = .ok (.iload 4, 2) := by decide +kernel
theorem d_Fo_openIn_23 : decode prog_2_method_12_code 23 = .ok (.invokestatic 47, 3) := by decide +kernel
theorem d_Fo_openIn_26 : decode prog_2_method_12_code 26 = .ok (.aload_n 0, 1) := by decide +kernel
theorem d_Fo_openIn_27 : decode prog_2_method_12_code 27 = .ok (.iload 4, 2) := by decide +kernel
theorem d_Fo_openIn_29 : decode prog_2_method_12_code 29 = .ok (.invokevirtual 55, 3) := by decide +kernel
theorem d_Fo_openIn_32 : decode prog_2_method_12_code 32 = .ok (.if_icmp .ne 9, 3) := by decide +kernel
theorem d_Fo_openIn_35 : decode prog_2_method_12_code 35 = .ok (.iload_n 2, 1) := by decide +kernel
theorem d_Fo_openIn_36 : decode prog_2_method_12_code 36 = .ok (.iconst 1, 1) := by decide +kernel
theorem d_Fo_openIn_37 : decode prog_2_method_12_code 37 = .ok (.iload_n 3, 1) := by decide +kernel
theorem d_Fo_openIn_38 : decode prog_2_method_12_code 38 = .ok (.ishl, 1) := by decide +kernel
theorem d_Fo_openIn_39 : decode prog_2_method_12_code 39 = .ok (.ior, 1) := by decide +kernel
theorem d_Fo_openIn_40 : decode prog_2_method_12_code 40 = .ok (.istore_n 2, 1) := by decide +kernel
theorem d_Fo_openIn_41 : decode prog_2_method_12_code 41 = .ok (.iinc 3 1, 3) := by decide +kernel
theorem d_Fo_openIn_44 : decode prog_2_method_12_code 44 = .ok (.goto (-40), 3) := by decide +kernel
theorem d_Fo_openIn_47 : decode prog_2_method_12_code 47 = .ok (.iload_n 2, 1) := by decide +kernel
theorem d_Fo_openIn_48 : decode prog_2_method_12_code 48 = .ok (.ireturn, 1) := by decide +kernel
theorem d_Fo_keptIn_0 : decode prog_2_method_13_code 0 = .ok (.iconst 0, 1) := by decide +kernel
theorem d_Fo_keptIn_1 : decode prog_2_method_13_code 1 = .ok (.istore_n 2, 1) := by decide +kernel
theorem d_Fo_keptIn_2 : decode prog_2_method_13_code 2 = .ok (.iconst 0, 1) := by decide +kernel
theorem d_Fo_keptIn_3 : decode prog_2_method_13_code 3 = .ok (.istore_n 3, 1) := by decide +kernel
theorem d_Fo_keptIn_4 : decode prog_2_method_13_code 4 = .ok (.iload_n 3, 1) := by decide +kernel
theorem d_Fo_keptIn_5 : decode prog_2_method_13_code 5 = .ok (.aload_n 0, 1) := by decide +kernel
theorem d_Fo_keptIn_6 : decode prog_2_method_13_code 6 = .ok (.getfield 40, 3) := by decide +kernel
theorem d_Fo_keptIn_9 : decode prog_2_method_13_code 9 = .ok (.if_icmp .ge 43, 3) := by decide +kernel
theorem d_Fo_keptIn_12 : decode prog_2_method_13_code 12 = .ok (.aload_n 0, 1) := by decide +kernel
theorem d_Fo_keptIn_13 : decode prog_2_method_13_code 13 = .ok (.getfield 27, 3) := by decide +kernel
theorem d_Fo_keptIn_16 : decode prog_2_method_13_code 16 = .ok (.iload_n 3, 1) := by decide +kernel
theorem d_Fo_keptIn_17 : decode prog_2_method_13_code 17 = .ok (.iaload, 1) := by decide +kernel
theorem d_Fo_keptIn_18 : decode prog_2_method_13_code 18 = .ok (.istore 4, 2) := by decide +kernel
theorem d_Fo_keptIn_20 : decode prog_2_method_13_code 20 = .ok (.iload_n 1, 1) := by decide +kernel
theorem d_Fo_keptIn_21 : decode prog_2_method_13_code 21 = .ok (.aload_n 0, 1) := by decide +kernel
theorem d_Fo_keptIn_22 : decode prog_2_method_13_code 22 = .ok (.getfield 18, 3) := by decide +kernel
theorem d_Fo_keptIn_25 : decode prog_2_method_13_code 25 = .ok (.iload 4, 2) := by decide +kernel
theorem d_Fo_keptIn_27 : decode prog_2_method_13_code 27 = .ok (.iaload, 1) := by decide +kernel
theorem d_Fo_keptIn_28 : decode prog_2_method_13_code 28 = .ok (.invokestatic 47, 3) := by decide +kernel
theorem d_Fo_keptIn_31 : decode prog_2_method_13_code 31 = .ok (.aload_n 0, 1) := by decide +kernel
theorem d_Fo_keptIn_32 : decode prog_2_method_13_code 32 = .ok (.iload 4, 2) := by decide +kernel
theorem d_Fo_keptIn_34 : decode prog_2_method_13_code 34 = .ok (.invokevirtual 55, 3) := by decide +kernel
theorem d_Fo_keptIn_37 : decode prog_2_method_13_code 37 = .ok (.if_icmp .ne 9, 3) := by decide +kernel
theorem d_Fo_keptIn_40 : decode prog_2_method_13_code 40 = .ok (.iload_n 2, 1) := by decide +kernel
theorem d_Fo_keptIn_41 : decode prog_2_method_13_code 41 = .ok (.iconst 1, 1) := by decide +kernel
theorem d_Fo_keptIn_42 : decode prog_2_method_13_code 42 = .ok (.iload_n 3, 1) := by decide +kernel
theorem d_Fo_keptIn_43 : decode prog_2_method_13_code 43 = .ok (.ishl, 1) := by decide +kernel
theorem d_Fo_keptIn_44 : decode prog_2_method_13_code 44 = .ok (.ior, 1) := by decide +kernel
theorem d_Fo_keptIn_45 : decode prog_2_method_13_code 45 = .ok (.istore_n 2, 1) := by decide +kernel
theorem d_Fo_keptIn_46 : decode prog_2_method_13_code 46 = .ok (.iinc 3 1, 3) := by decide +kernel
theorem d_Fo_keptIn_49 : decode prog_2_method_13_code 49 = .ok (.goto (-45), 3) := by decide +kernel
theorem d_Fo_keptIn_52 : decode prog_2_method_13_code 52 = .ok (.iload_n 2, 1) := by decide +kernel
theorem d_Fo_keptIn_53 : decode prog_2_method_13_code 53 = .ok (.ireturn, 1) := by decide +kernel
theorem d_Fo_isForOnce_0 : decode prog_2_method_14_code 0 = .ok (.aload_n 0, 1) := by decide +kernel
theorem d_Fo_isForOnce_1 : decode prog_2_method_14_code 1 = .ok (.getfield 9, 3) := by decide +kernel
theorem d_Fo_isForOnce_4 : decode prog_2_method_14_code 4 = .ok (.iload_n 1, 1) := by decide +kernel
theorem d_Fo_isForOnce_5 : decode prog_2_method_14_code 5 = .ok (.iaload, 1) := by decide +kernel
theorem d_Fo_isForOnce_6 : decode prog_2_method_14_code 6 = .ok (.bipush 70, 2) := by decide +kernel
theorem d_Fo_isForOnce_8 : decode prog_2_method_14_code 8 = .ok (.if_icmp .eq 14, 3) := by decide +kernel
theorem d_Fo_isForOnce_11 : decode prog_2_method_14_code 11 = .ok (.aload_n 0, 1) := by decide +kernel
theorem d_Fo_isForOnce_12 : decode prog_2_method_14_code 12 = .ok (.getfield 9, 3) := by decide +kernel
theorem d_Fo_isForOnce_15 : decode prog_2_method_14_code 15 = .ok (.iload_n 1, 1) := by decide +kernel
theorem d_Fo_isForOnce_16 : decode prog_2_method_14_code 16 = .ok (.iaload, 1) := by decide +kernel
theorem d_Fo_isForOnce_17 : decode prog_2_method_14_code 17 = .ok (.bipush 85, 2) := by decide +kernel
theorem d_Fo_isForOnce_19 : decode prog_2_method_14_code 19 = .ok (.if_icmp .ne 7, 3) := by decide +kernel
theorem d_Fo_isForOnce_22 : decode prog_2_method_14_code 22 = .ok (.iconst 1, 1) := by decide +kernel
theorem d_Fo_isForOnce_23 : decode prog_2_method_14_code 23 = .ok (.goto 4, 3) := by decide +kernel
theorem d_Fo_isForOnce_26 : decode prog_2_method_14_code 26 = .ok (.iconst 0, 1) := by decide +kernel
theorem d_Fo_isForOnce_27 : decode prog_2_method_14_code 27 = .ok (.ireturn, 1) := by decide +kernel
theorem d_Fo_placesOn_0 : decode prog_2_method_15_code 0 = .ok (.iconst 0, 1) := by decide +kernel
theorem d_Fo_placesOn_1 : decode prog_2_method_15_code 1 = .ok (.istore_n 2, 1) := by decide +kernel
theorem d_Fo_placesOn_2 : decode prog_2_method_15_code 2 = .ok (.iload_n 2, 1) := by decide +kernel
theorem d_Fo_placesOn_3 : decode prog_2_method_15_code 3 = .ok (.aload_n 0, 1) := by decide +kernel
theorem d_Fo_placesOn_4 : decode prog_2_method_15_code 4 = .ok (.getfield 33, 3) := by decide +kernel
theorem d_Fo_placesOn_7 : decode prog_2_method_15_code 7 = .ok (.if_icmp .ge 21, 3) := by decide +kernel
theorem d_Fo_placesOn_10 : decode prog_2_method_15_code 10 = .ok (.aload_n 0, 1) := by decide +kernel
theorem d_Fo_placesOn_11 : decode prog_2_method_15_code 11 = .ok (.getfield 30, 3) := by decide +kernel
theorem d_Fo_placesOn_14 : decode prog_2_method_15_code 14 = .ok (.iload_n 2, 1) := by decide +kernel
theorem d_Fo_placesOn_15 : decode prog_2_method_15_code 15 = .ok (.aload_n 0, 1) := by decide +kernel
theorem d_Fo_placesOn_16 : decode prog_2_method_15_code 16 = .ok (.iload_n 2, 1) := by decide +kernel
theorem d_Fo_placesOn_17 : decode prog_2_method_15_code 17 = .ok (.aload_n 1, 1) := by decide +kernel
theorem d_Fo_placesOn_18 : decode prog_2_method_15_code 18 = .ok (.invokevirtual 58, 3) := by decide +kernel
theorem d_Fo_placesOn_21 : decode prog_2_method_15_code 21 = .ok (.iastore, 1) := by decide +kernel
theorem d_Fo_placesOn_22 : decode prog_2_method_15_code 22 = .ok (.iinc 2 1, 3) := by decide +kernel
theorem d_Fo_placesOn_25 : decode prog_2_method_15_code 25 = .ok (.goto (-23), 3) := by decide +kernel
theorem d_Fo_placesOn_28 : decode prog_2_method_15_code 28 = .ok (.aload_n 0, 1) := by decide +kernel
theorem d_Fo_placesOn_29 : decode prog_2_method_15_code 29 = .ok (.getfield 33, 3) := by decide +kernel
theorem d_Fo_placesOn_32 : decode prog_2_method_15_code 32 = .ok (.ifCond .ne 7, 3) := by decide +kernel
theorem d_Fo_placesOn_35 : decode prog_2_method_15_code 35 = .ok (.iconst 0, 1) := by decide +kernel
theorem d_Fo_placesOn_36 : decode prog_2_method_15_code 36 = .ok (.goto 14, 3) := by decide +kernel
theorem d_Fo_placesOn_39 : decode prog_2_method_15_code 39 = .ok (.aload_n 0, 1) := by decide +kernel
theorem d_Fo_placesOn_40 : decode prog_2_method_15_code 40 = .ok (.getfield 30, 3) := by decide +kernel
theorem d_Fo_placesOn_43 : decode prog_2_method_15_code 43 = .ok (.aload_n 0, 1) := by decide +kernel
theorem d_Fo_placesOn_44 : decode prog_2_method_15_code 44 = .ok (.getfield 33, 3) := by decide +kernel
theorem d_Fo_placesOn_47 : decode prog_2_method_15_code 47 = .ok (.iconst 1, 1) := by decide +kernel
theorem d_Fo_placesOn_48 : decode prog_2_method_15_code 48 = .ok (.isub, 1) := by decide +kernel
theorem d_Fo_placesOn_49 : decode prog_2_method_15_code 49 = .ok (.iaload, 1) := by decide +kernel
theorem d_Fo_placesOn_50 : decode prog_2_method_15_code 50 = .ok (.ireturn, 1) := by decide +kernel
theorem d_Fo_partPlaces_0 : decode prog_2_method_16_code 0 = .ok (.aload_n 2, 1) := by decide +kernel
theorem d_Fo_partPlaces_1 : decode prog_2_method_16_code 1 = .ok (.invokevirtual 62, 3) := by decide +kernel
theorem d_Fo_partPlaces_4 : decode prog_2_method_16_code 4 = .ok (.istore_n 3, 1) := by decide +kernel
theorem d_Fo_partPlaces_5 : decode prog_2_method_16_code 5 = .ok (.aload_n 0, 1) := by decide +kernel
theorem d_Fo_partPlaces_6 : decode prog_2_method_16_code 6 = .ok (.getfield 30, 3) := by decide +kernel
theorem d_Fo_partPlaces_9 : decode prog_2_method_16_code 9 = .ok (.aload_n 0, 1) := by decide +kernel
theorem d_Fo_partPlaces_10 : decode prog_2_method_16_code 10 = .ok (.getfield 15, 3) := by decide +kernel
theorem d_Fo_partPlaces_13 : decode prog_2_method_16_code 13 = .ok (.iload_n 1, 1) := by decide +kernel
theorem d_Fo_partPlaces_14 : decode prog_2_method_16_code 14 = .ok (.iaload, 1) := by decide +kernel
theorem d_Fo_partPlaces_15 : decode prog_2_method_16_code 15 = .ok (.iaload, 1) := by decide +kernel
theorem d_Fo_partPlaces_16 : decode prog_2_method_16_code 16 = .ok (.istore 4, 2) := by decide +kernel
theorem d_Fo_partPlaces_18 : decode prog_2_method_16_code 18 = .ok (.aload_n 0, 1) := by decide +kernel
theorem d_Fo_partPlaces_19 : decode prog_2_method_16_code 19 = .ok (.getfield 30, 3) := by decide +kernel
theorem d_Fo_partPlaces_22 : decode prog_2_method_16_code 22 = .ok (.aload_n 0, 1) := by decide +kernel
theorem d_Fo_partPlaces_23 : decode prog_2_method_16_code 23 = .ok (.getfield 18, 3) := by decide +kernel
theorem d_Fo_partPlaces_26 : decode prog_2_method_16_code 26 = .ok (.iload_n 1, 1) := by decide +kernel
theorem d_Fo_partPlaces_27 : decode prog_2_method_16_code 27 = .ok (.iaload, 1) := by decide +kernel
theorem d_Fo_partPlaces_28 : decode prog_2_method_16_code 28 = .ok (.iaload, 1) := by decide +kernel
theorem d_Fo_partPlaces_29 : decode prog_2_method_16_code 29 = .ok (.istore 5, 2) := by decide +kernel
theorem d_Fo_partPlaces_31 : decode prog_2_method_16_code 31 = .ok (.aload_n 0, 1) := by decide +kernel
theorem d_Fo_partPlaces_32 : decode prog_2_method_16_code 32 = .ok (.getfield 9, 3) := by decide +kernel
theorem d_Fo_partPlaces_35 : decode prog_2_method_16_code 35 = .ok (.iload_n 1, 1) := by decide +kernel
theorem d_Fo_partPlaces_36 : decode prog_2_method_16_code 36 = .ok (.iaload, 1) := by decide +kernel
theorem d_Fo_partPlaces_37 : decode prog_2_method_16_code 37 = .ok (.lookupswitch 225 #[(33, 135), (38, 142), (49, 115), (62, 154), (70, 171), (71, 179), (82, 204), (85, 195), (88, 164), (97, 117), (98, 123), (99, 129), (124, 148)], 115) := by decide +kernel
theorem d_Fo_partPlaces_152 : decode prog_2_method_16_code 152 = .ok (.iload_n 3, 1) := by decide +kernel
theorem d_Fo_partPlaces_153 : decode prog_2_method_16_code 153 = .ok (.ireturn, 1) := by decide +kernel
theorem d_Fo_partPlaces_154 : decode prog_2_method_16_code 154 = .ok (.aload_n 2, 1) := by decide +kernel
theorem d_Fo_partPlaces_155 : decode prog_2_method_16_code 155 = .ok (.iconst 0, 1) := by decide +kernel
theorem d_Fo_partPlaces_156 : decode prog_2_method_16_code 156 = .ok (.invokevirtual 68, 3) := by decide +kernel
theorem d_Fo_partPlaces_159 : decode prog_2_method_16_code 159 = .ok (.ireturn, 1) := by decide +kernel
theorem d_Fo_partPlaces_160 : decode prog_2_method_16_code 160 = .ok (.aload_n 2, 1) := by decide +kernel
theorem d_Fo_partPlaces_161 : decode prog_2_method_16_code 161 = .ok (.iconst 1, 1) := by decide +kernel
theorem d_Fo_partPlaces_162 : decode prog_2_method_16_code 162 = .ok (.invokevirtual 68, 3) := by decide +kernel
theorem d_Fo_partPlaces_165 : decode prog_2_method_16_code 165 = .ok (.ireturn, 1) := by decide +kernel
theorem d_Fo_partPlaces_166 : decode prog_2_method_16_code 166 = .ok (.aload_n 2, 1) := by decide +kernel
theorem d_Fo_partPlaces_167 : decode prog_2_method_16_code 167 = .ok (.iconst 2, 1) := by decide +kernel
