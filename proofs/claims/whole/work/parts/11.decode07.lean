theorem d_Fo_partPlaces_168 : decode prog_2_method_16_code 168 = .ok (.invokevirtual 68, 3) := by decide +kernel
theorem d_Fo_partPlaces_171 : decode prog_2_method_16_code 171 = .ok (.ireturn, 1) := by decide +kernel
theorem d_Fo_partPlaces_172 : decode prog_2_method_16_code 172 = .ok (.iload_n 3, 1) := by decide +kernel
theorem d_Fo_partPlaces_173 : decode prog_2_method_16_code 173 = .ok (.iload 5, 2) := by decide +kernel
theorem d_Fo_partPlaces_175 : decode prog_2_method_16_code 175 = .ok (.iconst (-1), 1) := by decide +kernel
theorem d_Fo_partPlaces_176 : decode prog_2_method_16_code 176 = .ok (.ixor, 1) := by decide +kernel
theorem d_Fo_partPlaces_177 : decode prog_2_method_16_code 177 = .ok (.iand, 1) := by decide +kernel
theorem d_Fo_partPlaces_178 : decode prog_2_method_16_code 178 = .ok (.ireturn, 1) := by decide +kernel
theorem d_Fo_partPlaces_179 : decode prog_2_method_16_code 179 = .ok (.iload 4, 2) := by decide +kernel
theorem d_Fo_partPlaces_181 : decode prog_2_method_16_code 181 = .ok (.iload 5, 2) := by decide +kernel
theorem d_Fo_partPlaces_183 : decode prog_2_method_16_code 183 = .ok (.iand, 1) := by decide +kernel
theorem d_Fo_partPlaces_184 : decode prog_2_method_16_code 184 = .ok (.ireturn, 1) := by decide +kernel
theorem d_Fo_partPlaces_185 : decode prog_2_method_16_code 185 = .ok (.iload 4, 2) := by decide +kernel
theorem d_Fo_partPlaces_187 : decode prog_2_method_16_code 187 = .ok (.iload 5, 2) := by decide +kernel
theorem d_Fo_partPlaces_189 : decode prog_2_method_16_code 189 = .ok (.ior, 1) := by decide +kernel
theorem d_Fo_partPlaces_190 : decode prog_2_method_16_code 190 = .ok (.ireturn, 1) := by decide +kernel
theorem d_Fo_partPlaces_191 : decode prog_2_method_16_code 191 = .ok (.iload_n 3, 1) := by decide +kernel
theorem d_Fo_partPlaces_192 : decode prog_2_method_16_code 192 = .ok (.iload 4, 2) := by decide +kernel
theorem d_Fo_partPlaces_194 : decode prog_2_method_16_code 194 = .ok (.iconst (-1), 1) := by decide +kernel
theorem d_Fo_partPlaces_195 : decode prog_2_method_16_code 195 = .ok (.ixor, 1) := by decide +kernel
theorem d_Fo_partPlaces_196 : decode prog_2_method_16_code 196 = .ok (.iand, 1) := by decide +kernel
theorem d_Fo_partPlaces_197 : decode prog_2_method_16_code 197 = .ok (.iload 5, 2) := by decide +kernel
theorem d_Fo_partPlaces_199 : decode prog_2_method_16_code 199 = .ok (.ior, 1) := by decide +kernel
theorem d_Fo_partPlaces_200 : decode prog_2_method_16_code 200 = .ok (.ireturn, 1) := by decide +kernel
theorem d_Fo_partPlaces_201 : decode prog_2_method_16_code 201 = .ok (.aload_n 2, 1) := by decide +kernel
theorem d_Fo_partPlaces_202 : decode prog_2_method_16_code 202 = .ok (.iload 5, 2) := by decide +kernel
theorem d_Fo_partPlaces_204 : decode prog_2_method_16_code 204 = .ok (.invokevirtual 72, 3) := by decide +kernel
theorem d_Fo_partPlaces_207 : decode prog_2_method_16_code 207 = .ok (.ireturn, 1) := by decide +kernel
theorem d_Fo_partPlaces_208 : decode prog_2_method_16_code 208 = .ok (.aload_n 2, 1) := by decide +kernel
theorem d_Fo_partPlaces_209 : decode prog_2_method_16_code 209 = .ok (.iload_n 3, 1) := by decide +kernel
theorem d_Fo_partPlaces_210 : decode prog_2_method_16_code 210 = .ok (.iload 5, 2) := by decide +kernel
theorem d_Fo_partPlaces_212 : decode prog_2_method_16_code 212 = .ok (.invokevirtual 75, 3) := by decide +kernel
theorem d_Fo_partPlaces_215 : decode prog_2_method_16_code 215 = .ok (.ireturn, 1) := by decide +kernel
theorem d_Fo_partPlaces_216 : decode prog_2_method_16_code 216 = .ok (.iload_n 3, 1) := by decide +kernel
theorem d_Fo_partPlaces_217 : decode prog_2_method_16_code 217 = .ok (.aload_n 2, 1) := by decide +kernel
theorem d_Fo_partPlaces_218 : decode prog_2_method_16_code 218 = .ok (.iload_n 3, 1) := by decide +kernel
theorem d_Fo_partPlaces_219 : decode prog_2_method_16_code 219 = .ok (.iload_n 3, 1) := by decide +kernel
theorem d_Fo_partPlaces_220 : decode prog_2_method_16_code 220 = .ok (.iload 5, 2) := by decide +kernel
theorem d_Fo_partPlaces_222 : decode prog_2_method_16_code 222 = .ok (.iconst (-1), 1) := by decide +kernel
theorem d_Fo_partPlaces_223 : decode prog_2_method_16_code 223 = .ok (.ixor, 1) := by decide +kernel
theorem d_Fo_partPlaces_224 : decode prog_2_method_16_code 224 = .ok (.iand, 1) := by decide +kernel
theorem d_Fo_partPlaces_225 : decode prog_2_method_16_code 225 = .ok (.invokevirtual 75, 3) := by decide +kernel
theorem d_Fo_partPlaces_228 : decode prog_2_method_16_code 228 = .ok (.iconst (-1), 1) := by decide +kernel
theorem d_Fo_partPlaces_229 : decode prog_2_method_16_code 229 = .ok (.ixor, 1) := by decide +kernel
theorem d_Fo_partPlaces_230 : decode prog_2_method_16_code 230 = .ok (.iand, 1) := by decide +kernel
theorem d_Fo_partPlaces_231 : decode prog_2_method_16_code 231 = .ok (.ireturn, 1) := by decide +kernel
theorem d_Fo_partPlaces_232 : decode prog_2_method_16_code 232 = .ok (.aload_n 2, 1) := by decide +kernel
theorem d_Fo_partPlaces_233 : decode prog_2_method_16_code 233 = .ok (.iload 4, 2) := by decide +kernel
theorem d_Fo_partPlaces_235 : decode prog_2_method_16_code 235 = .ok (.iload 5, 2) := by decide +kernel
theorem d_Fo_partPlaces_237 : decode prog_2_method_16_code 237 = .ok (.invokevirtual 75, 3) := by decide +kernel
theorem d_Fo_partPlaces_240 : decode prog_2_method_16_code 240 = .ok (.ireturn, 1) := by decide +kernel
theorem d_Fo_partPlaces_241 : decode prog_2_method_16_code 241 = .ok (.iload_n 3, 1) := by decide +kernel
theorem d_Fo_partPlaces_242 : decode prog_2_method_16_code 242 = .ok (.aload_n 2, 1) := by decide +kernel
theorem d_Fo_partPlaces_243 : decode prog_2_method_16_code 243 = .ok (.iload_n 3, 1) := by decide +kernel
theorem d_Fo_partPlaces_244 : decode prog_2_method_16_code 244 = .ok (.iload 4, 2) := by decide +kernel
theorem d_Fo_partPlaces_246 : decode prog_2_method_16_code 246 = .ok (.iconst (-1), 1) := by decide +kernel
theorem d_Fo_partPlaces_247 : decode prog_2_method_16_code 247 = .ok (.ixor, 1) := by decide +kernel
theorem d_Fo_partPlaces_248 : decode prog_2_method_16_code 248 = .ok (.iand, 1) := by decide +kernel
theorem d_Fo_partPlaces_249 : decode prog_2_method_16_code 249 = .ok (.iload_n 3, 1) := by decide +kernel
theorem d_Fo_partPlaces_250 : decode prog_2_method_16_code 250 = .ok (.iload 5, 2) := by decide +kernel
theorem d_Fo_partPlaces_252 : decode prog_2_method_16_code 252 = .ok (.iconst (-1), 1) := by decide +kernel
theorem d_Fo_partPlaces_253 : decode prog_2_method_16_code 253 = .ok (.ixor, 1) := by decide +kernel
theorem d_Fo_partPlaces_254 : decode prog_2_method_16_code 254 = .ok (.iand, 1) := by decide +kernel
theorem d_Fo_partPlaces_255 : decode prog_2_method_16_code 255 = .ok (.invokevirtual 75, 3) := by decide +kernel
theorem d_Fo_partPlaces_258 : decode prog_2_method_16_code 258 = .ok (.iconst (-1), 1) := by decide +kernel
theorem d_Fo_partPlaces_259 : decode prog_2_method_16_code 259 = .ok (.ixor, 1) := by decide +kernel
theorem d_Fo_partPlaces_260 : decode prog_2_method_16_code 260 = .ok (.iand, 1) := by decide +kernel
theorem d_Fo_partPlaces_261 : decode prog_2_method_16_code 261 = .ok (.ireturn, 1) := by decide +kernel
theorem d_Fo_partPlaces_262 : decode prog_2_method_16_code 262 = .ok (.iconst 0, 1) := by decide +kernel
theorem d_Fo_partPlaces_263 : decode prog_2_method_16_code 263 = .ok (.ireturn, 1) := by decide +kernel
theorem d_Gw_fits_0 : decode prog_3_method_2_code 0 = .ok (.iload_n 0, 1) := by decide +kernel
theorem d_Gw_fits_1 : decode prog_3_method_2_code 1 = .ok (.ifCond .lt 24, 3) := by decide +kernel
theorem d_Gw_fits_4 : decode prog_3_method_2_code 4 = .ok (.iload_n 0, 1) := by decide +kernel
theorem d_Gw_fits_5 : decode prog_3_method_2_code 5 = .ok (.bipush 8, 2) := by decide +kernel
theorem d_Gw_fits_7 : decode prog_3_method_2_code 7 = .ok (.if_icmp .gt 18, 3) := by decide +kernel
theorem d_Gw_fits_10 : decode prog_3_method_2_code 10 = .ok (.iload_n 1, 1) := by decide +kernel
theorem d_Gw_fits_11 : decode prog_3_method_2_code 11 = .ok (.iconst 1, 1) := by decide +kernel
theorem d_Gw_fits_12 : decode prog_3_method_2_code 12 = .ok (.if_icmp .lt 13, 3) := by decide +kernel
theorem d_Gw_fits_15 : decode prog_3_method_2_code 15 = .ok (.iload_n 1, 1) := by decide +kernel
theorem d_Gw_fits_16 : decode prog_3_method_2_code 16 = .ok (.bipush 8, 2) := by decide +kernel
theorem d_Gw_fits_18 : decode prog_3_method_2_code 18 = .ok (.if_icmp .gt 7, 3) := by decide +kernel
theorem d_Gw_fits_21 : decode prog_3_method_2_code 21 = .ok (.iconst 1, 1) := by decide +kernel
theorem d_Gw_fits_22 : decode prog_3_method_2_code 22 = .ok (.goto 4, 3) := by decide +kernel
theorem d_Gw_fits_25 : decode prog_3_method_2_code 25 = .ok (.iconst 0, 1) := by decide +kernel
theorem d_Gw_fits_26 : decode prog_3_method_2_code 26 = .ok (.ireturn, 1) := by decide +kernel
theorem d_Gw_size_0 : decode prog_3_method_3_code 0 = .ok (.aload_n 0, 1) := by decide +kernel
theorem d_Gw_size_1 : decode prog_3_method_3_code 1 = .ok (.getfield 15, 3) := by decide +kernel
theorem d_Gw_size_4 : decode prog_3_method_3_code 4 = .ok (.aload_n 0, 1) := by decide +kernel
theorem d_Gw_size_5 : decode prog_3_method_3_code 5 = .ok (.getfield 19, 3) := by decide +kernel
theorem d_Gw_size_8 : decode prog_3_method_3_code 8 = .ok (.iadd, 1) := by decide +kernel
theorem d_Gw_size_9 : decode prog_3_method_3_code 9 = .ok (.ireturn, 1) := by decide +kernel
theorem d_Gw_reshape_0 : decode prog_3_method_4_code 0 = .ok (.aload_n 0, 1) := by decide +kernel
theorem d_Gw_reshape_1 : decode prog_3_method_4_code 1 = .ok (.iload_n 1, 1) := by decide +kernel
theorem d_Gw_reshape_2 : decode prog_3_method_4_code 2 = .ok (.putfield 15, 3) := by decide +kernel
theorem d_Gw_reshape_5 : decode prog_3_method_4_code 5 = .ok (.aload_n 0, 1) := by decide +kernel
theorem d_Gw_reshape_6 : decode prog_3_method_4_code 6 = .ok (.iload_n 2, 1) := by decide +kernel
theorem d_Gw_reshape_7 : decode prog_3_method_4_code 7 = .ok (.putfield 19, 3) := by decide +kernel
theorem d_Gw_reshape_10 : decode prog_3_method_4_code 10 = .ok (.aload_n 0, 1) := by decide +kernel
theorem d_Gw_reshape_11 : decode prog_3_method_4_code 11 = .ok (.invokevirtual 22, 3) := by decide +kernel
theorem d_Gw_reshape_14 : decode prog_3_method_4_code 14 = .ok (.istore_n 3, 1) := by decide +kernel
theorem d_Gw_reshape_15 : decode prog_3_method_4_code 15 = .ok (.iload_n 3, 1) := by decide +kernel
theorem d_Gw_reshape_16 : decode prog_3_method_4_code 16 = .ok (.aload_n 0, 1) := by decide +kernel
theorem d_Gw_reshape_17 : decode prog_3_method_4_code 17 = .ok (.getfield 9, 3) := by decide +kernel
theorem d_Gw_reshape_20 : decode prog_3_method_4_code 20 = .ok (.arraylength, 1) := by decide +kernel
theorem d_Gw_reshape_21 : decode prog_3_method_4_code 21 = .ok (.if_icmp .ge 16, 3) := by decide +kernel
theorem d_Gw_reshape_24 : decode prog_3_method_4_code 24 = .ok (.aload_n 0, 1) := by decide +kernel
theorem d_Gw_reshape_25 : decode prog_3_method_4_code 25 = .ok (.getfield 9, 3) := by decide +kernel
theorem d_Gw_reshape_28 : decode prog_3_method_4_code 28 = .ok (.iload_n 3, 1) := by decide +kernel
theorem d_Gw_reshape_29 : decode prog_3_method_4_code 29 = .ok (.iconst 0, 1) := by decide +kernel
theorem d_Gw_reshape_30 : decode prog_3_method_4_code 30 = .ok (.iastore, 1) := by decide +kernel
theorem d_Gw_reshape_31 : decode prog_3_method_4_code 31 = .ok (.iinc 3 1, 3) := by decide +kernel
theorem d_Gw_reshape_34 : decode prog_3_method_4_code 34 = .ok (.goto (-19), 3) := by decide +kernel
theorem d_Gw_reshape_37 : decode prog_3_method_4_code 37 = .ok (.return_, 1) := by decide +kernel
theorem d_Gw_replace_0 : decode prog_3_method_5_code 0 = .ok (.aload_n 0, 1) := by decide +kernel
theorem d_Gw_replace_1 : decode prog_3_method_5_code 1 = .ok (.getfield 9, 3) := by decide +kernel
theorem d_Gw_replace_4 : decode prog_3_method_5_code 4 = .ok (.iload_n 1, 1) := by decide +kernel
theorem d_Gw_replace_5 : decode prog_3_method_5_code 5 = .ok (.iaload, 1) := by decide +kernel
theorem d_Gw_replace_6 : decode prog_3_method_5_code 6 = .ok (.istore_n 3, 1) := by decide +kernel
theorem d_Gw_replace_7 : decode prog_3_method_5_code 7 = .ok (.aload_n 0, 1) := by decide +kernel
theorem d_Gw_replace_8 : decode prog_3_method_5_code 8 = .ok (.getfield 9, 3) := by decide +kernel
theorem d_Gw_replace_11 : decode prog_3_method_5_code 11 = .ok (.iload_n 1, 1) := by decide +kernel
theorem d_Gw_replace_12 : decode prog_3_method_5_code 12 = .ok (.iload_n 2, 1) := by decide +kernel
theorem d_Gw_replace_13 : decode prog_3_method_5_code 13 = .ok (.bipush 7, 2) := by decide +kernel
theorem d_Gw_replace_15 : decode prog_3_method_5_code 15 = .ok (.iand, 1) := by decide +kernel
theorem d_Gw_replace_16 : decode prog_3_method_5_code 16 = .ok (.iastore, 1) := by decide +kernel
theorem d_Gw_replace_17 : decode prog_3_method_5_code 17 = .ok (.iload_n 3, 1) := by decide +kernel
theorem d_Gw_replace_18 : decode prog_3_method_5_code 18 = .ok (.ireturn, 1) := by decide +kernel
theorem d_Gw_take_0 : decode prog_3_method_6_code 0 = .ok (.aload_n 0, 1) := by decide +kernel
theorem d_Gw_take_1 : decode prog_3_method_6_code 1 = .ok (.aload_n 1, 1) := by decide +kernel
theorem d_Gw_take_2 : decode prog_3_method_6_code 2 = .ok (.invokevirtual 26, 3) := by decide +kernel
theorem d_Gw_take_5 : decode prog_3_method_6_code 5 = .ok (.aload_n 1, 1) := by decide +kernel
theorem d_Gw_take_6 : decode prog_3_method_6_code 6 = .ok (.invokevirtual 30, 3) := by decide +kernel
theorem d_Gw_take_9 : decode prog_3_method_6_code 9 = .ok (.invokevirtual 32, 3) := by decide +kernel
theorem d_Gw_take_12 : decode prog_3_method_6_code 12 = .ok (.iconst 0, 1) := by decide +kernel
theorem d_Gw_take_13 : decode prog_3_method_6_code 13 = .ok (.istore_n 2, 1) := by decide +kernel
theorem d_Gw_take_14 : decode prog_3_method_6_code 14 = .ok (.iload_n 2, 1) := by decide +kernel
theorem d_Gw_take_15 : decode prog_3_method_6_code 15 = .ok (.aload_n 0, 1) := by decide +kernel
theorem d_Gw_take_16 : decode prog_3_method_6_code 16 = .ok (.invokevirtual 22, 3) := by decide +kernel
theorem d_Gw_take_19 : decode prog_3_method_6_code 19 = .ok (.if_icmp .ge 23, 3) := by decide +kernel
theorem d_Gw_take_22 : decode prog_3_method_6_code 22 = .ok (.aload_n 0, 1) := by decide +kernel
theorem d_Gw_take_23 : decode prog_3_method_6_code 23 = .ok (.getfield 9, 3) := by decide +kernel
theorem d_Gw_take_26 : decode prog_3_method_6_code 26 = .ok (.iload_n 2, 1) := by decide +kernel
theorem d_Gw_take_27 : decode prog_3_method_6_code 27 = .ok (.aload_n 1, 1) := by decide +kernel
theorem d_Gw_take_28 : decode prog_3_method_6_code 28 = .ok (.iload_n 2, 1) := by decide +kernel
theorem d_Gw_take_29 : decode prog_3_method_6_code 29 = .ok (.invokevirtual 36, 3) := by decide +kernel
theorem d_Gw_take_32 : decode prog_3_method_6_code 32 = .ok (.bipush 7, 2) := by decide +kernel
theorem d_Gw_take_34 : decode prog_3_method_6_code 34 = .ok (.iand, 1) := by decide +kernel
theorem d_Gw_take_35 : decode prog_3_method_6_code 35 = .ok (.iastore, 1) := by decide +kernel
theorem d_Gw_take_36 : decode prog_3_method_6_code 36 = .ok (.iinc 2 1, 3) := by decide +kernel
theorem d_Gw_take_39 : decode prog_3_method_6_code 39 = .ok (.goto (-25), 3) := by decide +kernel
theorem d_Gw_take_42 : decode prog_3_method_6_code 42 = .ok (.return_, 1) := by decide +kernel
theorem d_Gw_indexOf_0 : decode prog_3_method_7_code 0 = .ok (.iload_n 1, 1) := by decide +kernel
theorem d_Gw_indexOf_1 : decode prog_3_method_7_code 1 = .ok (.aload_n 0, 1) := by decide +kernel
theorem d_Gw_indexOf_2 : decode prog_3_method_7_code 2 = .ok (.invokevirtual 22, 3) := by decide +kernel
theorem d_Gw_indexOf_5 : decode prog_3_method_7_code 5 = .ok (.if_icmp .lt 11, 3) := by decide +kernel
theorem d_Gw_indexOf_8 : decode prog_3_method_7_code 8 = .ok (.aload_n 0, 1) := by decide +kernel
theorem d_Gw_indexOf_9 : decode prog_3_method_7_code 9 = .ok (.getfield 19, 3) := by decide +kernel
theorem d_Gw_indexOf_12 : decode prog_3_method_7_code 12 = .ok (.iconst 1, 1) := by decide +kernel
theorem d_Gw_indexOf_13 : decode prog_3_method_7_code 13 = .ok (.if_icmp .ge 7, 3) := by decide +kernel
theorem d_Gw_indexOf_16 : decode prog_3_method_7_code 16 = .ok (.iload_n 1, 1) := by decide +kernel
theorem d_Gw_indexOf_17 : decode prog_3_method_7_code 17 = .ok (.goto 19, 3) := by decide +kernel
theorem d_Gw_indexOf_20 : decode prog_3_method_7_code 20 = .ok (.aload_n 0, 1) := by decide +kernel
theorem d_Gw_indexOf_21 : decode prog_3_method_7_code 21 = .ok (.getfield 15, 3) := by decide +kernel
theorem d_Gw_indexOf_24 : decode prog_3_method_7_code 24 = .ok (.iload_n 1, 1) := by decide +kernel
theorem d_Gw_indexOf_25 : decode prog_3_method_7_code 25 = .ok (.aload_n 0, 1) := by decide +kernel
theorem d_Gw_indexOf_26 : decode prog_3_method_7_code 26 = .ok (.getfield 15, 3) := by decide +kernel
theorem d_Gw_indexOf_29 : decode prog_3_method_7_code 29 = .ok (.isub, 1) := by decide +kernel
theorem d_Gw_indexOf_30 : decode prog_3_method_7_code 30 = .ok (.aload_n 0, 1) := by decide +kernel
theorem d_Gw_indexOf_31 : decode prog_3_method_7_code 31 = .ok (.getfield 19, 3) := by decide +kernel
theorem d_Gw_indexOf_34 : decode prog_3_method_7_code 34 = .ok (.irem, 1) := by decide +kernel
theorem d_Gw_indexOf_35 : decode prog_3_method_7_code 35 = .ok (.iadd, 1) := by decide +kernel
theorem d_Gw_indexOf_36 : decode prog_3_method_7_code 36 = .ok (.ireturn, 1) := by decide +kernel
theorem d_Gw_letterAt_0 : decode prog_3_method_8_code 0 = .ok (.aload_n 0, 1) := by decide +kernel
theorem d_Gw_letterAt_1 : decode prog_3_method_8_code 1 = .ok (.getfield 9, 3) := by decide +kernel
theorem d_Gw_letterAt_4 : decode prog_3_method_8_code 4 = .ok (.aload_n 0, 1) := by decide +kernel
theorem d_Gw_letterAt_5 : decode prog_3_method_8_code 5 = .ok (.iload_n 1, 1) := by decide +kernel
theorem d_Gw_letterAt_6 : decode prog_3_method_8_code 6 = .ok (.invokevirtual 40, 3) := by decide +kernel
theorem d_Gw_letterAt_9 : decode prog_3_method_8_code 9 = .ok (.iaload, 1) := by decide +kernel
theorem d_Gw_letterAt_10 : decode prog_3_method_8_code 10 = .ok (.ireturn, 1) := by decide +kernel
theorem d_Gw_allPlaces_0 : decode prog_3_method_9_code 0 = .ok (.iconst 1, 1) := by decide +kernel
theorem d_Gw_allPlaces_1 : decode prog_3_method_9_code 1 = .ok (.aload_n 0, 1) := by decide +kernel
theorem d_Gw_allPlaces_2 : decode prog_3_method_9_code 2 = .ok (.invokevirtual 22, 3) := by decide +kernel
theorem d_Gw_allPlaces_5 : decode prog_3_method_9_code 5 = .ok (.ishl, 1) := by decide +kernel
theorem d_Gw_allPlaces_6 : decode prog_3_method_9_code 6 = .ok (.iconst 1, 1) := by decide +kernel
theorem d_Gw_allPlaces_7 : decode prog_3_method_9_code 7 = .ok (.isub, 1) := by decide +kernel
theorem d_Gw_allPlaces_8 : decode prog_3_method_9_code 8 = .ok (.ireturn, 1) := by decide +kernel
theorem d_Gw_placesWith_0 : decode prog_3_method_10_code 0 = .ok (.iconst 0, 1) := by decide +kernel
theorem d_Gw_placesWith_1 : decode prog_3_method_10_code 1 = .ok (.istore_n 2, 1) := by decide +kernel
theorem d_Gw_placesWith_2 : decode prog_3_method_10_code 2 = .ok (.iconst 0, 1) := by decide +kernel
theorem d_Gw_placesWith_3 : decode prog_3_method_10_code 3 = .ok (.istore_n 3, 1) := by decide +kernel
theorem d_Gw_placesWith_4 : decode prog_3_method_10_code 4 = .ok (.iload_n 3, 1) := by decide +kernel
theorem d_Gw_placesWith_5 : decode prog_3_method_10_code 5 = .ok (.aload_n 0, 1) := by decide +kernel
theorem d_Gw_placesWith_6 : decode prog_3_method_10_code 6 = .ok (.invokevirtual 22, 3) := by decide +kernel
theorem d_Gw_placesWith_9 : decode prog_3_method_10_code 9 = .ok (.if_icmp .ge 28, 3) := by decide +kernel
theorem d_Gw_placesWith_12 : decode prog_3_method_10_code 12 = .ok (.aload_n 0, 1) := by decide +kernel
theorem d_Gw_placesWith_13 : decode prog_3_method_10_code 13 = .ok (.getfield 9, 3) := by decide +kernel
theorem d_Gw_placesWith_16 : decode prog_3_method_10_code 16 = .ok (.iload_n 3, 1) := by decide +kernel
theorem d_Gw_placesWith_17 : decode prog_3_method_10_code 17 = .ok (.iaload, 1) := by decide +kernel
theorem d_Gw_placesWith_18 : decode prog_3_method_10_code 18 = .ok (.iload_n 1, 1) := by decide +kernel
theorem d_Gw_placesWith_19 : decode prog_3_method_10_code 19 = .ok (.invokestatic 43, 3) := by decide +kernel
theorem d_Gw_placesWith_22 : decode prog_3_method_10_code 22 = .ok (.ifCond .eq 9, 3) := by decide +kernel
theorem d_Gw_placesWith_25 : decode prog_3_method_10_code 25 = .ok (.iload_n 2, 1) := by decide +kernel
theorem d_Gw_placesWith_26 : decode prog_3_method_10_code 26 = .ok (.iconst 1, 1) := by decide +kernel
theorem d_Gw_placesWith_27 : decode prog_3_method_10_code 27 = .ok (.iload_n 3, 1) := by decide +kernel
theorem d_Gw_placesWith_28 : decode prog_3_method_10_code 28 = .ok (.ishl, 1) := by decide +kernel
theorem d_Gw_placesWith_29 : decode prog_3_method_10_code 29 = .ok (.ior, 1) := by decide +kernel
theorem d_Gw_placesWith_30 : decode prog_3_method_10_code 30 = .ok (.istore_n 2, 1) := by decide +kernel
theorem d_Gw_placesWith_31 : decode prog_3_method_10_code 31 = .ok (.iinc 3 1, 3) := by decide +kernel
theorem d_Gw_placesWith_34 : decode prog_3_method_10_code 34 = .ok (.goto (-30), 3) := by decide +kernel
theorem d_Gw_placesWith_37 : decode prog_3_method_10_code 37 = .ok (.iload_n 2, 1) := by decide +kernel
theorem d_Gw_placesWith_38 : decode prog_3_method_10_code 38 = .ok (.ireturn, 1) := by decide +kernel
theorem d_Gw_placesBefore_0 : decode prog_3_method_11_code 0 = .ok (.iload_n 1, 1) := by decide +kernel
theorem d_Gw_placesBefore_1 : decode prog_3_method_11_code 1 = .ok (.aload_n 0, 1) := by decide +kernel
theorem d_Gw_placesBefore_2 : decode prog_3_method_11_code 2 = .ok (.getfield 15, 3) := by decide +kernel
theorem d_Gw_placesBefore_5 : decode prog_3_method_11_code 5 = .ok (.invokestatic 43, 3) := by decide +kernel
theorem d_Gw_placesBefore_8 : decode prog_3_method_11_code 8 = .ok (.ifCond .eq 14, 3) := by decide +kernel
theorem d_Gw_placesBefore_11 : decode prog_3_method_11_code 11 = .ok (.iconst 1, 1) := by decide +kernel
theorem d_Gw_placesBefore_12 : decode prog_3_method_11_code 12 = .ok (.aload_n 0, 1) := by decide +kernel
theorem d_Gw_placesBefore_13 : decode prog_3_method_11_code 13 = .ok (.invokevirtual 22, 3) := by decide +kernel
theorem d_Gw_placesBefore_16 : decode prog_3_method_11_code 16 = .ok (.iconst 1, 1) := by decide +kernel
theorem d_Gw_placesBefore_17 : decode prog_3_method_11_code 17 = .ok (.isub, 1) := by decide +kernel
theorem d_Gw_placesBefore_18 : decode prog_3_method_11_code 18 = .ok (.ishl, 1) := by decide +kernel
theorem d_Gw_placesBefore_19 : decode prog_3_method_11_code 19 = .ok (.goto 4, 3) := by decide +kernel
theorem d_Gw_placesBefore_22 : decode prog_3_method_11_code 22 = .ok (.iconst 0, 1) := by decide +kernel
theorem d_Gw_placesBefore_23 : decode prog_3_method_11_code 23 = .ok (.istore_n 2, 1) := by decide +kernel
theorem d_Gw_placesBefore_24 : decode prog_3_method_11_code 24 = .ok (.iload_n 1, 1) := by decide +kernel
theorem d_Gw_placesBefore_25 : decode prog_3_method_11_code 25 = .ok (.iconst 1, 1) := by decide +kernel
theorem d_Gw_placesBefore_26 : decode prog_3_method_11_code 26 = .ok (.ishr, 1) := by decide +kernel
theorem d_Gw_placesBefore_27 : decode prog_3_method_11_code 27 = .ok (.iload_n 2, 1) := by decide +kernel
theorem d_Gw_placesBefore_28 : decode prog_3_method_11_code 28 = .ok (.ior, 1) := by decide +kernel
theorem d_Gw_placesBefore_29 : decode prog_3_method_11_code 29 = .ok (.ireturn, 1) := by decide +kernel
theorem d_Gw_placesUntil_0 : decode prog_3_method_12_code 0 = .ok (.iload_n 2, 1) := by decide +kernel
theorem d_Gw_placesUntil_1 : decode prog_3_method_12_code 1 = .ok (.istore_n 3, 1) := by decide +kernel
theorem d_Gw_placesUntil_2 : decode prog_3_method_12_code 2 = .ok (.iconst 0, 1) := by decide +kernel
theorem d_Gw_placesUntil_3 : decode prog_3_method_12_code 3 = .ok (.istore 4, 2) := by decide +kernel
theorem d_Gw_placesUntil_5 : decode prog_3_method_12_code 5 = .ok (.iload 4, 2) := by decide +kernel
theorem d_Gw_placesUntil_7 : decode prog_3_method_12_code 7 = .ok (.aload_n 0, 1) := by decide +kernel
theorem d_Gw_placesUntil_8 : decode prog_3_method_12_code 8 = .ok (.invokevirtual 22, 3) := by decide +kernel
theorem d_Gw_placesUntil_11 : decode prog_3_method_12_code 11 = .ok (.if_icmp .ge 19, 3) := by decide +kernel
theorem d_Gw_placesUntil_14 : decode prog_3_method_12_code 14 = .ok (.iload_n 2, 1) := by decide +kernel
theorem d_Gw_placesUntil_15 : decode prog_3_method_12_code 15 = .ok (.iload_n 1, 1) := by decide +kernel
theorem d_Gw_placesUntil_16 : decode prog_3_method_12_code 16 = .ok (.aload_n 0, 1) := by decide +kernel
theorem d_Gw_placesUntil_17 : decode prog_3_method_12_code 17 = .ok (.iload_n 3, 1) := by decide +kernel
theorem d_Gw_placesUntil_18 : decode prog_3_method_12_code 18 = .ok (.invokevirtual 47, 3) := by decide +kernel
theorem d_Gw_placesUntil_21 : decode prog_3_method_12_code 21 = .ok (.iand, 1) := by decide +kernel
theorem d_Gw_placesUntil_22 : decode prog_3_method_12_code 22 = .ok (.ior, 1) := by decide +kernel
theorem d_Gw_placesUntil_23 : decode prog_3_method_12_code 23 = .ok (.istore_n 3, 1) := by decide +kernel
theorem d_Gw_placesUntil_24 : decode prog_3_method_12_code 24 = .ok (.iinc 4 1, 3) := by decide +kernel
theorem d_Gw_placesUntil_27 : decode prog_3_method_12_code 27 = .ok (.goto (-22), 3) := by decide +kernel
theorem d_Gw_placesUntil_30 : decode prog_3_method_12_code 30 = .ok (.iload_n 3, 1) := by decide +kernel
theorem d_Gw_placesUntil_31 : decode prog_3_method_12_code 31 = .ok (.ireturn, 1) := by decide +kernel
theorem d_La_find_0 : decode prog_4_method_2_code 0 = .ok (.aload_n 0, 1) := by decide +kernel
theorem d_La_find_1 : decode prog_4_method_2_code 1 = .ok (.aload_n 1, 1) := by decide +kernel
theorem d_La_find_2 : decode prog_4_method_2_code 2 = .ok (.invokevirtual 44, 3) := by decide +kernel
theorem d_La_find_5 : decode prog_4_method_2_code 5 = .ok (.iconst 1, 1) := by decide +kernel
theorem d_La_find_6 : decode prog_4_method_2_code 6 = .ok (.istore_n 2, 1) := by decide +kernel
theorem d_La_find_7 : decode prog_4_method_2_code 7 = .ok (.iconst 0, 1) := by decide +kernel
theorem d_La_find_8 : decode prog_4_method_2_code 8 = .ok (.istore_n 3, 1) := by decide +kernel
theorem d_La_find_9 : decode prog_4_method_2_code 9 = .ok (.iload_n 2, 1) := by decide +kernel
theorem d_La_find_10 : decode prog_4_method_2_code 10 = .ok (.ifCond .eq 71, 3) := by decide +kernel
theorem d_La_find_13 : decode prog_4_method_2_code 13 = .ok (.iload_n 3, 1) := by decide +kernel
theorem d_La_find_14 : decode prog_4_method_2_code 14 = .ok (.sipush 256, 3) := by decide +kernel
theorem d_La_find_17 : decode prog_4_method_2_code 17 = .ok (.if_icmp .gt 64, 3) := by decide +kernel
theorem d_La_find_20 : decode prog_4_method_2_code 20 = .ok (.aload_n 0, 1) := by decide +kernel
theorem d_La_find_21 : decode prog_4_method_2_code 21 = .ok (.getfield 41, 3) := by decide +kernel
theorem d_La_find_24 : decode prog_4_method_2_code 24 = .ok (.istore 4, 2) := by decide +kernel
theorem d_La_find_26 : decode prog_4_method_2_code 26 = .ok (.aload_n 0, 1) := by decide +kernel
theorem d_La_find_27 : decode prog_4_method_2_code 27 = .ok (.invokevirtual 48, 3) := by decide +kernel
theorem d_La_find_30 : decode prog_4_method_2_code 30 = .ok (.iconst 0, 1) := by decide +kernel
theorem d_La_find_31 : decode prog_4_method_2_code 31 = .ok (.istore 5, 2) := by decide +kernel
theorem d_La_find_33 : decode prog_4_method_2_code 33 = .ok (.iload 5, 2) := by decide +kernel
theorem d_La_find_35 : decode prog_4_method_2_code 35 = .ok (.aload_n 0, 1) := by decide +kernel
theorem d_La_find_36 : decode prog_4_method_2_code 36 = .ok (.getfield 38, 3) := by decide +kernel
theorem d_La_find_39 : decode prog_4_method_2_code 39 = .ok (.if_icmp .ge 21, 3) := by decide +kernel
theorem d_La_find_42 : decode prog_4_method_2_code 42 = .ok (.aload_n 0, 1) := by decide +kernel
theorem d_La_find_43 : decode prog_4_method_2_code 43 = .ok (.iload 5, 2) := by decide +kernel
theorem d_La_find_45 : decode prog_4_method_2_code 45 = .ok (.invokevirtual 51, 3) := by decide +kernel
theorem d_La_find_48 : decode prog_4_method_2_code 48 = .ok (.aload_n 0, 1) := by decide +kernel
theorem d_La_find_49 : decode prog_4_method_2_code 49 = .ok (.iload 5, 2) := by decide +kernel
theorem d_La_find_51 : decode prog_4_method_2_code 51 = .ok (.invokevirtual 55, 3) := by decide +kernel
theorem d_La_find_54 : decode prog_4_method_2_code 54 = .ok (.iinc 5 1, 3) := by decide +kernel
theorem d_La_find_57 : decode prog_4_method_2_code 57 = .ok (.goto (-24), 3) := by decide +kernel
theorem d_La_find_60 : decode prog_4_method_2_code 60 = .ok (.aload_n 0, 1) := by decide +kernel
theorem d_La_find_61 : decode prog_4_method_2_code 61 = .ok (.getfield 41, 3) := by decide +kernel
theorem d_La_find_64 : decode prog_4_method_2_code 64 = .ok (.iload 4, 2) := by decide +kernel
theorem d_La_find_66 : decode prog_4_method_2_code 66 = .ok (.if_icmp .ge 7, 3) := by decide +kernel
theorem d_La_find_69 : decode prog_4_method_2_code 69 = .ok (.iconst 1, 1) := by decide +kernel
theorem d_La_find_70 : decode prog_4_method_2_code 70 = .ok (.goto 4, 3) := by decide +kernel
theorem d_La_find_73 : decode prog_4_method_2_code 73 = .ok (.iconst 0, 1) := by decide +kernel
theorem d_La_find_74 : decode prog_4_method_2_code 74 = .ok (.istore_n 2, 1) := by decide +kernel
theorem d_La_find_75 : decode prog_4_method_2_code 75 = .ok (.iinc 3 1, 3) := by decide +kernel
theorem d_La_find_78 : decode prog_4_method_2_code 78 = .ok (.goto (-69), 3) := by decide +kernel
theorem d_La_find_81 : decode prog_4_method_2_code 81 = .ok (.return_, 1) := by decide +kernel
theorem d_La_lookAtStates_0 : decode prog_4_method_3_code 0 = .ok (.aload_n 0, 1) := by decide +kernel
theorem d_La_lookAtStates_1 : decode prog_4_method_3_code 1 = .ok (.aload_n 1, 1) := by decide +kernel
theorem d_La_lookAtStates_2 : decode prog_4_method_3_code 2 = .ok (.invokevirtual 58, 3) := by decide +kernel
theorem d_La_lookAtStates_5 : decode prog_4_method_3_code 5 = .ok (.putfield 34, 3) := by decide +kernel
theorem d_La_lookAtStates_8 : decode prog_4_method_3_code 8 = .ok (.aload_n 0, 1) := by decide +kernel
theorem d_La_lookAtStates_9 : decode prog_4_method_3_code 9 = .ok (.aload_n 1, 1) := by decide +kernel
theorem d_La_lookAtStates_10 : decode prog_4_method_3_code 10 = .ok (.invokevirtual 64, 3) := by decide +kernel
theorem d_La_lookAtStates_13 : decode prog_4_method_3_code 13 = .ok (.putfield 38, 3) := by decide +kernel
theorem d_La_lookAtStates_16 : decode prog_4_method_3_code 16 = .ok (.aload_n 0, 1) := by decide +kernel
theorem d_La_lookAtStates_17 : decode prog_4_method_3_code 17 = .ok (.aload_n 0, 1) := by decide +kernel
theorem d_La_lookAtStates_18 : decode prog_4_method_3_code 18 = .ok (.getfield 34, 3) := by decide +kernel
theorem d_La_lookAtStates_21 : decode prog_4_method_3_code 21 = .ok (.putfield 41, 3) := by decide +kernel
theorem d_La_lookAtStates_24 : decode prog_4_method_3_code 24 = .ok (.iconst 0, 1) := by decide +kernel
theorem d_La_lookAtStates_25 : decode prog_4_method_3_code 25 = .ok (.istore_n 2, 1) := by decide +kernel
theorem d_La_lookAtStates_26 : decode prog_4_method_3_code 26 = .ok (.iload_n 2, 1) := by decide +kernel
theorem d_La_lookAtStates_27 : decode prog_4_method_3_code 27 = .ok (.aload_n 0, 1) := by decide +kernel
theorem d_La_lookAtStates_28 : decode prog_4_method_3_code 28 = .ok (.getfield 34, 3) := by decide +kernel
theorem d_La_lookAtStates_31 : decode prog_4_method_3_code 31 = .ok (.if_icmp .ge 75, 3) := by decide +kernel
theorem d_La_lookAtStates_34 : decode prog_4_method_3_code 34 = .ok (.aload_n 1, 1) := by decide +kernel
theorem d_La_lookAtStates_35 : decode prog_4_method_3_code 35 = .ok (.iload_n 2, 1) := by decide +kernel
theorem d_La_lookAtStates_36 : decode prog_4_method_3_code 36 = .ok (.invokevirtual 67, 3) := by decide +kernel
theorem d_La_lookAtStates_39 : decode prog_4_method_3_code 39 = .ok (.istore_n 3, 1) := by decide +kernel
theorem d_La_lookAtStates_40 : decode prog_4_method_3_code 40 = .ok (.aload_n 0, 1) := by decide +kernel
theorem d_La_lookAtStates_41 : decode prog_4_method_3_code 41 = .ok (.getfield 9, 3) := by decide +kernel
theorem d_La_lookAtStates_44 : decode prog_4_method_3_code 44 = .ok (.iload_n 2, 1) := by decide +kernel
theorem d_La_lookAtStates_45 : decode prog_4_method_3_code 45 = .ok (.aload_n 1, 1) := by decide +kernel
theorem d_La_lookAtStates_46 : decode prog_4_method_3_code 46 = .ok (.iload_n 3, 1) := by decide +kernel
theorem d_La_lookAtStates_47 : decode prog_4_method_3_code 47 = .ok (.invokevirtual 71, 3) := by decide +kernel
theorem d_La_lookAtStates_50 : decode prog_4_method_3_code 50 = .ok (.iastore, 1) := by decide +kernel
theorem d_La_lookAtStates_51 : decode prog_4_method_3_code 51 = .ok (.aload_n 0, 1) := by decide +kernel
theorem d_La_lookAtStates_52 : decode prog_4_method_3_code 52 = .ok (.getfield 15, 3) := by decide +kernel
theorem d_La_lookAtStates_55 : decode prog_4_method_3_code 55 = .ok (.iload_n 2, 1) := by decide +kernel
theorem d_La_lookAtStates_56 : decode prog_4_method_3_code 56 = .ok (.aload_n 1, 1) := by decide +kernel
theorem d_La_lookAtStates_57 : decode prog_4_method_3_code 57 = .ok (.iload_n 3, 1) := by decide +kernel
theorem d_La_lookAtStates_58 : decode prog_4_method_3_code 58 = .ok (.invokevirtual 74, 3) := by decide +kernel
theorem d_La_lookAtStates_61 : decode prog_4_method_3_code 61 = .ok (.iastore, 1) := by decide +kernel
theorem d_La_lookAtStates_62 : decode prog_4_method_3_code 62 = .ok (.aload_n 0, 1) := by decide +kernel
theorem d_La_lookAtStates_63 : decode prog_4_method_3_code 63 = .ok (.getfield 18, 3) := by decide +kernel
theorem d_La_lookAtStates_66 : decode prog_4_method_3_code 66 = .ok (.iload_n 2, 1) := by decide +kernel
theorem d_La_lookAtStates_67 : decode prog_4_method_3_code 67 = .ok (.aload_n 1, 1) := by decide +kernel
theorem d_La_lookAtStates_68 : decode prog_4_method_3_code 68 = .ok (.iload_n 3, 1) := by decide +kernel
theorem d_La_lookAtStates_69 : decode prog_4_method_3_code 69 = .ok (.invokevirtual 77, 3) := by decide +kernel
theorem d_La_lookAtStates_72 : decode prog_4_method_3_code 72 = .ok (.aload_n 0, 1) := by decide +kernel
theorem d_La_lookAtStates_73 : decode prog_4_method_3_code 73 = .ok (.getfield 15, 3) := by decide +kernel
theorem d_La_lookAtStates_76 : decode prog_4_method_3_code 76 = .ok (.iload_n 2, 1) := by decide +kernel
theorem d_La_lookAtStates_77 : decode prog_4_method_3_code 77 = .ok (.iaload, 1) := by decide +kernel
theorem d_La_lookAtStates_78 : decode prog_4_method_3_code 78 = .ok (.iconst (-1), 1) := by decide +kernel
theorem d_La_lookAtStates_79 : decode prog_4_method_3_code 79 = .ok (.ixor, 1) := by decide +kernel
theorem d_La_lookAtStates_80 : decode prog_4_method_3_code 80 = .ok (.iand, 1) := by decide +kernel
theorem d_La_lookAtStates_81 : decode prog_4_method_3_code 81 = .ok (.iastore, 1) := by decide +kernel
theorem d_La_lookAtStates_82 : decode prog_4_method_3_code 82 = .ok (.aload_n 0, 1) := by decide +kernel
theorem d_La_lookAtStates_83 : decode prog_4_method_3_code 83 = .ok (.getfield 21, 3) := by decide +kernel
theorem d_La_lookAtStates_86 : decode prog_4_method_3_code 86 = .ok (.iload_n 2, 1) := by decide +kernel
theorem d_La_lookAtStates_87 : decode prog_4_method_3_code 87 = .ok (.aload_n 1, 1) := by decide +kernel
theorem d_La_lookAtStates_88 : decode prog_4_method_3_code 88 = .ok (.iload_n 3, 1) := by decide +kernel
theorem d_La_lookAtStates_89 : decode prog_4_method_3_code 89 = .ok (.invokevirtual 80, 3) := by decide +kernel
theorem d_La_lookAtStates_92 : decode prog_4_method_3_code 92 = .ok (.bastore, 1) := by decide +kernel
theorem d_La_lookAtStates_93 : decode prog_4_method_3_code 93 = .ok (.aload_n 0, 1) := by decide +kernel
theorem d_La_lookAtStates_94 : decode prog_4_method_3_code 94 = .ok (.getfield 25, 3) := by decide +kernel
theorem d_La_lookAtStates_97 : decode prog_4_method_3_code 97 = .ok (.iload_n 2, 1) := by decide +kernel
theorem d_La_lookAtStates_98 : decode prog_4_method_3_code 98 = .ok (.iconst 1, 1) := by decide +kernel
theorem d_La_lookAtStates_99 : decode prog_4_method_3_code 99 = .ok (.bastore, 1) := by decide +kernel
theorem d_La_lookAtStates_100 : decode prog_4_method_3_code 100 = .ok (.iinc 2 1, 3) := by decide +kernel
theorem d_La_lookAtStates_103 : decode prog_4_method_3_code 103 = .ok (.goto (-77), 3) := by decide +kernel
theorem d_La_lookAtStates_106 : decode prog_4_method_3_code 106 = .ok (.return_, 1) := by decide +kernel
theorem d_La_sweepDeadEnds_0 : decode prog_4_method_4_code 0 = .ok (.iconst 0, 1) := by decide +kernel
theorem d_La_sweepDeadEnds_1 : decode prog_4_method_4_code 1 = .ok (.istore_n 1, 1) := by decide +kernel
theorem d_La_sweepDeadEnds_2 : decode prog_4_method_4_code 2 = .ok (.iconst 0, 1) := by decide +kernel
theorem d_La_sweepDeadEnds_3 : decode prog_4_method_4_code 3 = .ok (.istore_n 2, 1) := by decide +kernel
theorem d_La_sweepDeadEnds_4 : decode prog_4_method_4_code 4 = .ok (.iload_n 2, 1) := by decide +kernel
theorem d_La_sweepDeadEnds_5 : decode prog_4_method_4_code 5 = .ok (.aload_n 0, 1) := by decide +kernel
theorem d_La_sweepDeadEnds_6 : decode prog_4_method_4_code 6 = .ok (.getfield 34, 3) := by decide +kernel
theorem d_La_sweepDeadEnds_9 : decode prog_4_method_4_code 9 = .ok (.if_icmp .ge 29, 3) := by decide +kernel
theorem d_La_sweepDeadEnds_12 : decode prog_4_method_4_code 12 = .ok (.aload_n 0, 1) := by decide +kernel
theorem d_La_sweepDeadEnds_13 : decode prog_4_method_4_code 13 = .ok (.getfield 25, 3) := by decide +kernel
theorem d_La_sweepDeadEnds_16 : decode prog_4_method_4_code 16 = .ok (.iload_n 2, 1) := by decide +kernel
theorem d_La_sweepDeadEnds_17 : decode prog_4_method_4_code 17 = .ok (.baload, 1) := by decide +kernel
theorem d_La_sweepDeadEnds_18 : decode prog_4_method_4_code 18 = .ok (.ifCond .eq 14, 3) := by decide +kernel
theorem d_La_sweepDeadEnds_21 : decode prog_4_method_4_code 21 = .ok (.iload_n 1, 1) := by decide +kernel
theorem d_La_sweepDeadEnds_22 : decode prog_4_method_4_code 22 = .ok (.iconst 1, 1) := by decide +kernel
theorem d_La_sweepDeadEnds_23 : decode prog_4_method_4_code 23 = .ok (.aload_n 0, 1) := by decide +kernel
theorem d_La_sweepDeadEnds_24 : decode prog_4_method_4_code 24 = .ok (.getfield 9, 3) := by decide +kernel
theorem d_La_sweepDeadEnds_27 : decode prog_4_method_4_code 27 = .ok (.iload_n 2, 1) := by decide +kernel
theorem d_La_sweepDeadEnds_28 : decode prog_4_method_4_code 28 = .ok (.iaload, 1) := by decide +kernel
theorem d_La_sweepDeadEnds_29 : decode prog_4_method_4_code 29 = .ok (.ishl, 1) := by decide +kernel
theorem d_La_sweepDeadEnds_30 : decode prog_4_method_4_code 30 = .ok (.ior, 1) := by decide +kernel
theorem d_La_sweepDeadEnds_31 : decode prog_4_method_4_code 31 = .ok (.istore_n 1, 1) := by decide +kernel
theorem d_La_sweepDeadEnds_32 : decode prog_4_method_4_code 32 = .ok (.iinc 2 1, 3) := by decide +kernel
theorem d_La_sweepDeadEnds_35 : decode prog_4_method_4_code 35 = .ok (.goto (-31), 3) := by decide +kernel
theorem d_La_sweepDeadEnds_38 : decode prog_4_method_4_code 38 = .ok (.iconst 0, 1) := by decide +kernel
theorem d_La_sweepDeadEnds_39 : decode prog_4_method_4_code 39 = .ok (.istore_n 2, 1) := by decide +kernel
theorem d_La_sweepDeadEnds_40 : decode prog_4_method_4_code 40 = .ok (.iload_n 2, 1) := by decide +kernel
theorem d_La_sweepDeadEnds_41 : decode prog_4_method_4_code 41 = .ok (.aload_n 0, 1) := by decide +kernel
theorem d_La_sweepDeadEnds_42 : decode prog_4_method_4_code 42 = .ok (.getfield 34, 3) := by decide +kernel
theorem d_La_sweepDeadEnds_45 : decode prog_4_method_4_code 45 = .ok (.if_icmp .ge 33, 3) := by decide +kernel
theorem d_La_sweepDeadEnds_48 : decode prog_4_method_4_code 48 = .ok (.aload_n 0, 1) := by decide +kernel
theorem d_La_sweepDeadEnds_49 : decode prog_4_method_4_code 49 = .ok (.getfield 25, 3) := by decide +kernel
theorem d_La_sweepDeadEnds_52 : decode prog_4_method_4_code 52 = .ok (.iload_n 2, 1) := by decide +kernel
theorem d_La_sweepDeadEnds_53 : decode prog_4_method_4_code 53 = .ok (.baload, 1) := by decide +kernel
theorem d_La_sweepDeadEnds_54 : decode prog_4_method_4_code 54 = .ok (.ifCond .eq 18, 3) := by decide +kernel
theorem d_La_sweepDeadEnds_57 : decode prog_4_method_4_code 57 = .ok (.iload_n 1, 1) := by decide +kernel
theorem d_La_sweepDeadEnds_58 : decode prog_4_method_4_code 58 = .ok (.iload_n 2, 1) := by decide +kernel
theorem d_La_sweepDeadEnds_59 : decode prog_4_method_4_code 59 = .ok (.iconst 3, 1) := by decide +kernel
theorem d_La_sweepDeadEnds_60 : decode prog_4_method_4_code 60 = .ok (.ishr, 1) := by decide +kernel
theorem d_La_sweepDeadEnds_61 : decode prog_4_method_4_code 61 = .ok (.invokestatic 84, 3) := by decide +kernel
theorem d_La_sweepDeadEnds_64 : decode prog_4_method_4_code 64 = .ok (.ifCond .ne 8, 3) := by decide +kernel
theorem d_La_sweepDeadEnds_67 : decode prog_4_method_4_code 67 = .ok (.aload_n 0, 1) := by decide +kernel
