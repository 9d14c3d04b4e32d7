theorem d_Mo_look_124 : decode prog_8_method_17_code 124 = .ok (.goto 10, 3) := by decide +kernel
theorem d_Mo_look_127 : decode prog_8_method_17_code 127 = .ok (.aload_n 0, 1) := by decide +kernel
theorem d_Mo_look_128 : decode prog_8_method_17_code 128 = .ok (.getfield 62, 3) := by decide +kernel
theorem d_Mo_look_131 : decode prog_8_method_17_code 131 = .ok (.iload 4, 2) := by decide +kernel
theorem d_Mo_look_133 : decode prog_8_method_17_code 133 = .ok (.baload, 1) := by decide +kernel
theorem d_Mo_look_134 : decode prog_8_method_17_code 134 = .ok (.istore 5, 2) := by decide +kernel
theorem d_Mo_look_136 : decode prog_8_method_17_code 136 = .ok (.iload 5, 2) := by decide +kernel
theorem d_Mo_look_138 : decode prog_8_method_17_code 138 = .ok (.ifCond .eq 11, 3) := by decide +kernel
theorem d_Mo_look_141 : decode prog_8_method_17_code 141 = .ok (.iload_n 2, 1) := by decide +kernel
theorem d_Mo_look_142 : decode prog_8_method_17_code 142 = .ok (.iconst 1, 1) := by decide +kernel
theorem d_Mo_look_143 : decode prog_8_method_17_code 143 = .ok (.iload_n 3, 1) := by decide +kernel
theorem d_Mo_look_144 : decode prog_8_method_17_code 144 = .ok (.ishl, 1) := by decide +kernel
theorem d_Mo_look_145 : decode prog_8_method_17_code 145 = .ok (.ior, 1) := by decide +kernel
theorem d_Mo_look_146 : decode prog_8_method_17_code 146 = .ok (.goto 4, 3) := by decide +kernel
theorem d_Mo_look_149 : decode prog_8_method_17_code 149 = .ok (.iload_n 2, 1) := by decide +kernel
theorem d_Mo_look_150 : decode prog_8_method_17_code 150 = .ok (.istore_n 2, 1) := by decide +kernel
theorem d_Mo_look_151 : decode prog_8_method_17_code 151 = .ok (.iinc 3 1, 3) := by decide +kernel
theorem d_Mo_look_154 : decode prog_8_method_17_code 154 = .ok (.goto (-70), 3) := by decide +kernel
theorem d_Mo_look_157 : decode prog_8_method_17_code 157 = .ok (.aload_n 0, 1) := by decide +kernel
theorem d_Mo_look_158 : decode prog_8_method_17_code 158 = .ok (.getfield 49, 3) := by decide +kernel
theorem d_Mo_look_161 : decode prog_8_method_17_code 161 = .ok (.iload_n 1, 1) := by decide +kernel
theorem d_Mo_look_162 : decode prog_8_method_17_code 162 = .ok (.iload_n 2, 1) := by decide +kernel
theorem d_Mo_look_163 : decode prog_8_method_17_code 163 = .ok (.iastore, 1) := by decide +kernel
theorem d_Mo_look_164 : decode prog_8_method_17_code 164 = .ok (.iconst 0, 1) := by decide +kernel
theorem d_Mo_look_165 : decode prog_8_method_17_code 165 = .ok (.istore_n 3, 1) := by decide +kernel
theorem d_Mo_look_166 : decode prog_8_method_17_code 166 = .ok (.iconst 0, 1) := by decide +kernel
theorem d_Mo_look_167 : decode prog_8_method_17_code 167 = .ok (.istore 4, 2) := by decide +kernel
theorem d_Mo_look_169 : decode prog_8_method_17_code 169 = .ok (.iconst 0, 1) := by decide +kernel
theorem d_Mo_look_170 : decode prog_8_method_17_code 170 = .ok (.istore 5, 2) := by decide +kernel
theorem d_Mo_look_172 : decode prog_8_method_17_code 172 = .ok (.iload 5, 2) := by decide +kernel
theorem d_Mo_look_174 : decode prog_8_method_17_code 174 = .ok (.aload_n 0, 1) := by decide +kernel
theorem d_Mo_look_175 : decode prog_8_method_17_code 175 = .ok (.getfield 156, 3) := by decide +kernel
theorem d_Mo_look_178 : decode prog_8_method_17_code 178 = .ok (.if_icmp .ge 103, 3) := by decide +kernel
theorem d_Mo_look_181 : decode prog_8_method_17_code 181 = .ok (.aload_n 0, 1) := by decide +kernel
theorem d_Mo_look_182 : decode prog_8_method_17_code 182 = .ok (.getfield 28, 3) := by decide +kernel
theorem d_Mo_look_185 : decode prog_8_method_17_code 185 = .ok (.iload 5, 2) := by decide +kernel
theorem d_Mo_look_187 : decode prog_8_method_17_code 187 = .ok (.iaload, 1) := by decide +kernel
theorem d_Mo_look_188 : decode prog_8_method_17_code 188 = .ok (.istore 6, 2) := by decide +kernel
theorem d_Mo_look_190 : decode prog_8_method_17_code 190 = .ok (.aload_n 0, 1) := by decide +kernel
theorem d_Mo_look_191 : decode prog_8_method_17_code 191 = .ok (.getfield 13, 3) := by decide +kernel
theorem d_Mo_look_194 : decode prog_8_method_17_code 194 = .ok (.iload 6, 2) := by decide +kernel
theorem d_Mo_look_196 : decode prog_8_method_17_code 196 = .ok (.iaload, 1) := by decide +kernel
theorem d_Mo_look_197 : decode prog_8_method_17_code 197 = .ok (.bipush 7, 2) := by decide +kernel
theorem d_Mo_look_199 : decode prog_8_method_17_code 199 = .ok (.if_icmp .eq 15, 3) := by decide +kernel
theorem d_Mo_look_202 : decode prog_8_method_17_code 202 = .ok (.aload_n 0, 1) := by decide +kernel
theorem d_Mo_look_203 : decode prog_8_method_17_code 203 = .ok (.getfield 13, 3) := by decide +kernel
theorem d_Mo_look_206 : decode prog_8_method_17_code 206 = .ok (.iload 6, 2) := by decide +kernel
theorem d_Mo_look_208 : decode prog_8_method_17_code 208 = .ok (.iaload, 1) := by decide +kernel
theorem d_Mo_look_209 : decode prog_8_method_17_code 209 = .ok (.bipush 9, 2) := by decide +kernel
theorem d_Mo_look_211 : decode prog_8_method_17_code 211 = .ok (.if_icmp .ne 7, 3) := by decide +kernel
theorem d_Mo_look_214 : decode prog_8_method_17_code 214 = .ok (.iconst 1, 1) := by decide +kernel
theorem d_Mo_look_215 : decode prog_8_method_17_code 215 = .ok (.goto 4, 3) := by decide +kernel
theorem d_Mo_look_218 : decode prog_8_method_17_code 218 = .ok (.iconst 0, 1) := by decide +kernel
theorem d_Mo_look_219 : decode prog_8_method_17_code 219 = .ok (.istore 7, 2) := by decide +kernel
theorem d_Mo_look_221 : decode prog_8_method_17_code 221 = .ok (.aload_n 0, 1) := by decide +kernel
theorem d_Mo_look_222 : decode prog_8_method_17_code 222 = .ok (.getfield 62, 3) := by decide +kernel
theorem d_Mo_look_225 : decode prog_8_method_17_code 225 = .ok (.iload 6, 2) := by decide +kernel
theorem d_Mo_look_227 : decode prog_8_method_17_code 227 = .ok (.baload, 1) := by decide +kernel
theorem d_Mo_look_228 : decode prog_8_method_17_code 228 = .ok (.iload 7, 2) := by decide +kernel
theorem d_Mo_look_230 : decode prog_8_method_17_code 230 = .ok (.if_icmp .ne 12, 3) := by decide +kernel
theorem d_Mo_look_233 : decode prog_8_method_17_code 233 = .ok (.iload_n 3, 1) := by decide +kernel
theorem d_Mo_look_234 : decode prog_8_method_17_code 234 = .ok (.iconst 1, 1) := by decide +kernel
theorem d_Mo_look_235 : decode prog_8_method_17_code 235 = .ok (.iload 5, 2) := by decide +kernel
theorem d_Mo_look_237 : decode prog_8_method_17_code 237 = .ok (.ishl, 1) := by decide +kernel
theorem d_Mo_look_238 : decode prog_8_method_17_code 238 = .ok (.ior, 1) := by decide +kernel
theorem d_Mo_look_239 : decode prog_8_method_17_code 239 = .ok (.goto 4, 3) := by decide +kernel
theorem d_Mo_look_242 : decode prog_8_method_17_code 242 = .ok (.iload_n 3, 1) := by decide +kernel
theorem d_Mo_look_243 : decode prog_8_method_17_code 243 = .ok (.istore_n 3, 1) := by decide +kernel
theorem d_Mo_look_244 : decode prog_8_method_17_code 244 = .ok (.aload_n 0, 1) := by decide +kernel
theorem d_Mo_look_245 : decode prog_8_method_17_code 245 = .ok (.getfield 62, 3) := by decide +kernel
theorem d_Mo_look_248 : decode prog_8_method_17_code 248 = .ok (.aload_n 0, 1) := by decide +kernel
theorem d_Mo_look_249 : decode prog_8_method_17_code 249 = .ok (.getfield 19, 3) := by decide +kernel
theorem d_Mo_look_252 : decode prog_8_method_17_code 252 = .ok (.iload 6, 2) := by decide +kernel
theorem d_Mo_look_254 : decode prog_8_method_17_code 254 = .ok (.iaload, 1) := by decide +kernel
theorem d_Mo_look_255 : decode prog_8_method_17_code 255 = .ok (.baload, 1) := by decide +kernel
theorem d_Mo_look_256 : decode prog_8_method_17_code 256 = .ok (.iload 7, 2) := by decide +kernel
theorem d_Mo_look_258 : decode prog_8_method_17_code 258 = .ok (.if_icmp .ne 13, 3) := by decide +kernel
theorem d_Mo_look_261 : decode prog_8_method_17_code 261 = .ok (.iload 4, 2) := by decide +kernel
theorem d_Mo_look_263 : decode prog_8_method_17_code 263 = .ok (.iconst 1, 1) := by decide +kernel
theorem d_Mo_look_264 : decode prog_8_method_17_code 264 = .ok (.iload 5, 2) := by decide +kernel
theorem d_Mo_look_266 : decode prog_8_method_17_code 266 = .ok (.ishl, 1) := by decide +kernel
theorem d_Mo_look_267 : decode prog_8_method_17_code 267 = .ok (.ior, 1) := by decide +kernel
theorem d_Mo_look_268 : decode prog_8_method_17_code 268 = .ok (.goto 5, 3) := by decide +kernel
theorem d_Mo_look_271 : decode prog_8_method_17_code 271 = .ok (.iload 4, 2) := by decide +kernel
theorem d_Mo_look_273 : decode prog_8_method_17_code 273 = .ok (.istore 4, 2) := by decide +kernel
theorem d_Mo_look_275 : decode prog_8_method_17_code 275 = .ok (.iinc 5 1, 3) := by decide +kernel
theorem d_Mo_look_278 : decode prog_8_method_17_code 278 = .ok (.goto (-106), 3) := by decide +kernel
theorem d_Mo_look_281 : decode prog_8_method_17_code 281 = .ok (.aload_n 0, 1) := by decide +kernel
theorem d_Mo_look_282 : decode prog_8_method_17_code 282 = .ok (.getfield 56, 3) := by decide +kernel
theorem d_Mo_look_285 : decode prog_8_method_17_code 285 = .ok (.iload_n 1, 1) := by decide +kernel
theorem d_Mo_look_286 : decode prog_8_method_17_code 286 = .ok (.iload_n 3, 1) := by decide +kernel
theorem d_Mo_look_287 : decode prog_8_method_17_code 287 = .ok (.iastore, 1) := by decide +kernel
theorem d_Mo_look_288 : decode prog_8_method_17_code 288 = .ok (.aload_n 0, 1) := by decide +kernel
theorem d_Mo_look_289 : decode prog_8_method_17_code 289 = .ok (.getfield 59, 3) := by decide +kernel
theorem d_Mo_look_292 : decode prog_8_method_17_code 292 = .ok (.iload_n 1, 1) := by decide +kernel
theorem d_Mo_look_293 : decode prog_8_method_17_code 293 = .ok (.iload 4, 2) := by decide +kernel
theorem d_Mo_look_295 : decode prog_8_method_17_code 295 = .ok (.iastore, 1) := by decide +kernel
theorem d_Mo_look_296 : decode prog_8_method_17_code 296 = .ok (.return_, 1) := by decide +kernel
theorem d_Mo_goes_0 : decode prog_8_method_18_code 0 = .ok (.iload_n 1, 1) := by decide +kernel
theorem d_Mo_goes_1 : decode prog_8_method_18_code 1 = .ok (.iconst 3, 1) := by decide +kernel
theorem d_Mo_goes_2 : decode prog_8_method_18_code 2 = .ok (.ishr, 1) := by decide +kernel
theorem d_Mo_goes_3 : decode prog_8_method_18_code 3 = .ok (.aload_n 0, 1) := by decide +kernel
theorem d_Mo_goes_4 : decode prog_8_method_18_code 4 = .ok (.getfield 49, 3) := by decide +kernel
theorem d_Mo_goes_7 : decode prog_8_method_18_code 7 = .ok (.iload_n 2, 1) := by decide +kernel
theorem d_Mo_goes_8 : decode prog_8_method_18_code 8 = .ok (.iaload, 1) := by decide +kernel
theorem d_Mo_goes_9 : decode prog_8_method_18_code 9 = .ok (.if_icmp .ne 7, 3) := by decide +kernel
theorem d_Mo_goes_12 : decode prog_8_method_18_code 12 = .ok (.iconst 1, 1) := by decide +kernel
theorem d_Mo_goes_13 : decode prog_8_method_18_code 13 = .ok (.goto 4, 3) := by decide +kernel
theorem d_Mo_goes_16 : decode prog_8_method_18_code 16 = .ok (.iconst 0, 1) := by decide +kernel
theorem d_Mo_goes_17 : decode prog_8_method_18_code 17 = .ok (.ireturn, 1) := by decide +kernel
theorem d_Mo_noteSome_0 : decode prog_8_method_19_code 0 = .ok (.iconst 0, 1) := by decide +kernel
theorem d_Mo_noteSome_1 : decode prog_8_method_19_code 1 = .ok (.istore_n 1, 1) := by decide +kernel
theorem d_Mo_noteSome_2 : decode prog_8_method_19_code 2 = .ok (.iload_n 1, 1) := by decide +kernel
theorem d_Mo_noteSome_3 : decode prog_8_method_19_code 3 = .ok (.bipush 32, 2) := by decide +kernel
theorem d_Mo_noteSome_5 : decode prog_8_method_19_code 5 = .ok (.if_icmp .ge 16, 3) := by decide +kernel
theorem d_Mo_noteSome_8 : decode prog_8_method_19_code 8 = .ok (.aload_n 0, 1) := by decide +kernel
theorem d_Mo_noteSome_9 : decode prog_8_method_19_code 9 = .ok (.getfield 71, 3) := by decide +kernel
theorem d_Mo_noteSome_12 : decode prog_8_method_19_code 12 = .ok (.iload_n 1, 1) := by decide +kernel
theorem d_Mo_noteSome_13 : decode prog_8_method_19_code 13 = .ok (.iconst 0, 1) := by decide +kernel
theorem d_Mo_noteSome_14 : decode prog_8_method_19_code 14 = .ok (.bastore, 1) := by decide +kernel
theorem d_Mo_noteSome_15 : decode prog_8_method_19_code 15 = .ok (.iinc 1 1, 3) := by decide +kernel
theorem d_Mo_noteSome_18 : decode prog_8_method_19_code 18 = .ok (.goto (-16), 3) := by decide +kernel
theorem d_Mo_noteSome_21 : decode prog_8_method_19_code 21 = .ok (.iconst 0, 1) := by decide +kernel
theorem d_Mo_noteSome_22 : decode prog_8_method_19_code 22 = .ok (.istore_n 1, 1) := by decide +kernel
theorem d_Mo_noteSome_23 : decode prog_8_method_19_code 23 = .ok (.iload_n 1, 1) := by decide +kernel
theorem d_Mo_noteSome_24 : decode prog_8_method_19_code 24 = .ok (.aload_n 0, 1) := by decide +kernel
theorem d_Mo_noteSome_25 : decode prog_8_method_19_code 25 = .ok (.invokevirtual 159, 3) := by decide +kernel
theorem d_Mo_noteSome_28 : decode prog_8_method_19_code 28 = .ok (.if_icmp .ge 48, 3) := by decide +kernel
theorem d_Mo_noteSome_31 : decode prog_8_method_19_code 31 = .ok (.aload_n 0, 1) := by decide +kernel
theorem d_Mo_noteSome_32 : decode prog_8_method_19_code 32 = .ok (.getfield 71, 3) := by decide +kernel
theorem d_Mo_noteSome_35 : decode prog_8_method_19_code 35 = .ok (.aload_n 0, 1) := by decide +kernel
theorem d_Mo_noteSome_36 : decode prog_8_method_19_code 36 = .ok (.getfield 49, 3) := by decide +kernel
theorem d_Mo_noteSome_39 : decode prog_8_method_19_code 39 = .ok (.iload_n 1, 1) := by decide +kernel
theorem d_Mo_noteSome_40 : decode prog_8_method_19_code 40 = .ok (.iaload, 1) := by decide +kernel
theorem d_Mo_noteSome_41 : decode prog_8_method_19_code 41 = .ok (.aload_n 0, 1) := by decide +kernel
theorem d_Mo_noteSome_42 : decode prog_8_method_19_code 42 = .ok (.getfield 71, 3) := by decide +kernel
theorem d_Mo_noteSome_45 : decode prog_8_method_19_code 45 = .ok (.aload_n 0, 1) := by decide +kernel
theorem d_Mo_noteSome_46 : decode prog_8_method_19_code 46 = .ok (.getfield 49, 3) := by decide +kernel
theorem d_Mo_noteSome_49 : decode prog_8_method_19_code 49 = .ok (.iload_n 1, 1) := by decide +kernel
theorem d_Mo_noteSome_50 : decode prog_8_method_19_code 50 = .ok (.iaload, 1) := by decide +kernel
theorem d_Mo_noteSome_51 : decode prog_8_method_19_code 51 = .ok (.baload, 1) := by decide +kernel
theorem d_Mo_noteSome_52 : decode prog_8_method_19_code 52 = .ok (.ifCond .ne 12, 3) := by decide +kernel
theorem d_Mo_noteSome_55 : decode prog_8_method_19_code 55 = .ok (.aload_n 0, 1) := by decide +kernel
theorem d_Mo_noteSome_56 : decode prog_8_method_19_code 56 = .ok (.getfield 68, 3) := by decide +kernel
theorem d_Mo_noteSome_59 : decode prog_8_method_19_code 59 = .ok (.iload_n 1, 1) := by decide +kernel
theorem d_Mo_noteSome_60 : decode prog_8_method_19_code 60 = .ok (.baload, 1) := by decide +kernel
theorem d_Mo_noteSome_61 : decode prog_8_method_19_code 61 = .ok (.ifCond .eq 7, 3) := by decide +kernel
theorem d_Mo_noteSome_64 : decode prog_8_method_19_code 64 = .ok (.iconst 1, 1) := by decide +kernel
theorem d_Mo_noteSome_65 : decode prog_8_method_19_code 65 = .ok (.goto 4, 3) := by decide +kernel
theorem d_Mo_noteSome_68 : decode prog_8_method_19_code 68 = .ok (.iconst 0, 1) := by decide +kernel
theorem d_Mo_noteSome_69 : decode prog_8_method_19_code 69 = .ok (.bastore, 1) := by decide +kernel
theorem d_Mo_noteSome_70 : decode prog_8_method_19_code 70 = .ok (.iinc 1 1, 3) := by decide +kernel
theorem d_Mo_noteSome_73 : decode prog_8_method_19_code 73 = .ok (.goto (-50), 3) := by decide +kernel
theorem d_Mo_noteSome_76 : decode prog_8_method_19_code 76 = .ok (.return_, 1) := by decide +kernel
theorem d_Mo_leadsToOne_0 : decode prog_8_method_20_code 0 = .ok (.aload_n 0, 1) := by decide +kernel
theorem d_Mo_leadsToOne_1 : decode prog_8_method_20_code 1 = .ok (.getfield 71, 3) := by decide +kernel
theorem d_Mo_leadsToOne_4 : decode prog_8_method_20_code 4 = .ok (.iload_n 1, 1) := by decide +kernel
theorem d_Mo_leadsToOne_5 : decode prog_8_method_20_code 5 = .ok (.iconst 3, 1) := by decide +kernel
theorem d_Mo_leadsToOne_6 : decode prog_8_method_20_code 6 = .ok (.ishr, 1) := by decide +kernel
theorem d_Mo_leadsToOne_7 : decode prog_8_method_20_code 7 = .ok (.baload, 1) := by decide +kernel
theorem d_Mo_leadsToOne_8 : decode prog_8_method_20_code 8 = .ok (.ireturn, 1) := by decide +kernel
theorem d_Mo_countSteps_0 : decode prog_8_method_21_code 0 = .ok (.iconst 0, 1) := by decide +kernel
theorem d_Mo_countSteps_1 : decode prog_8_method_21_code 1 = .ok (.istore_n 2, 1) := by decide +kernel
theorem d_Mo_countSteps_2 : decode prog_8_method_21_code 2 = .ok (.iload_n 2, 1) := by decide +kernel
theorem d_Mo_countSteps_3 : decode prog_8_method_21_code 3 = .ok (.aload_n 0, 1) := by decide +kernel
theorem d_Mo_countSteps_4 : decode prog_8_method_21_code 4 = .ok (.invokevirtual 159, 3) := by decide +kernel
theorem d_Mo_countSteps_7 : decode prog_8_method_21_code 7 = .ok (.if_icmp .ge 49, 3) := by decide +kernel
theorem d_Mo_countSteps_10 : decode prog_8_method_21_code 10 = .ok (.aload_n 0, 1) := by decide +kernel
theorem d_Mo_countSteps_11 : decode prog_8_method_21_code 11 = .ok (.getfield 74, 3) := by decide +kernel
theorem d_Mo_countSteps_14 : decode prog_8_method_21_code 14 = .ok (.sipush 256, 3) := by decide +kernel
theorem d_Mo_countSteps_17 : decode prog_8_method_21_code 17 = .ok (.iload_n 1, 1) := by decide +kernel
theorem d_Mo_countSteps_18 : decode prog_8_method_21_code 18 = .ok (.imul, 1) := by decide +kernel
theorem d_Mo_countSteps_19 : decode prog_8_method_21_code 19 = .ok (.iload_n 2, 1) := by decide +kernel
theorem d_Mo_countSteps_20 : decode prog_8_method_21_code 20 = .ok (.iadd, 1) := by decide +kernel
theorem d_Mo_countSteps_21 : decode prog_8_method_21_code 21 = .ok (.aload_n 0, 1) := by decide +kernel
theorem d_Mo_countSteps_22 : decode prog_8_method_21_code 22 = .ok (.getfield 65, 3) := by decide +kernel
theorem d_Mo_countSteps_25 : decode prog_8_method_21_code 25 = .ok (.iload_n 2, 1) := by decide +kernel
theorem d_Mo_countSteps_26 : decode prog_8_method_21_code 26 = .ok (.baload, 1) := by decide +kernel
theorem d_Mo_countSteps_27 : decode prog_8_method_21_code 27 = .ok (.ifCond .eq 21, 3) := by decide +kernel
theorem d_Mo_countSteps_30 : decode prog_8_method_21_code 30 = .ok (.aload_n 0, 1) := by decide +kernel
theorem d_Mo_countSteps_31 : decode prog_8_method_21_code 31 = .ok (.getfield 59, 3) := by decide +kernel
theorem d_Mo_countSteps_34 : decode prog_8_method_21_code 34 = .ok (.iload_n 2, 1) := by decide +kernel
theorem d_Mo_countSteps_35 : decode prog_8_method_21_code 35 = .ok (.iaload, 1) := by decide +kernel
theorem d_Mo_countSteps_36 : decode prog_8_method_21_code 36 = .ok (.iload_n 1, 1) := by decide +kernel
theorem d_Mo_countSteps_37 : decode prog_8_method_21_code 37 = .ok (.ishr, 1) := by decide +kernel
theorem d_Mo_countSteps_38 : decode prog_8_method_21_code 38 = .ok (.iconst 1, 1) := by decide +kernel
theorem d_Mo_countSteps_39 : decode prog_8_method_21_code 39 = .ok (.iand, 1) := by decide +kernel
theorem d_Mo_countSteps_40 : decode prog_8_method_21_code 40 = .ok (.iconst 1, 1) := by decide +kernel
theorem d_Mo_countSteps_41 : decode prog_8_method_21_code 41 = .ok (.if_icmp .ne 7, 3) := by decide +kernel
theorem d_Mo_countSteps_44 : decode prog_8_method_21_code 44 = .ok (.iconst 0, 1) := by decide +kernel
theorem d_Mo_countSteps_45 : decode prog_8_method_21_code 45 = .ok (.goto 4, 3) := by decide +kernel
theorem d_Mo_countSteps_48 : decode prog_8_method_21_code 48 = .ok (.iconst (-1), 1) := by decide +kernel
theorem d_Mo_countSteps_49 : decode prog_8_method_21_code 49 = .ok (.iastore, 1) := by decide +kernel
theorem d_Mo_countSteps_50 : decode prog_8_method_21_code 50 = .ok (.iinc 2 1, 3) := by decide +kernel
theorem d_Mo_countSteps_53 : decode prog_8_method_21_code 53 = .ok (.goto (-51), 3) := by decide +kernel
theorem d_Mo_countSteps_56 : decode prog_8_method_21_code 56 = .ok (.iconst 1, 1) := by decide +kernel
theorem d_Mo_countSteps_57 : decode prog_8_method_21_code 57 = .ok (.istore_n 2, 1) := by decide +kernel
theorem d_Mo_countSteps_58 : decode prog_8_method_21_code 58 = .ok (.iconst 0, 1) := by decide +kernel
theorem d_Mo_countSteps_59 : decode prog_8_method_21_code 59 = .ok (.istore_n 3, 1) := by decide +kernel
theorem d_Mo_countSteps_60 : decode prog_8_method_21_code 60 = .ok (.iload_n 2, 1) := by decide +kernel
theorem d_Mo_countSteps_61 : decode prog_8_method_21_code 61 = .ok (.ifCond .eq 133, 3) := by decide +kernel
theorem d_Mo_countSteps_64 : decode prog_8_method_21_code 64 = .ok (.iconst 0, 1) := by decide +kernel
theorem d_Mo_countSteps_65 : decode prog_8_method_21_code 65 = .ok (.istore_n 2, 1) := by decide +kernel
theorem d_Mo_countSteps_66 : decode prog_8_method_21_code 66 = .ok (.iconst 0, 1) := by decide +kernel
theorem d_Mo_countSteps_67 : decode prog_8_method_21_code 67 = .ok (.istore 4, 2) := by decide +kernel
theorem d_Mo_countSteps_69 : decode prog_8_method_21_code 69 = .ok (.iload 4, 2) := by decide +kernel
theorem d_Mo_countSteps_71 : decode prog_8_method_21_code 71 = .ok (.aload_n 0, 1) := by decide +kernel
theorem d_Mo_countSteps_72 : decode prog_8_method_21_code 72 = .ok (.invokevirtual 159, 3) := by decide +kernel
theorem d_Mo_countSteps_75 : decode prog_8_method_21_code 75 = .ok (.if_icmp .ge 38, 3) := by decide +kernel
theorem d_Mo_countSteps_78 : decode prog_8_method_21_code 78 = .ok (.aload_n 0, 1) := by decide +kernel
theorem d_Mo_countSteps_79 : decode prog_8_method_21_code 79 = .ok (.getfield 68, 3) := by decide +kernel
theorem d_Mo_countSteps_82 : decode prog_8_method_21_code 82 = .ok (.iload 4, 2) := by decide +kernel
theorem d_Mo_countSteps_84 : decode prog_8_method_21_code 84 = .ok (.aload_n 0, 1) := by decide +kernel
theorem d_Mo_countSteps_85 : decode prog_8_method_21_code 85 = .ok (.getfield 74, 3) := by decide +kernel
theorem d_Mo_countSteps_88 : decode prog_8_method_21_code 88 = .ok (.sipush 256, 3) := by decide +kernel
theorem d_Mo_countSteps_91 : decode prog_8_method_21_code 91 = .ok (.iload_n 1, 1) := by decide +kernel
theorem d_Mo_countSteps_92 : decode prog_8_method_21_code 92 = .ok (.imul, 1) := by decide +kernel
theorem d_Mo_countSteps_93 : decode prog_8_method_21_code 93 = .ok (.iload 4, 2) := by decide +kernel
theorem d_Mo_countSteps_95 : decode prog_8_method_21_code 95 = .ok (.iadd, 1) := by decide +kernel
theorem d_Mo_countSteps_96 : decode prog_8_method_21_code 96 = .ok (.iaload, 1) := by decide +kernel
theorem d_Mo_countSteps_97 : decode prog_8_method_21_code 97 = .ok (.iload_n 3, 1) := by decide +kernel
theorem d_Mo_countSteps_98 : decode prog_8_method_21_code 98 = .ok (.if_icmp .ne 7, 3) := by decide +kernel
theorem d_Mo_countSteps_101 : decode prog_8_method_21_code 101 = .ok (.iconst 1, 1) := by decide +kernel
theorem d_Mo_countSteps_102 : decode prog_8_method_21_code 102 = .ok (.goto 4, 3) := by decide +kernel
theorem d_Mo_countSteps_105 : decode prog_8_method_21_code 105 = .ok (.iconst 0, 1) := by decide +kernel
theorem d_Mo_countSteps_106 : decode prog_8_method_21_code 106 = .ok (.bastore, 1) := by decide +kernel
theorem d_Mo_countSteps_107 : decode prog_8_method_21_code 107 = .ok (.iinc 4 1, 3) := by decide +kernel
theorem d_Mo_countSteps_110 : decode prog_8_method_21_code 110 = .ok (.goto (-41), 3) := by decide +kernel
theorem d_Mo_countSteps_113 : decode prog_8_method_21_code 113 = .ok (.aload_n 0, 1) := by decide +kernel
theorem d_Mo_countSteps_114 : decode prog_8_method_21_code 114 = .ok (.invokevirtual 175, 3) := by decide +kernel
theorem d_Mo_countSteps_117 : decode prog_8_method_21_code 117 = .ok (.iconst 0, 1) := by decide +kernel
theorem d_Mo_countSteps_118 : decode prog_8_method_21_code 118 = .ok (.istore 4, 2) := by decide +kernel
theorem d_Mo_countSteps_120 : decode prog_8_method_21_code 120 = .ok (.iload 4, 2) := by decide +kernel
theorem d_Mo_countSteps_122 : decode prog_8_method_21_code 122 = .ok (.aload_n 0, 1) := by decide +kernel
theorem d_Mo_countSteps_123 : decode prog_8_method_21_code 123 = .ok (.invokevirtual 159, 3) := by decide +kernel
theorem d_Mo_countSteps_126 : decode prog_8_method_21_code 126 = .ok (.if_icmp .ge 62, 3) := by decide +kernel
theorem d_Mo_countSteps_129 : decode prog_8_method_21_code 129 = .ok (.aload_n 0, 1) := by decide +kernel
theorem d_Mo_countSteps_130 : decode prog_8_method_21_code 130 = .ok (.getfield 65, 3) := by decide +kernel
theorem d_Mo_countSteps_133 : decode prog_8_method_21_code 133 = .ok (.iload 4, 2) := by decide +kernel
theorem d_Mo_countSteps_135 : decode prog_8_method_21_code 135 = .ok (.baload, 1) := by decide +kernel
theorem d_Mo_countSteps_136 : decode prog_8_method_21_code 136 = .ok (.ifCond .eq 46, 3) := by decide +kernel
theorem d_Mo_countSteps_139 : decode prog_8_method_21_code 139 = .ok (.aload_n 0, 1) := by decide +kernel
theorem d_Mo_countSteps_140 : decode prog_8_method_21_code 140 = .ok (.getfield 74, 3) := by decide +kernel
theorem d_Mo_countSteps_143 : decode prog_8_method_21_code 143 = .ok (.sipush 256, 3) := by decide +kernel
theorem d_Mo_countSteps_146 : decode prog_8_method_21_code 146 = .ok (.iload_n 1, 1) := by decide +kernel
theorem d_Mo_countSteps_147 : decode prog_8_method_21_code 147 = .ok (.imul, 1) := by decide +kernel
theorem d_Mo_countSteps_148 : decode prog_8_method_21_code 148 = .ok (.iload 4, 2) := by decide +kernel
theorem d_Mo_countSteps_150 : decode prog_8_method_21_code 150 = .ok (.iadd, 1) := by decide +kernel
theorem d_Mo_countSteps_151 : decode prog_8_method_21_code 151 = .ok (.iaload, 1) := by decide +kernel
theorem d_Mo_countSteps_152 : decode prog_8_method_21_code 152 = .ok (.ifCond .ge 30, 3) := by decide +kernel
theorem d_Mo_countSteps_155 : decode prog_8_method_21_code 155 = .ok (.aload_n 0, 1) := by decide +kernel
theorem d_Mo_countSteps_156 : decode prog_8_method_21_code 156 = .ok (.iload 4, 2) := by decide +kernel
theorem d_Mo_countSteps_158 : decode prog_8_method_21_code 158 = .ok (.invokevirtual 178, 3) := by decide +kernel
theorem d_Mo_countSteps_161 : decode prog_8_method_21_code 161 = .ok (.ifCond .eq 21, 3) := by decide +kernel
theorem d_Mo_countSteps_164 : decode prog_8_method_21_code 164 = .ok (.aload_n 0, 1) := by decide +kernel
theorem d_Mo_countSteps_165 : decode prog_8_method_21_code 165 = .ok (.getfield 74, 3) := by decide +kernel
theorem d_Mo_countSteps_168 : decode prog_8_method_21_code 168 = .ok (.sipush 256, 3) := by decide +kernel
theorem d_Mo_countSteps_171 : decode prog_8_method_21_code 171 = .ok (.iload_n 1, 1) := by decide +kernel
theorem d_Mo_countSteps_172 : decode prog_8_method_21_code 172 = .ok (.imul, 1) := by decide +kernel
theorem d_Mo_countSteps_173 : decode prog_8_method_21_code 173 = .ok (.iload 4, 2) := by decide +kernel
theorem d_Mo_countSteps_175 : decode prog_8_method_21_code 175 = .ok (.iadd, 1) := by decide +kernel
theorem d_Mo_countSteps_176 : decode prog_8_method_21_code 176 = .ok (.iload_n 3, 1) := by decide +kernel
theorem d_Mo_countSteps_177 : decode prog_8_method_21_code 177 = .ok (.iconst 1, 1) := by decide +kernel
theorem d_Mo_countSteps_178 : decode prog_8_method_21_code 178 = .ok (.iadd, 1) := by decide +kernel
theorem d_Mo_countSteps_179 : decode prog_8_method_21_code 179 = .ok (.iastore, 1) := by decide +kernel
theorem d_Mo_countSteps_180 : decode prog_8_method_21_code 180 = .ok (.iconst 1, 1) := by decide +kernel
theorem d_Mo_countSteps_181 : decode prog_8_method_21_code 181 = .ok (.istore_n 2, 1) := by decide +kernel
theorem d_Mo_countSteps_182 : decode prog_8_method_21_code 182 = .ok (.iinc 4 1, 3) := by decide +kernel
theorem d_Mo_countSteps_185 : decode prog_8_method_21_code 185 = .ok (.goto (-65), 3) := by decide +kernel
theorem d_Mo_countSteps_188 : decode prog_8_method_21_code 188 = .ok (.iinc 3 1, 3) := by decide +kernel
theorem d_Mo_countSteps_191 : decode prog_8_method_21_code 191 = .ok (.goto (-131), 3) := by decide +kernel
theorem d_Mo_countSteps_194 : decode prog_8_method_21_code 194 = .ok (.return_, 1) := by decide +kernel
theorem d_Mo_takeOut_0 : decode prog_8_method_22_code 0 = .ok (.iconst 0, 1) := by decide +kernel
theorem d_Mo_takeOut_1 : decode prog_8_method_22_code 1 = .ok (.istore_n 1, 1) := by decide +kernel
theorem d_Mo_takeOut_2 : decode prog_8_method_22_code 2 = .ok (.iload_n 1, 1) := by decide +kernel
theorem d_Mo_takeOut_3 : decode prog_8_method_22_code 3 = .ok (.aload_n 0, 1) := by decide +kernel
theorem d_Mo_takeOut_4 : decode prog_8_method_22_code 4 = .ok (.invokevirtual 159, 3) := by decide +kernel
theorem d_Mo_takeOut_7 : decode prog_8_method_22_code 7 = .ok (.if_icmp .ge 16, 3) := by decide +kernel
theorem d_Mo_takeOut_10 : decode prog_8_method_22_code 10 = .ok (.aload_n 0, 1) := by decide +kernel
theorem d_Mo_takeOut_11 : decode prog_8_method_22_code 11 = .ok (.getfield 65, 3) := by decide +kernel
theorem d_Mo_takeOut_14 : decode prog_8_method_22_code 14 = .ok (.iload_n 1, 1) := by decide +kernel
theorem d_Mo_takeOut_15 : decode prog_8_method_22_code 15 = .ok (.iconst 1, 1) := by decide +kernel
theorem d_Mo_takeOut_16 : decode prog_8_method_22_code 16 = .ok (.bastore, 1) := by decide +kernel
theorem d_Mo_takeOut_17 : decode prog_8_method_22_code 17 = .ok (.iinc 1 1, 3) := by decide +kernel
theorem d_Mo_takeOut_20 : decode prog_8_method_22_code 20 = .ok (.goto (-18), 3) := by decide +kernel
theorem d_Mo_takeOut_23 : decode prog_8_method_22_code 23 = .ok (.iconst 1, 1) := by decide +kernel
theorem d_Mo_takeOut_24 : decode prog_8_method_22_code 24 = .ok (.istore_n 1, 1) := by decide +kernel
theorem d_Mo_takeOut_25 : decode prog_8_method_22_code 25 = .ok (.iload_n 1, 1) := by decide +kernel
theorem d_Mo_takeOut_26 : decode prog_8_method_22_code 26 = .ok (.ifCond .eq 166, 3) := by decide +kernel
theorem d_Mo_takeOut_29 : decode prog_8_method_22_code 29 = .ok (.iconst 0, 1) := by decide +kernel
theorem d_Mo_takeOut_30 : decode prog_8_method_22_code 30 = .ok (.istore_n 1, 1) := by decide +kernel
theorem d_Mo_takeOut_31 : decode prog_8_method_22_code 31 = .ok (.iconst 0, 1) := by decide +kernel
theorem d_Mo_takeOut_32 : decode prog_8_method_22_code 32 = .ok (.istore_n 2, 1) := by decide +kernel
theorem d_Mo_takeOut_33 : decode prog_8_method_22_code 33 = .ok (.iload_n 2, 1) := by decide +kernel
theorem d_Mo_takeOut_34 : decode prog_8_method_22_code 34 = .ok (.aload_n 0, 1) := by decide +kernel
theorem d_Mo_takeOut_35 : decode prog_8_method_22_code 35 = .ok (.getfield 156, 3) := by decide +kernel
theorem d_Mo_takeOut_38 : decode prog_8_method_22_code 38 = .ok (.if_icmp .ge 77, 3) := by decide +kernel
theorem d_Mo_takeOut_41 : decode prog_8_method_22_code 41 = .ok (.aload_n 0, 1) := by decide +kernel
theorem d_Mo_takeOut_42 : decode prog_8_method_22_code 42 = .ok (.iload_n 2, 1) := by decide +kernel
theorem d_Mo_takeOut_43 : decode prog_8_method_22_code 43 = .ok (.invokevirtual 181, 3) := by decide +kernel
theorem d_Mo_takeOut_46 : decode prog_8_method_22_code 46 = .ok (.iconst 0, 1) := by decide +kernel
theorem d_Mo_takeOut_47 : decode prog_8_method_22_code 47 = .ok (.istore_n 3, 1) := by decide +kernel
theorem d_Mo_takeOut_48 : decode prog_8_method_22_code 48 = .ok (.iload_n 3, 1) := by decide +kernel
theorem d_Mo_takeOut_49 : decode prog_8_method_22_code 49 = .ok (.aload_n 0, 1) := by decide +kernel
theorem d_Mo_takeOut_50 : decode prog_8_method_22_code 50 = .ok (.invokevirtual 159, 3) := by decide +kernel
theorem d_Mo_takeOut_53 : decode prog_8_method_22_code 53 = .ok (.if_icmp .ge 56, 3) := by decide +kernel
theorem d_Mo_takeOut_56 : decode prog_8_method_22_code 56 = .ok (.aload_n 0, 1) := by decide +kernel
theorem d_Mo_takeOut_57 : decode prog_8_method_22_code 57 = .ok (.getfield 65, 3) := by decide +kernel
theorem d_Mo_takeOut_60 : decode prog_8_method_22_code 60 = .ok (.iload_n 3, 1) := by decide +kernel
theorem d_Mo_takeOut_61 : decode prog_8_method_22_code 61 = .ok (.baload, 1) := by decide +kernel
theorem d_Mo_takeOut_62 : decode prog_8_method_22_code 62 = .ok (.ifCond .eq 41, 3) := by decide +kernel
theorem d_Mo_takeOut_65 : decode prog_8_method_22_code 65 = .ok (.aload_n 0, 1) := by decide +kernel
theorem d_Mo_takeOut_66 : decode prog_8_method_22_code 66 = .ok (.getfield 56, 3) := by decide +kernel
theorem d_Mo_takeOut_69 : decode prog_8_method_22_code 69 = .ok (.iload_n 3, 1) := by decide +kernel
theorem d_Mo_takeOut_70 : decode prog_8_method_22_code 70 = .ok (.iaload, 1) := by decide +kernel
theorem d_Mo_takeOut_71 : decode prog_8_method_22_code 71 = .ok (.iload_n 2, 1) := by decide +kernel
theorem d_Mo_takeOut_72 : decode prog_8_method_22_code 72 = .ok (.ishr, 1) := by decide +kernel
theorem d_Mo_takeOut_73 : decode prog_8_method_22_code 73 = .ok (.iconst 1, 1) := by decide +kernel
theorem d_Mo_takeOut_74 : decode prog_8_method_22_code 74 = .ok (.iand, 1) := by decide +kernel
theorem d_Mo_takeOut_75 : decode prog_8_method_22_code 75 = .ok (.iconst 1, 1) := by decide +kernel
theorem d_Mo_takeOut_76 : decode prog_8_method_22_code 76 = .ok (.if_icmp .ne 27, 3) := by decide +kernel
theorem d_Mo_takeOut_79 : decode prog_8_method_22_code 79 = .ok (.aload_n 0, 1) := by decide +kernel
theorem d_Mo_takeOut_80 : decode prog_8_method_22_code 80 = .ok (.getfield 74, 3) := by decide +kernel
theorem d_Mo_takeOut_83 : decode prog_8_method_22_code 83 = .ok (.sipush 256, 3) := by decide +kernel
theorem d_Mo_takeOut_86 : decode prog_8_method_22_code 86 = .ok (.iload_n 2, 1) := by decide +kernel
theorem d_Mo_takeOut_87 : decode prog_8_method_22_code 87 = .ok (.imul, 1) := by decide +kernel
theorem d_Mo_takeOut_88 : decode prog_8_method_22_code 88 = .ok (.iload_n 3, 1) := by decide +kernel
theorem d_Mo_takeOut_89 : decode prog_8_method_22_code 89 = .ok (.iadd, 1) := by decide +kernel
theorem d_Mo_takeOut_90 : decode prog_8_method_22_code 90 = .ok (.iaload, 1) := by decide +kernel
theorem d_Mo_takeOut_91 : decode prog_8_method_22_code 91 = .ok (.ifCond .ge 12, 3) := by decide +kernel
theorem d_Mo_takeOut_94 : decode prog_8_method_22_code 94 = .ok (.aload_n 0, 1) := by decide +kernel
theorem d_Mo_takeOut_95 : decode prog_8_method_22_code 95 = .ok (.getfield 65, 3) := by decide +kernel
theorem d_Mo_takeOut_98 : decode prog_8_method_22_code 98 = .ok (.iload_n 3, 1) := by decide +kernel
theorem d_Mo_takeOut_99 : decode prog_8_method_22_code 99 = .ok (.iconst 0, 1) := by decide +kernel
theorem d_Mo_takeOut_100 : decode prog_8_method_22_code 100 = .ok (.bastore, 1) := by decide +kernel
theorem d_Mo_takeOut_101 : decode prog_8_method_22_code 101 = .ok (.iconst 1, 1) := by decide +kernel
theorem d_Mo_takeOut_102 : decode prog_8_method_22_code 102 = .ok (.istore_n 1, 1) := by decide +kernel
theorem d_Mo_takeOut_103 : decode prog_8_method_22_code 103 = .ok (.iinc 3 1, 3) := by decide +kernel
theorem d_Mo_takeOut_106 : decode prog_8_method_22_code 106 = .ok (.goto (-58), 3) := by decide +kernel
theorem d_Mo_takeOut_109 : decode prog_8_method_22_code 109 = .ok (.iinc 2 1, 3) := by decide +kernel
theorem d_Mo_takeOut_112 : decode prog_8_method_22_code 112 = .ok (.goto (-79), 3) := by decide +kernel
theorem d_Mo_takeOut_115 : decode prog_8_method_22_code 115 = .ok (.iconst 0, 1) := by decide +kernel
theorem d_Mo_takeOut_116 : decode prog_8_method_22_code 116 = .ok (.istore_n 2, 1) := by decide +kernel
theorem d_Mo_takeOut_117 : decode prog_8_method_22_code 117 = .ok (.iload_n 2, 1) := by decide +kernel
theorem d_Mo_takeOut_118 : decode prog_8_method_22_code 118 = .ok (.aload_n 0, 1) := by decide +kernel
theorem d_Mo_takeOut_119 : decode prog_8_method_22_code 119 = .ok (.invokevirtual 159, 3) := by decide +kernel
theorem d_Mo_takeOut_122 : decode prog_8_method_22_code 122 = .ok (.if_icmp .ge 21, 3) := by decide +kernel
theorem d_Mo_takeOut_125 : decode prog_8_method_22_code 125 = .ok (.aload_n 0, 1) := by decide +kernel
theorem d_Mo_takeOut_126 : decode prog_8_method_22_code 126 = .ok (.getfield 68, 3) := by decide +kernel
theorem d_Mo_takeOut_129 : decode prog_8_method_22_code 129 = .ok (.iload_n 2, 1) := by decide +kernel
theorem d_Mo_takeOut_130 : decode prog_8_method_22_code 130 = .ok (.aload_n 0, 1) := by decide +kernel
theorem d_Mo_takeOut_131 : decode prog_8_method_22_code 131 = .ok (.getfield 65, 3) := by decide +kernel
theorem d_Mo_takeOut_134 : decode prog_8_method_22_code 134 = .ok (.iload_n 2, 1) := by decide +kernel
theorem d_Mo_takeOut_135 : decode prog_8_method_22_code 135 = .ok (.baload, 1) := by decide +kernel
theorem d_Mo_takeOut_136 : decode prog_8_method_22_code 136 = .ok (.bastore, 1) := by decide +kernel
theorem d_Mo_takeOut_137 : decode prog_8_method_22_code 137 = .ok (.iinc 2 1, 3) := by decide +kernel
theorem d_Mo_takeOut_140 : decode prog_8_method_22_code 140 = .ok (.goto (-23), 3) := by decide +kernel
theorem d_Mo_takeOut_143 : decode prog_8_method_22_code 143 = .ok (.aload_n 0, 1) := by decide +kernel
theorem d_Mo_takeOut_144 : decode prog_8_method_22_code 144 = .ok (.invokevirtual 175, 3) := by decide +kernel
theorem d_Mo_takeOut_147 : decode prog_8_method_22_code 147 = .ok (.iconst 0, 1) := by decide +kernel
theorem d_Mo_takeOut_148 : decode prog_8_method_22_code 148 = .ok (.istore_n 2, 1) := by decide +kernel
theorem d_Mo_takeOut_149 : decode prog_8_method_22_code 149 = .ok (.iload_n 2, 1) := by decide +kernel
theorem d_Mo_takeOut_150 : decode prog_8_method_22_code 150 = .ok (.aload_n 0, 1) := by decide +kernel
theorem d_Mo_takeOut_151 : decode prog_8_method_22_code 151 = .ok (.invokevirtual 159, 3) := by decide +kernel
theorem d_Mo_takeOut_154 : decode prog_8_method_22_code 154 = .ok (.if_icmp .ge 35, 3) := by decide +kernel
theorem d_Mo_takeOut_157 : decode prog_8_method_22_code 157 = .ok (.aload_n 0, 1) := by decide +kernel
theorem d_Mo_takeOut_158 : decode prog_8_method_22_code 158 = .ok (.getfield 65, 3) := by decide +kernel
theorem d_Mo_takeOut_161 : decode prog_8_method_22_code 161 = .ok (.iload_n 2, 1) := by decide +kernel
theorem d_Mo_takeOut_162 : decode prog_8_method_22_code 162 = .ok (.baload, 1) := by decide +kernel
theorem d_Mo_takeOut_163 : decode prog_8_method_22_code 163 = .ok (.ifCond .eq 20, 3) := by decide +kernel
theorem d_Mo_takeOut_166 : decode prog_8_method_22_code 166 = .ok (.aload_n 0, 1) := by decide +kernel
theorem d_Mo_takeOut_167 : decode prog_8_method_22_code 167 = .ok (.iload_n 2, 1) := by decide +kernel
theorem d_Mo_takeOut_168 : decode prog_8_method_22_code 168 = .ok (.invokevirtual 178, 3) := by decide +kernel
theorem d_Mo_takeOut_171 : decode prog_8_method_22_code 171 = .ok (.ifCond .ne 12, 3) := by decide +kernel
theorem d_Mo_takeOut_174 : decode prog_8_method_22_code 174 = .ok (.aload_n 0, 1) := by decide +kernel
theorem d_Mo_takeOut_175 : decode prog_8_method_22_code 175 = .ok (.getfield 65, 3) := by decide +kernel
theorem d_Mo_takeOut_178 : decode prog_8_method_22_code 178 = .ok (.iload_n 2, 1) := by decide +kernel
theorem d_Mo_takeOut_179 : decode prog_8_method_22_code 179 = .ok (.iconst 0, 1) := by decide +kernel
theorem d_Mo_takeOut_180 : decode prog_8_method_22_code 180 = .ok (.bastore, 1) := by decide +kernel
theorem d_Mo_takeOut_181 : decode prog_8_method_22_code 181 = .ok (.iconst 1, 1) := by decide +kernel
theorem d_Mo_takeOut_182 : decode prog_8_method_22_code 182 = .ok (.istore_n 1, 1) := by decide +kernel
theorem d_Mo_takeOut_183 : decode prog_8_method_22_code 183 = .ok (.iinc 2 1, 3) := by decide +kernel
theorem d_Mo_takeOut_186 : decode prog_8_method_22_code 186 = .ok (.goto (-37), 3) := by decide +kernel
theorem d_Mo_takeOut_189 : decode prog_8_method_22_code 189 = .ok (.goto (-164), 3) := by decide +kernel
theorem d_Mo_takeOut_192 : decode prog_8_method_22_code 192 = .ok (.return_, 1) := by decide +kernel
theorem d_Mo_isDue_0 : decode prog_8_method_23_code 0 = .ok (.aload_n 0, 1) := by decide +kernel
theorem d_Mo_isDue_1 : decode prog_8_method_23_code 1 = .ok (.getfield 56, 3) := by decide +kernel
theorem d_Mo_isDue_4 : decode prog_8_method_23_code 4 = .ok (.iload_n 2, 1) := by decide +kernel
theorem d_Mo_isDue_5 : decode prog_8_method_23_code 5 = .ok (.iaload, 1) := by decide +kernel
theorem d_Mo_isDue_6 : decode prog_8_method_23_code 6 = .ok (.iload_n 1, 1) := by decide +kernel
theorem d_Mo_isDue_7 : decode prog_8_method_23_code 7 = .ok (.ishr, 1) := by decide +kernel
theorem d_Mo_isDue_8 : decode prog_8_method_23_code 8 = .ok (.iconst 1, 1) := by decide +kernel
theorem d_Mo_isDue_9 : decode prog_8_method_23_code 9 = .ok (.iand, 1) := by decide +kernel
theorem d_Mo_isDue_10 : decode prog_8_method_23_code 10 = .ok (.iconst 1, 1) := by decide +kernel
theorem d_Mo_isDue_11 : decode prog_8_method_23_code 11 = .ok (.if_icmp .ne 20, 3) := by decide +kernel
theorem d_Mo_isDue_14 : decode prog_8_method_23_code 14 = .ok (.aload_n 0, 1) := by decide +kernel
theorem d_Mo_isDue_15 : decode prog_8_method_23_code 15 = .ok (.getfield 59, 3) := by decide +kernel
theorem d_Mo_isDue_18 : decode prog_8_method_23_code 18 = .ok (.iload_n 2, 1) := by decide +kernel
theorem d_Mo_isDue_19 : decode prog_8_method_23_code 19 = .ok (.iaload, 1) := by decide +kernel
theorem d_Mo_isDue_20 : decode prog_8_method_23_code 20 = .ok (.iload_n 1, 1) := by decide +kernel
