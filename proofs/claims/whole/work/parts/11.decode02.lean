theorem d_Mo_reads_229 : decode prog_8_method_13_code 229 = .ok (.ifCond .lt 7, 3) := by decide +kernel
theorem d_Mo_reads_232 : decode prog_8_method_13_code 232 = .ok (.iconst 1, 1) := by decide +kernel
theorem d_Mo_reads_233 : decode prog_8_method_13_code 233 = .ok (.goto 4, 3) := by decide +kernel
theorem d_Mo_reads_236 : decode prog_8_method_13_code 236 = .ok (.iconst 0, 1) := by decide +kernel
theorem d_Mo_reads_237 : decode prog_8_method_13_code 237 = .ok (.istore 4, 2) := by decide +kernel
theorem d_Mo_reads_239 : decode prog_8_method_13_code 239 = .ok (.aload_n 0, 1) := by decide +kernel
theorem d_Mo_reads_240 : decode prog_8_method_13_code 240 = .ok (.iload 7, 2) := by decide +kernel
theorem d_Mo_reads_242 : decode prog_8_method_13_code 242 = .ok (.bipush 11, 2) := by decide +kernel
theorem d_Mo_reads_244 : decode prog_8_method_13_code 244 = .ok (.if_icmp .ne 7, 3) := by decide +kernel
theorem d_Mo_reads_247 : decode prog_8_method_13_code 247 = .ok (.iconst 3, 1) := by decide +kernel
theorem d_Mo_reads_248 : decode prog_8_method_13_code 248 = .ok (.goto 22, 3) := by decide +kernel
theorem d_Mo_reads_251 : decode prog_8_method_13_code 251 = .ok (.iload 7, 2) := by decide +kernel
theorem d_Mo_reads_253 : decode prog_8_method_13_code 253 = .ok (.bipush 12, 2) := by decide +kernel
theorem d_Mo_reads_255 : decode prog_8_method_13_code 255 = .ok (.if_icmp .eq 10, 3) := by decide +kernel
theorem d_Mo_reads_258 : decode prog_8_method_13_code 258 = .ok (.iload 7, 2) := by decide +kernel
theorem d_Mo_reads_260 : decode prog_8_method_13_code 260 = .ok (.bipush 13, 2) := by decide +kernel
theorem d_Mo_reads_262 : decode prog_8_method_13_code 262 = .ok (.if_icmp .ne 7, 3) := by decide +kernel
theorem d_Mo_reads_265 : decode prog_8_method_13_code 265 = .ok (.iconst 2, 1) := by decide +kernel
theorem d_Mo_reads_266 : decode prog_8_method_13_code 266 = .ok (.goto 4, 3) := by decide +kernel
theorem d_Mo_reads_269 : decode prog_8_method_13_code 269 = .ok (.iconst 5, 1) := by decide +kernel
theorem d_Mo_reads_270 : decode prog_8_method_13_code 270 = .ok (.invokevirtual 137, 3) := by decide +kernel
theorem d_Mo_reads_273 : decode prog_8_method_13_code 273 = .ok (.aload_n 0, 1) := by decide +kernel
theorem d_Mo_reads_274 : decode prog_8_method_13_code 274 = .ok (.iload 4, 2) := by decide +kernel
theorem d_Mo_reads_276 : decode prog_8_method_13_code 276 = .ok (.ifCond .eq 8, 3) := by decide +kernel
theorem d_Mo_reads_279 : decode prog_8_method_13_code 279 = .ok (.iload 7, 2) := by decide +kernel
theorem d_Mo_reads_281 : decode prog_8_method_13_code 281 = .ok (.goto 4, 3) := by decide +kernel
theorem d_Mo_reads_284 : decode prog_8_method_13_code 284 = .ok (.iconst 5, 1) := by decide +kernel
theorem d_Mo_reads_285 : decode prog_8_method_13_code 285 = .ok (.invokevirtual 133, 3) := by decide +kernel
theorem d_Mo_reads_288 : decode prog_8_method_13_code 288 = .ok (.iconst 0, 1) := by decide +kernel
theorem d_Mo_reads_289 : decode prog_8_method_13_code 289 = .ok (.istore_n 3, 1) := by decide +kernel
theorem d_Mo_reads_290 : decode prog_8_method_13_code 290 = .ok (.iinc 5 1, 3) := by decide +kernel
theorem d_Mo_reads_293 : decode prog_8_method_13_code 293 = .ok (.goto (-263), 3) := by decide +kernel
theorem d_Mo_reads_296 : decode prog_8_method_13_code 296 = .ok (.iload 4, 2) := by decide +kernel
theorem d_Mo_reads_298 : decode prog_8_method_13_code 298 = .ok (.ifCond .eq 12, 3) := by decide +kernel
theorem d_Mo_reads_301 : decode prog_8_method_13_code 301 = .ok (.iload_n 3, 1) := by decide +kernel
theorem d_Mo_reads_302 : decode prog_8_method_13_code 302 = .ok (.ifCond .eq 8, 3) := by decide +kernel
theorem d_Mo_reads_305 : decode prog_8_method_13_code 305 = .ok (.aload_n 0, 1) := by decide +kernel
theorem d_Mo_reads_306 : decode prog_8_method_13_code 306 = .ok (.iconst 1, 1) := by decide +kernel
theorem d_Mo_reads_307 : decode prog_8_method_13_code 307 = .ok (.invokevirtual 137, 3) := by decide +kernel
theorem d_Mo_reads_310 : decode prog_8_method_13_code 310 = .ok (.iload 4, 2) := by decide +kernel
theorem d_Mo_reads_312 : decode prog_8_method_13_code 312 = .ok (.ifCond .eq 27, 3) := by decide +kernel
theorem d_Mo_reads_315 : decode prog_8_method_13_code 315 = .ok (.iload_n 3, 1) := by decide +kernel
theorem d_Mo_reads_316 : decode prog_8_method_13_code 316 = .ok (.ifCond .eq 23, 3) := by decide +kernel
theorem d_Mo_reads_319 : decode prog_8_method_13_code 319 = .ok (.aload_n 0, 1) := by decide +kernel
theorem d_Mo_reads_320 : decode prog_8_method_13_code 320 = .ok (.getfield 105, 3) := by decide +kernel
theorem d_Mo_reads_323 : decode prog_8_method_13_code 323 = .ok (.ifCond .ne 16, 3) := by decide +kernel
theorem d_Mo_reads_326 : decode prog_8_method_13_code 326 = .ok (.aload_n 0, 1) := by decide +kernel
theorem d_Mo_reads_327 : decode prog_8_method_13_code 327 = .ok (.getfield 120, 3) := by decide +kernel
theorem d_Mo_reads_330 : decode prog_8_method_13_code 330 = .ok (.bipush 6, 2) := by decide +kernel
theorem d_Mo_reads_332 : decode prog_8_method_13_code 332 = .ok (.if_icmp .ge 7, 3) := by decide +kernel
theorem d_Mo_reads_335 : decode prog_8_method_13_code 335 = .ok (.iconst 1, 1) := by decide +kernel
theorem d_Mo_reads_336 : decode prog_8_method_13_code 336 = .ok (.goto 4, 3) := by decide +kernel
theorem d_Mo_reads_339 : decode prog_8_method_13_code 339 = .ok (.iconst 0, 1) := by decide +kernel
theorem d_Mo_reads_340 : decode prog_8_method_13_code 340 = .ok (.ireturn, 1) := by decide +kernel
theorem d_Mo_formula_0 : decode prog_8_method_14_code 0 = .ok (.aload_n 0, 1) := by decide +kernel
theorem d_Mo_formula_1 : decode prog_8_method_14_code 1 = .ok (.getfield 96, 3) := by decide +kernel
theorem d_Mo_formula_4 : decode prog_8_method_14_code 4 = .ok (.istore_n 1, 1) := by decide +kernel
theorem d_Mo_formula_5 : decode prog_8_method_14_code 5 = .ok (.aload_n 0, 1) := by decide +kernel
theorem d_Mo_formula_6 : decode prog_8_method_14_code 6 = .ok (.iconst 0, 1) := by decide +kernel
theorem d_Mo_formula_7 : decode prog_8_method_14_code 7 = .ok (.putfield 96, 3) := by decide +kernel
theorem d_Mo_formula_10 : decode prog_8_method_14_code 10 = .ok (.aload_n 0, 1) := by decide +kernel
theorem d_Mo_formula_11 : decode prog_8_method_14_code 11 = .ok (.aload_n 0, 1) := by decide +kernel
theorem d_Mo_formula_12 : decode prog_8_method_14_code 12 = .ok (.iload_n 1, 1) := by decide +kernel
theorem d_Mo_formula_13 : decode prog_8_method_14_code 13 = .ok (.invokevirtual 143, 3) := by decide +kernel
theorem d_Mo_formula_16 : decode prog_8_method_14_code 16 = .ok (.ifCond .eq 7, 3) := by decide +kernel
theorem d_Mo_formula_19 : decode prog_8_method_14_code 19 = .ok (.iconst 0, 1) := by decide +kernel
theorem d_Mo_formula_20 : decode prog_8_method_14_code 20 = .ok (.goto 4, 3) := by decide +kernel
theorem d_Mo_formula_23 : decode prog_8_method_14_code 23 = .ok (.iconst 1, 1) := by decide +kernel
theorem d_Mo_formula_24 : decode prog_8_method_14_code 24 = .ok (.putfield 93, 3) := by decide +kernel
theorem d_Mo_formula_27 : decode prog_8_method_14_code 27 = .ok (.aload_n 0, 1) := by decide +kernel
theorem d_Mo_formula_28 : decode prog_8_method_14_code 28 = .ok (.getfield 93, 3) := by decide +kernel
theorem d_Mo_formula_31 : decode prog_8_method_14_code 31 = .ok (.ifCond .le 5, 3) := by decide +kernel
theorem d_Mo_formula_34 : decode prog_8_method_14_code 34 = .ok (.iconst 0, 1) := by decide +kernel
theorem d_Mo_formula_35 : decode prog_8_method_14_code 35 = .ok (.ireturn, 1) := by decide +kernel
theorem d_Mo_formula_36 : decode prog_8_method_14_code 36 = .ok (.aload_n 0, 1) := by decide +kernel
theorem d_Mo_formula_37 : decode prog_8_method_14_code 37 = .ok (.iconst 1, 1) := by decide +kernel
theorem d_Mo_formula_38 : decode prog_8_method_14_code 38 = .ok (.putfield 146, 3) := by decide +kernel
theorem d_Mo_formula_41 : decode prog_8_method_14_code 41 = .ok (.aload_n 0, 1) := by decide +kernel
theorem d_Mo_formula_42 : decode prog_8_method_14_code 42 = .ok (.aload_n 0, 1) := by decide +kernel
theorem d_Mo_formula_43 : decode prog_8_method_14_code 43 = .ok (.getfield 99, 3) := by decide +kernel
theorem d_Mo_formula_46 : decode prog_8_method_14_code 46 = .ok (.putfield 150, 3) := by decide +kernel
theorem d_Mo_formula_49 : decode prog_8_method_14_code 49 = .ok (.aload_n 0, 1) := by decide +kernel
theorem d_Mo_formula_50 : decode prog_8_method_14_code 50 = .ok (.aload_n 0, 1) := by decide +kernel
theorem d_Mo_formula_51 : decode prog_8_method_14_code 51 = .ok (.getfield 120, 3) := by decide +kernel
theorem d_Mo_formula_54 : decode prog_8_method_14_code 54 = .ok (.putfield 153, 3) := by decide +kernel
theorem d_Mo_formula_57 : decode prog_8_method_14_code 57 = .ok (.aload_n 0, 1) := by decide +kernel
theorem d_Mo_formula_58 : decode prog_8_method_14_code 58 = .ok (.iconst 0, 1) := by decide +kernel
theorem d_Mo_formula_59 : decode prog_8_method_14_code 59 = .ok (.putfield 156, 3) := by decide +kernel
theorem d_Mo_formula_62 : decode prog_8_method_14_code 62 = .ok (.iconst 0, 1) := by decide +kernel
theorem d_Mo_formula_63 : decode prog_8_method_14_code 63 = .ok (.istore_n 2, 1) := by decide +kernel
theorem d_Mo_formula_64 : decode prog_8_method_14_code 64 = .ok (.iload_n 2, 1) := by decide +kernel
theorem d_Mo_formula_65 : decode prog_8_method_14_code 65 = .ok (.aload_n 0, 1) := by decide +kernel
theorem d_Mo_formula_66 : decode prog_8_method_14_code 66 = .ok (.getfield 150, 3) := by decide +kernel
theorem d_Mo_formula_69 : decode prog_8_method_14_code 69 = .ok (.if_icmp .ge 81, 3) := by decide +kernel
theorem d_Mo_formula_72 : decode prog_8_method_14_code 72 = .ok (.aload_n 0, 1) := by decide +kernel
theorem d_Mo_formula_73 : decode prog_8_method_14_code 73 = .ok (.getfield 13, 3) := by decide +kernel
theorem d_Mo_formula_76 : decode prog_8_method_14_code 76 = .ok (.iload_n 2, 1) := by decide +kernel
theorem d_Mo_formula_77 : decode prog_8_method_14_code 77 = .ok (.aload_n 0, 1) := by decide +kernel
theorem d_Mo_formula_78 : decode prog_8_method_14_code 78 = .ok (.getfield 31, 3) := by decide +kernel
theorem d_Mo_formula_81 : decode prog_8_method_14_code 81 = .ok (.iload_n 2, 1) := by decide +kernel
theorem d_Mo_formula_82 : decode prog_8_method_14_code 82 = .ok (.iaload, 1) := by decide +kernel
theorem d_Mo_formula_83 : decode prog_8_method_14_code 83 = .ok (.iastore, 1) := by decide +kernel
theorem d_Mo_formula_84 : decode prog_8_method_14_code 84 = .ok (.aload_n 0, 1) := by decide +kernel
theorem d_Mo_formula_85 : decode prog_8_method_14_code 85 = .ok (.getfield 16, 3) := by decide +kernel
theorem d_Mo_formula_88 : decode prog_8_method_14_code 88 = .ok (.iload_n 2, 1) := by decide +kernel
theorem d_Mo_formula_89 : decode prog_8_method_14_code 89 = .ok (.aload_n 0, 1) := by decide +kernel
theorem d_Mo_formula_90 : decode prog_8_method_14_code 90 = .ok (.getfield 34, 3) := by decide +kernel
theorem d_Mo_formula_93 : decode prog_8_method_14_code 93 = .ok (.iload_n 2, 1) := by decide +kernel
theorem d_Mo_formula_94 : decode prog_8_method_14_code 94 = .ok (.iaload, 1) := by decide +kernel
theorem d_Mo_formula_95 : decode prog_8_method_14_code 95 = .ok (.iastore, 1) := by decide +kernel
theorem d_Mo_formula_96 : decode prog_8_method_14_code 96 = .ok (.aload_n 0, 1) := by decide +kernel
theorem d_Mo_formula_97 : decode prog_8_method_14_code 97 = .ok (.getfield 19, 3) := by decide +kernel
theorem d_Mo_formula_100 : decode prog_8_method_14_code 100 = .ok (.iload_n 2, 1) := by decide +kernel
theorem d_Mo_formula_101 : decode prog_8_method_14_code 101 = .ok (.aload_n 0, 1) := by decide +kernel
theorem d_Mo_formula_102 : decode prog_8_method_14_code 102 = .ok (.getfield 37, 3) := by decide +kernel
theorem d_Mo_formula_105 : decode prog_8_method_14_code 105 = .ok (.iload_n 2, 1) := by decide +kernel
theorem d_Mo_formula_106 : decode prog_8_method_14_code 106 = .ok (.iaload, 1) := by decide +kernel
theorem d_Mo_formula_107 : decode prog_8_method_14_code 107 = .ok (.iastore, 1) := by decide +kernel
theorem d_Mo_formula_108 : decode prog_8_method_14_code 108 = .ok (.aload_n 0, 1) := by decide +kernel
theorem d_Mo_formula_109 : decode prog_8_method_14_code 109 = .ok (.getfield 22, 3) := by decide +kernel
theorem d_Mo_formula_112 : decode prog_8_method_14_code 112 = .ok (.iload_n 2, 1) := by decide +kernel
theorem d_Mo_formula_113 : decode prog_8_method_14_code 113 = .ok (.aload_n 0, 1) := by decide +kernel
theorem d_Mo_formula_114 : decode prog_8_method_14_code 114 = .ok (.getfield 40, 3) := by decide +kernel
theorem d_Mo_formula_117 : decode prog_8_method_14_code 117 = .ok (.iload_n 2, 1) := by decide +kernel
theorem d_Mo_formula_118 : decode prog_8_method_14_code 118 = .ok (.iaload, 1) := by decide +kernel
theorem d_Mo_formula_119 : decode prog_8_method_14_code 119 = .ok (.iastore, 1) := by decide +kernel
theorem d_Mo_formula_120 : decode prog_8_method_14_code 120 = .ok (.aload_n 0, 1) := by decide +kernel
theorem d_Mo_formula_121 : decode prog_8_method_14_code 121 = .ok (.getfield 13, 3) := by decide +kernel
theorem d_Mo_formula_124 : decode prog_8_method_14_code 124 = .ok (.iload_n 2, 1) := by decide +kernel
theorem d_Mo_formula_125 : decode prog_8_method_14_code 125 = .ok (.iaload, 1) := by decide +kernel
theorem d_Mo_formula_126 : decode prog_8_method_14_code 126 = .ok (.invokestatic 123, 3) := by decide +kernel
theorem d_Mo_formula_129 : decode prog_8_method_14_code 129 = .ok (.ifCond .eq 15, 3) := by decide +kernel
theorem d_Mo_formula_132 : decode prog_8_method_14_code 132 = .ok (.aload_n 0, 1) := by decide +kernel
theorem d_Mo_formula_133 : decode prog_8_method_14_code 133 = .ok (.getfield 25, 3) := by decide +kernel
theorem d_Mo_formula_136 : decode prog_8_method_14_code 136 = .ok (.aload_n 0, 1) := by decide +kernel
theorem d_Mo_formula_137 : decode prog_8_method_14_code 137 = .ok (.getfield 22, 3) := by decide +kernel
theorem d_Mo_formula_140 : decode prog_8_method_14_code 140 = .ok (.iload_n 2, 1) := by decide +kernel
theorem d_Mo_formula_141 : decode prog_8_method_14_code 141 = .ok (.iaload, 1) := by decide +kernel
theorem d_Mo_formula_142 : decode prog_8_method_14_code 142 = .ok (.iload_n 2, 1) := by decide +kernel
theorem d_Mo_formula_143 : decode prog_8_method_14_code 143 = .ok (.iastore, 1) := by decide +kernel
theorem d_Mo_formula_144 : decode prog_8_method_14_code 144 = .ok (.iinc 2 1, 3) := by decide +kernel
theorem d_Mo_formula_147 : decode prog_8_method_14_code 147 = .ok (.goto (-83), 3) := by decide +kernel
theorem d_Mo_formula_150 : decode prog_8_method_14_code 150 = .ok (.iconst 0, 1) := by decide +kernel
theorem d_Mo_formula_151 : decode prog_8_method_14_code 151 = .ok (.istore_n 2, 1) := by decide +kernel
theorem d_Mo_formula_152 : decode prog_8_method_14_code 152 = .ok (.iload_n 2, 1) := by decide +kernel
theorem d_Mo_formula_153 : decode prog_8_method_14_code 153 = .ok (.aload_n 0, 1) := by decide +kernel
theorem d_Mo_formula_154 : decode prog_8_method_14_code 154 = .ok (.getfield 153, 3) := by decide +kernel
theorem d_Mo_formula_157 : decode prog_8_method_14_code 157 = .ok (.if_icmp .ge 50, 3) := by decide +kernel
theorem d_Mo_formula_160 : decode prog_8_method_14_code 160 = .ok (.aload_n 0, 1) := by decide +kernel
theorem d_Mo_formula_161 : decode prog_8_method_14_code 161 = .ok (.getfield 13, 3) := by decide +kernel
theorem d_Mo_formula_164 : decode prog_8_method_14_code 164 = .ok (.aload_n 0, 1) := by decide +kernel
theorem d_Mo_formula_165 : decode prog_8_method_14_code 165 = .ok (.getfield 25, 3) := by decide +kernel
theorem d_Mo_formula_168 : decode prog_8_method_14_code 168 = .ok (.iload_n 2, 1) := by decide +kernel
theorem d_Mo_formula_169 : decode prog_8_method_14_code 169 = .ok (.iaload, 1) := by decide +kernel
theorem d_Mo_formula_170 : decode prog_8_method_14_code 170 = .ok (.iaload, 1) := by decide +kernel
theorem d_Mo_formula_171 : decode prog_8_method_14_code 171 = .ok (.bipush 6, 2) := by decide +kernel
theorem d_Mo_formula_173 : decode prog_8_method_14_code 173 = .ok (.if_icmp .eq 28, 3) := by decide +kernel
theorem d_Mo_formula_176 : decode prog_8_method_14_code 176 = .ok (.aload_n 0, 1) := by decide +kernel
theorem d_Mo_formula_177 : decode prog_8_method_14_code 177 = .ok (.getfield 28, 3) := by decide +kernel
theorem d_Mo_formula_180 : decode prog_8_method_14_code 180 = .ok (.aload_n 0, 1) := by decide +kernel
theorem d_Mo_formula_181 : decode prog_8_method_14_code 181 = .ok (.getfield 156, 3) := by decide +kernel
theorem d_Mo_formula_184 : decode prog_8_method_14_code 184 = .ok (.aload_n 0, 1) := by decide +kernel
theorem d_Mo_formula_185 : decode prog_8_method_14_code 185 = .ok (.getfield 25, 3) := by decide +kernel
theorem d_Mo_formula_188 : decode prog_8_method_14_code 188 = .ok (.iload_n 2, 1) := by decide +kernel
theorem d_Mo_formula_189 : decode prog_8_method_14_code 189 = .ok (.iaload, 1) := by decide +kernel
theorem d_Mo_formula_190 : decode prog_8_method_14_code 190 = .ok (.iastore, 1) := by decide +kernel
theorem d_Mo_formula_191 : decode prog_8_method_14_code 191 = .ok (.aload_n 0, 1) := by decide +kernel
theorem d_Mo_formula_192 : decode prog_8_method_14_code 192 = .ok (.dup, 1) := by decide +kernel
theorem d_Mo_formula_193 : decode prog_8_method_14_code 193 = .ok (.getfield 156, 3) := by decide +kernel
theorem d_Mo_formula_196 : decode prog_8_method_14_code 196 = .ok (.iconst 1, 1) := by decide +kernel
theorem d_Mo_formula_197 : decode prog_8_method_14_code 197 = .ok (.iadd, 1) := by decide +kernel
theorem d_Mo_formula_198 : decode prog_8_method_14_code 198 = .ok (.putfield 156, 3) := by decide +kernel
theorem d_Mo_formula_201 : decode prog_8_method_14_code 201 = .ok (.iinc 2 1, 3) := by decide +kernel
theorem d_Mo_formula_204 : decode prog_8_method_14_code 204 = .ok (.goto (-52), 3) := by decide +kernel
theorem d_Mo_formula_207 : decode prog_8_method_14_code 207 = .ok (.iconst 0, 1) := by decide +kernel
theorem d_Mo_formula_208 : decode prog_8_method_14_code 208 = .ok (.istore_n 2, 1) := by decide +kernel
theorem d_Mo_formula_209 : decode prog_8_method_14_code 209 = .ok (.iload_n 2, 1) := by decide +kernel
theorem d_Mo_formula_210 : decode prog_8_method_14_code 210 = .ok (.aload_n 0, 1) := by decide +kernel
theorem d_Mo_formula_211 : decode prog_8_method_14_code 211 = .ok (.invokevirtual 159, 3) := by decide +kernel
theorem d_Mo_formula_214 : decode prog_8_method_14_code 214 = .ok (.if_icmp .ge 14, 3) := by decide +kernel
theorem d_Mo_formula_217 : decode prog_8_method_14_code 217 = .ok (.aload_n 0, 1) := by decide +kernel
theorem d_Mo_formula_218 : decode prog_8_method_14_code 218 = .ok (.iload_n 2, 1) := by decide +kernel
theorem d_Mo_formula_219 : decode prog_8_method_14_code 219 = .ok (.invokevirtual 162, 3) := by decide +kernel
theorem d_Mo_formula_222 : decode prog_8_method_14_code 222 = .ok (.iinc 2 1, 3) := by decide +kernel
theorem d_Mo_formula_225 : decode prog_8_method_14_code 225 = .ok (.goto (-16), 3) := by decide +kernel
theorem d_Mo_formula_228 : decode prog_8_method_14_code 228 = .ok (.aload_n 0, 1) := by decide +kernel
theorem d_Mo_formula_229 : decode prog_8_method_14_code 229 = .ok (.invokevirtual 165, 3) := by decide +kernel
theorem d_Mo_formula_232 : decode prog_8_method_14_code 232 = .ok (.aload_n 0, 1) := by decide +kernel
theorem d_Mo_formula_233 : decode prog_8_method_14_code 233 = .ok (.invokevirtual 168, 3) := by decide +kernel
theorem d_Mo_formula_236 : decode prog_8_method_14_code 236 = .ok (.aload_n 0, 1) := by decide +kernel
theorem d_Mo_formula_237 : decode prog_8_method_14_code 237 = .ok (.getfield 150, 3) := by decide +kernel
theorem d_Mo_formula_240 : decode prog_8_method_14_code 240 = .ok (.ireturn, 1) := by decide +kernel
theorem d_Mo_count_0 : decode prog_8_method_15_code 0 = .ok (.bipush 8, 2) := by decide +kernel
theorem d_Mo_count_2 : decode prog_8_method_15_code 2 = .ok (.aload_n 0, 1) := by decide +kernel
theorem d_Mo_count_3 : decode prog_8_method_15_code 3 = .ok (.getfield 153, 3) := by decide +kernel
theorem d_Mo_count_6 : decode prog_8_method_15_code 6 = .ok (.ishl, 1) := by decide +kernel
theorem d_Mo_count_7 : decode prog_8_method_15_code 7 = .ok (.ireturn, 1) := by decide +kernel
theorem d_Mo_valueOf_0 : decode prog_8_method_16_code 0 = .ok (.aload_n 0, 1) := by decide +kernel
theorem d_Mo_valueOf_1 : decode prog_8_method_16_code 1 = .ok (.getfield 16, 3) := by decide +kernel
theorem d_Mo_valueOf_4 : decode prog_8_method_16_code 4 = .ok (.iload_n 1, 1) := by decide +kernel
theorem d_Mo_valueOf_5 : decode prog_8_method_16_code 5 = .ok (.iaload, 1) := by decide +kernel
theorem d_Mo_valueOf_6 : decode prog_8_method_16_code 6 = .ok (.ifCond .lt 21, 3) := by decide +kernel
theorem d_Mo_valueOf_9 : decode prog_8_method_16_code 9 = .ok (.aload_n 0, 1) := by decide +kernel
theorem d_Mo_valueOf_10 : decode prog_8_method_16_code 10 = .ok (.getfield 62, 3) := by decide +kernel
theorem d_Mo_valueOf_13 : decode prog_8_method_16_code 13 = .ok (.aload_n 0, 1) := by decide +kernel
theorem d_Mo_valueOf_14 : decode prog_8_method_16_code 14 = .ok (.getfield 16, 3) := by decide +kernel
theorem d_Mo_valueOf_17 : decode prog_8_method_16_code 17 = .ok (.iload_n 1, 1) := by decide +kernel
theorem d_Mo_valueOf_18 : decode prog_8_method_16_code 18 = .ok (.iaload, 1) := by decide +kernel
theorem d_Mo_valueOf_19 : decode prog_8_method_16_code 19 = .ok (.baload, 1) := by decide +kernel
theorem d_Mo_valueOf_20 : decode prog_8_method_16_code 20 = .ok (.ifCond .eq 7, 3) := by decide +kernel
theorem d_Mo_valueOf_23 : decode prog_8_method_16_code 23 = .ok (.iconst 1, 1) := by decide +kernel
theorem d_Mo_valueOf_24 : decode prog_8_method_16_code 24 = .ok (.goto 4, 3) := by decide +kernel
theorem d_Mo_valueOf_27 : decode prog_8_method_16_code 27 = .ok (.iconst 0, 1) := by decide +kernel
theorem d_Mo_valueOf_28 : decode prog_8_method_16_code 28 = .ok (.istore 4, 2) := by decide +kernel
theorem d_Mo_valueOf_30 : decode prog_8_method_16_code 30 = .ok (.aload_n 0, 1) := by decide +kernel
theorem d_Mo_valueOf_31 : decode prog_8_method_16_code 31 = .ok (.getfield 19, 3) := by decide +kernel
theorem d_Mo_valueOf_34 : decode prog_8_method_16_code 34 = .ok (.iload_n 1, 1) := by decide +kernel
theorem d_Mo_valueOf_35 : decode prog_8_method_16_code 35 = .ok (.iaload, 1) := by decide +kernel
theorem d_Mo_valueOf_36 : decode prog_8_method_16_code 36 = .ok (.ifCond .lt 21, 3) := by decide +kernel
theorem d_Mo_valueOf_39 : decode prog_8_method_16_code 39 = .ok (.aload_n 0, 1) := by decide +kernel
theorem d_Mo_valueOf_40 : decode prog_8_method_16_code 40 = .ok (.getfield 62, 3) := by decide +kernel
theorem d_Mo_valueOf_43 : decode prog_8_method_16_code 43 = .ok (.aload_n 0, 1) := by decide +kernel
theorem d_Mo_valueOf_44 : decode prog_8_method_16_code 44 = .ok (.getfield 19, 3) := by decide +kernel
theorem d_Mo_valueOf_47 : decode prog_8_method_16_code 47 = .ok (.iload_n 1, 1) := by decide +kernel
theorem d_Mo_valueOf_48 : decode prog_8_method_16_code 48 = .ok (.iaload, 1) := by decide +kernel
theorem d_Mo_valueOf_49 : decode prog_8_method_16_code 49 = .ok (.baload, 1) := by decide +kernel
theorem d_Mo_valueOf_50 : decode prog_8_method_16_code 50 = .ok (.ifCond .eq 7, 3) := by decide +kernel
theorem d_Mo_valueOf_53 : decode prog_8_method_16_code 53 = .ok (.iconst 1, 1) := by decide +kernel
theorem d_Mo_valueOf_54 : decode prog_8_method_16_code 54 = .ok (.goto 4, 3) := by decide +kernel
theorem d_Mo_valueOf_57 : decode prog_8_method_16_code 57 = .ok (.iconst 0, 1) := by decide +kernel
theorem d_Mo_valueOf_58 : decode prog_8_method_16_code 58 = .ok (.istore 5, 2) := by decide +kernel
theorem d_Mo_valueOf_60 : decode prog_8_method_16_code 60 = .ok (.aload_n 0, 1) := by decide +kernel
theorem d_Mo_valueOf_61 : decode prog_8_method_16_code 61 = .ok (.getfield 13, 3) := by decide +kernel
theorem d_Mo_valueOf_64 : decode prog_8_method_16_code 64 = .ok (.iload_n 1, 1) := by decide +kernel
theorem d_Mo_valueOf_65 : decode prog_8_method_16_code 65 = .ok (.iaload, 1) := by decide +kernel
theorem d_Mo_valueOf_66 : decode prog_8_method_16_code 66 = .ok (.tableswitch 205 0 13 #[70, 72, 205, 205, 205, 74, 85, 87, 102, 117, 137, 157, 173, 189], 70) := by decide +kernel
theorem d_Mo_valueOf_136 : decode prog_8_method_16_code 136 = .ok (.iconst 0, 1) := by decide +kernel
theorem d_Mo_valueOf_137 : decode prog_8_method_16_code 137 = .ok (.ireturn, 1) := by decide +kernel
theorem d_Mo_valueOf_138 : decode prog_8_method_16_code 138 = .ok (.iconst 1, 1) := by decide +kernel
theorem d_Mo_valueOf_139 : decode prog_8_method_16_code 139 = .ok (.ireturn, 1) := by decide +kernel
theorem d_Mo_valueOf_140 : decode prog_8_method_16_code 140 = .ok (.iload 5, 2) := by decide +kernel
theorem d_Mo_valueOf_142 : decode prog_8_method_16_code 142 = .ok (.ifCond .ne 7, 3) := by decide +kernel
theorem d_Mo_valueOf_145 : decode prog_8_method_16_code 145 = .ok (.iconst 1, 1) := by decide +kernel
theorem d_Mo_valueOf_146 : decode prog_8_method_16_code 146 = .ok (.goto 4, 3) := by decide +kernel
theorem d_Mo_valueOf_149 : decode prog_8_method_16_code 149 = .ok (.iconst 0, 1) := by decide +kernel
theorem d_Mo_valueOf_150 : decode prog_8_method_16_code 150 = .ok (.ireturn, 1) := by decide +kernel
theorem d_Mo_valueOf_151 : decode prog_8_method_16_code 151 = .ok (.iload_n 2, 1) := by decide +kernel
theorem d_Mo_valueOf_152 : decode prog_8_method_16_code 152 = .ok (.ireturn, 1) := by decide +kernel
theorem d_Mo_valueOf_153 : decode prog_8_method_16_code 153 = .ok (.iload 5, 2) := by decide +kernel
theorem d_Mo_valueOf_155 : decode prog_8_method_16_code 155 = .ok (.ifCond .ne 7, 3) := by decide +kernel
theorem d_Mo_valueOf_158 : decode prog_8_method_16_code 158 = .ok (.iload_n 2, 1) := by decide +kernel
theorem d_Mo_valueOf_159 : decode prog_8_method_16_code 159 = .ok (.ifCond .eq 7, 3) := by decide +kernel
theorem d_Mo_valueOf_162 : decode prog_8_method_16_code 162 = .ok (.iconst 1, 1) := by decide +kernel
theorem d_Mo_valueOf_163 : decode prog_8_method_16_code 163 = .ok (.goto 4, 3) := by decide +kernel
theorem d_Mo_valueOf_166 : decode prog_8_method_16_code 166 = .ok (.iconst 0, 1) := by decide +kernel
theorem d_Mo_valueOf_167 : decode prog_8_method_16_code 167 = .ok (.ireturn, 1) := by decide +kernel
theorem d_Mo_valueOf_168 : decode prog_8_method_16_code 168 = .ok (.iload 5, 2) := by decide +kernel
theorem d_Mo_valueOf_170 : decode prog_8_method_16_code 170 = .ok (.ifCond .eq 11, 3) := by decide +kernel
theorem d_Mo_valueOf_173 : decode prog_8_method_16_code 173 = .ok (.iload_n 2, 1) := by decide +kernel
theorem d_Mo_valueOf_174 : decode prog_8_method_16_code 174 = .ok (.ifCond .eq 7, 3) := by decide +kernel
theorem d_Mo_valueOf_177 : decode prog_8_method_16_code 177 = .ok (.iconst 1, 1) := by decide +kernel
theorem d_Mo_valueOf_178 : decode prog_8_method_16_code 178 = .ok (.goto 4, 3) := by decide +kernel
theorem d_Mo_valueOf_181 : decode prog_8_method_16_code 181 = .ok (.iconst 0, 1) := by decide +kernel
theorem d_Mo_valueOf_182 : decode prog_8_method_16_code 182 = .ok (.ireturn, 1) := by decide +kernel
theorem d_Mo_valueOf_183 : decode prog_8_method_16_code 183 = .ok (.iload 5, 2) := by decide +kernel
theorem d_Mo_valueOf_185 : decode prog_8_method_16_code 185 = .ok (.ifCond .ne 12, 3) := by decide +kernel
theorem d_Mo_valueOf_188 : decode prog_8_method_16_code 188 = .ok (.iload 4, 2) := by decide +kernel
theorem d_Mo_valueOf_190 : decode prog_8_method_16_code 190 = .ok (.ifCond .eq 11, 3) := by decide +kernel
theorem d_Mo_valueOf_193 : decode prog_8_method_16_code 193 = .ok (.iload_n 2, 1) := by decide +kernel
theorem d_Mo_valueOf_194 : decode prog_8_method_16_code 194 = .ok (.ifCond .eq 7, 3) := by decide +kernel
theorem d_Mo_valueOf_197 : decode prog_8_method_16_code 197 = .ok (.iconst 1, 1) := by decide +kernel
theorem d_Mo_valueOf_198 : decode prog_8_method_16_code 198 = .ok (.goto 4, 3) := by decide +kernel
theorem d_Mo_valueOf_201 : decode prog_8_method_16_code 201 = .ok (.iconst 0, 1) := by decide +kernel
theorem d_Mo_valueOf_202 : decode prog_8_method_16_code 202 = .ok (.ireturn, 1) := by decide +kernel
theorem d_Mo_valueOf_203 : decode prog_8_method_16_code 203 = .ok (.iload 5, 2) := by decide +kernel
theorem d_Mo_valueOf_205 : decode prog_8_method_16_code 205 = .ok (.ifCond .eq 16, 3) := by decide +kernel
theorem d_Mo_valueOf_208 : decode prog_8_method_16_code 208 = .ok (.iload 4, 2) := by decide +kernel
theorem d_Mo_valueOf_210 : decode prog_8_method_16_code 210 = .ok (.ifCond .ne 7, 3) := by decide +kernel
theorem d_Mo_valueOf_213 : decode prog_8_method_16_code 213 = .ok (.iload_n 2, 1) := by decide +kernel
theorem d_Mo_valueOf_214 : decode prog_8_method_16_code 214 = .ok (.ifCond .eq 7, 3) := by decide +kernel
theorem d_Mo_valueOf_217 : decode prog_8_method_16_code 217 = .ok (.iconst 1, 1) := by decide +kernel
theorem d_Mo_valueOf_218 : decode prog_8_method_16_code 218 = .ok (.goto 4, 3) := by decide +kernel
theorem d_Mo_valueOf_221 : decode prog_8_method_16_code 221 = .ok (.iconst 0, 1) := by decide +kernel
theorem d_Mo_valueOf_222 : decode prog_8_method_16_code 222 = .ok (.ireturn, 1) := by decide +kernel
theorem d_Mo_valueOf_223 : decode prog_8_method_16_code 223 = .ok (.iload 4, 2) := by decide +kernel
theorem d_Mo_valueOf_225 : decode prog_8_method_16_code 225 = .ok (.ifCond .eq 12, 3) := by decide +kernel
theorem d_Mo_valueOf_228 : decode prog_8_method_16_code 228 = .ok (.iload 5, 2) := by decide +kernel
theorem d_Mo_valueOf_230 : decode prog_8_method_16_code 230 = .ok (.ifCond .eq 7, 3) := by decide +kernel
theorem d_Mo_valueOf_233 : decode prog_8_method_16_code 233 = .ok (.iconst 1, 1) := by decide +kernel
theorem d_Mo_valueOf_234 : decode prog_8_method_16_code 234 = .ok (.goto 4, 3) := by decide +kernel
theorem d_Mo_valueOf_237 : decode prog_8_method_16_code 237 = .ok (.iconst 0, 1) := by decide +kernel
theorem d_Mo_valueOf_238 : decode prog_8_method_16_code 238 = .ok (.ireturn, 1) := by decide +kernel
theorem d_Mo_valueOf_239 : decode prog_8_method_16_code 239 = .ok (.iload 4, 2) := by decide +kernel
theorem d_Mo_valueOf_241 : decode prog_8_method_16_code 241 = .ok (.ifCond .ne 8, 3) := by decide +kernel
theorem d_Mo_valueOf_244 : decode prog_8_method_16_code 244 = .ok (.iload 5, 2) := by decide +kernel
theorem d_Mo_valueOf_246 : decode prog_8_method_16_code 246 = .ok (.ifCond .eq 7, 3) := by decide +kernel
theorem d_Mo_valueOf_249 : decode prog_8_method_16_code 249 = .ok (.iconst 1, 1) := by decide +kernel
theorem d_Mo_valueOf_250 : decode prog_8_method_16_code 250 = .ok (.goto 4, 3) := by decide +kernel
theorem d_Mo_valueOf_253 : decode prog_8_method_16_code 253 = .ok (.iconst 0, 1) := by decide +kernel
theorem d_Mo_valueOf_254 : decode prog_8_method_16_code 254 = .ok (.ireturn, 1) := by decide +kernel
theorem d_Mo_valueOf_255 : decode prog_8_method_16_code 255 = .ok (.iload 4, 2) := by decide +kernel
theorem d_Mo_valueOf_257 : decode prog_8_method_16_code 257 = .ok (.ifCond .eq 8, 3) := by decide +kernel
theorem d_Mo_valueOf_260 : decode prog_8_method_16_code 260 = .ok (.iload 5, 2) := by decide +kernel
theorem d_Mo_valueOf_262 : decode prog_8_method_16_code 262 = .ok (.ifCond .eq 7, 3) := by decide +kernel
theorem d_Mo_valueOf_265 : decode prog_8_method_16_code 265 = .ok (.iconst 1, 1) := by decide +kernel
theorem d_Mo_valueOf_266 : decode prog_8_method_16_code 266 = .ok (.goto 4, 3) := by decide +kernel
theorem d_Mo_valueOf_269 : decode prog_8_method_16_code 269 = .ok (.iconst 0, 1) := by decide +kernel
theorem d_Mo_valueOf_270 : decode prog_8_method_16_code 270 = .ok (.ireturn, 1) := by decide +kernel
theorem d_Mo_valueOf_271 : decode prog_8_method_16_code 271 = .ok (.iload_n 3, 1) := by decide +kernel
theorem d_Mo_valueOf_272 : decode prog_8_method_16_code 272 = .ok (.aload_n 0, 1) := by decide +kernel
theorem d_Mo_valueOf_273 : decode prog_8_method_16_code 273 = .ok (.getfield 13, 3) := by decide +kernel
theorem d_Mo_valueOf_276 : decode prog_8_method_16_code 276 = .ok (.iload_n 1, 1) := by decide +kernel
theorem d_Mo_valueOf_277 : decode prog_8_method_16_code 277 = .ok (.iaload, 1) := by decide +kernel
theorem d_Mo_valueOf_278 : decode prog_8_method_16_code 278 = .ok (.iconst 2, 1) := by decide +kernel
theorem d_Mo_valueOf_279 : decode prog_8_method_16_code 279 = .ok (.isub, 1) := by decide +kernel
theorem d_Mo_valueOf_280 : decode prog_8_method_16_code 280 = .ok (.ishr, 1) := by decide +kernel
theorem d_Mo_valueOf_281 : decode prog_8_method_16_code 281 = .ok (.iconst 1, 1) := by decide +kernel
theorem d_Mo_valueOf_282 : decode prog_8_method_16_code 282 = .ok (.iand, 1) := by decide +kernel
theorem d_Mo_valueOf_283 : decode prog_8_method_16_code 283 = .ok (.iconst 1, 1) := by decide +kernel
theorem d_Mo_valueOf_284 : decode prog_8_method_16_code 284 = .ok (.if_icmp .ne 7, 3) := by decide +kernel
theorem d_Mo_valueOf_287 : decode prog_8_method_16_code 287 = .ok (.iconst 1, 1) := by decide +kernel
theorem d_Mo_valueOf_288 : decode prog_8_method_16_code 288 = .ok (.goto 4, 3) := by decide +kernel
theorem d_Mo_valueOf_291 : decode prog_8_method_16_code 291 = .ok (.iconst 0, 1) := by decide +kernel
theorem d_Mo_valueOf_292 : decode prog_8_method_16_code 292 = .ok (.ireturn, 1) := by decide +kernel
theorem d_Mo_look_0 : decode prog_8_method_17_code 0 = .ok (.iconst 0, 1) := by decide +kernel
theorem d_Mo_look_1 : decode prog_8_method_17_code 1 = .ok (.istore_n 2, 1) := by decide +kernel
theorem d_Mo_look_2 : decode prog_8_method_17_code 2 = .ok (.iload_n 2, 1) := by decide +kernel
theorem d_Mo_look_3 : decode prog_8_method_17_code 3 = .ok (.aload_n 0, 1) := by decide +kernel
theorem d_Mo_look_4 : decode prog_8_method_17_code 4 = .ok (.getfield 150, 3) := by decide +kernel
theorem d_Mo_look_7 : decode prog_8_method_17_code 7 = .ok (.if_icmp .ge 56, 3) := by decide +kernel
theorem d_Mo_look_10 : decode prog_8_method_17_code 10 = .ok (.aload_n 0, 1) := by decide +kernel
theorem d_Mo_look_11 : decode prog_8_method_17_code 11 = .ok (.getfield 13, 3) := by decide +kernel
theorem d_Mo_look_14 : decode prog_8_method_17_code 14 = .ok (.iload_n 2, 1) := by decide +kernel
theorem d_Mo_look_15 : decode prog_8_method_17_code 15 = .ok (.iaload, 1) := by decide +kernel
theorem d_Mo_look_16 : decode prog_8_method_17_code 16 = .ok (.invokestatic 123, 3) := by decide +kernel
theorem d_Mo_look_19 : decode prog_8_method_17_code 19 = .ok (.ifCond .eq 23, 3) := by decide +kernel
theorem d_Mo_look_22 : decode prog_8_method_17_code 22 = .ok (.iload_n 1, 1) := by decide +kernel
theorem d_Mo_look_23 : decode prog_8_method_17_code 23 = .ok (.iconst 3, 1) := by decide +kernel
theorem d_Mo_look_24 : decode prog_8_method_17_code 24 = .ok (.aload_n 0, 1) := by decide +kernel
theorem d_Mo_look_25 : decode prog_8_method_17_code 25 = .ok (.getfield 22, 3) := by decide +kernel
theorem d_Mo_look_28 : decode prog_8_method_17_code 28 = .ok (.iload_n 2, 1) := by decide +kernel
theorem d_Mo_look_29 : decode prog_8_method_17_code 29 = .ok (.iaload, 1) := by decide +kernel
theorem d_Mo_look_30 : decode prog_8_method_17_code 30 = .ok (.iadd, 1) := by decide +kernel
theorem d_Mo_look_31 : decode prog_8_method_17_code 31 = .ok (.ishr, 1) := by decide +kernel
theorem d_Mo_look_32 : decode prog_8_method_17_code 32 = .ok (.iconst 1, 1) := by decide +kernel
theorem d_Mo_look_33 : decode prog_8_method_17_code 33 = .ok (.iand, 1) := by decide +kernel
theorem d_Mo_look_34 : decode prog_8_method_17_code 34 = .ok (.iconst 1, 1) := by decide +kernel
theorem d_Mo_look_35 : decode prog_8_method_17_code 35 = .ok (.if_icmp .ne 7, 3) := by decide +kernel
theorem d_Mo_look_38 : decode prog_8_method_17_code 38 = .ok (.iconst 1, 1) := by decide +kernel
theorem d_Mo_look_39 : decode prog_8_method_17_code 39 = .ok (.goto 4, 3) := by decide +kernel
theorem d_Mo_look_42 : decode prog_8_method_17_code 42 = .ok (.iconst 0, 1) := by decide +kernel
theorem d_Mo_look_43 : decode prog_8_method_17_code 43 = .ok (.istore_n 3, 1) := by decide +kernel
theorem d_Mo_look_44 : decode prog_8_method_17_code 44 = .ok (.aload_n 0, 1) := by decide +kernel
theorem d_Mo_look_45 : decode prog_8_method_17_code 45 = .ok (.getfield 62, 3) := by decide +kernel
theorem d_Mo_look_48 : decode prog_8_method_17_code 48 = .ok (.iload_n 2, 1) := by decide +kernel
theorem d_Mo_look_49 : decode prog_8_method_17_code 49 = .ok (.aload_n 0, 1) := by decide +kernel
theorem d_Mo_look_50 : decode prog_8_method_17_code 50 = .ok (.iload_n 2, 1) := by decide +kernel
theorem d_Mo_look_51 : decode prog_8_method_17_code 51 = .ok (.iload_n 3, 1) := by decide +kernel
theorem d_Mo_look_52 : decode prog_8_method_17_code 52 = .ok (.iload_n 1, 1) := by decide +kernel
theorem d_Mo_look_53 : decode prog_8_method_17_code 53 = .ok (.invokevirtual 171, 3) := by decide +kernel
theorem d_Mo_look_56 : decode prog_8_method_17_code 56 = .ok (.bastore, 1) := by decide +kernel
theorem d_Mo_look_57 : decode prog_8_method_17_code 57 = .ok (.iinc 2 1, 3) := by decide +kernel
theorem d_Mo_look_60 : decode prog_8_method_17_code 60 = .ok (.goto (-58), 3) := by decide +kernel
theorem d_Mo_look_63 : decode prog_8_method_17_code 63 = .ok (.aload_n 0, 1) := by decide +kernel
theorem d_Mo_look_64 : decode prog_8_method_17_code 64 = .ok (.getfield 52, 3) := by decide +kernel
theorem d_Mo_look_67 : decode prog_8_method_17_code 67 = .ok (.iload_n 1, 1) := by decide +kernel
theorem d_Mo_look_68 : decode prog_8_method_17_code 68 = .ok (.aload_n 0, 1) := by decide +kernel
theorem d_Mo_look_69 : decode prog_8_method_17_code 69 = .ok (.getfield 62, 3) := by decide +kernel
theorem d_Mo_look_72 : decode prog_8_method_17_code 72 = .ok (.aload_n 0, 1) := by decide +kernel
theorem d_Mo_look_73 : decode prog_8_method_17_code 73 = .ok (.getfield 150, 3) := by decide +kernel
theorem d_Mo_look_76 : decode prog_8_method_17_code 76 = .ok (.iconst 1, 1) := by decide +kernel
theorem d_Mo_look_77 : decode prog_8_method_17_code 77 = .ok (.isub, 1) := by decide +kernel
theorem d_Mo_look_78 : decode prog_8_method_17_code 78 = .ok (.baload, 1) := by decide +kernel
theorem d_Mo_look_79 : decode prog_8_method_17_code 79 = .ok (.bastore, 1) := by decide +kernel
theorem d_Mo_look_80 : decode prog_8_method_17_code 80 = .ok (.iconst 0, 1) := by decide +kernel
theorem d_Mo_look_81 : decode prog_8_method_17_code 81 = .ok (.istore_n 2, 1) := by decide +kernel
theorem d_Mo_look_82 : decode prog_8_method_17_code 82 = .ok (.iconst 0, 1) := by decide +kernel
theorem d_Mo_look_83 : decode prog_8_method_17_code 83 = .ok (.istore_n 3, 1) := by decide +kernel
theorem d_Mo_look_84 : decode prog_8_method_17_code 84 = .ok (.iload_n 3, 1) := by decide +kernel
theorem d_Mo_look_85 : decode prog_8_method_17_code 85 = .ok (.aload_n 0, 1) := by decide +kernel
theorem d_Mo_look_86 : decode prog_8_method_17_code 86 = .ok (.getfield 153, 3) := by decide +kernel
theorem d_Mo_look_89 : decode prog_8_method_17_code 89 = .ok (.if_icmp .ge 68, 3) := by decide +kernel
theorem d_Mo_look_92 : decode prog_8_method_17_code 92 = .ok (.aload_n 0, 1) := by decide +kernel
theorem d_Mo_look_93 : decode prog_8_method_17_code 93 = .ok (.getfield 25, 3) := by decide +kernel
theorem d_Mo_look_96 : decode prog_8_method_17_code 96 = .ok (.iload_n 3, 1) := by decide +kernel
theorem d_Mo_look_97 : decode prog_8_method_17_code 97 = .ok (.iaload, 1) := by decide +kernel
theorem d_Mo_look_98 : decode prog_8_method_17_code 98 = .ok (.istore 4, 2) := by decide +kernel
theorem d_Mo_look_100 : decode prog_8_method_17_code 100 = .ok (.aload_n 0, 1) := by decide +kernel
theorem d_Mo_look_101 : decode prog_8_method_17_code 101 = .ok (.getfield 13, 3) := by decide +kernel
theorem d_Mo_look_104 : decode prog_8_method_17_code 104 = .ok (.iload 4, 2) := by decide +kernel
theorem d_Mo_look_106 : decode prog_8_method_17_code 106 = .ok (.iaload, 1) := by decide +kernel
theorem d_Mo_look_107 : decode prog_8_method_17_code 107 = .ok (.bipush 6, 2) := by decide +kernel
theorem d_Mo_look_109 : decode prog_8_method_17_code 109 = .ok (.if_icmp .ne 18, 3) := by decide +kernel
theorem d_Mo_look_112 : decode prog_8_method_17_code 112 = .ok (.aload_n 0, 1) := by decide +kernel
theorem d_Mo_look_113 : decode prog_8_method_17_code 113 = .ok (.getfield 62, 3) := by decide +kernel
theorem d_Mo_look_116 : decode prog_8_method_17_code 116 = .ok (.aload_n 0, 1) := by decide +kernel
theorem d_Mo_look_117 : decode prog_8_method_17_code 117 = .ok (.getfield 19, 3) := by decide +kernel
theorem d_Mo_look_120 : decode prog_8_method_17_code 120 = .ok (.iload 4, 2) := by decide +kernel
theorem d_Mo_look_122 : decode prog_8_method_17_code 122 = .ok (.iaload, 1) := by decide +kernel
theorem d_Mo_look_123 : decode prog_8_method_17_code 123 = .ok (.baload, 1) := by decide +kernel
