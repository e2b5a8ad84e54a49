theorem dX7_learn_0 : decode cX7_learn 0 = .ok (.aload_n 0, 1) := by decide +kernel
theorem dX7_learn_1 : decode cX7_learn 1 = .ok (.iconst 0, 1) := by decide +kernel
theorem dX7_learn_2 : decode cX7_learn 2 = .ok (.putfield 100, 3) := by decide +kernel
theorem dX7_learn_5 : decode cX7_learn 5 = .ok (.iconst (-1), 1) := by decide +kernel
theorem dX7_learn_6 : decode cX7_learn 6 = .ok (.istore_n 1, 1) := by decide +kernel
theorem dX7_learn_7 : decode cX7_learn 7 = .ok (.iconst 0, 1) := by decide +kernel
theorem dX7_learn_8 : decode cX7_learn 8 = .ok (.istore_n 2, 1) := by decide +kernel
theorem dX7_learn_9 : decode cX7_learn 9 = .ok (.iload_n 2, 1) := by decide +kernel
theorem dX7_learn_10 : decode cX7_learn 10 = .ok (.aload_n 0, 1) := by decide +kernel
theorem dX7_learn_11 : decode cX7_learn 11 = .ok (.getfield 56, 3) := by decide +kernel
theorem dX7_learn_14 : decode cX7_learn 14 = .ok (.if_icmp .ge 52, 3) := by decide +kernel
theorem dX7_learn_17 : decode cX7_learn 17 = .ok (.aload_n 0, 1) := by decide +kernel
theorem dX7_learn_18 : decode cX7_learn 18 = .ok (.getfield 7, 3) := by decide +kernel
theorem dX7_learn_21 : decode cX7_learn 21 = .ok (.iload_n 2, 1) := by decide +kernel
theorem dX7_learn_22 : decode cX7_learn 22 = .ok (.iaload, 1) := by decide +kernel
theorem dX7_learn_23 : decode cX7_learn 23 = .ok (.ifCond .ne 7, 3) := by decide +kernel
theorem dX7_learn_26 : decode cX7_learn 26 = .ok (.iconst (-1), 1) := by decide +kernel
theorem dX7_learn_27 : decode cX7_learn 27 = .ok (.goto 21, 3) := by decide +kernel
theorem dX7_learn_30 : decode cX7_learn 30 = .ok (.aload_n 0, 1) := by decide +kernel
theorem dX7_learn_31 : decode cX7_learn 31 = .ok (.getfield 13, 3) := by decide +kernel
theorem dX7_learn_34 : decode cX7_learn 34 = .ok (.bipush 24, 2) := by decide +kernel
theorem dX7_learn_36 : decode cX7_learn 36 = .ok (.iload_n 2, 1) := by decide +kernel
theorem dX7_learn_37 : decode cX7_learn 37 = .ok (.imul, 1) := by decide +kernel
theorem dX7_learn_38 : decode cX7_learn 38 = .ok (.aload_n 0, 1) := by decide +kernel
theorem dX7_learn_39 : decode cX7_learn 39 = .ok (.getfield 7, 3) := by decide +kernel
theorem dX7_learn_42 : decode cX7_learn 42 = .ok (.iload_n 2, 1) := by decide +kernel
theorem dX7_learn_43 : decode cX7_learn 43 = .ok (.iaload, 1) := by decide +kernel
theorem dX7_learn_44 : decode cX7_learn 44 = .ok (.iadd, 1) := by decide +kernel
theorem dX7_learn_45 : decode cX7_learn 45 = .ok (.iconst 1, 1) := by decide +kernel
theorem dX7_learn_46 : decode cX7_learn 46 = .ok (.isub, 1) := by decide +kernel
theorem dX7_learn_47 : decode cX7_learn 47 = .ok (.iaload, 1) := by decide +kernel
theorem dX7_learn_48 : decode cX7_learn 48 = .ok (.istore_n 3, 1) := by decide +kernel
theorem dX7_learn_49 : decode cX7_learn 49 = .ok (.iload_n 3, 1) := by decide +kernel
theorem dX7_learn_50 : decode cX7_learn 50 = .ok (.iload_n 1, 1) := by decide +kernel
theorem dX7_learn_51 : decode cX7_learn 51 = .ok (.if_icmp .le 7, 3) := by decide +kernel
theorem dX7_learn_54 : decode cX7_learn 54 = .ok (.iload_n 3, 1) := by decide +kernel
theorem dX7_learn_55 : decode cX7_learn 55 = .ok (.goto 4, 3) := by decide +kernel
theorem dX7_learn_58 : decode cX7_learn 58 = .ok (.iload_n 1, 1) := by decide +kernel
theorem dX7_learn_59 : decode cX7_learn 59 = .ok (.istore_n 1, 1) := by decide +kernel
theorem dX7_learn_60 : decode cX7_learn 60 = .ok (.iinc 2 1, 3) := by decide +kernel
theorem dX7_learn_63 : decode cX7_learn 63 = .ok (.goto (-54), 3) := by decide +kernel
theorem dX7_learn_66 : decode cX7_learn 66 = .ok (.iconst 0, 1) := by decide +kernel
theorem dX7_learn_67 : decode cX7_learn 67 = .ok (.istore_n 2, 1) := by decide +kernel
theorem dX7_learn_68 : decode cX7_learn 68 = .ok (.iload_n 2, 1) := by decide +kernel
theorem dX7_learn_69 : decode cX7_learn 69 = .ok (.iload_n 1, 1) := by decide +kernel
theorem dX7_learn_70 : decode cX7_learn 70 = .ok (.if_icmp .gt 132, 3) := by decide +kernel
theorem dX7_learn_73 : decode cX7_learn 73 = .ok (.aload_n 0, 1) := by decide +kernel
theorem dX7_learn_74 : decode cX7_learn 74 = .ok (.getfield 66, 3) := by decide +kernel
theorem dX7_learn_77 : decode cX7_learn 77 = .ok (.ifCond .le 16, 3) := by decide +kernel
theorem dX7_learn_80 : decode cX7_learn 80 = .ok (.iload_n 2, 1) := by decide +kernel
theorem dX7_learn_81 : decode cX7_learn 81 = .ok (.aload_n 0, 1) := by decide +kernel
theorem dX7_learn_82 : decode cX7_learn 82 = .ok (.getfield 66, 3) := by decide +kernel
theorem dX7_learn_85 : decode cX7_learn 85 = .ok (.irem, 1) := by decide +kernel
theorem dX7_learn_86 : decode cX7_learn 86 = .ok (.ifCond .ne 7, 3) := by decide +kernel
theorem dX7_learn_89 : decode cX7_learn 89 = .ok (.iconst 1, 1) := by decide +kernel
theorem dX7_learn_90 : decode cX7_learn 90 = .ok (.goto 4, 3) := by decide +kernel
theorem dX7_learn_93 : decode cX7_learn 93 = .ok (.iconst 0, 1) := by decide +kernel
theorem dX7_learn_94 : decode cX7_learn 94 = .ok (.istore_n 3, 1) := by decide +kernel
theorem dX7_learn_95 : decode cX7_learn 95 = .ok (.iconst 0, 1) := by decide +kernel
theorem dX7_learn_96 : decode cX7_learn 96 = .ok (.istore 4, 2) := by decide +kernel
theorem dX7_learn_98 : decode cX7_learn 98 = .ok (.iload 4, 2) := by decide +kernel
theorem dX7_learn_100 : decode cX7_learn 100 = .ok (.aload_n 0, 1) := by decide +kernel
theorem dX7_learn_101 : decode cX7_learn 101 = .ok (.getfield 56, 3) := by decide +kernel
theorem dX7_learn_104 : decode cX7_learn 104 = .ok (.if_icmp .ge 68, 3) := by decide +kernel
theorem dX7_learn_107 : decode cX7_learn 107 = .ok (.aload_n 0, 1) := by decide +kernel
theorem dX7_learn_108 : decode cX7_learn 108 = .ok (.getfield 66, 3) := by decide +kernel
theorem dX7_learn_111 : decode cX7_learn 111 = .ok (.ifCond .ne 61, 3) := by decide +kernel
theorem dX7_learn_114 : decode cX7_learn 114 = .ok (.iload_n 3, 1) := by decide +kernel
theorem dX7_learn_115 : decode cX7_learn 115 = .ok (.ifCond .ne 57, 3) := by decide +kernel
theorem dX7_learn_118 : decode cX7_learn 118 = .ok (.iconst 0, 1) := by decide +kernel
theorem dX7_learn_119 : decode cX7_learn 119 = .ok (.istore 5, 2) := by decide +kernel
theorem dX7_learn_121 : decode cX7_learn 121 = .ok (.iload 5, 2) := by decide +kernel
theorem dX7_learn_123 : decode cX7_learn 123 = .ok (.aload_n 0, 1) := by decide +kernel
theorem dX7_learn_124 : decode cX7_learn 124 = .ok (.getfield 7, 3) := by decide +kernel
theorem dX7_learn_127 : decode cX7_learn 127 = .ok (.iload 4, 2) := by decide +kernel
theorem dX7_learn_129 : decode cX7_learn 129 = .ok (.iaload, 1) := by decide +kernel
theorem dX7_learn_130 : decode cX7_learn 130 = .ok (.if_icmp .ge 36, 3) := by decide +kernel
theorem dX7_learn_133 : decode cX7_learn 133 = .ok (.iload_n 3, 1) := by decide +kernel
theorem dX7_learn_134 : decode cX7_learn 134 = .ok (.ifCond .ne 20, 3) := by decide +kernel
theorem dX7_learn_137 : decode cX7_learn 137 = .ok (.aload_n 0, 1) := by decide +kernel
theorem dX7_learn_138 : decode cX7_learn 138 = .ok (.getfield 13, 3) := by decide +kernel
theorem dX7_learn_141 : decode cX7_learn 141 = .ok (.bipush 24, 2) := by decide +kernel
theorem dX7_learn_143 : decode cX7_learn 143 = .ok (.iload 4, 2) := by decide +kernel
theorem dX7_learn_145 : decode cX7_learn 145 = .ok (.imul, 1) := by decide +kernel
theorem dX7_learn_146 : decode cX7_learn 146 = .ok (.iload 5, 2) := by decide +kernel
theorem dX7_learn_148 : decode cX7_learn 148 = .ok (.iadd, 1) := by decide +kernel
theorem dX7_learn_149 : decode cX7_learn 149 = .ok (.iaload, 1) := by decide +kernel
theorem dX7_learn_150 : decode cX7_learn 150 = .ok (.iload_n 2, 1) := by decide +kernel
theorem dX7_learn_151 : decode cX7_learn 151 = .ok (.if_icmp .ne 7, 3) := by decide +kernel
theorem dX7_learn_154 : decode cX7_learn 154 = .ok (.iconst 1, 1) := by decide +kernel
theorem dX7_learn_155 : decode cX7_learn 155 = .ok (.goto 4, 3) := by decide +kernel
theorem dX7_learn_158 : decode cX7_learn 158 = .ok (.iconst 0, 1) := by decide +kernel
theorem dX7_learn_159 : decode cX7_learn 159 = .ok (.istore_n 3, 1) := by decide +kernel
theorem dX7_learn_160 : decode cX7_learn 160 = .ok (.iinc 5 1, 3) := by decide +kernel
theorem dX7_learn_163 : decode cX7_learn 163 = .ok (.goto (-42), 3) := by decide +kernel
theorem dX7_learn_166 : decode cX7_learn 166 = .ok (.iinc 4 1, 3) := by decide +kernel
theorem dX7_learn_169 : decode cX7_learn 169 = .ok (.goto (-71), 3) := by decide +kernel
theorem dX7_learn_172 : decode cX7_learn 172 = .ok (.iload_n 3, 1) := by decide +kernel
theorem dX7_learn_173 : decode cX7_learn 173 = .ok (.ifCond .eq 23, 3) := by decide +kernel
theorem dX7_learn_176 : decode cX7_learn 176 = .ok (.aload_n 0, 1) := by decide +kernel
theorem dX7_learn_177 : decode cX7_learn 177 = .ok (.getfield 44, 3) := by decide +kernel
theorem dX7_learn_180 : decode cX7_learn 180 = .ok (.aload_n 0, 1) := by decide +kernel
theorem dX7_learn_181 : decode cX7_learn 181 = .ok (.getfield 100, 3) := by decide +kernel
theorem dX7_learn_184 : decode cX7_learn 184 = .ok (.iload_n 2, 1) := by decide +kernel
theorem dX7_learn_185 : decode cX7_learn 185 = .ok (.iastore, 1) := by decide +kernel
theorem dX7_learn_186 : decode cX7_learn 186 = .ok (.aload_n 0, 1) := by decide +kernel
theorem dX7_learn_187 : decode cX7_learn 187 = .ok (.dup, 1) := by decide +kernel
theorem dX7_learn_188 : decode cX7_learn 188 = .ok (.getfield 100, 3) := by decide +kernel
theorem dX7_learn_191 : decode cX7_learn 191 = .ok (.iconst 1, 1) := by decide +kernel
theorem dX7_learn_192 : decode cX7_learn 192 = .ok (.iadd, 1) := by decide +kernel
theorem dX7_learn_193 : decode cX7_learn 193 = .ok (.putfield 100, 3) := by decide +kernel
theorem dX7_learn_196 : decode cX7_learn 196 = .ok (.iinc 2 1, 3) := by decide +kernel
theorem dX7_learn_199 : decode cX7_learn 199 = .ok (.goto (-131), 3) := by decide +kernel
theorem dX7_learn_202 : decode cX7_learn 202 = .ok (.iconst 0, 1) := by decide +kernel
theorem dX7_learn_203 : decode cX7_learn 203 = .ok (.istore_n 2, 1) := by decide +kernel
theorem dX7_learn_204 : decode cX7_learn 204 = .ok (.iload_n 2, 1) := by decide +kernel
theorem dX7_learn_205 : decode cX7_learn 205 = .ok (.aload_n 0, 1) := by decide +kernel
theorem dX7_learn_206 : decode cX7_learn 206 = .ok (.getfield 56, 3) := by decide +kernel
theorem dX7_learn_209 : decode cX7_learn 209 = .ok (.if_icmp .ge 109, 3) := by decide +kernel
theorem dX7_learn_212 : decode cX7_learn 212 = .ok (.iconst 0, 1) := by decide +kernel
theorem dX7_learn_213 : decode cX7_learn 213 = .ok (.istore_n 3, 1) := by decide +kernel
theorem dX7_learn_214 : decode cX7_learn 214 = .ok (.iconst 0, 1) := by decide +kernel
theorem dX7_learn_215 : decode cX7_learn 215 = .ok (.istore 4, 2) := by decide +kernel
theorem dX7_learn_217 : decode cX7_learn 217 = .ok (.iload 4, 2) := by decide +kernel
theorem dX7_learn_219 : decode cX7_learn 219 = .ok (.aload_n 0, 1) := by decide +kernel
theorem dX7_learn_220 : decode cX7_learn 220 = .ok (.getfield 100, 3) := by decide +kernel
theorem dX7_learn_223 : decode cX7_learn 223 = .ok (.if_icmp .ge 89, 3) := by decide +kernel
theorem dX7_learn_226 : decode cX7_learn 226 = .ok (.iload_n 3, 1) := by decide +kernel
theorem dX7_learn_227 : decode cX7_learn 227 = .ok (.aload_n 0, 1) := by decide +kernel
theorem dX7_learn_228 : decode cX7_learn 228 = .ok (.getfield 7, 3) := by decide +kernel
theorem dX7_learn_231 : decode cX7_learn 231 = .ok (.iload_n 2, 1) := by decide +kernel
theorem dX7_learn_232 : decode cX7_learn 232 = .ok (.iaload, 1) := by decide +kernel
theorem dX7_learn_233 : decode cX7_learn 233 = .ok (.if_icmp .ge 30, 3) := by decide +kernel
theorem dX7_learn_236 : decode cX7_learn 236 = .ok (.aload_n 0, 1) := by decide +kernel
theorem dX7_learn_237 : decode cX7_learn 237 = .ok (.getfield 13, 3) := by decide +kernel
theorem dX7_learn_240 : decode cX7_learn 240 = .ok (.bipush 24, 2) := by decide +kernel
theorem dX7_learn_242 : decode cX7_learn 242 = .ok (.iload_n 2, 1) := by decide +kernel
theorem dX7_learn_243 : decode cX7_learn 243 = .ok (.imul, 1) := by decide +kernel
theorem dX7_learn_244 : decode cX7_learn 244 = .ok (.iload_n 3, 1) := by decide +kernel
theorem dX7_learn_245 : decode cX7_learn 245 = .ok (.iadd, 1) := by decide +kernel
theorem dX7_learn_246 : decode cX7_learn 246 = .ok (.iaload, 1) := by decide +kernel
theorem dX7_learn_247 : decode cX7_learn 247 = .ok (.aload_n 0, 1) := by decide +kernel
theorem dX7_learn_248 : decode cX7_learn 248 = .ok (.getfield 44, 3) := by decide +kernel
theorem dX7_learn_251 : decode cX7_learn 251 = .ok (.iload 4, 2) := by decide +kernel
theorem dX7_learn_253 : decode cX7_learn 253 = .ok (.iaload, 1) := by decide +kernel
theorem dX7_learn_254 : decode cX7_learn 254 = .ok (.if_icmp .gt 9, 3) := by decide +kernel
theorem dX7_learn_257 : decode cX7_learn 257 = .ok (.iinc 3 1, 3) := by decide +kernel
theorem dX7_learn_260 : decode cX7_learn 260 = .ok (.goto (-34), 3) := by decide +kernel
theorem dX7_learn_263 : decode cX7_learn 263 = .ok (.bipush 24, 2) := by decide +kernel
theorem dX7_learn_265 : decode cX7_learn 265 = .ok (.iload_n 2, 1) := by decide +kernel
theorem dX7_learn_266 : decode cX7_learn 266 = .ok (.imul, 1) := by decide +kernel
theorem dX7_learn_267 : decode cX7_learn 267 = .ok (.iload_n 3, 1) := by decide +kernel
theorem dX7_learn_268 : decode cX7_learn 268 = .ok (.iadd, 1) := by decide +kernel
theorem dX7_learn_269 : decode cX7_learn 269 = .ok (.iconst 1, 1) := by decide +kernel
theorem dX7_learn_270 : decode cX7_learn 270 = .ok (.isub, 1) := by decide +kernel
theorem dX7_learn_271 : decode cX7_learn 271 = .ok (.istore 5, 2) := by decide +kernel
theorem dX7_learn_273 : decode cX7_learn 273 = .ok (.aload_n 0, 1) := by decide +kernel
theorem dX7_learn_274 : decode cX7_learn 274 = .ok (.getfield 47, 3) := by decide +kernel
theorem dX7_learn_277 : decode cX7_learn 277 = .ok (.bipush 120, 2) := by decide +kernel
theorem dX7_learn_279 : decode cX7_learn 279 = .ok (.iload_n 2, 1) := by decide +kernel
theorem dX7_learn_280 : decode cX7_learn 280 = .ok (.imul, 1) := by decide +kernel
theorem dX7_learn_281 : decode cX7_learn 281 = .ok (.iload 4, 2) := by decide +kernel
theorem dX7_learn_283 : decode cX7_learn 283 = .ok (.iadd, 1) := by decide +kernel
theorem dX7_learn_284 : decode cX7_learn 284 = .ok (.iload_n 3, 1) := by decide +kernel
theorem dX7_learn_285 : decode cX7_learn 285 = .ok (.ifCond .eq 14, 3) := by decide +kernel
theorem dX7_learn_288 : decode cX7_learn 288 = .ok (.aload_n 0, 1) := by decide +kernel
theorem dX7_learn_289 : decode cX7_learn 289 = .ok (.getfield 16, 3) := by decide +kernel
theorem dX7_learn_292 : decode cX7_learn 292 = .ok (.iload 5, 2) := by decide +kernel
theorem dX7_learn_294 : decode cX7_learn 294 = .ok (.iaload, 1) := by decide +kernel
theorem dX7_learn_295 : decode cX7_learn 295 = .ok (.iconst (-1), 1) := by decide +kernel
theorem dX7_learn_296 : decode cX7_learn 296 = .ok (.if_icmp .ne 7, 3) := by decide +kernel
theorem dX7_learn_299 : decode cX7_learn 299 = .ok (.iconst (-1), 1) := by decide +kernel
theorem dX7_learn_300 : decode cX7_learn 300 = .ok (.goto 5, 3) := by decide +kernel
theorem dX7_learn_303 : decode cX7_learn 303 = .ok (.iload 5, 2) := by decide +kernel
theorem dX7_learn_305 : decode cX7_learn 305 = .ok (.iastore, 1) := by decide +kernel
theorem dX7_learn_306 : decode cX7_learn 306 = .ok (.iinc 4 1, 3) := by decide +kernel
theorem dX7_learn_309 : decode cX7_learn 309 = .ok (.goto (-92), 3) := by decide +kernel
theorem dX7_learn_312 : decode cX7_learn 312 = .ok (.iinc 2 1, 3) := by decide +kernel
theorem dX7_learn_315 : decode cX7_learn 315 = .ok (.goto (-111), 3) := by decide +kernel
theorem dX7_learn_318 : decode cX7_learn 318 = .ok (.return_, 1) := by decide +kernel
theorem dX7_grid_0 : decode cX7_grid 0 = .ok (.iload_n 1, 1) := by decide +kernel
theorem dX7_grid_1 : decode cX7_grid 1 = .ok (.ifCond .eq 18, 3) := by decide +kernel
theorem dX7_grid_4 : decode cX7_grid 4 = .ok (.iload_n 1, 1) := by decide +kernel
theorem dX7_grid_5 : decode cX7_grid 5 = .ok (.bipush 10, 2) := by decide +kernel
theorem dX7_grid_7 : decode cX7_grid 7 = .ok (.sipush 500, 3) := by decide +kernel
theorem dX7_grid_10 : decode cX7_grid 10 = .ok (.invokestatic 81, 3) := by decide +kernel
theorem dX7_grid_13 : decode cX7_grid 13 = .ok (.ifCond .ne 6, 3) := by decide +kernel
theorem dX7_grid_16 : decode cX7_grid 16 = .ok (.bipush (-2), 2) := by decide +kernel
theorem dX7_grid_18 : decode cX7_grid 18 = .ok (.ireturn, 1) := by decide +kernel
theorem dX7_grid_19 : decode cX7_grid 19 = .ok (.aload_n 0, 1) := by decide +kernel
theorem dX7_grid_20 : decode cX7_grid 20 = .ok (.iload_n 1, 1) := by decide +kernel
theorem dX7_grid_21 : decode cX7_grid 21 = .ok (.putfield 66, 3) := by decide +kernel
theorem dX7_grid_24 : decode cX7_grid 24 = .ok (.aload_n 0, 1) := by decide +kernel
theorem dX7_grid_25 : decode cX7_grid 25 = .ok (.invokevirtual 103, 3) := by decide +kernel
theorem dX7_grid_28 : decode cX7_grid 28 = .ok (.aload_n 0, 1) := by decide +kernel
theorem dX7_grid_29 : decode cX7_grid 29 = .ok (.getfield 100, 3) := by decide +kernel
theorem dX7_grid_32 : decode cX7_grid 32 = .ok (.ireturn, 1) := by decide +kernel
theorem dX7_repeat_0 : decode cX7_repeat 0 = .ok (.iload_n 1, 1) := by decide +kernel
theorem dX7_repeat_1 : decode cX7_repeat 1 = .ok (.iconst 0, 1) := by decide +kernel
theorem dX7_repeat_2 : decode cX7_repeat 2 = .ok (.sipush 999, 3) := by decide +kernel
theorem dX7_repeat_5 : decode cX7_repeat 5 = .ok (.invokestatic 81, 3) := by decide +kernel
theorem dX7_repeat_8 : decode cX7_repeat 8 = .ok (.ifCond .eq 16, 3) := by decide +kernel
theorem dX7_repeat_11 : decode cX7_repeat 11 = .ok (.iload_n 2, 1) := by decide +kernel
theorem dX7_repeat_12 : decode cX7_repeat 12 = .ok (.iload_n 1, 1) := by decide +kernel
theorem dX7_repeat_13 : decode cX7_repeat 13 = .ok (.iconst 1, 1) := by decide +kernel
theorem dX7_repeat_14 : decode cX7_repeat 14 = .ok (.iadd, 1) := by decide +kernel
theorem dX7_repeat_15 : decode cX7_repeat 15 = .ok (.sipush 999, 3) := by decide +kernel
theorem dX7_repeat_18 : decode cX7_repeat 18 = .ok (.invokestatic 81, 3) := by decide +kernel
theorem dX7_repeat_21 : decode cX7_repeat 21 = .ok (.ifCond .ne 6, 3) := by decide +kernel
theorem dX7_repeat_24 : decode cX7_repeat 24 = .ok (.bipush (-2), 2) := by decide +kernel
theorem dX7_repeat_26 : decode cX7_repeat 26 = .ok (.ireturn, 1) := by decide +kernel
theorem dX7_repeat_27 : decode cX7_repeat 27 = .ok (.aload_n 0, 1) := by decide +kernel
theorem dX7_repeat_28 : decode cX7_repeat 28 = .ok (.getfield 69, 3) := by decide +kernel
theorem dX7_repeat_31 : decode cX7_repeat 31 = .ok (.iconst 4, 1) := by decide +kernel
theorem dX7_repeat_32 : decode cX7_repeat 32 = .ok (.if_icmp .ne 6, 3) := by decide +kernel
theorem dX7_repeat_35 : decode cX7_repeat 35 = .ok (.bipush (-3), 2) := by decide +kernel
theorem dX7_repeat_37 : decode cX7_repeat 37 = .ok (.ireturn, 1) := by decide +kernel
theorem dX7_repeat_38 : decode cX7_repeat 38 = .ok (.aload_n 0, 1) := by decide +kernel
theorem dX7_repeat_39 : decode cX7_repeat 39 = .ok (.getfield 32, 3) := by decide +kernel
theorem dX7_repeat_42 : decode cX7_repeat 42 = .ok (.aload_n 0, 1) := by decide +kernel
theorem dX7_repeat_43 : decode cX7_repeat 43 = .ok (.getfield 69, 3) := by decide +kernel
theorem dX7_repeat_46 : decode cX7_repeat 46 = .ok (.iload_n 1, 1) := by decide +kernel
theorem dX7_repeat_47 : decode cX7_repeat 47 = .ok (.iastore, 1) := by decide +kernel
theorem dX7_repeat_48 : decode cX7_repeat 48 = .ok (.aload_n 0, 1) := by decide +kernel
theorem dX7_repeat_49 : decode cX7_repeat 49 = .ok (.getfield 35, 3) := by decide +kernel
theorem dX7_repeat_52 : decode cX7_repeat 52 = .ok (.aload_n 0, 1) := by decide +kernel
theorem dX7_repeat_53 : decode cX7_repeat 53 = .ok (.getfield 69, 3) := by decide +kernel
theorem dX7_repeat_56 : decode cX7_repeat 56 = .ok (.iload_n 2, 1) := by decide +kernel
theorem dX7_repeat_57 : decode cX7_repeat 57 = .ok (.iastore, 1) := by decide +kernel
theorem dX7_repeat_58 : decode cX7_repeat 58 = .ok (.aload_n 0, 1) := by decide +kernel
theorem dX7_repeat_59 : decode cX7_repeat 59 = .ok (.dup, 1) := by decide +kernel
theorem dX7_repeat_60 : decode cX7_repeat 60 = .ok (.getfield 69, 3) := by decide +kernel
theorem dX7_repeat_63 : decode cX7_repeat 63 = .ok (.iconst 1, 1) := by decide +kernel
theorem dX7_repeat_64 : decode cX7_repeat 64 = .ok (.iadd, 1) := by decide +kernel
theorem dX7_repeat_65 : decode cX7_repeat 65 = .ok (.putfield 69, 3) := by decide +kernel
theorem dX7_repeat_68 : decode cX7_repeat 68 = .ok (.aload_n 0, 1) := by decide +kernel
theorem dX7_repeat_69 : decode cX7_repeat 69 = .ok (.getfield 69, 3) := by decide +kernel
theorem dX7_repeat_72 : decode cX7_repeat 72 = .ok (.ireturn, 1) := by decide +kernel
theorem dX7_isExcepted_0 : decode cX7_isExcepted 0 = .ok (.iconst 0, 1) := by decide +kernel
theorem dX7_isExcepted_1 : decode cX7_isExcepted 1 = .ok (.istore_n 3, 1) := by decide +kernel
theorem dX7_isExcepted_2 : decode cX7_isExcepted 2 = .ok (.iconst 0, 1) := by decide +kernel
theorem dX7_isExcepted_3 : decode cX7_isExcepted 3 = .ok (.istore 4, 2) := by decide +kernel
theorem dX7_isExcepted_5 : decode cX7_isExcepted 5 = .ok (.iload 4, 2) := by decide +kernel
theorem dX7_isExcepted_7 : decode cX7_isExcepted 7 = .ok (.aload_n 0, 1) := by decide +kernel
theorem dX7_isExcepted_8 : decode cX7_isExcepted 8 = .ok (.getfield 72, 3) := by decide +kernel
theorem dX7_isExcepted_11 : decode cX7_isExcepted 11 = .ok (.if_icmp .ge 41, 3) := by decide +kernel
theorem dX7_isExcepted_14 : decode cX7_isExcepted 14 = .ok (.iload_n 3, 1) := by decide +kernel
theorem dX7_isExcepted_15 : decode cX7_isExcepted 15 = .ok (.ifCond .ne 25, 3) := by decide +kernel
theorem dX7_isExcepted_18 : decode cX7_isExcepted 18 = .ok (.aload_n 0, 1) := by decide +kernel
theorem dX7_isExcepted_19 : decode cX7_isExcepted 19 = .ok (.getfield 38, 3) := by decide +kernel
theorem dX7_isExcepted_22 : decode cX7_isExcepted 22 = .ok (.iload 4, 2) := by decide +kernel
theorem dX7_isExcepted_24 : decode cX7_isExcepted 24 = .ok (.iaload, 1) := by decide +kernel
theorem dX7_isExcepted_25 : decode cX7_isExcepted 25 = .ok (.iload_n 1, 1) := by decide +kernel
theorem dX7_isExcepted_26 : decode cX7_isExcepted 26 = .ok (.if_icmp .ne 18, 3) := by decide +kernel
theorem dX7_isExcepted_29 : decode cX7_isExcepted 29 = .ok (.aload_n 0, 1) := by decide +kernel
theorem dX7_isExcepted_30 : decode cX7_isExcepted 30 = .ok (.getfield 41, 3) := by decide +kernel
theorem dX7_isExcepted_33 : decode cX7_isExcepted 33 = .ok (.iload 4, 2) := by decide +kernel
theorem dX7_isExcepted_35 : decode cX7_isExcepted 35 = .ok (.iaload, 1) := by decide +kernel
theorem dX7_isExcepted_36 : decode cX7_isExcepted 36 = .ok (.iload_n 2, 1) := by decide +kernel
theorem dX7_isExcepted_37 : decode cX7_isExcepted 37 = .ok (.if_icmp .ne 7, 3) := by decide +kernel
theorem dX7_isExcepted_40 : decode cX7_isExcepted 40 = .ok (.iconst 1, 1) := by decide +kernel
theorem dX7_isExcepted_41 : decode cX7_isExcepted 41 = .ok (.goto 4, 3) := by decide +kernel
theorem dX7_isExcepted_44 : decode cX7_isExcepted 44 = .ok (.iconst 0, 1) := by decide +kernel
theorem dX7_isExcepted_45 : decode cX7_isExcepted 45 = .ok (.istore_n 3, 1) := by decide +kernel
theorem dX7_isExcepted_46 : decode cX7_isExcepted 46 = .ok (.iinc 4 1, 3) := by decide +kernel
theorem dX7_isExcepted_49 : decode cX7_isExcepted 49 = .ok (.goto (-44), 3) := by decide +kernel
theorem dX7_isExcepted_52 : decode cX7_isExcepted 52 = .ok (.iload_n 3, 1) := by decide +kernel
theorem dX7_isExcepted_53 : decode cX7_isExcepted 53 = .ok (.ireturn, 1) := by decide +kernel
theorem dX7_except_0 : decode cX7_except 0 = .ok (.iload_n 1, 1) := by decide +kernel
theorem dX7_except_1 : decode cX7_except 1 = .ok (.iconst 0, 1) := by decide +kernel
theorem dX7_except_2 : decode cX7_except 2 = .ok (.bipush 13, 2) := by decide +kernel
theorem dX7_except_4 : decode cX7_except 4 = .ok (.invokestatic 81, 3) := by decide +kernel
theorem dX7_except_7 : decode cX7_except 7 = .ok (.ifCond .eq 14, 3) := by decide +kernel
theorem dX7_except_10 : decode cX7_except 10 = .ok (.iload_n 2, 1) := by decide +kernel
theorem dX7_except_11 : decode cX7_except 11 = .ok (.iconst 0, 1) := by decide +kernel
theorem dX7_except_12 : decode cX7_except 12 = .ok (.sipush 999, 3) := by decide +kernel
theorem dX7_except_15 : decode cX7_except 15 = .ok (.invokestatic 81, 3) := by decide +kernel
theorem dX7_except_18 : decode cX7_except 18 = .ok (.ifCond .ne 6, 3) := by decide +kernel
theorem dX7_except_21 : decode cX7_except 21 = .ok (.bipush (-2), 2) := by decide +kernel
theorem dX7_except_23 : decode cX7_except 23 = .ok (.ireturn, 1) := by decide +kernel
theorem dX7_except_24 : decode cX7_except 24 = .ok (.aload_n 0, 1) := by decide +kernel
theorem dX7_except_25 : decode cX7_except 25 = .ok (.iload_n 1, 1) := by decide +kernel
theorem dX7_except_26 : decode cX7_except 26 = .ok (.iload_n 2, 1) := by decide +kernel
theorem dX7_except_27 : decode cX7_except 27 = .ok (.invokevirtual 106, 3) := by decide +kernel
theorem dX7_except_30 : decode cX7_except 30 = .ok (.ifCond .eq 5, 3) := by decide +kernel
theorem dX7_except_33 : decode cX7_except 33 = .ok (.iconst (-1), 1) := by decide +kernel
theorem dX7_except_34 : decode cX7_except 34 = .ok (.ireturn, 1) := by decide +kernel
theorem dX7_except_35 : decode cX7_except 35 = .ok (.aload_n 0, 1) := by decide +kernel
theorem dX7_except_36 : decode cX7_except 36 = .ok (.getfield 72, 3) := by decide +kernel
theorem dX7_except_39 : decode cX7_except 39 = .ok (.bipush 20, 2) := by decide +kernel
theorem dX7_except_41 : decode cX7_except 41 = .ok (.if_icmp .ne 6, 3) := by decide +kernel
theorem dX7_except_44 : decode cX7_except 44 = .ok (.bipush (-3), 2) := by decide +kernel
theorem dX7_except_46 : decode cX7_except 46 = .ok (.ireturn, 1) := by decide +kernel
theorem dX7_except_47 : decode cX7_except 47 = .ok (.aload_n 0, 1) := by decide +kernel
theorem dX7_except_48 : decode cX7_except 48 = .ok (.getfield 38, 3) := by decide +kernel
theorem dX7_except_51 : decode cX7_except 51 = .ok (.aload_n 0, 1) := by decide +kernel
theorem dX7_except_52 : decode cX7_except 52 = .ok (.getfield 72, 3) := by decide +kernel
theorem dX7_except_55 : decode cX7_except 55 = .ok (.iload_n 1, 1) := by decide +kernel
theorem dX7_except_56 : decode cX7_except 56 = .ok (.iastore, 1) := by decide +kernel
theorem dX7_except_57 : decode cX7_except 57 = .ok (.aload_n 0, 1) := by decide +kernel
theorem dX7_except_58 : decode cX7_except 58 = .ok (.getfield 41, 3) := by decide +kernel
theorem dX7_except_61 : decode cX7_except 61 = .ok (.aload_n 0, 1) := by decide +kernel
theorem dX7_except_62 : decode cX7_except 62 = .ok (.getfield 72, 3) := by decide +kernel
theorem dX7_except_65 : decode cX7_except 65 = .ok (.iload_n 2, 1) := by decide +kernel
theorem dX7_except_66 : decode cX7_except 66 = .ok (.iastore, 1) := by decide +kernel
theorem dX7_except_67 : decode cX7_except 67 = .ok (.aload_n 0, 1) := by decide +kernel
theorem dX7_except_68 : decode cX7_except 68 = .ok (.dup, 1) := by decide +kernel
theorem dX7_except_69 : decode cX7_except 69 = .ok (.getfield 72, 3) := by decide +kernel
theorem dX7_except_72 : decode cX7_except 72 = .ok (.iconst 1, 1) := by decide +kernel
theorem dX7_except_73 : decode cX7_except 73 = .ok (.iadd, 1) := by decide +kernel
theorem dX7_except_74 : decode cX7_except 74 = .ok (.putfield 72, 3) := by decide +kernel
theorem dX7_except_77 : decode cX7_except 77 = .ok (.aload_n 0, 1) := by decide +kernel
theorem dX7_except_78 : decode cX7_except 78 = .ok (.getfield 72, 3) := by decide +kernel
theorem dX7_except_81 : decode cX7_except 81 = .ok (.ireturn, 1) := by decide +kernel
theorem dX7_isAbout_0 : decode cX7_isAbout 0 = .ok (.iload_n 1, 1) := by decide +kernel
theorem dX7_isAbout_1 : decode cX7_isAbout 1 = .ok (.tableswitch 138 2 13 #[63, 138, 83, 83, 96, 96, 96, 138, 107, 122, 138, 83], 63) := by decide +kernel
theorem dX7_isAbout_64 : decode cX7_isAbout 64 = .ok (.iload_n 2, 1) := by decide +kernel
theorem dX7_isAbout_65 : decode cX7_isAbout 65 = .ok (.ifCond .ne 17, 3) := by decide +kernel
theorem dX7_isAbout_68 : decode cX7_isAbout 68 = .ok (.iload_n 3, 1) := by decide +kernel
theorem dX7_isAbout_69 : decode cX7_isAbout 69 = .ok (.aload_n 0, 1) := by decide +kernel
theorem dX7_isAbout_70 : decode cX7_isAbout 70 = .ok (.getfield 56, 3) := by decide +kernel
theorem dX7_isAbout_73 : decode cX7_isAbout 73 = .ok (.iconst 1, 1) := by decide +kernel
theorem dX7_isAbout_74 : decode cX7_isAbout 74 = .ok (.isub, 1) := by decide +kernel
theorem dX7_isAbout_75 : decode cX7_isAbout 75 = .ok (.if_icmp .ne 7, 3) := by decide +kernel
theorem dX7_isAbout_78 : decode cX7_isAbout 78 = .ok (.iconst 1, 1) := by decide +kernel
theorem dX7_isAbout_79 : decode cX7_isAbout 79 = .ok (.goto 4, 3) := by decide +kernel
theorem dX7_isAbout_82 : decode cX7_isAbout 82 = .ok (.iconst 0, 1) := by decide +kernel
theorem dX7_isAbout_83 : decode cX7_isAbout 83 = .ok (.ireturn, 1) := by decide +kernel
theorem dX7_isAbout_84 : decode cX7_isAbout 84 = .ok (.iload_n 3, 1) := by decide +kernel
theorem dX7_isAbout_85 : decode cX7_isAbout 85 = .ok (.iload_n 2, 1) := by decide +kernel
theorem dX7_isAbout_86 : decode cX7_isAbout 86 = .ok (.iconst 1, 1) := by decide +kernel
theorem dX7_isAbout_87 : decode cX7_isAbout 87 = .ok (.iadd, 1) := by decide +kernel
theorem dX7_isAbout_88 : decode cX7_isAbout 88 = .ok (.if_icmp .ne 7, 3) := by decide +kernel
theorem dX7_isAbout_91 : decode cX7_isAbout 91 = .ok (.iconst 1, 1) := by decide +kernel
theorem dX7_isAbout_92 : decode cX7_isAbout 92 = .ok (.goto 4, 3) := by decide +kernel
theorem dX7_isAbout_95 : decode cX7_isAbout 95 = .ok (.iconst 0, 1) := by decide +kernel
theorem dX7_isAbout_96 : decode cX7_isAbout 96 = .ok (.ireturn, 1) := by decide +kernel
theorem dX7_isAbout_97 : decode cX7_isAbout 97 = .ok (.iload_n 3, 1) := by decide +kernel
theorem dX7_isAbout_98 : decode cX7_isAbout 98 = .ok (.iconst (-1), 1) := by decide +kernel
theorem dX7_isAbout_99 : decode cX7_isAbout 99 = .ok (.if_icmp .ne 7, 3) := by decide +kernel
theorem dX7_isAbout_102 : decode cX7_isAbout 102 = .ok (.iconst 1, 1) := by decide +kernel
theorem dX7_isAbout_103 : decode cX7_isAbout 103 = .ok (.goto 4, 3) := by decide +kernel
theorem dX7_isAbout_106 : decode cX7_isAbout 106 = .ok (.iconst 0, 1) := by decide +kernel
theorem dX7_isAbout_107 : decode cX7_isAbout 107 = .ok (.ireturn, 1) := by decide +kernel
theorem dX7_isAbout_108 : decode cX7_isAbout 108 = .ok (.iload_n 3, 1) := by decide +kernel
theorem dX7_isAbout_109 : decode cX7_isAbout 109 = .ok (.iconst (-1), 1) := by decide +kernel
theorem dX7_isAbout_110 : decode cX7_isAbout 110 = .ok (.if_icmp .ne 11, 3) := by decide +kernel
theorem dX7_isAbout_113 : decode cX7_isAbout 113 = .ok (.iload_n 2, 1) := by decide +kernel
theorem dX7_isAbout_114 : decode cX7_isAbout 114 = .ok (.ifCond .le 7, 3) := by decide +kernel
theorem dX7_isAbout_117 : decode cX7_isAbout 117 = .ok (.iconst 1, 1) := by decide +kernel
theorem dX7_isAbout_118 : decode cX7_isAbout 118 = .ok (.goto 4, 3) := by decide +kernel
theorem dX7_isAbout_121 : decode cX7_isAbout 121 = .ok (.iconst 0, 1) := by decide +kernel
theorem dX7_isAbout_122 : decode cX7_isAbout 122 = .ok (.ireturn, 1) := by decide +kernel
theorem dX7_isAbout_123 : decode cX7_isAbout 123 = .ok (.iload_n 3, 1) := by decide +kernel
theorem dX7_isAbout_124 : decode cX7_isAbout 124 = .ok (.iconst (-1), 1) := by decide +kernel
theorem dX7_isAbout_125 : decode cX7_isAbout 125 = .ok (.if_icmp .eq 12, 3) := by decide +kernel
theorem dX7_isAbout_128 : decode cX7_isAbout 128 = .ok (.iload_n 3, 1) := by decide +kernel
theorem dX7_isAbout_129 : decode cX7_isAbout 129 = .ok (.iload_n 2, 1) := by decide +kernel
theorem dX7_isAbout_130 : decode cX7_isAbout 130 = .ok (.if_icmp .eq 7, 3) := by decide +kernel
theorem dX7_isAbout_133 : decode cX7_isAbout 133 = .ok (.iconst 1, 1) := by decide +kernel
theorem dX7_isAbout_134 : decode cX7_isAbout 134 = .ok (.goto 4, 3) := by decide +kernel
theorem dX7_isAbout_137 : decode cX7_isAbout 137 = .ok (.iconst 0, 1) := by decide +kernel
theorem dX7_isAbout_138 : decode cX7_isAbout 138 = .ok (.ireturn, 1) := by decide +kernel
theorem dX7_isAbout_139 : decode cX7_isAbout 139 = .ok (.iload_n 3, 1) := by decide +kernel
theorem dX7_isAbout_140 : decode cX7_isAbout 140 = .ok (.iload_n 2, 1) := by decide +kernel
theorem dX7_isAbout_141 : decode cX7_isAbout 141 = .ok (.if_icmp .le 7, 3) := by decide +kernel
theorem dX7_isAbout_144 : decode cX7_isAbout 144 = .ok (.iconst 1, 1) := by decide +kernel
theorem dX7_isAbout_145 : decode cX7_isAbout 145 = .ok (.goto 4, 3) := by decide +kernel
theorem dX7_isAbout_148 : decode cX7_isAbout 148 = .ok (.iconst 0, 1) := by decide +kernel
theorem dX7_isAbout_149 : decode cX7_isAbout 149 = .ok (.ireturn, 1) := by decide +kernel
theorem dX7_isOfMoments_0 : decode cX7_isOfMoments 0 = .ok (.iload_n 0, 1) := by decide +kernel
theorem dX7_isOfMoments_1 : decode cX7_isOfMoments 1 = .ok (.iconst 3, 1) := by decide +kernel
theorem dX7_isOfMoments_2 : decode cX7_isOfMoments 2 = .ok (.if_icmp .eq 26, 3) := by decide +kernel
theorem dX7_isOfMoments_5 : decode cX7_isOfMoments 5 = .ok (.iload_n 0, 1) := by decide +kernel
theorem dX7_isOfMoments_6 : decode cX7_isOfMoments 6 = .ok (.iconst 5, 1) := by decide +kernel
theorem dX7_isOfMoments_7 : decode cX7_isOfMoments 7 = .ok (.if_icmp .eq 21, 3) := by decide +kernel
theorem dX7_isOfMoments_10 : decode cX7_isOfMoments 10 = .ok (.iload_n 0, 1) := by decide +kernel
theorem dX7_isOfMoments_11 : decode cX7_isOfMoments 11 = .ok (.bipush 6, 2) := by decide +kernel
theorem dX7_isOfMoments_13 : decode cX7_isOfMoments 13 = .ok (.if_icmp .eq 15, 3) := by decide +kernel
theorem dX7_isOfMoments_16 : decode cX7_isOfMoments 16 = .ok (.iload_n 0, 1) := by decide +kernel
theorem dX7_isOfMoments_17 : decode cX7_isOfMoments 17 = .ok (.bipush 9, 2) := by decide +kernel
theorem dX7_isOfMoments_19 : decode cX7_isOfMoments 19 = .ok (.if_icmp .eq 9, 3) := by decide +kernel
theorem dX7_isOfMoments_22 : decode cX7_isOfMoments 22 = .ok (.iload_n 0, 1) := by decide +kernel
theorem dX7_isOfMoments_23 : decode cX7_isOfMoments 23 = .ok (.bipush 13, 2) := by decide +kernel
theorem dX7_isOfMoments_25 : decode cX7_isOfMoments 25 = .ok (.if_icmp .ne 7, 3) := by decide +kernel
theorem dX7_isOfMoments_28 : decode cX7_isOfMoments 28 = .ok (.iconst 1, 1) := by decide +kernel
theorem dX7_isOfMoments_29 : decode cX7_isOfMoments 29 = .ok (.goto 4, 3) := by decide +kernel
theorem dX7_isOfMoments_32 : decode cX7_isOfMoments 32 = .ok (.iconst 0, 1) := by decide +kernel
theorem dX7_isOfMoments_33 : decode cX7_isOfMoments 33 = .ok (.ireturn, 1) := by decide +kernel
theorem dX7_at_0 : decode cX7_at 0 = .ok (.aload_n 0, 1) := by decide +kernel
theorem dX7_at_1 : decode cX7_at 1 = .ok (.getfield 47, 3) := by decide +kernel
theorem dX7_at_4 : decode cX7_at 4 = .ok (.bipush 120, 2) := by decide +kernel
theorem dX7_at_6 : decode cX7_at 6 = .ok (.iload_n 1, 1) := by decide +kernel
theorem dX7_at_7 : decode cX7_at 7 = .ok (.imul, 1) := by decide +kernel
theorem dX7_at_8 : decode cX7_at 8 = .ok (.iload_n 2, 1) := by decide +kernel
theorem dX7_at_9 : decode cX7_at 9 = .ok (.iadd, 1) := by decide +kernel
theorem dX7_at_10 : decode cX7_at 10 = .ok (.iaload, 1) := by decide +kernel
theorem dX7_at_11 : decode cX7_at 11 = .ok (.ireturn, 1) := by decide +kernel
theorem dX7_betweenHeights_0 : decode cX7_betweenHeights 0 = .ok (.aload_n 0, 1) := by decide +kernel
theorem dX7_betweenHeights_1 : decode cX7_betweenHeights 1 = .ok (.aload_n 0, 1) := by decide +kernel
theorem dX7_betweenHeights_2 : decode cX7_betweenHeights 2 = .ok (.iload_n 2, 1) := by decide +kernel
theorem dX7_betweenHeights_3 : decode cX7_betweenHeights 3 = .ok (.iload_n 3, 1) := by decide +kernel
theorem dX7_betweenHeights_4 : decode cX7_betweenHeights 4 = .ok (.invokevirtual 110, 3) := by decide +kernel
theorem dX7_betweenHeights_7 : decode cX7_betweenHeights 7 = .ok (.invokevirtual 97, 3) := by decide +kernel
theorem dX7_betweenHeights_10 : decode cX7_betweenHeights 10 = .ok (.aload_n 0, 1) := by decide +kernel
theorem dX7_betweenHeights_11 : decode cX7_betweenHeights 11 = .ok (.aload_n 0, 1) := by decide +kernel
theorem dX7_betweenHeights_12 : decode cX7_betweenHeights 12 = .ok (.iload_n 1, 1) := by decide +kernel
theorem dX7_betweenHeights_13 : decode cX7_betweenHeights 13 = .ok (.iload_n 3, 1) := by decide +kernel
theorem dX7_betweenHeights_14 : decode cX7_betweenHeights 14 = .ok (.invokevirtual 110, 3) := by decide +kernel
theorem dX7_betweenHeights_17 : decode cX7_betweenHeights 17 = .ok (.invokevirtual 97, 3) := by decide +kernel
theorem dX7_betweenHeights_20 : decode cX7_betweenHeights 20 = .ok (.isub, 1) := by decide +kernel
theorem dX7_betweenHeights_21 : decode cX7_betweenHeights 21 = .ok (.ireturn, 1) := by decide +kernel
theorem dX7_modulo_0 : decode cX7_modulo 0 = .ok (.iload_n 0, 1) := by decide +kernel
theorem dX7_modulo_1 : decode cX7_modulo 1 = .ok (.iload_n 2, 1) := by decide +kernel
theorem dX7_modulo_2 : decode cX7_modulo 2 = .ok (.iadd, 1) := by decide +kernel
theorem dX7_modulo_3 : decode cX7_modulo 3 = .ok (.iload_n 1, 1) := by decide +kernel
theorem dX7_modulo_4 : decode cX7_modulo 4 = .ok (.irem, 1) := by decide +kernel
theorem dX7_modulo_5 : decode cX7_modulo 5 = .ok (.istore_n 3, 1) := by decide +kernel
theorem dX7_modulo_6 : decode cX7_modulo 6 = .ok (.iload_n 3, 1) := by decide +kernel
theorem dX7_modulo_7 : decode cX7_modulo 7 = .ok (.ifCond .ge 9, 3) := by decide +kernel
theorem dX7_modulo_10 : decode cX7_modulo 10 = .ok (.iload_n 3, 1) := by decide +kernel
theorem dX7_modulo_11 : decode cX7_modulo 11 = .ok (.iload_n 1, 1) := by decide +kernel
theorem dX7_modulo_12 : decode cX7_modulo 12 = .ok (.iadd, 1) := by decide +kernel
theorem dX7_modulo_13 : decode cX7_modulo 13 = .ok (.goto 4, 3) := by decide +kernel
theorem dX7_modulo_16 : decode cX7_modulo 16 = .ok (.iload_n 3, 1) := by decide +kernel
theorem dX7_modulo_17 : decode cX7_modulo 17 = .ok (.ireturn, 1) := by decide +kernel
theorem dX7_isLeading_0 : decode cX7_isLeading 0 = .ok (.iload_n 1, 1) := by decide +kernel
theorem dX7_isLeading_1 : decode cX7_isLeading 1 = .ok (.iconst (-1), 1) := by decide +kernel
theorem dX7_isLeading_2 : decode cX7_isLeading 2 = .ok (.if_icmp .eq 28, 3) := by decide +kernel
theorem dX7_isLeading_5 : decode cX7_isLeading 5 = .ok (.aload_n 0, 1) := by decide +kernel
theorem dX7_isLeading_6 : decode cX7_isLeading 6 = .ok (.getfield 16, 3) := by decide +kernel
theorem dX7_isLeading_9 : decode cX7_isLeading 9 = .ok (.iload_n 1, 1) := by decide +kernel
theorem dX7_isLeading_10 : decode cX7_isLeading 10 = .ok (.iaload, 1) := by decide +kernel
theorem dX7_isLeading_11 : decode cX7_isLeading 11 = .ok (.bipush 7, 2) := by decide +kernel
theorem dX7_isLeading_13 : decode cX7_isLeading 13 = .ok (.irem, 1) := by decide +kernel
theorem dX7_isLeading_14 : decode cX7_isLeading 14 = .ok (.iconst 4, 1) := by decide +kernel
theorem dX7_isLeading_15 : decode cX7_isLeading 15 = .ok (.aload_n 0, 1) := by decide +kernel
theorem dX7_isLeading_16 : decode cX7_isLeading 16 = .ok (.getfield 63, 3) := by decide +kernel
theorem dX7_isLeading_19 : decode cX7_isLeading 19 = .ok (.imul, 1) := by decide +kernel
theorem dX7_isLeading_20 : decode cX7_isLeading 20 = .ok (.bipush 7, 2) := by decide +kernel
theorem dX7_isLeading_22 : decode cX7_isLeading 22 = .ok (.bipush 6, 2) := by decide +kernel
theorem dX7_isLeading_24 : decode cX7_isLeading 24 = .ok (.invokestatic 114, 3) := by decide +kernel
theorem dX7_isLeading_27 : decode cX7_isLeading 27 = .ok (.if_icmp .eq 5, 3) := by decide +kernel
theorem dX7_isLeading_30 : decode cX7_isLeading 30 = .ok (.iconst 0, 1) := by decide +kernel
theorem dX7_isLeading_31 : decode cX7_isLeading 31 = .ok (.ireturn, 1) := by decide +kernel
theorem dX7_isLeading_32 : decode cX7_isLeading 32 = .ok (.iconst 2, 1) := by decide +kernel
theorem dX7_isLeading_33 : decode cX7_isLeading 33 = .ok (.aload_n 0, 1) := by decide +kernel
theorem dX7_isLeading_34 : decode cX7_isLeading 34 = .ok (.getfield 16, 3) := by decide +kernel
theorem dX7_isLeading_37 : decode cX7_isLeading 37 = .ok (.iload_n 1, 1) := by decide +kernel
theorem dX7_isLeading_38 : decode cX7_isLeading 38 = .ok (.iaload, 1) := by decide +kernel
theorem dX7_isLeading_39 : decode cX7_isLeading 39 = .ok (.bipush 7, 2) := by decide +kernel
theorem dX7_isLeading_41 : decode cX7_isLeading 41 = .ok (.irem, 1) := by decide +kernel
theorem dX7_isLeading_42 : decode cX7_isLeading 42 = .ok (.imul, 1) := by decide +kernel
theorem dX7_isLeading_43 : decode cX7_isLeading 43 = .ok (.bipush 7, 2) := by decide +kernel
theorem dX7_isLeading_45 : decode cX7_isLeading 45 = .ok (.iconst 1, 1) := by decide +kernel
theorem dX7_isLeading_46 : decode cX7_isLeading 46 = .ok (.invokestatic 114, 3) := by decide +kernel
theorem dX7_isLeading_49 : decode cX7_isLeading 49 = .ok (.istore_n 2, 1) := by decide +kernel
theorem dX7_isLeading_50 : decode cX7_isLeading 50 = .ok (.aload_n 0, 1) := by decide +kernel
theorem dX7_isLeading_51 : decode cX7_isLeading 51 = .ok (.getfield 63, 3) := by decide +kernel
theorem dX7_isLeading_54 : decode cX7_isLeading 54 = .ok (.ifCond .le 15, 3) := by decide +kernel
theorem dX7_isLeading_57 : decode cX7_isLeading 57 = .ok (.iload_n 2, 1) := by decide +kernel
theorem dX7_isLeading_58 : decode cX7_isLeading 58 = .ok (.aload_n 0, 1) := by decide +kernel
theorem dX7_isLeading_59 : decode cX7_isLeading 59 = .ok (.getfield 63, 3) := by decide +kernel
theorem dX7_isLeading_62 : decode cX7_isLeading 62 = .ok (.if_icmp .ge 7, 3) := by decide +kernel
theorem dX7_isLeading_65 : decode cX7_isLeading 65 = .ok (.iconst 1, 1) := by decide +kernel
theorem dX7_isLeading_66 : decode cX7_isLeading 66 = .ok (.goto 27, 3) := by decide +kernel
theorem dX7_isLeading_69 : decode cX7_isLeading 69 = .ok (.aload_n 0, 1) := by decide +kernel
theorem dX7_isLeading_70 : decode cX7_isLeading 70 = .ok (.getfield 63, 3) := by decide +kernel
theorem dX7_isLeading_73 : decode cX7_isLeading 73 = .ok (.ifCond .ge 19, 3) := by decide +kernel
theorem dX7_isLeading_76 : decode cX7_isLeading 76 = .ok (.bipush 6, 2) := by decide +kernel
theorem dX7_isLeading_78 : decode cX7_isLeading 78 = .ok (.iload_n 2, 1) := by decide +kernel
theorem dX7_isLeading_79 : decode cX7_isLeading 79 = .ok (.isub, 1) := by decide +kernel
theorem dX7_isLeading_80 : decode cX7_isLeading 80 = .ok (.aload_n 0, 1) := by decide +kernel
theorem dX7_isLeading_81 : decode cX7_isLeading 81 = .ok (.getfield 63, 3) := by decide +kernel
theorem dX7_isLeading_84 : decode cX7_isLeading 84 = .ok (.ineg, 1) := by decide +kernel
theorem dX7_isLeading_85 : decode cX7_isLeading 85 = .ok (.if_icmp .ge 7, 3) := by decide +kernel
theorem dX7_isLeading_88 : decode cX7_isLeading 88 = .ok (.iconst (-1), 1) := by decide +kernel
theorem dX7_isLeading_89 : decode cX7_isLeading 89 = .ok (.goto 4, 3) := by decide +kernel
theorem dX7_isLeading_92 : decode cX7_isLeading 92 = .ok (.iconst 0, 1) := by decide +kernel
theorem dX7_isLeading_93 : decode cX7_isLeading 93 = .ok (.istore_n 3, 1) := by decide +kernel
theorem dX7_isLeading_94 : decode cX7_isLeading 94 = .ok (.aload_n 0, 1) := by decide +kernel
theorem dX7_isLeading_95 : decode cX7_isLeading 95 = .ok (.getfield 19, 3) := by decide +kernel
theorem dX7_isLeading_98 : decode cX7_isLeading 98 = .ok (.iload_n 1, 1) := by decide +kernel
theorem dX7_isLeading_99 : decode cX7_isLeading 99 = .ok (.iaload, 1) := by decide +kernel
theorem dX7_isLeading_100 : decode cX7_isLeading 100 = .ok (.iload_n 3, 1) := by decide +kernel
theorem dX7_isLeading_101 : decode cX7_isLeading 101 = .ok (.if_icmp .ne 7, 3) := by decide +kernel
theorem dX7_isLeading_104 : decode cX7_isLeading 104 = .ok (.iconst 1, 1) := by decide +kernel
theorem dX7_isLeading_105 : decode cX7_isLeading 105 = .ok (.goto 4, 3) := by decide +kernel
theorem dX7_isLeading_108 : decode cX7_isLeading 108 = .ok (.iconst 0, 1) := by decide +kernel
theorem dX7_isLeading_109 : decode cX7_isLeading 109 = .ok (.ireturn, 1) := by decide +kernel
