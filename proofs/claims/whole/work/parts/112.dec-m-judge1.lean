theorem dX7_isBrokenAt_0 : decode cX7_isBrokenAt 0 = .ok (.aload_n 0, 1) := by decide +kernel
theorem dX7_isBrokenAt_1 : decode cX7_isBrokenAt 1 = .ok (.iload_n 2, 1) := by decide +kernel
theorem dX7_isBrokenAt_2 : decode cX7_isBrokenAt 2 = .ok (.iload 4, 2) := by decide +kernel
theorem dX7_isBrokenAt_4 : decode cX7_isBrokenAt 4 = .ok (.invokevirtual 110, 3) := by decide +kernel
theorem dX7_isBrokenAt_7 : decode cX7_isBrokenAt 7 = .ok (.iconst (-1), 1) := by decide +kernel
theorem dX7_isBrokenAt_8 : decode cX7_isBrokenAt 8 = .ok (.if_icmp .eq 19, 3) := by decide +kernel
theorem dX7_isBrokenAt_11 : decode cX7_isBrokenAt 11 = .ok (.iload_n 3, 1) := by decide +kernel
theorem dX7_isBrokenAt_12 : decode cX7_isBrokenAt 12 = .ok (.iconst (-1), 1) := by decide +kernel
theorem dX7_isBrokenAt_13 : decode cX7_isBrokenAt 13 = .ok (.if_icmp .eq 16, 3) := by decide +kernel
theorem dX7_isBrokenAt_16 : decode cX7_isBrokenAt 16 = .ok (.aload_n 0, 1) := by decide +kernel
theorem dX7_isBrokenAt_17 : decode cX7_isBrokenAt 17 = .ok (.iload_n 3, 1) := by decide +kernel
theorem dX7_isBrokenAt_18 : decode cX7_isBrokenAt 18 = .ok (.iload 4, 2) := by decide +kernel
theorem dX7_isBrokenAt_20 : decode cX7_isBrokenAt 20 = .ok (.invokevirtual 110, 3) := by decide +kernel
theorem dX7_isBrokenAt_23 : decode cX7_isBrokenAt 23 = .ok (.iconst (-1), 1) := by decide +kernel
theorem dX7_isBrokenAt_24 : decode cX7_isBrokenAt 24 = .ok (.if_icmp .ne 5, 3) := by decide +kernel
theorem dX7_isBrokenAt_27 : decode cX7_isBrokenAt 27 = .ok (.iconst 0, 1) := by decide +kernel
theorem dX7_isBrokenAt_28 : decode cX7_isBrokenAt 28 = .ok (.ireturn, 1) := by decide +kernel
theorem dX7_isBrokenAt_29 : decode cX7_isBrokenAt 29 = .ok (.iload_n 1, 1) := by decide +kernel
theorem dX7_isBrokenAt_30 : decode cX7_isBrokenAt 30 = .ok (.tableswitch 232 3 9 #[42, 232, 59, 87, 232, 232, 198], 42) := by decide +kernel
theorem dX7_isBrokenAt_72 : decode cX7_isBrokenAt 72 = .ok (.aload_n 0, 1) := by decide +kernel
theorem dX7_isBrokenAt_73 : decode cX7_isBrokenAt 73 = .ok (.iload_n 2, 1) := by decide +kernel
theorem dX7_isBrokenAt_74 : decode cX7_isBrokenAt 74 = .ok (.iload_n 3, 1) := by decide +kernel
theorem dX7_isBrokenAt_75 : decode cX7_isBrokenAt 75 = .ok (.iload 4, 2) := by decide +kernel
theorem dX7_isBrokenAt_77 : decode cX7_isBrokenAt 77 = .ok (.invokevirtual 118, 3) := by decide +kernel
theorem dX7_isBrokenAt_80 : decode cX7_isBrokenAt 80 = .ok (.ifCond .ge 7, 3) := by decide +kernel
theorem dX7_isBrokenAt_83 : decode cX7_isBrokenAt 83 = .ok (.iconst 1, 1) := by decide +kernel
theorem dX7_isBrokenAt_84 : decode cX7_isBrokenAt 84 = .ok (.goto 4, 3) := by decide +kernel
theorem dX7_isBrokenAt_87 : decode cX7_isBrokenAt 87 = .ok (.iconst 0, 1) := by decide +kernel
theorem dX7_isBrokenAt_88 : decode cX7_isBrokenAt 88 = .ok (.ireturn, 1) := by decide +kernel
theorem dX7_isBrokenAt_89 : decode cX7_isBrokenAt 89 = .ok (.aload_n 0, 1) := by decide +kernel
theorem dX7_isBrokenAt_90 : decode cX7_isBrokenAt 90 = .ok (.iload_n 2, 1) := by decide +kernel
theorem dX7_isBrokenAt_91 : decode cX7_isBrokenAt 91 = .ok (.iload_n 3, 1) := by decide +kernel
theorem dX7_isBrokenAt_92 : decode cX7_isBrokenAt 92 = .ok (.iload 4, 2) := by decide +kernel
theorem dX7_isBrokenAt_94 : decode cX7_isBrokenAt 94 = .ok (.invokevirtual 118, 3) := by decide +kernel
theorem dX7_isBrokenAt_97 : decode cX7_isBrokenAt 97 = .ok (.iload_n 2, 1) := by decide +kernel
theorem dX7_isBrokenAt_98 : decode cX7_isBrokenAt 98 = .ok (.ifCond .ne 8, 3) := by decide +kernel
theorem dX7_isBrokenAt_101 : decode cX7_isBrokenAt 101 = .ok (.bipush 19, 2) := by decide +kernel
theorem dX7_isBrokenAt_103 : decode cX7_isBrokenAt 103 = .ok (.goto 5, 3) := by decide +kernel
theorem dX7_isBrokenAt_106 : decode cX7_isBrokenAt 106 = .ok (.bipush 12, 2) := by decide +kernel
theorem dX7_isBrokenAt_108 : decode cX7_isBrokenAt 108 = .ok (.if_icmp .le 7, 3) := by decide +kernel
theorem dX7_isBrokenAt_111 : decode cX7_isBrokenAt 111 = .ok (.iconst 1, 1) := by decide +kernel
theorem dX7_isBrokenAt_112 : decode cX7_isBrokenAt 112 = .ok (.goto 4, 3) := by decide +kernel
theorem dX7_isBrokenAt_115 : decode cX7_isBrokenAt 115 = .ok (.iconst 0, 1) := by decide +kernel
theorem dX7_isBrokenAt_116 : decode cX7_isBrokenAt 116 = .ok (.ireturn, 1) := by decide +kernel
theorem dX7_isBrokenAt_117 : decode cX7_isBrokenAt 117 = .ok (.aload_n 0, 1) := by decide +kernel
theorem dX7_isBrokenAt_118 : decode cX7_isBrokenAt 118 = .ok (.iload_n 2, 1) := by decide +kernel
theorem dX7_isBrokenAt_119 : decode cX7_isBrokenAt 119 = .ok (.iload 4, 2) := by decide +kernel
theorem dX7_isBrokenAt_121 : decode cX7_isBrokenAt 121 = .ok (.invokevirtual 110, 3) := by decide +kernel
theorem dX7_isBrokenAt_124 : decode cX7_isBrokenAt 124 = .ok (.istore 5, 2) := by decide +kernel
theorem dX7_isBrokenAt_126 : decode cX7_isBrokenAt 126 = .ok (.iload 4, 2) := by decide +kernel
theorem dX7_isBrokenAt_128 : decode cX7_isBrokenAt 128 = .ok (.ifCond .ne 7, 3) := by decide +kernel
theorem dX7_isBrokenAt_131 : decode cX7_isBrokenAt 131 = .ok (.iconst (-1), 1) := by decide +kernel
theorem dX7_isBrokenAt_132 : decode cX7_isBrokenAt 132 = .ok (.goto 12, 3) := by decide +kernel
theorem dX7_isBrokenAt_135 : decode cX7_isBrokenAt 135 = .ok (.aload_n 0, 1) := by decide +kernel
theorem dX7_isBrokenAt_136 : decode cX7_isBrokenAt 136 = .ok (.iload_n 2, 1) := by decide +kernel
theorem dX7_isBrokenAt_137 : decode cX7_isBrokenAt 137 = .ok (.iload 4, 2) := by decide +kernel
theorem dX7_isBrokenAt_139 : decode cX7_isBrokenAt 139 = .ok (.iconst 1, 1) := by decide +kernel
theorem dX7_isBrokenAt_140 : decode cX7_isBrokenAt 140 = .ok (.isub, 1) := by decide +kernel
theorem dX7_isBrokenAt_141 : decode cX7_isBrokenAt 141 = .ok (.invokevirtual 110, 3) := by decide +kernel
theorem dX7_isBrokenAt_144 : decode cX7_isBrokenAt 144 = .ok (.istore 6, 2) := by decide +kernel
theorem dX7_isBrokenAt_146 : decode cX7_isBrokenAt 146 = .ok (.iload 6, 2) := by decide +kernel
theorem dX7_isBrokenAt_148 : decode cX7_isBrokenAt 148 = .ok (.iconst (-1), 1) := by decide +kernel
theorem dX7_isBrokenAt_149 : decode cX7_isBrokenAt 149 = .ok (.if_icmp .eq 37, 3) := by decide +kernel
theorem dX7_isBrokenAt_152 : decode cX7_isBrokenAt 152 = .ok (.aload_n 0, 1) := by decide +kernel
theorem dX7_isBrokenAt_153 : decode cX7_isBrokenAt 153 = .ok (.getfield 16, 3) := by decide +kernel
theorem dX7_isBrokenAt_156 : decode cX7_isBrokenAt 156 = .ok (.iload 6, 2) := by decide +kernel
theorem dX7_isBrokenAt_158 : decode cX7_isBrokenAt 158 = .ok (.iaload, 1) := by decide +kernel
theorem dX7_isBrokenAt_159 : decode cX7_isBrokenAt 159 = .ok (.aload_n 0, 1) := by decide +kernel
theorem dX7_isBrokenAt_160 : decode cX7_isBrokenAt 160 = .ok (.getfield 16, 3) := by decide +kernel
theorem dX7_isBrokenAt_163 : decode cX7_isBrokenAt 163 = .ok (.iload 5, 2) := by decide +kernel
theorem dX7_isBrokenAt_165 : decode cX7_isBrokenAt 165 = .ok (.iaload, 1) := by decide +kernel
theorem dX7_isBrokenAt_166 : decode cX7_isBrokenAt 166 = .ok (.if_icmp .ne 20, 3) := by decide +kernel
theorem dX7_isBrokenAt_169 : decode cX7_isBrokenAt 169 = .ok (.aload_n 0, 1) := by decide +kernel
theorem dX7_isBrokenAt_170 : decode cX7_isBrokenAt 170 = .ok (.getfield 19, 3) := by decide +kernel
theorem dX7_isBrokenAt_173 : decode cX7_isBrokenAt 173 = .ok (.iload 6, 2) := by decide +kernel
theorem dX7_isBrokenAt_175 : decode cX7_isBrokenAt 175 = .ok (.iaload, 1) := by decide +kernel
theorem dX7_isBrokenAt_176 : decode cX7_isBrokenAt 176 = .ok (.aload_n 0, 1) := by decide +kernel
theorem dX7_isBrokenAt_177 : decode cX7_isBrokenAt 177 = .ok (.getfield 19, 3) := by decide +kernel
theorem dX7_isBrokenAt_180 : decode cX7_isBrokenAt 180 = .ok (.iload 5, 2) := by decide +kernel
theorem dX7_isBrokenAt_182 : decode cX7_isBrokenAt 182 = .ok (.iaload, 1) := by decide +kernel
theorem dX7_isBrokenAt_183 : decode cX7_isBrokenAt 183 = .ok (.if_icmp .eq 7, 3) := by decide +kernel
theorem dX7_isBrokenAt_186 : decode cX7_isBrokenAt 186 = .ok (.iconst 1, 1) := by decide +kernel
theorem dX7_isBrokenAt_187 : decode cX7_isBrokenAt 187 = .ok (.goto 4, 3) := by decide +kernel
theorem dX7_isBrokenAt_190 : decode cX7_isBrokenAt 190 = .ok (.iconst 0, 1) := by decide +kernel
theorem dX7_isBrokenAt_191 : decode cX7_isBrokenAt 191 = .ok (.istore 7, 2) := by decide +kernel
theorem dX7_isBrokenAt_193 : decode cX7_isBrokenAt 193 = .ok (.iload 7, 2) := by decide +kernel
theorem dX7_isBrokenAt_195 : decode cX7_isBrokenAt 195 = .ok (.ifCond .eq 31, 3) := by decide +kernel
theorem dX7_isBrokenAt_198 : decode cX7_isBrokenAt 198 = .ok (.aload_n 0, 1) := by decide +kernel
theorem dX7_isBrokenAt_199 : decode cX7_isBrokenAt 199 = .ok (.iload 5, 2) := by decide +kernel
theorem dX7_isBrokenAt_201 : decode cX7_isBrokenAt 201 = .ok (.invokevirtual 97, 3) := by decide +kernel
theorem dX7_isBrokenAt_204 : decode cX7_isBrokenAt 204 = .ok (.aload_n 0, 1) := by decide +kernel
theorem dX7_isBrokenAt_205 : decode cX7_isBrokenAt 205 = .ok (.getfield 22, 3) := by decide +kernel
theorem dX7_isBrokenAt_208 : decode cX7_isBrokenAt 208 = .ok (.iload_n 2, 1) := by decide +kernel
theorem dX7_isBrokenAt_209 : decode cX7_isBrokenAt 209 = .ok (.iaload, 1) := by decide +kernel
theorem dX7_isBrokenAt_210 : decode cX7_isBrokenAt 210 = .ok (.aload_n 0, 1) := by decide +kernel
theorem dX7_isBrokenAt_211 : decode cX7_isBrokenAt 211 = .ok (.getfield 25, 3) := by decide +kernel
theorem dX7_isBrokenAt_214 : decode cX7_isBrokenAt 214 = .ok (.iload_n 2, 1) := by decide +kernel
theorem dX7_isBrokenAt_215 : decode cX7_isBrokenAt 215 = .ok (.iaload, 1) := by decide +kernel
theorem dX7_isBrokenAt_216 : decode cX7_isBrokenAt 216 = .ok (.invokestatic 81, 3) := by decide +kernel
theorem dX7_isBrokenAt_219 : decode cX7_isBrokenAt 219 = .ok (.ifCond .ne 7, 3) := by decide +kernel
theorem dX7_isBrokenAt_222 : decode cX7_isBrokenAt 222 = .ok (.iconst 1, 1) := by decide +kernel
theorem dX7_isBrokenAt_223 : decode cX7_isBrokenAt 223 = .ok (.goto 4, 3) := by decide +kernel
theorem dX7_isBrokenAt_226 : decode cX7_isBrokenAt 226 = .ok (.iconst 0, 1) := by decide +kernel
theorem dX7_isBrokenAt_227 : decode cX7_isBrokenAt 227 = .ok (.ireturn, 1) := by decide +kernel
theorem dX7_isBrokenAt_228 : decode cX7_isBrokenAt 228 = .ok (.aload_n 0, 1) := by decide +kernel
theorem dX7_isBrokenAt_229 : decode cX7_isBrokenAt 229 = .ok (.aload_n 0, 1) := by decide +kernel
theorem dX7_isBrokenAt_230 : decode cX7_isBrokenAt 230 = .ok (.iload_n 2, 1) := by decide +kernel
theorem dX7_isBrokenAt_231 : decode cX7_isBrokenAt 231 = .ok (.iload 4, 2) := by decide +kernel
theorem dX7_isBrokenAt_233 : decode cX7_isBrokenAt 233 = .ok (.invokevirtual 110, 3) := by decide +kernel
theorem dX7_isBrokenAt_236 : decode cX7_isBrokenAt 236 = .ok (.invokevirtual 143, 3) := by decide +kernel
theorem dX7_isBrokenAt_239 : decode cX7_isBrokenAt 239 = .ok (.ifCond .eq 21, 3) := by decide +kernel
theorem dX7_isBrokenAt_242 : decode cX7_isBrokenAt 242 = .ok (.aload_n 0, 1) := by decide +kernel
theorem dX7_isBrokenAt_243 : decode cX7_isBrokenAt 243 = .ok (.aload_n 0, 1) := by decide +kernel
theorem dX7_isBrokenAt_244 : decode cX7_isBrokenAt 244 = .ok (.iload_n 3, 1) := by decide +kernel
theorem dX7_isBrokenAt_245 : decode cX7_isBrokenAt 245 = .ok (.iload 4, 2) := by decide +kernel
theorem dX7_isBrokenAt_247 : decode cX7_isBrokenAt 247 = .ok (.invokevirtual 110, 3) := by decide +kernel
theorem dX7_isBrokenAt_250 : decode cX7_isBrokenAt 250 = .ok (.invokevirtual 143, 3) := by decide +kernel
theorem dX7_isBrokenAt_253 : decode cX7_isBrokenAt 253 = .ok (.ifCond .eq 7, 3) := by decide +kernel
theorem dX7_isBrokenAt_256 : decode cX7_isBrokenAt 256 = .ok (.iconst 1, 1) := by decide +kernel
theorem dX7_isBrokenAt_257 : decode cX7_isBrokenAt 257 = .ok (.goto 4, 3) := by decide +kernel
theorem dX7_isBrokenAt_260 : decode cX7_isBrokenAt 260 = .ok (.iconst 0, 1) := by decide +kernel
theorem dX7_isBrokenAt_261 : decode cX7_isBrokenAt 261 = .ok (.ireturn, 1) := by decide +kernel
theorem dX7_isBrokenAt_262 : decode cX7_isBrokenAt 262 = .ok (.aload_n 0, 1) := by decide +kernel
theorem dX7_isBrokenAt_263 : decode cX7_isBrokenAt 263 = .ok (.iload_n 2, 1) := by decide +kernel
theorem dX7_isBrokenAt_264 : decode cX7_isBrokenAt 264 = .ok (.iload_n 3, 1) := by decide +kernel
theorem dX7_isBrokenAt_265 : decode cX7_isBrokenAt 265 = .ok (.iload 4, 2) := by decide +kernel
theorem dX7_isBrokenAt_267 : decode cX7_isBrokenAt 267 = .ok (.invokevirtual 118, 3) := by decide +kernel
theorem dX7_isBrokenAt_270 : decode cX7_isBrokenAt 270 = .ok (.ifCond .ne 7, 3) := by decide +kernel
theorem dX7_isBrokenAt_273 : decode cX7_isBrokenAt 273 = .ok (.iconst 1, 1) := by decide +kernel
theorem dX7_isBrokenAt_274 : decode cX7_isBrokenAt 274 = .ok (.goto 4, 3) := by decide +kernel
theorem dX7_isBrokenAt_277 : decode cX7_isBrokenAt 277 = .ok (.iconst 0, 1) := by decide +kernel
theorem dX7_isBrokenAt_278 : decode cX7_isBrokenAt 278 = .ok (.ireturn, 1) := by decide +kernel
theorem dX7_goes_0 : decode cX7_goes 0 = .ok (.aload_n 0, 1) := by decide +kernel
theorem dX7_goes_1 : decode cX7_goes 1 = .ok (.iload_n 1, 1) := by decide +kernel
theorem dX7_goes_2 : decode cX7_goes 2 = .ok (.iload_n 2, 1) := by decide +kernel
theorem dX7_goes_3 : decode cX7_goes 3 = .ok (.invokevirtual 110, 3) := by decide +kernel
theorem dX7_goes_6 : decode cX7_goes 6 = .ok (.iconst (-1), 1) := by decide +kernel
theorem dX7_goes_7 : decode cX7_goes 7 = .ok (.if_icmp .eq 17, 3) := by decide +kernel
theorem dX7_goes_10 : decode cX7_goes 10 = .ok (.aload_n 0, 1) := by decide +kernel
theorem dX7_goes_11 : decode cX7_goes 11 = .ok (.iload_n 1, 1) := by decide +kernel
theorem dX7_goes_12 : decode cX7_goes 12 = .ok (.iload_n 3, 1) := by decide +kernel
theorem dX7_goes_13 : decode cX7_goes 13 = .ok (.invokevirtual 110, 3) := by decide +kernel
theorem dX7_goes_16 : decode cX7_goes 16 = .ok (.iconst (-1), 1) := by decide +kernel
theorem dX7_goes_17 : decode cX7_goes 17 = .ok (.if_icmp .eq 7, 3) := by decide +kernel
theorem dX7_goes_20 : decode cX7_goes 20 = .ok (.iconst 1, 1) := by decide +kernel
theorem dX7_goes_21 : decode cX7_goes 21 = .ok (.goto 4, 3) := by decide +kernel
theorem dX7_goes_24 : decode cX7_goes 24 = .ok (.iconst 0, 1) := by decide +kernel
theorem dX7_goes_25 : decode cX7_goes 25 = .ok (.ireturn, 1) := by decide +kernel
theorem dX7_moves_0 : decode cX7_moves 0 = .ok (.aload_n 0, 1) := by decide +kernel
theorem dX7_moves_1 : decode cX7_moves 1 = .ok (.iload_n 1, 1) := by decide +kernel
theorem dX7_moves_2 : decode cX7_moves 2 = .ok (.iload_n 2, 1) := by decide +kernel
theorem dX7_moves_3 : decode cX7_moves 3 = .ok (.iload_n 3, 1) := by decide +kernel
theorem dX7_moves_4 : decode cX7_moves 4 = .ok (.invokevirtual 121, 3) := by decide +kernel
theorem dX7_moves_7 : decode cX7_moves 7 = .ok (.ifCond .eq 57, 3) := by decide +kernel
theorem dX7_moves_10 : decode cX7_moves 10 = .ok (.aload_n 0, 1) := by decide +kernel
theorem dX7_moves_11 : decode cX7_moves 11 = .ok (.getfield 16, 3) := by decide +kernel
theorem dX7_moves_14 : decode cX7_moves 14 = .ok (.aload_n 0, 1) := by decide +kernel
theorem dX7_moves_15 : decode cX7_moves 15 = .ok (.iload_n 1, 1) := by decide +kernel
theorem dX7_moves_16 : decode cX7_moves 16 = .ok (.iload_n 2, 1) := by decide +kernel
theorem dX7_moves_17 : decode cX7_moves 17 = .ok (.invokevirtual 110, 3) := by decide +kernel
theorem dX7_moves_20 : decode cX7_moves 20 = .ok (.iaload, 1) := by decide +kernel
theorem dX7_moves_21 : decode cX7_moves 21 = .ok (.aload_n 0, 1) := by decide +kernel
theorem dX7_moves_22 : decode cX7_moves 22 = .ok (.getfield 16, 3) := by decide +kernel
theorem dX7_moves_25 : decode cX7_moves 25 = .ok (.aload_n 0, 1) := by decide +kernel
theorem dX7_moves_26 : decode cX7_moves 26 = .ok (.iload_n 1, 1) := by decide +kernel
theorem dX7_moves_27 : decode cX7_moves 27 = .ok (.iload_n 3, 1) := by decide +kernel
theorem dX7_moves_28 : decode cX7_moves 28 = .ok (.invokevirtual 110, 3) := by decide +kernel
theorem dX7_moves_31 : decode cX7_moves 31 = .ok (.iaload, 1) := by decide +kernel
theorem dX7_moves_32 : decode cX7_moves 32 = .ok (.if_icmp .ne 28, 3) := by decide +kernel
theorem dX7_moves_35 : decode cX7_moves 35 = .ok (.aload_n 0, 1) := by decide +kernel
theorem dX7_moves_36 : decode cX7_moves 36 = .ok (.getfield 19, 3) := by decide +kernel
theorem dX7_moves_39 : decode cX7_moves 39 = .ok (.aload_n 0, 1) := by decide +kernel
theorem dX7_moves_40 : decode cX7_moves 40 = .ok (.iload_n 1, 1) := by decide +kernel
theorem dX7_moves_41 : decode cX7_moves 41 = .ok (.iload_n 2, 1) := by decide +kernel
theorem dX7_moves_42 : decode cX7_moves 42 = .ok (.invokevirtual 110, 3) := by decide +kernel
theorem dX7_moves_45 : decode cX7_moves 45 = .ok (.iaload, 1) := by decide +kernel
theorem dX7_moves_46 : decode cX7_moves 46 = .ok (.aload_n 0, 1) := by decide +kernel
theorem dX7_moves_47 : decode cX7_moves 47 = .ok (.getfield 19, 3) := by decide +kernel
theorem dX7_moves_50 : decode cX7_moves 50 = .ok (.aload_n 0, 1) := by decide +kernel
theorem dX7_moves_51 : decode cX7_moves 51 = .ok (.iload_n 1, 1) := by decide +kernel
theorem dX7_moves_52 : decode cX7_moves 52 = .ok (.iload_n 3, 1) := by decide +kernel
theorem dX7_moves_53 : decode cX7_moves 53 = .ok (.invokevirtual 110, 3) := by decide +kernel
theorem dX7_moves_56 : decode cX7_moves 56 = .ok (.iaload, 1) := by decide +kernel
theorem dX7_moves_57 : decode cX7_moves 57 = .ok (.if_icmp .eq 7, 3) := by decide +kernel
theorem dX7_moves_60 : decode cX7_moves 60 = .ok (.iconst 1, 1) := by decide +kernel
theorem dX7_moves_61 : decode cX7_moves 61 = .ok (.goto 4, 3) := by decide +kernel
theorem dX7_moves_64 : decode cX7_moves 64 = .ok (.iconst 0, 1) := by decide +kernel
theorem dX7_moves_65 : decode cX7_moves 65 = .ok (.ireturn, 1) := by decide +kernel
theorem dX7_way_0 : decode cX7_way 0 = .ok (.aload_n 0, 1) := by decide +kernel
theorem dX7_way_1 : decode cX7_way 1 = .ok (.iload_n 1, 1) := by decide +kernel
theorem dX7_way_2 : decode cX7_way 2 = .ok (.iload_n 2, 1) := by decide +kernel
theorem dX7_way_3 : decode cX7_way 3 = .ok (.iload_n 3, 1) := by decide +kernel
theorem dX7_way_4 : decode cX7_way 4 = .ok (.invokevirtual 124, 3) := by decide +kernel
theorem dX7_way_7 : decode cX7_way 7 = .ok (.ifCond .ne 5, 3) := by decide +kernel
theorem dX7_way_10 : decode cX7_way 10 = .ok (.iconst 0, 1) := by decide +kernel
theorem dX7_way_11 : decode cX7_way 11 = .ok (.ireturn, 1) := by decide +kernel
theorem dX7_way_12 : decode cX7_way 12 = .ok (.aload_n 0, 1) := by decide +kernel
theorem dX7_way_13 : decode cX7_way 13 = .ok (.aload_n 0, 1) := by decide +kernel
theorem dX7_way_14 : decode cX7_way 14 = .ok (.iload_n 1, 1) := by decide +kernel
theorem dX7_way_15 : decode cX7_way 15 = .ok (.iload_n 3, 1) := by decide +kernel
theorem dX7_way_16 : decode cX7_way 16 = .ok (.invokevirtual 110, 3) := by decide +kernel
theorem dX7_way_19 : decode cX7_way 19 = .ok (.invokevirtual 97, 3) := by decide +kernel
theorem dX7_way_22 : decode cX7_way 22 = .ok (.aload_n 0, 1) := by decide +kernel
theorem dX7_way_23 : decode cX7_way 23 = .ok (.aload_n 0, 1) := by decide +kernel
theorem dX7_way_24 : decode cX7_way 24 = .ok (.iload_n 1, 1) := by decide +kernel
theorem dX7_way_25 : decode cX7_way 25 = .ok (.iload_n 2, 1) := by decide +kernel
theorem dX7_way_26 : decode cX7_way 26 = .ok (.invokevirtual 110, 3) := by decide +kernel
theorem dX7_way_29 : decode cX7_way 29 = .ok (.invokevirtual 97, 3) := by decide +kernel
theorem dX7_way_32 : decode cX7_way 32 = .ok (.isub, 1) := by decide +kernel
theorem dX7_way_33 : decode cX7_way 33 = .ok (.istore 4, 2) := by decide +kernel
theorem dX7_way_35 : decode cX7_way 35 = .ok (.iload 4, 2) := by decide +kernel
theorem dX7_way_37 : decode cX7_way 37 = .ok (.ifCond .le 7, 3) := by decide +kernel
theorem dX7_way_40 : decode cX7_way 40 = .ok (.iconst 1, 1) := by decide +kernel
theorem dX7_way_41 : decode cX7_way 41 = .ok (.goto 13, 3) := by decide +kernel
theorem dX7_way_44 : decode cX7_way 44 = .ok (.iload 4, 2) := by decide +kernel
theorem dX7_way_46 : decode cX7_way 46 = .ok (.ifCond .ge 7, 3) := by decide +kernel
theorem dX7_way_49 : decode cX7_way 49 = .ok (.iconst (-1), 1) := by decide +kernel
theorem dX7_way_50 : decode cX7_way 50 = .ok (.goto 4, 3) := by decide +kernel
theorem dX7_way_53 : decode cX7_way 53 = .ok (.iconst 0, 1) := by decide +kernel
theorem dX7_way_54 : decode cX7_way 54 = .ok (.ireturn, 1) := by decide +kernel
theorem dX7_goAlike_0 : decode cX7_goAlike 0 = .ok (.aload_n 0, 1) := by decide +kernel
theorem dX7_goAlike_1 : decode cX7_goAlike 1 = .ok (.iload_n 1, 1) := by decide +kernel
theorem dX7_goAlike_2 : decode cX7_goAlike 2 = .ok (.iload_n 3, 1) := by decide +kernel
theorem dX7_goAlike_3 : decode cX7_goAlike 3 = .ok (.iload 4, 2) := by decide +kernel
theorem dX7_goAlike_5 : decode cX7_goAlike 5 = .ok (.invokevirtual 127, 3) := by decide +kernel
theorem dX7_goAlike_8 : decode cX7_goAlike 8 = .ok (.aload_n 0, 1) := by decide +kernel
theorem dX7_goAlike_9 : decode cX7_goAlike 9 = .ok (.iload_n 2, 1) := by decide +kernel
theorem dX7_goAlike_10 : decode cX7_goAlike 10 = .ok (.iload_n 3, 1) := by decide +kernel
theorem dX7_goAlike_11 : decode cX7_goAlike 11 = .ok (.iload 4, 2) := by decide +kernel
theorem dX7_goAlike_13 : decode cX7_goAlike 13 = .ok (.invokevirtual 127, 3) := by decide +kernel
theorem dX7_goAlike_16 : decode cX7_goAlike 16 = .ok (.imul, 1) := by decide +kernel
theorem dX7_goAlike_17 : decode cX7_goAlike 17 = .ok (.iconst 1, 1) := by decide +kernel
theorem dX7_goAlike_18 : decode cX7_goAlike 18 = .ok (.if_icmp .ne 7, 3) := by decide +kernel
theorem dX7_goAlike_21 : decode cX7_goAlike 21 = .ok (.iconst 1, 1) := by decide +kernel
theorem dX7_goAlike_22 : decode cX7_goAlike 22 = .ok (.goto 4, 3) := by decide +kernel
theorem dX7_goAlike_25 : decode cX7_goAlike 25 = .ok (.iconst 0, 1) := by decide +kernel
theorem dX7_goAlike_26 : decode cX7_goAlike 26 = .ok (.ireturn, 1) := by decide +kernel
theorem dX7_which_0 : decode cX7_which 0 = .ok (.aload_n 0, 1) := by decide +kernel
theorem dX7_which_1 : decode cX7_which 1 = .ok (.iload_n 1, 1) := by decide +kernel
theorem dX7_which_2 : decode cX7_which 2 = .ok (.iload_n 3, 1) := by decide +kernel
theorem dX7_which_3 : decode cX7_which 3 = .ok (.invokevirtual 110, 3) := by decide +kernel
theorem dX7_which_6 : decode cX7_which 6 = .ok (.iconst (-1), 1) := by decide +kernel
theorem dX7_which_7 : decode cX7_which 7 = .ok (.if_icmp .eq 13, 3) := by decide +kernel
theorem dX7_which_10 : decode cX7_which 10 = .ok (.aload_n 0, 1) := by decide +kernel
theorem dX7_which_11 : decode cX7_which 11 = .ok (.iload_n 2, 1) := by decide +kernel
theorem dX7_which_12 : decode cX7_which 12 = .ok (.iload_n 3, 1) := by decide +kernel
theorem dX7_which_13 : decode cX7_which 13 = .ok (.invokevirtual 110, 3) := by decide +kernel
theorem dX7_which_16 : decode cX7_which 16 = .ok (.iconst (-1), 1) := by decide +kernel
theorem dX7_which_17 : decode cX7_which 17 = .ok (.if_icmp .ne 6, 3) := by decide +kernel
theorem dX7_which_20 : decode cX7_which 20 = .ok (.bipush (-100), 2) := by decide +kernel
theorem dX7_which_22 : decode cX7_which 22 = .ok (.ireturn, 1) := by decide +kernel
theorem dX7_which_23 : decode cX7_which 23 = .ok (.aload_n 0, 1) := by decide +kernel
theorem dX7_which_24 : decode cX7_which 24 = .ok (.getfield 16, 3) := by decide +kernel
theorem dX7_which_27 : decode cX7_which 27 = .ok (.aload_n 0, 1) := by decide +kernel
theorem dX7_which_28 : decode cX7_which 28 = .ok (.iload_n 2, 1) := by decide +kernel
theorem dX7_which_29 : decode cX7_which 29 = .ok (.iload_n 3, 1) := by decide +kernel
theorem dX7_which_30 : decode cX7_which 30 = .ok (.invokevirtual 110, 3) := by decide +kernel
theorem dX7_which_33 : decode cX7_which 33 = .ok (.iaload, 1) := by decide +kernel
theorem dX7_which_34 : decode cX7_which 34 = .ok (.aload_n 0, 1) := by decide +kernel
theorem dX7_which_35 : decode cX7_which 35 = .ok (.getfield 16, 3) := by decide +kernel
theorem dX7_which_38 : decode cX7_which 38 = .ok (.aload_n 0, 1) := by decide +kernel
theorem dX7_which_39 : decode cX7_which 39 = .ok (.iload_n 1, 1) := by decide +kernel
theorem dX7_which_40 : decode cX7_which 40 = .ok (.iload_n 3, 1) := by decide +kernel
theorem dX7_which_41 : decode cX7_which 41 = .ok (.invokevirtual 110, 3) := by decide +kernel
theorem dX7_which_44 : decode cX7_which 44 = .ok (.iaload, 1) := by decide +kernel
theorem dX7_which_45 : decode cX7_which 45 = .ok (.isub, 1) := by decide +kernel
theorem dX7_which_46 : decode cX7_which 46 = .ok (.bipush 7, 2) := by decide +kernel
theorem dX7_which_48 : decode cX7_which 48 = .ok (.iconst 0, 1) := by decide +kernel
theorem dX7_which_49 : decode cX7_which 49 = .ok (.invokestatic 114, 3) := by decide +kernel
theorem dX7_which_52 : decode cX7_which 52 = .ok (.istore 4, 2) := by decide +kernel
theorem dX7_which_54 : decode cX7_which 54 = .ok (.aload_n 0, 1) := by decide +kernel
theorem dX7_which_55 : decode cX7_which 55 = .ok (.iload_n 1, 1) := by decide +kernel
theorem dX7_which_56 : decode cX7_which 56 = .ok (.iload_n 2, 1) := by decide +kernel
theorem dX7_which_57 : decode cX7_which 57 = .ok (.iload_n 3, 1) := by decide +kernel
theorem dX7_which_58 : decode cX7_which 58 = .ok (.invokevirtual 118, 3) := by decide +kernel
theorem dX7_which_61 : decode cX7_which 61 = .ok (.bipush 12, 2) := by decide +kernel
theorem dX7_which_63 : decode cX7_which 63 = .ok (.iconst 0, 1) := by decide +kernel
theorem dX7_which_64 : decode cX7_which 64 = .ok (.invokestatic 114, 3) := by decide +kernel
theorem dX7_which_67 : decode cX7_which 67 = .ok (.istore 5, 2) := by decide +kernel
theorem dX7_which_69 : decode cX7_which 69 = .ok (.iload 4, 2) := by decide +kernel
theorem dX7_which_71 : decode cX7_which 71 = .ok (.ifCond .ne 10, 3) := by decide +kernel
theorem dX7_which_74 : decode cX7_which 74 = .ok (.iload 5, 2) := by decide +kernel
theorem dX7_which_76 : decode cX7_which 76 = .ok (.ifCond .ne 5, 3) := by decide +kernel
theorem dX7_which_79 : decode cX7_which 79 = .ok (.iconst 1, 1) := by decide +kernel
theorem dX7_which_80 : decode cX7_which 80 = .ok (.ireturn, 1) := by decide +kernel
theorem dX7_which_81 : decode cX7_which 81 = .ok (.iload 4, 2) := by decide +kernel
theorem dX7_which_83 : decode cX7_which 83 = .ok (.iconst 4, 1) := by decide +kernel
theorem dX7_which_84 : decode cX7_which 84 = .ok (.if_icmp .ne 12, 3) := by decide +kernel
theorem dX7_which_87 : decode cX7_which 87 = .ok (.iload 5, 2) := by decide +kernel
theorem dX7_which_89 : decode cX7_which 89 = .ok (.bipush 7, 2) := by decide +kernel
theorem dX7_which_91 : decode cX7_which 91 = .ok (.if_icmp .ne 5, 3) := by decide +kernel
theorem dX7_which_94 : decode cX7_which 94 = .ok (.iconst 2, 1) := by decide +kernel
theorem dX7_which_95 : decode cX7_which 95 = .ok (.ireturn, 1) := by decide +kernel
theorem dX7_which_96 : decode cX7_which 96 = .ok (.iload 5, 2) := by decide +kernel
theorem dX7_which_98 : decode cX7_which 98 = .ok (.iconst 1, 1) := by decide +kernel
theorem dX7_which_99 : decode cX7_which 99 = .ok (.if_icmp .eq 23, 3) := by decide +kernel
theorem dX7_which_102 : decode cX7_which 102 = .ok (.iload 5, 2) := by decide +kernel
theorem dX7_which_104 : decode cX7_which 104 = .ok (.iconst 2, 1) := by decide +kernel
theorem dX7_which_105 : decode cX7_which 105 = .ok (.if_icmp .eq 17, 3) := by decide +kernel
theorem dX7_which_108 : decode cX7_which 108 = .ok (.iload 5, 2) := by decide +kernel
theorem dX7_which_110 : decode cX7_which 110 = .ok (.bipush 6, 2) := by decide +kernel
theorem dX7_which_112 : decode cX7_which 112 = .ok (.if_icmp .eq 10, 3) := by decide +kernel
theorem dX7_which_115 : decode cX7_which 115 = .ok (.iload 5, 2) := by decide +kernel
theorem dX7_which_117 : decode cX7_which 117 = .ok (.bipush 9, 2) := by decide +kernel
theorem dX7_which_119 : decode cX7_which 119 = .ok (.if_icmp .le 7, 3) := by decide +kernel
theorem dX7_which_122 : decode cX7_which 122 = .ok (.iconst 3, 1) := by decide +kernel
theorem dX7_which_123 : decode cX7_which 123 = .ok (.goto 4, 3) := by decide +kernel
theorem dX7_which_126 : decode cX7_which 126 = .ok (.iconst 0, 1) := by decide +kernel
theorem dX7_which_127 : decode cX7_which 127 = .ok (.ireturn, 1) := by decide +kernel
theorem dX7_isPure_0 : decode cX7_isPure 0 = .ok (.iload_n 1, 1) := by decide +kernel
theorem dX7_isPure_1 : decode cX7_isPure 1 = .ok (.iconst 1, 1) := by decide +kernel
theorem dX7_isPure_2 : decode cX7_isPure 2 = .ok (.if_icmp .eq 8, 3) := by decide +kernel
theorem dX7_isPure_5 : decode cX7_isPure 5 = .ok (.iload_n 1, 1) := by decide +kernel
theorem dX7_isPure_6 : decode cX7_isPure 6 = .ok (.iconst 2, 1) := by decide +kernel
theorem dX7_isPure_7 : decode cX7_isPure 7 = .ok (.if_icmp .ne 7, 3) := by decide +kernel
theorem dX7_isPure_10 : decode cX7_isPure 10 = .ok (.iconst 1, 1) := by decide +kernel
theorem dX7_isPure_11 : decode cX7_isPure 11 = .ok (.goto 4, 3) := by decide +kernel
theorem dX7_isPure_14 : decode cX7_isPure 14 = .ok (.iconst 0, 1) := by decide +kernel
theorem dX7_isPure_15 : decode cX7_isPure 15 = .ok (.ireturn, 1) := by decide +kernel
theorem dX7_leaps_0 : decode cX7_leaps 0 = .ok (.aload_n 0, 1) := by decide +kernel
theorem dX7_leaps_1 : decode cX7_leaps 1 = .ok (.iload_n 1, 1) := by decide +kernel
theorem dX7_leaps_2 : decode cX7_leaps 2 = .ok (.iload_n 2, 1) := by decide +kernel
theorem dX7_leaps_3 : decode cX7_leaps 3 = .ok (.iload_n 3, 1) := by decide +kernel
theorem dX7_leaps_4 : decode cX7_leaps 4 = .ok (.invokevirtual 124, 3) := by decide +kernel
theorem dX7_leaps_7 : decode cX7_leaps 7 = .ok (.ifCond .ne 5, 3) := by decide +kernel
theorem dX7_leaps_10 : decode cX7_leaps 10 = .ok (.iconst 0, 1) := by decide +kernel
theorem dX7_leaps_11 : decode cX7_leaps 11 = .ok (.ireturn, 1) := by decide +kernel
theorem dX7_leaps_12 : decode cX7_leaps 12 = .ok (.aload_n 0, 1) := by decide +kernel
theorem dX7_leaps_13 : decode cX7_leaps 13 = .ok (.iload_n 1, 1) := by decide +kernel
theorem dX7_leaps_14 : decode cX7_leaps 14 = .ok (.iload_n 2, 1) := by decide +kernel
theorem dX7_leaps_15 : decode cX7_leaps 15 = .ok (.invokevirtual 110, 3) := by decide +kernel
theorem dX7_leaps_18 : decode cX7_leaps 18 = .ok (.istore 4, 2) := by decide +kernel
theorem dX7_leaps_20 : decode cX7_leaps 20 = .ok (.aload_n 0, 1) := by decide +kernel
theorem dX7_leaps_21 : decode cX7_leaps 21 = .ok (.iload_n 1, 1) := by decide +kernel
theorem dX7_leaps_22 : decode cX7_leaps 22 = .ok (.iload_n 3, 1) := by decide +kernel
theorem dX7_leaps_23 : decode cX7_leaps 23 = .ok (.invokevirtual 110, 3) := by decide +kernel
theorem dX7_leaps_26 : decode cX7_leaps 26 = .ok (.istore 5, 2) := by decide +kernel
theorem dX7_leaps_28 : decode cX7_leaps 28 = .ok (.aload_n 0, 1) := by decide +kernel
theorem dX7_leaps_29 : decode cX7_leaps 29 = .ok (.getfield 16, 3) := by decide +kernel
theorem dX7_leaps_32 : decode cX7_leaps 32 = .ok (.iload 4, 2) := by decide +kernel
theorem dX7_leaps_34 : decode cX7_leaps 34 = .ok (.iaload, 1) := by decide +kernel
theorem dX7_leaps_35 : decode cX7_leaps 35 = .ok (.aload_n 0, 1) := by decide +kernel
theorem dX7_leaps_36 : decode cX7_leaps 36 = .ok (.getfield 16, 3) := by decide +kernel
theorem dX7_leaps_39 : decode cX7_leaps 39 = .ok (.iload 5, 2) := by decide +kernel
theorem dX7_leaps_41 : decode cX7_leaps 41 = .ok (.iaload, 1) := by decide +kernel
theorem dX7_leaps_42 : decode cX7_leaps 42 = .ok (.if_icmp .le 15, 3) := by decide +kernel
theorem dX7_leaps_45 : decode cX7_leaps 45 = .ok (.iload 4, 2) := by decide +kernel
theorem dX7_leaps_47 : decode cX7_leaps 47 = .ok (.istore 6, 2) := by decide +kernel
theorem dX7_leaps_49 : decode cX7_leaps 49 = .ok (.iload 5, 2) := by decide +kernel
theorem dX7_leaps_51 : decode cX7_leaps 51 = .ok (.istore 4, 2) := by decide +kernel
theorem dX7_leaps_53 : decode cX7_leaps 53 = .ok (.iload 6, 2) := by decide +kernel
theorem dX7_leaps_55 : decode cX7_leaps 55 = .ok (.istore 5, 2) := by decide +kernel
theorem dX7_leaps_57 : decode cX7_leaps 57 = .ok (.aload_n 0, 1) := by decide +kernel
theorem dX7_leaps_58 : decode cX7_leaps 58 = .ok (.getfield 16, 3) := by decide +kernel
theorem dX7_leaps_61 : decode cX7_leaps 61 = .ok (.iload 5, 2) := by decide +kernel
theorem dX7_leaps_63 : decode cX7_leaps 63 = .ok (.iaload, 1) := by decide +kernel
theorem dX7_leaps_64 : decode cX7_leaps 64 = .ok (.aload_n 0, 1) := by decide +kernel
theorem dX7_leaps_65 : decode cX7_leaps 65 = .ok (.getfield 16, 3) := by decide +kernel
theorem dX7_leaps_68 : decode cX7_leaps 68 = .ok (.iload 4, 2) := by decide +kernel
theorem dX7_leaps_70 : decode cX7_leaps 70 = .ok (.iaload, 1) := by decide +kernel
theorem dX7_leaps_71 : decode cX7_leaps 71 = .ok (.isub, 1) := by decide +kernel
theorem dX7_leaps_72 : decode cX7_leaps 72 = .ok (.istore 6, 2) := by decide +kernel
theorem dX7_leaps_74 : decode cX7_leaps 74 = .ok (.aload_n 0, 1) := by decide +kernel
theorem dX7_leaps_75 : decode cX7_leaps 75 = .ok (.iload 5, 2) := by decide +kernel
theorem dX7_leaps_77 : decode cX7_leaps 77 = .ok (.invokevirtual 97, 3) := by decide +kernel
theorem dX7_leaps_80 : decode cX7_leaps 80 = .ok (.aload_n 0, 1) := by decide +kernel
theorem dX7_leaps_81 : decode cX7_leaps 81 = .ok (.iload 4, 2) := by decide +kernel
theorem dX7_leaps_83 : decode cX7_leaps 83 = .ok (.invokevirtual 97, 3) := by decide +kernel
theorem dX7_leaps_86 : decode cX7_leaps 86 = .ok (.isub, 1) := by decide +kernel
theorem dX7_leaps_87 : decode cX7_leaps 87 = .ok (.istore 7, 2) := by decide +kernel
theorem dX7_leaps_89 : decode cX7_leaps 89 = .ok (.iload 7, 2) := by decide +kernel
theorem dX7_leaps_91 : decode cX7_leaps 91 = .ok (.bipush 12, 2) := by decide +kernel
theorem dX7_leaps_93 : decode cX7_leaps 93 = .ok (.if_icmp .gt 24, 3) := by decide +kernel
theorem dX7_leaps_96 : decode cX7_leaps 96 = .ok (.iload 7, 2) := by decide +kernel
theorem dX7_leaps_98 : decode cX7_leaps 98 = .ok (.bipush 6, 2) := by decide +kernel
theorem dX7_leaps_100 : decode cX7_leaps 100 = .ok (.if_icmp .eq 17, 3) := by decide +kernel
theorem dX7_leaps_103 : decode cX7_leaps 103 = .ok (.iload 7, 2) := by decide +kernel
theorem dX7_leaps_105 : decode cX7_leaps 105 = .ok (.bipush 10, 2) := by decide +kernel
theorem dX7_leaps_107 : decode cX7_leaps 107 = .ok (.if_icmp .eq 10, 3) := by decide +kernel
theorem dX7_leaps_110 : decode cX7_leaps 110 = .ok (.iload 7, 2) := by decide +kernel
theorem dX7_leaps_112 : decode cX7_leaps 112 = .ok (.bipush 11, 2) := by decide +kernel
theorem dX7_leaps_114 : decode cX7_leaps 114 = .ok (.if_icmp .ne 5, 3) := by decide +kernel
theorem dX7_leaps_117 : decode cX7_leaps 117 = .ok (.iconst 1, 1) := by decide +kernel
theorem dX7_leaps_118 : decode cX7_leaps 118 = .ok (.ireturn, 1) := by decide +kernel
theorem dX7_leaps_119 : decode cX7_leaps 119 = .ok (.iload 7, 2) := by decide +kernel
theorem dX7_leaps_121 : decode cX7_leaps 121 = .ok (.bipush 12, 2) := by decide +kernel
theorem dX7_leaps_123 : decode cX7_leaps 123 = .ok (.iload 6, 2) := by decide +kernel
theorem dX7_leaps_125 : decode cX7_leaps 125 = .ok (.bipush 7, 2) := by decide +kernel
theorem dX7_leaps_127 : decode cX7_leaps 127 = .ok (.idiv, 1) := by decide +kernel
theorem dX7_leaps_128 : decode cX7_leaps 128 = .ok (.imul, 1) := by decide +kernel
theorem dX7_leaps_129 : decode cX7_leaps 129 = .ok (.isub, 1) := by decide +kernel
theorem dX7_leaps_130 : decode cX7_leaps 130 = .ok (.istore 8, 2) := by decide +kernel
theorem dX7_leaps_132 : decode cX7_leaps 132 = .ok (.iload 6, 2) := by decide +kernel
theorem dX7_leaps_134 : decode cX7_leaps 134 = .ok (.bipush 7, 2) := by decide +kernel
theorem dX7_leaps_136 : decode cX7_leaps 136 = .ok (.irem, 1) := by decide +kernel
theorem dX7_leaps_137 : decode cX7_leaps 137 = .ok (.tableswitch 125 0 5 #[39, 50, 66, 82, 94, 107], 39) := by decide +kernel
theorem dX7_leaps_176 : decode cX7_leaps 176 = .ok (.iload 8, 2) := by decide +kernel
theorem dX7_leaps_178 : decode cX7_leaps 178 = .ok (.ifCond .eq 7, 3) := by decide +kernel
theorem dX7_leaps_181 : decode cX7_leaps 181 = .ok (.iconst 1, 1) := by decide +kernel
theorem dX7_leaps_182 : decode cX7_leaps 182 = .ok (.goto 4, 3) := by decide +kernel
theorem dX7_leaps_185 : decode cX7_leaps 185 = .ok (.iconst 0, 1) := by decide +kernel
theorem dX7_leaps_186 : decode cX7_leaps 186 = .ok (.ireturn, 1) := by decide +kernel
theorem dX7_leaps_187 : decode cX7_leaps 187 = .ok (.iload 8, 2) := by decide +kernel
theorem dX7_leaps_189 : decode cX7_leaps 189 = .ok (.iconst 1, 1) := by decide +kernel
theorem dX7_leaps_190 : decode cX7_leaps 190 = .ok (.iconst 2, 1) := by decide +kernel
theorem dX7_leaps_191 : decode cX7_leaps 191 = .ok (.invokestatic 81, 3) := by decide +kernel
theorem dX7_leaps_194 : decode cX7_leaps 194 = .ok (.ifCond .ne 7, 3) := by decide +kernel
theorem dX7_leaps_197 : decode cX7_leaps 197 = .ok (.iconst 1, 1) := by decide +kernel
theorem dX7_leaps_198 : decode cX7_leaps 198 = .ok (.goto 4, 3) := by decide +kernel
theorem dX7_leaps_201 : decode cX7_leaps 201 = .ok (.iconst 0, 1) := by decide +kernel
theorem dX7_leaps_202 : decode cX7_leaps 202 = .ok (.ireturn, 1) := by decide +kernel
theorem dX7_leaps_203 : decode cX7_leaps 203 = .ok (.iload 8, 2) := by decide +kernel
theorem dX7_leaps_205 : decode cX7_leaps 205 = .ok (.iconst 3, 1) := by decide +kernel
theorem dX7_leaps_206 : decode cX7_leaps 206 = .ok (.iconst 4, 1) := by decide +kernel
theorem dX7_leaps_207 : decode cX7_leaps 207 = .ok (.invokestatic 81, 3) := by decide +kernel
theorem dX7_leaps_210 : decode cX7_leaps 210 = .ok (.ifCond .ne 7, 3) := by decide +kernel
theorem dX7_leaps_213 : decode cX7_leaps 213 = .ok (.iconst 1, 1) := by decide +kernel
theorem dX7_leaps_214 : decode cX7_leaps 214 = .ok (.goto 4, 3) := by decide +kernel
theorem dX7_leaps_217 : decode cX7_leaps 217 = .ok (.iconst 0, 1) := by decide +kernel
theorem dX7_leaps_218 : decode cX7_leaps 218 = .ok (.ireturn, 1) := by decide +kernel
theorem dX7_leaps_219 : decode cX7_leaps 219 = .ok (.iload 8, 2) := by decide +kernel
theorem dX7_leaps_221 : decode cX7_leaps 221 = .ok (.iconst 5, 1) := by decide +kernel
theorem dX7_leaps_222 : decode cX7_leaps 222 = .ok (.if_icmp .eq 7, 3) := by decide +kernel
theorem dX7_leaps_225 : decode cX7_leaps 225 = .ok (.iconst 1, 1) := by decide +kernel
theorem dX7_leaps_226 : decode cX7_leaps 226 = .ok (.goto 4, 3) := by decide +kernel
theorem dX7_leaps_229 : decode cX7_leaps 229 = .ok (.iconst 0, 1) := by decide +kernel
theorem dX7_leaps_230 : decode cX7_leaps 230 = .ok (.ireturn, 1) := by decide +kernel
theorem dX7_leaps_231 : decode cX7_leaps 231 = .ok (.iload 8, 2) := by decide +kernel
theorem dX7_leaps_233 : decode cX7_leaps 233 = .ok (.bipush 7, 2) := by decide +kernel
theorem dX7_leaps_235 : decode cX7_leaps 235 = .ok (.if_icmp .eq 7, 3) := by decide +kernel
theorem dX7_leaps_238 : decode cX7_leaps 238 = .ok (.iconst 1, 1) := by decide +kernel
theorem dX7_leaps_239 : decode cX7_leaps 239 = .ok (.goto 4, 3) := by decide +kernel
theorem dX7_leaps_242 : decode cX7_leaps 242 = .ok (.iconst 0, 1) := by decide +kernel
theorem dX7_leaps_243 : decode cX7_leaps 243 = .ok (.ireturn, 1) := by decide +kernel
theorem dX7_leaps_244 : decode cX7_leaps 244 = .ok (.iload 8, 2) := by decide +kernel
theorem dX7_leaps_246 : decode cX7_leaps 246 = .ok (.bipush 8, 2) := by decide +kernel
theorem dX7_leaps_248 : decode cX7_leaps 248 = .ok (.bipush 9, 2) := by decide +kernel
theorem dX7_leaps_250 : decode cX7_leaps 250 = .ok (.invokestatic 81, 3) := by decide +kernel
theorem dX7_leaps_253 : decode cX7_leaps 253 = .ok (.ifCond .ne 7, 3) := by decide +kernel
theorem dX7_leaps_256 : decode cX7_leaps 256 = .ok (.iconst 1, 1) := by decide +kernel
theorem dX7_leaps_257 : decode cX7_leaps 257 = .ok (.goto 4, 3) := by decide +kernel
theorem dX7_leaps_260 : decode cX7_leaps 260 = .ok (.iconst 0, 1) := by decide +kernel
theorem dX7_leaps_261 : decode cX7_leaps 261 = .ok (.ireturn, 1) := by decide +kernel
theorem dX7_leaps_262 : decode cX7_leaps 262 = .ok (.iload 8, 2) := by decide +kernel
theorem dX7_leaps_264 : decode cX7_leaps 264 = .ok (.bipush 10, 2) := by decide +kernel
theorem dX7_leaps_266 : decode cX7_leaps 266 = .ok (.bipush 11, 2) := by decide +kernel
theorem dX7_leaps_268 : decode cX7_leaps 268 = .ok (.invokestatic 81, 3) := by decide +kernel
theorem dX7_leaps_271 : decode cX7_leaps 271 = .ok (.ifCond .ne 7, 3) := by decide +kernel
theorem dX7_leaps_274 : decode cX7_leaps 274 = .ok (.iconst 1, 1) := by decide +kernel
theorem dX7_leaps_275 : decode cX7_leaps 275 = .ok (.goto 4, 3) := by decide +kernel
theorem dX7_leaps_278 : decode cX7_leaps 278 = .ok (.iconst 0, 1) := by decide +kernel
theorem dX7_leaps_279 : decode cX7_leaps 279 = .ok (.ireturn, 1) := by decide +kernel
theorem dX7_crosses_0 : decode cX7_crosses 0 = .ok (.aload_n 0, 1) := by decide +kernel
theorem dX7_crosses_1 : decode cX7_crosses 1 = .ok (.iload_n 1, 1) := by decide +kernel
theorem dX7_crosses_2 : decode cX7_crosses 2 = .ok (.iload_n 3, 1) := by decide +kernel
theorem dX7_crosses_3 : decode cX7_crosses 3 = .ok (.invokevirtual 110, 3) := by decide +kernel
theorem dX7_crosses_6 : decode cX7_crosses 6 = .ok (.istore 5, 2) := by decide +kernel
theorem dX7_crosses_8 : decode cX7_crosses 8 = .ok (.aload_n 0, 1) := by decide +kernel
theorem dX7_crosses_9 : decode cX7_crosses 9 = .ok (.iload_n 2, 1) := by decide +kernel
theorem dX7_crosses_10 : decode cX7_crosses 10 = .ok (.iload 4, 2) := by decide +kernel
theorem dX7_crosses_12 : decode cX7_crosses 12 = .ok (.invokevirtual 110, 3) := by decide +kernel
theorem dX7_crosses_15 : decode cX7_crosses 15 = .ok (.istore 6, 2) := by decide +kernel
theorem dX7_crosses_17 : decode cX7_crosses 17 = .ok (.iload 5, 2) := by decide +kernel
theorem dX7_crosses_19 : decode cX7_crosses 19 = .ok (.iconst (-1), 1) := by decide +kernel
theorem dX7_crosses_20 : decode cX7_crosses 20 = .ok (.if_icmp .eq 49, 3) := by decide +kernel
theorem dX7_crosses_23 : decode cX7_crosses 23 = .ok (.iload 6, 2) := by decide +kernel
theorem dX7_crosses_25 : decode cX7_crosses 25 = .ok (.iconst (-1), 1) := by decide +kernel
theorem dX7_crosses_26 : decode cX7_crosses 26 = .ok (.if_icmp .eq 43, 3) := by decide +kernel
theorem dX7_crosses_29 : decode cX7_crosses 29 = .ok (.aload_n 0, 1) := by decide +kernel
theorem dX7_crosses_30 : decode cX7_crosses 30 = .ok (.getfield 16, 3) := by decide +kernel
theorem dX7_crosses_33 : decode cX7_crosses 33 = .ok (.iload 5, 2) := by decide +kernel
theorem dX7_crosses_35 : decode cX7_crosses 35 = .ok (.iaload, 1) := by decide +kernel
theorem dX7_crosses_36 : decode cX7_crosses 36 = .ok (.bipush 7, 2) := by decide +kernel
theorem dX7_crosses_38 : decode cX7_crosses 38 = .ok (.irem, 1) := by decide +kernel
theorem dX7_crosses_39 : decode cX7_crosses 39 = .ok (.aload_n 0, 1) := by decide +kernel
theorem dX7_crosses_40 : decode cX7_crosses 40 = .ok (.getfield 16, 3) := by decide +kernel
theorem dX7_crosses_43 : decode cX7_crosses 43 = .ok (.iload 6, 2) := by decide +kernel
theorem dX7_crosses_45 : decode cX7_crosses 45 = .ok (.iaload, 1) := by decide +kernel
theorem dX7_crosses_46 : decode cX7_crosses 46 = .ok (.bipush 7, 2) := by decide +kernel
theorem dX7_crosses_48 : decode cX7_crosses 48 = .ok (.irem, 1) := by decide +kernel
theorem dX7_crosses_49 : decode cX7_crosses 49 = .ok (.if_icmp .ne 20, 3) := by decide +kernel
theorem dX7_crosses_52 : decode cX7_crosses 52 = .ok (.aload_n 0, 1) := by decide +kernel
theorem dX7_crosses_53 : decode cX7_crosses 53 = .ok (.getfield 19, 3) := by decide +kernel
theorem dX7_crosses_56 : decode cX7_crosses 56 = .ok (.iload 5, 2) := by decide +kernel
theorem dX7_crosses_58 : decode cX7_crosses 58 = .ok (.iaload, 1) := by decide +kernel
theorem dX7_crosses_59 : decode cX7_crosses 59 = .ok (.aload_n 0, 1) := by decide +kernel
theorem dX7_crosses_60 : decode cX7_crosses 60 = .ok (.getfield 19, 3) := by decide +kernel
theorem dX7_crosses_63 : decode cX7_crosses 63 = .ok (.iload 6, 2) := by decide +kernel
theorem dX7_crosses_65 : decode cX7_crosses 65 = .ok (.iaload, 1) := by decide +kernel
theorem dX7_crosses_66 : decode cX7_crosses 66 = .ok (.if_icmp .ne 5, 3) := by decide +kernel
theorem dX7_crosses_69 : decode cX7_crosses 69 = .ok (.iconst 0, 1) := by decide +kernel
theorem dX7_crosses_70 : decode cX7_crosses 70 = .ok (.ireturn, 1) := by decide +kernel
theorem dX7_crosses_71 : decode cX7_crosses 71 = .ok (.aload_n 0, 1) := by decide +kernel
theorem dX7_crosses_72 : decode cX7_crosses 72 = .ok (.iload_n 1, 1) := by decide +kernel
theorem dX7_crosses_73 : decode cX7_crosses 73 = .ok (.iload 4, 2) := by decide +kernel
theorem dX7_crosses_75 : decode cX7_crosses 75 = .ok (.invokevirtual 110, 3) := by decide +kernel
theorem dX7_crosses_78 : decode cX7_crosses 78 = .ok (.istore 7, 2) := by decide +kernel
theorem dX7_crosses_80 : decode cX7_crosses 80 = .ok (.iload 7, 2) := by decide +kernel
theorem dX7_crosses_82 : decode cX7_crosses 82 = .ok (.iconst (-1), 1) := by decide +kernel
theorem dX7_crosses_83 : decode cX7_crosses 83 = .ok (.if_icmp .eq 43, 3) := by decide +kernel
theorem dX7_crosses_86 : decode cX7_crosses 86 = .ok (.aload_n 0, 1) := by decide +kernel
theorem dX7_crosses_87 : decode cX7_crosses 87 = .ok (.getfield 16, 3) := by decide +kernel
theorem dX7_crosses_90 : decode cX7_crosses 90 = .ok (.iload 7, 2) := by decide +kernel
theorem dX7_crosses_92 : decode cX7_crosses 92 = .ok (.iaload, 1) := by decide +kernel
theorem dX7_crosses_93 : decode cX7_crosses 93 = .ok (.bipush 7, 2) := by decide +kernel
theorem dX7_crosses_95 : decode cX7_crosses 95 = .ok (.irem, 1) := by decide +kernel
theorem dX7_crosses_96 : decode cX7_crosses 96 = .ok (.aload_n 0, 1) := by decide +kernel
theorem dX7_crosses_97 : decode cX7_crosses 97 = .ok (.getfield 16, 3) := by decide +kernel
theorem dX7_crosses_100 : decode cX7_crosses 100 = .ok (.iload 6, 2) := by decide +kernel
theorem dX7_crosses_102 : decode cX7_crosses 102 = .ok (.iaload, 1) := by decide +kernel
theorem dX7_crosses_103 : decode cX7_crosses 103 = .ok (.bipush 7, 2) := by decide +kernel
theorem dX7_crosses_105 : decode cX7_crosses 105 = .ok (.irem, 1) := by decide +kernel
theorem dX7_crosses_106 : decode cX7_crosses 106 = .ok (.if_icmp .ne 20, 3) := by decide +kernel
theorem dX7_crosses_109 : decode cX7_crosses 109 = .ok (.aload_n 0, 1) := by decide +kernel
theorem dX7_crosses_110 : decode cX7_crosses 110 = .ok (.getfield 19, 3) := by decide +kernel
theorem dX7_crosses_113 : decode cX7_crosses 113 = .ok (.iload 7, 2) := by decide +kernel
theorem dX7_crosses_115 : decode cX7_crosses 115 = .ok (.iaload, 1) := by decide +kernel
theorem dX7_crosses_116 : decode cX7_crosses 116 = .ok (.aload_n 0, 1) := by decide +kernel
theorem dX7_crosses_117 : decode cX7_crosses 117 = .ok (.getfield 19, 3) := by decide +kernel
theorem dX7_crosses_120 : decode cX7_crosses 120 = .ok (.iload 6, 2) := by decide +kernel
theorem dX7_crosses_122 : decode cX7_crosses 122 = .ok (.iaload, 1) := by decide +kernel
theorem dX7_crosses_123 : decode cX7_crosses 123 = .ok (.if_icmp .eq 7, 3) := by decide +kernel
theorem dX7_crosses_126 : decode cX7_crosses 126 = .ok (.iconst 1, 1) := by decide +kernel
theorem dX7_crosses_127 : decode cX7_crosses 127 = .ok (.goto 4, 3) := by decide +kernel
theorem dX7_crosses_130 : decode cX7_crosses 130 = .ok (.iconst 0, 1) := by decide +kernel
theorem dX7_crosses_131 : decode cX7_crosses 131 = .ok (.ireturn, 1) := by decide +kernel
