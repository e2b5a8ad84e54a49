theorem dX7_isPairBroken_0 : decode cX7_isPairBroken 0 = .ok (.iload_n 1, 1) := by decide +kernel
theorem dX7_isPairBroken_1 : decode cX7_isPairBroken 1 = .ok (.tableswitch 602 0 12 #[67, 120, 183, 602, 276, 602, 602, 356, 366, 602, 454, 548, 559], 67) := by decide +kernel
theorem dX7_isPairBroken_68 : decode cX7_isPairBroken 68 = .ok (.aload_n 0, 1) := by decide +kernel
theorem dX7_isPairBroken_69 : decode cX7_isPairBroken 69 = .ok (.iload_n 2, 1) := by decide +kernel
theorem dX7_isPairBroken_70 : decode cX7_isPairBroken 70 = .ok (.iload_n 3, 1) := by decide +kernel
theorem dX7_isPairBroken_71 : decode cX7_isPairBroken 71 = .ok (.iload 4, 2) := by decide +kernel
theorem dX7_isPairBroken_73 : decode cX7_isPairBroken 73 = .ok (.iload 5, 2) := by decide +kernel
theorem dX7_isPairBroken_75 : decode cX7_isPairBroken 75 = .ok (.invokevirtual 130, 3) := by decide +kernel
theorem dX7_isPairBroken_78 : decode cX7_isPairBroken 78 = .ok (.ifCond .eq 41, 3) := by decide +kernel
theorem dX7_isPairBroken_81 : decode cX7_isPairBroken 81 = .ok (.aload_n 0, 1) := by decide +kernel
theorem dX7_isPairBroken_82 : decode cX7_isPairBroken 82 = .ok (.aload_n 0, 1) := by decide +kernel
theorem dX7_isPairBroken_83 : decode cX7_isPairBroken 83 = .ok (.iload_n 2, 1) := by decide +kernel
theorem dX7_isPairBroken_84 : decode cX7_isPairBroken 84 = .ok (.iload_n 3, 1) := by decide +kernel
theorem dX7_isPairBroken_85 : decode cX7_isPairBroken 85 = .ok (.iload 4, 2) := by decide +kernel
theorem dX7_isPairBroken_87 : decode cX7_isPairBroken 87 = .ok (.invokevirtual 134, 3) := by decide +kernel
theorem dX7_isPairBroken_90 : decode cX7_isPairBroken 90 = .ok (.invokevirtual 137, 3) := by decide +kernel
theorem dX7_isPairBroken_93 : decode cX7_isPairBroken 93 = .ok (.ifCond .eq 26, 3) := by decide +kernel
theorem dX7_isPairBroken_96 : decode cX7_isPairBroken 96 = .ok (.aload_n 0, 1) := by decide +kernel
theorem dX7_isPairBroken_97 : decode cX7_isPairBroken 97 = .ok (.iload_n 2, 1) := by decide +kernel
theorem dX7_isPairBroken_98 : decode cX7_isPairBroken 98 = .ok (.iload_n 3, 1) := by decide +kernel
theorem dX7_isPairBroken_99 : decode cX7_isPairBroken 99 = .ok (.iload 4, 2) := by decide +kernel
theorem dX7_isPairBroken_101 : decode cX7_isPairBroken 101 = .ok (.invokevirtual 134, 3) := by decide +kernel
theorem dX7_isPairBroken_104 : decode cX7_isPairBroken 104 = .ok (.aload_n 0, 1) := by decide +kernel
theorem dX7_isPairBroken_105 : decode cX7_isPairBroken 105 = .ok (.iload_n 2, 1) := by decide +kernel
theorem dX7_isPairBroken_106 : decode cX7_isPairBroken 106 = .ok (.iload_n 3, 1) := by decide +kernel
theorem dX7_isPairBroken_107 : decode cX7_isPairBroken 107 = .ok (.iload 5, 2) := by decide +kernel
theorem dX7_isPairBroken_109 : decode cX7_isPairBroken 109 = .ok (.invokevirtual 134, 3) := by decide +kernel
theorem dX7_isPairBroken_112 : decode cX7_isPairBroken 112 = .ok (.if_icmp .ne 7, 3) := by decide +kernel
theorem dX7_isPairBroken_115 : decode cX7_isPairBroken 115 = .ok (.iconst 1, 1) := by decide +kernel
theorem dX7_isPairBroken_116 : decode cX7_isPairBroken 116 = .ok (.goto 4, 3) := by decide +kernel
theorem dX7_isPairBroken_119 : decode cX7_isPairBroken 119 = .ok (.iconst 0, 1) := by decide +kernel
theorem dX7_isPairBroken_120 : decode cX7_isPairBroken 120 = .ok (.ireturn, 1) := by decide +kernel
theorem dX7_isPairBroken_121 : decode cX7_isPairBroken 121 = .ok (.aload_n 0, 1) := by decide +kernel
theorem dX7_isPairBroken_122 : decode cX7_isPairBroken 122 = .ok (.iload_n 2, 1) := by decide +kernel
theorem dX7_isPairBroken_123 : decode cX7_isPairBroken 123 = .ok (.iload 4, 2) := by decide +kernel
theorem dX7_isPairBroken_125 : decode cX7_isPairBroken 125 = .ok (.iload 5, 2) := by decide +kernel
theorem dX7_isPairBroken_127 : decode cX7_isPairBroken 127 = .ok (.invokevirtual 127, 3) := by decide +kernel
theorem dX7_isPairBroken_130 : decode cX7_isPairBroken 130 = .ok (.aload_n 0, 1) := by decide +kernel
theorem dX7_isPairBroken_131 : decode cX7_isPairBroken 131 = .ok (.iload_n 3, 1) := by decide +kernel
theorem dX7_isPairBroken_132 : decode cX7_isPairBroken 132 = .ok (.iload 4, 2) := by decide +kernel
theorem dX7_isPairBroken_134 : decode cX7_isPairBroken 134 = .ok (.iload 5, 2) := by decide +kernel
theorem dX7_isPairBroken_136 : decode cX7_isPairBroken 136 = .ok (.invokevirtual 127, 3) := by decide +kernel
theorem dX7_isPairBroken_139 : decode cX7_isPairBroken 139 = .ok (.imul, 1) := by decide +kernel
theorem dX7_isPairBroken_140 : decode cX7_isPairBroken 140 = .ok (.iconst (-1), 1) := by decide +kernel
theorem dX7_isPairBroken_141 : decode cX7_isPairBroken 141 = .ok (.if_icmp .ne 41, 3) := by decide +kernel
theorem dX7_isPairBroken_144 : decode cX7_isPairBroken 144 = .ok (.aload_n 0, 1) := by decide +kernel
theorem dX7_isPairBroken_145 : decode cX7_isPairBroken 145 = .ok (.aload_n 0, 1) := by decide +kernel
theorem dX7_isPairBroken_146 : decode cX7_isPairBroken 146 = .ok (.iload_n 2, 1) := by decide +kernel
theorem dX7_isPairBroken_147 : decode cX7_isPairBroken 147 = .ok (.iload_n 3, 1) := by decide +kernel
theorem dX7_isPairBroken_148 : decode cX7_isPairBroken 148 = .ok (.iload 4, 2) := by decide +kernel
theorem dX7_isPairBroken_150 : decode cX7_isPairBroken 150 = .ok (.invokevirtual 134, 3) := by decide +kernel
theorem dX7_isPairBroken_153 : decode cX7_isPairBroken 153 = .ok (.invokevirtual 137, 3) := by decide +kernel
theorem dX7_isPairBroken_156 : decode cX7_isPairBroken 156 = .ok (.ifCond .eq 26, 3) := by decide +kernel
theorem dX7_isPairBroken_159 : decode cX7_isPairBroken 159 = .ok (.aload_n 0, 1) := by decide +kernel
theorem dX7_isPairBroken_160 : decode cX7_isPairBroken 160 = .ok (.iload_n 2, 1) := by decide +kernel
theorem dX7_isPairBroken_161 : decode cX7_isPairBroken 161 = .ok (.iload_n 3, 1) := by decide +kernel
theorem dX7_isPairBroken_162 : decode cX7_isPairBroken 162 = .ok (.iload 4, 2) := by decide +kernel
theorem dX7_isPairBroken_164 : decode cX7_isPairBroken 164 = .ok (.invokevirtual 134, 3) := by decide +kernel
theorem dX7_isPairBroken_167 : decode cX7_isPairBroken 167 = .ok (.aload_n 0, 1) := by decide +kernel
theorem dX7_isPairBroken_168 : decode cX7_isPairBroken 168 = .ok (.iload_n 2, 1) := by decide +kernel
theorem dX7_isPairBroken_169 : decode cX7_isPairBroken 169 = .ok (.iload_n 3, 1) := by decide +kernel
theorem dX7_isPairBroken_170 : decode cX7_isPairBroken 170 = .ok (.iload 5, 2) := by decide +kernel
theorem dX7_isPairBroken_172 : decode cX7_isPairBroken 172 = .ok (.invokevirtual 134, 3) := by decide +kernel
theorem dX7_isPairBroken_175 : decode cX7_isPairBroken 175 = .ok (.if_icmp .ne 7, 3) := by decide +kernel
theorem dX7_isPairBroken_178 : decode cX7_isPairBroken 178 = .ok (.iconst 1, 1) := by decide +kernel
theorem dX7_isPairBroken_179 : decode cX7_isPairBroken 179 = .ok (.goto 4, 3) := by decide +kernel
theorem dX7_isPairBroken_182 : decode cX7_isPairBroken 182 = .ok (.iconst 0, 1) := by decide +kernel
theorem dX7_isPairBroken_183 : decode cX7_isPairBroken 183 = .ok (.ireturn, 1) := by decide +kernel
theorem dX7_isPairBroken_184 : decode cX7_isPairBroken 184 = .ok (.aload_n 0, 1) := by decide +kernel
theorem dX7_isPairBroken_185 : decode cX7_isPairBroken 185 = .ok (.iload_n 2, 1) := by decide +kernel
theorem dX7_isPairBroken_186 : decode cX7_isPairBroken 186 = .ok (.iload_n 3, 1) := by decide +kernel
theorem dX7_isPairBroken_187 : decode cX7_isPairBroken 187 = .ok (.iload 4, 2) := by decide +kernel
theorem dX7_isPairBroken_189 : decode cX7_isPairBroken 189 = .ok (.iload 5, 2) := by decide +kernel
theorem dX7_isPairBroken_191 : decode cX7_isPairBroken 191 = .ok (.invokevirtual 130, 3) := by decide +kernel
theorem dX7_isPairBroken_194 : decode cX7_isPairBroken 194 = .ok (.ifCond .eq 37, 3) := by decide +kernel
theorem dX7_isPairBroken_197 : decode cX7_isPairBroken 197 = .ok (.aload_n 0, 1) := by decide +kernel
theorem dX7_isPairBroken_198 : decode cX7_isPairBroken 198 = .ok (.aload_n 0, 1) := by decide +kernel
theorem dX7_isPairBroken_199 : decode cX7_isPairBroken 199 = .ok (.iload_n 2, 1) := by decide +kernel
theorem dX7_isPairBroken_200 : decode cX7_isPairBroken 200 = .ok (.iload_n 3, 1) := by decide +kernel
theorem dX7_isPairBroken_201 : decode cX7_isPairBroken 201 = .ok (.iload 5, 2) := by decide +kernel
theorem dX7_isPairBroken_203 : decode cX7_isPairBroken 203 = .ok (.invokevirtual 134, 3) := by decide +kernel
theorem dX7_isPairBroken_206 : decode cX7_isPairBroken 206 = .ok (.invokevirtual 137, 3) := by decide +kernel
theorem dX7_isPairBroken_209 : decode cX7_isPairBroken 209 = .ok (.ifCond .eq 22, 3) := by decide +kernel
theorem dX7_isPairBroken_212 : decode cX7_isPairBroken 212 = .ok (.aload_n 0, 1) := by decide +kernel
theorem dX7_isPairBroken_213 : decode cX7_isPairBroken 213 = .ok (.iload_n 2, 1) := by decide +kernel
theorem dX7_isPairBroken_214 : decode cX7_isPairBroken 214 = .ok (.iload_n 3, 1) := by decide +kernel
theorem dX7_isPairBroken_215 : decode cX7_isPairBroken 215 = .ok (.iload 4, 2) := by decide +kernel
theorem dX7_isPairBroken_217 : decode cX7_isPairBroken 217 = .ok (.invokevirtual 134, 3) := by decide +kernel
theorem dX7_isPairBroken_220 : decode cX7_isPairBroken 220 = .ok (.aload_n 0, 1) := by decide +kernel
theorem dX7_isPairBroken_221 : decode cX7_isPairBroken 221 = .ok (.iload_n 2, 1) := by decide +kernel
theorem dX7_isPairBroken_222 : decode cX7_isPairBroken 222 = .ok (.iload_n 3, 1) := by decide +kernel
theorem dX7_isPairBroken_223 : decode cX7_isPairBroken 223 = .ok (.iload 5, 2) := by decide +kernel
theorem dX7_isPairBroken_225 : decode cX7_isPairBroken 225 = .ok (.invokevirtual 134, 3) := by decide +kernel
theorem dX7_isPairBroken_228 : decode cX7_isPairBroken 228 = .ok (.if_icmp .ne 5, 3) := by decide +kernel
theorem dX7_isPairBroken_231 : decode cX7_isPairBroken 231 = .ok (.iconst 0, 1) := by decide +kernel
theorem dX7_isPairBroken_232 : decode cX7_isPairBroken 232 = .ok (.ireturn, 1) := by decide +kernel
theorem dX7_isPairBroken_233 : decode cX7_isPairBroken 233 = .ok (.aload_n 0, 1) := by decide +kernel
theorem dX7_isPairBroken_234 : decode cX7_isPairBroken 234 = .ok (.aload_n 0, 1) := by decide +kernel
theorem dX7_isPairBroken_235 : decode cX7_isPairBroken 235 = .ok (.iload_n 3, 1) := by decide +kernel
theorem dX7_isPairBroken_236 : decode cX7_isPairBroken 236 = .ok (.iload 5, 2) := by decide +kernel
theorem dX7_isPairBroken_238 : decode cX7_isPairBroken 238 = .ok (.invokevirtual 110, 3) := by decide +kernel
theorem dX7_isPairBroken_241 : decode cX7_isPairBroken 241 = .ok (.invokevirtual 97, 3) := by decide +kernel
theorem dX7_isPairBroken_244 : decode cX7_isPairBroken 244 = .ok (.aload_n 0, 1) := by decide +kernel
theorem dX7_isPairBroken_245 : decode cX7_isPairBroken 245 = .ok (.aload_n 0, 1) := by decide +kernel
theorem dX7_isPairBroken_246 : decode cX7_isPairBroken 246 = .ok (.iload_n 3, 1) := by decide +kernel
theorem dX7_isPairBroken_247 : decode cX7_isPairBroken 247 = .ok (.iload 4, 2) := by decide +kernel
theorem dX7_isPairBroken_249 : decode cX7_isPairBroken 249 = .ok (.invokevirtual 110, 3) := by decide +kernel
theorem dX7_isPairBroken_252 : decode cX7_isPairBroken 252 = .ok (.invokevirtual 97, 3) := by decide +kernel
theorem dX7_isPairBroken_255 : decode cX7_isPairBroken 255 = .ok (.isub, 1) := by decide +kernel
theorem dX7_isPairBroken_256 : decode cX7_isPairBroken 256 = .ok (.istore 6, 2) := by decide +kernel
theorem dX7_isPairBroken_258 : decode cX7_isPairBroken 258 = .ok (.iload 6, 2) := by decide +kernel
theorem dX7_isPairBroken_260 : decode cX7_isPairBroken 260 = .ok (.iconst 2, 1) := by decide +kernel
theorem dX7_isPairBroken_261 : decode cX7_isPairBroken 261 = .ok (.if_icmp .gt 10, 3) := by decide +kernel
theorem dX7_isPairBroken_264 : decode cX7_isPairBroken 264 = .ok (.iload 6, 2) := by decide +kernel
theorem dX7_isPairBroken_266 : decode cX7_isPairBroken 266 = .ok (.bipush (-2), 2) := by decide +kernel
theorem dX7_isPairBroken_268 : decode cX7_isPairBroken 268 = .ok (.if_icmp .ge 7, 3) := by decide +kernel
theorem dX7_isPairBroken_271 : decode cX7_isPairBroken 271 = .ok (.iconst 1, 1) := by decide +kernel
theorem dX7_isPairBroken_272 : decode cX7_isPairBroken 272 = .ok (.goto 4, 3) := by decide +kernel
theorem dX7_isPairBroken_275 : decode cX7_isPairBroken 275 = .ok (.iconst 0, 1) := by decide +kernel
theorem dX7_isPairBroken_276 : decode cX7_isPairBroken 276 = .ok (.ireturn, 1) := by decide +kernel
theorem dX7_isPairBroken_277 : decode cX7_isPairBroken 277 = .ok (.aload_n 0, 1) := by decide +kernel
theorem dX7_isPairBroken_278 : decode cX7_isPairBroken 278 = .ok (.iload_n 2, 1) := by decide +kernel
theorem dX7_isPairBroken_279 : decode cX7_isPairBroken 279 = .ok (.iload 4, 2) := by decide +kernel
theorem dX7_isPairBroken_281 : decode cX7_isPairBroken 281 = .ok (.iload 5, 2) := by decide +kernel
theorem dX7_isPairBroken_283 : decode cX7_isPairBroken 283 = .ok (.invokevirtual 121, 3) := by decide +kernel
theorem dX7_isPairBroken_286 : decode cX7_isPairBroken 286 = .ok (.ifCond .eq 69, 3) := by decide +kernel
theorem dX7_isPairBroken_289 : decode cX7_isPairBroken 289 = .ok (.aload_n 0, 1) := by decide +kernel
theorem dX7_isPairBroken_290 : decode cX7_isPairBroken 290 = .ok (.iload_n 3, 1) := by decide +kernel
theorem dX7_isPairBroken_291 : decode cX7_isPairBroken 291 = .ok (.iload 4, 2) := by decide +kernel
theorem dX7_isPairBroken_293 : decode cX7_isPairBroken 293 = .ok (.iload 5, 2) := by decide +kernel
theorem dX7_isPairBroken_295 : decode cX7_isPairBroken 295 = .ok (.invokevirtual 121, 3) := by decide +kernel
theorem dX7_isPairBroken_298 : decode cX7_isPairBroken 298 = .ok (.ifCond .eq 57, 3) := by decide +kernel
theorem dX7_isPairBroken_301 : decode cX7_isPairBroken 301 = .ok (.aload_n 0, 1) := by decide +kernel
theorem dX7_isPairBroken_302 : decode cX7_isPairBroken 302 = .ok (.aload_n 0, 1) := by decide +kernel
theorem dX7_isPairBroken_303 : decode cX7_isPairBroken 303 = .ok (.iload_n 2, 1) := by decide +kernel
theorem dX7_isPairBroken_304 : decode cX7_isPairBroken 304 = .ok (.iload 5, 2) := by decide +kernel
theorem dX7_isPairBroken_306 : decode cX7_isPairBroken 306 = .ok (.invokevirtual 110, 3) := by decide +kernel
theorem dX7_isPairBroken_309 : decode cX7_isPairBroken 309 = .ok (.invokevirtual 97, 3) := by decide +kernel
theorem dX7_isPairBroken_312 : decode cX7_isPairBroken 312 = .ok (.aload_n 0, 1) := by decide +kernel
theorem dX7_isPairBroken_313 : decode cX7_isPairBroken 313 = .ok (.aload_n 0, 1) := by decide +kernel
theorem dX7_isPairBroken_314 : decode cX7_isPairBroken 314 = .ok (.iload_n 3, 1) := by decide +kernel
theorem dX7_isPairBroken_315 : decode cX7_isPairBroken 315 = .ok (.iload 4, 2) := by decide +kernel
theorem dX7_isPairBroken_317 : decode cX7_isPairBroken 317 = .ok (.invokevirtual 110, 3) := by decide +kernel
theorem dX7_isPairBroken_320 : decode cX7_isPairBroken 320 = .ok (.invokevirtual 97, 3) := by decide +kernel
theorem dX7_isPairBroken_323 : decode cX7_isPairBroken 323 = .ok (.if_icmp .gt 28, 3) := by decide +kernel
theorem dX7_isPairBroken_326 : decode cX7_isPairBroken 326 = .ok (.aload_n 0, 1) := by decide +kernel
theorem dX7_isPairBroken_327 : decode cX7_isPairBroken 327 = .ok (.aload_n 0, 1) := by decide +kernel
theorem dX7_isPairBroken_328 : decode cX7_isPairBroken 328 = .ok (.iload_n 3, 1) := by decide +kernel
theorem dX7_isPairBroken_329 : decode cX7_isPairBroken 329 = .ok (.iload 5, 2) := by decide +kernel
theorem dX7_isPairBroken_331 : decode cX7_isPairBroken 331 = .ok (.invokevirtual 110, 3) := by decide +kernel
theorem dX7_isPairBroken_334 : decode cX7_isPairBroken 334 = .ok (.invokevirtual 97, 3) := by decide +kernel
theorem dX7_isPairBroken_337 : decode cX7_isPairBroken 337 = .ok (.aload_n 0, 1) := by decide +kernel
theorem dX7_isPairBroken_338 : decode cX7_isPairBroken 338 = .ok (.aload_n 0, 1) := by decide +kernel
theorem dX7_isPairBroken_339 : decode cX7_isPairBroken 339 = .ok (.iload_n 2, 1) := by decide +kernel
theorem dX7_isPairBroken_340 : decode cX7_isPairBroken 340 = .ok (.iload 4, 2) := by decide +kernel
theorem dX7_isPairBroken_342 : decode cX7_isPairBroken 342 = .ok (.invokevirtual 110, 3) := by decide +kernel
theorem dX7_isPairBroken_345 : decode cX7_isPairBroken 345 = .ok (.invokevirtual 97, 3) := by decide +kernel
theorem dX7_isPairBroken_348 : decode cX7_isPairBroken 348 = .ok (.if_icmp .ge 7, 3) := by decide +kernel
theorem dX7_isPairBroken_351 : decode cX7_isPairBroken 351 = .ok (.iconst 1, 1) := by decide +kernel
theorem dX7_isPairBroken_352 : decode cX7_isPairBroken 352 = .ok (.goto 4, 3) := by decide +kernel
theorem dX7_isPairBroken_355 : decode cX7_isPairBroken 355 = .ok (.iconst 0, 1) := by decide +kernel
theorem dX7_isPairBroken_356 : decode cX7_isPairBroken 356 = .ok (.ireturn, 1) := by decide +kernel
theorem dX7_isPairBroken_357 : decode cX7_isPairBroken 357 = .ok (.aload_n 0, 1) := by decide +kernel
theorem dX7_isPairBroken_358 : decode cX7_isPairBroken 358 = .ok (.iload_n 2, 1) := by decide +kernel
theorem dX7_isPairBroken_359 : decode cX7_isPairBroken 359 = .ok (.iload 4, 2) := by decide +kernel
theorem dX7_isPairBroken_361 : decode cX7_isPairBroken 361 = .ok (.iload 5, 2) := by decide +kernel
theorem dX7_isPairBroken_363 : decode cX7_isPairBroken 363 = .ok (.invokevirtual 140, 3) := by decide +kernel
theorem dX7_isPairBroken_366 : decode cX7_isPairBroken 366 = .ok (.ireturn, 1) := by decide +kernel
theorem dX7_isPairBroken_367 : decode cX7_isPairBroken 367 = .ok (.aload_n 0, 1) := by decide +kernel
theorem dX7_isPairBroken_368 : decode cX7_isPairBroken 368 = .ok (.iload_n 2, 1) := by decide +kernel
theorem dX7_isPairBroken_369 : decode cX7_isPairBroken 369 = .ok (.iload 4, 2) := by decide +kernel
theorem dX7_isPairBroken_371 : decode cX7_isPairBroken 371 = .ok (.iload 5, 2) := by decide +kernel
theorem dX7_isPairBroken_373 : decode cX7_isPairBroken 373 = .ok (.invokevirtual 124, 3) := by decide +kernel
theorem dX7_isPairBroken_376 : decode cX7_isPairBroken 376 = .ok (.ifCond .eq 77, 3) := by decide +kernel
theorem dX7_isPairBroken_379 : decode cX7_isPairBroken 379 = .ok (.aload_n 0, 1) := by decide +kernel
theorem dX7_isPairBroken_380 : decode cX7_isPairBroken 380 = .ok (.aload_n 0, 1) := by decide +kernel
theorem dX7_isPairBroken_381 : decode cX7_isPairBroken 381 = .ok (.iload_n 2, 1) := by decide +kernel
theorem dX7_isPairBroken_382 : decode cX7_isPairBroken 382 = .ok (.iload 4, 2) := by decide +kernel
theorem dX7_isPairBroken_384 : decode cX7_isPairBroken 384 = .ok (.invokevirtual 110, 3) := by decide +kernel
theorem dX7_isPairBroken_387 : decode cX7_isPairBroken 387 = .ok (.invokevirtual 143, 3) := by decide +kernel
theorem dX7_isPairBroken_390 : decode cX7_isPairBroken 390 = .ok (.ifCond .eq 63, 3) := by decide +kernel
theorem dX7_isPairBroken_393 : decode cX7_isPairBroken 393 = .ok (.aload_n 0, 1) := by decide +kernel
theorem dX7_isPairBroken_394 : decode cX7_isPairBroken 394 = .ok (.getfield 16, 3) := by decide +kernel
theorem dX7_isPairBroken_397 : decode cX7_isPairBroken 397 = .ok (.aload_n 0, 1) := by decide +kernel
theorem dX7_isPairBroken_398 : decode cX7_isPairBroken 398 = .ok (.iload_n 2, 1) := by decide +kernel
theorem dX7_isPairBroken_399 : decode cX7_isPairBroken 399 = .ok (.iload 5, 2) := by decide +kernel
theorem dX7_isPairBroken_401 : decode cX7_isPairBroken 401 = .ok (.invokevirtual 110, 3) := by decide +kernel
theorem dX7_isPairBroken_404 : decode cX7_isPairBroken 404 = .ok (.iaload, 1) := by decide +kernel
theorem dX7_isPairBroken_405 : decode cX7_isPairBroken 405 = .ok (.aload_n 0, 1) := by decide +kernel
theorem dX7_isPairBroken_406 : decode cX7_isPairBroken 406 = .ok (.getfield 16, 3) := by decide +kernel
theorem dX7_isPairBroken_409 : decode cX7_isPairBroken 409 = .ok (.aload_n 0, 1) := by decide +kernel
theorem dX7_isPairBroken_410 : decode cX7_isPairBroken 410 = .ok (.iload_n 2, 1) := by decide +kernel
theorem dX7_isPairBroken_411 : decode cX7_isPairBroken 411 = .ok (.iload 4, 2) := by decide +kernel
theorem dX7_isPairBroken_413 : decode cX7_isPairBroken 413 = .ok (.invokevirtual 110, 3) := by decide +kernel
theorem dX7_isPairBroken_416 : decode cX7_isPairBroken 416 = .ok (.iaload, 1) := by decide +kernel
theorem dX7_isPairBroken_417 : decode cX7_isPairBroken 417 = .ok (.iconst 1, 1) := by decide +kernel
theorem dX7_isPairBroken_418 : decode cX7_isPairBroken 418 = .ok (.iadd, 1) := by decide +kernel
theorem dX7_isPairBroken_419 : decode cX7_isPairBroken 419 = .ok (.if_icmp .ne 30, 3) := by decide +kernel
theorem dX7_isPairBroken_422 : decode cX7_isPairBroken 422 = .ok (.aload_n 0, 1) := by decide +kernel
theorem dX7_isPairBroken_423 : decode cX7_isPairBroken 423 = .ok (.aload_n 0, 1) := by decide +kernel
theorem dX7_isPairBroken_424 : decode cX7_isPairBroken 424 = .ok (.iload_n 2, 1) := by decide +kernel
theorem dX7_isPairBroken_425 : decode cX7_isPairBroken 425 = .ok (.iload 5, 2) := by decide +kernel
theorem dX7_isPairBroken_427 : decode cX7_isPairBroken 427 = .ok (.invokevirtual 110, 3) := by decide +kernel
theorem dX7_isPairBroken_430 : decode cX7_isPairBroken 430 = .ok (.invokevirtual 97, 3) := by decide +kernel
theorem dX7_isPairBroken_433 : decode cX7_isPairBroken 433 = .ok (.aload_n 0, 1) := by decide +kernel
theorem dX7_isPairBroken_434 : decode cX7_isPairBroken 434 = .ok (.aload_n 0, 1) := by decide +kernel
theorem dX7_isPairBroken_435 : decode cX7_isPairBroken 435 = .ok (.iload_n 2, 1) := by decide +kernel
theorem dX7_isPairBroken_436 : decode cX7_isPairBroken 436 = .ok (.iload 4, 2) := by decide +kernel
theorem dX7_isPairBroken_438 : decode cX7_isPairBroken 438 = .ok (.invokevirtual 110, 3) := by decide +kernel
theorem dX7_isPairBroken_441 : decode cX7_isPairBroken 441 = .ok (.invokevirtual 97, 3) := by decide +kernel
theorem dX7_isPairBroken_444 : decode cX7_isPairBroken 444 = .ok (.iconst 1, 1) := by decide +kernel
theorem dX7_isPairBroken_445 : decode cX7_isPairBroken 445 = .ok (.iadd, 1) := by decide +kernel
theorem dX7_isPairBroken_446 : decode cX7_isPairBroken 446 = .ok (.if_icmp .eq 7, 3) := by decide +kernel
theorem dX7_isPairBroken_449 : decode cX7_isPairBroken 449 = .ok (.iconst 1, 1) := by decide +kernel
theorem dX7_isPairBroken_450 : decode cX7_isPairBroken 450 = .ok (.goto 4, 3) := by decide +kernel
theorem dX7_isPairBroken_453 : decode cX7_isPairBroken 453 = .ok (.iconst 0, 1) := by decide +kernel
theorem dX7_isPairBroken_454 : decode cX7_isPairBroken 454 = .ok (.ireturn, 1) := by decide +kernel
theorem dX7_isPairBroken_455 : decode cX7_isPairBroken 455 = .ok (.aload_n 0, 1) := by decide +kernel
theorem dX7_isPairBroken_456 : decode cX7_isPairBroken 456 = .ok (.iload_n 2, 1) := by decide +kernel
theorem dX7_isPairBroken_457 : decode cX7_isPairBroken 457 = .ok (.iload 4, 2) := by decide +kernel
theorem dX7_isPairBroken_459 : decode cX7_isPairBroken 459 = .ok (.iload 5, 2) := by decide +kernel
theorem dX7_isPairBroken_461 : decode cX7_isPairBroken 461 = .ok (.invokevirtual 124, 3) := by decide +kernel
theorem dX7_isPairBroken_464 : decode cX7_isPairBroken 464 = .ok (.ifCond .eq 83, 3) := by decide +kernel
theorem dX7_isPairBroken_467 : decode cX7_isPairBroken 467 = .ok (.aload_n 0, 1) := by decide +kernel
theorem dX7_isPairBroken_468 : decode cX7_isPairBroken 468 = .ok (.iconst 0, 1) := by decide +kernel
theorem dX7_isPairBroken_469 : decode cX7_isPairBroken 469 = .ok (.iload 4, 2) := by decide +kernel
theorem dX7_isPairBroken_471 : decode cX7_isPairBroken 471 = .ok (.invokevirtual 110, 3) := by decide +kernel
theorem dX7_isPairBroken_474 : decode cX7_isPairBroken 474 = .ok (.iconst (-1), 1) := by decide +kernel
theorem dX7_isPairBroken_475 : decode cX7_isPairBroken 475 = .ok (.if_icmp .eq 72, 3) := by decide +kernel
theorem dX7_isPairBroken_478 : decode cX7_isPairBroken 478 = .ok (.aload_n 0, 1) := by decide +kernel
theorem dX7_isPairBroken_479 : decode cX7_isPairBroken 479 = .ok (.getfield 16, 3) := by decide +kernel
theorem dX7_isPairBroken_482 : decode cX7_isPairBroken 482 = .ok (.aload_n 0, 1) := by decide +kernel
theorem dX7_isPairBroken_483 : decode cX7_isPairBroken 483 = .ok (.iload_n 2, 1) := by decide +kernel
theorem dX7_isPairBroken_484 : decode cX7_isPairBroken 484 = .ok (.iload 4, 2) := by decide +kernel
theorem dX7_isPairBroken_486 : decode cX7_isPairBroken 486 = .ok (.invokevirtual 110, 3) := by decide +kernel
theorem dX7_isPairBroken_489 : decode cX7_isPairBroken 489 = .ok (.iaload, 1) := by decide +kernel
theorem dX7_isPairBroken_490 : decode cX7_isPairBroken 490 = .ok (.aload_n 0, 1) := by decide +kernel
theorem dX7_isPairBroken_491 : decode cX7_isPairBroken 491 = .ok (.getfield 16, 3) := by decide +kernel
theorem dX7_isPairBroken_494 : decode cX7_isPairBroken 494 = .ok (.aload_n 0, 1) := by decide +kernel
theorem dX7_isPairBroken_495 : decode cX7_isPairBroken 495 = .ok (.iconst 0, 1) := by decide +kernel
theorem dX7_isPairBroken_496 : decode cX7_isPairBroken 496 = .ok (.iload 4, 2) := by decide +kernel
theorem dX7_isPairBroken_498 : decode cX7_isPairBroken 498 = .ok (.invokevirtual 110, 3) := by decide +kernel
theorem dX7_isPairBroken_501 : decode cX7_isPairBroken 501 = .ok (.iaload, 1) := by decide +kernel
theorem dX7_isPairBroken_502 : decode cX7_isPairBroken 502 = .ok (.isub, 1) := by decide +kernel
theorem dX7_isPairBroken_503 : decode cX7_isPairBroken 503 = .ok (.bipush 7, 2) := by decide +kernel
theorem dX7_isPairBroken_505 : decode cX7_isPairBroken 505 = .ok (.iconst 0, 1) := by decide +kernel
theorem dX7_isPairBroken_506 : decode cX7_isPairBroken 506 = .ok (.invokestatic 114, 3) := by decide +kernel
theorem dX7_isPairBroken_509 : decode cX7_isPairBroken 509 = .ok (.bipush 6, 2) := by decide +kernel
theorem dX7_isPairBroken_511 : decode cX7_isPairBroken 511 = .ok (.if_icmp .ne 36, 3) := by decide +kernel
theorem dX7_isPairBroken_514 : decode cX7_isPairBroken 514 = .ok (.aload_n 0, 1) := by decide +kernel
theorem dX7_isPairBroken_515 : decode cX7_isPairBroken 515 = .ok (.getfield 16, 3) := by decide +kernel
theorem dX7_isPairBroken_518 : decode cX7_isPairBroken 518 = .ok (.aload_n 0, 1) := by decide +kernel
theorem dX7_isPairBroken_519 : decode cX7_isPairBroken 519 = .ok (.iload_n 2, 1) := by decide +kernel
theorem dX7_isPairBroken_520 : decode cX7_isPairBroken 520 = .ok (.iload 5, 2) := by decide +kernel
theorem dX7_isPairBroken_522 : decode cX7_isPairBroken 522 = .ok (.invokevirtual 110, 3) := by decide +kernel
theorem dX7_isPairBroken_525 : decode cX7_isPairBroken 525 = .ok (.iaload, 1) := by decide +kernel
theorem dX7_isPairBroken_526 : decode cX7_isPairBroken 526 = .ok (.aload_n 0, 1) := by decide +kernel
theorem dX7_isPairBroken_527 : decode cX7_isPairBroken 527 = .ok (.getfield 16, 3) := by decide +kernel
theorem dX7_isPairBroken_530 : decode cX7_isPairBroken 530 = .ok (.aload_n 0, 1) := by decide +kernel
theorem dX7_isPairBroken_531 : decode cX7_isPairBroken 531 = .ok (.iload_n 2, 1) := by decide +kernel
theorem dX7_isPairBroken_532 : decode cX7_isPairBroken 532 = .ok (.iload 4, 2) := by decide +kernel
theorem dX7_isPairBroken_534 : decode cX7_isPairBroken 534 = .ok (.invokevirtual 110, 3) := by decide +kernel
theorem dX7_isPairBroken_537 : decode cX7_isPairBroken 537 = .ok (.iaload, 1) := by decide +kernel
theorem dX7_isPairBroken_538 : decode cX7_isPairBroken 538 = .ok (.iconst 1, 1) := by decide +kernel
theorem dX7_isPairBroken_539 : decode cX7_isPairBroken 539 = .ok (.isub, 1) := by decide +kernel
theorem dX7_isPairBroken_540 : decode cX7_isPairBroken 540 = .ok (.if_icmp .eq 7, 3) := by decide +kernel
theorem dX7_isPairBroken_543 : decode cX7_isPairBroken 543 = .ok (.iconst 1, 1) := by decide +kernel
theorem dX7_isPairBroken_544 : decode cX7_isPairBroken 544 = .ok (.goto 4, 3) := by decide +kernel
theorem dX7_isPairBroken_547 : decode cX7_isPairBroken 547 = .ok (.iconst 0, 1) := by decide +kernel
theorem dX7_isPairBroken_548 : decode cX7_isPairBroken 548 = .ok (.ireturn, 1) := by decide +kernel
theorem dX7_isPairBroken_549 : decode cX7_isPairBroken 549 = .ok (.aload_n 0, 1) := by decide +kernel
theorem dX7_isPairBroken_550 : decode cX7_isPairBroken 550 = .ok (.iload_n 2, 1) := by decide +kernel
theorem dX7_isPairBroken_551 : decode cX7_isPairBroken 551 = .ok (.iload_n 3, 1) := by decide +kernel
theorem dX7_isPairBroken_552 : decode cX7_isPairBroken 552 = .ok (.iload 4, 2) := by decide +kernel
theorem dX7_isPairBroken_554 : decode cX7_isPairBroken 554 = .ok (.iload 5, 2) := by decide +kernel
theorem dX7_isPairBroken_556 : decode cX7_isPairBroken 556 = .ok (.invokevirtual 146, 3) := by decide +kernel
theorem dX7_isPairBroken_559 : decode cX7_isPairBroken 559 = .ok (.ireturn, 1) := by decide +kernel
theorem dX7_isPairBroken_560 : decode cX7_isPairBroken 560 = .ok (.aload_n 0, 1) := by decide +kernel
theorem dX7_isPairBroken_561 : decode cX7_isPairBroken 561 = .ok (.iload_n 2, 1) := by decide +kernel
theorem dX7_isPairBroken_562 : decode cX7_isPairBroken 562 = .ok (.iload_n 3, 1) := by decide +kernel
theorem dX7_isPairBroken_563 : decode cX7_isPairBroken 563 = .ok (.iload 4, 2) := by decide +kernel
theorem dX7_isPairBroken_565 : decode cX7_isPairBroken 565 = .ok (.iload 5, 2) := by decide +kernel
theorem dX7_isPairBroken_567 : decode cX7_isPairBroken 567 = .ok (.invokevirtual 130, 3) := by decide +kernel
theorem dX7_isPairBroken_570 : decode cX7_isPairBroken 570 = .ok (.ifCond .eq 31, 3) := by decide +kernel
theorem dX7_isPairBroken_573 : decode cX7_isPairBroken 573 = .ok (.aload_n 0, 1) := by decide +kernel
theorem dX7_isPairBroken_574 : decode cX7_isPairBroken 574 = .ok (.iload_n 2, 1) := by decide +kernel
theorem dX7_isPairBroken_575 : decode cX7_isPairBroken 575 = .ok (.iload_n 3, 1) := by decide +kernel
theorem dX7_isPairBroken_576 : decode cX7_isPairBroken 576 = .ok (.iload 4, 2) := by decide +kernel
theorem dX7_isPairBroken_578 : decode cX7_isPairBroken 578 = .ok (.invokevirtual 134, 3) := by decide +kernel
theorem dX7_isPairBroken_581 : decode cX7_isPairBroken 581 = .ok (.iconst 3, 1) := by decide +kernel
theorem dX7_isPairBroken_582 : decode cX7_isPairBroken 582 = .ok (.if_icmp .eq 19, 3) := by decide +kernel
theorem dX7_isPairBroken_585 : decode cX7_isPairBroken 585 = .ok (.aload_n 0, 1) := by decide +kernel
theorem dX7_isPairBroken_586 : decode cX7_isPairBroken 586 = .ok (.iload_n 2, 1) := by decide +kernel
theorem dX7_isPairBroken_587 : decode cX7_isPairBroken 587 = .ok (.iload_n 3, 1) := by decide +kernel
theorem dX7_isPairBroken_588 : decode cX7_isPairBroken 588 = .ok (.iload 5, 2) := by decide +kernel
theorem dX7_isPairBroken_590 : decode cX7_isPairBroken 590 = .ok (.invokevirtual 134, 3) := by decide +kernel
theorem dX7_isPairBroken_593 : decode cX7_isPairBroken 593 = .ok (.iconst 3, 1) := by decide +kernel
theorem dX7_isPairBroken_594 : decode cX7_isPairBroken 594 = .ok (.if_icmp .ne 7, 3) := by decide +kernel
theorem dX7_isPairBroken_597 : decode cX7_isPairBroken 597 = .ok (.iconst 1, 1) := by decide +kernel
theorem dX7_isPairBroken_598 : decode cX7_isPairBroken 598 = .ok (.goto 4, 3) := by decide +kernel
theorem dX7_isPairBroken_601 : decode cX7_isPairBroken 601 = .ok (.iconst 0, 1) := by decide +kernel
theorem dX7_isPairBroken_602 : decode cX7_isPairBroken 602 = .ok (.ireturn, 1) := by decide +kernel
theorem dX7_isPairBroken_603 : decode cX7_isPairBroken 603 = .ok (.iconst 0, 1) := by decide +kernel
theorem dX7_isPairBroken_604 : decode cX7_isPairBroken 604 = .ok (.ireturn, 1) := by decide +kernel
theorem dX7_isBroken_0 : decode cX7_isBroken 0 = .ok (.iload_n 1, 1) := by decide +kernel
theorem dX7_isBroken_1 : decode cX7_isBroken 1 = .ok (.invokestatic 149, 3) := by decide +kernel
theorem dX7_isBroken_4 : decode cX7_isBroken 4 = .ok (.ifCond .eq 13, 3) := by decide +kernel
theorem dX7_isBroken_7 : decode cX7_isBroken 7 = .ok (.aload_n 0, 1) := by decide +kernel
theorem dX7_isBroken_8 : decode cX7_isBroken 8 = .ok (.iload_n 1, 1) := by decide +kernel
theorem dX7_isBroken_9 : decode cX7_isBroken 9 = .ok (.iload_n 2, 1) := by decide +kernel
theorem dX7_isBroken_10 : decode cX7_isBroken 10 = .ok (.iload_n 3, 1) := by decide +kernel
theorem dX7_isBroken_11 : decode cX7_isBroken 11 = .ok (.iload 4, 2) := by decide +kernel
theorem dX7_isBroken_13 : decode cX7_isBroken 13 = .ok (.invokevirtual 152, 3) := by decide +kernel
theorem dX7_isBroken_16 : decode cX7_isBroken 16 = .ok (.ireturn, 1) := by decide +kernel
theorem dX7_isBroken_17 : decode cX7_isBroken 17 = .ok (.iload 4, 2) := by decide +kernel
theorem dX7_isBroken_19 : decode cX7_isBroken 19 = .ok (.ifCond .le 23, 3) := by decide +kernel
theorem dX7_isBroken_22 : decode cX7_isBroken 22 = .ok (.aload_n 0, 1) := by decide +kernel
theorem dX7_isBroken_23 : decode cX7_isBroken 23 = .ok (.iload_n 1, 1) := by decide +kernel
theorem dX7_isBroken_24 : decode cX7_isBroken 24 = .ok (.iload_n 2, 1) := by decide +kernel
theorem dX7_isBroken_25 : decode cX7_isBroken 25 = .ok (.iload_n 3, 1) := by decide +kernel
theorem dX7_isBroken_26 : decode cX7_isBroken 26 = .ok (.iload 4, 2) := by decide +kernel
theorem dX7_isBroken_28 : decode cX7_isBroken 28 = .ok (.iconst 1, 1) := by decide +kernel
theorem dX7_isBroken_29 : decode cX7_isBroken 29 = .ok (.isub, 1) := by decide +kernel
theorem dX7_isBroken_30 : decode cX7_isBroken 30 = .ok (.iload 4, 2) := by decide +kernel
theorem dX7_isBroken_32 : decode cX7_isBroken 32 = .ok (.invokevirtual 155, 3) := by decide +kernel
theorem dX7_isBroken_35 : decode cX7_isBroken 35 = .ok (.ifCond .eq 7, 3) := by decide +kernel
theorem dX7_isBroken_38 : decode cX7_isBroken 38 = .ok (.iconst 1, 1) := by decide +kernel
theorem dX7_isBroken_39 : decode cX7_isBroken 39 = .ok (.goto 4, 3) := by decide +kernel
theorem dX7_isBroken_42 : decode cX7_isBroken 42 = .ok (.iconst 0, 1) := by decide +kernel
theorem dX7_isBroken_43 : decode cX7_isBroken 43 = .ok (.istore 5, 2) := by decide +kernel
theorem dX7_isBroken_45 : decode cX7_isBroken 45 = .ok (.iconst 0, 1) := by decide +kernel
theorem dX7_isBroken_46 : decode cX7_isBroken 46 = .ok (.istore 6, 2) := by decide +kernel
theorem dX7_isBroken_48 : decode cX7_isBroken 48 = .ok (.iload 6, 2) := by decide +kernel
theorem dX7_isBroken_50 : decode cX7_isBroken 50 = .ok (.aload_n 0, 1) := by decide +kernel
theorem dX7_isBroken_51 : decode cX7_isBroken 51 = .ok (.getfield 69, 3) := by decide +kernel
theorem dX7_isBroken_54 : decode cX7_isBroken 54 = .ok (.if_icmp .ge 120, 3) := by decide +kernel
theorem dX7_isBroken_57 : decode cX7_isBroken 57 = .ok (.iload 5, 2) := by decide +kernel
theorem dX7_isBroken_59 : decode cX7_isBroken 59 = .ok (.ifCond .ne 115, 3) := by decide +kernel
theorem dX7_isBroken_62 : decode cX7_isBroken 62 = .ok (.iconst 0, 1) := by decide +kernel
theorem dX7_isBroken_63 : decode cX7_isBroken 63 = .ok (.istore 7, 2) := by decide +kernel
theorem dX7_isBroken_65 : decode cX7_isBroken 65 = .ok (.iload 7, 2) := by decide +kernel
theorem dX7_isBroken_67 : decode cX7_isBroken 67 = .ok (.aload_n 0, 1) := by decide +kernel
theorem dX7_isBroken_68 : decode cX7_isBroken 68 = .ok (.getfield 100, 3) := by decide +kernel
theorem dX7_isBroken_71 : decode cX7_isBroken 71 = .ok (.if_icmp .ge 26, 3) := by decide +kernel
theorem dX7_isBroken_74 : decode cX7_isBroken 74 = .ok (.aload_n 0, 1) := by decide +kernel
theorem dX7_isBroken_75 : decode cX7_isBroken 75 = .ok (.getfield 44, 3) := by decide +kernel
theorem dX7_isBroken_78 : decode cX7_isBroken 78 = .ok (.iload 7, 2) := by decide +kernel
theorem dX7_isBroken_80 : decode cX7_isBroken 80 = .ok (.iaload, 1) := by decide +kernel
theorem dX7_isBroken_81 : decode cX7_isBroken 81 = .ok (.aload_n 0, 1) := by decide +kernel
theorem dX7_isBroken_82 : decode cX7_isBroken 82 = .ok (.getfield 32, 3) := by decide +kernel
theorem dX7_isBroken_85 : decode cX7_isBroken 85 = .ok (.iload 6, 2) := by decide +kernel
theorem dX7_isBroken_87 : decode cX7_isBroken 87 = .ok (.iaload, 1) := by decide +kernel
theorem dX7_isBroken_88 : decode cX7_isBroken 88 = .ok (.if_icmp .ge 9, 3) := by decide +kernel
theorem dX7_isBroken_91 : decode cX7_isBroken 91 = .ok (.iinc 7 1, 3) := by decide +kernel
theorem dX7_isBroken_94 : decode cX7_isBroken 94 = .ok (.goto (-29), 3) := by decide +kernel
theorem dX7_isBroken_97 : decode cX7_isBroken 97 = .ok (.aload_n 0, 1) := by decide +kernel
theorem dX7_isBroken_98 : decode cX7_isBroken 98 = .ok (.getfield 100, 3) := by decide +kernel
theorem dX7_isBroken_101 : decode cX7_isBroken 101 = .ok (.iconst 1, 1) := by decide +kernel
theorem dX7_isBroken_102 : decode cX7_isBroken 102 = .ok (.isub, 1) := by decide +kernel
theorem dX7_isBroken_103 : decode cX7_isBroken 103 = .ok (.istore 8, 2) := by decide +kernel
theorem dX7_isBroken_105 : decode cX7_isBroken 105 = .ok (.iload 8, 2) := by decide +kernel
theorem dX7_isBroken_107 : decode cX7_isBroken 107 = .ok (.ifCond .lt 26, 3) := by decide +kernel
theorem dX7_isBroken_110 : decode cX7_isBroken 110 = .ok (.aload_n 0, 1) := by decide +kernel
theorem dX7_isBroken_111 : decode cX7_isBroken 111 = .ok (.getfield 44, 3) := by decide +kernel
theorem dX7_isBroken_114 : decode cX7_isBroken 114 = .ok (.iload 8, 2) := by decide +kernel
theorem dX7_isBroken_116 : decode cX7_isBroken 116 = .ok (.iaload, 1) := by decide +kernel
theorem dX7_isBroken_117 : decode cX7_isBroken 117 = .ok (.aload_n 0, 1) := by decide +kernel
theorem dX7_isBroken_118 : decode cX7_isBroken 118 = .ok (.getfield 35, 3) := by decide +kernel
theorem dX7_isBroken_121 : decode cX7_isBroken 121 = .ok (.iload 6, 2) := by decide +kernel
theorem dX7_isBroken_123 : decode cX7_isBroken 123 = .ok (.iaload, 1) := by decide +kernel
theorem dX7_isBroken_124 : decode cX7_isBroken 124 = .ok (.if_icmp .lt 9, 3) := by decide +kernel
theorem dX7_isBroken_127 : decode cX7_isBroken 127 = .ok (.iinc 8 (-1), 3) := by decide +kernel
theorem dX7_isBroken_130 : decode cX7_isBroken 130 = .ok (.goto (-25), 3) := by decide +kernel
theorem dX7_isBroken_133 : decode cX7_isBroken 133 = .ok (.iload 7, 2) := by decide +kernel
theorem dX7_isBroken_135 : decode cX7_isBroken 135 = .ok (.iload 4, 2) := by decide +kernel
theorem dX7_isBroken_137 : decode cX7_isBroken 137 = .ok (.if_icmp .ne 28, 3) := by decide +kernel
theorem dX7_isBroken_140 : decode cX7_isBroken 140 = .ok (.iload 8, 2) := by decide +kernel
theorem dX7_isBroken_142 : decode cX7_isBroken 142 = .ok (.iload 7, 2) := by decide +kernel
theorem dX7_isBroken_144 : decode cX7_isBroken 144 = .ok (.if_icmp .lt 21, 3) := by decide +kernel
theorem dX7_isBroken_147 : decode cX7_isBroken 147 = .ok (.aload_n 0, 1) := by decide +kernel
theorem dX7_isBroken_148 : decode cX7_isBroken 148 = .ok (.iload_n 1, 1) := by decide +kernel
theorem dX7_isBroken_149 : decode cX7_isBroken 149 = .ok (.iload_n 2, 1) := by decide +kernel
theorem dX7_isBroken_150 : decode cX7_isBroken 150 = .ok (.iload_n 3, 1) := by decide +kernel
theorem dX7_isBroken_151 : decode cX7_isBroken 151 = .ok (.iload 8, 2) := by decide +kernel
theorem dX7_isBroken_153 : decode cX7_isBroken 153 = .ok (.iload 4, 2) := by decide +kernel
theorem dX7_isBroken_155 : decode cX7_isBroken 155 = .ok (.invokevirtual 155, 3) := by decide +kernel
theorem dX7_isBroken_158 : decode cX7_isBroken 158 = .ok (.ifCond .eq 7, 3) := by decide +kernel
theorem dX7_isBroken_161 : decode cX7_isBroken 161 = .ok (.iconst 1, 1) := by decide +kernel
theorem dX7_isBroken_162 : decode cX7_isBroken 162 = .ok (.goto 4, 3) := by decide +kernel
theorem dX7_isBroken_165 : decode cX7_isBroken 165 = .ok (.iconst 0, 1) := by decide +kernel
theorem dX7_isBroken_166 : decode cX7_isBroken 166 = .ok (.istore 5, 2) := by decide +kernel
theorem dX7_isBroken_168 : decode cX7_isBroken 168 = .ok (.iinc 6 1, 3) := by decide +kernel
theorem dX7_isBroken_171 : decode cX7_isBroken 171 = .ok (.goto (-123), 3) := by decide +kernel
theorem dX7_isBroken_174 : decode cX7_isBroken 174 = .ok (.iload 5, 2) := by decide +kernel
theorem dX7_isBroken_176 : decode cX7_isBroken 176 = .ok (.ireturn, 1) := by decide +kernel
theorem dX7_judge_0 : decode cX7_judge 0 = .ok (.aload_n 0, 1) := by decide +kernel
theorem dX7_judge_1 : decode cX7_judge 1 = .ok (.invokevirtual 103, 3) := by decide +kernel
theorem dX7_judge_4 : decode cX7_judge 4 = .ok (.aload_n 0, 1) := by decide +kernel
theorem dX7_judge_5 : decode cX7_judge 5 = .ok (.iconst 0, 1) := by decide +kernel
theorem dX7_judge_6 : decode cX7_judge 6 = .ok (.putfield 75, 3) := by decide +kernel
theorem dX7_judge_9 : decode cX7_judge 9 = .ok (.aload_n 0, 1) := by decide +kernel
theorem dX7_judge_10 : decode cX7_judge 10 = .ok (.iconst 0, 1) := by decide +kernel
theorem dX7_judge_11 : decode cX7_judge 11 = .ok (.putfield 78, 3) := by decide +kernel
theorem dX7_judge_14 : decode cX7_judge 14 = .ok (.iconst 0, 1) := by decide +kernel
theorem dX7_judge_15 : decode cX7_judge 15 = .ok (.istore_n 1, 1) := by decide +kernel
theorem dX7_judge_16 : decode cX7_judge 16 = .ok (.iload_n 1, 1) := by decide +kernel
theorem dX7_judge_17 : decode cX7_judge 17 = .ok (.aload_n 0, 1) := by decide +kernel
theorem dX7_judge_18 : decode cX7_judge 18 = .ok (.getfield 100, 3) := by decide +kernel
theorem dX7_judge_21 : decode cX7_judge 21 = .ok (.if_icmp .ge 183, 3) := by decide +kernel
theorem dX7_judge_24 : decode cX7_judge 24 = .ok (.aload_n 0, 1) := by decide +kernel
theorem dX7_judge_25 : decode cX7_judge 25 = .ok (.getfield 53, 3) := by decide +kernel
theorem dX7_judge_28 : decode cX7_judge 28 = .ok (.iload_n 1, 1) := by decide +kernel
theorem dX7_judge_29 : decode cX7_judge 29 = .ok (.aload_n 0, 1) := by decide +kernel
theorem dX7_judge_30 : decode cX7_judge 30 = .ok (.getfield 44, 3) := by decide +kernel
theorem dX7_judge_33 : decode cX7_judge 33 = .ok (.iload_n 1, 1) := by decide +kernel
theorem dX7_judge_34 : decode cX7_judge 34 = .ok (.iaload, 1) := by decide +kernel
theorem dX7_judge_35 : decode cX7_judge 35 = .ok (.iastore, 1) := by decide +kernel
theorem dX7_judge_36 : decode cX7_judge 36 = .ok (.iconst 0, 1) := by decide +kernel
theorem dX7_judge_37 : decode cX7_judge 37 = .ok (.istore_n 2, 1) := by decide +kernel
theorem dX7_judge_38 : decode cX7_judge 38 = .ok (.iload_n 2, 1) := by decide +kernel
theorem dX7_judge_39 : decode cX7_judge 39 = .ok (.bipush 14, 2) := by decide +kernel
theorem dX7_judge_41 : decode cX7_judge 41 = .ok (.if_icmp .ge 157, 3) := by decide +kernel
theorem dX7_judge_44 : decode cX7_judge 44 = .ok (.aload_n 0, 1) := by decide +kernel
theorem dX7_judge_45 : decode cX7_judge 45 = .ok (.iload_n 2, 1) := by decide +kernel
theorem dX7_judge_46 : decode cX7_judge 46 = .ok (.aload_n 0, 1) := by decide +kernel
theorem dX7_judge_47 : decode cX7_judge 47 = .ok (.getfield 44, 3) := by decide +kernel
theorem dX7_judge_50 : decode cX7_judge 50 = .ok (.iload_n 1, 1) := by decide +kernel
theorem dX7_judge_51 : decode cX7_judge 51 = .ok (.iaload, 1) := by decide +kernel
theorem dX7_judge_52 : decode cX7_judge 52 = .ok (.invokevirtual 106, 3) := by decide +kernel
theorem dX7_judge_55 : decode cX7_judge 55 = .ok (.istore_n 3, 1) := by decide +kernel
theorem dX7_judge_56 : decode cX7_judge 56 = .ok (.iconst 0, 1) := by decide +kernel
theorem dX7_judge_57 : decode cX7_judge 57 = .ok (.istore 4, 2) := by decide +kernel
theorem dX7_judge_59 : decode cX7_judge 59 = .ok (.iload 4, 2) := by decide +kernel
theorem dX7_judge_61 : decode cX7_judge 61 = .ok (.aload_n 0, 1) := by decide +kernel
theorem dX7_judge_62 : decode cX7_judge 62 = .ok (.getfield 56, 3) := by decide +kernel
theorem dX7_judge_65 : decode cX7_judge 65 = .ok (.if_icmp .ge 127, 3) := by decide +kernel
theorem dX7_judge_68 : decode cX7_judge 68 = .ok (.aload_n 0, 1) := by decide +kernel
theorem dX7_judge_69 : decode cX7_judge 69 = .ok (.getfield 28, 3) := by decide +kernel
theorem dX7_judge_72 : decode cX7_judge 72 = .ok (.iload_n 2, 1) := by decide +kernel
theorem dX7_judge_73 : decode cX7_judge 73 = .ok (.baload, 1) := by decide +kernel
theorem dX7_judge_74 : decode cX7_judge 74 = .ok (.ifCond .eq 118, 3) := by decide +kernel
theorem dX7_judge_77 : decode cX7_judge 77 = .ok (.iconst (-1), 1) := by decide +kernel
theorem dX7_judge_78 : decode cX7_judge 78 = .ok (.istore 5, 2) := by decide +kernel
theorem dX7_judge_80 : decode cX7_judge 80 = .ok (.iload 5, 2) := by decide +kernel
theorem dX7_judge_82 : decode cX7_judge 82 = .ok (.aload_n 0, 1) := by decide +kernel
theorem dX7_judge_83 : decode cX7_judge 83 = .ok (.getfield 56, 3) := by decide +kernel
theorem dX7_judge_86 : decode cX7_judge 86 = .ok (.if_icmp .ge 100, 3) := by decide +kernel
theorem dX7_judge_89 : decode cX7_judge 89 = .ok (.aload_n 0, 1) := by decide +kernel
theorem dX7_judge_90 : decode cX7_judge 90 = .ok (.iload_n 2, 1) := by decide +kernel
theorem dX7_judge_91 : decode cX7_judge 91 = .ok (.iload 4, 2) := by decide +kernel
theorem dX7_judge_93 : decode cX7_judge 93 = .ok (.iload 5, 2) := by decide +kernel
theorem dX7_judge_95 : decode cX7_judge 95 = .ok (.invokevirtual 159, 3) := by decide +kernel
theorem dX7_judge_98 : decode cX7_judge 98 = .ok (.ifCond .eq 82, 3) := by decide +kernel
theorem dX7_judge_101 : decode cX7_judge 101 = .ok (.aload_n 0, 1) := by decide +kernel
theorem dX7_judge_102 : decode cX7_judge 102 = .ok (.iload_n 2, 1) := by decide +kernel
theorem dX7_judge_103 : decode cX7_judge 103 = .ok (.iload 4, 2) := by decide +kernel
theorem dX7_judge_105 : decode cX7_judge 105 = .ok (.iload 5, 2) := by decide +kernel
theorem dX7_judge_107 : decode cX7_judge 107 = .ok (.iload_n 1, 1) := by decide +kernel
theorem dX7_judge_108 : decode cX7_judge 108 = .ok (.invokevirtual 162, 3) := by decide +kernel
theorem dX7_judge_111 : decode cX7_judge 111 = .ok (.ifCond .eq 69, 3) := by decide +kernel
theorem dX7_judge_114 : decode cX7_judge 114 = .ok (.aload_n 0, 1) := by decide +kernel
theorem dX7_judge_115 : decode cX7_judge 115 = .ok (.dup, 1) := by decide +kernel
theorem dX7_judge_116 : decode cX7_judge 116 = .ok (.getfield 78, 3) := by decide +kernel
theorem dX7_judge_119 : decode cX7_judge 119 = .ok (.iload_n 3, 1) := by decide +kernel
theorem dX7_judge_120 : decode cX7_judge 120 = .ok (.ifCond .eq 7, 3) := by decide +kernel
theorem dX7_judge_123 : decode cX7_judge 123 = .ok (.iconst 1, 1) := by decide +kernel
theorem dX7_judge_124 : decode cX7_judge 124 = .ok (.goto 4, 3) := by decide +kernel
theorem dX7_judge_127 : decode cX7_judge 127 = .ok (.iconst 0, 1) := by decide +kernel
theorem dX7_judge_128 : decode cX7_judge 128 = .ok (.iadd, 1) := by decide +kernel
theorem dX7_judge_129 : decode cX7_judge 129 = .ok (.putfield 78, 3) := by decide +kernel
theorem dX7_judge_132 : decode cX7_judge 132 = .ok (.aload_n 0, 1) := by decide +kernel
theorem dX7_judge_133 : decode cX7_judge 133 = .ok (.getfield 50, 3) := by decide +kernel
theorem dX7_judge_136 : decode cX7_judge 136 = .ok (.aload_n 0, 1) := by decide +kernel
theorem dX7_judge_137 : decode cX7_judge 137 = .ok (.getfield 75, 3) := by decide +kernel
theorem dX7_judge_140 : decode cX7_judge 140 = .ok (.sipush 1000, 3) := by decide +kernel
theorem dX7_judge_143 : decode cX7_judge 143 = .ok (.iload_n 1, 1) := by decide +kernel
theorem dX7_judge_144 : decode cX7_judge 144 = .ok (.imul, 1) := by decide +kernel
theorem dX7_judge_145 : decode cX7_judge 145 = .ok (.bipush 50, 2) := by decide +kernel
theorem dX7_judge_147 : decode cX7_judge 147 = .ok (.iload_n 2, 1) := by decide +kernel
theorem dX7_judge_148 : decode cX7_judge 148 = .ok (.imul, 1) := by decide +kernel
theorem dX7_judge_149 : decode cX7_judge 149 = .ok (.iadd, 1) := by decide +kernel
theorem dX7_judge_150 : decode cX7_judge 150 = .ok (.bipush 7, 2) := by decide +kernel
theorem dX7_judge_152 : decode cX7_judge 152 = .ok (.iload 4, 2) := by decide +kernel
theorem dX7_judge_154 : decode cX7_judge 154 = .ok (.imul, 1) := by decide +kernel
theorem dX7_judge_155 : decode cX7_judge 155 = .ok (.iadd, 1) := by decide +kernel
theorem dX7_judge_156 : decode cX7_judge 156 = .ok (.iload 5, 2) := by decide +kernel
theorem dX7_judge_158 : decode cX7_judge 158 = .ok (.iadd, 1) := by decide +kernel
theorem dX7_judge_159 : decode cX7_judge 159 = .ok (.iconst 1, 1) := by decide +kernel
theorem dX7_judge_160 : decode cX7_judge 160 = .ok (.iadd, 1) := by decide +kernel
theorem dX7_judge_161 : decode cX7_judge 161 = .ok (.iastore, 1) := by decide +kernel
theorem dX7_judge_162 : decode cX7_judge 162 = .ok (.aload_n 0, 1) := by decide +kernel
theorem dX7_judge_163 : decode cX7_judge 163 = .ok (.dup, 1) := by decide +kernel
theorem dX7_judge_164 : decode cX7_judge 164 = .ok (.getfield 75, 3) := by decide +kernel
theorem dX7_judge_167 : decode cX7_judge 167 = .ok (.iload_n 3, 1) := by decide +kernel
theorem dX7_judge_168 : decode cX7_judge 168 = .ok (.ifCond .eq 7, 3) := by decide +kernel
theorem dX7_judge_171 : decode cX7_judge 171 = .ok (.iconst 0, 1) := by decide +kernel
theorem dX7_judge_172 : decode cX7_judge 172 = .ok (.goto 4, 3) := by decide +kernel
theorem dX7_judge_175 : decode cX7_judge 175 = .ok (.iconst 1, 1) := by decide +kernel
theorem dX7_judge_176 : decode cX7_judge 176 = .ok (.iadd, 1) := by decide +kernel
theorem dX7_judge_177 : decode cX7_judge 177 = .ok (.putfield 75, 3) := by decide +kernel
theorem dX7_judge_180 : decode cX7_judge 180 = .ok (.iinc 5 1, 3) := by decide +kernel
theorem dX7_judge_183 : decode cX7_judge 183 = .ok (.goto (-103), 3) := by decide +kernel
theorem dX7_judge_186 : decode cX7_judge 186 = .ok (.iinc 4 1, 3) := by decide +kernel
theorem dX7_judge_189 : decode cX7_judge 189 = .ok (.goto (-130), 3) := by decide +kernel
theorem dX7_judge_192 : decode cX7_judge 192 = .ok (.iinc 2 1, 3) := by decide +kernel
theorem dX7_judge_195 : decode cX7_judge 195 = .ok (.goto (-157), 3) := by decide +kernel
theorem dX7_judge_198 : decode cX7_judge 198 = .ok (.iinc 1 1, 3) := by decide +kernel
theorem dX7_judge_201 : decode cX7_judge 201 = .ok (.goto (-185), 3) := by decide +kernel
theorem dX7_judge_204 : decode cX7_judge 204 = .ok (.aload_n 0, 1) := by decide +kernel
theorem dX7_judge_205 : decode cX7_judge 205 = .ok (.getfield 75, 3) := by decide +kernel
theorem dX7_judge_208 : decode cX7_judge 208 = .ok (.ireturn, 1) := by decide +kernel
