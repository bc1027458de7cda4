theorem dL_isSound_0 : decode cL_isSound 0 = .ok (.aload_n 0, 1) := by decide +kernel
theorem dL_isSound_1 : decode cL_isSound 1 = .ok (.invokevirtual 37, 3) := by decide +kernel
theorem dL_isSound_4 : decode cL_isSound 4 = .ok (.ifCond .ne 7, 3) := by decide +kernel
theorem dL_isSound_7 : decode cL_isSound 7 = .ok (.iconst 1, 1) := by decide +kernel
theorem dL_isSound_8 : decode cL_isSound 8 = .ok (.goto 4, 3) := by decide +kernel
theorem dL_isSound_11 : decode cL_isSound 11 = .ok (.iconst (-1), 1) := by decide +kernel
theorem dL_isSound_12 : decode cL_isSound 12 = .ok (.istore_n 1, 1) := by decide +kernel
theorem dL_isSound_13 : decode cL_isSound 13 = .ok (.aload_n 0, 1) := by decide +kernel
theorem dL_isSound_14 : decode cL_isSound 14 = .ok (.invokevirtual 30, 3) := by decide +kernel
theorem dL_isSound_17 : decode cL_isSound 17 = .ok (.istore_n 2, 1) := by decide +kernel
theorem dL_isSound_18 : decode cL_isSound 18 = .ok (.iconst 0, 1) := by decide +kernel
theorem dL_isSound_19 : decode cL_isSound 19 = .ok (.istore_n 3, 1) := by decide +kernel
theorem dL_isSound_20 : decode cL_isSound 20 = .ok (.iload_n 3, 1) := by decide +kernel
theorem dL_isSound_21 : decode cL_isSound 21 = .ok (.aload_n 0, 1) := by decide +kernel
theorem dL_isSound_22 : decode cL_isSound 22 = .ok (.invokevirtual 54, 3) := by decide +kernel
theorem dL_isSound_25 : decode cL_isSound 25 = .ok (.if_icmp .ge 179, 3) := by decide +kernel
theorem dL_isSound_28 : decode cL_isSound 28 = .ok (.aload_n 0, 1) := by decide +kernel
theorem dL_isSound_29 : decode cL_isSound 29 = .ok (.iload_n 3, 1) := by decide +kernel
theorem dL_isSound_30 : decode cL_isSound 30 = .ok (.invokevirtual 112, 3) := by decide +kernel
theorem dL_isSound_33 : decode cL_isSound 33 = .ok (.istore 4, 2) := by decide +kernel
theorem dL_isSound_35 : decode cL_isSound 35 = .ok (.aload_n 0, 1) := by decide +kernel
theorem dL_isSound_36 : decode cL_isSound 36 = .ok (.iload_n 3, 1) := by decide +kernel
theorem dL_isSound_37 : decode cL_isSound 37 = .ok (.invokevirtual 115, 3) := by decide +kernel
theorem dL_isSound_40 : decode cL_isSound 40 = .ok (.istore 5, 2) := by decide +kernel
theorem dL_isSound_42 : decode cL_isSound 42 = .ok (.iload 5, 2) := by decide +kernel
theorem dL_isSound_44 : decode cL_isSound 44 = .ok (.iload_n 2, 1) := by decide +kernel
theorem dL_isSound_45 : decode cL_isSound 45 = .ok (.irem, 1) := by decide +kernel
theorem dL_isSound_46 : decode cL_isSound 46 = .ok (.iload 4, 2) := by decide +kernel
theorem dL_isSound_48 : decode cL_isSound 48 = .ok (.iload_n 2, 1) := by decide +kernel
theorem dL_isSound_49 : decode cL_isSound 49 = .ok (.irem, 1) := by decide +kernel
theorem dL_isSound_50 : decode cL_isSound 50 = .ok (.if_icmp .eq 7, 3) := by decide +kernel
theorem dL_isSound_53 : decode cL_isSound 53 = .ok (.iconst 1, 1) := by decide +kernel
theorem dL_isSound_54 : decode cL_isSound 54 = .ok (.goto 4, 3) := by decide +kernel
theorem dL_isSound_57 : decode cL_isSound 57 = .ok (.iconst 0, 1) := by decide +kernel
theorem dL_isSound_58 : decode cL_isSound 58 = .ok (.istore 6, 2) := by decide +kernel
theorem dL_isSound_60 : decode cL_isSound 60 = .ok (.aload_n 0, 1) := by decide +kernel
theorem dL_isSound_61 : decode cL_isSound 61 = .ok (.iload 4, 2) := by decide +kernel
theorem dL_isSound_63 : decode cL_isSound 63 = .ok (.invokevirtual 118, 3) := by decide +kernel
theorem dL_isSound_66 : decode cL_isSound 66 = .ok (.aload_n 0, 1) := by decide +kernel
theorem dL_isSound_67 : decode cL_isSound 67 = .ok (.invokevirtual 37, 3) := by decide +kernel
theorem dL_isSound_70 : decode cL_isSound 70 = .ok (.iconst 1, 1) := by decide +kernel
theorem dL_isSound_71 : decode cL_isSound 71 = .ok (.iadd, 1) := by decide +kernel
theorem dL_isSound_72 : decode cL_isSound 72 = .ok (.if_icmp .ne 66, 3) := by decide +kernel
theorem dL_isSound_75 : decode cL_isSound 75 = .ok (.iload 5, 2) := by decide +kernel
theorem dL_isSound_77 : decode cL_isSound 77 = .ok (.iload_n 2, 1) := by decide +kernel
theorem dL_isSound_78 : decode cL_isSound 78 = .ok (.idiv, 1) := by decide +kernel
theorem dL_isSound_79 : decode cL_isSound 79 = .ok (.iload 4, 2) := by decide +kernel
theorem dL_isSound_81 : decode cL_isSound 81 = .ok (.iload_n 2, 1) := by decide +kernel
theorem dL_isSound_82 : decode cL_isSound 82 = .ok (.idiv, 1) := by decide +kernel
theorem dL_isSound_83 : decode cL_isSound 83 = .ok (.iload_n 1, 1) := by decide +kernel
theorem dL_isSound_84 : decode cL_isSound 84 = .ok (.iadd, 1) := by decide +kernel
theorem dL_isSound_85 : decode cL_isSound 85 = .ok (.if_icmp .ne 53, 3) := by decide +kernel
theorem dL_isSound_88 : decode cL_isSound 88 = .ok (.iload 5, 2) := by decide +kernel
theorem dL_isSound_90 : decode cL_isSound 90 = .ok (.iload_n 2, 1) := by decide +kernel
theorem dL_isSound_91 : decode cL_isSound 91 = .ok (.irem, 1) := by decide +kernel
theorem dL_isSound_92 : decode cL_isSound 92 = .ok (.iload 4, 2) := by decide +kernel
theorem dL_isSound_94 : decode cL_isSound 94 = .ok (.iload_n 2, 1) := by decide +kernel
theorem dL_isSound_95 : decode cL_isSound 95 = .ok (.irem, 1) := by decide +kernel
theorem dL_isSound_96 : decode cL_isSound 96 = .ok (.isub, 1) := by decide +kernel
theorem dL_isSound_97 : decode cL_isSound 97 = .ok (.invokestatic 121, 3) := by decide +kernel
theorem dL_isSound_100 : decode cL_isSound 100 = .ok (.iconst 1, 1) := by decide +kernel
theorem dL_isSound_101 : decode cL_isSound 101 = .ok (.if_icmp .gt 37, 3) := by decide +kernel
theorem dL_isSound_104 : decode cL_isSound 104 = .ok (.iload 6, 2) := by decide +kernel
theorem dL_isSound_106 : decode cL_isSound 106 = .ok (.aload_n 0, 1) := by decide +kernel
theorem dL_isSound_107 : decode cL_isSound 107 = .ok (.iload_n 3, 1) := by decide +kernel
theorem dL_isSound_108 : decode cL_isSound 108 = .ok (.invokevirtual 124, 3) := by decide +kernel
theorem dL_isSound_111 : decode cL_isSound 111 = .ok (.if_icmp .ne 27, 3) := by decide +kernel
theorem dL_isSound_114 : decode cL_isSound 114 = .ok (.aload_n 0, 1) := by decide +kernel
theorem dL_isSound_115 : decode cL_isSound 115 = .ok (.iload 5, 2) := by decide +kernel
theorem dL_isSound_117 : decode cL_isSound 117 = .ok (.invokevirtual 118, 3) := by decide +kernel
theorem dL_isSound_120 : decode cL_isSound 120 = .ok (.iload 6, 2) := by decide +kernel
theorem dL_isSound_122 : decode cL_isSound 122 = .ok (.ifCond .eq 12, 3) := by decide +kernel
theorem dL_isSound_125 : decode cL_isSound 125 = .ok (.iconst 2, 1) := by decide +kernel
theorem dL_isSound_126 : decode cL_isSound 126 = .ok (.aload_n 0, 1) := by decide +kernel
theorem dL_isSound_127 : decode cL_isSound 127 = .ok (.invokevirtual 37, 3) := by decide +kernel
theorem dL_isSound_130 : decode cL_isSound 130 = .ok (.isub, 1) := by decide +kernel
theorem dL_isSound_131 : decode cL_isSound 131 = .ok (.goto 4, 3) := by decide +kernel
theorem dL_isSound_134 : decode cL_isSound 134 = .ok (.iconst 0, 1) := by decide +kernel
theorem dL_isSound_135 : decode cL_isSound 135 = .ok (.if_icmp .eq 5, 3) := by decide +kernel
theorem dL_isSound_138 : decode cL_isSound 138 = .ok (.iconst 0, 1) := by decide +kernel
theorem dL_isSound_139 : decode cL_isSound 139 = .ok (.ireturn, 1) := by decide +kernel
theorem dL_isSound_140 : decode cL_isSound 140 = .ok (.iload_n 3, 1) := by decide +kernel
theorem dL_isSound_141 : decode cL_isSound 141 = .ok (.ifCond .le 41, 3) := by decide +kernel
theorem dL_isSound_144 : decode cL_isSound 144 = .ok (.iload 4, 2) := by decide +kernel
theorem dL_isSound_146 : decode cL_isSound 146 = .ok (.aload_n 0, 1) := by decide +kernel
theorem dL_isSound_147 : decode cL_isSound 147 = .ok (.iload_n 3, 1) := by decide +kernel
theorem dL_isSound_148 : decode cL_isSound 148 = .ok (.iconst 1, 1) := by decide +kernel
theorem dL_isSound_149 : decode cL_isSound 149 = .ok (.isub, 1) := by decide +kernel
theorem dL_isSound_150 : decode cL_isSound 150 = .ok (.invokevirtual 112, 3) := by decide +kernel
theorem dL_isSound_153 : decode cL_isSound 153 = .ok (.if_icmp .lt 27, 3) := by decide +kernel
theorem dL_isSound_156 : decode cL_isSound 156 = .ok (.iload 4, 2) := by decide +kernel
theorem dL_isSound_158 : decode cL_isSound 158 = .ok (.aload_n 0, 1) := by decide +kernel
theorem dL_isSound_159 : decode cL_isSound 159 = .ok (.iload_n 3, 1) := by decide +kernel
theorem dL_isSound_160 : decode cL_isSound 160 = .ok (.iconst 1, 1) := by decide +kernel
theorem dL_isSound_161 : decode cL_isSound 161 = .ok (.isub, 1) := by decide +kernel
theorem dL_isSound_162 : decode cL_isSound 162 = .ok (.invokevirtual 112, 3) := by decide +kernel
theorem dL_isSound_165 : decode cL_isSound 165 = .ok (.if_icmp .ne 17, 3) := by decide +kernel
theorem dL_isSound_168 : decode cL_isSound 168 = .ok (.iload 5, 2) := by decide +kernel
theorem dL_isSound_170 : decode cL_isSound 170 = .ok (.aload_n 0, 1) := by decide +kernel
theorem dL_isSound_171 : decode cL_isSound 171 = .ok (.iload_n 3, 1) := by decide +kernel
theorem dL_isSound_172 : decode cL_isSound 172 = .ok (.iconst 1, 1) := by decide +kernel
theorem dL_isSound_173 : decode cL_isSound 173 = .ok (.isub, 1) := by decide +kernel
theorem dL_isSound_174 : decode cL_isSound 174 = .ok (.invokevirtual 115, 3) := by decide +kernel
theorem dL_isSound_177 : decode cL_isSound 177 = .ok (.if_icmp .gt 5, 3) := by decide +kernel
theorem dL_isSound_180 : decode cL_isSound 180 = .ok (.iconst 0, 1) := by decide +kernel
theorem dL_isSound_181 : decode cL_isSound 181 = .ok (.ireturn, 1) := by decide +kernel
theorem dL_isSound_182 : decode cL_isSound 182 = .ok (.aload_n 0, 1) := by decide +kernel
theorem dL_isSound_183 : decode cL_isSound 183 = .ok (.iload_n 3, 1) := by decide +kernel
theorem dL_isSound_184 : decode cL_isSound 184 = .ok (.iconst 1, 1) := by decide +kernel
theorem dL_isSound_185 : decode cL_isSound 185 = .ok (.invokevirtual 128, 3) := by decide +kernel
theorem dL_isSound_188 : decode cL_isSound 188 = .ok (.aload_n 0, 1) := by decide +kernel
theorem dL_isSound_189 : decode cL_isSound 189 = .ok (.iconst 1, 1) := by decide +kernel
theorem dL_isSound_190 : decode cL_isSound 190 = .ok (.invokevirtual 97, 3) := by decide +kernel
theorem dL_isSound_193 : decode cL_isSound 193 = .ok (.if_icmp .le 5, 3) := by decide +kernel
theorem dL_isSound_196 : decode cL_isSound 196 = .ok (.iconst 0, 1) := by decide +kernel
theorem dL_isSound_197 : decode cL_isSound 197 = .ok (.ireturn, 1) := by decide +kernel
theorem dL_isSound_198 : decode cL_isSound 198 = .ok (.iinc 3 1, 3) := by decide +kernel
theorem dL_isSound_201 : decode cL_isSound 201 = .ok (.goto (-181), 3) := by decide +kernel
theorem dL_isSound_204 : decode cL_isSound 204 = .ok (.aload_n 0, 1) := by decide +kernel
theorem dL_isSound_205 : decode cL_isSound 205 = .ok (.invokevirtual 131, 3) := by decide +kernel
theorem dL_isSound_208 : decode cL_isSound 208 = .ok (.aload_n 0, 1) := by decide +kernel
theorem dL_isSound_209 : decode cL_isSound 209 = .ok (.invokevirtual 54, 3) := by decide +kernel
theorem dL_isSound_212 : decode cL_isSound 212 = .ok (.ifCond .ne 7, 3) := by decide +kernel
theorem dL_isSound_215 : decode cL_isSound 215 = .ok (.iconst 1, 1) := by decide +kernel
theorem dL_isSound_216 : decode cL_isSound 216 = .ok (.goto 4, 3) := by decide +kernel
theorem dL_isSound_219 : decode cL_isSound 219 = .ok (.iconst 0, 1) := by decide +kernel
theorem dL_isSound_220 : decode cL_isSound 220 = .ok (.if_icmp .ne 24, 3) := by decide +kernel
theorem dL_isSound_223 : decode cL_isSound 223 = .ok (.aload_n 0, 1) := by decide +kernel
theorem dL_isSound_224 : decode cL_isSound 224 = .ok (.iconst 1, 1) := by decide +kernel
theorem dL_isSound_225 : decode cL_isSound 225 = .ok (.invokevirtual 135, 3) := by decide +kernel
theorem dL_isSound_228 : decode cL_isSound 228 = .ok (.aload_n 0, 1) := by decide +kernel
theorem dL_isSound_229 : decode cL_isSound 229 = .ok (.invokevirtual 54, 3) := by decide +kernel
theorem dL_isSound_232 : decode cL_isSound 232 = .ok (.if_icmp .ne 12, 3) := by decide +kernel
theorem dL_isSound_235 : decode cL_isSound 235 = .ok (.aload_n 0, 1) := by decide +kernel
theorem dL_isSound_236 : decode cL_isSound 236 = .ok (.iconst 0, 1) := by decide +kernel
theorem dL_isSound_237 : decode cL_isSound 237 = .ok (.invokevirtual 135, 3) := by decide +kernel
theorem dL_isSound_240 : decode cL_isSound 240 = .ok (.iconst 1, 1) := by decide +kernel
theorem dL_isSound_241 : decode cL_isSound 241 = .ok (.if_icmp .eq 5, 3) := by decide +kernel
theorem dL_isSound_244 : decode cL_isSound 244 = .ok (.iconst 0, 1) := by decide +kernel
theorem dL_isSound_245 : decode cL_isSound 245 = .ok (.ireturn, 1) := by decide +kernel
theorem dL_isSound_246 : decode cL_isSound 246 = .ok (.aload_n 0, 1) := by decide +kernel
theorem dL_isSound_247 : decode cL_isSound 247 = .ok (.invokevirtual 131, 3) := by decide +kernel
theorem dL_isSound_250 : decode cL_isSound 250 = .ok (.ifCond .eq 22, 3) := by decide +kernel
theorem dL_isSound_253 : decode cL_isSound 253 = .ok (.aload_n 0, 1) := by decide +kernel
theorem dL_isSound_254 : decode cL_isSound 254 = .ok (.iconst 2, 1) := by decide +kernel
theorem dL_isSound_255 : decode cL_isSound 255 = .ok (.invokevirtual 97, 3) := by decide +kernel
theorem dL_isSound_258 : decode cL_isSound 258 = .ok (.sipush (-1002), 3) := by decide +kernel
theorem dL_isSound_261 : decode cL_isSound 261 = .ok (.if_icmp .ne 22, 3) := by decide +kernel
theorem dL_isSound_264 : decode cL_isSound 264 = .ok (.aload_n 0, 1) := by decide +kernel
theorem dL_isSound_265 : decode cL_isSound 265 = .ok (.invokevirtual 138, 3) := by decide +kernel
theorem dL_isSound_268 : decode cL_isSound 268 = .ok (.iconst (-1), 1) := by decide +kernel
theorem dL_isSound_269 : decode cL_isSound 269 = .ok (.if_icmp .ne 14, 3) := by decide +kernel
theorem dL_isSound_272 : decode cL_isSound 272 = .ok (.aload_n 0, 1) := by decide +kernel
theorem dL_isSound_273 : decode cL_isSound 273 = .ok (.invokevirtual 138, 3) := by decide +kernel
theorem dL_isSound_276 : decode cL_isSound 276 = .ok (.aload_n 0, 1) := by decide +kernel
theorem dL_isSound_277 : decode cL_isSound 277 = .ok (.invokevirtual 54, 3) := by decide +kernel
theorem dL_isSound_280 : decode cL_isSound 280 = .ok (.if_icmp .lt 5, 3) := by decide +kernel
theorem dL_isSound_283 : decode cL_isSound 283 = .ok (.iconst 0, 1) := by decide +kernel
theorem dL_isSound_284 : decode cL_isSound 284 = .ok (.ireturn, 1) := by decide +kernel
theorem dL_isSound_285 : decode cL_isSound 285 = .ok (.aload_n 0, 1) := by decide +kernel
theorem dL_isSound_286 : decode cL_isSound 286 = .ok (.invokevirtual 51, 3) := by decide +kernel
theorem dL_isSound_289 : decode cL_isSound 289 = .ok (.aload_n 0, 1) := by decide +kernel
theorem dL_isSound_290 : decode cL_isSound 290 = .ok (.invokevirtual 141, 3) := by decide +kernel
theorem dL_isSound_293 : decode cL_isSound 293 = .ok (.if_icmp .gt 51, 3) := by decide +kernel
theorem dL_isSound_296 : decode cL_isSound 296 = .ok (.aload_n 0, 1) := by decide +kernel
theorem dL_isSound_297 : decode cL_isSound 297 = .ok (.invokevirtual 144, 3) := by decide +kernel
theorem dL_isSound_300 : decode cL_isSound 300 = .ok (.iconst 4, 1) := by decide +kernel
theorem dL_isSound_301 : decode cL_isSound 301 = .ok (.if_icmp .gt 43, 3) := by decide +kernel
theorem dL_isSound_304 : decode cL_isSound 304 = .ok (.aload_n 0, 1) := by decide +kernel
theorem dL_isSound_305 : decode cL_isSound 305 = .ok (.invokevirtual 147, 3) := by decide +kernel
theorem dL_isSound_308 : decode cL_isSound 308 = .ok (.aload_n 0, 1) := by decide +kernel
theorem dL_isSound_309 : decode cL_isSound 309 = .ok (.invokevirtual 150, 3) := by decide +kernel
theorem dL_isSound_312 : decode cL_isSound 312 = .ok (.if_icmp .gt 32, 3) := by decide +kernel
theorem dL_isSound_315 : decode cL_isSound 315 = .ok (.aload_n 0, 1) := by decide +kernel
theorem dL_isSound_316 : decode cL_isSound 316 = .ok (.invokevirtual 153, 3) := by decide +kernel
theorem dL_isSound_319 : decode cL_isSound 319 = .ok (.aload_n 0, 1) := by decide +kernel
theorem dL_isSound_320 : decode cL_isSound 320 = .ok (.invokevirtual 150, 3) := by decide +kernel
theorem dL_isSound_323 : decode cL_isSound 323 = .ok (.if_icmp .gt 21, 3) := by decide +kernel
theorem dL_isSound_326 : decode cL_isSound 326 = .ok (.aload_n 0, 1) := by decide +kernel
theorem dL_isSound_327 : decode cL_isSound 327 = .ok (.invokevirtual 156, 3) := by decide +kernel
theorem dL_isSound_330 : decode cL_isSound 330 = .ok (.bipush 30, 2) := by decide +kernel
theorem dL_isSound_332 : decode cL_isSound 332 = .ok (.if_icmp .gt 12, 3) := by decide +kernel
theorem dL_isSound_335 : decode cL_isSound 335 = .ok (.aload_n 0, 1) := by decide +kernel
theorem dL_isSound_336 : decode cL_isSound 336 = .ok (.invokevirtual 40, 3) := by decide +kernel
theorem dL_isSound_339 : decode cL_isSound 339 = .ok (.bipush 40, 2) := by decide +kernel
theorem dL_isSound_341 : decode cL_isSound 341 = .ok (.if_icmp .le 5, 3) := by decide +kernel
theorem dL_isSound_344 : decode cL_isSound 344 = .ok (.iconst 0, 1) := by decide +kernel
theorem dL_isSound_345 : decode cL_isSound 345 = .ok (.ireturn, 1) := by decide +kernel
theorem dL_isSound_346 : decode cL_isSound 346 = .ok (.iconst 3, 1) := by decide +kernel
theorem dL_isSound_347 : decode cL_isSound 347 = .ok (.newarray .int, 2) := by decide +kernel
theorem dL_isSound_349 : decode cL_isSound 349 = .ok (.astore_n 3, 1) := by decide +kernel
theorem dL_isSound_350 : decode cL_isSound 350 = .ok (.iconst 0, 1) := by decide +kernel
theorem dL_isSound_351 : decode cL_isSound 351 = .ok (.istore 4, 2) := by decide +kernel
theorem dL_isSound_353 : decode cL_isSound 353 = .ok (.iload 4, 2) := by decide +kernel
theorem dL_isSound_355 : decode cL_isSound 355 = .ok (.iload_n 2, 1) := by decide +kernel
theorem dL_isSound_356 : decode cL_isSound 356 = .ok (.aload_n 0, 1) := by decide +kernel
theorem dL_isSound_357 : decode cL_isSound 357 = .ok (.invokevirtual 34, 3) := by decide +kernel
theorem dL_isSound_360 : decode cL_isSound 360 = .ok (.imul, 1) := by decide +kernel
theorem dL_isSound_361 : decode cL_isSound 361 = .ok (.if_icmp .ge 21, 3) := by decide +kernel
theorem dL_isSound_364 : decode cL_isSound 364 = .ok (.aload_n 3, 1) := by decide +kernel
theorem dL_isSound_365 : decode cL_isSound 365 = .ok (.aload_n 0, 1) := by decide +kernel
theorem dL_isSound_366 : decode cL_isSound 366 = .ok (.iload 4, 2) := by decide +kernel
theorem dL_isSound_368 : decode cL_isSound 368 = .ok (.invokevirtual 118, 3) := by decide +kernel
theorem dL_isSound_371 : decode cL_isSound 371 = .ok (.dup2, 1) := by decide +kernel
theorem dL_isSound_372 : decode cL_isSound 372 = .ok (.iaload, 1) := by decide +kernel
theorem dL_isSound_373 : decode cL_isSound 373 = .ok (.iconst 1, 1) := by decide +kernel
theorem dL_isSound_374 : decode cL_isSound 374 = .ok (.iadd, 1) := by decide +kernel
theorem dL_isSound_375 : decode cL_isSound 375 = .ok (.iastore, 1) := by decide +kernel
theorem dL_isSound_376 : decode cL_isSound 376 = .ok (.iinc 4 1, 3) := by decide +kernel
theorem dL_isSound_379 : decode cL_isSound 379 = .ok (.goto (-26), 3) := by decide +kernel
theorem dL_isSound_382 : decode cL_isSound 382 = .ok (.aload_n 3, 1) := by decide +kernel
theorem dL_isSound_383 : decode cL_isSound 383 = .ok (.iconst 1, 1) := by decide +kernel
theorem dL_isSound_384 : decode cL_isSound 384 = .ok (.iaload, 1) := by decide +kernel
theorem dL_isSound_385 : decode cL_isSound 385 = .ok (.bipush 6, 2) := by decide +kernel
theorem dL_isSound_387 : decode cL_isSound 387 = .ok (.if_icmp .gt 11, 3) := by decide +kernel
theorem dL_isSound_390 : decode cL_isSound 390 = .ok (.aload_n 3, 1) := by decide +kernel
theorem dL_isSound_391 : decode cL_isSound 391 = .ok (.iconst 2, 1) := by decide +kernel
theorem dL_isSound_392 : decode cL_isSound 392 = .ok (.iaload, 1) := by decide +kernel
theorem dL_isSound_393 : decode cL_isSound 393 = .ok (.bipush 6, 2) := by decide +kernel
theorem dL_isSound_395 : decode cL_isSound 395 = .ok (.if_icmp .le 5, 3) := by decide +kernel
theorem dL_isSound_398 : decode cL_isSound 398 = .ok (.iconst 0, 1) := by decide +kernel
theorem dL_isSound_399 : decode cL_isSound 399 = .ok (.ireturn, 1) := by decide +kernel
theorem dL_isSound_400 : decode cL_isSound 400 = .ok (.iconst 0, 1) := by decide +kernel
theorem dL_isSound_401 : decode cL_isSound 401 = .ok (.istore 4, 2) := by decide +kernel
theorem dL_isSound_403 : decode cL_isSound 403 = .ok (.iconst 0, 1) := by decide +kernel
theorem dL_isSound_404 : decode cL_isSound 404 = .ok (.istore 5, 2) := by decide +kernel
theorem dL_isSound_406 : decode cL_isSound 406 = .ok (.iload 5, 2) := by decide +kernel
theorem dL_isSound_408 : decode cL_isSound 408 = .ok (.aload_n 0, 1) := by decide +kernel
theorem dL_isSound_409 : decode cL_isSound 409 = .ok (.invokevirtual 141, 3) := by decide +kernel
theorem dL_isSound_412 : decode cL_isSound 412 = .ok (.if_icmp .ge 91, 3) := by decide +kernel
theorem dL_isSound_415 : decode cL_isSound 415 = .ok (.aload_n 0, 1) := by decide +kernel
theorem dL_isSound_416 : decode cL_isSound 416 = .ok (.iload 5, 2) := by decide +kernel
theorem dL_isSound_418 : decode cL_isSound 418 = .ok (.iconst 0, 1) := by decide +kernel
theorem dL_isSound_419 : decode cL_isSound 419 = .ok (.invokevirtual 159, 3) := by decide +kernel
theorem dL_isSound_422 : decode cL_isSound 422 = .ok (.ifCond .lt 7, 3) := by decide +kernel
theorem dL_isSound_425 : decode cL_isSound 425 = .ok (.iconst 1, 1) := by decide +kernel
theorem dL_isSound_426 : decode cL_isSound 426 = .ok (.goto 4, 3) := by decide +kernel
theorem dL_isSound_429 : decode cL_isSound 429 = .ok (.iconst 0, 1) := by decide +kernel
theorem dL_isSound_430 : decode cL_isSound 430 = .ok (.istore 6, 2) := by decide +kernel
theorem dL_isSound_432 : decode cL_isSound 432 = .ok (.iload 4, 2) := by decide +kernel
theorem dL_isSound_434 : decode cL_isSound 434 = .ok (.iload 6, 2) := by decide +kernel
theorem dL_isSound_436 : decode cL_isSound 436 = .ok (.ifCond .eq 7, 3) := by decide +kernel
theorem dL_isSound_439 : decode cL_isSound 439 = .ok (.iconst 1, 1) := by decide +kernel
theorem dL_isSound_440 : decode cL_isSound 440 = .ok (.goto 4, 3) := by decide +kernel
theorem dL_isSound_443 : decode cL_isSound 443 = .ok (.iconst 0, 1) := by decide +kernel
theorem dL_isSound_444 : decode cL_isSound 444 = .ok (.iadd, 1) := by decide +kernel
theorem dL_isSound_445 : decode cL_isSound 445 = .ok (.istore 4, 2) := by decide +kernel
theorem dL_isSound_447 : decode cL_isSound 447 = .ok (.iload 6, 2) := by decide +kernel
theorem dL_isSound_449 : decode cL_isSound 449 = .ok (.ifCond .eq 48, 3) := by decide +kernel
theorem dL_isSound_452 : decode cL_isSound 452 = .ok (.aload_n 0, 1) := by decide +kernel
theorem dL_isSound_453 : decode cL_isSound 453 = .ok (.iload 5, 2) := by decide +kernel
theorem dL_isSound_455 : decode cL_isSound 455 = .ok (.iconst 0, 1) := by decide +kernel
theorem dL_isSound_456 : decode cL_isSound 456 = .ok (.invokevirtual 159, 3) := by decide +kernel
theorem dL_isSound_459 : decode cL_isSound 459 = .ok (.iconst 1, 1) := by decide +kernel
theorem dL_isSound_460 : decode cL_isSound 460 = .ok (.if_icmp .lt 35, 3) := by decide +kernel
theorem dL_isSound_463 : decode cL_isSound 463 = .ok (.aload_n 0, 1) := by decide +kernel
theorem dL_isSound_464 : decode cL_isSound 464 = .ok (.iload 5, 2) := by decide +kernel
theorem dL_isSound_466 : decode cL_isSound 466 = .ok (.iconst 0, 1) := by decide +kernel
theorem dL_isSound_467 : decode cL_isSound 467 = .ok (.invokevirtual 159, 3) := by decide +kernel
theorem dL_isSound_470 : decode cL_isSound 470 = .ok (.iconst 4, 1) := by decide +kernel
theorem dL_isSound_471 : decode cL_isSound 471 = .ok (.if_icmp .gt 24, 3) := by decide +kernel
theorem dL_isSound_474 : decode cL_isSound 474 = .ok (.aload_n 0, 1) := by decide +kernel
theorem dL_isSound_475 : decode cL_isSound 475 = .ok (.iload 5, 2) := by decide +kernel
theorem dL_isSound_477 : decode cL_isSound 477 = .ok (.iconst 2, 1) := by decide +kernel
theorem dL_isSound_478 : decode cL_isSound 478 = .ok (.invokevirtual 159, 3) := by decide +kernel
theorem dL_isSound_481 : decode cL_isSound 481 = .ok (.iconst 2, 1) := by decide +kernel
theorem dL_isSound_482 : decode cL_isSound 482 = .ok (.if_icmp .gt 13, 3) := by decide +kernel
theorem dL_isSound_485 : decode cL_isSound 485 = .ok (.aload_n 0, 1) := by decide +kernel
theorem dL_isSound_486 : decode cL_isSound 486 = .ok (.iload 5, 2) := by decide +kernel
theorem dL_isSound_488 : decode cL_isSound 488 = .ok (.iconst 3, 1) := by decide +kernel
theorem dL_isSound_489 : decode cL_isSound 489 = .ok (.invokevirtual 159, 3) := by decide +kernel
theorem dL_isSound_492 : decode cL_isSound 492 = .ok (.ifCond .ge 5, 3) := by decide +kernel
theorem dL_isSound_495 : decode cL_isSound 495 = .ok (.iconst 0, 1) := by decide +kernel
theorem dL_isSound_496 : decode cL_isSound 496 = .ok (.ireturn, 1) := by decide +kernel
theorem dL_isSound_497 : decode cL_isSound 497 = .ok (.iinc 5 1, 3) := by decide +kernel
theorem dL_isSound_500 : decode cL_isSound 500 = .ok (.goto (-94), 3) := by decide +kernel
theorem dL_isSound_503 : decode cL_isSound 503 = .ok (.iconst 0, 1) := by decide +kernel
theorem dL_isSound_504 : decode cL_isSound 504 = .ok (.istore 5, 2) := by decide +kernel
theorem dL_isSound_506 : decode cL_isSound 506 = .ok (.iload 5, 2) := by decide +kernel
theorem dL_isSound_508 : decode cL_isSound 508 = .ok (.aload_n 0, 1) := by decide +kernel
theorem dL_isSound_509 : decode cL_isSound 509 = .ok (.invokevirtual 141, 3) := by decide +kernel
theorem dL_isSound_512 : decode cL_isSound 512 = .ok (.if_icmp .ge 101, 3) := by decide +kernel
theorem dL_isSound_515 : decode cL_isSound 515 = .ok (.aload_n 0, 1) := by decide +kernel
theorem dL_isSound_516 : decode cL_isSound 516 = .ok (.invokevirtual 162, 3) := by decide +kernel
theorem dL_isSound_519 : decode cL_isSound 519 = .ok (.aload_n 0, 1) := by decide +kernel
theorem dL_isSound_520 : decode cL_isSound 520 = .ok (.invokevirtual 141, 3) := by decide +kernel
theorem dL_isSound_523 : decode cL_isSound 523 = .ok (.i2l, 1) := by decide +kernel
theorem dL_isSound_524 : decode cL_isSound 524 = .ok (.lrem, 1) := by decide +kernel
theorem dL_isSound_525 : decode cL_isSound 525 = .ok (.iload 5, 2) := by decide +kernel
theorem dL_isSound_527 : decode cL_isSound 527 = .ok (.i2l, 1) := by decide +kernel
theorem dL_isSound_528 : decode cL_isSound 528 = .ok (.lcmp, 1) := by decide +kernel
theorem dL_isSound_529 : decode cL_isSound 529 = .ok (.ifCond .ne 78, 3) := by decide +kernel
theorem dL_isSound_532 : decode cL_isSound 532 = .ok (.aload_n 0, 1) := by decide +kernel
theorem dL_isSound_533 : decode cL_isSound 533 = .ok (.invokevirtual 144, 3) := by decide +kernel
theorem dL_isSound_536 : decode cL_isSound 536 = .ok (.ifCond .eq 71, 3) := by decide +kernel
theorem dL_isSound_539 : decode cL_isSound 539 = .ok (.aload_n 0, 1) := by decide +kernel
theorem dL_isSound_540 : decode cL_isSound 540 = .ok (.invokevirtual 144, 3) := by decide +kernel
theorem dL_isSound_543 : decode cL_isSound 543 = .ok (.iconst 3, 1) := by decide +kernel
theorem dL_isSound_544 : decode cL_isSound 544 = .ok (.if_icmp .le 6, 3) := by decide +kernel
theorem dL_isSound_547 : decode cL_isSound 547 = .ok (.goto 60, 3) := by decide +kernel
theorem dL_isSound_550 : decode cL_isSound 550 = .ok (.aload_n 0, 1) := by decide +kernel
theorem dL_isSound_551 : decode cL_isSound 551 = .ok (.aload_n 0, 1) := by decide +kernel
theorem dL_isSound_552 : decode cL_isSound 552 = .ok (.invokevirtual 144, 3) := by decide +kernel
theorem dL_isSound_555 : decode cL_isSound 555 = .ok (.invokevirtual 97, 3) := by decide +kernel
theorem dL_isSound_558 : decode cL_isSound 558 = .ok (.istore 6, 2) := by decide +kernel
theorem dL_isSound_560 : decode cL_isSound 560 = .ok (.aload_n 0, 1) := by decide +kernel
theorem dL_isSound_561 : decode cL_isSound 561 = .ok (.iload 5, 2) := by decide +kernel
theorem dL_isSound_563 : decode cL_isSound 563 = .ok (.iconst 2, 1) := by decide +kernel
theorem dL_isSound_564 : decode cL_isSound 564 = .ok (.invokevirtual 159, 3) := by decide +kernel
theorem dL_isSound_567 : decode cL_isSound 567 = .ok (.istore 7, 2) := by decide +kernel
theorem dL_isSound_569 : decode cL_isSound 569 = .ok (.iload 7, 2) := by decide +kernel
theorem dL_isSound_571 : decode cL_isSound 571 = .ok (.iconst 2, 1) := by decide +kernel
theorem dL_isSound_572 : decode cL_isSound 572 = .ok (.if_icmp .eq 15, 3) := by decide +kernel
theorem dL_isSound_575 : decode cL_isSound 575 = .ok (.aload_n 0, 1) := by decide +kernel
theorem dL_isSound_576 : decode cL_isSound 576 = .ok (.iload 5, 2) := by decide +kernel
theorem dL_isSound_578 : decode cL_isSound 578 = .ok (.iconst 1, 1) := by decide +kernel
theorem dL_isSound_579 : decode cL_isSound 579 = .ok (.invokevirtual 159, 3) := by decide +kernel
theorem dL_isSound_582 : decode cL_isSound 582 = .ok (.iload 6, 2) := by decide +kernel
theorem dL_isSound_584 : decode cL_isSound 584 = .ok (.if_icmp .gt 21, 3) := by decide +kernel
theorem dL_isSound_587 : decode cL_isSound 587 = .ok (.iload 7, 2) := by decide +kernel
theorem dL_isSound_589 : decode cL_isSound 589 = .ok (.iconst 1, 1) := by decide +kernel
theorem dL_isSound_590 : decode cL_isSound 590 = .ok (.if_icmp .eq 17, 3) := by decide +kernel
theorem dL_isSound_593 : decode cL_isSound 593 = .ok (.aload_n 0, 1) := by decide +kernel
theorem dL_isSound_594 : decode cL_isSound 594 = .ok (.iload 5, 2) := by decide +kernel
theorem dL_isSound_596 : decode cL_isSound 596 = .ok (.iconst 1, 1) := by decide +kernel
theorem dL_isSound_597 : decode cL_isSound 597 = .ok (.invokevirtual 159, 3) := by decide +kernel
theorem dL_isSound_600 : decode cL_isSound 600 = .ok (.iload 6, 2) := by decide +kernel
theorem dL_isSound_602 : decode cL_isSound 602 = .ok (.if_icmp .ge 5, 3) := by decide +kernel
theorem dL_isSound_605 : decode cL_isSound 605 = .ok (.iconst 0, 1) := by decide +kernel
theorem dL_isSound_606 : decode cL_isSound 606 = .ok (.ireturn, 1) := by decide +kernel
theorem dL_isSound_607 : decode cL_isSound 607 = .ok (.iinc 5 1, 3) := by decide +kernel
theorem dL_isSound_610 : decode cL_isSound 610 = .ok (.goto (-104), 3) := by decide +kernel
theorem dL_isSound_613 : decode cL_isSound 613 = .ok (.aload_n 0, 1) := by decide +kernel
theorem dL_isSound_614 : decode cL_isSound 614 = .ok (.invokevirtual 51, 3) := by decide +kernel
theorem dL_isSound_617 : decode cL_isSound 617 = .ok (.iload 4, 2) := by decide +kernel
theorem dL_isSound_619 : decode cL_isSound 619 = .ok (.if_icmp .ne 7, 3) := by decide +kernel
theorem dL_isSound_622 : decode cL_isSound 622 = .ok (.iconst 1, 1) := by decide +kernel
theorem dL_isSound_623 : decode cL_isSound 623 = .ok (.goto 4, 3) := by decide +kernel
theorem dL_isSound_626 : decode cL_isSound 626 = .ok (.iconst 0, 1) := by decide +kernel
theorem dL_isSound_627 : decode cL_isSound 627 = .ok (.ireturn, 1) := by decide +kernel
