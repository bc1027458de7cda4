theorem dX12_digest_0 : decode cX12_digest 0 = .ok (.aload_n 0, 1) := by decide +kernel
theorem dX12_digest_1 : decode cX12_digest 1 = .ok (.iconst 0, 1) := by decide +kernel
theorem dX12_digest_2 : decode cX12_digest 2 = .ok (.putfield 64, 3) := by decide +kernel
theorem dX12_digest_5 : decode cX12_digest 5 = .ok (.aload_n 0, 1) := by decide +kernel
theorem dX12_digest_6 : decode cX12_digest 6 = .ok (.ldc2_w 262, 3) := by decide +kernel
theorem dX12_digest_9 : decode cX12_digest 9 = .ok (.putfield 256, 3) := by decide +kernel
theorem dX12_digest_12 : decode cX12_digest 12 = .ok (.aload_n 0, 1) := by decide +kernel
theorem dX12_digest_13 : decode cX12_digest 13 = .ok (.aload_n 0, 1) := by decide +kernel
theorem dX12_digest_14 : decode cX12_digest 14 = .ok (.getfield 67, 3) := by decide +kernel
theorem dX12_digest_17 : decode cX12_digest 17 = .ok (.i2l, 1) := by decide +kernel
theorem dX12_digest_18 : decode cX12_digest 18 = .ok (.invokevirtual 264, 3) := by decide +kernel
theorem dX12_digest_21 : decode cX12_digest 21 = .ok (.aload_n 0, 1) := by decide +kernel
theorem dX12_digest_22 : decode cX12_digest 22 = .ok (.aload_n 0, 1) := by decide +kernel
theorem dX12_digest_23 : decode cX12_digest 23 = .ok (.getfield 70, 3) := by decide +kernel
theorem dX12_digest_26 : decode cX12_digest 26 = .ok (.i2l, 1) := by decide +kernel
theorem dX12_digest_27 : decode cX12_digest 27 = .ok (.invokevirtual 264, 3) := by decide +kernel
theorem dX12_digest_30 : decode cX12_digest 30 = .ok (.iconst 0, 1) := by decide +kernel
theorem dX12_digest_31 : decode cX12_digest 31 = .ok (.istore_n 1, 1) := by decide +kernel
theorem dX12_digest_32 : decode cX12_digest 32 = .ok (.iload_n 1, 1) := by decide +kernel
theorem dX12_digest_33 : decode cX12_digest 33 = .ok (.iconst 1, 1) := by decide +kernel
theorem dX12_digest_34 : decode cX12_digest 34 = .ok (.iadd, 1) := by decide +kernel
theorem dX12_digest_35 : decode cX12_digest 35 = .ok (.aload_n 0, 1) := by decide +kernel
theorem dX12_digest_36 : decode cX12_digest 36 = .ok (.getfield 73, 3) := by decide +kernel
theorem dX12_digest_39 : decode cX12_digest 39 = .ok (.arraylength, 1) := by decide +kernel
theorem dX12_digest_40 : decode cX12_digest 40 = .ok (.if_icmp .ge 20, 3) := by decide +kernel
theorem dX12_digest_43 : decode cX12_digest 43 = .ok (.aload_n 0, 1) := by decide +kernel
theorem dX12_digest_44 : decode cX12_digest 44 = .ok (.aload_n 0, 1) := by decide +kernel
theorem dX12_digest_45 : decode cX12_digest 45 = .ok (.getfield 73, 3) := by decide +kernel
theorem dX12_digest_48 : decode cX12_digest 48 = .ok (.iload_n 1, 1) := by decide +kernel
theorem dX12_digest_49 : decode cX12_digest 49 = .ok (.iaload, 1) := by decide +kernel
theorem dX12_digest_50 : decode cX12_digest 50 = .ok (.i2l, 1) := by decide +kernel
theorem dX12_digest_51 : decode cX12_digest 51 = .ok (.invokevirtual 264, 3) := by decide +kernel
theorem dX12_digest_54 : decode cX12_digest 54 = .ok (.iinc 1 1, 3) := by decide +kernel
theorem dX12_digest_57 : decode cX12_digest 57 = .ok (.goto (-25), 3) := by decide +kernel
theorem dX12_digest_60 : decode cX12_digest 60 = .ok (.iconst 5, 1) := by decide +kernel
theorem dX12_digest_61 : decode cX12_digest 61 = .ok (.newarray .long, 2) := by decide +kernel
theorem dX12_digest_63 : decode cX12_digest 63 = .ok (.dup, 1) := by decide +kernel
theorem dX12_digest_64 : decode cX12_digest 64 = .ok (.iconst 0, 1) := by decide +kernel
theorem dX12_digest_65 : decode cX12_digest 65 = .ok (.aload_n 0, 1) := by decide +kernel
theorem dX12_digest_66 : decode cX12_digest 66 = .ok (.invokevirtual 94, 3) := by decide +kernel
theorem dX12_digest_69 : decode cX12_digest 69 = .ok (.i2l, 1) := by decide +kernel
theorem dX12_digest_70 : decode cX12_digest 70 = .ok (.lastore, 1) := by decide +kernel
theorem dX12_digest_71 : decode cX12_digest 71 = .ok (.dup, 1) := by decide +kernel
theorem dX12_digest_72 : decode cX12_digest 72 = .ok (.iconst 1, 1) := by decide +kernel
theorem dX12_digest_73 : decode cX12_digest 73 = .ok (.aload_n 0, 1) := by decide +kernel
theorem dX12_digest_74 : decode cX12_digest 74 = .ok (.getfield 76, 3) := by decide +kernel
theorem dX12_digest_77 : decode cX12_digest 77 = .ok (.i2l, 1) := by decide +kernel
theorem dX12_digest_78 : decode cX12_digest 78 = .ok (.lastore, 1) := by decide +kernel
theorem dX12_digest_79 : decode cX12_digest 79 = .ok (.dup, 1) := by decide +kernel
theorem dX12_digest_80 : decode cX12_digest 80 = .ok (.iconst 2, 1) := by decide +kernel
theorem dX12_digest_81 : decode cX12_digest 81 = .ok (.aload_n 0, 1) := by decide +kernel
theorem dX12_digest_82 : decode cX12_digest 82 = .ok (.invokevirtual 104, 3) := by decide +kernel
theorem dX12_digest_85 : decode cX12_digest 85 = .ok (.ifCond .eq 7, 3) := by decide +kernel
theorem dX12_digest_88 : decode cX12_digest 88 = .ok (.lconst 1, 1) := by decide +kernel
theorem dX12_digest_89 : decode cX12_digest 89 = .ok (.goto 4, 3) := by decide +kernel
theorem dX12_digest_92 : decode cX12_digest 92 = .ok (.lconst 0, 1) := by decide +kernel
theorem dX12_digest_93 : decode cX12_digest 93 = .ok (.lastore, 1) := by decide +kernel
theorem dX12_digest_94 : decode cX12_digest 94 = .ok (.dup, 1) := by decide +kernel
theorem dX12_digest_95 : decode cX12_digest 95 = .ok (.iconst 3, 1) := by decide +kernel
theorem dX12_digest_96 : decode cX12_digest 96 = .ok (.aload_n 0, 1) := by decide +kernel
theorem dX12_digest_97 : decode cX12_digest 97 = .ok (.invokevirtual 157, 3) := by decide +kernel
theorem dX12_digest_100 : decode cX12_digest 100 = .ok (.lastore, 1) := by decide +kernel
theorem dX12_digest_101 : decode cX12_digest 101 = .ok (.dup, 1) := by decide +kernel
theorem dX12_digest_102 : decode cX12_digest 102 = .ok (.iconst 4, 1) := by decide +kernel
theorem dX12_digest_103 : decode cX12_digest 103 = .ok (.aload_n 0, 1) := by decide +kernel
theorem dX12_digest_104 : decode cX12_digest 104 = .ok (.invokevirtual 120, 3) := by decide +kernel
theorem dX12_digest_107 : decode cX12_digest 107 = .ok (.i2l, 1) := by decide +kernel
theorem dX12_digest_108 : decode cX12_digest 108 = .ok (.lastore, 1) := by decide +kernel
theorem dX12_digest_109 : decode cX12_digest 109 = .ok (.astore_n 1, 1) := by decide +kernel
theorem dX12_digest_110 : decode cX12_digest 110 = .ok (.aload_n 1, 1) := by decide +kernel
theorem dX12_digest_111 : decode cX12_digest 111 = .ok (.astore_n 2, 1) := by decide +kernel
theorem dX12_digest_112 : decode cX12_digest 112 = .ok (.aload_n 2, 1) := by decide +kernel
theorem dX12_digest_113 : decode cX12_digest 113 = .ok (.arraylength, 1) := by decide +kernel
theorem dX12_digest_114 : decode cX12_digest 114 = .ok (.istore_n 3, 1) := by decide +kernel
theorem dX12_digest_115 : decode cX12_digest 115 = .ok (.iconst 0, 1) := by decide +kernel
theorem dX12_digest_116 : decode cX12_digest 116 = .ok (.istore 4, 2) := by decide +kernel
theorem dX12_digest_118 : decode cX12_digest 118 = .ok (.iload 4, 2) := by decide +kernel
theorem dX12_digest_120 : decode cX12_digest 120 = .ok (.iload_n 3, 1) := by decide +kernel
theorem dX12_digest_121 : decode cX12_digest 121 = .ok (.if_icmp .ge 21, 3) := by decide +kernel
theorem dX12_digest_124 : decode cX12_digest 124 = .ok (.aload_n 2, 1) := by decide +kernel
theorem dX12_digest_125 : decode cX12_digest 125 = .ok (.iload 4, 2) := by decide +kernel
theorem dX12_digest_127 : decode cX12_digest 127 = .ok (.laload, 1) := by decide +kernel
theorem dX12_digest_128 : decode cX12_digest 128 = .ok (.lstore 5, 2) := by decide +kernel
theorem dX12_digest_130 : decode cX12_digest 130 = .ok (.aload_n 0, 1) := by decide +kernel
theorem dX12_digest_131 : decode cX12_digest 131 = .ok (.lload 5, 2) := by decide +kernel
theorem dX12_digest_133 : decode cX12_digest 133 = .ok (.invokevirtual 264, 3) := by decide +kernel
theorem dX12_digest_136 : decode cX12_digest 136 = .ok (.iinc 4 1, 3) := by decide +kernel
theorem dX12_digest_139 : decode cX12_digest 139 = .ok (.goto (-21), 3) := by decide +kernel
theorem dX12_digest_142 : decode cX12_digest 142 = .ok (.aload_n 0, 1) := by decide +kernel
theorem dX12_digest_143 : decode cX12_digest 143 = .ok (.iconst 0, 1) := by decide +kernel
theorem dX12_digest_144 : decode cX12_digest 144 = .ok (.invokevirtual 123, 3) := by decide +kernel
theorem dX12_digest_147 : decode cX12_digest 147 = .ok (.istore_n 2, 1) := by decide +kernel
theorem dX12_digest_148 : decode cX12_digest 148 = .ok (.aload_n 0, 1) := by decide +kernel
theorem dX12_digest_149 : decode cX12_digest 149 = .ok (.iload_n 2, 1) := by decide +kernel
theorem dX12_digest_150 : decode cX12_digest 150 = .ok (.i2l, 1) := by decide +kernel
theorem dX12_digest_151 : decode cX12_digest 151 = .ok (.invokevirtual 264, 3) := by decide +kernel
theorem dX12_digest_154 : decode cX12_digest 154 = .ok (.iconst 0, 1) := by decide +kernel
theorem dX12_digest_155 : decode cX12_digest 155 = .ok (.istore_n 3, 1) := by decide +kernel
theorem dX12_digest_156 : decode cX12_digest 156 = .ok (.iload_n 3, 1) := by decide +kernel
theorem dX12_digest_157 : decode cX12_digest 157 = .ok (.iload_n 2, 1) := by decide +kernel
theorem dX12_digest_158 : decode cX12_digest 158 = .ok (.if_icmp .ge 41, 3) := by decide +kernel
theorem dX12_digest_161 : decode cX12_digest 161 = .ok (.aload_n 0, 1) := by decide +kernel
theorem dX12_digest_162 : decode cX12_digest 162 = .ok (.aload_n 0, 1) := by decide +kernel
theorem dX12_digest_163 : decode cX12_digest 163 = .ok (.getfield 29, 3) := by decide +kernel
theorem dX12_digest_166 : decode cX12_digest 166 = .ok (.iconst 0, 1) := by decide +kernel
theorem dX12_digest_167 : decode cX12_digest 167 = .ok (.aaload, 1) := by decide +kernel
theorem dX12_digest_168 : decode cX12_digest 168 = .ok (.iload_n 3, 1) := by decide +kernel
theorem dX12_digest_169 : decode cX12_digest 169 = .ok (.iaload, 1) := by decide +kernel
theorem dX12_digest_170 : decode cX12_digest 170 = .ok (.bipush 100, 2) := by decide +kernel
theorem dX12_digest_172 : decode cX12_digest 172 = .ok (.idiv, 1) := by decide +kernel
theorem dX12_digest_173 : decode cX12_digest 173 = .ok (.i2l, 1) := by decide +kernel
theorem dX12_digest_174 : decode cX12_digest 174 = .ok (.invokevirtual 264, 3) := by decide +kernel
theorem dX12_digest_177 : decode cX12_digest 177 = .ok (.aload_n 0, 1) := by decide +kernel
theorem dX12_digest_178 : decode cX12_digest 178 = .ok (.aload_n 0, 1) := by decide +kernel
theorem dX12_digest_179 : decode cX12_digest 179 = .ok (.getfield 29, 3) := by decide +kernel
theorem dX12_digest_182 : decode cX12_digest 182 = .ok (.iconst 0, 1) := by decide +kernel
theorem dX12_digest_183 : decode cX12_digest 183 = .ok (.aaload, 1) := by decide +kernel
theorem dX12_digest_184 : decode cX12_digest 184 = .ok (.iload_n 3, 1) := by decide +kernel
theorem dX12_digest_185 : decode cX12_digest 185 = .ok (.iaload, 1) := by decide +kernel
theorem dX12_digest_186 : decode cX12_digest 186 = .ok (.bipush 100, 2) := by decide +kernel
theorem dX12_digest_188 : decode cX12_digest 188 = .ok (.irem, 1) := by decide +kernel
theorem dX12_digest_189 : decode cX12_digest 189 = .ok (.i2l, 1) := by decide +kernel
theorem dX12_digest_190 : decode cX12_digest 190 = .ok (.invokevirtual 264, 3) := by decide +kernel
theorem dX12_digest_193 : decode cX12_digest 193 = .ok (.iinc 3 1, 3) := by decide +kernel
theorem dX12_digest_196 : decode cX12_digest 196 = .ok (.goto (-40), 3) := by decide +kernel
theorem dX12_digest_199 : decode cX12_digest 199 = .ok (.bipush 8, 2) := by decide +kernel
theorem dX12_digest_201 : decode cX12_digest 201 = .ok (.newarray .int, 2) := by decide +kernel
theorem dX12_digest_203 : decode cX12_digest 203 = .ok (.dup, 1) := by decide +kernel
theorem dX12_digest_204 : decode cX12_digest 204 = .ok (.iconst 0, 1) := by decide +kernel
theorem dX12_digest_205 : decode cX12_digest 205 = .ok (.aload_n 0, 1) := by decide +kernel
theorem dX12_digest_206 : decode cX12_digest 206 = .ok (.iconst 0, 1) := by decide +kernel
theorem dX12_digest_207 : decode cX12_digest 207 = .ok (.iconst 2, 1) := by decide +kernel
theorem dX12_digest_208 : decode cX12_digest 208 = .ok (.invokevirtual 151, 3) := by decide +kernel
theorem dX12_digest_211 : decode cX12_digest 211 = .ok (.iastore, 1) := by decide +kernel
theorem dX12_digest_212 : decode cX12_digest 212 = .ok (.dup, 1) := by decide +kernel
theorem dX12_digest_213 : decode cX12_digest 213 = .ok (.iconst 1, 1) := by decide +kernel
theorem dX12_digest_214 : decode cX12_digest 214 = .ok (.aload_n 0, 1) := by decide +kernel
theorem dX12_digest_215 : decode cX12_digest 215 = .ok (.iconst 0, 1) := by decide +kernel
theorem dX12_digest_216 : decode cX12_digest 216 = .ok (.iconst 1, 1) := by decide +kernel
theorem dX12_digest_217 : decode cX12_digest 217 = .ok (.invokevirtual 148, 3) := by decide +kernel
theorem dX12_digest_220 : decode cX12_digest 220 = .ok (.iastore, 1) := by decide +kernel
theorem dX12_digest_221 : decode cX12_digest 221 = .ok (.dup, 1) := by decide +kernel
theorem dX12_digest_222 : decode cX12_digest 222 = .ok (.iconst 2, 1) := by decide +kernel
theorem dX12_digest_223 : decode cX12_digest 223 = .ok (.aload_n 0, 1) := by decide +kernel
theorem dX12_digest_224 : decode cX12_digest 224 = .ok (.getfield 51, 3) := by decide +kernel
theorem dX12_digest_227 : decode cX12_digest 227 = .ok (.iconst (-1), 1) := by decide +kernel
theorem dX12_digest_228 : decode cX12_digest 228 = .ok (.if_icmp .ne 7, 3) := by decide +kernel
theorem dX12_digest_231 : decode cX12_digest 231 = .ok (.iconst (-1), 1) := by decide +kernel
theorem dX12_digest_232 : decode cX12_digest 232 = .ok (.goto 10, 3) := by decide +kernel
theorem dX12_digest_235 : decode cX12_digest 235 = .ok (.aload_n 0, 1) := by decide +kernel
theorem dX12_digest_236 : decode cX12_digest 236 = .ok (.getfield 51, 3) := by decide +kernel
theorem dX12_digest_239 : decode cX12_digest 239 = .ok (.bipush 100, 2) := by decide +kernel
theorem dX12_digest_241 : decode cX12_digest 241 = .ok (.idiv, 1) := by decide +kernel
theorem dX12_digest_242 : decode cX12_digest 242 = .ok (.iastore, 1) := by decide +kernel
theorem dX12_digest_243 : decode cX12_digest 243 = .ok (.dup, 1) := by decide +kernel
theorem dX12_digest_244 : decode cX12_digest 244 = .ok (.iconst 3, 1) := by decide +kernel
theorem dX12_digest_245 : decode cX12_digest 245 = .ok (.aload_n 0, 1) := by decide +kernel
theorem dX12_digest_246 : decode cX12_digest 246 = .ok (.getfield 51, 3) := by decide +kernel
theorem dX12_digest_249 : decode cX12_digest 249 = .ok (.iconst (-1), 1) := by decide +kernel
theorem dX12_digest_250 : decode cX12_digest 250 = .ok (.if_icmp .ne 7, 3) := by decide +kernel
theorem dX12_digest_253 : decode cX12_digest 253 = .ok (.iconst (-1), 1) := by decide +kernel
theorem dX12_digest_254 : decode cX12_digest 254 = .ok (.goto 10, 3) := by decide +kernel
theorem dX12_digest_257 : decode cX12_digest 257 = .ok (.aload_n 0, 1) := by decide +kernel
theorem dX12_digest_258 : decode cX12_digest 258 = .ok (.getfield 51, 3) := by decide +kernel
theorem dX12_digest_261 : decode cX12_digest 261 = .ok (.bipush 100, 2) := by decide +kernel
theorem dX12_digest_263 : decode cX12_digest 263 = .ok (.irem, 1) := by decide +kernel
theorem dX12_digest_264 : decode cX12_digest 264 = .ok (.iastore, 1) := by decide +kernel
theorem dX12_digest_265 : decode cX12_digest 265 = .ok (.dup, 1) := by decide +kernel
theorem dX12_digest_266 : decode cX12_digest 266 = .ok (.iconst 4, 1) := by decide +kernel
theorem dX12_digest_267 : decode cX12_digest 267 = .ok (.aload_n 0, 1) := by decide +kernel
theorem dX12_digest_268 : decode cX12_digest 268 = .ok (.getfield 207, 3) := by decide +kernel
theorem dX12_digest_271 : decode cX12_digest 271 = .ok (.iastore, 1) := by decide +kernel
theorem dX12_digest_272 : decode cX12_digest 272 = .ok (.dup, 1) := by decide +kernel
theorem dX12_digest_273 : decode cX12_digest 273 = .ok (.iconst 5, 1) := by decide +kernel
theorem dX12_digest_274 : decode cX12_digest 274 = .ok (.aload_n 0, 1) := by decide +kernel
theorem dX12_digest_275 : decode cX12_digest 275 = .ok (.getfield 169, 3) := by decide +kernel
theorem dX12_digest_278 : decode cX12_digest 278 = .ok (.iastore, 1) := by decide +kernel
theorem dX12_digest_279 : decode cX12_digest 279 = .ok (.dup, 1) := by decide +kernel
theorem dX12_digest_280 : decode cX12_digest 280 = .ok (.bipush 6, 2) := by decide +kernel
theorem dX12_digest_282 : decode cX12_digest 282 = .ok (.aload_n 0, 1) := by decide +kernel
theorem dX12_digest_283 : decode cX12_digest 283 = .ok (.getfield 182, 3) := by decide +kernel
theorem dX12_digest_286 : decode cX12_digest 286 = .ok (.iastore, 1) := by decide +kernel
theorem dX12_digest_287 : decode cX12_digest 287 = .ok (.dup, 1) := by decide +kernel
theorem dX12_digest_288 : decode cX12_digest 288 = .ok (.bipush 7, 2) := by decide +kernel
theorem dX12_digest_290 : decode cX12_digest 290 = .ok (.aload_n 0, 1) := by decide +kernel
theorem dX12_digest_291 : decode cX12_digest 291 = .ok (.getfield 198, 3) := by decide +kernel
theorem dX12_digest_294 : decode cX12_digest 294 = .ok (.iastore, 1) := by decide +kernel
theorem dX12_digest_295 : decode cX12_digest 295 = .ok (.astore_n 3, 1) := by decide +kernel
theorem dX12_digest_296 : decode cX12_digest 296 = .ok (.aload_n 3, 1) := by decide +kernel
theorem dX12_digest_297 : decode cX12_digest 297 = .ok (.astore 4, 2) := by decide +kernel
theorem dX12_digest_299 : decode cX12_digest 299 = .ok (.aload 4, 2) := by decide +kernel
theorem dX12_digest_301 : decode cX12_digest 301 = .ok (.arraylength, 1) := by decide +kernel
theorem dX12_digest_302 : decode cX12_digest 302 = .ok (.istore 5, 2) := by decide +kernel
theorem dX12_digest_304 : decode cX12_digest 304 = .ok (.iconst 0, 1) := by decide +kernel
theorem dX12_digest_305 : decode cX12_digest 305 = .ok (.istore 6, 2) := by decide +kernel
theorem dX12_digest_307 : decode cX12_digest 307 = .ok (.iload 6, 2) := by decide +kernel
theorem dX12_digest_309 : decode cX12_digest 309 = .ok (.iload 5, 2) := by decide +kernel
theorem dX12_digest_311 : decode cX12_digest 311 = .ok (.if_icmp .ge 23, 3) := by decide +kernel
theorem dX12_digest_314 : decode cX12_digest 314 = .ok (.aload 4, 2) := by decide +kernel
theorem dX12_digest_316 : decode cX12_digest 316 = .ok (.iload 6, 2) := by decide +kernel
theorem dX12_digest_318 : decode cX12_digest 318 = .ok (.iaload, 1) := by decide +kernel
theorem dX12_digest_319 : decode cX12_digest 319 = .ok (.istore 7, 2) := by decide +kernel
theorem dX12_digest_321 : decode cX12_digest 321 = .ok (.aload_n 0, 1) := by decide +kernel
theorem dX12_digest_322 : decode cX12_digest 322 = .ok (.iload 7, 2) := by decide +kernel
theorem dX12_digest_324 : decode cX12_digest 324 = .ok (.i2l, 1) := by decide +kernel
theorem dX12_digest_325 : decode cX12_digest 325 = .ok (.invokevirtual 264, 3) := by decide +kernel
theorem dX12_digest_328 : decode cX12_digest 328 = .ok (.iinc 6 1, 3) := by decide +kernel
theorem dX12_digest_331 : decode cX12_digest 331 = .ok (.goto (-24), 3) := by decide +kernel
theorem dX12_digest_334 : decode cX12_digest 334 = .ok (.iconst 1, 1) := by decide +kernel
theorem dX12_digest_335 : decode cX12_digest 335 = .ok (.istore 4, 2) := by decide +kernel
theorem dX12_digest_337 : decode cX12_digest 337 = .ok (.iload 4, 2) := by decide +kernel
theorem dX12_digest_339 : decode cX12_digest 339 = .ok (.iconst 4, 1) := by decide +kernel
theorem dX12_digest_340 : decode cX12_digest 340 = .ok (.if_icmp .gt 37, 3) := by decide +kernel
theorem dX12_digest_343 : decode cX12_digest 343 = .ok (.iconst 0, 1) := by decide +kernel
theorem dX12_digest_344 : decode cX12_digest 344 = .ok (.istore 5, 2) := by decide +kernel
theorem dX12_digest_346 : decode cX12_digest 346 = .ok (.iload 5, 2) := by decide +kernel
theorem dX12_digest_348 : decode cX12_digest 348 = .ok (.iconst 2, 1) := by decide +kernel
theorem dX12_digest_349 : decode cX12_digest 349 = .ok (.if_icmp .ge 22, 3) := by decide +kernel
theorem dX12_digest_352 : decode cX12_digest 352 = .ok (.aload_n 0, 1) := by decide +kernel
theorem dX12_digest_353 : decode cX12_digest 353 = .ok (.aload_n 0, 1) := by decide +kernel
theorem dX12_digest_354 : decode cX12_digest 354 = .ok (.iload 4, 2) := by decide +kernel
theorem dX12_digest_356 : decode cX12_digest 356 = .ok (.iload 5, 2) := by decide +kernel
theorem dX12_digest_358 : decode cX12_digest 358 = .ok (.invokevirtual 241, 3) := by decide +kernel
theorem dX12_digest_361 : decode cX12_digest 361 = .ok (.i2l, 1) := by decide +kernel
theorem dX12_digest_362 : decode cX12_digest 362 = .ok (.invokevirtual 264, 3) := by decide +kernel
theorem dX12_digest_365 : decode cX12_digest 365 = .ok (.iinc 5 1, 3) := by decide +kernel
theorem dX12_digest_368 : decode cX12_digest 368 = .ok (.goto (-22), 3) := by decide +kernel
theorem dX12_digest_371 : decode cX12_digest 371 = .ok (.iinc 4 1, 3) := by decide +kernel
theorem dX12_digest_374 : decode cX12_digest 374 = .ok (.goto (-37), 3) := by decide +kernel
theorem dX12_digest_377 : decode cX12_digest 377 = .ok (.aload_n 0, 1) := by decide +kernel
theorem dX12_digest_378 : decode cX12_digest 378 = .ok (.aload_n 0, 1) := by decide +kernel
theorem dX12_digest_379 : decode cX12_digest 379 = .ok (.getfield 32, 3) := by decide +kernel
theorem dX12_digest_382 : decode cX12_digest 382 = .ok (.i2l, 1) := by decide +kernel
theorem dX12_digest_383 : decode cX12_digest 383 = .ok (.invokevirtual 264, 3) := by decide +kernel
theorem dX12_digest_386 : decode cX12_digest 386 = .ok (.aload_n 0, 1) := by decide +kernel
theorem dX12_digest_387 : decode cX12_digest 387 = .ok (.aload_n 0, 1) := by decide +kernel
theorem dX12_digest_388 : decode cX12_digest 388 = .ok (.invokevirtual 154, 3) := by decide +kernel
theorem dX12_digest_391 : decode cX12_digest 391 = .ok (.i2l, 1) := by decide +kernel
theorem dX12_digest_392 : decode cX12_digest 392 = .ok (.invokevirtual 264, 3) := by decide +kernel
theorem dX12_digest_395 : decode cX12_digest 395 = .ok (.iconst 0, 1) := by decide +kernel
theorem dX12_digest_396 : decode cX12_digest 396 = .ok (.istore 4, 2) := by decide +kernel
theorem dX12_digest_398 : decode cX12_digest 398 = .ok (.iload 4, 2) := by decide +kernel
theorem dX12_digest_400 : decode cX12_digest 400 = .ok (.aload_n 0, 1) := by decide +kernel
theorem dX12_digest_401 : decode cX12_digest 401 = .ok (.getfield 32, 3) := by decide +kernel
theorem dX12_digest_404 : decode cX12_digest 404 = .ok (.if_icmp .ge 37, 3) := by decide +kernel
theorem dX12_digest_407 : decode cX12_digest 407 = .ok (.iconst 0, 1) := by decide +kernel
theorem dX12_digest_408 : decode cX12_digest 408 = .ok (.istore 5, 2) := by decide +kernel
theorem dX12_digest_410 : decode cX12_digest 410 = .ok (.iload 5, 2) := by decide +kernel
theorem dX12_digest_412 : decode cX12_digest 412 = .ok (.iconst 4, 1) := by decide +kernel
theorem dX12_digest_413 : decode cX12_digest 413 = .ok (.if_icmp .ge 22, 3) := by decide +kernel
theorem dX12_digest_416 : decode cX12_digest 416 = .ok (.aload_n 0, 1) := by decide +kernel
theorem dX12_digest_417 : decode cX12_digest 417 = .ok (.aload_n 0, 1) := by decide +kernel
theorem dX12_digest_418 : decode cX12_digest 418 = .ok (.iload 4, 2) := by decide +kernel
theorem dX12_digest_420 : decode cX12_digest 420 = .ok (.iload 5, 2) := by decide +kernel
theorem dX12_digest_422 : decode cX12_digest 422 = .ok (.invokevirtual 244, 3) := by decide +kernel
theorem dX12_digest_425 : decode cX12_digest 425 = .ok (.i2l, 1) := by decide +kernel
theorem dX12_digest_426 : decode cX12_digest 426 = .ok (.invokevirtual 264, 3) := by decide +kernel
theorem dX12_digest_429 : decode cX12_digest 429 = .ok (.iinc 5 1, 3) := by decide +kernel
theorem dX12_digest_432 : decode cX12_digest 432 = .ok (.goto (-22), 3) := by decide +kernel
theorem dX12_digest_435 : decode cX12_digest 435 = .ok (.iinc 4 1, 3) := by decide +kernel
theorem dX12_digest_438 : decode cX12_digest 438 = .ok (.goto (-40), 3) := by decide +kernel
theorem dX12_digest_441 : decode cX12_digest 441 = .ok (.aload_n 0, 1) := by decide +kernel
theorem dX12_digest_442 : decode cX12_digest 442 = .ok (.aload_n 0, 1) := by decide +kernel
theorem dX12_digest_443 : decode cX12_digest 443 = .ok (.invokevirtual 247, 3) := by decide +kernel
theorem dX12_digest_446 : decode cX12_digest 446 = .ok (.i2l, 1) := by decide +kernel
theorem dX12_digest_447 : decode cX12_digest 447 = .ok (.invokevirtual 264, 3) := by decide +kernel
theorem dX12_digest_450 : decode cX12_digest 450 = .ok (.aload_n 0, 1) := by decide +kernel
theorem dX12_digest_451 : decode cX12_digest 451 = .ok (.aload_n 0, 1) := by decide +kernel
theorem dX12_digest_452 : decode cX12_digest 452 = .ok (.invokevirtual 250, 3) := by decide +kernel
theorem dX12_digest_455 : decode cX12_digest 455 = .ok (.i2l, 1) := by decide +kernel
theorem dX12_digest_456 : decode cX12_digest 456 = .ok (.invokevirtual 264, 3) := by decide +kernel
theorem dX12_digest_459 : decode cX12_digest 459 = .ok (.aload_n 0, 1) := by decide +kernel
theorem dX12_digest_460 : decode cX12_digest 460 = .ok (.aload_n 0, 1) := by decide +kernel
theorem dX12_digest_461 : decode cX12_digest 461 = .ok (.getfield 210, 3) := by decide +kernel
theorem dX12_digest_464 : decode cX12_digest 464 = .ok (.i2l, 1) := by decide +kernel
theorem dX12_digest_465 : decode cX12_digest 465 = .ok (.invokevirtual 264, 3) := by decide +kernel
theorem dX12_digest_468 : decode cX12_digest 468 = .ok (.aload_n 0, 1) := by decide +kernel
theorem dX12_digest_469 : decode cX12_digest 469 = .ok (.getfield 256, 3) := by decide +kernel
theorem dX12_digest_472 : decode cX12_digest 472 = .ok (.lreturn, 1) := by decide +kernel
theorem dJ9_abs_0f7a4_0 : decode cJ9_abs_0f7a4 0 = .ok (.iload_n 0, 1) := by decide +kernel
theorem dJ9_abs_0f7a4_1 : decode cJ9_abs_0f7a4 1 = .ok (.ifCond .ge 8, 3) := by decide +kernel
theorem dJ9_abs_0f7a4_4 : decode cJ9_abs_0f7a4 4 = .ok (.iload_n 0, 1) := by decide +kernel
theorem dJ9_abs_0f7a4_5 : decode cJ9_abs_0f7a4 5 = .ok (.ineg, 1) := by decide +kernel
theorem dJ9_abs_0f7a4_6 : decode cJ9_abs_0f7a4 6 = .ok (.goto 4, 3) := by decide +kernel
theorem dJ9_abs_0f7a4_9 : decode cJ9_abs_0f7a4 9 = .ok (.iload_n 0, 1) := by decide +kernel
theorem dJ9_abs_0f7a4_10 : decode cJ9_abs_0f7a4 10 = .ok (.ireturn, 1) := by decide +kernel
theorem dJ9_max_7cf53_0 : decode cJ9_max_7cf53 0 = .ok (.iload_n 0, 1) := by decide +kernel
theorem dJ9_max_7cf53_1 : decode cJ9_max_7cf53 1 = .ok (.iload_n 1, 1) := by decide +kernel
theorem dJ9_max_7cf53_2 : decode cJ9_max_7cf53 2 = .ok (.if_icmp .lt 7, 3) := by decide +kernel
theorem dJ9_max_7cf53_5 : decode cJ9_max_7cf53 5 = .ok (.iload_n 0, 1) := by decide +kernel
theorem dJ9_max_7cf53_6 : decode cJ9_max_7cf53 6 = .ok (.goto 4, 3) := by decide +kernel
theorem dJ9_max_7cf53_9 : decode cJ9_max_7cf53 9 = .ok (.iload_n 1, 1) := by decide +kernel
theorem dJ9_max_7cf53_10 : decode cJ9_max_7cf53 10 = .ok (.ireturn, 1) := by decide +kernel
theorem dJ7_fill_53178_0 : decode cJ7_fill_53178 0 = .ok (.iconst 0, 1) := by decide +kernel
theorem dJ7_fill_53178_1 : decode cJ7_fill_53178 1 = .ok (.istore_n 2, 1) := by decide +kernel
theorem dJ7_fill_53178_2 : decode cJ7_fill_53178 2 = .ok (.aload_n 0, 1) := by decide +kernel
theorem dJ7_fill_53178_3 : decode cJ7_fill_53178 3 = .ok (.arraylength, 1) := by decide +kernel
theorem dJ7_fill_53178_4 : decode cJ7_fill_53178 4 = .ok (.istore_n 3, 1) := by decide +kernel
theorem dJ7_fill_53178_5 : decode cJ7_fill_53178 5 = .ok (.iload_n 2, 1) := by decide +kernel
theorem dJ7_fill_53178_6 : decode cJ7_fill_53178 6 = .ok (.iload_n 3, 1) := by decide +kernel
theorem dJ7_fill_53178_7 : decode cJ7_fill_53178 7 = .ok (.if_icmp .ge 13, 3) := by decide +kernel
theorem dJ7_fill_53178_10 : decode cJ7_fill_53178 10 = .ok (.aload_n 0, 1) := by decide +kernel
theorem dJ7_fill_53178_11 : decode cJ7_fill_53178 11 = .ok (.iload_n 2, 1) := by decide +kernel
theorem dJ7_fill_53178_12 : decode cJ7_fill_53178 12 = .ok (.iload_n 1, 1) := by decide +kernel
theorem dJ7_fill_53178_13 : decode cJ7_fill_53178 13 = .ok (.iastore, 1) := by decide +kernel
theorem dJ7_fill_53178_14 : decode cJ7_fill_53178 14 = .ok (.iinc 2 1, 3) := by decide +kernel
theorem dJ7_fill_53178_17 : decode cJ7_fill_53178 17 = .ok (.goto (-12), 3) := by decide +kernel
theorem dJ7_fill_53178_20 : decode cJ7_fill_53178 20 = .ok (.return_, 1) := by decide +kernel
theorem dL_setUp_0 : decode cL_setUp 0 = .ok (.aload 4, 2) := by decide +kernel
theorem dL_setUp_2 : decode cL_setUp 2 = .ok (.iconst 0, 1) := by decide +kernel
theorem dL_setUp_3 : decode cL_setUp 3 = .ok (.aload_n 0, 1) := by decide +kernel
theorem dL_setUp_4 : decode cL_setUp 4 = .ok (.iload_n 1, 1) := by decide +kernel
theorem dL_setUp_5 : decode cL_setUp 5 = .ok (.iload_n 2, 1) := by decide +kernel
theorem dL_setUp_6 : decode cL_setUp 6 = .ok (.iload_n 3, 1) := by decide +kernel
theorem dL_setUp_7 : decode cL_setUp 7 = .ok (.invokevirtual 7, 3) := by decide +kernel
theorem dL_setUp_10 : decode cL_setUp 10 = .ok (.i2l, 1) := by decide +kernel
theorem dL_setUp_11 : decode cL_setUp 11 = .ok (.lastore, 1) := by decide +kernel
theorem dL_setUp_12 : decode cL_setUp 12 = .ok (.goto 7, 3) := by decide +kernel
theorem dL_setUp_15 : decode cL_setUp 15 = .ok (.astore 5, 2) := by decide +kernel
theorem dL_setUp_17 : decode cL_setUp 17 = .ok (.iconst 1, 1) := by decide +kernel
theorem dL_setUp_18 : decode cL_setUp 18 = .ok (.ireturn, 1) := by decide +kernel
theorem dL_setUp_19 : decode cL_setUp 19 = .ok (.iconst 0, 1) := by decide +kernel
theorem dL_setUp_20 : decode cL_setUp 20 = .ok (.ireturn, 1) := by decide +kernel
theorem dL_put_0 : decode cL_put 0 = .ok (.aload_n 3, 1) := by decide +kernel
theorem dL_put_1 : decode cL_put 1 = .ok (.iconst 0, 1) := by decide +kernel
theorem dL_put_2 : decode cL_put 2 = .ok (.aload_n 0, 1) := by decide +kernel
theorem dL_put_3 : decode cL_put 3 = .ok (.iload_n 1, 1) := by decide +kernel
theorem dL_put_4 : decode cL_put 4 = .ok (.iload_n 2, 1) := by decide +kernel
theorem dL_put_5 : decode cL_put 5 = .ok (.invokevirtual 15, 3) := by decide +kernel
theorem dL_put_8 : decode cL_put 8 = .ok (.i2l, 1) := by decide +kernel
theorem dL_put_9 : decode cL_put 9 = .ok (.lastore, 1) := by decide +kernel
theorem dL_put_10 : decode cL_put 10 = .ok (.goto 15, 3) := by decide +kernel
theorem dL_put_13 : decode cL_put 13 = .ok (.astore 4, 2) := by decide +kernel
theorem dL_put_15 : decode cL_put 15 = .ok (.iconst 1, 1) := by decide +kernel
theorem dL_put_16 : decode cL_put 16 = .ok (.ireturn, 1) := by decide +kernel
theorem dL_put_17 : decode cL_put 17 = .ok (.astore 4, 2) := by decide +kernel
theorem dL_put_19 : decode cL_put 19 = .ok (.iconst 2, 1) := by decide +kernel
theorem dL_put_20 : decode cL_put 20 = .ok (.ireturn, 1) := by decide +kernel
theorem dL_put_21 : decode cL_put 21 = .ok (.astore 4, 2) := by decide +kernel
theorem dL_put_23 : decode cL_put 23 = .ok (.iconst 3, 1) := by decide +kernel
theorem dL_put_24 : decode cL_put 24 = .ok (.ireturn, 1) := by decide +kernel
theorem dL_put_25 : decode cL_put 25 = .ok (.iconst 0, 1) := by decide +kernel
theorem dL_put_26 : decode cL_put 26 = .ok (.ireturn, 1) := by decide +kernel
theorem dL_setSide_0 : decode cL_setSide 0 = .ok (.aload_n 2, 1) := by decide +kernel
theorem dL_setSide_1 : decode cL_setSide 1 = .ok (.iconst 0, 1) := by decide +kernel
theorem dL_setSide_2 : decode cL_setSide 2 = .ok (.aload_n 0, 1) := by decide +kernel
theorem dL_setSide_3 : decode cL_setSide 3 = .ok (.iload_n 1, 1) := by decide +kernel
theorem dL_setSide_4 : decode cL_setSide 4 = .ok (.invokevirtual 23, 3) := by decide +kernel
theorem dL_setSide_7 : decode cL_setSide 7 = .ok (.i2l, 1) := by decide +kernel
theorem dL_setSide_8 : decode cL_setSide 8 = .ok (.lastore, 1) := by decide +kernel
theorem dL_setSide_9 : decode cL_setSide 9 = .ok (.goto 6, 3) := by decide +kernel
theorem dL_setSide_12 : decode cL_setSide 12 = .ok (.astore_n 3, 1) := by decide +kernel
theorem dL_setSide_13 : decode cL_setSide 13 = .ok (.iconst 1, 1) := by decide +kernel
theorem dL_setSide_14 : decode cL_setSide 14 = .ok (.ireturn, 1) := by decide +kernel
theorem dL_setSide_15 : decode cL_setSide 15 = .ok (.iconst 0, 1) := by decide +kernel
theorem dL_setSide_16 : decode cL_setSide 16 = .ok (.ireturn, 1) := by decide +kernel
theorem dL_play_0 : decode cL_play 0 = .ok (.aload_n 2, 1) := by decide +kernel
theorem dL_play_1 : decode cL_play 1 = .ok (.iconst 0, 1) := by decide +kernel
theorem dL_play_2 : decode cL_play 2 = .ok (.aload_n 0, 1) := by decide +kernel
theorem dL_play_3 : decode cL_play 3 = .ok (.iload_n 1, 1) := by decide +kernel
theorem dL_play_4 : decode cL_play 4 = .ok (.invokevirtual 27, 3) := by decide +kernel
theorem dL_play_7 : decode cL_play 7 = .ok (.i2l, 1) := by decide +kernel
theorem dL_play_8 : decode cL_play 8 = .ok (.lastore, 1) := by decide +kernel
theorem dL_play_9 : decode cL_play 9 = .ok (.goto 6, 3) := by decide +kernel
theorem dL_play_12 : decode cL_play 12 = .ok (.astore_n 3, 1) := by decide +kernel
theorem dL_play_13 : decode cL_play 13 = .ok (.iconst 1, 1) := by decide +kernel
theorem dL_play_14 : decode cL_play 14 = .ok (.ireturn, 1) := by decide +kernel
theorem dL_play_15 : decode cL_play 15 = .ok (.iconst 0, 1) := by decide +kernel
theorem dL_play_16 : decode cL_play 16 = .ok (.ireturn, 1) := by decide +kernel
theorem dL_back_0 : decode cL_back 0 = .ok (.aload_n 1, 1) := by decide +kernel
theorem dL_back_1 : decode cL_back 1 = .ok (.iconst 0, 1) := by decide +kernel
theorem dL_back_2 : decode cL_back 2 = .ok (.aload_n 0, 1) := by decide +kernel
theorem dL_back_3 : decode cL_back 3 = .ok (.invokevirtual 30, 3) := by decide +kernel
theorem dL_back_6 : decode cL_back 6 = .ok (.i2l, 1) := by decide +kernel
theorem dL_back_7 : decode cL_back 7 = .ok (.lastore, 1) := by decide +kernel
theorem dL_back_8 : decode cL_back 8 = .ok (.goto 6, 3) := by decide +kernel
theorem dL_back_11 : decode cL_back 11 = .ok (.astore_n 2, 1) := by decide +kernel
theorem dL_back_12 : decode cL_back 12 = .ok (.iconst 1, 1) := by decide +kernel
theorem dL_back_13 : decode cL_back 13 = .ok (.ireturn, 1) := by decide +kernel
theorem dL_back_14 : decode cL_back 14 = .ok (.iconst 0, 1) := by decide +kernel
theorem dL_back_15 : decode cL_back 15 = .ok (.ireturn, 1) := by decide +kernel
theorem dL_weigh_0 : decode cL_weigh 0 = .ok (.aload 4, 2) := by decide +kernel
theorem dL_weigh_2 : decode cL_weigh 2 = .ok (.iconst 0, 1) := by decide +kernel
theorem dL_weigh_3 : decode cL_weigh 3 = .ok (.aload_n 0, 1) := by decide +kernel
theorem dL_weigh_4 : decode cL_weigh 4 = .ok (.iload_n 1, 1) := by decide +kernel
theorem dL_weigh_5 : decode cL_weigh 5 = .ok (.iload_n 2, 1) := by decide +kernel
theorem dL_weigh_6 : decode cL_weigh 6 = .ok (.iload_n 3, 1) := by decide +kernel
theorem dL_weigh_7 : decode cL_weigh 7 = .ok (.invokevirtual 34, 3) := by decide +kernel
theorem dL_weigh_10 : decode cL_weigh 10 = .ok (.i2l, 1) := by decide +kernel
theorem dL_weigh_11 : decode cL_weigh 11 = .ok (.lastore, 1) := by decide +kernel
theorem dL_weigh_12 : decode cL_weigh 12 = .ok (.goto 7, 3) := by decide +kernel
theorem dL_weigh_15 : decode cL_weigh 15 = .ok (.astore 5, 2) := by decide +kernel
theorem dL_weigh_17 : decode cL_weigh 17 = .ok (.iconst 1, 1) := by decide +kernel
theorem dL_weigh_18 : decode cL_weigh 18 = .ok (.ireturn, 1) := by decide +kernel
theorem dL_weigh_19 : decode cL_weigh 19 = .ok (.iconst 0, 1) := by decide +kernel
theorem dL_weigh_20 : decode cL_weigh 20 = .ok (.ireturn, 1) := by decide +kernel
theorem dL_setSlots_0 : decode cL_setSlots 0 = .ok (.aload_n 2, 1) := by decide +kernel
theorem dL_setSlots_1 : decode cL_setSlots 1 = .ok (.iconst 0, 1) := by decide +kernel
theorem dL_setSlots_2 : decode cL_setSlots 2 = .ok (.aload_n 0, 1) := by decide +kernel
theorem dL_setSlots_3 : decode cL_setSlots 3 = .ok (.iload_n 1, 1) := by decide +kernel
theorem dL_setSlots_4 : decode cL_setSlots 4 = .ok (.invokevirtual 37, 3) := by decide +kernel
theorem dL_setSlots_7 : decode cL_setSlots 7 = .ok (.i2l, 1) := by decide +kernel
theorem dL_setSlots_8 : decode cL_setSlots 8 = .ok (.lastore, 1) := by decide +kernel
theorem dL_setSlots_9 : decode cL_setSlots 9 = .ok (.goto 6, 3) := by decide +kernel
theorem dL_setSlots_12 : decode cL_setSlots 12 = .ok (.astore_n 3, 1) := by decide +kernel
theorem dL_setSlots_13 : decode cL_setSlots 13 = .ok (.iconst 1, 1) := by decide +kernel
theorem dL_setSlots_14 : decode cL_setSlots 14 = .ok (.ireturn, 1) := by decide +kernel
theorem dL_setSlots_15 : decode cL_setSlots 15 = .ok (.iconst 0, 1) := by decide +kernel
theorem dL_setSlots_16 : decode cL_setSlots 16 = .ok (.ireturn, 1) := by decide +kernel
theorem dL_at_0 : decode cL_at 0 = .ok (.aload_n 2, 1) := by decide +kernel
theorem dL_at_1 : decode cL_at 1 = .ok (.iconst 0, 1) := by decide +kernel
theorem dL_at_2 : decode cL_at 2 = .ok (.aload_n 0, 1) := by decide +kernel
theorem dL_at_3 : decode cL_at 3 = .ok (.iload_n 1, 1) := by decide +kernel
theorem dL_at_4 : decode cL_at 4 = .ok (.invokevirtual 40, 3) := by decide +kernel
theorem dL_at_7 : decode cL_at 7 = .ok (.i2l, 1) := by decide +kernel
theorem dL_at_8 : decode cL_at 8 = .ok (.lastore, 1) := by decide +kernel
theorem dL_at_9 : decode cL_at 9 = .ok (.goto 6, 3) := by decide +kernel
theorem dL_at_12 : decode cL_at 12 = .ok (.astore_n 3, 1) := by decide +kernel
theorem dL_at_13 : decode cL_at 13 = .ok (.iconst 1, 1) := by decide +kernel
theorem dL_at_14 : decode cL_at 14 = .ok (.ireturn, 1) := by decide +kernel
theorem dL_at_15 : decode cL_at 15 = .ok (.iconst 0, 1) := by decide +kernel
theorem dL_at_16 : decode cL_at 16 = .ok (.ireturn, 1) := by decide +kernel
theorem dL_from_0 : decode cL_from 0 = .ok (.aload_n 2, 1) := by decide +kernel
theorem dL_from_1 : decode cL_from 1 = .ok (.iconst 0, 1) := by decide +kernel
theorem dL_from_2 : decode cL_from 2 = .ok (.aload_n 0, 1) := by decide +kernel
theorem dL_from_3 : decode cL_from 3 = .ok (.iload_n 1, 1) := by decide +kernel
theorem dL_from_4 : decode cL_from 4 = .ok (.invokevirtual 43, 3) := by decide +kernel
theorem dL_from_7 : decode cL_from 7 = .ok (.i2l, 1) := by decide +kernel
theorem dL_from_8 : decode cL_from 8 = .ok (.lastore, 1) := by decide +kernel
theorem dL_from_9 : decode cL_from 9 = .ok (.goto 6, 3) := by decide +kernel
theorem dL_from_12 : decode cL_from 12 = .ok (.astore_n 3, 1) := by decide +kernel
theorem dL_from_13 : decode cL_from 13 = .ok (.iconst 1, 1) := by decide +kernel
theorem dL_from_14 : decode cL_from 14 = .ok (.ireturn, 1) := by decide +kernel
theorem dL_from_15 : decode cL_from 15 = .ok (.iconst 0, 1) := by decide +kernel
theorem dL_from_16 : decode cL_from 16 = .ok (.ireturn, 1) := by decide +kernel
theorem dL_to_0 : decode cL_to 0 = .ok (.aload_n 2, 1) := by decide +kernel
theorem dL_to_1 : decode cL_to 1 = .ok (.iconst 0, 1) := by decide +kernel
theorem dL_to_2 : decode cL_to 2 = .ok (.aload_n 0, 1) := by decide +kernel
theorem dL_to_3 : decode cL_to 3 = .ok (.iload_n 1, 1) := by decide +kernel
theorem dL_to_4 : decode cL_to 4 = .ok (.invokevirtual 46, 3) := by decide +kernel
theorem dL_to_7 : decode cL_to 7 = .ok (.i2l, 1) := by decide +kernel
theorem dL_to_8 : decode cL_to 8 = .ok (.lastore, 1) := by decide +kernel
theorem dL_to_9 : decode cL_to 9 = .ok (.goto 6, 3) := by decide +kernel
theorem dL_to_12 : decode cL_to 12 = .ok (.astore_n 3, 1) := by decide +kernel
theorem dL_to_13 : decode cL_to 13 = .ok (.iconst 1, 1) := by decide +kernel
theorem dL_to_14 : decode cL_to 14 = .ok (.ireturn, 1) := by decide +kernel
theorem dL_to_15 : decode cL_to 15 = .ok (.iconst 0, 1) := by decide +kernel
theorem dL_to_16 : decode cL_to 16 = .ok (.ireturn, 1) := by decide +kernel
theorem dL_takes_0 : decode cL_takes 0 = .ok (.aload_n 2, 1) := by decide +kernel
theorem dL_takes_1 : decode cL_takes 1 = .ok (.iconst 0, 1) := by decide +kernel
theorem dL_takes_2 : decode cL_takes 2 = .ok (.aload_n 0, 1) := by decide +kernel
theorem dL_takes_3 : decode cL_takes 3 = .ok (.iload_n 1, 1) := by decide +kernel
theorem dL_takes_4 : decode cL_takes 4 = .ok (.invokevirtual 49, 3) := by decide +kernel
theorem dL_takes_7 : decode cL_takes 7 = .ok (.ifCond .eq 7, 3) := by decide +kernel
theorem dL_takes_10 : decode cL_takes 10 = .ok (.lconst 1, 1) := by decide +kernel
theorem dL_takes_11 : decode cL_takes 11 = .ok (.goto 4, 3) := by decide +kernel
theorem dL_takes_14 : decode cL_takes 14 = .ok (.lconst 0, 1) := by decide +kernel
theorem dL_takes_15 : decode cL_takes 15 = .ok (.lastore, 1) := by decide +kernel
theorem dL_takes_16 : decode cL_takes 16 = .ok (.goto 6, 3) := by decide +kernel
theorem dL_takes_19 : decode cL_takes 19 = .ok (.astore_n 3, 1) := by decide +kernel
theorem dL_takes_20 : decode cL_takes 20 = .ok (.iconst 1, 1) := by decide +kernel
theorem dL_takes_21 : decode cL_takes 21 = .ok (.ireturn, 1) := by decide +kernel
theorem dL_takes_22 : decode cL_takes 22 = .ok (.iconst 0, 1) := by decide +kernel
theorem dL_takes_23 : decode cL_takes 23 = .ok (.ireturn, 1) := by decide +kernel
theorem dL_ways_0 : decode cL_ways 0 = .ok (.aload_n 2, 1) := by decide +kernel
theorem dL_ways_1 : decode cL_ways 1 = .ok (.iconst 0, 1) := by decide +kernel
theorem dL_ways_2 : decode cL_ways 2 = .ok (.aload_n 0, 1) := by decide +kernel
theorem dL_ways_3 : decode cL_ways 3 = .ok (.iload_n 1, 1) := by decide +kernel
theorem dL_ways_4 : decode cL_ways 4 = .ok (.invokevirtual 53, 3) := by decide +kernel
theorem dL_ways_7 : decode cL_ways 7 = .ok (.i2l, 1) := by decide +kernel
theorem dL_ways_8 : decode cL_ways 8 = .ok (.lastore, 1) := by decide +kernel
theorem dL_ways_9 : decode cL_ways 9 = .ok (.goto 6, 3) := by decide +kernel
theorem dL_ways_12 : decode cL_ways 12 = .ok (.astore_n 3, 1) := by decide +kernel
theorem dL_ways_13 : decode cL_ways 13 = .ok (.iconst 1, 1) := by decide +kernel
theorem dL_ways_14 : decode cL_ways 14 = .ok (.ireturn, 1) := by decide +kernel
theorem dL_ways_15 : decode cL_ways 15 = .ok (.iconst 0, 1) := by decide +kernel
theorem dL_ways_16 : decode cL_ways 16 = .ok (.ireturn, 1) := by decide +kernel
theorem dL_value_0 : decode cL_value 0 = .ok (.aload_n 2, 1) := by decide +kernel
theorem dL_value_1 : decode cL_value 1 = .ok (.iconst 0, 1) := by decide +kernel
theorem dL_value_2 : decode cL_value 2 = .ok (.aload_n 0, 1) := by decide +kernel
theorem dL_value_3 : decode cL_value 3 = .ok (.iload_n 1, 1) := by decide +kernel
theorem dL_value_4 : decode cL_value 4 = .ok (.invokevirtual 56, 3) := by decide +kernel
theorem dL_value_7 : decode cL_value 7 = .ok (.i2l, 1) := by decide +kernel
theorem dL_value_8 : decode cL_value 8 = .ok (.lastore, 1) := by decide +kernel
theorem dL_value_9 : decode cL_value 9 = .ok (.goto 6, 3) := by decide +kernel
theorem dL_value_12 : decode cL_value 12 = .ok (.astore_n 3, 1) := by decide +kernel
theorem dL_value_13 : decode cL_value 13 = .ok (.iconst 1, 1) := by decide +kernel
theorem dL_value_14 : decode cL_value 14 = .ok (.ireturn, 1) := by decide +kernel
theorem dL_value_15 : decode cL_value 15 = .ok (.iconst 0, 1) := by decide +kernel
theorem dL_value_16 : decode cL_value 16 = .ok (.ireturn, 1) := by decide +kernel
