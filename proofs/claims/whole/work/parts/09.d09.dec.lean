theorem dX12_searched_0 : decode cX12_searched 0 = .ok (.aload_n 0, 1) := by decide +kernel
theorem dX12_searched_1 : decode cX12_searched 1 = .ok (.dup, 1) := by decide +kernel
theorem dX12_searched_2 : decode cX12_searched 2 = .ok (.getfield 169, 3) := by decide +kernel
theorem dX12_searched_5 : decode cX12_searched 5 = .ok (.iconst 1, 1) := by decide +kernel
theorem dX12_searched_6 : decode cX12_searched 6 = .ok (.iadd, 1) := by decide +kernel
theorem dX12_searched_7 : decode cX12_searched 7 = .ok (.putfield 169, 3) := by decide +kernel
theorem dX12_searched_10 : decode cX12_searched 10 = .ok (.aload_n 0, 1) := by decide +kernel
theorem dX12_searched_11 : decode cX12_searched 11 = .ok (.invokevirtual 104, 3) := by decide +kernel
theorem dX12_searched_14 : decode cX12_searched 14 = .ok (.ifCond .eq 9, 3) := by decide +kernel
theorem dX12_searched_17 : decode cX12_searched 17 = .ok (.sipush (-1000), 3) := by decide +kernel
theorem dX12_searched_20 : decode cX12_searched 20 = .ok (.iload_n 2, 1) := by decide +kernel
theorem dX12_searched_21 : decode cX12_searched 21 = .ok (.isub, 1) := by decide +kernel
theorem dX12_searched_22 : decode cX12_searched 22 = .ok (.ireturn, 1) := by decide +kernel
theorem dX12_searched_23 : decode cX12_searched 23 = .ok (.iload_n 2, 1) := by decide +kernel
theorem dX12_searched_24 : decode cX12_searched 24 = .ok (.ifCond .ne 13, 3) := by decide +kernel
theorem dX12_searched_27 : decode cX12_searched 27 = .ok (.aload_n 0, 1) := by decide +kernel
theorem dX12_searched_28 : decode cX12_searched 28 = .ok (.iload_n 1, 1) := by decide +kernel
theorem dX12_searched_29 : decode cX12_searched 29 = .ok (.iconst 4, 1) := by decide +kernel
theorem dX12_searched_30 : decode cX12_searched 30 = .ok (.iload_n 3, 1) := by decide +kernel
theorem dX12_searched_31 : decode cX12_searched 31 = .ok (.iload 4, 2) := by decide +kernel
theorem dX12_searched_33 : decode cX12_searched 33 = .ok (.invokevirtual 172, 3) := by decide +kernel
theorem dX12_searched_36 : decode cX12_searched 36 = .ok (.ireturn, 1) := by decide +kernel
theorem dX12_searched_37 : decode cX12_searched 37 = .ok (.aload_n 0, 1) := by decide +kernel
theorem dX12_searched_38 : decode cX12_searched 38 = .ok (.aload_n 0, 1) := by decide +kernel
theorem dX12_searched_39 : decode cX12_searched 39 = .ok (.invokevirtual 157, 3) := by decide +kernel
theorem dX12_searched_42 : decode cX12_searched 42 = .ok (.invokevirtual 175, 3) := by decide +kernel
theorem dX12_searched_45 : decode cX12_searched 45 = .ok (.istore 5, 2) := by decide +kernel
theorem dX12_searched_47 : decode cX12_searched 47 = .ok (.iload 5, 2) := by decide +kernel
theorem dX12_searched_49 : decode cX12_searched 49 = .ok (.iconst (-1), 1) := by decide +kernel
theorem dX12_searched_50 : decode cX12_searched 50 = .ok (.if_icmp .eq 65, 3) := by decide +kernel
theorem dX12_searched_53 : decode cX12_searched 53 = .ok (.aload_n 0, 1) := by decide +kernel
theorem dX12_searched_54 : decode cX12_searched 54 = .ok (.getfield 39, 3) := by decide +kernel
theorem dX12_searched_57 : decode cX12_searched 57 = .ok (.iload 5, 2) := by decide +kernel
theorem dX12_searched_59 : decode cX12_searched 59 = .ok (.aaload, 1) := by decide +kernel
theorem dX12_searched_60 : decode cX12_searched 60 = .ok (.iconst 0, 1) := by decide +kernel
theorem dX12_searched_61 : decode cX12_searched 61 = .ok (.iaload, 1) := by decide +kernel
theorem dX12_searched_62 : decode cX12_searched 62 = .ok (.iload_n 2, 1) := by decide +kernel
theorem dX12_searched_63 : decode cX12_searched 63 = .ok (.if_icmp .ne 52, 3) := by decide +kernel
theorem dX12_searched_66 : decode cX12_searched 66 = .ok (.aload_n 0, 1) := by decide +kernel
theorem dX12_searched_67 : decode cX12_searched 67 = .ok (.getfield 39, 3) := by decide +kernel
theorem dX12_searched_70 : decode cX12_searched 70 = .ok (.iload 5, 2) := by decide +kernel
theorem dX12_searched_72 : decode cX12_searched 72 = .ok (.aaload, 1) := by decide +kernel
theorem dX12_searched_73 : decode cX12_searched 73 = .ok (.iload_n 3, 1) := by decide +kernel
theorem dX12_searched_74 : decode cX12_searched 74 = .ok (.iload 4, 2) := by decide +kernel
theorem dX12_searched_76 : decode cX12_searched 76 = .ok (.invokestatic 179, 3) := by decide +kernel
theorem dX12_searched_79 : decode cX12_searched 79 = .ok (.ifCond .eq 36, 3) := by decide +kernel
theorem dX12_searched_82 : decode cX12_searched 82 = .ok (.aload_n 0, 1) := by decide +kernel
theorem dX12_searched_83 : decode cX12_searched 83 = .ok (.dup, 1) := by decide +kernel
theorem dX12_searched_84 : decode cX12_searched 84 = .ok (.getfield 182, 3) := by decide +kernel
theorem dX12_searched_87 : decode cX12_searched 87 = .ok (.iconst 1, 1) := by decide +kernel
theorem dX12_searched_88 : decode cX12_searched 88 = .ok (.iadd, 1) := by decide +kernel
theorem dX12_searched_89 : decode cX12_searched 89 = .ok (.putfield 182, 3) := by decide +kernel
theorem dX12_searched_92 : decode cX12_searched 92 = .ok (.aload_n 0, 1) := by decide +kernel
theorem dX12_searched_93 : decode cX12_searched 93 = .ok (.aload_n 0, 1) := by decide +kernel
theorem dX12_searched_94 : decode cX12_searched 94 = .ok (.getfield 39, 3) := by decide +kernel
theorem dX12_searched_97 : decode cX12_searched 97 = .ok (.iload 5, 2) := by decide +kernel
theorem dX12_searched_99 : decode cX12_searched 99 = .ok (.aaload, 1) := by decide +kernel
theorem dX12_searched_100 : decode cX12_searched 100 = .ok (.iconst 3, 1) := by decide +kernel
theorem dX12_searched_101 : decode cX12_searched 101 = .ok (.iaload, 1) := by decide +kernel
theorem dX12_searched_102 : decode cX12_searched 102 = .ok (.putfield 48, 3) := by decide +kernel
theorem dX12_searched_105 : decode cX12_searched 105 = .ok (.aload_n 0, 1) := by decide +kernel
theorem dX12_searched_106 : decode cX12_searched 106 = .ok (.getfield 39, 3) := by decide +kernel
theorem dX12_searched_109 : decode cX12_searched 109 = .ok (.iload 5, 2) := by decide +kernel
theorem dX12_searched_111 : decode cX12_searched 111 = .ok (.aaload, 1) := by decide +kernel
theorem dX12_searched_112 : decode cX12_searched 112 = .ok (.iconst 1, 1) := by decide +kernel
theorem dX12_searched_113 : decode cX12_searched 113 = .ok (.iaload, 1) := by decide +kernel
theorem dX12_searched_114 : decode cX12_searched 114 = .ok (.ireturn, 1) := by decide +kernel
theorem dX12_searched_115 : decode cX12_searched 115 = .ok (.aload_n 0, 1) := by decide +kernel
theorem dX12_searched_116 : decode cX12_searched 116 = .ok (.iload_n 1, 1) := by decide +kernel
theorem dX12_searched_117 : decode cX12_searched 117 = .ok (.iload_n 2, 1) := by decide +kernel
theorem dX12_searched_118 : decode cX12_searched 118 = .ok (.iload 5, 2) := by decide +kernel
theorem dX12_searched_120 : decode cX12_searched 120 = .ok (.iconst (-1), 1) := by decide +kernel
theorem dX12_searched_121 : decode cX12_searched 121 = .ok (.if_icmp .ne 7, 3) := by decide +kernel
theorem dX12_searched_124 : decode cX12_searched 124 = .ok (.iconst (-1), 1) := by decide +kernel
theorem dX12_searched_125 : decode cX12_searched 125 = .ok (.goto 12, 3) := by decide +kernel
theorem dX12_searched_128 : decode cX12_searched 128 = .ok (.aload_n 0, 1) := by decide +kernel
theorem dX12_searched_129 : decode cX12_searched 129 = .ok (.getfield 39, 3) := by decide +kernel
theorem dX12_searched_132 : decode cX12_searched 132 = .ok (.iload 5, 2) := by decide +kernel
theorem dX12_searched_134 : decode cX12_searched 134 = .ok (.aaload, 1) := by decide +kernel
theorem dX12_searched_135 : decode cX12_searched 135 = .ok (.iconst 3, 1) := by decide +kernel
theorem dX12_searched_136 : decode cX12_searched 136 = .ok (.iaload, 1) := by decide +kernel
theorem dX12_searched_137 : decode cX12_searched 137 = .ok (.invokevirtual 185, 3) := by decide +kernel
theorem dX12_searched_140 : decode cX12_searched 140 = .ok (.istore 6, 2) := by decide +kernel
theorem dX12_searched_142 : decode cX12_searched 142 = .ok (.ldc 144, 2) := by decide +kernel
theorem dX12_searched_144 : decode cX12_searched 144 = .ok (.istore 7, 2) := by decide +kernel
theorem dX12_searched_146 : decode cX12_searched 146 = .ok (.iconst (-1), 1) := by decide +kernel
theorem dX12_searched_147 : decode cX12_searched 147 = .ok (.istore 8, 2) := by decide +kernel
theorem dX12_searched_149 : decode cX12_searched 149 = .ok (.iconst 0, 1) := by decide +kernel
theorem dX12_searched_150 : decode cX12_searched 150 = .ok (.istore 9, 2) := by decide +kernel
theorem dX12_searched_152 : decode cX12_searched 152 = .ok (.iload 9, 2) := by decide +kernel
theorem dX12_searched_154 : decode cX12_searched 154 = .ok (.iload 6, 2) := by decide +kernel
theorem dX12_searched_156 : decode cX12_searched 156 = .ok (.if_icmp .ge 98, 3) := by decide +kernel
theorem dX12_searched_159 : decode cX12_searched 159 = .ok (.iload 7, 2) := by decide +kernel
theorem dX12_searched_161 : decode cX12_searched 161 = .ok (.iload 4, 2) := by decide +kernel
theorem dX12_searched_163 : decode cX12_searched 163 = .ok (.if_icmp .ge 91, 3) := by decide +kernel
theorem dX12_searched_166 : decode cX12_searched 166 = .ok (.aload_n 0, 1) := by decide +kernel
theorem dX12_searched_167 : decode cX12_searched 167 = .ok (.getfield 42, 3) := by decide +kernel
theorem dX12_searched_170 : decode cX12_searched 170 = .ok (.iload_n 1, 1) := by decide +kernel
theorem dX12_searched_171 : decode cX12_searched 171 = .ok (.aaload, 1) := by decide +kernel
theorem dX12_searched_172 : decode cX12_searched 172 = .ok (.iload 9, 2) := by decide +kernel
theorem dX12_searched_174 : decode cX12_searched 174 = .ok (.iaload, 1) := by decide +kernel
theorem dX12_searched_175 : decode cX12_searched 175 = .ok (.istore 10, 2) := by decide +kernel
theorem dX12_searched_177 : decode cX12_searched 177 = .ok (.aload_n 0, 1) := by decide +kernel
theorem dX12_searched_178 : decode cX12_searched 178 = .ok (.iload 10, 2) := by decide +kernel
theorem dX12_searched_180 : decode cX12_searched 180 = .ok (.invokevirtual 130, 3) := by decide +kernel
theorem dX12_searched_183 : decode cX12_searched 183 = .ok (.istore 11, 2) := by decide +kernel
theorem dX12_searched_185 : decode cX12_searched 185 = .ok (.aload_n 0, 1) := by decide +kernel
theorem dX12_searched_186 : decode cX12_searched 186 = .ok (.iload_n 1, 1) := by decide +kernel
theorem dX12_searched_187 : decode cX12_searched 187 = .ok (.iconst 1, 1) := by decide +kernel
theorem dX12_searched_188 : decode cX12_searched 188 = .ok (.iadd, 1) := by decide +kernel
theorem dX12_searched_189 : decode cX12_searched 189 = .ok (.iload_n 2, 1) := by decide +kernel
theorem dX12_searched_190 : decode cX12_searched 190 = .ok (.iconst 1, 1) := by decide +kernel
theorem dX12_searched_191 : decode cX12_searched 191 = .ok (.isub, 1) := by decide +kernel
theorem dX12_searched_192 : decode cX12_searched 192 = .ok (.iload 4, 2) := by decide +kernel
theorem dX12_searched_194 : decode cX12_searched 194 = .ok (.ineg, 1) := by decide +kernel
theorem dX12_searched_195 : decode cX12_searched 195 = .ok (.iload_n 3, 1) := by decide +kernel
theorem dX12_searched_196 : decode cX12_searched 196 = .ok (.iload 7, 2) := by decide +kernel
theorem dX12_searched_198 : decode cX12_searched 198 = .ok (.invokestatic 137, 3) := by decide +kernel
theorem dX12_searched_201 : decode cX12_searched 201 = .ok (.ineg, 1) := by decide +kernel
theorem dX12_searched_202 : decode cX12_searched 202 = .ok (.invokevirtual 188, 3) := by decide +kernel
theorem dX12_searched_205 : decode cX12_searched 205 = .ok (.ineg, 1) := by decide +kernel
theorem dX12_searched_206 : decode cX12_searched 206 = .ok (.istore 12, 2) := by decide +kernel
theorem dX12_searched_208 : decode cX12_searched 208 = .ok (.aload_n 0, 1) := by decide +kernel
theorem dX12_searched_209 : decode cX12_searched 209 = .ok (.iload 10, 2) := by decide +kernel
theorem dX12_searched_211 : decode cX12_searched 211 = .ok (.iload 11, 2) := by decide +kernel
theorem dX12_searched_213 : decode cX12_searched 213 = .ok (.invokevirtual 140, 3) := by decide +kernel
theorem dX12_searched_216 : decode cX12_searched 216 = .ok (.iload 12, 2) := by decide +kernel
theorem dX12_searched_218 : decode cX12_searched 218 = .ok (.iload 7, 2) := by decide +kernel
theorem dX12_searched_220 : decode cX12_searched 220 = .ok (.if_icmp .gt 6, 3) := by decide +kernel
theorem dX12_searched_223 : decode cX12_searched 223 = .ok (.goto 25, 3) := by decide +kernel
theorem dX12_searched_226 : decode cX12_searched 226 = .ok (.iload 12, 2) := by decide +kernel
theorem dX12_searched_228 : decode cX12_searched 228 = .ok (.istore 7, 2) := by decide +kernel
theorem dX12_searched_230 : decode cX12_searched 230 = .ok (.iload 10, 2) := by decide +kernel
theorem dX12_searched_232 : decode cX12_searched 232 = .ok (.istore 8, 2) := by decide +kernel
theorem dX12_searched_234 : decode cX12_searched 234 = .ok (.iload 7, 2) := by decide +kernel
theorem dX12_searched_236 : decode cX12_searched 236 = .ok (.iload 4, 2) := by decide +kernel
theorem dX12_searched_238 : decode cX12_searched 238 = .ok (.if_icmp .lt 10, 3) := by decide +kernel
theorem dX12_searched_241 : decode cX12_searched 241 = .ok (.aload_n 0, 1) := by decide +kernel
theorem dX12_searched_242 : decode cX12_searched 242 = .ok (.iload_n 2, 1) := by decide +kernel
theorem dX12_searched_243 : decode cX12_searched 243 = .ok (.iload 8, 2) := by decide +kernel
theorem dX12_searched_245 : decode cX12_searched 245 = .ok (.invokevirtual 191, 3) := by decide +kernel
theorem dX12_searched_248 : decode cX12_searched 248 = .ok (.iinc 9 1, 3) := by decide +kernel
theorem dX12_searched_251 : decode cX12_searched 251 = .ok (.goto (-99), 3) := by decide +kernel
theorem dX12_searched_254 : decode cX12_searched 254 = .ok (.aload_n 0, 1) := by decide +kernel
theorem dX12_searched_255 : decode cX12_searched 255 = .ok (.iload_n 2, 1) := by decide +kernel
theorem dX12_searched_256 : decode cX12_searched 256 = .ok (.iload 7, 2) := by decide +kernel
theorem dX12_searched_258 : decode cX12_searched 258 = .ok (.iload 7, 2) := by decide +kernel
theorem dX12_searched_260 : decode cX12_searched 260 = .ok (.iload 4, 2) := by decide +kernel
theorem dX12_searched_262 : decode cX12_searched 262 = .ok (.if_icmp .lt 7, 3) := by decide +kernel
theorem dX12_searched_265 : decode cX12_searched 265 = .ok (.iconst 1, 1) := by decide +kernel
theorem dX12_searched_266 : decode cX12_searched 266 = .ok (.goto 14, 3) := by decide +kernel
theorem dX12_searched_269 : decode cX12_searched 269 = .ok (.iload 7, 2) := by decide +kernel
theorem dX12_searched_271 : decode cX12_searched 271 = .ok (.iload_n 3, 1) := by decide +kernel
theorem dX12_searched_272 : decode cX12_searched 272 = .ok (.if_icmp .gt 7, 3) := by decide +kernel
theorem dX12_searched_275 : decode cX12_searched 275 = .ok (.iconst 2, 1) := by decide +kernel
theorem dX12_searched_276 : decode cX12_searched 276 = .ok (.goto 4, 3) := by decide +kernel
theorem dX12_searched_279 : decode cX12_searched 279 = .ok (.iconst 0, 1) := by decide +kernel
theorem dX12_searched_280 : decode cX12_searched 280 = .ok (.iload 8, 2) := by decide +kernel
theorem dX12_searched_282 : decode cX12_searched 282 = .ok (.invokevirtual 194, 3) := by decide +kernel
theorem dX12_searched_285 : decode cX12_searched 285 = .ok (.aload_n 0, 1) := by decide +kernel
theorem dX12_searched_286 : decode cX12_searched 286 = .ok (.iload 8, 2) := by decide +kernel
theorem dX12_searched_288 : decode cX12_searched 288 = .ok (.putfield 48, 3) := by decide +kernel
theorem dX12_searched_291 : decode cX12_searched 291 = .ok (.iload 7, 2) := by decide +kernel
theorem dX12_searched_293 : decode cX12_searched 293 = .ok (.ireturn, 1) := by decide +kernel
theorem dX12_answers_0 : decode cX12_answers 0 = .ok (.aload_n 0, 1) := by decide +kernel
theorem dX12_answers_1 : decode cX12_answers 1 = .ok (.iconst 2, 1) := by decide +kernel
theorem dX12_answers_2 : decode cX12_answers 2 = .ok (.iaload, 1) := by decide +kernel
theorem dX12_answers_3 : decode cX12_answers 3 = .ok (.ifCond .eq 31, 3) := by decide +kernel
theorem dX12_answers_6 : decode cX12_answers 6 = .ok (.aload_n 0, 1) := by decide +kernel
theorem dX12_answers_7 : decode cX12_answers 7 = .ok (.iconst 2, 1) := by decide +kernel
theorem dX12_answers_8 : decode cX12_answers 8 = .ok (.iaload, 1) := by decide +kernel
theorem dX12_answers_9 : decode cX12_answers 9 = .ok (.iconst 1, 1) := by decide +kernel
theorem dX12_answers_10 : decode cX12_answers 10 = .ok (.if_icmp .ne 10, 3) := by decide +kernel
theorem dX12_answers_13 : decode cX12_answers 13 = .ok (.aload_n 0, 1) := by decide +kernel
theorem dX12_answers_14 : decode cX12_answers 14 = .ok (.iconst 1, 1) := by decide +kernel
theorem dX12_answers_15 : decode cX12_answers 15 = .ok (.iaload, 1) := by decide +kernel
theorem dX12_answers_16 : decode cX12_answers 16 = .ok (.iload_n 2, 1) := by decide +kernel
theorem dX12_answers_17 : decode cX12_answers 17 = .ok (.if_icmp .ge 17, 3) := by decide +kernel
theorem dX12_answers_20 : decode cX12_answers 20 = .ok (.aload_n 0, 1) := by decide +kernel
theorem dX12_answers_21 : decode cX12_answers 21 = .ok (.iconst 2, 1) := by decide +kernel
theorem dX12_answers_22 : decode cX12_answers 22 = .ok (.iaload, 1) := by decide +kernel
theorem dX12_answers_23 : decode cX12_answers 23 = .ok (.iconst 2, 1) := by decide +kernel
theorem dX12_answers_24 : decode cX12_answers 24 = .ok (.if_icmp .ne 14, 3) := by decide +kernel
theorem dX12_answers_27 : decode cX12_answers 27 = .ok (.aload_n 0, 1) := by decide +kernel
theorem dX12_answers_28 : decode cX12_answers 28 = .ok (.iconst 1, 1) := by decide +kernel
theorem dX12_answers_29 : decode cX12_answers 29 = .ok (.iaload, 1) := by decide +kernel
theorem dX12_answers_30 : decode cX12_answers 30 = .ok (.iload_n 1, 1) := by decide +kernel
theorem dX12_answers_31 : decode cX12_answers 31 = .ok (.if_icmp .gt 7, 3) := by decide +kernel
theorem dX12_answers_34 : decode cX12_answers 34 = .ok (.iconst 1, 1) := by decide +kernel
theorem dX12_answers_35 : decode cX12_answers 35 = .ok (.goto 4, 3) := by decide +kernel
theorem dX12_answers_38 : decode cX12_answers 38 = .ok (.iconst 0, 1) := by decide +kernel
theorem dX12_answers_39 : decode cX12_answers 39 = .ok (.ireturn, 1) := by decide +kernel
theorem dX12_cut_0 : decode cX12_cut 0 = .ok (.aload_n 0, 1) := by decide +kernel
theorem dX12_cut_1 : decode cX12_cut 1 = .ok (.dup, 1) := by decide +kernel
theorem dX12_cut_2 : decode cX12_cut 2 = .ok (.getfield 198, 3) := by decide +kernel
theorem dX12_cut_5 : decode cX12_cut 5 = .ok (.iconst 1, 1) := by decide +kernel
theorem dX12_cut_6 : decode cX12_cut 6 = .ok (.iadd, 1) := by decide +kernel
theorem dX12_cut_7 : decode cX12_cut 7 = .ok (.putfield 198, 3) := by decide +kernel
theorem dX12_cut_10 : decode cX12_cut 10 = .ok (.aload_n 0, 1) := by decide +kernel
theorem dX12_cut_11 : decode cX12_cut 11 = .ok (.iload_n 2, 1) := by decide +kernel
theorem dX12_cut_12 : decode cX12_cut 12 = .ok (.invokevirtual 126, 3) := by decide +kernel
theorem dX12_cut_15 : decode cX12_cut 15 = .ok (.ifCond .ne 15, 3) := by decide +kernel
theorem dX12_cut_18 : decode cX12_cut 18 = .ok (.aload_n 0, 1) := by decide +kernel
theorem dX12_cut_19 : decode cX12_cut 19 = .ok (.getfield 45, 3) := by decide +kernel
theorem dX12_cut_22 : decode cX12_cut 22 = .ok (.iload_n 1, 1) := by decide +kernel
theorem dX12_cut_23 : decode cX12_cut 23 = .ok (.aaload, 1) := by decide +kernel
theorem dX12_cut_24 : decode cX12_cut 24 = .ok (.iconst 0, 1) := by decide +kernel
theorem dX12_cut_25 : decode cX12_cut 25 = .ok (.iaload, 1) := by decide +kernel
theorem dX12_cut_26 : decode cX12_cut 26 = .ok (.iload_n 2, 1) := by decide +kernel
theorem dX12_cut_27 : decode cX12_cut 27 = .ok (.if_icmp .ne 4, 3) := by decide +kernel
theorem dX12_cut_30 : decode cX12_cut 30 = .ok (.return_, 1) := by decide +kernel
theorem dX12_cut_31 : decode cX12_cut 31 = .ok (.aload_n 0, 1) := by decide +kernel
theorem dX12_cut_32 : decode cX12_cut 32 = .ok (.getfield 45, 3) := by decide +kernel
theorem dX12_cut_35 : decode cX12_cut 35 = .ok (.iload_n 1, 1) := by decide +kernel
theorem dX12_cut_36 : decode cX12_cut 36 = .ok (.aaload, 1) := by decide +kernel
theorem dX12_cut_37 : decode cX12_cut 37 = .ok (.iconst 1, 1) := by decide +kernel
theorem dX12_cut_38 : decode cX12_cut 38 = .ok (.aload_n 0, 1) := by decide +kernel
theorem dX12_cut_39 : decode cX12_cut 39 = .ok (.getfield 45, 3) := by decide +kernel
theorem dX12_cut_42 : decode cX12_cut 42 = .ok (.iload_n 1, 1) := by decide +kernel
theorem dX12_cut_43 : decode cX12_cut 43 = .ok (.aaload, 1) := by decide +kernel
theorem dX12_cut_44 : decode cX12_cut 44 = .ok (.iconst 0, 1) := by decide +kernel
theorem dX12_cut_45 : decode cX12_cut 45 = .ok (.iaload, 1) := by decide +kernel
theorem dX12_cut_46 : decode cX12_cut 46 = .ok (.iastore, 1) := by decide +kernel
theorem dX12_cut_47 : decode cX12_cut 47 = .ok (.aload_n 0, 1) := by decide +kernel
theorem dX12_cut_48 : decode cX12_cut 48 = .ok (.getfield 45, 3) := by decide +kernel
theorem dX12_cut_51 : decode cX12_cut 51 = .ok (.iload_n 1, 1) := by decide +kernel
theorem dX12_cut_52 : decode cX12_cut 52 = .ok (.aaload, 1) := by decide +kernel
theorem dX12_cut_53 : decode cX12_cut 53 = .ok (.iconst 0, 1) := by decide +kernel
theorem dX12_cut_54 : decode cX12_cut 54 = .ok (.iload_n 2, 1) := by decide +kernel
theorem dX12_cut_55 : decode cX12_cut 55 = .ok (.iastore, 1) := by decide +kernel
theorem dX12_cut_56 : decode cX12_cut 56 = .ok (.return_, 1) := by decide +kernel
theorem dX12_quietly_0 : decode cX12_quietly 0 = .ok (.aload_n 0, 1) := by decide +kernel
theorem dX12_quietly_1 : decode cX12_quietly 1 = .ok (.invokevirtual 120, 3) := by decide +kernel
theorem dX12_quietly_4 : decode cX12_quietly 4 = .ok (.istore 5, 2) := by decide +kernel
theorem dX12_quietly_6 : decode cX12_quietly 6 = .ok (.aload_n 0, 1) := by decide +kernel
theorem dX12_quietly_7 : decode cX12_quietly 7 = .ok (.getfield 23, 3) := by decide +kernel
theorem dX12_quietly_10 : decode cX12_quietly 10 = .ok (.ifCond .eq 15, 3) := by decide +kernel
theorem dX12_quietly_13 : decode cX12_quietly 13 = .ok (.iload_n 2, 1) := by decide +kernel
theorem dX12_quietly_14 : decode cX12_quietly 14 = .ok (.ifCond .le 11, 3) := by decide +kernel
theorem dX12_quietly_17 : decode cX12_quietly 17 = .ok (.aload_n 0, 1) := by decide +kernel
theorem dX12_quietly_18 : decode cX12_quietly 18 = .ok (.iload_n 1, 1) := by decide +kernel
theorem dX12_quietly_19 : decode cX12_quietly 19 = .ok (.invokevirtual 123, 3) := by decide +kernel
theorem dX12_quietly_22 : decode cX12_quietly 22 = .ok (.goto 4, 3) := by decide +kernel
theorem dX12_quietly_25 : decode cX12_quietly 25 = .ok (.iconst 0, 1) := by decide +kernel
theorem dX12_quietly_26 : decode cX12_quietly 26 = .ok (.istore 6, 2) := by decide +kernel
theorem dX12_quietly_28 : decode cX12_quietly 28 = .ok (.iconst 0, 1) := by decide +kernel
theorem dX12_quietly_29 : decode cX12_quietly 29 = .ok (.istore 7, 2) := by decide +kernel
theorem dX12_quietly_31 : decode cX12_quietly 31 = .ok (.iload 7, 2) := by decide +kernel
theorem dX12_quietly_33 : decode cX12_quietly 33 = .ok (.iload 6, 2) := by decide +kernel
theorem dX12_quietly_35 : decode cX12_quietly 35 = .ok (.if_icmp .ge 106, 3) := by decide +kernel
theorem dX12_quietly_38 : decode cX12_quietly 38 = .ok (.iload 5, 2) := by decide +kernel
theorem dX12_quietly_40 : decode cX12_quietly 40 = .ok (.iload 4, 2) := by decide +kernel
theorem dX12_quietly_42 : decode cX12_quietly 42 = .ok (.if_icmp .ge 99, 3) := by decide +kernel
theorem dX12_quietly_45 : decode cX12_quietly 45 = .ok (.aload_n 0, 1) := by decide +kernel
theorem dX12_quietly_46 : decode cX12_quietly 46 = .ok (.getfield 29, 3) := by decide +kernel
theorem dX12_quietly_49 : decode cX12_quietly 49 = .ok (.iload_n 1, 1) := by decide +kernel
theorem dX12_quietly_50 : decode cX12_quietly 50 = .ok (.aaload, 1) := by decide +kernel
theorem dX12_quietly_51 : decode cX12_quietly 51 = .ok (.iload 7, 2) := by decide +kernel
theorem dX12_quietly_53 : decode cX12_quietly 53 = .ok (.iaload, 1) := by decide +kernel
theorem dX12_quietly_54 : decode cX12_quietly 54 = .ok (.istore 8, 2) := by decide +kernel
theorem dX12_quietly_56 : decode cX12_quietly 56 = .ok (.aload_n 0, 1) := by decide +kernel
theorem dX12_quietly_57 : decode cX12_quietly 57 = .ok (.iload 8, 2) := by decide +kernel
theorem dX12_quietly_59 : decode cX12_quietly 59 = .ok (.invokevirtual 126, 3) := by decide +kernel
theorem dX12_quietly_62 : decode cX12_quietly 62 = .ok (.ifCond .ne 6, 3) := by decide +kernel
theorem dX12_quietly_65 : decode cX12_quietly 65 = .ok (.goto 70, 3) := by decide +kernel
theorem dX12_quietly_68 : decode cX12_quietly 68 = .ok (.aload_n 0, 1) := by decide +kernel
theorem dX12_quietly_69 : decode cX12_quietly 69 = .ok (.iload 8, 2) := by decide +kernel
theorem dX12_quietly_71 : decode cX12_quietly 71 = .ok (.invokevirtual 130, 3) := by decide +kernel
theorem dX12_quietly_74 : decode cX12_quietly 74 = .ok (.istore 9, 2) := by decide +kernel
theorem dX12_quietly_76 : decode cX12_quietly 76 = .ok (.aload_n 0, 1) := by decide +kernel
theorem dX12_quietly_77 : decode cX12_quietly 77 = .ok (.dup, 1) := by decide +kernel
theorem dX12_quietly_78 : decode cX12_quietly 78 = .ok (.getfield 169, 3) := by decide +kernel
theorem dX12_quietly_81 : decode cX12_quietly 81 = .ok (.iconst 1, 1) := by decide +kernel
theorem dX12_quietly_82 : decode cX12_quietly 82 = .ok (.iadd, 1) := by decide +kernel
theorem dX12_quietly_83 : decode cX12_quietly 83 = .ok (.putfield 169, 3) := by decide +kernel
theorem dX12_quietly_86 : decode cX12_quietly 86 = .ok (.iload 5, 2) := by decide +kernel
theorem dX12_quietly_88 : decode cX12_quietly 88 = .ok (.aload_n 0, 1) := by decide +kernel
theorem dX12_quietly_89 : decode cX12_quietly 89 = .ok (.invokevirtual 104, 3) := by decide +kernel
theorem dX12_quietly_92 : decode cX12_quietly 92 = .ok (.ifCond .eq 9, 3) := by decide +kernel
theorem dX12_quietly_95 : decode cX12_quietly 95 = .ok (.sipush 1000, 3) := by decide +kernel
theorem dX12_quietly_98 : decode cX12_quietly 98 = .ok (.goto 24, 3) := by decide +kernel
theorem dX12_quietly_101 : decode cX12_quietly 101 = .ok (.aload_n 0, 1) := by decide +kernel
theorem dX12_quietly_102 : decode cX12_quietly 102 = .ok (.iload_n 1, 1) := by decide +kernel
theorem dX12_quietly_103 : decode cX12_quietly 103 = .ok (.iconst 1, 1) := by decide +kernel
theorem dX12_quietly_104 : decode cX12_quietly 104 = .ok (.iadd, 1) := by decide +kernel
theorem dX12_quietly_105 : decode cX12_quietly 105 = .ok (.iload_n 2, 1) := by decide +kernel
theorem dX12_quietly_106 : decode cX12_quietly 106 = .ok (.iconst 1, 1) := by decide +kernel
theorem dX12_quietly_107 : decode cX12_quietly 107 = .ok (.isub, 1) := by decide +kernel
theorem dX12_quietly_108 : decode cX12_quietly 108 = .ok (.iload 4, 2) := by decide +kernel
theorem dX12_quietly_110 : decode cX12_quietly 110 = .ok (.ineg, 1) := by decide +kernel
theorem dX12_quietly_111 : decode cX12_quietly 111 = .ok (.iload_n 3, 1) := by decide +kernel
theorem dX12_quietly_112 : decode cX12_quietly 112 = .ok (.iload 5, 2) := by decide +kernel
theorem dX12_quietly_114 : decode cX12_quietly 114 = .ok (.invokestatic 137, 3) := by decide +kernel
theorem dX12_quietly_117 : decode cX12_quietly 117 = .ok (.ineg, 1) := by decide +kernel
theorem dX12_quietly_118 : decode cX12_quietly 118 = .ok (.invokevirtual 172, 3) := by decide +kernel
theorem dX12_quietly_121 : decode cX12_quietly 121 = .ok (.ineg, 1) := by decide +kernel
theorem dX12_quietly_122 : decode cX12_quietly 122 = .ok (.invokestatic 137, 3) := by decide +kernel
theorem dX12_quietly_125 : decode cX12_quietly 125 = .ok (.istore 5, 2) := by decide +kernel
theorem dX12_quietly_127 : decode cX12_quietly 127 = .ok (.aload_n 0, 1) := by decide +kernel
theorem dX12_quietly_128 : decode cX12_quietly 128 = .ok (.iload 8, 2) := by decide +kernel
theorem dX12_quietly_130 : decode cX12_quietly 130 = .ok (.iload 9, 2) := by decide +kernel
theorem dX12_quietly_132 : decode cX12_quietly 132 = .ok (.invokevirtual 140, 3) := by decide +kernel
theorem dX12_quietly_135 : decode cX12_quietly 135 = .ok (.iinc 7 1, 3) := by decide +kernel
theorem dX12_quietly_138 : decode cX12_quietly 138 = .ok (.goto (-107), 3) := by decide +kernel
theorem dX12_quietly_141 : decode cX12_quietly 141 = .ok (.iload 5, 2) := by decide +kernel
theorem dX12_quietly_143 : decode cX12_quietly 143 = .ok (.ireturn, 1) := by decide +kernel
theorem dX12_searchNow_0 : decode cX12_searchNow 0 = .ok (.aload_n 0, 1) := by decide +kernel
theorem dX12_searchNow_1 : decode cX12_searchNow 1 = .ok (.getfield 45, 3) := by decide +kernel
theorem dX12_searchNow_4 : decode cX12_searchNow 4 = .ok (.astore_n 2, 1) := by decide +kernel
theorem dX12_searchNow_5 : decode cX12_searchNow 5 = .ok (.aload_n 2, 1) := by decide +kernel
theorem dX12_searchNow_6 : decode cX12_searchNow 6 = .ok (.arraylength, 1) := by decide +kernel
theorem dX12_searchNow_7 : decode cX12_searchNow 7 = .ok (.istore_n 3, 1) := by decide +kernel
theorem dX12_searchNow_8 : decode cX12_searchNow 8 = .ok (.iconst 0, 1) := by decide +kernel
theorem dX12_searchNow_9 : decode cX12_searchNow 9 = .ok (.istore 4, 2) := by decide +kernel
theorem dX12_searchNow_11 : decode cX12_searchNow 11 = .ok (.iload 4, 2) := by decide +kernel
theorem dX12_searchNow_13 : decode cX12_searchNow 13 = .ok (.iload_n 3, 1) := by decide +kernel
theorem dX12_searchNow_14 : decode cX12_searchNow 14 = .ok (.if_icmp .ge 21, 3) := by decide +kernel
theorem dX12_searchNow_17 : decode cX12_searchNow 17 = .ok (.aload_n 2, 1) := by decide +kernel
theorem dX12_searchNow_18 : decode cX12_searchNow 18 = .ok (.iload 4, 2) := by decide +kernel
theorem dX12_searchNow_20 : decode cX12_searchNow 20 = .ok (.aaload, 1) := by decide +kernel
theorem dX12_searchNow_21 : decode cX12_searchNow 21 = .ok (.astore 5, 2) := by decide +kernel
theorem dX12_searchNow_23 : decode cX12_searchNow 23 = .ok (.aload 5, 2) := by decide +kernel
theorem dX12_searchNow_25 : decode cX12_searchNow 25 = .ok (.iconst (-1), 1) := by decide +kernel
theorem dX12_searchNow_26 : decode cX12_searchNow 26 = .ok (.invokestatic 201, 3) := by decide +kernel
theorem dX12_searchNow_29 : decode cX12_searchNow 29 = .ok (.iinc 4 1, 3) := by decide +kernel
theorem dX12_searchNow_32 : decode cX12_searchNow 32 = .ok (.goto (-21), 3) := by decide +kernel
theorem dX12_searchNow_35 : decode cX12_searchNow 35 = .ok (.aload_n 0, 1) := by decide +kernel
theorem dX12_searchNow_36 : decode cX12_searchNow 36 = .ok (.iconst 0, 1) := by decide +kernel
theorem dX12_searchNow_37 : decode cX12_searchNow 37 = .ok (.putfield 169, 3) := by decide +kernel
theorem dX12_searchNow_40 : decode cX12_searchNow 40 = .ok (.aload_n 0, 1) := by decide +kernel
theorem dX12_searchNow_41 : decode cX12_searchNow 41 = .ok (.iconst 0, 1) := by decide +kernel
theorem dX12_searchNow_42 : decode cX12_searchNow 42 = .ok (.putfield 182, 3) := by decide +kernel
theorem dX12_searchNow_45 : decode cX12_searchNow 45 = .ok (.aload_n 0, 1) := by decide +kernel
theorem dX12_searchNow_46 : decode cX12_searchNow 46 = .ok (.iconst 0, 1) := by decide +kernel
theorem dX12_searchNow_47 : decode cX12_searchNow 47 = .ok (.putfield 198, 3) := by decide +kernel
theorem dX12_searchNow_50 : decode cX12_searchNow 50 = .ok (.iconst 0, 1) := by decide +kernel
theorem dX12_searchNow_51 : decode cX12_searchNow 51 = .ok (.istore_n 2, 1) := by decide +kernel
theorem dX12_searchNow_52 : decode cX12_searchNow 52 = .ok (.aload_n 0, 1) := by decide +kernel
theorem dX12_searchNow_53 : decode cX12_searchNow 53 = .ok (.iconst 0, 1) := by decide +kernel
theorem dX12_searchNow_54 : decode cX12_searchNow 54 = .ok (.putfield 207, 3) := by decide +kernel
theorem dX12_searchNow_57 : decode cX12_searchNow 57 = .ok (.aload_n 0, 1) := by decide +kernel
theorem dX12_searchNow_58 : decode cX12_searchNow 58 = .ok (.getfield 207, 3) := by decide +kernel
theorem dX12_searchNow_61 : decode cX12_searchNow 61 = .ok (.iload_n 1, 1) := by decide +kernel
theorem dX12_searchNow_62 : decode cX12_searchNow 62 = .ok (.if_icmp .ge 49, 3) := by decide +kernel
theorem dX12_searchNow_65 : decode cX12_searchNow 65 = .ok (.aload_n 0, 1) := by decide +kernel
theorem dX12_searchNow_66 : decode cX12_searchNow 66 = .ok (.getfield 207, 3) := by decide +kernel
theorem dX12_searchNow_69 : decode cX12_searchNow 69 = .ok (.ifCond .eq 13, 3) := by decide +kernel
theorem dX12_searchNow_72 : decode cX12_searchNow 72 = .ok (.aload_n 0, 1) := by decide +kernel
theorem dX12_searchNow_73 : decode cX12_searchNow 73 = .ok (.getfield 169, 3) := by decide +kernel
theorem dX12_searchNow_76 : decode cX12_searchNow 76 = .ok (.sipush 1000, 3) := by decide +kernel
theorem dX12_searchNow_79 : decode cX12_searchNow 79 = .ok (.if_icmp .gt 32, 3) := by decide +kernel
theorem dX12_searchNow_82 : decode cX12_searchNow 82 = .ok (.aload_n 0, 1) := by decide +kernel
theorem dX12_searchNow_83 : decode cX12_searchNow 83 = .ok (.dup, 1) := by decide +kernel
theorem dX12_searchNow_84 : decode cX12_searchNow 84 = .ok (.getfield 207, 3) := by decide +kernel
theorem dX12_searchNow_87 : decode cX12_searchNow 87 = .ok (.iconst 1, 1) := by decide +kernel
theorem dX12_searchNow_88 : decode cX12_searchNow 88 = .ok (.iadd, 1) := by decide +kernel
theorem dX12_searchNow_89 : decode cX12_searchNow 89 = .ok (.putfield 207, 3) := by decide +kernel
theorem dX12_searchNow_92 : decode cX12_searchNow 92 = .ok (.aload_n 0, 1) := by decide +kernel
theorem dX12_searchNow_93 : decode cX12_searchNow 93 = .ok (.iconst 0, 1) := by decide +kernel
theorem dX12_searchNow_94 : decode cX12_searchNow 94 = .ok (.aload_n 0, 1) := by decide +kernel
theorem dX12_searchNow_95 : decode cX12_searchNow 95 = .ok (.getfield 207, 3) := by decide +kernel
theorem dX12_searchNow_98 : decode cX12_searchNow 98 = .ok (.sipush (-9999), 3) := by decide +kernel
theorem dX12_searchNow_101 : decode cX12_searchNow 101 = .ok (.sipush 9999, 3) := by decide +kernel
theorem dX12_searchNow_104 : decode cX12_searchNow 104 = .ok (.invokevirtual 188, 3) := by decide +kernel
theorem dX12_searchNow_107 : decode cX12_searchNow 107 = .ok (.istore_n 2, 1) := by decide +kernel
theorem dX12_searchNow_108 : decode cX12_searchNow 108 = .ok (.goto (-51), 3) := by decide +kernel
theorem dX12_searchNow_111 : decode cX12_searchNow 111 = .ok (.aload_n 0, 1) := by decide +kernel
theorem dX12_searchNow_112 : decode cX12_searchNow 112 = .ok (.aload_n 0, 1) := by decide +kernel
theorem dX12_searchNow_113 : decode cX12_searchNow 113 = .ok (.getfield 48, 3) := by decide +kernel
theorem dX12_searchNow_116 : decode cX12_searchNow 116 = .ok (.putfield 51, 3) := by decide +kernel
theorem dX12_searchNow_119 : decode cX12_searchNow 119 = .ok (.iload_n 2, 1) := by decide +kernel
theorem dX12_searchNow_120 : decode cX12_searchNow 120 = .ok (.ireturn, 1) := by decide +kernel
theorem dX12_pageOf_0 : decode cX12_pageOf 0 = .ok (.aload_n 0, 1) := by decide +kernel
theorem dX12_pageOf_1 : decode cX12_pageOf 1 = .ok (.getfield 210, 3) := by decide +kernel
theorem dX12_pageOf_4 : decode cX12_pageOf 4 = .ok (.iconst 1, 1) := by decide +kernel
theorem dX12_pageOf_5 : decode cX12_pageOf 5 = .ok (.isub, 1) := by decide +kernel
theorem dX12_pageOf_6 : decode cX12_pageOf 6 = .ok (.istore 4, 2) := by decide +kernel
theorem dX12_pageOf_8 : decode cX12_pageOf 8 = .ok (.iload 4, 2) := by decide +kernel
theorem dX12_pageOf_10 : decode cX12_pageOf 10 = .ok (.ifCond .lt 34, 3) := by decide +kernel
theorem dX12_pageOf_13 : decode cX12_pageOf 13 = .ok (.aload_n 0, 1) := by decide +kernel
theorem dX12_pageOf_14 : decode cX12_pageOf 14 = .ok (.getfield 54, 3) := by decide +kernel
theorem dX12_pageOf_17 : decode cX12_pageOf 17 = .ok (.iload 4, 2) := by decide +kernel
theorem dX12_pageOf_19 : decode cX12_pageOf 19 = .ok (.laload, 1) := by decide +kernel
theorem dX12_pageOf_20 : decode cX12_pageOf 20 = .ok (.lload_n 1, 1) := by decide +kernel
theorem dX12_pageOf_21 : decode cX12_pageOf 21 = .ok (.lcmp, 1) := by decide +kernel
theorem dX12_pageOf_22 : decode cX12_pageOf 22 = .ok (.ifCond .ne 16, 3) := by decide +kernel
theorem dX12_pageOf_25 : decode cX12_pageOf 25 = .ok (.aload_n 0, 1) := by decide +kernel
theorem dX12_pageOf_26 : decode cX12_pageOf 26 = .ok (.getfield 57, 3) := by decide +kernel
theorem dX12_pageOf_29 : decode cX12_pageOf 29 = .ok (.iload 4, 2) := by decide +kernel
theorem dX12_pageOf_31 : decode cX12_pageOf 31 = .ok (.aaload, 1) := by decide +kernel
theorem dX12_pageOf_32 : decode cX12_pageOf 32 = .ok (.iconst 0, 1) := by decide +kernel
theorem dX12_pageOf_33 : decode cX12_pageOf 33 = .ok (.iaload, 1) := by decide +kernel
theorem dX12_pageOf_34 : decode cX12_pageOf 34 = .ok (.iload_n 3, 1) := by decide +kernel
theorem dX12_pageOf_35 : decode cX12_pageOf 35 = .ok (.if_icmp .eq 9, 3) := by decide +kernel
theorem dX12_pageOf_38 : decode cX12_pageOf 38 = .ok (.iinc 4 (-1), 3) := by decide +kernel
theorem dX12_pageOf_41 : decode cX12_pageOf 41 = .ok (.goto (-33), 3) := by decide +kernel
theorem dX12_pageOf_44 : decode cX12_pageOf 44 = .ok (.iload 4, 2) := by decide +kernel
theorem dX12_pageOf_46 : decode cX12_pageOf 46 = .ok (.ireturn, 1) := by decide +kernel
theorem dX12_toldNow_0 : decode cX12_toldNow 0 = .ok (.aload_n 0, 1) := by decide +kernel
theorem dX12_toldNow_1 : decode cX12_toldNow 1 = .ok (.iconst 0, 1) := by decide +kernel
theorem dX12_toldNow_2 : decode cX12_toldNow 2 = .ok (.invokevirtual 123, 3) := by decide +kernel
theorem dX12_toldNow_5 : decode cX12_toldNow 5 = .ok (.istore_n 1, 1) := by decide +kernel
theorem dX12_toldNow_6 : decode cX12_toldNow 6 = .ok (.iconst (-1), 1) := by decide +kernel
theorem dX12_toldNow_7 : decode cX12_toldNow 7 = .ok (.istore_n 2, 1) := by decide +kernel
theorem dX12_toldNow_8 : decode cX12_toldNow 8 = .ok (.iconst 0, 1) := by decide +kernel
theorem dX12_toldNow_9 : decode cX12_toldNow 9 = .ok (.istore_n 3, 1) := by decide +kernel
theorem dX12_toldNow_10 : decode cX12_toldNow 10 = .ok (.iconst 0, 1) := by decide +kernel
theorem dX12_toldNow_11 : decode cX12_toldNow 11 = .ok (.istore 4, 2) := by decide +kernel
theorem dX12_toldNow_13 : decode cX12_toldNow 13 = .ok (.iload 4, 2) := by decide +kernel
theorem dX12_toldNow_15 : decode cX12_toldNow 15 = .ok (.iload_n 1, 1) := by decide +kernel
theorem dX12_toldNow_16 : decode cX12_toldNow 16 = .ok (.if_icmp .ge 63, 3) := by decide +kernel
theorem dX12_toldNow_19 : decode cX12_toldNow 19 = .ok (.aload_n 0, 1) := by decide +kernel
theorem dX12_toldNow_20 : decode cX12_toldNow 20 = .ok (.aload_n 0, 1) := by decide +kernel
theorem dX12_toldNow_21 : decode cX12_toldNow 21 = .ok (.invokevirtual 157, 3) := by decide +kernel
theorem dX12_toldNow_24 : decode cX12_toldNow 24 = .ok (.aload_n 0, 1) := by decide +kernel
theorem dX12_toldNow_25 : decode cX12_toldNow 25 = .ok (.getfield 29, 3) := by decide +kernel
theorem dX12_toldNow_28 : decode cX12_toldNow 28 = .ok (.iconst 0, 1) := by decide +kernel
theorem dX12_toldNow_29 : decode cX12_toldNow 29 = .ok (.aaload, 1) := by decide +kernel
theorem dX12_toldNow_30 : decode cX12_toldNow 30 = .ok (.iload 4, 2) := by decide +kernel
theorem dX12_toldNow_32 : decode cX12_toldNow 32 = .ok (.iaload, 1) := by decide +kernel
theorem dX12_toldNow_33 : decode cX12_toldNow 33 = .ok (.invokevirtual 213, 3) := by decide +kernel
theorem dX12_toldNow_36 : decode cX12_toldNow 36 = .ok (.istore 5, 2) := by decide +kernel
theorem dX12_toldNow_38 : decode cX12_toldNow 38 = .ok (.iload 5, 2) := by decide +kernel
theorem dX12_toldNow_40 : decode cX12_toldNow 40 = .ok (.iconst (-1), 1) := by decide +kernel
theorem dX12_toldNow_41 : decode cX12_toldNow 41 = .ok (.if_icmp .eq 32, 3) := by decide +kernel
theorem dX12_toldNow_44 : decode cX12_toldNow 44 = .ok (.aload_n 0, 1) := by decide +kernel
theorem dX12_toldNow_45 : decode cX12_toldNow 45 = .ok (.getfield 57, 3) := by decide +kernel
theorem dX12_toldNow_48 : decode cX12_toldNow 48 = .ok (.iload 5, 2) := by decide +kernel
theorem dX12_toldNow_50 : decode cX12_toldNow 50 = .ok (.aaload, 1) := by decide +kernel
theorem dX12_toldNow_51 : decode cX12_toldNow 51 = .ok (.iconst 1, 1) := by decide +kernel
theorem dX12_toldNow_52 : decode cX12_toldNow 52 = .ok (.iaload, 1) := by decide +kernel
theorem dX12_toldNow_53 : decode cX12_toldNow 53 = .ok (.iload_n 3, 1) := by decide +kernel
theorem dX12_toldNow_54 : decode cX12_toldNow 54 = .ok (.if_icmp .gt 6, 3) := by decide +kernel
theorem dX12_toldNow_57 : decode cX12_toldNow 57 = .ok (.goto 16, 3) := by decide +kernel
theorem dX12_toldNow_60 : decode cX12_toldNow 60 = .ok (.iload 4, 2) := by decide +kernel
theorem dX12_toldNow_62 : decode cX12_toldNow 62 = .ok (.istore_n 2, 1) := by decide +kernel
theorem dX12_toldNow_63 : decode cX12_toldNow 63 = .ok (.aload_n 0, 1) := by decide +kernel
theorem dX12_toldNow_64 : decode cX12_toldNow 64 = .ok (.getfield 57, 3) := by decide +kernel
theorem dX12_toldNow_67 : decode cX12_toldNow 67 = .ok (.iload 5, 2) := by decide +kernel
theorem dX12_toldNow_69 : decode cX12_toldNow 69 = .ok (.aaload, 1) := by decide +kernel
theorem dX12_toldNow_70 : decode cX12_toldNow 70 = .ok (.iconst 1, 1) := by decide +kernel
theorem dX12_toldNow_71 : decode cX12_toldNow 71 = .ok (.iaload, 1) := by decide +kernel
theorem dX12_toldNow_72 : decode cX12_toldNow 72 = .ok (.istore_n 3, 1) := by decide +kernel
theorem dX12_toldNow_73 : decode cX12_toldNow 73 = .ok (.iinc 4 1, 3) := by decide +kernel
theorem dX12_toldNow_76 : decode cX12_toldNow 76 = .ok (.goto (-63), 3) := by decide +kernel
theorem dX12_toldNow_79 : decode cX12_toldNow 79 = .ok (.iload_n 2, 1) := by decide +kernel
theorem dX12_toldNow_80 : decode cX12_toldNow 80 = .ok (.ireturn, 1) := by decide +kernel
theorem dX12_setUp_0 : decode cX12_setUp 0 = .ok (.aload_n 0, 1) := by decide +kernel
theorem dX12_setUp_1 : decode cX12_setUp 1 = .ok (.iconst 0, 1) := by decide +kernel
theorem dX12_setUp_2 : decode cX12_setUp 2 = .ok (.putfield 64, 3) := by decide +kernel
theorem dX12_setUp_5 : decode cX12_setUp 5 = .ok (.iload_n 1, 1) := by decide +kernel
theorem dX12_setUp_6 : decode cX12_setUp 6 = .ok (.iconst 3, 1) := by decide +kernel
theorem dX12_setUp_7 : decode cX12_setUp 7 = .ok (.iconst 5, 1) := by decide +kernel
theorem dX12_setUp_8 : decode cX12_setUp 8 = .ok (.invokestatic 83, 3) := by decide +kernel
theorem dX12_setUp_11 : decode cX12_setUp 11 = .ok (.ifCond .eq 37, 3) := by decide +kernel
theorem dX12_setUp_14 : decode cX12_setUp 14 = .ok (.iload_n 2, 1) := by decide +kernel
theorem dX12_setUp_15 : decode cX12_setUp 15 = .ok (.iconst 3, 1) := by decide +kernel
theorem dX12_setUp_16 : decode cX12_setUp 16 = .ok (.iconst 5, 1) := by decide +kernel
theorem dX12_setUp_17 : decode cX12_setUp 17 = .ok (.invokestatic 83, 3) := by decide +kernel
theorem dX12_setUp_20 : decode cX12_setUp 20 = .ok (.ifCond .eq 28, 3) := by decide +kernel
theorem dX12_setUp_23 : decode cX12_setUp 23 = .ok (.iload_n 3, 1) := by decide +kernel
theorem dX12_setUp_24 : decode cX12_setUp 24 = .ok (.iconst 1, 1) := by decide +kernel
theorem dX12_setUp_25 : decode cX12_setUp 25 = .ok (.if_icmp .lt 23, 3) := by decide +kernel
theorem dX12_setUp_28 : decode cX12_setUp 28 = .ok (.iload_n 3, 1) := by decide +kernel
theorem dX12_setUp_29 : decode cX12_setUp 29 = .ok (.iload_n 2, 1) := by decide +kernel
theorem dX12_setUp_30 : decode cX12_setUp 30 = .ok (.if_icmp .ge 18, 3) := by decide +kernel
theorem dX12_setUp_33 : decode cX12_setUp 33 = .ok (.iconst 2, 1) := by decide +kernel
theorem dX12_setUp_34 : decode cX12_setUp 34 = .ok (.iload_n 3, 1) := by decide +kernel
theorem dX12_setUp_35 : decode cX12_setUp 35 = .ok (.imul, 1) := by decide +kernel
theorem dX12_setUp_36 : decode cX12_setUp 36 = .ok (.iload_n 2, 1) := by decide +kernel
theorem dX12_setUp_37 : decode cX12_setUp 37 = .ok (.if_icmp .ge 11, 3) := by decide +kernel
theorem dX12_setUp_40 : decode cX12_setUp 40 = .ok (.iload_n 3, 1) := by decide +kernel
theorem dX12_setUp_41 : decode cX12_setUp 41 = .ok (.iload_n 1, 1) := by decide +kernel
theorem dX12_setUp_42 : decode cX12_setUp 42 = .ok (.imul, 1) := by decide +kernel
theorem dX12_setUp_43 : decode cX12_setUp 43 = .ok (.bipush 6, 2) := by decide +kernel
theorem dX12_setUp_45 : decode cX12_setUp 45 = .ok (.if_icmp .le 9, 3) := by decide +kernel
theorem dX12_setUp_48 : decode cX12_setUp 48 = .ok (.aload_n 0, 1) := by decide +kernel
theorem dX12_setUp_49 : decode cX12_setUp 49 = .ok (.iconst 1, 1) := by decide +kernel
theorem dX12_setUp_50 : decode cX12_setUp 50 = .ok (.invokevirtual 217, 3) := by decide +kernel
theorem dX12_setUp_53 : decode cX12_setUp 53 = .ok (.ireturn, 1) := by decide +kernel
theorem dX12_setUp_54 : decode cX12_setUp 54 = .ok (.aload_n 0, 1) := by decide +kernel
theorem dX12_setUp_55 : decode cX12_setUp 55 = .ok (.iload_n 1, 1) := by decide +kernel
theorem dX12_setUp_56 : decode cX12_setUp 56 = .ok (.iload_n 2, 1) := by decide +kernel
theorem dX12_setUp_57 : decode cX12_setUp 57 = .ok (.iload_n 3, 1) := by decide +kernel
theorem dX12_setUp_58 : decode cX12_setUp 58 = .ok (.invokevirtual 60, 3) := by decide +kernel
theorem dX12_setUp_61 : decode cX12_setUp 61 = .ok (.iconst 2, 1) := by decide +kernel
theorem dX12_setUp_62 : decode cX12_setUp 62 = .ok (.iload_n 3, 1) := by decide +kernel
theorem dX12_setUp_63 : decode cX12_setUp 63 = .ok (.imul, 1) := by decide +kernel
theorem dX12_setUp_64 : decode cX12_setUp 64 = .ok (.aload_n 0, 1) := by decide +kernel
theorem dX12_setUp_65 : decode cX12_setUp 65 = .ok (.getfield 67, 3) := by decide +kernel
theorem dX12_setUp_68 : decode cX12_setUp 68 = .ok (.imul, 1) := by decide +kernel
theorem dX12_setUp_69 : decode cX12_setUp 69 = .ok (.ireturn, 1) := by decide +kernel
