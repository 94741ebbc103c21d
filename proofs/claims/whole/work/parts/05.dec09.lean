theorem d_BlockCodeModel_findFacts_215 : decode b_BlockCodeModel_findFacts 215 = .ok (.iload 7, 2) := by decide +kernel
theorem d_BlockCodeModel_findFacts_217 : decode b_BlockCodeModel_findFacts 217 = .ok (.ifCond .eq 16, 3) := by decide +kernel
theorem d_BlockCodeModel_findFacts_220 : decode b_BlockCodeModel_findFacts 220 = .ok (.aload_n 0, 1) := by decide +kernel
theorem d_BlockCodeModel_findFacts_221 : decode b_BlockCodeModel_findFacts 221 = .ok (.iload_n 3, 1) := by decide +kernel
theorem d_BlockCodeModel_findFacts_222 : decode b_BlockCodeModel_findFacts 222 = .ok (.iload_n 3, 1) := by decide +kernel
theorem d_BlockCodeModel_findFacts_223 : decode b_BlockCodeModel_findFacts 223 = .ok (.iconst 1, 1) := by decide +kernel
theorem d_BlockCodeModel_findFacts_224 : decode b_BlockCodeModel_findFacts 224 = .ok (.iadd, 1) := by decide +kernel
theorem d_BlockCodeModel_findFacts_225 : decode b_BlockCodeModel_findFacts 225 = .ok (.invokevirtual 113, 3) := by decide +kernel
theorem d_BlockCodeModel_findFacts_228 : decode b_BlockCodeModel_findFacts 228 = .ok (.ifCond .eq 5, 3) := by decide +kernel
theorem d_BlockCodeModel_findFacts_231 : decode b_BlockCodeModel_findFacts 231 = .ok (.iconst 1, 1) := by decide +kernel
theorem d_BlockCodeModel_findFacts_232 : decode b_BlockCodeModel_findFacts 232 = .ok (.istore_n 1, 1) := by decide +kernel
theorem d_BlockCodeModel_findFacts_233 : decode b_BlockCodeModel_findFacts 233 = .ok (.iload 4, 2) := by decide +kernel
theorem d_BlockCodeModel_findFacts_235 : decode b_BlockCodeModel_findFacts 235 = .ok (.bipush 8, 2) := by decide +kernel
theorem d_BlockCodeModel_findFacts_237 : decode b_BlockCodeModel_findFacts 237 = .ok (.if_icmp .ne 23, 3) := by decide +kernel
theorem d_BlockCodeModel_findFacts_240 : decode b_BlockCodeModel_findFacts 240 = .ok (.aload_n 0, 1) := by decide +kernel
theorem d_BlockCodeModel_findFacts_241 : decode b_BlockCodeModel_findFacts 241 = .ok (.iload_n 3, 1) := by decide +kernel
theorem d_BlockCodeModel_findFacts_242 : decode b_BlockCodeModel_findFacts 242 = .ok (.aload_n 0, 1) := by decide +kernel
theorem d_BlockCodeModel_findFacts_243 : decode b_BlockCodeModel_findFacts 243 = .ok (.getfield 7, 3) := by decide +kernel
theorem d_BlockCodeModel_findFacts_246 : decode b_BlockCodeModel_findFacts 246 = .ok (.iconst 4, 1) := by decide +kernel
theorem d_BlockCodeModel_findFacts_247 : decode b_BlockCodeModel_findFacts 247 = .ok (.iload_n 3, 1) := by decide +kernel
theorem d_BlockCodeModel_findFacts_248 : decode b_BlockCodeModel_findFacts 248 = .ok (.imul, 1) := by decide +kernel
theorem d_BlockCodeModel_findFacts_249 : decode b_BlockCodeModel_findFacts 249 = .ok (.iconst 2, 1) := by decide +kernel
theorem d_BlockCodeModel_findFacts_250 : decode b_BlockCodeModel_findFacts 250 = .ok (.iadd, 1) := by decide +kernel
theorem d_BlockCodeModel_findFacts_251 : decode b_BlockCodeModel_findFacts 251 = .ok (.iaload, 1) := by decide +kernel
theorem d_BlockCodeModel_findFacts_252 : decode b_BlockCodeModel_findFacts 252 = .ok (.invokevirtual 113, 3) := by decide +kernel
theorem d_BlockCodeModel_findFacts_255 : decode b_BlockCodeModel_findFacts 255 = .ok (.ifCond .eq 5, 3) := by decide +kernel
theorem d_BlockCodeModel_findFacts_258 : decode b_BlockCodeModel_findFacts 258 = .ok (.iconst 1, 1) := by decide +kernel
theorem d_BlockCodeModel_findFacts_259 : decode b_BlockCodeModel_findFacts 259 = .ok (.istore_n 1, 1) := by decide +kernel
theorem d_BlockCodeModel_findFacts_260 : decode b_BlockCodeModel_findFacts 260 = .ok (.iload 4, 2) := by decide +kernel
theorem d_BlockCodeModel_findFacts_262 : decode b_BlockCodeModel_findFacts 262 = .ok (.bipush 9, 2) := by decide +kernel
theorem d_BlockCodeModel_findFacts_264 : decode b_BlockCodeModel_findFacts 264 = .ok (.if_icmp .ne 43, 3) := by decide +kernel
theorem d_BlockCodeModel_findFacts_267 : decode b_BlockCodeModel_findFacts 267 = .ok (.aload_n 0, 1) := by decide +kernel
theorem d_BlockCodeModel_findFacts_268 : decode b_BlockCodeModel_findFacts 268 = .ok (.getfield 20, 3) := by decide +kernel
theorem d_BlockCodeModel_findFacts_271 : decode b_BlockCodeModel_findFacts 271 = .ok (.iload 5, 2) := by decide +kernel
theorem d_BlockCodeModel_findFacts_273 : decode b_BlockCodeModel_findFacts 273 = .ok (.baload, 1) := by decide +kernel
theorem d_BlockCodeModel_findFacts_274 : decode b_BlockCodeModel_findFacts 274 = .ok (.ifCond .eq 13, 3) := by decide +kernel
theorem d_BlockCodeModel_findFacts_277 : decode b_BlockCodeModel_findFacts 277 = .ok (.aload_n 0, 1) := by decide +kernel
theorem d_BlockCodeModel_findFacts_278 : decode b_BlockCodeModel_findFacts 278 = .ok (.getfield 23, 3) := by decide +kernel
theorem d_BlockCodeModel_findFacts_281 : decode b_BlockCodeModel_findFacts 281 = .ok (.iload 5, 2) := by decide +kernel
theorem d_BlockCodeModel_findFacts_283 : decode b_BlockCodeModel_findFacts 283 = .ok (.iaload, 1) := by decide +kernel
theorem d_BlockCodeModel_findFacts_284 : decode b_BlockCodeModel_findFacts 284 = .ok (.ifCond .eq 23, 3) := by decide +kernel
theorem d_BlockCodeModel_findFacts_287 : decode b_BlockCodeModel_findFacts 287 = .ok (.aload_n 0, 1) := by decide +kernel
theorem d_BlockCodeModel_findFacts_288 : decode b_BlockCodeModel_findFacts 288 = .ok (.iload_n 3, 1) := by decide +kernel
theorem d_BlockCodeModel_findFacts_289 : decode b_BlockCodeModel_findFacts 289 = .ok (.aload_n 0, 1) := by decide +kernel
theorem d_BlockCodeModel_findFacts_290 : decode b_BlockCodeModel_findFacts 290 = .ok (.getfield 7, 3) := by decide +kernel
theorem d_BlockCodeModel_findFacts_293 : decode b_BlockCodeModel_findFacts 293 = .ok (.iconst 4, 1) := by decide +kernel
theorem d_BlockCodeModel_findFacts_294 : decode b_BlockCodeModel_findFacts 294 = .ok (.iload_n 3, 1) := by decide +kernel
theorem d_BlockCodeModel_findFacts_295 : decode b_BlockCodeModel_findFacts 295 = .ok (.imul, 1) := by decide +kernel
theorem d_BlockCodeModel_findFacts_296 : decode b_BlockCodeModel_findFacts 296 = .ok (.iconst 3, 1) := by decide +kernel
theorem d_BlockCodeModel_findFacts_297 : decode b_BlockCodeModel_findFacts 297 = .ok (.iadd, 1) := by decide +kernel
theorem d_BlockCodeModel_findFacts_298 : decode b_BlockCodeModel_findFacts 298 = .ok (.iaload, 1) := by decide +kernel
theorem d_BlockCodeModel_findFacts_299 : decode b_BlockCodeModel_findFacts 299 = .ok (.invokevirtual 113, 3) := by decide +kernel
theorem d_BlockCodeModel_findFacts_302 : decode b_BlockCodeModel_findFacts 302 = .ok (.ifCond .eq 5, 3) := by decide +kernel
theorem d_BlockCodeModel_findFacts_305 : decode b_BlockCodeModel_findFacts 305 = .ok (.iconst 1, 1) := by decide +kernel
theorem d_BlockCodeModel_findFacts_306 : decode b_BlockCodeModel_findFacts 306 = .ok (.istore_n 1, 1) := by decide +kernel
theorem d_BlockCodeModel_findFacts_307 : decode b_BlockCodeModel_findFacts 307 = .ok (.iinc 3 1, 3) := by decide +kernel
theorem d_BlockCodeModel_findFacts_310 : decode b_BlockCodeModel_findFacts 310 = .ok (.goto (-238), 3) := by decide +kernel
theorem d_BlockCodeModel_findFacts_313 : decode b_BlockCodeModel_findFacts 313 = .ok (.iinc 2 1, 3) := by decide +kernel
theorem d_BlockCodeModel_findFacts_316 : decode b_BlockCodeModel_findFacts 316 = .ok (.goto (-259), 3) := by decide +kernel
theorem d_BlockCodeModel_findFacts_319 : decode b_BlockCodeModel_findFacts 319 = .ok (.return_, 1) := by decide +kernel
theorem d_BlockCodeModel_findNeeded_0 : decode b_BlockCodeModel_findNeeded 0 = .ok (.iconst 0, 1) := by decide +kernel
theorem d_BlockCodeModel_findNeeded_1 : decode b_BlockCodeModel_findNeeded 1 = .ok (.istore_n 2, 1) := by decide +kernel
theorem d_BlockCodeModel_findNeeded_2 : decode b_BlockCodeModel_findNeeded 2 = .ok (.iload_n 2, 1) := by decide +kernel
theorem d_BlockCodeModel_findNeeded_3 : decode b_BlockCodeModel_findNeeded 3 = .ok (.bipush 20, 2) := by decide +kernel
theorem d_BlockCodeModel_findNeeded_5 : decode b_BlockCodeModel_findNeeded 5 = .ok (.if_icmp .gt 16, 3) := by decide +kernel
theorem d_BlockCodeModel_findNeeded_8 : decode b_BlockCodeModel_findNeeded 8 = .ok (.aload_n 0, 1) := by decide +kernel
theorem d_BlockCodeModel_findNeeded_9 : decode b_BlockCodeModel_findNeeded 9 = .ok (.getfield 26, 3) := by decide +kernel
theorem d_BlockCodeModel_findNeeded_12 : decode b_BlockCodeModel_findNeeded 12 = .ok (.iload_n 2, 1) := by decide +kernel
theorem d_BlockCodeModel_findNeeded_13 : decode b_BlockCodeModel_findNeeded 13 = .ok (.iconst 0, 1) := by decide +kernel
theorem d_BlockCodeModel_findNeeded_14 : decode b_BlockCodeModel_findNeeded 14 = .ok (.iastore, 1) := by decide +kernel
theorem d_BlockCodeModel_findNeeded_15 : decode b_BlockCodeModel_findNeeded 15 = .ok (.iinc 2 1, 3) := by decide +kernel
theorem d_BlockCodeModel_findNeeded_18 : decode b_BlockCodeModel_findNeeded 18 = .ok (.goto (-16), 3) := by decide +kernel
theorem d_BlockCodeModel_findNeeded_21 : decode b_BlockCodeModel_findNeeded 21 = .ok (.iconst 0, 1) := by decide +kernel
theorem d_BlockCodeModel_findNeeded_22 : decode b_BlockCodeModel_findNeeded 22 = .ok (.istore_n 2, 1) := by decide +kernel
theorem d_BlockCodeModel_findNeeded_23 : decode b_BlockCodeModel_findNeeded 23 = .ok (.iload_n 2, 1) := by decide +kernel
theorem d_BlockCodeModel_findNeeded_24 : decode b_BlockCodeModel_findNeeded 24 = .ok (.bipush 120, 2) := by decide +kernel
theorem d_BlockCodeModel_findNeeded_26 : decode b_BlockCodeModel_findNeeded 26 = .ok (.if_icmp .ge 222, 3) := by decide +kernel
theorem d_BlockCodeModel_findNeeded_29 : decode b_BlockCodeModel_findNeeded 29 = .ok (.aload_n 0, 1) := by decide +kernel
theorem d_BlockCodeModel_findNeeded_30 : decode b_BlockCodeModel_findNeeded 30 = .ok (.getfield 85, 3) := by decide +kernel
theorem d_BlockCodeModel_findNeeded_33 : decode b_BlockCodeModel_findNeeded 33 = .ok (.iconst 1, 1) := by decide +kernel
theorem d_BlockCodeModel_findNeeded_34 : decode b_BlockCodeModel_findNeeded 34 = .ok (.isub, 1) := by decide +kernel
theorem d_BlockCodeModel_findNeeded_35 : decode b_BlockCodeModel_findNeeded 35 = .ok (.istore_n 3, 1) := by decide +kernel
theorem d_BlockCodeModel_findNeeded_36 : decode b_BlockCodeModel_findNeeded 36 = .ok (.iload_n 3, 1) := by decide +kernel
theorem d_BlockCodeModel_findNeeded_37 : decode b_BlockCodeModel_findNeeded 37 = .ok (.ifCond .lt 205, 3) := by decide +kernel
theorem d_BlockCodeModel_findNeeded_40 : decode b_BlockCodeModel_findNeeded 40 = .ok (.bipush 80, 2) := by decide +kernel
theorem d_BlockCodeModel_findNeeded_42 : decode b_BlockCodeModel_findNeeded 42 = .ok (.iload_n 1, 1) := by decide +kernel
theorem d_BlockCodeModel_findNeeded_43 : decode b_BlockCodeModel_findNeeded 43 = .ok (.imul, 1) := by decide +kernel
theorem d_BlockCodeModel_findNeeded_44 : decode b_BlockCodeModel_findNeeded 44 = .ok (.iconst 4, 1) := by decide +kernel
theorem d_BlockCodeModel_findNeeded_45 : decode b_BlockCodeModel_findNeeded 45 = .ok (.iload_n 3, 1) := by decide +kernel
theorem d_BlockCodeModel_findNeeded_46 : decode b_BlockCodeModel_findNeeded 46 = .ok (.imul, 1) := by decide +kernel
theorem d_BlockCodeModel_findNeeded_47 : decode b_BlockCodeModel_findNeeded 47 = .ok (.iadd, 1) := by decide +kernel
theorem d_BlockCodeModel_findNeeded_48 : decode b_BlockCodeModel_findNeeded 48 = .ok (.istore 4, 2) := by decide +kernel
theorem d_BlockCodeModel_findNeeded_50 : decode b_BlockCodeModel_findNeeded 50 = .ok (.aload_n 0, 1) := by decide +kernel
theorem d_BlockCodeModel_findNeeded_51 : decode b_BlockCodeModel_findNeeded 51 = .ok (.getfield 7, 3) := by decide +kernel
theorem d_BlockCodeModel_findNeeded_54 : decode b_BlockCodeModel_findNeeded 54 = .ok (.iload 4, 2) := by decide +kernel
theorem d_BlockCodeModel_findNeeded_56 : decode b_BlockCodeModel_findNeeded 56 = .ok (.iaload, 1) := by decide +kernel
theorem d_BlockCodeModel_findNeeded_57 : decode b_BlockCodeModel_findNeeded 57 = .ok (.istore 5, 2) := by decide +kernel
theorem d_BlockCodeModel_findNeeded_59 : decode b_BlockCodeModel_findNeeded 59 = .ok (.iload 5, 2) := by decide +kernel
theorem d_BlockCodeModel_findNeeded_61 : decode b_BlockCodeModel_findNeeded 61 = .ok (.bipush 10, 2) := by decide +kernel
theorem d_BlockCodeModel_findNeeded_63 : decode b_BlockCodeModel_findNeeded 63 = .ok (.if_icmp .ne 15, 3) := by decide +kernel
theorem d_BlockCodeModel_findNeeded_66 : decode b_BlockCodeModel_findNeeded 66 = .ok (.aload_n 0, 1) := by decide +kernel
theorem d_BlockCodeModel_findNeeded_67 : decode b_BlockCodeModel_findNeeded 67 = .ok (.getfield 7, 3) := by decide +kernel
theorem d_BlockCodeModel_findNeeded_70 : decode b_BlockCodeModel_findNeeded 70 = .ok (.iload 4, 2) := by decide +kernel
theorem d_BlockCodeModel_findNeeded_72 : decode b_BlockCodeModel_findNeeded 72 = .ok (.iconst 2, 1) := by decide +kernel
theorem d_BlockCodeModel_findNeeded_73 : decode b_BlockCodeModel_findNeeded 73 = .ok (.iadd, 1) := by decide +kernel
theorem d_BlockCodeModel_findNeeded_74 : decode b_BlockCodeModel_findNeeded 74 = .ok (.iaload, 1) := by decide +kernel
theorem d_BlockCodeModel_findNeeded_75 : decode b_BlockCodeModel_findNeeded 75 = .ok (.goto 35, 3) := by decide +kernel
theorem d_BlockCodeModel_findNeeded_78 : decode b_BlockCodeModel_findNeeded 78 = .ok (.iload 5, 2) := by decide +kernel
theorem d_BlockCodeModel_findNeeded_80 : decode b_BlockCodeModel_findNeeded 80 = .ok (.bipush 8, 2) := by decide +kernel
theorem d_BlockCodeModel_findNeeded_82 : decode b_BlockCodeModel_findNeeded 82 = .ok (.if_icmp .ne 20, 3) := by decide +kernel
theorem d_BlockCodeModel_findNeeded_85 : decode b_BlockCodeModel_findNeeded 85 = .ok (.aload_n 0, 1) := by decide +kernel
theorem d_BlockCodeModel_findNeeded_86 : decode b_BlockCodeModel_findNeeded 86 = .ok (.getfield 26, 3) := by decide +kernel
theorem d_BlockCodeModel_findNeeded_89 : decode b_BlockCodeModel_findNeeded 89 = .ok (.aload_n 0, 1) := by decide +kernel
theorem d_BlockCodeModel_findNeeded_90 : decode b_BlockCodeModel_findNeeded 90 = .ok (.getfield 7, 3) := by decide +kernel
theorem d_BlockCodeModel_findNeeded_93 : decode b_BlockCodeModel_findNeeded 93 = .ok (.iload 4, 2) := by decide +kernel
theorem d_BlockCodeModel_findNeeded_95 : decode b_BlockCodeModel_findNeeded 95 = .ok (.iconst 2, 1) := by decide +kernel
theorem d_BlockCodeModel_findNeeded_96 : decode b_BlockCodeModel_findNeeded 96 = .ok (.iadd, 1) := by decide +kernel
theorem d_BlockCodeModel_findNeeded_97 : decode b_BlockCodeModel_findNeeded 97 = .ok (.iaload, 1) := by decide +kernel
theorem d_BlockCodeModel_findNeeded_98 : decode b_BlockCodeModel_findNeeded 98 = .ok (.iaload, 1) := by decide +kernel
theorem d_BlockCodeModel_findNeeded_99 : decode b_BlockCodeModel_findNeeded 99 = .ok (.goto 11, 3) := by decide +kernel
theorem d_BlockCodeModel_findNeeded_102 : decode b_BlockCodeModel_findNeeded 102 = .ok (.aload_n 0, 1) := by decide +kernel
theorem d_BlockCodeModel_findNeeded_103 : decode b_BlockCodeModel_findNeeded 103 = .ok (.getfield 26, 3) := by decide +kernel
theorem d_BlockCodeModel_findNeeded_106 : decode b_BlockCodeModel_findNeeded 106 = .ok (.iload_n 3, 1) := by decide +kernel
theorem d_BlockCodeModel_findNeeded_107 : decode b_BlockCodeModel_findNeeded 107 = .ok (.iconst 1, 1) := by decide +kernel
theorem d_BlockCodeModel_findNeeded_108 : decode b_BlockCodeModel_findNeeded 108 = .ok (.iadd, 1) := by decide +kernel
theorem d_BlockCodeModel_findNeeded_109 : decode b_BlockCodeModel_findNeeded 109 = .ok (.iaload, 1) := by decide +kernel
theorem d_BlockCodeModel_findNeeded_110 : decode b_BlockCodeModel_findNeeded 110 = .ok (.istore 6, 2) := by decide +kernel
theorem d_BlockCodeModel_findNeeded_112 : decode b_BlockCodeModel_findNeeded 112 = .ok (.iload 5, 2) := by decide +kernel
theorem d_BlockCodeModel_findNeeded_114 : decode b_BlockCodeModel_findNeeded 114 = .ok (.bipush 9, 2) := by decide +kernel
theorem d_BlockCodeModel_findNeeded_116 : decode b_BlockCodeModel_findNeeded 116 = .ok (.if_icmp .ne 22, 3) := by decide +kernel
theorem d_BlockCodeModel_findNeeded_119 : decode b_BlockCodeModel_findNeeded 119 = .ok (.iload 6, 2) := by decide +kernel
theorem d_BlockCodeModel_findNeeded_121 : decode b_BlockCodeModel_findNeeded 121 = .ok (.aload_n 0, 1) := by decide +kernel
theorem d_BlockCodeModel_findNeeded_122 : decode b_BlockCodeModel_findNeeded 122 = .ok (.getfield 26, 3) := by decide +kernel
theorem d_BlockCodeModel_findNeeded_125 : decode b_BlockCodeModel_findNeeded 125 = .ok (.aload_n 0, 1) := by decide +kernel
theorem d_BlockCodeModel_findNeeded_126 : decode b_BlockCodeModel_findNeeded 126 = .ok (.getfield 7, 3) := by decide +kernel
theorem d_BlockCodeModel_findNeeded_129 : decode b_BlockCodeModel_findNeeded 129 = .ok (.iload 4, 2) := by decide +kernel
theorem d_BlockCodeModel_findNeeded_131 : decode b_BlockCodeModel_findNeeded 131 = .ok (.iconst 3, 1) := by decide +kernel
theorem d_BlockCodeModel_findNeeded_132 : decode b_BlockCodeModel_findNeeded 132 = .ok (.iadd, 1) := by decide +kernel
theorem d_BlockCodeModel_findNeeded_133 : decode b_BlockCodeModel_findNeeded 133 = .ok (.iaload, 1) := by decide +kernel
theorem d_BlockCodeModel_findNeeded_134 : decode b_BlockCodeModel_findNeeded 134 = .ok (.iaload, 1) := by decide +kernel
theorem d_BlockCodeModel_findNeeded_135 : decode b_BlockCodeModel_findNeeded 135 = .ok (.ior, 1) := by decide +kernel
theorem d_BlockCodeModel_findNeeded_136 : decode b_BlockCodeModel_findNeeded 136 = .ok (.istore 6, 2) := by decide +kernel
theorem d_BlockCodeModel_findNeeded_138 : decode b_BlockCodeModel_findNeeded 138 = .ok (.iload 5, 2) := by decide +kernel
theorem d_BlockCodeModel_findNeeded_140 : decode b_BlockCodeModel_findNeeded 140 = .ok (.iconst 1, 1) := by decide +kernel
theorem d_BlockCodeModel_findNeeded_141 : decode b_BlockCodeModel_findNeeded 141 = .ok (.bipush 7, 2) := by decide +kernel
theorem d_BlockCodeModel_findNeeded_143 : decode b_BlockCodeModel_findNeeded 143 = .ok (.invokestatic 69, 3) := by decide +kernel
theorem d_BlockCodeModel_findNeeded_146 : decode b_BlockCodeModel_findNeeded 146 = .ok (.ifCond .eq 21, 3) := by decide +kernel
theorem d_BlockCodeModel_findNeeded_149 : decode b_BlockCodeModel_findNeeded 149 = .ok (.iload 6, 2) := by decide +kernel
theorem d_BlockCodeModel_findNeeded_151 : decode b_BlockCodeModel_findNeeded 151 = .ok (.iconst 1, 1) := by decide +kernel
theorem d_BlockCodeModel_findNeeded_152 : decode b_BlockCodeModel_findNeeded 152 = .ok (.aload_n 0, 1) := by decide +kernel
theorem d_BlockCodeModel_findNeeded_153 : decode b_BlockCodeModel_findNeeded 153 = .ok (.getfield 7, 3) := by decide +kernel
theorem d_BlockCodeModel_findNeeded_156 : decode b_BlockCodeModel_findNeeded 156 = .ok (.iload 4, 2) := by decide +kernel
theorem d_BlockCodeModel_findNeeded_158 : decode b_BlockCodeModel_findNeeded 158 = .ok (.iconst 1, 1) := by decide +kernel
theorem d_BlockCodeModel_findNeeded_159 : decode b_BlockCodeModel_findNeeded 159 = .ok (.iadd, 1) := by decide +kernel
theorem d_BlockCodeModel_findNeeded_160 : decode b_BlockCodeModel_findNeeded 160 = .ok (.iaload, 1) := by decide +kernel
theorem d_BlockCodeModel_findNeeded_161 : decode b_BlockCodeModel_findNeeded 161 = .ok (.ishl, 1) := by decide +kernel
theorem d_BlockCodeModel_findNeeded_162 : decode b_BlockCodeModel_findNeeded 162 = .ok (.iconst (-1), 1) := by decide +kernel
theorem d_BlockCodeModel_findNeeded_163 : decode b_BlockCodeModel_findNeeded 163 = .ok (.ixor, 1) := by decide +kernel
theorem d_BlockCodeModel_findNeeded_164 : decode b_BlockCodeModel_findNeeded 164 = .ok (.iand, 1) := by decide +kernel
theorem d_BlockCodeModel_findNeeded_165 : decode b_BlockCodeModel_findNeeded 165 = .ok (.istore 6, 2) := by decide +kernel
theorem d_BlockCodeModel_findNeeded_167 : decode b_BlockCodeModel_findNeeded 167 = .ok (.iload 5, 2) := by decide +kernel
theorem d_BlockCodeModel_findNeeded_169 : decode b_BlockCodeModel_findNeeded 169 = .ok (.iconst 2, 1) := by decide +kernel
theorem d_BlockCodeModel_findNeeded_170 : decode b_BlockCodeModel_findNeeded 170 = .ok (.bipush 7, 2) := by decide +kernel
theorem d_BlockCodeModel_findNeeded_172 : decode b_BlockCodeModel_findNeeded 172 = .ok (.invokestatic 69, 3) := by decide +kernel
theorem d_BlockCodeModel_findNeeded_175 : decode b_BlockCodeModel_findNeeded 175 = .ok (.ifCond .ne 10, 3) := by decide +kernel
theorem d_BlockCodeModel_findNeeded_178 : decode b_BlockCodeModel_findNeeded 178 = .ok (.iload 5, 2) := by decide +kernel
theorem d_BlockCodeModel_findNeeded_180 : decode b_BlockCodeModel_findNeeded 180 = .ok (.bipush 9, 2) := by decide +kernel
theorem d_BlockCodeModel_findNeeded_182 : decode b_BlockCodeModel_findNeeded 182 = .ok (.if_icmp .ne 19, 3) := by decide +kernel
theorem d_BlockCodeModel_findNeeded_185 : decode b_BlockCodeModel_findNeeded 185 = .ok (.iload 6, 2) := by decide +kernel
theorem d_BlockCodeModel_findNeeded_187 : decode b_BlockCodeModel_findNeeded 187 = .ok (.iconst 1, 1) := by decide +kernel
theorem d_BlockCodeModel_findNeeded_188 : decode b_BlockCodeModel_findNeeded 188 = .ok (.aload_n 0, 1) := by decide +kernel
theorem d_BlockCodeModel_findNeeded_189 : decode b_BlockCodeModel_findNeeded 189 = .ok (.getfield 7, 3) := by decide +kernel
theorem d_BlockCodeModel_findNeeded_192 : decode b_BlockCodeModel_findNeeded 192 = .ok (.iload 4, 2) := by decide +kernel
theorem d_BlockCodeModel_findNeeded_194 : decode b_BlockCodeModel_findNeeded 194 = .ok (.iconst 2, 1) := by decide +kernel
theorem d_BlockCodeModel_findNeeded_195 : decode b_BlockCodeModel_findNeeded 195 = .ok (.iadd, 1) := by decide +kernel
theorem d_BlockCodeModel_findNeeded_196 : decode b_BlockCodeModel_findNeeded 196 = .ok (.iaload, 1) := by decide +kernel
theorem d_BlockCodeModel_findNeeded_197 : decode b_BlockCodeModel_findNeeded 197 = .ok (.ishl, 1) := by decide +kernel
theorem d_BlockCodeModel_findNeeded_198 : decode b_BlockCodeModel_findNeeded 198 = .ok (.ior, 1) := by decide +kernel
theorem d_BlockCodeModel_findNeeded_199 : decode b_BlockCodeModel_findNeeded 199 = .ok (.istore 6, 2) := by decide +kernel
theorem d_BlockCodeModel_findNeeded_201 : decode b_BlockCodeModel_findNeeded 201 = .ok (.iload 5, 2) := by decide +kernel
theorem d_BlockCodeModel_findNeeded_203 : decode b_BlockCodeModel_findNeeded 203 = .ok (.iconst 3, 1) := by decide +kernel
theorem d_BlockCodeModel_findNeeded_204 : decode b_BlockCodeModel_findNeeded 204 = .ok (.bipush 7, 2) := by decide +kernel
theorem d_BlockCodeModel_findNeeded_206 : decode b_BlockCodeModel_findNeeded 206 = .ok (.invokestatic 69, 3) := by decide +kernel
theorem d_BlockCodeModel_findNeeded_209 : decode b_BlockCodeModel_findNeeded 209 = .ok (.ifCond .eq 19, 3) := by decide +kernel
theorem d_BlockCodeModel_findNeeded_212 : decode b_BlockCodeModel_findNeeded 212 = .ok (.iload 6, 2) := by decide +kernel
theorem d_BlockCodeModel_findNeeded_214 : decode b_BlockCodeModel_findNeeded 214 = .ok (.iconst 1, 1) := by decide +kernel
theorem d_BlockCodeModel_findNeeded_215 : decode b_BlockCodeModel_findNeeded 215 = .ok (.aload_n 0, 1) := by decide +kernel
theorem d_BlockCodeModel_findNeeded_216 : decode b_BlockCodeModel_findNeeded 216 = .ok (.getfield 7, 3) := by decide +kernel
theorem d_BlockCodeModel_findNeeded_219 : decode b_BlockCodeModel_findNeeded 219 = .ok (.iload 4, 2) := by decide +kernel
theorem d_BlockCodeModel_findNeeded_221 : decode b_BlockCodeModel_findNeeded 221 = .ok (.iconst 3, 1) := by decide +kernel
theorem d_BlockCodeModel_findNeeded_222 : decode b_BlockCodeModel_findNeeded 222 = .ok (.iadd, 1) := by decide +kernel
theorem d_BlockCodeModel_findNeeded_223 : decode b_BlockCodeModel_findNeeded 223 = .ok (.iaload, 1) := by decide +kernel
theorem d_BlockCodeModel_findNeeded_224 : decode b_BlockCodeModel_findNeeded 224 = .ok (.ishl, 1) := by decide +kernel
theorem d_BlockCodeModel_findNeeded_225 : decode b_BlockCodeModel_findNeeded 225 = .ok (.ior, 1) := by decide +kernel
theorem d_BlockCodeModel_findNeeded_226 : decode b_BlockCodeModel_findNeeded 226 = .ok (.istore 6, 2) := by decide +kernel
theorem d_BlockCodeModel_findNeeded_228 : decode b_BlockCodeModel_findNeeded 228 = .ok (.aload_n 0, 1) := by decide +kernel
theorem d_BlockCodeModel_findNeeded_229 : decode b_BlockCodeModel_findNeeded 229 = .ok (.getfield 26, 3) := by decide +kernel
theorem d_BlockCodeModel_findNeeded_232 : decode b_BlockCodeModel_findNeeded 232 = .ok (.iload_n 3, 1) := by decide +kernel
theorem d_BlockCodeModel_findNeeded_233 : decode b_BlockCodeModel_findNeeded 233 = .ok (.iload 6, 2) := by decide +kernel
theorem d_BlockCodeModel_findNeeded_235 : decode b_BlockCodeModel_findNeeded 235 = .ok (.iastore, 1) := by decide +kernel
theorem d_BlockCodeModel_findNeeded_236 : decode b_BlockCodeModel_findNeeded 236 = .ok (.iinc 3 (-1), 3) := by decide +kernel
theorem d_BlockCodeModel_findNeeded_239 : decode b_BlockCodeModel_findNeeded 239 = .ok (.goto (-203), 3) := by decide +kernel
theorem d_BlockCodeModel_findNeeded_242 : decode b_BlockCodeModel_findNeeded 242 = .ok (.iinc 2 1, 3) := by decide +kernel
theorem d_BlockCodeModel_findNeeded_245 : decode b_BlockCodeModel_findNeeded 245 = .ok (.goto (-222), 3) := by decide +kernel
theorem d_BlockCodeModel_findNeeded_248 : decode b_BlockCodeModel_findNeeded 248 = .ok (.return_, 1) := by decide +kernel
theorem d_BlockCodeModel_known_0 : decode b_BlockCodeModel_known 0 = .ok (.aload_n 0, 1) := by decide +kernel
theorem d_BlockCodeModel_known_1 : decode b_BlockCodeModel_known 1 = .ok (.iconst 0, 1) := by decide +kernel
theorem d_BlockCodeModel_known_2 : decode b_BlockCodeModel_known 2 = .ok (.putfield 65, 3) := by decide +kernel
theorem d_BlockCodeModel_known_5 : decode b_BlockCodeModel_known 5 = .ok (.aload_n 0, 1) := by decide +kernel
theorem d_BlockCodeModel_known_6 : decode b_BlockCodeModel_known 6 = .ok (.getfield 77, 3) := by decide +kernel
theorem d_BlockCodeModel_known_9 : decode b_BlockCodeModel_known 9 = .ok (.ifCond .eq 26, 3) := by decide +kernel
theorem d_BlockCodeModel_known_12 : decode b_BlockCodeModel_known 12 = .ok (.iload_n 1, 1) := by decide +kernel
theorem d_BlockCodeModel_known_13 : decode b_BlockCodeModel_known 13 = .ok (.iconst 0, 1) := by decide +kernel
theorem d_BlockCodeModel_known_14 : decode b_BlockCodeModel_known 14 = .ok (.aload_n 0, 1) := by decide +kernel
theorem d_BlockCodeModel_known_15 : decode b_BlockCodeModel_known 15 = .ok (.getfield 85, 3) := by decide +kernel
theorem d_BlockCodeModel_known_18 : decode b_BlockCodeModel_known 18 = .ok (.iconst 1, 1) := by decide +kernel
theorem d_BlockCodeModel_known_19 : decode b_BlockCodeModel_known 19 = .ok (.isub, 1) := by decide +kernel
theorem d_BlockCodeModel_known_20 : decode b_BlockCodeModel_known 20 = .ok (.invokestatic 69, 3) := by decide +kernel
theorem d_BlockCodeModel_known_23 : decode b_BlockCodeModel_known 23 = .ok (.ifCond .eq 12, 3) := by decide +kernel
theorem d_BlockCodeModel_known_26 : decode b_BlockCodeModel_known 26 = .ok (.iload_n 2, 1) := by decide +kernel
theorem d_BlockCodeModel_known_27 : decode b_BlockCodeModel_known 27 = .ok (.iconst 0, 1) := by decide +kernel
theorem d_BlockCodeModel_known_28 : decode b_BlockCodeModel_known 28 = .ok (.iconst 4, 1) := by decide +kernel
theorem d_BlockCodeModel_known_29 : decode b_BlockCodeModel_known 29 = .ok (.invokestatic 69, 3) := by decide +kernel
theorem d_BlockCodeModel_known_32 : decode b_BlockCodeModel_known 32 = .ok (.ifCond .ne 7, 3) := by decide +kernel
theorem d_BlockCodeModel_known_35 : decode b_BlockCodeModel_known 35 = .ok (.ldc2_w 116, 3) := by decide +kernel
theorem d_BlockCodeModel_known_38 : decode b_BlockCodeModel_known 38 = .ok (.lreturn, 1) := by decide +kernel
theorem d_BlockCodeModel_known_39 : decode b_BlockCodeModel_known 39 = .ok (.aload_n 0, 1) := by decide +kernel
theorem d_BlockCodeModel_known_40 : decode b_BlockCodeModel_known 40 = .ok (.invokevirtual 118, 3) := by decide +kernel
theorem d_BlockCodeModel_known_43 : decode b_BlockCodeModel_known 43 = .ok (.aload_n 0, 1) := by decide +kernel
theorem d_BlockCodeModel_known_44 : decode b_BlockCodeModel_known 44 = .ok (.getfield 16, 3) := by decide +kernel
theorem d_BlockCodeModel_known_47 : decode b_BlockCodeModel_known 47 = .ok (.iload_n 1, 1) := by decide +kernel
theorem d_BlockCodeModel_known_48 : decode b_BlockCodeModel_known 48 = .ok (.baload, 1) := by decide +kernel
theorem d_BlockCodeModel_known_49 : decode b_BlockCodeModel_known 49 = .ok (.ifCond .ne 9, 3) := by decide +kernel
theorem d_BlockCodeModel_known_52 : decode b_BlockCodeModel_known 52 = .ok (.ldc2_w 121, 3) := by decide +kernel
theorem d_BlockCodeModel_known_55 : decode b_BlockCodeModel_known 55 = .ok (.goto 33, 3) := by decide +kernel
theorem d_BlockCodeModel_known_58 : decode b_BlockCodeModel_known 58 = .ok (.aload_n 0, 1) := by decide +kernel
theorem d_BlockCodeModel_known_59 : decode b_BlockCodeModel_known 59 = .ok (.getfield 20, 3) := by decide +kernel
theorem d_BlockCodeModel_known_62 : decode b_BlockCodeModel_known 62 = .ok (.iconst 5, 1) := by decide +kernel
theorem d_BlockCodeModel_known_63 : decode b_BlockCodeModel_known 63 = .ok (.iload_n 1, 1) := by decide +kernel
theorem d_BlockCodeModel_known_64 : decode b_BlockCodeModel_known 64 = .ok (.imul, 1) := by decide +kernel
theorem d_BlockCodeModel_known_65 : decode b_BlockCodeModel_known 65 = .ok (.iload_n 2, 1) := by decide +kernel
theorem d_BlockCodeModel_known_66 : decode b_BlockCodeModel_known 66 = .ok (.iadd, 1) := by decide +kernel
theorem d_BlockCodeModel_known_67 : decode b_BlockCodeModel_known 67 = .ok (.baload, 1) := by decide +kernel
theorem d_BlockCodeModel_known_68 : decode b_BlockCodeModel_known 68 = .ok (.ifCond .eq 17, 3) := by decide +kernel
theorem d_BlockCodeModel_known_71 : decode b_BlockCodeModel_known 71 = .ok (.aload_n 0, 1) := by decide +kernel
theorem d_BlockCodeModel_known_72 : decode b_BlockCodeModel_known 72 = .ok (.getfield 23, 3) := by decide +kernel
theorem d_BlockCodeModel_known_75 : decode b_BlockCodeModel_known 75 = .ok (.iconst 5, 1) := by decide +kernel
theorem d_BlockCodeModel_known_76 : decode b_BlockCodeModel_known 76 = .ok (.iload_n 1, 1) := by decide +kernel
theorem d_BlockCodeModel_known_77 : decode b_BlockCodeModel_known 77 = .ok (.imul, 1) := by decide +kernel
theorem d_BlockCodeModel_known_78 : decode b_BlockCodeModel_known 78 = .ok (.iload_n 2, 1) := by decide +kernel
theorem d_BlockCodeModel_known_79 : decode b_BlockCodeModel_known 79 = .ok (.iadd, 1) := by decide +kernel
theorem d_BlockCodeModel_known_80 : decode b_BlockCodeModel_known 80 = .ok (.iaload, 1) := by decide +kernel
theorem d_BlockCodeModel_known_81 : decode b_BlockCodeModel_known 81 = .ok (.i2l, 1) := by decide +kernel
theorem d_BlockCodeModel_known_82 : decode b_BlockCodeModel_known 82 = .ok (.goto 6, 3) := by decide +kernel
theorem d_BlockCodeModel_known_85 : decode b_BlockCodeModel_known 85 = .ok (.ldc2_w 123, 3) := by decide +kernel
theorem d_BlockCodeModel_known_88 : decode b_BlockCodeModel_known 88 = .ok (.lreturn, 1) := by decide +kernel
theorem d_BlockCodeModel_needed_0 : decode b_BlockCodeModel_needed 0 = .ok (.aload_n 0, 1) := by decide +kernel
theorem d_BlockCodeModel_needed_1 : decode b_BlockCodeModel_needed 1 = .ok (.iconst 0, 1) := by decide +kernel
theorem d_BlockCodeModel_needed_2 : decode b_BlockCodeModel_needed 2 = .ok (.putfield 65, 3) := by decide +kernel
theorem d_BlockCodeModel_needed_5 : decode b_BlockCodeModel_needed 5 = .ok (.aload_n 0, 1) := by decide +kernel
theorem d_BlockCodeModel_needed_6 : decode b_BlockCodeModel_needed 6 = .ok (.getfield 77, 3) := by decide +kernel
theorem d_BlockCodeModel_needed_9 : decode b_BlockCodeModel_needed 9 = .ok (.ifCond .eq 17, 3) := by decide +kernel
theorem d_BlockCodeModel_needed_12 : decode b_BlockCodeModel_needed 12 = .ok (.iload_n 1, 1) := by decide +kernel
theorem d_BlockCodeModel_needed_13 : decode b_BlockCodeModel_needed 13 = .ok (.iconst 0, 1) := by decide +kernel
theorem d_BlockCodeModel_needed_14 : decode b_BlockCodeModel_needed 14 = .ok (.aload_n 0, 1) := by decide +kernel
theorem d_BlockCodeModel_needed_15 : decode b_BlockCodeModel_needed 15 = .ok (.getfield 85, 3) := by decide +kernel
theorem d_BlockCodeModel_needed_18 : decode b_BlockCodeModel_needed 18 = .ok (.iconst 1, 1) := by decide +kernel
theorem d_BlockCodeModel_needed_19 : decode b_BlockCodeModel_needed 19 = .ok (.isub, 1) := by decide +kernel
theorem d_BlockCodeModel_needed_20 : decode b_BlockCodeModel_needed 20 = .ok (.invokestatic 69, 3) := by decide +kernel
theorem d_BlockCodeModel_needed_23 : decode b_BlockCodeModel_needed 23 = .ok (.ifCond .ne 6, 3) := by decide +kernel
theorem d_BlockCodeModel_needed_26 : decode b_BlockCodeModel_needed 26 = .ok (.bipush (-9), 2) := by decide +kernel
theorem d_BlockCodeModel_needed_28 : decode b_BlockCodeModel_needed 28 = .ok (.ireturn, 1) := by decide +kernel
theorem d_BlockCodeModel_needed_29 : decode b_BlockCodeModel_needed 29 = .ok (.aload_n 0, 1) := by decide +kernel
theorem d_BlockCodeModel_needed_30 : decode b_BlockCodeModel_needed 30 = .ok (.iconst 0, 1) := by decide +kernel
theorem d_BlockCodeModel_needed_31 : decode b_BlockCodeModel_needed 31 = .ok (.invokevirtual 125, 3) := by decide +kernel
theorem d_BlockCodeModel_needed_34 : decode b_BlockCodeModel_needed 34 = .ok (.aload_n 0, 1) := by decide +kernel
theorem d_BlockCodeModel_needed_35 : decode b_BlockCodeModel_needed 35 = .ok (.getfield 26, 3) := by decide +kernel
theorem d_BlockCodeModel_needed_38 : decode b_BlockCodeModel_needed 38 = .ok (.iload_n 1, 1) := by decide +kernel
theorem d_BlockCodeModel_needed_39 : decode b_BlockCodeModel_needed 39 = .ok (.iaload, 1) := by decide +kernel
theorem d_BlockCodeModel_needed_40 : decode b_BlockCodeModel_needed 40 = .ok (.ireturn, 1) := by decide +kernel
theorem d_BlockCodeModel_differences_0 : decode b_BlockCodeModel_differences 0 = .ok (.iconst 0, 1) := by decide +kernel
theorem d_BlockCodeModel_differences_1 : decode b_BlockCodeModel_differences 1 = .ok (.istore_n 1, 1) := by decide +kernel
theorem d_BlockCodeModel_differences_2 : decode b_BlockCodeModel_differences 2 = .ok (.iconst 0, 1) := by decide +kernel
theorem d_BlockCodeModel_differences_3 : decode b_BlockCodeModel_differences 3 = .ok (.istore_n 2, 1) := by decide +kernel
theorem d_BlockCodeModel_differences_4 : decode b_BlockCodeModel_differences 4 = .ok (.iload_n 2, 1) := by decide +kernel
theorem d_BlockCodeModel_differences_5 : decode b_BlockCodeModel_differences 5 = .ok (.aload_n 0, 1) := by decide +kernel
theorem d_BlockCodeModel_differences_6 : decode b_BlockCodeModel_differences 6 = .ok (.getfield 85, 3) := by decide +kernel
theorem d_BlockCodeModel_differences_9 : decode b_BlockCodeModel_differences 9 = .ok (.if_icmp .ge 63, 3) := by decide +kernel
theorem d_BlockCodeModel_differences_12 : decode b_BlockCodeModel_differences 12 = .ok (.iconst 1, 1) := by decide +kernel
theorem d_BlockCodeModel_differences_13 : decode b_BlockCodeModel_differences 13 = .ok (.istore_n 3, 1) := by decide +kernel
theorem d_BlockCodeModel_differences_14 : decode b_BlockCodeModel_differences 14 = .ok (.iconst 0, 1) := by decide +kernel
theorem d_BlockCodeModel_differences_15 : decode b_BlockCodeModel_differences 15 = .ok (.istore 4, 2) := by decide +kernel
theorem d_BlockCodeModel_differences_17 : decode b_BlockCodeModel_differences 17 = .ok (.iload 4, 2) := by decide +kernel
theorem d_BlockCodeModel_differences_19 : decode b_BlockCodeModel_differences 19 = .ok (.iconst 4, 1) := by decide +kernel
theorem d_BlockCodeModel_differences_20 : decode b_BlockCodeModel_differences 20 = .ok (.if_icmp .ge 39, 3) := by decide +kernel
theorem d_BlockCodeModel_differences_23 : decode b_BlockCodeModel_differences 23 = .ok (.aload_n 0, 1) := by decide +kernel
theorem d_BlockCodeModel_differences_24 : decode b_BlockCodeModel_differences 24 = .ok (.getfield 7, 3) := by decide +kernel
theorem d_BlockCodeModel_differences_27 : decode b_BlockCodeModel_differences 27 = .ok (.iconst 4, 1) := by decide +kernel
theorem d_BlockCodeModel_differences_28 : decode b_BlockCodeModel_differences 28 = .ok (.iload_n 2, 1) := by decide +kernel
theorem d_BlockCodeModel_differences_29 : decode b_BlockCodeModel_differences 29 = .ok (.imul, 1) := by decide +kernel
theorem d_BlockCodeModel_differences_30 : decode b_BlockCodeModel_differences 30 = .ok (.iload 4, 2) := by decide +kernel
theorem d_BlockCodeModel_differences_32 : decode b_BlockCodeModel_differences 32 = .ok (.iadd, 1) := by decide +kernel
theorem d_BlockCodeModel_differences_33 : decode b_BlockCodeModel_differences 33 = .ok (.iaload, 1) := by decide +kernel
theorem d_BlockCodeModel_differences_34 : decode b_BlockCodeModel_differences 34 = .ok (.aload_n 0, 1) := by decide +kernel
theorem d_BlockCodeModel_differences_35 : decode b_BlockCodeModel_differences 35 = .ok (.getfield 7, 3) := by decide +kernel
theorem d_BlockCodeModel_differences_38 : decode b_BlockCodeModel_differences 38 = .ok (.bipush 80, 2) := by decide +kernel
theorem d_BlockCodeModel_differences_40 : decode b_BlockCodeModel_differences 40 = .ok (.iconst 4, 1) := by decide +kernel
theorem d_BlockCodeModel_differences_41 : decode b_BlockCodeModel_differences 41 = .ok (.iload_n 2, 1) := by decide +kernel
theorem d_BlockCodeModel_differences_42 : decode b_BlockCodeModel_differences 42 = .ok (.imul, 1) := by decide +kernel
theorem d_BlockCodeModel_differences_43 : decode b_BlockCodeModel_differences 43 = .ok (.iadd, 1) := by decide +kernel
theorem d_BlockCodeModel_differences_44 : decode b_BlockCodeModel_differences 44 = .ok (.iload 4, 2) := by decide +kernel
theorem d_BlockCodeModel_differences_46 : decode b_BlockCodeModel_differences 46 = .ok (.iadd, 1) := by decide +kernel
theorem d_BlockCodeModel_differences_47 : decode b_BlockCodeModel_differences 47 = .ok (.iaload, 1) := by decide +kernel
theorem d_BlockCodeModel_differences_48 : decode b_BlockCodeModel_differences 48 = .ok (.if_icmp .eq 5, 3) := by decide +kernel
theorem d_BlockCodeModel_differences_51 : decode b_BlockCodeModel_differences 51 = .ok (.iconst 0, 1) := by decide +kernel
theorem d_BlockCodeModel_differences_52 : decode b_BlockCodeModel_differences 52 = .ok (.istore_n 3, 1) := by decide +kernel
theorem d_BlockCodeModel_differences_53 : decode b_BlockCodeModel_differences 53 = .ok (.iinc 4 1, 3) := by decide +kernel
theorem d_BlockCodeModel_differences_56 : decode b_BlockCodeModel_differences 56 = .ok (.goto (-39), 3) := by decide +kernel
theorem d_BlockCodeModel_differences_59 : decode b_BlockCodeModel_differences 59 = .ok (.iload_n 3, 1) := by decide +kernel
theorem d_BlockCodeModel_differences_60 : decode b_BlockCodeModel_differences 60 = .ok (.ifCond .ne 6, 3) := by decide +kernel
theorem d_BlockCodeModel_differences_63 : decode b_BlockCodeModel_differences 63 = .ok (.iinc 1 1, 3) := by decide +kernel
theorem d_BlockCodeModel_differences_66 : decode b_BlockCodeModel_differences 66 = .ok (.iinc 2 1, 3) := by decide +kernel
theorem d_BlockCodeModel_differences_69 : decode b_BlockCodeModel_differences 69 = .ok (.goto (-65), 3) := by decide +kernel
theorem d_BlockCodeModel_differences_72 : decode b_BlockCodeModel_differences 72 = .ok (.iload_n 1, 1) := by decide +kernel
theorem d_BlockCodeModel_differences_73 : decode b_BlockCodeModel_differences 73 = .ok (.ireturn, 1) := by decide +kernel
theorem d_BlockCodeModel_open_0 : decode b_BlockCodeModel_open 0 = .ok (.aload_n 0, 1) := by decide +kernel
theorem d_BlockCodeModel_open_1 : decode b_BlockCodeModel_open 1 = .ok (.aload_n 0, 1) := by decide +kernel
theorem d_BlockCodeModel_open_2 : decode b_BlockCodeModel_open 2 = .ok (.getfield 77, 3) := by decide +kernel
theorem d_BlockCodeModel_open_5 : decode b_BlockCodeModel_open 5 = .ok (.ifCond .eq 7, 3) := by decide +kernel
theorem d_BlockCodeModel_open_8 : decode b_BlockCodeModel_open 8 = .ok (.iconst 0, 1) := by decide +kernel
theorem d_BlockCodeModel_open_9 : decode b_BlockCodeModel_open 9 = .ok (.goto 4, 3) := by decide +kernel
theorem d_BlockCodeModel_open_12 : decode b_BlockCodeModel_open 12 = .ok (.iconst 1, 1) := by decide +kernel
theorem d_BlockCodeModel_open_13 : decode b_BlockCodeModel_open 13 = .ok (.putfield 65, 3) := by decide +kernel
theorem d_BlockCodeModel_open_16 : decode b_BlockCodeModel_open 16 = .ok (.aload_n 0, 1) := by decide +kernel
theorem d_BlockCodeModel_open_17 : decode b_BlockCodeModel_open 17 = .ok (.getfield 77, 3) := by decide +kernel
theorem d_BlockCodeModel_open_20 : decode b_BlockCodeModel_open 20 = .ok (.ifCond .ne 5, 3) := by decide +kernel
theorem d_BlockCodeModel_open_23 : decode b_BlockCodeModel_open 23 = .ok (.iconst 0, 1) := by decide +kernel
theorem d_BlockCodeModel_open_24 : decode b_BlockCodeModel_open 24 = .ok (.ireturn, 1) := by decide +kernel
theorem d_BlockCodeModel_open_25 : decode b_BlockCodeModel_open 25 = .ok (.aload_n 0, 1) := by decide +kernel
theorem d_BlockCodeModel_open_26 : decode b_BlockCodeModel_open 26 = .ok (.iconst 0, 1) := by decide +kernel
theorem d_BlockCodeModel_open_27 : decode b_BlockCodeModel_open 27 = .ok (.putfield 92, 3) := by decide +kernel
theorem d_BlockCodeModel_open_30 : decode b_BlockCodeModel_open 30 = .ok (.aload_n 0, 1) := by decide +kernel
theorem d_BlockCodeModel_open_31 : decode b_BlockCodeModel_open 31 = .ok (.iconst 0, 1) := by decide +kernel
theorem d_BlockCodeModel_open_32 : decode b_BlockCodeModel_open 32 = .ok (.iconst 1, 1) := by decide +kernel
theorem d_BlockCodeModel_open_33 : decode b_BlockCodeModel_open 33 = .ok (.invokevirtual 99, 3) := by decide +kernel
theorem d_BlockCodeModel_open_36 : decode b_BlockCodeModel_open 36 = .ok (.iconst 1, 1) := by decide +kernel
theorem d_BlockCodeModel_open_37 : decode b_BlockCodeModel_open 37 = .ok (.ireturn, 1) := by decide +kernel
theorem d_BlockCodeModel_constants_0 : decode b_BlockCodeModel_constants 0 = .ok (.aload_n 0, 1) := by decide +kernel
theorem d_BlockCodeModel_constants_1 : decode b_BlockCodeModel_constants 1 = .ok (.invokevirtual 129, 3) := by decide +kernel
theorem d_BlockCodeModel_constants_4 : decode b_BlockCodeModel_constants 4 = .ok (.ifCond .ne 5, 3) := by decide +kernel
theorem d_BlockCodeModel_constants_7 : decode b_BlockCodeModel_constants 7 = .ok (.iconst 0, 1) := by decide +kernel
theorem d_BlockCodeModel_constants_8 : decode b_BlockCodeModel_constants 8 = .ok (.ireturn, 1) := by decide +kernel
theorem d_BlockCodeModel_constants_9 : decode b_BlockCodeModel_constants 9 = .ok (.aload_n 0, 1) := by decide +kernel
theorem d_BlockCodeModel_constants_10 : decode b_BlockCodeModel_constants 10 = .ok (.invokevirtual 118, 3) := by decide +kernel
theorem d_BlockCodeModel_constants_13 : decode b_BlockCodeModel_constants 13 = .ok (.iconst 0, 1) := by decide +kernel
theorem d_BlockCodeModel_constants_14 : decode b_BlockCodeModel_constants 14 = .ok (.istore_n 1, 1) := by decide +kernel
theorem d_BlockCodeModel_constants_15 : decode b_BlockCodeModel_constants 15 = .ok (.iload_n 1, 1) := by decide +kernel
theorem d_BlockCodeModel_constants_16 : decode b_BlockCodeModel_constants 16 = .ok (.aload_n 0, 1) := by decide +kernel
theorem d_BlockCodeModel_constants_17 : decode b_BlockCodeModel_constants 17 = .ok (.getfield 85, 3) := by decide +kernel
theorem d_BlockCodeModel_constants_20 : decode b_BlockCodeModel_constants 20 = .ok (.if_icmp .ge 246, 3) := by decide +kernel
theorem d_BlockCodeModel_constants_23 : decode b_BlockCodeModel_constants 23 = .ok (.aload_n 0, 1) := by decide +kernel
theorem d_BlockCodeModel_constants_24 : decode b_BlockCodeModel_constants 24 = .ok (.getfield 7, 3) := by decide +kernel
theorem d_BlockCodeModel_constants_27 : decode b_BlockCodeModel_constants 27 = .ok (.iconst 4, 1) := by decide +kernel
theorem d_BlockCodeModel_constants_28 : decode b_BlockCodeModel_constants 28 = .ok (.iload_n 1, 1) := by decide +kernel
theorem d_BlockCodeModel_constants_29 : decode b_BlockCodeModel_constants 29 = .ok (.imul, 1) := by decide +kernel
theorem d_BlockCodeModel_constants_30 : decode b_BlockCodeModel_constants 30 = .ok (.iaload, 1) := by decide +kernel
theorem d_BlockCodeModel_constants_31 : decode b_BlockCodeModel_constants 31 = .ok (.istore_n 2, 1) := by decide +kernel
theorem d_BlockCodeModel_constants_32 : decode b_BlockCodeModel_constants 32 = .ok (.iconst 5, 1) := by decide +kernel
theorem d_BlockCodeModel_constants_33 : decode b_BlockCodeModel_constants 33 = .ok (.iload_n 1, 1) := by decide +kernel
theorem d_BlockCodeModel_constants_34 : decode b_BlockCodeModel_constants 34 = .ok (.imul, 1) := by decide +kernel
theorem d_BlockCodeModel_constants_35 : decode b_BlockCodeModel_constants 35 = .ok (.aload_n 0, 1) := by decide +kernel
theorem d_BlockCodeModel_constants_36 : decode b_BlockCodeModel_constants 36 = .ok (.getfield 7, 3) := by decide +kernel
theorem d_BlockCodeModel_constants_39 : decode b_BlockCodeModel_constants 39 = .ok (.iconst 4, 1) := by decide +kernel
theorem d_BlockCodeModel_constants_40 : decode b_BlockCodeModel_constants 40 = .ok (.iload_n 1, 1) := by decide +kernel
theorem d_BlockCodeModel_constants_41 : decode b_BlockCodeModel_constants 41 = .ok (.imul, 1) := by decide +kernel
theorem d_BlockCodeModel_constants_42 : decode b_BlockCodeModel_constants 42 = .ok (.iconst 2, 1) := by decide +kernel
theorem d_BlockCodeModel_constants_43 : decode b_BlockCodeModel_constants 43 = .ok (.iadd, 1) := by decide +kernel
theorem d_BlockCodeModel_constants_44 : decode b_BlockCodeModel_constants 44 = .ok (.iaload, 1) := by decide +kernel
theorem d_BlockCodeModel_constants_45 : decode b_BlockCodeModel_constants 45 = .ok (.iadd, 1) := by decide +kernel
theorem d_BlockCodeModel_constants_46 : decode b_BlockCodeModel_constants 46 = .ok (.istore_n 3, 1) := by decide +kernel
theorem d_BlockCodeModel_constants_47 : decode b_BlockCodeModel_constants 47 = .ok (.iconst 5, 1) := by decide +kernel
theorem d_BlockCodeModel_constants_48 : decode b_BlockCodeModel_constants 48 = .ok (.iload_n 1, 1) := by decide +kernel
theorem d_BlockCodeModel_constants_49 : decode b_BlockCodeModel_constants 49 = .ok (.imul, 1) := by decide +kernel
theorem d_BlockCodeModel_constants_50 : decode b_BlockCodeModel_constants 50 = .ok (.aload_n 0, 1) := by decide +kernel
theorem d_BlockCodeModel_constants_51 : decode b_BlockCodeModel_constants 51 = .ok (.getfield 7, 3) := by decide +kernel
theorem d_BlockCodeModel_constants_54 : decode b_BlockCodeModel_constants 54 = .ok (.iconst 4, 1) := by decide +kernel
theorem d_BlockCodeModel_constants_55 : decode b_BlockCodeModel_constants 55 = .ok (.iload_n 1, 1) := by decide +kernel
theorem d_BlockCodeModel_constants_56 : decode b_BlockCodeModel_constants 56 = .ok (.imul, 1) := by decide +kernel
theorem d_BlockCodeModel_constants_57 : decode b_BlockCodeModel_constants 57 = .ok (.iconst 3, 1) := by decide +kernel
theorem d_BlockCodeModel_constants_58 : decode b_BlockCodeModel_constants 58 = .ok (.iadd, 1) := by decide +kernel
theorem d_BlockCodeModel_constants_59 : decode b_BlockCodeModel_constants 59 = .ok (.iaload, 1) := by decide +kernel
theorem d_BlockCodeModel_constants_60 : decode b_BlockCodeModel_constants 60 = .ok (.iadd, 1) := by decide +kernel
theorem d_BlockCodeModel_constants_61 : decode b_BlockCodeModel_constants 61 = .ok (.istore 4, 2) := by decide +kernel
theorem d_BlockCodeModel_constants_63 : decode b_BlockCodeModel_constants 63 = .ok (.aload_n 0, 1) := by decide +kernel
theorem d_BlockCodeModel_constants_64 : decode b_BlockCodeModel_constants 64 = .ok (.getfield 16, 3) := by decide +kernel
theorem d_BlockCodeModel_constants_67 : decode b_BlockCodeModel_constants 67 = .ok (.iload_n 1, 1) := by decide +kernel
theorem d_BlockCodeModel_constants_68 : decode b_BlockCodeModel_constants 68 = .ok (.baload, 1) := by decide +kernel
theorem d_BlockCodeModel_constants_69 : decode b_BlockCodeModel_constants 69 = .ok (.ifCond .eq 191, 3) := by decide +kernel
theorem d_BlockCodeModel_constants_72 : decode b_BlockCodeModel_constants 72 = .ok (.iload_n 2, 1) := by decide +kernel
theorem d_BlockCodeModel_constants_73 : decode b_BlockCodeModel_constants 73 = .ok (.iconst 2, 1) := by decide +kernel
