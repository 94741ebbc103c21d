theorem d_BlockCodeLaw_repeats_6 : decode b_BlockCodeLaw_repeats 6 = .ok (.i2l, 1) := by decide +kernel
theorem d_BlockCodeLaw_repeats_7 : decode b_BlockCodeLaw_repeats 7 = .ok (.lastore, 1) := by decide +kernel
theorem d_BlockCodeLaw_repeats_8 : decode b_BlockCodeLaw_repeats 8 = .ok (.goto 6, 3) := by decide +kernel
theorem d_BlockCodeLaw_repeats_11 : decode b_BlockCodeLaw_repeats 11 = .ok (.astore_n 2, 1) := by decide +kernel
theorem d_BlockCodeLaw_repeats_12 : decode b_BlockCodeLaw_repeats 12 = .ok (.iconst 1, 1) := by decide +kernel
theorem d_BlockCodeLaw_repeats_13 : decode b_BlockCodeLaw_repeats 13 = .ok (.ireturn, 1) := by decide +kernel
theorem d_BlockCodeLaw_repeats_14 : decode b_BlockCodeLaw_repeats 14 = .ok (.iconst 0, 1) := by decide +kernel
theorem d_BlockCodeLaw_repeats_15 : decode b_BlockCodeLaw_repeats 15 = .ok (.ireturn, 1) := by decide +kernel
theorem d_BlockCodeLaw_unneeded_0 : decode b_BlockCodeLaw_unneeded 0 = .ok (.aload_n 1, 1) := by decide +kernel
theorem d_BlockCodeLaw_unneeded_1 : decode b_BlockCodeLaw_unneeded 1 = .ok (.iconst 0, 1) := by decide +kernel
theorem d_BlockCodeLaw_unneeded_2 : decode b_BlockCodeLaw_unneeded 2 = .ok (.aload_n 0, 1) := by decide +kernel
theorem d_BlockCodeLaw_unneeded_3 : decode b_BlockCodeLaw_unneeded 3 = .ok (.invokevirtual 25, 3) := by decide +kernel
theorem d_BlockCodeLaw_unneeded_6 : decode b_BlockCodeLaw_unneeded 6 = .ok (.i2l, 1) := by decide +kernel
theorem d_BlockCodeLaw_unneeded_7 : decode b_BlockCodeLaw_unneeded 7 = .ok (.lastore, 1) := by decide +kernel
theorem d_BlockCodeLaw_unneeded_8 : decode b_BlockCodeLaw_unneeded 8 = .ok (.goto 6, 3) := by decide +kernel
theorem d_BlockCodeLaw_unneeded_11 : decode b_BlockCodeLaw_unneeded 11 = .ok (.astore_n 2, 1) := by decide +kernel
theorem d_BlockCodeLaw_unneeded_12 : decode b_BlockCodeLaw_unneeded 12 = .ok (.iconst 1, 1) := by decide +kernel
theorem d_BlockCodeLaw_unneeded_13 : decode b_BlockCodeLaw_unneeded 13 = .ok (.ireturn, 1) := by decide +kernel
theorem d_BlockCodeLaw_unneeded_14 : decode b_BlockCodeLaw_unneeded 14 = .ok (.iconst 0, 1) := by decide +kernel
theorem d_BlockCodeLaw_unneeded_15 : decode b_BlockCodeLaw_unneeded 15 = .ok (.ireturn, 1) := by decide +kernel
theorem d_BlockCodeLaw_compare_0 : decode b_BlockCodeLaw_compare 0 = .ok (.aload_n 1, 1) := by decide +kernel
theorem d_BlockCodeLaw_compare_1 : decode b_BlockCodeLaw_compare 1 = .ok (.iconst 0, 1) := by decide +kernel
theorem d_BlockCodeLaw_compare_2 : decode b_BlockCodeLaw_compare 2 = .ok (.aload_n 0, 1) := by decide +kernel
theorem d_BlockCodeLaw_compare_3 : decode b_BlockCodeLaw_compare 3 = .ok (.invokevirtual 28, 3) := by decide +kernel
theorem d_BlockCodeLaw_compare_6 : decode b_BlockCodeLaw_compare 6 = .ok (.i2l, 1) := by decide +kernel
theorem d_BlockCodeLaw_compare_7 : decode b_BlockCodeLaw_compare 7 = .ok (.lastore, 1) := by decide +kernel
theorem d_BlockCodeLaw_compare_8 : decode b_BlockCodeLaw_compare 8 = .ok (.goto 6, 3) := by decide +kernel
theorem d_BlockCodeLaw_compare_11 : decode b_BlockCodeLaw_compare 11 = .ok (.astore_n 2, 1) := by decide +kernel
theorem d_BlockCodeLaw_compare_12 : decode b_BlockCodeLaw_compare 12 = .ok (.iconst 1, 1) := by decide +kernel
theorem d_BlockCodeLaw_compare_13 : decode b_BlockCodeLaw_compare 13 = .ok (.ireturn, 1) := by decide +kernel
theorem d_BlockCodeLaw_compare_14 : decode b_BlockCodeLaw_compare 14 = .ok (.iconst 0, 1) := by decide +kernel
theorem d_BlockCodeLaw_compare_15 : decode b_BlockCodeLaw_compare 15 = .ok (.ireturn, 1) := by decide +kernel
theorem d_BlockCodeLaw_law_0 : decode b_BlockCodeLaw_law 0 = .ok (.new 8, 3) := by decide +kernel
theorem d_BlockCodeLaw_law_3 : decode b_BlockCodeLaw_law 3 = .ok (.dup, 1) := by decide +kernel
theorem d_BlockCodeLaw_law_4 : decode b_BlockCodeLaw_law 4 = .ok (.invokespecial 31, 3) := by decide +kernel
theorem d_BlockCodeLaw_law_7 : decode b_BlockCodeLaw_law 7 = .ok (.astore_n 1, 1) := by decide +kernel
theorem d_BlockCodeLaw_law_8 : decode b_BlockCodeLaw_law 8 = .ok (.new 32, 3) := by decide +kernel
theorem d_BlockCodeLaw_law_11 : decode b_BlockCodeLaw_law 11 = .ok (.dup, 1) := by decide +kernel
theorem d_BlockCodeLaw_law_12 : decode b_BlockCodeLaw_law 12 = .ok (.invokespecial 34, 3) := by decide +kernel
theorem d_BlockCodeLaw_law_15 : decode b_BlockCodeLaw_law 15 = .ok (.astore_n 2, 1) := by decide +kernel
theorem d_BlockCodeLaw_law_16 : decode b_BlockCodeLaw_law 16 = .ok (.iconst 1, 1) := by decide +kernel
theorem d_BlockCodeLaw_law_17 : decode b_BlockCodeLaw_law 17 = .ok (.newarray .long, 2) := by decide +kernel
theorem d_BlockCodeLaw_law_19 : decode b_BlockCodeLaw_law 19 = .ok (.astore_n 3, 1) := by decide +kernel
theorem d_BlockCodeLaw_law_20 : decode b_BlockCodeLaw_law 20 = .ok (.iconst 0, 1) := by decide +kernel
theorem d_BlockCodeLaw_law_21 : decode b_BlockCodeLaw_law 21 = .ok (.istore 4, 2) := by decide +kernel
theorem d_BlockCodeLaw_law_23 : decode b_BlockCodeLaw_law 23 = .ok (.iload 4, 2) := by decide +kernel
theorem d_BlockCodeLaw_law_25 : decode b_BlockCodeLaw_law 25 = .ok (.aload_n 0, 1) := by decide +kernel
theorem d_BlockCodeLaw_law_26 : decode b_BlockCodeLaw_law 26 = .ok (.arraylength, 1) := by decide +kernel
theorem d_BlockCodeLaw_law_27 : decode b_BlockCodeLaw_law 27 = .ok (.bipush 6, 2) := by decide +kernel
theorem d_BlockCodeLaw_law_29 : decode b_BlockCodeLaw_law 29 = .ok (.isub, 1) := by decide +kernel
theorem d_BlockCodeLaw_law_30 : decode b_BlockCodeLaw_law 30 = .ok (.if_icmp .gt 792, 3) := by decide +kernel
theorem d_BlockCodeLaw_law_33 : decode b_BlockCodeLaw_law 33 = .ok (.aload_n 0, 1) := by decide +kernel
theorem d_BlockCodeLaw_law_34 : decode b_BlockCodeLaw_law 34 = .ok (.iload 4, 2) := by decide +kernel
theorem d_BlockCodeLaw_law_36 : decode b_BlockCodeLaw_law 36 = .ok (.iaload, 1) := by decide +kernel
theorem d_BlockCodeLaw_law_37 : decode b_BlockCodeLaw_law 37 = .ok (.bipush 31, 2) := by decide +kernel
theorem d_BlockCodeLaw_law_39 : decode b_BlockCodeLaw_law 39 = .ok (.iand, 1) := by decide +kernel
theorem d_BlockCodeLaw_law_40 : decode b_BlockCodeLaw_law 40 = .ok (.tableswitch 776 0 18 #[92, 184, 195, 239, 252, 289, 326, 364, 389, 433, 477, 521, 594, 638, 651, 688, 713, 738, 763], 92) := by decide +kernel
theorem d_BlockCodeLaw_law_132 : decode b_BlockCodeLaw_law 132 = .ok (.aload_n 1, 1) := by decide +kernel
theorem d_BlockCodeLaw_law_133 : decode b_BlockCodeLaw_law 133 = .ok (.aload_n 0, 1) := by decide +kernel
theorem d_BlockCodeLaw_law_134 : decode b_BlockCodeLaw_law 134 = .ok (.iload 4, 2) := by decide +kernel
theorem d_BlockCodeLaw_law_136 : decode b_BlockCodeLaw_law 136 = .ok (.iconst 1, 1) := by decide +kernel
theorem d_BlockCodeLaw_law_137 : decode b_BlockCodeLaw_law 137 = .ok (.iadd, 1) := by decide +kernel
theorem d_BlockCodeLaw_law_138 : decode b_BlockCodeLaw_law 138 = .ok (.iaload, 1) := by decide +kernel
theorem d_BlockCodeLaw_law_139 : decode b_BlockCodeLaw_law 139 = .ok (.aload_n 0, 1) := by decide +kernel
theorem d_BlockCodeLaw_law_140 : decode b_BlockCodeLaw_law 140 = .ok (.iload 4, 2) := by decide +kernel
theorem d_BlockCodeLaw_law_142 : decode b_BlockCodeLaw_law 142 = .ok (.iconst 2, 1) := by decide +kernel
theorem d_BlockCodeLaw_law_143 : decode b_BlockCodeLaw_law 143 = .ok (.iadd, 1) := by decide +kernel
theorem d_BlockCodeLaw_law_144 : decode b_BlockCodeLaw_law 144 = .ok (.iaload, 1) := by decide +kernel
theorem d_BlockCodeLaw_law_145 : decode b_BlockCodeLaw_law 145 = .ok (.aload_n 0, 1) := by decide +kernel
theorem d_BlockCodeLaw_law_146 : decode b_BlockCodeLaw_law 146 = .ok (.iload 4, 2) := by decide +kernel
theorem d_BlockCodeLaw_law_148 : decode b_BlockCodeLaw_law 148 = .ok (.iconst 3, 1) := by decide +kernel
theorem d_BlockCodeLaw_law_149 : decode b_BlockCodeLaw_law 149 = .ok (.iadd, 1) := by decide +kernel
theorem d_BlockCodeLaw_law_150 : decode b_BlockCodeLaw_law 150 = .ok (.iaload, 1) := by decide +kernel
theorem d_BlockCodeLaw_law_151 : decode b_BlockCodeLaw_law 151 = .ok (.aload_n 0, 1) := by decide +kernel
theorem d_BlockCodeLaw_law_152 : decode b_BlockCodeLaw_law 152 = .ok (.iload 4, 2) := by decide +kernel
theorem d_BlockCodeLaw_law_154 : decode b_BlockCodeLaw_law 154 = .ok (.iconst 4, 1) := by decide +kernel
theorem d_BlockCodeLaw_law_155 : decode b_BlockCodeLaw_law 155 = .ok (.iadd, 1) := by decide +kernel
theorem d_BlockCodeLaw_law_156 : decode b_BlockCodeLaw_law 156 = .ok (.iaload, 1) := by decide +kernel
theorem d_BlockCodeLaw_law_157 : decode b_BlockCodeLaw_law 157 = .ok (.aload_n 3, 1) := by decide +kernel
theorem d_BlockCodeLaw_law_158 : decode b_BlockCodeLaw_law 158 = .ok (.invokestatic 35, 3) := by decide +kernel
theorem d_BlockCodeLaw_law_161 : decode b_BlockCodeLaw_law 161 = .ok (.istore 5, 2) := by decide +kernel
theorem d_BlockCodeLaw_law_163 : decode b_BlockCodeLaw_law 163 = .ok (.aload_n 2, 1) := by decide +kernel
theorem d_BlockCodeLaw_law_164 : decode b_BlockCodeLaw_law 164 = .ok (.aload_n 0, 1) := by decide +kernel
theorem d_BlockCodeLaw_law_165 : decode b_BlockCodeLaw_law 165 = .ok (.iload 4, 2) := by decide +kernel
theorem d_BlockCodeLaw_law_167 : decode b_BlockCodeLaw_law 167 = .ok (.iconst 1, 1) := by decide +kernel
theorem d_BlockCodeLaw_law_168 : decode b_BlockCodeLaw_law 168 = .ok (.iadd, 1) := by decide +kernel
theorem d_BlockCodeLaw_law_169 : decode b_BlockCodeLaw_law 169 = .ok (.iaload, 1) := by decide +kernel
theorem d_BlockCodeLaw_law_170 : decode b_BlockCodeLaw_law 170 = .ok (.aload_n 0, 1) := by decide +kernel
theorem d_BlockCodeLaw_law_171 : decode b_BlockCodeLaw_law 171 = .ok (.iload 4, 2) := by decide +kernel
theorem d_BlockCodeLaw_law_173 : decode b_BlockCodeLaw_law 173 = .ok (.iconst 2, 1) := by decide +kernel
theorem d_BlockCodeLaw_law_174 : decode b_BlockCodeLaw_law 174 = .ok (.iadd, 1) := by decide +kernel
theorem d_BlockCodeLaw_law_175 : decode b_BlockCodeLaw_law 175 = .ok (.iaload, 1) := by decide +kernel
theorem d_BlockCodeLaw_law_176 : decode b_BlockCodeLaw_law 176 = .ok (.aload_n 0, 1) := by decide +kernel
theorem d_BlockCodeLaw_law_177 : decode b_BlockCodeLaw_law 177 = .ok (.iload 4, 2) := by decide +kernel
theorem d_BlockCodeLaw_law_179 : decode b_BlockCodeLaw_law 179 = .ok (.iconst 3, 1) := by decide +kernel
theorem d_BlockCodeLaw_law_180 : decode b_BlockCodeLaw_law 180 = .ok (.iadd, 1) := by decide +kernel
theorem d_BlockCodeLaw_law_181 : decode b_BlockCodeLaw_law 181 = .ok (.iaload, 1) := by decide +kernel
theorem d_BlockCodeLaw_law_182 : decode b_BlockCodeLaw_law 182 = .ok (.aload_n 0, 1) := by decide +kernel
theorem d_BlockCodeLaw_law_183 : decode b_BlockCodeLaw_law 183 = .ok (.iload 4, 2) := by decide +kernel
theorem d_BlockCodeLaw_law_185 : decode b_BlockCodeLaw_law 185 = .ok (.iconst 4, 1) := by decide +kernel
theorem d_BlockCodeLaw_law_186 : decode b_BlockCodeLaw_law 186 = .ok (.iadd, 1) := by decide +kernel
theorem d_BlockCodeLaw_law_187 : decode b_BlockCodeLaw_law 187 = .ok (.iaload, 1) := by decide +kernel
theorem d_BlockCodeLaw_law_188 : decode b_BlockCodeLaw_law 188 = .ok (.invokevirtual 40, 3) := by decide +kernel
theorem d_BlockCodeLaw_law_191 : decode b_BlockCodeLaw_law 191 = .ok (.istore 6, 2) := by decide +kernel
theorem d_BlockCodeLaw_law_193 : decode b_BlockCodeLaw_law 193 = .ok (.aload_n 2, 1) := by decide +kernel
theorem d_BlockCodeLaw_law_194 : decode b_BlockCodeLaw_law 194 = .ok (.invokevirtual 41, 3) := by decide +kernel
theorem d_BlockCodeLaw_law_197 : decode b_BlockCodeLaw_law 197 = .ok (.iload 5, 2) := by decide +kernel
theorem d_BlockCodeLaw_law_199 : decode b_BlockCodeLaw_law 199 = .ok (.if_icmp .eq 5, 3) := by decide +kernel
theorem d_BlockCodeLaw_law_202 : decode b_BlockCodeLaw_law 202 = .ok (.iconst 0, 1) := by decide +kernel
theorem d_BlockCodeLaw_law_203 : decode b_BlockCodeLaw_law 203 = .ok (.ireturn, 1) := by decide +kernel
theorem d_BlockCodeLaw_law_204 : decode b_BlockCodeLaw_law 204 = .ok (.iload 5, 2) := by decide +kernel
theorem d_BlockCodeLaw_law_206 : decode b_BlockCodeLaw_law 206 = .ok (.ifCond .ne 15, 3) := by decide +kernel
theorem d_BlockCodeLaw_law_209 : decode b_BlockCodeLaw_law 209 = .ok (.aload_n 3, 1) := by decide +kernel
theorem d_BlockCodeLaw_law_210 : decode b_BlockCodeLaw_law 210 = .ok (.iconst 0, 1) := by decide +kernel
theorem d_BlockCodeLaw_law_211 : decode b_BlockCodeLaw_law 211 = .ok (.laload, 1) := by decide +kernel
theorem d_BlockCodeLaw_law_212 : decode b_BlockCodeLaw_law 212 = .ok (.iload 6, 2) := by decide +kernel
theorem d_BlockCodeLaw_law_214 : decode b_BlockCodeLaw_law 214 = .ok (.i2l, 1) := by decide +kernel
theorem d_BlockCodeLaw_law_215 : decode b_BlockCodeLaw_law 215 = .ok (.lcmp, 1) := by decide +kernel
theorem d_BlockCodeLaw_law_216 : decode b_BlockCodeLaw_law 216 = .ok (.ifCond .eq 5, 3) := by decide +kernel
theorem d_BlockCodeLaw_law_219 : decode b_BlockCodeLaw_law 219 = .ok (.iconst 0, 1) := by decide +kernel
theorem d_BlockCodeLaw_law_220 : decode b_BlockCodeLaw_law 220 = .ok (.ireturn, 1) := by decide +kernel
theorem d_BlockCodeLaw_law_221 : decode b_BlockCodeLaw_law 221 = .ok (.goto 595, 3) := by decide +kernel
theorem d_BlockCodeLaw_law_224 : decode b_BlockCodeLaw_law 224 = .ok (.aload_n 1, 1) := by decide +kernel
theorem d_BlockCodeLaw_law_225 : decode b_BlockCodeLaw_law 225 = .ok (.invokevirtual 44, 3) := by decide +kernel
theorem d_BlockCodeLaw_law_228 : decode b_BlockCodeLaw_law 228 = .ok (.aload_n 2, 1) := by decide +kernel
theorem d_BlockCodeLaw_law_229 : decode b_BlockCodeLaw_law 229 = .ok (.invokevirtual 47, 3) := by decide +kernel
theorem d_BlockCodeLaw_law_232 : decode b_BlockCodeLaw_law 232 = .ok (.goto 584, 3) := by decide +kernel
theorem d_BlockCodeLaw_law_235 : decode b_BlockCodeLaw_law 235 = .ok (.aload_n 1, 1) := by decide +kernel
theorem d_BlockCodeLaw_law_236 : decode b_BlockCodeLaw_law 236 = .ok (.aload_n 3, 1) := by decide +kernel
theorem d_BlockCodeLaw_law_237 : decode b_BlockCodeLaw_law 237 = .ok (.invokestatic 48, 3) := by decide +kernel
theorem d_BlockCodeLaw_law_240 : decode b_BlockCodeLaw_law 240 = .ok (.istore 5, 2) := by decide +kernel
theorem d_BlockCodeLaw_law_242 : decode b_BlockCodeLaw_law 242 = .ok (.aload_n 2, 1) := by decide +kernel
theorem d_BlockCodeLaw_law_243 : decode b_BlockCodeLaw_law 243 = .ok (.invokevirtual 51, 3) := by decide +kernel
theorem d_BlockCodeLaw_law_246 : decode b_BlockCodeLaw_law 246 = .ok (.istore 6, 2) := by decide +kernel
theorem d_BlockCodeLaw_law_248 : decode b_BlockCodeLaw_law 248 = .ok (.aload_n 2, 1) := by decide +kernel
theorem d_BlockCodeLaw_law_249 : decode b_BlockCodeLaw_law 249 = .ok (.invokevirtual 41, 3) := by decide +kernel
theorem d_BlockCodeLaw_law_252 : decode b_BlockCodeLaw_law 252 = .ok (.iload 5, 2) := by decide +kernel
theorem d_BlockCodeLaw_law_254 : decode b_BlockCodeLaw_law 254 = .ok (.if_icmp .eq 5, 3) := by decide +kernel
theorem d_BlockCodeLaw_law_257 : decode b_BlockCodeLaw_law 257 = .ok (.iconst 0, 1) := by decide +kernel
theorem d_BlockCodeLaw_law_258 : decode b_BlockCodeLaw_law 258 = .ok (.ireturn, 1) := by decide +kernel
theorem d_BlockCodeLaw_law_259 : decode b_BlockCodeLaw_law 259 = .ok (.iload 5, 2) := by decide +kernel
theorem d_BlockCodeLaw_law_261 : decode b_BlockCodeLaw_law 261 = .ok (.ifCond .ne 15, 3) := by decide +kernel
theorem d_BlockCodeLaw_law_264 : decode b_BlockCodeLaw_law 264 = .ok (.aload_n 3, 1) := by decide +kernel
theorem d_BlockCodeLaw_law_265 : decode b_BlockCodeLaw_law 265 = .ok (.iconst 0, 1) := by decide +kernel
theorem d_BlockCodeLaw_law_266 : decode b_BlockCodeLaw_law 266 = .ok (.laload, 1) := by decide +kernel
theorem d_BlockCodeLaw_law_267 : decode b_BlockCodeLaw_law 267 = .ok (.iload 6, 2) := by decide +kernel
theorem d_BlockCodeLaw_law_269 : decode b_BlockCodeLaw_law 269 = .ok (.i2l, 1) := by decide +kernel
theorem d_BlockCodeLaw_law_270 : decode b_BlockCodeLaw_law 270 = .ok (.lcmp, 1) := by decide +kernel
theorem d_BlockCodeLaw_law_271 : decode b_BlockCodeLaw_law 271 = .ok (.ifCond .eq 5, 3) := by decide +kernel
theorem d_BlockCodeLaw_law_274 : decode b_BlockCodeLaw_law 274 = .ok (.iconst 0, 1) := by decide +kernel
theorem d_BlockCodeLaw_law_275 : decode b_BlockCodeLaw_law 275 = .ok (.ireturn, 1) := by decide +kernel
theorem d_BlockCodeLaw_law_276 : decode b_BlockCodeLaw_law 276 = .ok (.goto 540, 3) := by decide +kernel
theorem d_BlockCodeLaw_law_279 : decode b_BlockCodeLaw_law 279 = .ok (.aload_n 1, 1) := by decide +kernel
theorem d_BlockCodeLaw_law_280 : decode b_BlockCodeLaw_law 280 = .ok (.invokevirtual 52, 3) := by decide +kernel
theorem d_BlockCodeLaw_law_283 : decode b_BlockCodeLaw_law 283 = .ok (.aload_n 2, 1) := by decide +kernel
theorem d_BlockCodeLaw_law_284 : decode b_BlockCodeLaw_law 284 = .ok (.invokevirtual 55, 3) := by decide +kernel
theorem d_BlockCodeLaw_law_287 : decode b_BlockCodeLaw_law 287 = .ok (.if_icmp .eq 529, 3) := by decide +kernel
theorem d_BlockCodeLaw_law_290 : decode b_BlockCodeLaw_law 290 = .ok (.iconst 0, 1) := by decide +kernel
theorem d_BlockCodeLaw_law_291 : decode b_BlockCodeLaw_law 291 = .ok (.ireturn, 1) := by decide +kernel
theorem d_BlockCodeLaw_law_292 : decode b_BlockCodeLaw_law 292 = .ok (.aload_n 1, 1) := by decide +kernel
theorem d_BlockCodeLaw_law_293 : decode b_BlockCodeLaw_law 293 = .ok (.aload_n 0, 1) := by decide +kernel
theorem d_BlockCodeLaw_law_294 : decode b_BlockCodeLaw_law 294 = .ok (.iload 4, 2) := by decide +kernel
theorem d_BlockCodeLaw_law_296 : decode b_BlockCodeLaw_law 296 = .ok (.iconst 1, 1) := by decide +kernel
theorem d_BlockCodeLaw_law_297 : decode b_BlockCodeLaw_law 297 = .ok (.iadd, 1) := by decide +kernel
theorem d_BlockCodeLaw_law_298 : decode b_BlockCodeLaw_law 298 = .ok (.iaload, 1) := by decide +kernel
theorem d_BlockCodeLaw_law_299 : decode b_BlockCodeLaw_law 299 = .ok (.aload_n 0, 1) := by decide +kernel
theorem d_BlockCodeLaw_law_300 : decode b_BlockCodeLaw_law 300 = .ok (.iload 4, 2) := by decide +kernel
theorem d_BlockCodeLaw_law_302 : decode b_BlockCodeLaw_law 302 = .ok (.iconst 2, 1) := by decide +kernel
theorem d_BlockCodeLaw_law_303 : decode b_BlockCodeLaw_law 303 = .ok (.iadd, 1) := by decide +kernel
theorem d_BlockCodeLaw_law_304 : decode b_BlockCodeLaw_law 304 = .ok (.iaload, 1) := by decide +kernel
theorem d_BlockCodeLaw_law_305 : decode b_BlockCodeLaw_law 305 = .ok (.invokevirtual 56, 3) := by decide +kernel
theorem d_BlockCodeLaw_law_308 : decode b_BlockCodeLaw_law 308 = .ok (.aload_n 2, 1) := by decide +kernel
theorem d_BlockCodeLaw_law_309 : decode b_BlockCodeLaw_law 309 = .ok (.aload_n 0, 1) := by decide +kernel
theorem d_BlockCodeLaw_law_310 : decode b_BlockCodeLaw_law 310 = .ok (.iload 4, 2) := by decide +kernel
theorem d_BlockCodeLaw_law_312 : decode b_BlockCodeLaw_law 312 = .ok (.iconst 1, 1) := by decide +kernel
theorem d_BlockCodeLaw_law_313 : decode b_BlockCodeLaw_law 313 = .ok (.iadd, 1) := by decide +kernel
theorem d_BlockCodeLaw_law_314 : decode b_BlockCodeLaw_law 314 = .ok (.iaload, 1) := by decide +kernel
theorem d_BlockCodeLaw_law_315 : decode b_BlockCodeLaw_law 315 = .ok (.aload_n 0, 1) := by decide +kernel
theorem d_BlockCodeLaw_law_316 : decode b_BlockCodeLaw_law 316 = .ok (.iload 4, 2) := by decide +kernel
theorem d_BlockCodeLaw_law_318 : decode b_BlockCodeLaw_law 318 = .ok (.iconst 2, 1) := by decide +kernel
theorem d_BlockCodeLaw_law_319 : decode b_BlockCodeLaw_law 319 = .ok (.iadd, 1) := by decide +kernel
theorem d_BlockCodeLaw_law_320 : decode b_BlockCodeLaw_law 320 = .ok (.iaload, 1) := by decide +kernel
theorem d_BlockCodeLaw_law_321 : decode b_BlockCodeLaw_law 321 = .ok (.invokevirtual 60, 3) := by decide +kernel
theorem d_BlockCodeLaw_law_324 : decode b_BlockCodeLaw_law 324 = .ok (.if_icmp .eq 492, 3) := by decide +kernel
theorem d_BlockCodeLaw_law_327 : decode b_BlockCodeLaw_law 327 = .ok (.iconst 0, 1) := by decide +kernel
theorem d_BlockCodeLaw_law_328 : decode b_BlockCodeLaw_law 328 = .ok (.ireturn, 1) := by decide +kernel
theorem d_BlockCodeLaw_law_329 : decode b_BlockCodeLaw_law 329 = .ok (.aload_n 1, 1) := by decide +kernel
theorem d_BlockCodeLaw_law_330 : decode b_BlockCodeLaw_law 330 = .ok (.aload_n 0, 1) := by decide +kernel
theorem d_BlockCodeLaw_law_331 : decode b_BlockCodeLaw_law 331 = .ok (.iload 4, 2) := by decide +kernel
theorem d_BlockCodeLaw_law_333 : decode b_BlockCodeLaw_law 333 = .ok (.iconst 1, 1) := by decide +kernel
theorem d_BlockCodeLaw_law_334 : decode b_BlockCodeLaw_law 334 = .ok (.iadd, 1) := by decide +kernel
theorem d_BlockCodeLaw_law_335 : decode b_BlockCodeLaw_law 335 = .ok (.iaload, 1) := by decide +kernel
theorem d_BlockCodeLaw_law_336 : decode b_BlockCodeLaw_law 336 = .ok (.aload_n 0, 1) := by decide +kernel
theorem d_BlockCodeLaw_law_337 : decode b_BlockCodeLaw_law 337 = .ok (.iload 4, 2) := by decide +kernel
theorem d_BlockCodeLaw_law_339 : decode b_BlockCodeLaw_law 339 = .ok (.iconst 2, 1) := by decide +kernel
theorem d_BlockCodeLaw_law_340 : decode b_BlockCodeLaw_law 340 = .ok (.iadd, 1) := by decide +kernel
theorem d_BlockCodeLaw_law_341 : decode b_BlockCodeLaw_law 341 = .ok (.iaload, 1) := by decide +kernel
theorem d_BlockCodeLaw_law_342 : decode b_BlockCodeLaw_law 342 = .ok (.invokevirtual 61, 3) := by decide +kernel
theorem d_BlockCodeLaw_law_345 : decode b_BlockCodeLaw_law 345 = .ok (.aload_n 2, 1) := by decide +kernel
theorem d_BlockCodeLaw_law_346 : decode b_BlockCodeLaw_law 346 = .ok (.aload_n 0, 1) := by decide +kernel
theorem d_BlockCodeLaw_law_347 : decode b_BlockCodeLaw_law 347 = .ok (.iload 4, 2) := by decide +kernel
theorem d_BlockCodeLaw_law_349 : decode b_BlockCodeLaw_law 349 = .ok (.iconst 1, 1) := by decide +kernel
theorem d_BlockCodeLaw_law_350 : decode b_BlockCodeLaw_law 350 = .ok (.iadd, 1) := by decide +kernel
theorem d_BlockCodeLaw_law_351 : decode b_BlockCodeLaw_law 351 = .ok (.iaload, 1) := by decide +kernel
theorem d_BlockCodeLaw_law_352 : decode b_BlockCodeLaw_law 352 = .ok (.aload_n 0, 1) := by decide +kernel
theorem d_BlockCodeLaw_law_353 : decode b_BlockCodeLaw_law 353 = .ok (.iload 4, 2) := by decide +kernel
theorem d_BlockCodeLaw_law_355 : decode b_BlockCodeLaw_law 355 = .ok (.iconst 2, 1) := by decide +kernel
theorem d_BlockCodeLaw_law_356 : decode b_BlockCodeLaw_law 356 = .ok (.iadd, 1) := by decide +kernel
theorem d_BlockCodeLaw_law_357 : decode b_BlockCodeLaw_law 357 = .ok (.iaload, 1) := by decide +kernel
theorem d_BlockCodeLaw_law_358 : decode b_BlockCodeLaw_law 358 = .ok (.invokevirtual 64, 3) := by decide +kernel
theorem d_BlockCodeLaw_law_361 : decode b_BlockCodeLaw_law 361 = .ok (.if_icmp .eq 455, 3) := by decide +kernel
theorem d_BlockCodeLaw_law_364 : decode b_BlockCodeLaw_law 364 = .ok (.iconst 0, 1) := by decide +kernel
theorem d_BlockCodeLaw_law_365 : decode b_BlockCodeLaw_law 365 = .ok (.ireturn, 1) := by decide +kernel
theorem d_BlockCodeLaw_law_366 : decode b_BlockCodeLaw_law 366 = .ok (.aload_n 1, 1) := by decide +kernel
theorem d_BlockCodeLaw_law_367 : decode b_BlockCodeLaw_law 367 = .ok (.aload_n 0, 1) := by decide +kernel
theorem d_BlockCodeLaw_law_368 : decode b_BlockCodeLaw_law 368 = .ok (.iload 4, 2) := by decide +kernel
theorem d_BlockCodeLaw_law_370 : decode b_BlockCodeLaw_law 370 = .ok (.iconst 1, 1) := by decide +kernel
theorem d_BlockCodeLaw_law_371 : decode b_BlockCodeLaw_law 371 = .ok (.iadd, 1) := by decide +kernel
theorem d_BlockCodeLaw_law_372 : decode b_BlockCodeLaw_law 372 = .ok (.iaload, 1) := by decide +kernel
theorem d_BlockCodeLaw_law_373 : decode b_BlockCodeLaw_law 373 = .ok (.aload_n 0, 1) := by decide +kernel
theorem d_BlockCodeLaw_law_374 : decode b_BlockCodeLaw_law 374 = .ok (.iload 4, 2) := by decide +kernel
theorem d_BlockCodeLaw_law_376 : decode b_BlockCodeLaw_law 376 = .ok (.iconst 2, 1) := by decide +kernel
theorem d_BlockCodeLaw_law_377 : decode b_BlockCodeLaw_law 377 = .ok (.iadd, 1) := by decide +kernel
theorem d_BlockCodeLaw_law_378 : decode b_BlockCodeLaw_law 378 = .ok (.iaload, 1) := by decide +kernel
theorem d_BlockCodeLaw_law_379 : decode b_BlockCodeLaw_law 379 = .ok (.invokevirtual 65, 3) := by decide +kernel
theorem d_BlockCodeLaw_law_382 : decode b_BlockCodeLaw_law 382 = .ok (.aload_n 2, 1) := by decide +kernel
theorem d_BlockCodeLaw_law_383 : decode b_BlockCodeLaw_law 383 = .ok (.aload_n 0, 1) := by decide +kernel
theorem d_BlockCodeLaw_law_384 : decode b_BlockCodeLaw_law 384 = .ok (.iload 4, 2) := by decide +kernel
theorem d_BlockCodeLaw_law_386 : decode b_BlockCodeLaw_law 386 = .ok (.iconst 1, 1) := by decide +kernel
theorem d_BlockCodeLaw_law_387 : decode b_BlockCodeLaw_law 387 = .ok (.iadd, 1) := by decide +kernel
theorem d_BlockCodeLaw_law_388 : decode b_BlockCodeLaw_law 388 = .ok (.iaload, 1) := by decide +kernel
theorem d_BlockCodeLaw_law_389 : decode b_BlockCodeLaw_law 389 = .ok (.aload_n 0, 1) := by decide +kernel
theorem d_BlockCodeLaw_law_390 : decode b_BlockCodeLaw_law 390 = .ok (.iload 4, 2) := by decide +kernel
theorem d_BlockCodeLaw_law_392 : decode b_BlockCodeLaw_law 392 = .ok (.iconst 2, 1) := by decide +kernel
theorem d_BlockCodeLaw_law_393 : decode b_BlockCodeLaw_law 393 = .ok (.iadd, 1) := by decide +kernel
theorem d_BlockCodeLaw_law_394 : decode b_BlockCodeLaw_law 394 = .ok (.iaload, 1) := by decide +kernel
theorem d_BlockCodeLaw_law_395 : decode b_BlockCodeLaw_law 395 = .ok (.invokevirtual 69, 3) := by decide +kernel
theorem d_BlockCodeLaw_law_398 : decode b_BlockCodeLaw_law 398 = .ok (.lcmp, 1) := by decide +kernel
theorem d_BlockCodeLaw_law_399 : decode b_BlockCodeLaw_law 399 = .ok (.ifCond .eq 417, 3) := by decide +kernel
theorem d_BlockCodeLaw_law_402 : decode b_BlockCodeLaw_law 402 = .ok (.iconst 0, 1) := by decide +kernel
theorem d_BlockCodeLaw_law_403 : decode b_BlockCodeLaw_law 403 = .ok (.ireturn, 1) := by decide +kernel
theorem d_BlockCodeLaw_law_404 : decode b_BlockCodeLaw_law 404 = .ok (.aload_n 1, 1) := by decide +kernel
theorem d_BlockCodeLaw_law_405 : decode b_BlockCodeLaw_law 405 = .ok (.aload_n 0, 1) := by decide +kernel
theorem d_BlockCodeLaw_law_406 : decode b_BlockCodeLaw_law 406 = .ok (.iload 4, 2) := by decide +kernel
theorem d_BlockCodeLaw_law_408 : decode b_BlockCodeLaw_law 408 = .ok (.iconst 1, 1) := by decide +kernel
theorem d_BlockCodeLaw_law_409 : decode b_BlockCodeLaw_law 409 = .ok (.iadd, 1) := by decide +kernel
theorem d_BlockCodeLaw_law_410 : decode b_BlockCodeLaw_law 410 = .ok (.iaload, 1) := by decide +kernel
theorem d_BlockCodeLaw_law_411 : decode b_BlockCodeLaw_law 411 = .ok (.invokevirtual 70, 3) := by decide +kernel
theorem d_BlockCodeLaw_law_414 : decode b_BlockCodeLaw_law 414 = .ok (.aload_n 2, 1) := by decide +kernel
theorem d_BlockCodeLaw_law_415 : decode b_BlockCodeLaw_law 415 = .ok (.aload_n 0, 1) := by decide +kernel
theorem d_BlockCodeLaw_law_416 : decode b_BlockCodeLaw_law 416 = .ok (.iload 4, 2) := by decide +kernel
theorem d_BlockCodeLaw_law_418 : decode b_BlockCodeLaw_law 418 = .ok (.iconst 1, 1) := by decide +kernel
theorem d_BlockCodeLaw_law_419 : decode b_BlockCodeLaw_law 419 = .ok (.iadd, 1) := by decide +kernel
theorem d_BlockCodeLaw_law_420 : decode b_BlockCodeLaw_law 420 = .ok (.iaload, 1) := by decide +kernel
theorem d_BlockCodeLaw_law_421 : decode b_BlockCodeLaw_law 421 = .ok (.invokevirtual 74, 3) := by decide +kernel
theorem d_BlockCodeLaw_law_424 : decode b_BlockCodeLaw_law 424 = .ok (.if_icmp .eq 392, 3) := by decide +kernel
theorem d_BlockCodeLaw_law_427 : decode b_BlockCodeLaw_law 427 = .ok (.iconst 0, 1) := by decide +kernel
theorem d_BlockCodeLaw_law_428 : decode b_BlockCodeLaw_law 428 = .ok (.ireturn, 1) := by decide +kernel
theorem d_BlockCodeLaw_law_429 : decode b_BlockCodeLaw_law 429 = .ok (.aload_n 1, 1) := by decide +kernel
theorem d_BlockCodeLaw_law_430 : decode b_BlockCodeLaw_law 430 = .ok (.aload_n 3, 1) := by decide +kernel
theorem d_BlockCodeLaw_law_431 : decode b_BlockCodeLaw_law 431 = .ok (.invokestatic 75, 3) := by decide +kernel
theorem d_BlockCodeLaw_law_434 : decode b_BlockCodeLaw_law 434 = .ok (.istore 5, 2) := by decide +kernel
theorem d_BlockCodeLaw_law_436 : decode b_BlockCodeLaw_law 436 = .ok (.aload_n 2, 1) := by decide +kernel
theorem d_BlockCodeLaw_law_437 : decode b_BlockCodeLaw_law 437 = .ok (.invokevirtual 77, 3) := by decide +kernel
theorem d_BlockCodeLaw_law_440 : decode b_BlockCodeLaw_law 440 = .ok (.istore 6, 2) := by decide +kernel
theorem d_BlockCodeLaw_law_442 : decode b_BlockCodeLaw_law 442 = .ok (.aload_n 2, 1) := by decide +kernel
theorem d_BlockCodeLaw_law_443 : decode b_BlockCodeLaw_law 443 = .ok (.invokevirtual 41, 3) := by decide +kernel
theorem d_BlockCodeLaw_law_446 : decode b_BlockCodeLaw_law 446 = .ok (.iload 5, 2) := by decide +kernel
theorem d_BlockCodeLaw_law_448 : decode b_BlockCodeLaw_law 448 = .ok (.if_icmp .eq 5, 3) := by decide +kernel
theorem d_BlockCodeLaw_law_451 : decode b_BlockCodeLaw_law 451 = .ok (.iconst 0, 1) := by decide +kernel
theorem d_BlockCodeLaw_law_452 : decode b_BlockCodeLaw_law 452 = .ok (.ireturn, 1) := by decide +kernel
theorem d_BlockCodeLaw_law_453 : decode b_BlockCodeLaw_law 453 = .ok (.iload 5, 2) := by decide +kernel
theorem d_BlockCodeLaw_law_455 : decode b_BlockCodeLaw_law 455 = .ok (.ifCond .ne 15, 3) := by decide +kernel
theorem d_BlockCodeLaw_law_458 : decode b_BlockCodeLaw_law 458 = .ok (.aload_n 3, 1) := by decide +kernel
theorem d_BlockCodeLaw_law_459 : decode b_BlockCodeLaw_law 459 = .ok (.iconst 0, 1) := by decide +kernel
theorem d_BlockCodeLaw_law_460 : decode b_BlockCodeLaw_law 460 = .ok (.laload, 1) := by decide +kernel
theorem d_BlockCodeLaw_law_461 : decode b_BlockCodeLaw_law 461 = .ok (.iload 6, 2) := by decide +kernel
theorem d_BlockCodeLaw_law_463 : decode b_BlockCodeLaw_law 463 = .ok (.i2l, 1) := by decide +kernel
theorem d_BlockCodeLaw_law_464 : decode b_BlockCodeLaw_law 464 = .ok (.lcmp, 1) := by decide +kernel
theorem d_BlockCodeLaw_law_465 : decode b_BlockCodeLaw_law 465 = .ok (.ifCond .eq 5, 3) := by decide +kernel
theorem d_BlockCodeLaw_law_468 : decode b_BlockCodeLaw_law 468 = .ok (.iconst 0, 1) := by decide +kernel
theorem d_BlockCodeLaw_law_469 : decode b_BlockCodeLaw_law 469 = .ok (.ireturn, 1) := by decide +kernel
theorem d_BlockCodeLaw_law_470 : decode b_BlockCodeLaw_law 470 = .ok (.goto 346, 3) := by decide +kernel
theorem d_BlockCodeLaw_law_473 : decode b_BlockCodeLaw_law 473 = .ok (.aload_n 1, 1) := by decide +kernel
theorem d_BlockCodeLaw_law_474 : decode b_BlockCodeLaw_law 474 = .ok (.aload_n 3, 1) := by decide +kernel
theorem d_BlockCodeLaw_law_475 : decode b_BlockCodeLaw_law 475 = .ok (.invokestatic 78, 3) := by decide +kernel
theorem d_BlockCodeLaw_law_478 : decode b_BlockCodeLaw_law 478 = .ok (.istore 5, 2) := by decide +kernel
theorem d_BlockCodeLaw_law_480 : decode b_BlockCodeLaw_law 480 = .ok (.aload_n 2, 1) := by decide +kernel
theorem d_BlockCodeLaw_law_481 : decode b_BlockCodeLaw_law 481 = .ok (.invokevirtual 80, 3) := by decide +kernel
theorem d_BlockCodeLaw_law_484 : decode b_BlockCodeLaw_law 484 = .ok (.istore 6, 2) := by decide +kernel
theorem d_BlockCodeLaw_law_486 : decode b_BlockCodeLaw_law 486 = .ok (.aload_n 2, 1) := by decide +kernel
theorem d_BlockCodeLaw_law_487 : decode b_BlockCodeLaw_law 487 = .ok (.invokevirtual 41, 3) := by decide +kernel
theorem d_BlockCodeLaw_law_490 : decode b_BlockCodeLaw_law 490 = .ok (.iload 5, 2) := by decide +kernel
theorem d_BlockCodeLaw_law_492 : decode b_BlockCodeLaw_law 492 = .ok (.if_icmp .eq 5, 3) := by decide +kernel
theorem d_BlockCodeLaw_law_495 : decode b_BlockCodeLaw_law 495 = .ok (.iconst 0, 1) := by decide +kernel
theorem d_BlockCodeLaw_law_496 : decode b_BlockCodeLaw_law 496 = .ok (.ireturn, 1) := by decide +kernel
theorem d_BlockCodeLaw_law_497 : decode b_BlockCodeLaw_law 497 = .ok (.iload 5, 2) := by decide +kernel
theorem d_BlockCodeLaw_law_499 : decode b_BlockCodeLaw_law 499 = .ok (.ifCond .ne 15, 3) := by decide +kernel
theorem d_BlockCodeLaw_law_502 : decode b_BlockCodeLaw_law 502 = .ok (.aload_n 3, 1) := by decide +kernel
theorem d_BlockCodeLaw_law_503 : decode b_BlockCodeLaw_law 503 = .ok (.iconst 0, 1) := by decide +kernel
theorem d_BlockCodeLaw_law_504 : decode b_BlockCodeLaw_law 504 = .ok (.laload, 1) := by decide +kernel
theorem d_BlockCodeLaw_law_505 : decode b_BlockCodeLaw_law 505 = .ok (.iload 6, 2) := by decide +kernel
theorem d_BlockCodeLaw_law_507 : decode b_BlockCodeLaw_law 507 = .ok (.i2l, 1) := by decide +kernel
theorem d_BlockCodeLaw_law_508 : decode b_BlockCodeLaw_law 508 = .ok (.lcmp, 1) := by decide +kernel
theorem d_BlockCodeLaw_law_509 : decode b_BlockCodeLaw_law 509 = .ok (.ifCond .eq 5, 3) := by decide +kernel
theorem d_BlockCodeLaw_law_512 : decode b_BlockCodeLaw_law 512 = .ok (.iconst 0, 1) := by decide +kernel
theorem d_BlockCodeLaw_law_513 : decode b_BlockCodeLaw_law 513 = .ok (.ireturn, 1) := by decide +kernel
theorem d_BlockCodeLaw_law_514 : decode b_BlockCodeLaw_law 514 = .ok (.goto 302, 3) := by decide +kernel
theorem d_BlockCodeLaw_law_517 : decode b_BlockCodeLaw_law 517 = .ok (.aload_n 1, 1) := by decide +kernel
theorem d_BlockCodeLaw_law_518 : decode b_BlockCodeLaw_law 518 = .ok (.aload_n 3, 1) := by decide +kernel
theorem d_BlockCodeLaw_law_519 : decode b_BlockCodeLaw_law 519 = .ok (.invokestatic 81, 3) := by decide +kernel
theorem d_BlockCodeLaw_law_522 : decode b_BlockCodeLaw_law 522 = .ok (.istore 5, 2) := by decide +kernel
theorem d_BlockCodeLaw_law_524 : decode b_BlockCodeLaw_law 524 = .ok (.aload_n 2, 1) := by decide +kernel
theorem d_BlockCodeLaw_law_525 : decode b_BlockCodeLaw_law 525 = .ok (.invokevirtual 83, 3) := by decide +kernel
theorem d_BlockCodeLaw_law_528 : decode b_BlockCodeLaw_law 528 = .ok (.istore 6, 2) := by decide +kernel
theorem d_BlockCodeLaw_law_530 : decode b_BlockCodeLaw_law 530 = .ok (.aload_n 2, 1) := by decide +kernel
theorem d_BlockCodeLaw_law_531 : decode b_BlockCodeLaw_law 531 = .ok (.invokevirtual 41, 3) := by decide +kernel
theorem d_BlockCodeLaw_law_534 : decode b_BlockCodeLaw_law 534 = .ok (.iload 5, 2) := by decide +kernel
theorem d_BlockCodeLaw_law_536 : decode b_BlockCodeLaw_law 536 = .ok (.if_icmp .eq 5, 3) := by decide +kernel
theorem d_BlockCodeLaw_law_539 : decode b_BlockCodeLaw_law 539 = .ok (.iconst 0, 1) := by decide +kernel
theorem d_BlockCodeLaw_law_540 : decode b_BlockCodeLaw_law 540 = .ok (.ireturn, 1) := by decide +kernel
theorem d_BlockCodeLaw_law_541 : decode b_BlockCodeLaw_law 541 = .ok (.iload 5, 2) := by decide +kernel
theorem d_BlockCodeLaw_law_543 : decode b_BlockCodeLaw_law 543 = .ok (.ifCond .ne 15, 3) := by decide +kernel
theorem d_BlockCodeLaw_law_546 : decode b_BlockCodeLaw_law 546 = .ok (.aload_n 3, 1) := by decide +kernel
theorem d_BlockCodeLaw_law_547 : decode b_BlockCodeLaw_law 547 = .ok (.iconst 0, 1) := by decide +kernel
theorem d_BlockCodeLaw_law_548 : decode b_BlockCodeLaw_law 548 = .ok (.laload, 1) := by decide +kernel
theorem d_BlockCodeLaw_law_549 : decode b_BlockCodeLaw_law 549 = .ok (.iload 6, 2) := by decide +kernel
theorem d_BlockCodeLaw_law_551 : decode b_BlockCodeLaw_law 551 = .ok (.i2l, 1) := by decide +kernel
theorem d_BlockCodeLaw_law_552 : decode b_BlockCodeLaw_law 552 = .ok (.lcmp, 1) := by decide +kernel
theorem d_BlockCodeLaw_law_553 : decode b_BlockCodeLaw_law 553 = .ok (.ifCond .eq 5, 3) := by decide +kernel
theorem d_BlockCodeLaw_law_556 : decode b_BlockCodeLaw_law 556 = .ok (.iconst 0, 1) := by decide +kernel
theorem d_BlockCodeLaw_law_557 : decode b_BlockCodeLaw_law 557 = .ok (.ireturn, 1) := by decide +kernel
theorem d_BlockCodeLaw_law_558 : decode b_BlockCodeLaw_law 558 = .ok (.goto 258, 3) := by decide +kernel
theorem d_BlockCodeLaw_law_561 : decode b_BlockCodeLaw_law 561 = .ok (.aload_n 1, 1) := by decide +kernel
theorem d_BlockCodeLaw_law_562 : decode b_BlockCodeLaw_law 562 = .ok (.aload_n 0, 1) := by decide +kernel
theorem d_BlockCodeLaw_law_563 : decode b_BlockCodeLaw_law 563 = .ok (.iload 4, 2) := by decide +kernel
theorem d_BlockCodeLaw_law_565 : decode b_BlockCodeLaw_law 565 = .ok (.iconst 1, 1) := by decide +kernel
theorem d_BlockCodeLaw_law_566 : decode b_BlockCodeLaw_law 566 = .ok (.iadd, 1) := by decide +kernel
theorem d_BlockCodeLaw_law_567 : decode b_BlockCodeLaw_law 567 = .ok (.iaload, 1) := by decide +kernel
theorem d_BlockCodeLaw_law_568 : decode b_BlockCodeLaw_law 568 = .ok (.aload_n 0, 1) := by decide +kernel
theorem d_BlockCodeLaw_law_569 : decode b_BlockCodeLaw_law 569 = .ok (.iload 4, 2) := by decide +kernel
theorem d_BlockCodeLaw_law_571 : decode b_BlockCodeLaw_law 571 = .ok (.iconst 2, 1) := by decide +kernel
theorem d_BlockCodeLaw_law_572 : decode b_BlockCodeLaw_law 572 = .ok (.iadd, 1) := by decide +kernel
theorem d_BlockCodeLaw_law_573 : decode b_BlockCodeLaw_law 573 = .ok (.iaload, 1) := by decide +kernel
theorem d_BlockCodeLaw_law_574 : decode b_BlockCodeLaw_law 574 = .ok (.aload_n 0, 1) := by decide +kernel
theorem d_BlockCodeLaw_law_575 : decode b_BlockCodeLaw_law 575 = .ok (.iload 4, 2) := by decide +kernel
theorem d_BlockCodeLaw_law_577 : decode b_BlockCodeLaw_law 577 = .ok (.iconst 3, 1) := by decide +kernel
theorem d_BlockCodeLaw_law_578 : decode b_BlockCodeLaw_law 578 = .ok (.iadd, 1) := by decide +kernel
theorem d_BlockCodeLaw_law_579 : decode b_BlockCodeLaw_law 579 = .ok (.iaload, 1) := by decide +kernel
theorem d_BlockCodeLaw_law_580 : decode b_BlockCodeLaw_law 580 = .ok (.aload_n 0, 1) := by decide +kernel
theorem d_BlockCodeLaw_law_581 : decode b_BlockCodeLaw_law 581 = .ok (.iload 4, 2) := by decide +kernel
theorem d_BlockCodeLaw_law_583 : decode b_BlockCodeLaw_law 583 = .ok (.iconst 4, 1) := by decide +kernel
theorem d_BlockCodeLaw_law_584 : decode b_BlockCodeLaw_law 584 = .ok (.iadd, 1) := by decide +kernel
theorem d_BlockCodeLaw_law_585 : decode b_BlockCodeLaw_law 585 = .ok (.iaload, 1) := by decide +kernel
theorem d_BlockCodeLaw_law_586 : decode b_BlockCodeLaw_law 586 = .ok (.aload_n 0, 1) := by decide +kernel
theorem d_BlockCodeLaw_law_587 : decode b_BlockCodeLaw_law 587 = .ok (.iload 4, 2) := by decide +kernel
theorem d_BlockCodeLaw_law_589 : decode b_BlockCodeLaw_law 589 = .ok (.iconst 5, 1) := by decide +kernel
theorem d_BlockCodeLaw_law_590 : decode b_BlockCodeLaw_law 590 = .ok (.iadd, 1) := by decide +kernel
theorem d_BlockCodeLaw_law_591 : decode b_BlockCodeLaw_law 591 = .ok (.iaload, 1) := by decide +kernel
theorem d_BlockCodeLaw_law_592 : decode b_BlockCodeLaw_law 592 = .ok (.invokevirtual 84, 3) := by decide +kernel
theorem d_BlockCodeLaw_law_595 : decode b_BlockCodeLaw_law 595 = .ok (.aload_n 2, 1) := by decide +kernel
theorem d_BlockCodeLaw_law_596 : decode b_BlockCodeLaw_law 596 = .ok (.aload_n 0, 1) := by decide +kernel
theorem d_BlockCodeLaw_law_597 : decode b_BlockCodeLaw_law 597 = .ok (.iload 4, 2) := by decide +kernel
theorem d_BlockCodeLaw_law_599 : decode b_BlockCodeLaw_law 599 = .ok (.iconst 1, 1) := by decide +kernel
theorem d_BlockCodeLaw_law_600 : decode b_BlockCodeLaw_law 600 = .ok (.iadd, 1) := by decide +kernel
theorem d_BlockCodeLaw_law_601 : decode b_BlockCodeLaw_law 601 = .ok (.iaload, 1) := by decide +kernel
theorem d_BlockCodeLaw_law_602 : decode b_BlockCodeLaw_law 602 = .ok (.aload_n 0, 1) := by decide +kernel
theorem d_BlockCodeLaw_law_603 : decode b_BlockCodeLaw_law 603 = .ok (.iload 4, 2) := by decide +kernel
theorem d_BlockCodeLaw_law_605 : decode b_BlockCodeLaw_law 605 = .ok (.iconst 2, 1) := by decide +kernel
theorem d_BlockCodeLaw_law_606 : decode b_BlockCodeLaw_law 606 = .ok (.iadd, 1) := by decide +kernel
theorem d_BlockCodeLaw_law_607 : decode b_BlockCodeLaw_law 607 = .ok (.iaload, 1) := by decide +kernel
theorem d_BlockCodeLaw_law_608 : decode b_BlockCodeLaw_law 608 = .ok (.aload_n 0, 1) := by decide +kernel
theorem d_BlockCodeLaw_law_609 : decode b_BlockCodeLaw_law 609 = .ok (.iload 4, 2) := by decide +kernel
theorem d_BlockCodeLaw_law_611 : decode b_BlockCodeLaw_law 611 = .ok (.iconst 3, 1) := by decide +kernel
theorem d_BlockCodeLaw_law_612 : decode b_BlockCodeLaw_law 612 = .ok (.iadd, 1) := by decide +kernel
theorem d_BlockCodeLaw_law_613 : decode b_BlockCodeLaw_law 613 = .ok (.iaload, 1) := by decide +kernel
theorem d_BlockCodeLaw_law_614 : decode b_BlockCodeLaw_law 614 = .ok (.aload_n 0, 1) := by decide +kernel
theorem d_BlockCodeLaw_law_615 : decode b_BlockCodeLaw_law 615 = .ok (.iload 4, 2) := by decide +kernel
theorem d_BlockCodeLaw_law_617 : decode b_BlockCodeLaw_law 617 = .ok (.iconst 4, 1) := by decide +kernel
theorem d_BlockCodeLaw_law_618 : decode b_BlockCodeLaw_law 618 = .ok (.iadd, 1) := by decide +kernel
theorem d_BlockCodeLaw_law_619 : decode b_BlockCodeLaw_law 619 = .ok (.iaload, 1) := by decide +kernel
theorem d_BlockCodeLaw_law_620 : decode b_BlockCodeLaw_law 620 = .ok (.aload_n 0, 1) := by decide +kernel
theorem d_BlockCodeLaw_law_621 : decode b_BlockCodeLaw_law 621 = .ok (.iload 4, 2) := by decide +kernel
theorem d_BlockCodeLaw_law_623 : decode b_BlockCodeLaw_law 623 = .ok (.iconst 5, 1) := by decide +kernel
theorem d_BlockCodeLaw_law_624 : decode b_BlockCodeLaw_law 624 = .ok (.iadd, 1) := by decide +kernel
theorem d_BlockCodeLaw_law_625 : decode b_BlockCodeLaw_law 625 = .ok (.iaload, 1) := by decide +kernel
theorem d_BlockCodeLaw_law_626 : decode b_BlockCodeLaw_law 626 = .ok (.invokevirtual 88, 3) := by decide +kernel
theorem d_BlockCodeLaw_law_629 : decode b_BlockCodeLaw_law 629 = .ok (.if_icmp .eq 187, 3) := by decide +kernel
theorem d_BlockCodeLaw_law_632 : decode b_BlockCodeLaw_law 632 = .ok (.iconst 0, 1) := by decide +kernel
theorem d_BlockCodeLaw_law_633 : decode b_BlockCodeLaw_law 633 = .ok (.ireturn, 1) := by decide +kernel
theorem d_BlockCodeLaw_law_634 : decode b_BlockCodeLaw_law 634 = .ok (.aload_n 1, 1) := by decide +kernel
theorem d_BlockCodeLaw_law_635 : decode b_BlockCodeLaw_law 635 = .ok (.aload_n 3, 1) := by decide +kernel
theorem d_BlockCodeLaw_law_636 : decode b_BlockCodeLaw_law 636 = .ok (.invokestatic 89, 3) := by decide +kernel
theorem d_BlockCodeLaw_law_639 : decode b_BlockCodeLaw_law 639 = .ok (.istore 5, 2) := by decide +kernel
theorem d_BlockCodeLaw_law_641 : decode b_BlockCodeLaw_law 641 = .ok (.aload_n 2, 1) := by decide +kernel
theorem d_BlockCodeLaw_law_642 : decode b_BlockCodeLaw_law 642 = .ok (.invokevirtual 91, 3) := by decide +kernel
theorem d_BlockCodeLaw_law_645 : decode b_BlockCodeLaw_law 645 = .ok (.istore 6, 2) := by decide +kernel
theorem d_BlockCodeLaw_law_647 : decode b_BlockCodeLaw_law 647 = .ok (.aload_n 2, 1) := by decide +kernel
theorem d_BlockCodeLaw_law_648 : decode b_BlockCodeLaw_law 648 = .ok (.invokevirtual 41, 3) := by decide +kernel
theorem d_BlockCodeLaw_law_651 : decode b_BlockCodeLaw_law 651 = .ok (.iload 5, 2) := by decide +kernel
