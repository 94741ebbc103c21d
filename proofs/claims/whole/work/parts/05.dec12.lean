theorem d_BlockCodeModel_walk_324 : decode b_BlockCodeModel_walk 324 = .ok (.iconst 1, 1) := by decide +kernel
theorem d_BlockCodeModel_walk_325 : decode b_BlockCodeModel_walk 325 = .ok (.if_icmp .ne 32, 3) := by decide +kernel
theorem d_BlockCodeModel_walk_328 : decode b_BlockCodeModel_walk 328 = .ok (.aload_n 0, 1) := by decide +kernel
theorem d_BlockCodeModel_walk_329 : decode b_BlockCodeModel_walk 329 = .ok (.iload_n 1, 1) := by decide +kernel
theorem d_BlockCodeModel_walk_330 : decode b_BlockCodeModel_walk 330 = .ok (.iconst 1, 1) := by decide +kernel
theorem d_BlockCodeModel_walk_331 : decode b_BlockCodeModel_walk 331 = .ok (.aload_n 0, 1) := by decide +kernel
theorem d_BlockCodeModel_walk_332 : decode b_BlockCodeModel_walk 332 = .ok (.getfield 35, 3) := by decide +kernel
theorem d_BlockCodeModel_walk_335 : decode b_BlockCodeModel_walk 335 = .ok (.iload 11, 2) := by decide +kernel
theorem d_BlockCodeModel_walk_337 : decode b_BlockCodeModel_walk 337 = .ok (.iaload, 1) := by decide +kernel
theorem d_BlockCodeModel_walk_338 : decode b_BlockCodeModel_walk 338 = .ok (.ifCond .eq 8, 3) := by decide +kernel
theorem d_BlockCodeModel_walk_341 : decode b_BlockCodeModel_walk 341 = .ok (.iload 10, 2) := by decide +kernel
theorem d_BlockCodeModel_walk_343 : decode b_BlockCodeModel_walk 343 = .ok (.goto 7, 3) := by decide +kernel
theorem d_BlockCodeModel_walk_346 : decode b_BlockCodeModel_walk 346 = .ok (.iload 5, 2) := by decide +kernel
theorem d_BlockCodeModel_walk_348 : decode b_BlockCodeModel_walk 348 = .ok (.iconst 1, 1) := by decide +kernel
theorem d_BlockCodeModel_walk_349 : decode b_BlockCodeModel_walk 349 = .ok (.iadd, 1) := by decide +kernel
theorem d_BlockCodeModel_walk_350 : decode b_BlockCodeModel_walk 350 = .ok (.iconst 0, 1) := by decide +kernel
theorem d_BlockCodeModel_walk_351 : decode b_BlockCodeModel_walk 351 = .ok (.invokevirtual 147, 3) := by decide +kernel
theorem d_BlockCodeModel_walk_354 : decode b_BlockCodeModel_walk 354 = .ok (.goto 26, 3) := by decide +kernel
theorem d_BlockCodeModel_walk_357 : decode b_BlockCodeModel_walk 357 = .ok (.aload_n 0, 1) := by decide +kernel
theorem d_BlockCodeModel_walk_358 : decode b_BlockCodeModel_walk 358 = .ok (.iload_n 1, 1) := by decide +kernel
theorem d_BlockCodeModel_walk_359 : decode b_BlockCodeModel_walk 359 = .ok (.iload 10, 2) := by decide +kernel
theorem d_BlockCodeModel_walk_361 : decode b_BlockCodeModel_walk 361 = .ok (.iload 5, 2) := by decide +kernel
theorem d_BlockCodeModel_walk_363 : decode b_BlockCodeModel_walk 363 = .ok (.iconst 1, 1) := by decide +kernel
theorem d_BlockCodeModel_walk_364 : decode b_BlockCodeModel_walk 364 = .ok (.iadd, 1) := by decide +kernel
theorem d_BlockCodeModel_walk_365 : decode b_BlockCodeModel_walk 365 = .ok (.if_icmp .ne 7, 3) := by decide +kernel
theorem d_BlockCodeModel_walk_368 : decode b_BlockCodeModel_walk 368 = .ok (.iconst 1, 1) := by decide +kernel
theorem d_BlockCodeModel_walk_369 : decode b_BlockCodeModel_walk 369 = .ok (.goto 4, 3) := by decide +kernel
theorem d_BlockCodeModel_walk_372 : decode b_BlockCodeModel_walk 372 = .ok (.iconst 2, 1) := by decide +kernel
theorem d_BlockCodeModel_walk_373 : decode b_BlockCodeModel_walk 373 = .ok (.iload 10, 2) := by decide +kernel
theorem d_BlockCodeModel_walk_375 : decode b_BlockCodeModel_walk 375 = .ok (.iload 11, 2) := by decide +kernel
theorem d_BlockCodeModel_walk_377 : decode b_BlockCodeModel_walk 377 = .ok (.invokevirtual 147, 3) := by decide +kernel
theorem d_BlockCodeModel_walk_380 : decode b_BlockCodeModel_walk 380 = .ok (.iinc 5 1, 3) := by decide +kernel
theorem d_BlockCodeModel_walk_383 : decode b_BlockCodeModel_walk 383 = .ok (.goto (-294), 3) := by decide +kernel
theorem d_BlockCodeModel_walk_386 : decode b_BlockCodeModel_walk 386 = .ok (.aload_n 0, 1) := by decide +kernel
theorem d_BlockCodeModel_walk_387 : decode b_BlockCodeModel_walk 387 = .ok (.getfield 50, 3) := by decide +kernel
theorem d_BlockCodeModel_walk_390 : decode b_BlockCodeModel_walk 390 = .ok (.iload_n 1, 1) := by decide +kernel
theorem d_BlockCodeModel_walk_391 : decode b_BlockCodeModel_walk 391 = .ok (.iaload, 1) := by decide +kernel
theorem d_BlockCodeModel_walk_392 : decode b_BlockCodeModel_walk 392 = .ok (.ifCond .ne 11, 3) := by decide +kernel
theorem d_BlockCodeModel_walk_395 : decode b_BlockCodeModel_walk 395 = .ok (.aload_n 0, 1) := by decide +kernel
theorem d_BlockCodeModel_walk_396 : decode b_BlockCodeModel_walk 396 = .ok (.iload_n 1, 1) := by decide +kernel
theorem d_BlockCodeModel_walk_397 : decode b_BlockCodeModel_walk 397 = .ok (.iconst 1, 1) := by decide +kernel
theorem d_BlockCodeModel_walk_398 : decode b_BlockCodeModel_walk 398 = .ok (.iload_n 3, 1) := by decide +kernel
theorem d_BlockCodeModel_walk_399 : decode b_BlockCodeModel_walk 399 = .ok (.iconst 0, 1) := by decide +kernel
theorem d_BlockCodeModel_walk_400 : decode b_BlockCodeModel_walk 400 = .ok (.invokevirtual 147, 3) := by decide +kernel
theorem d_BlockCodeModel_walk_403 : decode b_BlockCodeModel_walk 403 = .ok (.return_, 1) := by decide +kernel
theorem d_BlockCodeModel_alike_0 : decode b_BlockCodeModel_alike 0 = .ok (.aload_n 0, 1) := by decide +kernel
theorem d_BlockCodeModel_alike_1 : decode b_BlockCodeModel_alike 1 = .ok (.iconst 0, 1) := by decide +kernel
theorem d_BlockCodeModel_alike_2 : decode b_BlockCodeModel_alike 2 = .ok (.putfield 137, 3) := by decide +kernel
theorem d_BlockCodeModel_alike_5 : decode b_BlockCodeModel_alike 5 = .ok (.aload_n 0, 1) := by decide +kernel
theorem d_BlockCodeModel_alike_6 : decode b_BlockCodeModel_alike 6 = .ok (.iconst 0, 1) := by decide +kernel
theorem d_BlockCodeModel_alike_7 : decode b_BlockCodeModel_alike 7 = .ok (.iload_n 1, 1) := by decide +kernel
theorem d_BlockCodeModel_alike_8 : decode b_BlockCodeModel_alike 8 = .ok (.iload_n 2, 1) := by decide +kernel
theorem d_BlockCodeModel_alike_9 : decode b_BlockCodeModel_alike 9 = .ok (.invokevirtual 151, 3) := by decide +kernel
theorem d_BlockCodeModel_alike_12 : decode b_BlockCodeModel_alike 12 = .ok (.aload_n 0, 1) := by decide +kernel
theorem d_BlockCodeModel_alike_13 : decode b_BlockCodeModel_alike 13 = .ok (.iconst 1, 1) := by decide +kernel
theorem d_BlockCodeModel_alike_14 : decode b_BlockCodeModel_alike 14 = .ok (.iload_n 1, 1) := by decide +kernel
theorem d_BlockCodeModel_alike_15 : decode b_BlockCodeModel_alike 15 = .ok (.iload_n 2, 1) := by decide +kernel
theorem d_BlockCodeModel_alike_16 : decode b_BlockCodeModel_alike 16 = .ok (.invokevirtual 151, 3) := by decide +kernel
theorem d_BlockCodeModel_alike_19 : decode b_BlockCodeModel_alike 19 = .ok (.aload_n 0, 1) := by decide +kernel
theorem d_BlockCodeModel_alike_20 : decode b_BlockCodeModel_alike 20 = .ok (.getfield 47, 3) := by decide +kernel
theorem d_BlockCodeModel_alike_23 : decode b_BlockCodeModel_alike 23 = .ok (.iconst 0, 1) := by decide +kernel
theorem d_BlockCodeModel_alike_24 : decode b_BlockCodeModel_alike 24 = .ok (.iaload, 1) := by decide +kernel
theorem d_BlockCodeModel_alike_25 : decode b_BlockCodeModel_alike 25 = .ok (.aload_n 0, 1) := by decide +kernel
theorem d_BlockCodeModel_alike_26 : decode b_BlockCodeModel_alike 26 = .ok (.getfield 47, 3) := by decide +kernel
theorem d_BlockCodeModel_alike_29 : decode b_BlockCodeModel_alike 29 = .ok (.iconst 1, 1) := by decide +kernel
theorem d_BlockCodeModel_alike_30 : decode b_BlockCodeModel_alike 30 = .ok (.iaload, 1) := by decide +kernel
theorem d_BlockCodeModel_alike_31 : decode b_BlockCodeModel_alike 31 = .ok (.if_icmp .ne 33, 3) := by decide +kernel
theorem d_BlockCodeModel_alike_34 : decode b_BlockCodeModel_alike 34 = .ok (.aload_n 0, 1) := by decide +kernel
theorem d_BlockCodeModel_alike_35 : decode b_BlockCodeModel_alike 35 = .ok (.getfield 50, 3) := by decide +kernel
theorem d_BlockCodeModel_alike_38 : decode b_BlockCodeModel_alike 38 = .ok (.iconst 0, 1) := by decide +kernel
theorem d_BlockCodeModel_alike_39 : decode b_BlockCodeModel_alike 39 = .ok (.iaload, 1) := by decide +kernel
theorem d_BlockCodeModel_alike_40 : decode b_BlockCodeModel_alike 40 = .ok (.aload_n 0, 1) := by decide +kernel
theorem d_BlockCodeModel_alike_41 : decode b_BlockCodeModel_alike 41 = .ok (.getfield 50, 3) := by decide +kernel
theorem d_BlockCodeModel_alike_44 : decode b_BlockCodeModel_alike 44 = .ok (.iconst 1, 1) := by decide +kernel
theorem d_BlockCodeModel_alike_45 : decode b_BlockCodeModel_alike 45 = .ok (.iaload, 1) := by decide +kernel
theorem d_BlockCodeModel_alike_46 : decode b_BlockCodeModel_alike 46 = .ok (.if_icmp .ne 18, 3) := by decide +kernel
theorem d_BlockCodeModel_alike_49 : decode b_BlockCodeModel_alike 49 = .ok (.aload_n 0, 1) := by decide +kernel
theorem d_BlockCodeModel_alike_50 : decode b_BlockCodeModel_alike 50 = .ok (.getfield 53, 3) := by decide +kernel
theorem d_BlockCodeModel_alike_53 : decode b_BlockCodeModel_alike 53 = .ok (.iconst 0, 1) := by decide +kernel
theorem d_BlockCodeModel_alike_54 : decode b_BlockCodeModel_alike 54 = .ok (.iaload, 1) := by decide +kernel
theorem d_BlockCodeModel_alike_55 : decode b_BlockCodeModel_alike 55 = .ok (.aload_n 0, 1) := by decide +kernel
theorem d_BlockCodeModel_alike_56 : decode b_BlockCodeModel_alike 56 = .ok (.getfield 53, 3) := by decide +kernel
theorem d_BlockCodeModel_alike_59 : decode b_BlockCodeModel_alike 59 = .ok (.iconst 1, 1) := by decide +kernel
theorem d_BlockCodeModel_alike_60 : decode b_BlockCodeModel_alike 60 = .ok (.iaload, 1) := by decide +kernel
theorem d_BlockCodeModel_alike_61 : decode b_BlockCodeModel_alike 61 = .ok (.if_icmp .eq 5, 3) := by decide +kernel
theorem d_BlockCodeModel_alike_64 : decode b_BlockCodeModel_alike 64 = .ok (.iconst 0, 1) := by decide +kernel
theorem d_BlockCodeModel_alike_65 : decode b_BlockCodeModel_alike 65 = .ok (.ireturn, 1) := by decide +kernel
theorem d_BlockCodeModel_alike_66 : decode b_BlockCodeModel_alike 66 = .ok (.iconst 0, 1) := by decide +kernel
theorem d_BlockCodeModel_alike_67 : decode b_BlockCodeModel_alike 67 = .ok (.istore_n 3, 1) := by decide +kernel
theorem d_BlockCodeModel_alike_68 : decode b_BlockCodeModel_alike 68 = .ok (.iload_n 3, 1) := by decide +kernel
theorem d_BlockCodeModel_alike_69 : decode b_BlockCodeModel_alike 69 = .ok (.iconst 2, 1) := by decide +kernel
theorem d_BlockCodeModel_alike_70 : decode b_BlockCodeModel_alike 70 = .ok (.aload_n 0, 1) := by decide +kernel
theorem d_BlockCodeModel_alike_71 : decode b_BlockCodeModel_alike 71 = .ok (.getfield 47, 3) := by decide +kernel
theorem d_BlockCodeModel_alike_74 : decode b_BlockCodeModel_alike 74 = .ok (.iconst 0, 1) := by decide +kernel
theorem d_BlockCodeModel_alike_75 : decode b_BlockCodeModel_alike 75 = .ok (.iaload, 1) := by decide +kernel
theorem d_BlockCodeModel_alike_76 : decode b_BlockCodeModel_alike 76 = .ok (.imul, 1) := by decide +kernel
theorem d_BlockCodeModel_alike_77 : decode b_BlockCodeModel_alike 77 = .ok (.if_icmp .ge 29, 3) := by decide +kernel
theorem d_BlockCodeModel_alike_80 : decode b_BlockCodeModel_alike 80 = .ok (.aload_n 0, 1) := by decide +kernel
theorem d_BlockCodeModel_alike_81 : decode b_BlockCodeModel_alike 81 = .ok (.getfield 44, 3) := by decide +kernel
theorem d_BlockCodeModel_alike_84 : decode b_BlockCodeModel_alike 84 = .ok (.iload_n 3, 1) := by decide +kernel
theorem d_BlockCodeModel_alike_85 : decode b_BlockCodeModel_alike 85 = .ok (.iaload, 1) := by decide +kernel
theorem d_BlockCodeModel_alike_86 : decode b_BlockCodeModel_alike 86 = .ok (.aload_n 0, 1) := by decide +kernel
theorem d_BlockCodeModel_alike_87 : decode b_BlockCodeModel_alike 87 = .ok (.getfield 44, 3) := by decide +kernel
theorem d_BlockCodeModel_alike_90 : decode b_BlockCodeModel_alike 90 = .ok (.bipush 40, 2) := by decide +kernel
theorem d_BlockCodeModel_alike_92 : decode b_BlockCodeModel_alike 92 = .ok (.iload_n 3, 1) := by decide +kernel
theorem d_BlockCodeModel_alike_93 : decode b_BlockCodeModel_alike 93 = .ok (.iadd, 1) := by decide +kernel
theorem d_BlockCodeModel_alike_94 : decode b_BlockCodeModel_alike 94 = .ok (.iaload, 1) := by decide +kernel
theorem d_BlockCodeModel_alike_95 : decode b_BlockCodeModel_alike 95 = .ok (.if_icmp .eq 5, 3) := by decide +kernel
theorem d_BlockCodeModel_alike_98 : decode b_BlockCodeModel_alike 98 = .ok (.iconst 0, 1) := by decide +kernel
theorem d_BlockCodeModel_alike_99 : decode b_BlockCodeModel_alike 99 = .ok (.ireturn, 1) := by decide +kernel
theorem d_BlockCodeModel_alike_100 : decode b_BlockCodeModel_alike 100 = .ok (.iinc 3 1, 3) := by decide +kernel
theorem d_BlockCodeModel_alike_103 : decode b_BlockCodeModel_alike 103 = .ok (.goto (-35), 3) := by decide +kernel
theorem d_BlockCodeModel_alike_106 : decode b_BlockCodeModel_alike 106 = .ok (.iconst 0, 1) := by decide +kernel
theorem d_BlockCodeModel_alike_107 : decode b_BlockCodeModel_alike 107 = .ok (.istore_n 3, 1) := by decide +kernel
theorem d_BlockCodeModel_alike_108 : decode b_BlockCodeModel_alike 108 = .ok (.aload_n 0, 1) := by decide +kernel
theorem d_BlockCodeModel_alike_109 : decode b_BlockCodeModel_alike 109 = .ok (.getfield 50, 3) := by decide +kernel
theorem d_BlockCodeModel_alike_112 : decode b_BlockCodeModel_alike 112 = .ok (.iconst 0, 1) := by decide +kernel
theorem d_BlockCodeModel_alike_113 : decode b_BlockCodeModel_alike 113 = .ok (.iaload, 1) := by decide +kernel
theorem d_BlockCodeModel_alike_114 : decode b_BlockCodeModel_alike 114 = .ok (.iconst 3, 1) := by decide +kernel
theorem d_BlockCodeModel_alike_115 : decode b_BlockCodeModel_alike 115 = .ok (.if_icmp .ne 13, 3) := by decide +kernel
theorem d_BlockCodeModel_alike_118 : decode b_BlockCodeModel_alike 118 = .ok (.aload_n 0, 1) := by decide +kernel
theorem d_BlockCodeModel_alike_119 : decode b_BlockCodeModel_alike 119 = .ok (.getfield 53, 3) := by decide +kernel
theorem d_BlockCodeModel_alike_122 : decode b_BlockCodeModel_alike 122 = .ok (.iconst 0, 1) := by decide +kernel
theorem d_BlockCodeModel_alike_123 : decode b_BlockCodeModel_alike 123 = .ok (.iaload, 1) := by decide +kernel
theorem d_BlockCodeModel_alike_124 : decode b_BlockCodeModel_alike 124 = .ok (.istore_n 3, 1) := by decide +kernel
theorem d_BlockCodeModel_alike_125 : decode b_BlockCodeModel_alike 125 = .ok (.goto 125, 3) := by decide +kernel
theorem d_BlockCodeModel_alike_128 : decode b_BlockCodeModel_alike 128 = .ok (.aload_n 0, 1) := by decide +kernel
theorem d_BlockCodeModel_alike_129 : decode b_BlockCodeModel_alike 129 = .ok (.getfield 53, 3) := by decide +kernel
theorem d_BlockCodeModel_alike_132 : decode b_BlockCodeModel_alike 132 = .ok (.iconst 1, 1) := by decide +kernel
theorem d_BlockCodeModel_alike_133 : decode b_BlockCodeModel_alike 133 = .ok (.iaload, 1) := by decide +kernel
theorem d_BlockCodeModel_alike_134 : decode b_BlockCodeModel_alike 134 = .ok (.aload_n 0, 1) := by decide +kernel
theorem d_BlockCodeModel_alike_135 : decode b_BlockCodeModel_alike 135 = .ok (.getfield 85, 3) := by decide +kernel
theorem d_BlockCodeModel_alike_138 : decode b_BlockCodeModel_alike 138 = .ok (.if_icmp .eq 28, 3) := by decide +kernel
theorem d_BlockCodeModel_alike_141 : decode b_BlockCodeModel_alike 141 = .ok (.aload_n 0, 1) := by decide +kernel
theorem d_BlockCodeModel_alike_142 : decode b_BlockCodeModel_alike 142 = .ok (.getfield 50, 3) := by decide +kernel
theorem d_BlockCodeModel_alike_145 : decode b_BlockCodeModel_alike 145 = .ok (.iconst 1, 1) := by decide +kernel
theorem d_BlockCodeModel_alike_146 : decode b_BlockCodeModel_alike 146 = .ok (.iaload, 1) := by decide +kernel
theorem d_BlockCodeModel_alike_147 : decode b_BlockCodeModel_alike 147 = .ok (.iconst 2, 1) := by decide +kernel
theorem d_BlockCodeModel_alike_148 : decode b_BlockCodeModel_alike 148 = .ok (.if_icmp .ne 20, 3) := by decide +kernel
theorem d_BlockCodeModel_alike_151 : decode b_BlockCodeModel_alike 151 = .ok (.aload_n 0, 1) := by decide +kernel
theorem d_BlockCodeModel_alike_152 : decode b_BlockCodeModel_alike 152 = .ok (.getfield 59, 3) := by decide +kernel
theorem d_BlockCodeModel_alike_155 : decode b_BlockCodeModel_alike 155 = .ok (.iconst 1, 1) := by decide +kernel
theorem d_BlockCodeModel_alike_156 : decode b_BlockCodeModel_alike 156 = .ok (.iaload, 1) := by decide +kernel
theorem d_BlockCodeModel_alike_157 : decode b_BlockCodeModel_alike 157 = .ok (.iconst 1, 1) := by decide +kernel
theorem d_BlockCodeModel_alike_158 : decode b_BlockCodeModel_alike 158 = .ok (.iadd, 1) := by decide +kernel
theorem d_BlockCodeModel_alike_159 : decode b_BlockCodeModel_alike 159 = .ok (.aload_n 0, 1) := by decide +kernel
theorem d_BlockCodeModel_alike_160 : decode b_BlockCodeModel_alike 160 = .ok (.getfield 85, 3) := by decide +kernel
theorem d_BlockCodeModel_alike_163 : decode b_BlockCodeModel_alike 163 = .ok (.if_icmp .ne 5, 3) := by decide +kernel
theorem d_BlockCodeModel_alike_166 : decode b_BlockCodeModel_alike 166 = .ok (.iconst 0, 1) := by decide +kernel
theorem d_BlockCodeModel_alike_167 : decode b_BlockCodeModel_alike 167 = .ok (.ireturn, 1) := by decide +kernel
theorem d_BlockCodeModel_alike_168 : decode b_BlockCodeModel_alike 168 = .ok (.aload_n 0, 1) := by decide +kernel
theorem d_BlockCodeModel_alike_169 : decode b_BlockCodeModel_alike 169 = .ok (.getfield 50, 3) := by decide +kernel
theorem d_BlockCodeModel_alike_172 : decode b_BlockCodeModel_alike 172 = .ok (.iconst 0, 1) := by decide +kernel
theorem d_BlockCodeModel_alike_173 : decode b_BlockCodeModel_alike 173 = .ok (.iaload, 1) := by decide +kernel
theorem d_BlockCodeModel_alike_174 : decode b_BlockCodeModel_alike 174 = .ok (.iconst 2, 1) := by decide +kernel
theorem d_BlockCodeModel_alike_175 : decode b_BlockCodeModel_alike 175 = .ok (.if_icmp .ne 35, 3) := by decide +kernel
theorem d_BlockCodeModel_alike_178 : decode b_BlockCodeModel_alike 178 = .ok (.aload_n 0, 1) := by decide +kernel
theorem d_BlockCodeModel_alike_179 : decode b_BlockCodeModel_alike 179 = .ok (.getfield 56, 3) := by decide +kernel
theorem d_BlockCodeModel_alike_182 : decode b_BlockCodeModel_alike 182 = .ok (.iconst 0, 1) := by decide +kernel
theorem d_BlockCodeModel_alike_183 : decode b_BlockCodeModel_alike 183 = .ok (.iaload, 1) := by decide +kernel
theorem d_BlockCodeModel_alike_184 : decode b_BlockCodeModel_alike 184 = .ok (.aload_n 0, 1) := by decide +kernel
theorem d_BlockCodeModel_alike_185 : decode b_BlockCodeModel_alike 185 = .ok (.getfield 56, 3) := by decide +kernel
theorem d_BlockCodeModel_alike_188 : decode b_BlockCodeModel_alike 188 = .ok (.iconst 1, 1) := by decide +kernel
theorem d_BlockCodeModel_alike_189 : decode b_BlockCodeModel_alike 189 = .ok (.iaload, 1) := by decide +kernel
theorem d_BlockCodeModel_alike_190 : decode b_BlockCodeModel_alike 190 = .ok (.if_icmp .ne 18, 3) := by decide +kernel
theorem d_BlockCodeModel_alike_193 : decode b_BlockCodeModel_alike 193 = .ok (.aload_n 0, 1) := by decide +kernel
theorem d_BlockCodeModel_alike_194 : decode b_BlockCodeModel_alike 194 = .ok (.getfield 59, 3) := by decide +kernel
theorem d_BlockCodeModel_alike_197 : decode b_BlockCodeModel_alike 197 = .ok (.iconst 0, 1) := by decide +kernel
theorem d_BlockCodeModel_alike_198 : decode b_BlockCodeModel_alike 198 = .ok (.iaload, 1) := by decide +kernel
theorem d_BlockCodeModel_alike_199 : decode b_BlockCodeModel_alike 199 = .ok (.aload_n 0, 1) := by decide +kernel
theorem d_BlockCodeModel_alike_200 : decode b_BlockCodeModel_alike 200 = .ok (.getfield 59, 3) := by decide +kernel
theorem d_BlockCodeModel_alike_203 : decode b_BlockCodeModel_alike 203 = .ok (.iconst 1, 1) := by decide +kernel
theorem d_BlockCodeModel_alike_204 : decode b_BlockCodeModel_alike 204 = .ok (.iaload, 1) := by decide +kernel
theorem d_BlockCodeModel_alike_205 : decode b_BlockCodeModel_alike 205 = .ok (.if_icmp .eq 5, 3) := by decide +kernel
theorem d_BlockCodeModel_alike_208 : decode b_BlockCodeModel_alike 208 = .ok (.iconst 0, 1) := by decide +kernel
theorem d_BlockCodeModel_alike_209 : decode b_BlockCodeModel_alike 209 = .ok (.ireturn, 1) := by decide +kernel
theorem d_BlockCodeModel_alike_210 : decode b_BlockCodeModel_alike 210 = .ok (.aload_n 0, 1) := by decide +kernel
theorem d_BlockCodeModel_alike_211 : decode b_BlockCodeModel_alike 211 = .ok (.getfield 26, 3) := by decide +kernel
theorem d_BlockCodeModel_alike_214 : decode b_BlockCodeModel_alike 214 = .ok (.aload_n 0, 1) := by decide +kernel
theorem d_BlockCodeModel_alike_215 : decode b_BlockCodeModel_alike 215 = .ok (.getfield 53, 3) := by decide +kernel
theorem d_BlockCodeModel_alike_218 : decode b_BlockCodeModel_alike 218 = .ok (.iconst 1, 1) := by decide +kernel
theorem d_BlockCodeModel_alike_219 : decode b_BlockCodeModel_alike 219 = .ok (.iaload, 1) := by decide +kernel
theorem d_BlockCodeModel_alike_220 : decode b_BlockCodeModel_alike 220 = .ok (.iaload, 1) := by decide +kernel
theorem d_BlockCodeModel_alike_221 : decode b_BlockCodeModel_alike 221 = .ok (.aload_n 0, 1) := by decide +kernel
theorem d_BlockCodeModel_alike_222 : decode b_BlockCodeModel_alike 222 = .ok (.getfield 50, 3) := by decide +kernel
theorem d_BlockCodeModel_alike_225 : decode b_BlockCodeModel_alike 225 = .ok (.iconst 1, 1) := by decide +kernel
theorem d_BlockCodeModel_alike_226 : decode b_BlockCodeModel_alike 226 = .ok (.iaload, 1) := by decide +kernel
theorem d_BlockCodeModel_alike_227 : decode b_BlockCodeModel_alike 227 = .ok (.iconst 2, 1) := by decide +kernel
theorem d_BlockCodeModel_alike_228 : decode b_BlockCodeModel_alike 228 = .ok (.if_icmp .ne 19, 3) := by decide +kernel
theorem d_BlockCodeModel_alike_231 : decode b_BlockCodeModel_alike 231 = .ok (.aload_n 0, 1) := by decide +kernel
theorem d_BlockCodeModel_alike_232 : decode b_BlockCodeModel_alike 232 = .ok (.getfield 26, 3) := by decide +kernel
theorem d_BlockCodeModel_alike_235 : decode b_BlockCodeModel_alike 235 = .ok (.aload_n 0, 1) := by decide +kernel
theorem d_BlockCodeModel_alike_236 : decode b_BlockCodeModel_alike 236 = .ok (.getfield 59, 3) := by decide +kernel
theorem d_BlockCodeModel_alike_239 : decode b_BlockCodeModel_alike 239 = .ok (.iconst 1, 1) := by decide +kernel
theorem d_BlockCodeModel_alike_240 : decode b_BlockCodeModel_alike 240 = .ok (.iaload, 1) := by decide +kernel
theorem d_BlockCodeModel_alike_241 : decode b_BlockCodeModel_alike 241 = .ok (.iconst 1, 1) := by decide +kernel
theorem d_BlockCodeModel_alike_242 : decode b_BlockCodeModel_alike 242 = .ok (.iadd, 1) := by decide +kernel
theorem d_BlockCodeModel_alike_243 : decode b_BlockCodeModel_alike 243 = .ok (.iaload, 1) := by decide +kernel
theorem d_BlockCodeModel_alike_244 : decode b_BlockCodeModel_alike 244 = .ok (.goto 4, 3) := by decide +kernel
theorem d_BlockCodeModel_alike_247 : decode b_BlockCodeModel_alike 247 = .ok (.iconst 0, 1) := by decide +kernel
theorem d_BlockCodeModel_alike_248 : decode b_BlockCodeModel_alike 248 = .ok (.ior, 1) := by decide +kernel
theorem d_BlockCodeModel_alike_249 : decode b_BlockCodeModel_alike 249 = .ok (.istore_n 3, 1) := by decide +kernel
theorem d_BlockCodeModel_alike_250 : decode b_BlockCodeModel_alike 250 = .ok (.iconst 0, 1) := by decide +kernel
theorem d_BlockCodeModel_alike_251 : decode b_BlockCodeModel_alike 251 = .ok (.istore 4, 2) := by decide +kernel
theorem d_BlockCodeModel_alike_253 : decode b_BlockCodeModel_alike 253 = .ok (.iload 4, 2) := by decide +kernel
theorem d_BlockCodeModel_alike_255 : decode b_BlockCodeModel_alike 255 = .ok (.iconst 5, 1) := by decide +kernel
theorem d_BlockCodeModel_alike_256 : decode b_BlockCodeModel_alike 256 = .ok (.if_icmp .ge 40, 3) := by decide +kernel
theorem d_BlockCodeModel_alike_259 : decode b_BlockCodeModel_alike 259 = .ok (.iload_n 3, 1) := by decide +kernel
theorem d_BlockCodeModel_alike_260 : decode b_BlockCodeModel_alike 260 = .ok (.iload 4, 2) := by decide +kernel
theorem d_BlockCodeModel_alike_262 : decode b_BlockCodeModel_alike 262 = .ok (.ishr, 1) := by decide +kernel
theorem d_BlockCodeModel_alike_263 : decode b_BlockCodeModel_alike 263 = .ok (.iconst 1, 1) := by decide +kernel
theorem d_BlockCodeModel_alike_264 : decode b_BlockCodeModel_alike 264 = .ok (.iand, 1) := by decide +kernel
theorem d_BlockCodeModel_alike_265 : decode b_BlockCodeModel_alike 265 = .ok (.iconst 1, 1) := by decide +kernel
theorem d_BlockCodeModel_alike_266 : decode b_BlockCodeModel_alike 266 = .ok (.if_icmp .ne 24, 3) := by decide +kernel
theorem d_BlockCodeModel_alike_269 : decode b_BlockCodeModel_alike 269 = .ok (.aload_n 0, 1) := by decide +kernel
theorem d_BlockCodeModel_alike_270 : decode b_BlockCodeModel_alike 270 = .ok (.getfield 41, 3) := by decide +kernel
theorem d_BlockCodeModel_alike_273 : decode b_BlockCodeModel_alike 273 = .ok (.iload 4, 2) := by decide +kernel
theorem d_BlockCodeModel_alike_275 : decode b_BlockCodeModel_alike 275 = .ok (.iaload, 1) := by decide +kernel
theorem d_BlockCodeModel_alike_276 : decode b_BlockCodeModel_alike 276 = .ok (.aload_n 0, 1) := by decide +kernel
theorem d_BlockCodeModel_alike_277 : decode b_BlockCodeModel_alike 277 = .ok (.getfield 41, 3) := by decide +kernel
theorem d_BlockCodeModel_alike_280 : decode b_BlockCodeModel_alike 280 = .ok (.iconst 5, 1) := by decide +kernel
theorem d_BlockCodeModel_alike_281 : decode b_BlockCodeModel_alike 281 = .ok (.iload 4, 2) := by decide +kernel
theorem d_BlockCodeModel_alike_283 : decode b_BlockCodeModel_alike 283 = .ok (.iadd, 1) := by decide +kernel
theorem d_BlockCodeModel_alike_284 : decode b_BlockCodeModel_alike 284 = .ok (.iaload, 1) := by decide +kernel
theorem d_BlockCodeModel_alike_285 : decode b_BlockCodeModel_alike 285 = .ok (.if_icmp .eq 5, 3) := by decide +kernel
theorem d_BlockCodeModel_alike_288 : decode b_BlockCodeModel_alike 288 = .ok (.iconst 0, 1) := by decide +kernel
theorem d_BlockCodeModel_alike_289 : decode b_BlockCodeModel_alike 289 = .ok (.ireturn, 1) := by decide +kernel
theorem d_BlockCodeModel_alike_290 : decode b_BlockCodeModel_alike 290 = .ok (.iinc 4 1, 3) := by decide +kernel
theorem d_BlockCodeModel_alike_293 : decode b_BlockCodeModel_alike 293 = .ok (.goto (-40), 3) := by decide +kernel
theorem d_BlockCodeModel_alike_296 : decode b_BlockCodeModel_alike 296 = .ok (.iconst 1, 1) := by decide +kernel
theorem d_BlockCodeModel_alike_297 : decode b_BlockCodeModel_alike 297 = .ok (.ireturn, 1) := by decide +kernel
theorem d_BlockCodeModel_compare_0 : decode b_BlockCodeModel_compare 0 = .ok (.aload_n 0, 1) := by decide +kernel
theorem d_BlockCodeModel_compare_1 : decode b_BlockCodeModel_compare 1 = .ok (.aload_n 0, 1) := by decide +kernel
theorem d_BlockCodeModel_compare_2 : decode b_BlockCodeModel_compare 2 = .ok (.getfield 77, 3) := by decide +kernel
theorem d_BlockCodeModel_compare_5 : decode b_BlockCodeModel_compare 5 = .ok (.ifCond .eq 7, 3) := by decide +kernel
theorem d_BlockCodeModel_compare_8 : decode b_BlockCodeModel_compare 8 = .ok (.iconst 0, 1) := by decide +kernel
theorem d_BlockCodeModel_compare_9 : decode b_BlockCodeModel_compare 9 = .ok (.goto 4, 3) := by decide +kernel
theorem d_BlockCodeModel_compare_12 : decode b_BlockCodeModel_compare 12 = .ok (.iconst 1, 1) := by decide +kernel
theorem d_BlockCodeModel_compare_13 : decode b_BlockCodeModel_compare 13 = .ok (.putfield 65, 3) := by decide +kernel
theorem d_BlockCodeModel_compare_16 : decode b_BlockCodeModel_compare 16 = .ok (.aload_n 0, 1) := by decide +kernel
theorem d_BlockCodeModel_compare_17 : decode b_BlockCodeModel_compare 17 = .ok (.getfield 77, 3) := by decide +kernel
theorem d_BlockCodeModel_compare_20 : decode b_BlockCodeModel_compare 20 = .ok (.ifCond .ne 5, 3) := by decide +kernel
theorem d_BlockCodeModel_compare_23 : decode b_BlockCodeModel_compare 23 = .ok (.iconst 0, 1) := by decide +kernel
theorem d_BlockCodeModel_compare_24 : decode b_BlockCodeModel_compare 24 = .ok (.ireturn, 1) := by decide +kernel
theorem d_BlockCodeModel_compare_25 : decode b_BlockCodeModel_compare 25 = .ok (.aload_n 0, 1) := by decide +kernel
theorem d_BlockCodeModel_compare_26 : decode b_BlockCodeModel_compare 26 = .ok (.invokevirtual 103, 3) := by decide +kernel
theorem d_BlockCodeModel_compare_29 : decode b_BlockCodeModel_compare 29 = .ok (.aload_n 0, 1) := by decide +kernel
theorem d_BlockCodeModel_compare_30 : decode b_BlockCodeModel_compare 30 = .ok (.invokevirtual 118, 3) := by decide +kernel
theorem d_BlockCodeModel_compare_33 : decode b_BlockCodeModel_compare 33 = .ok (.aload_n 0, 1) := by decide +kernel
theorem d_BlockCodeModel_compare_34 : decode b_BlockCodeModel_compare 34 = .ok (.iconst 1, 1) := by decide +kernel
theorem d_BlockCodeModel_compare_35 : decode b_BlockCodeModel_compare 35 = .ok (.invokevirtual 125, 3) := by decide +kernel
theorem d_BlockCodeModel_compare_38 : decode b_BlockCodeModel_compare 38 = .ok (.iconst 0, 1) := by decide +kernel
theorem d_BlockCodeModel_compare_39 : decode b_BlockCodeModel_compare 39 = .ok (.istore_n 1, 1) := by decide +kernel
theorem d_BlockCodeModel_compare_40 : decode b_BlockCodeModel_compare 40 = .ok (.iload_n 1, 1) := by decide +kernel
theorem d_BlockCodeModel_compare_41 : decode b_BlockCodeModel_compare 41 = .ok (.aload_n 0, 1) := by decide +kernel
theorem d_BlockCodeModel_compare_42 : decode b_BlockCodeModel_compare 42 = .ok (.getfield 85, 3) := by decide +kernel
theorem d_BlockCodeModel_compare_45 : decode b_BlockCodeModel_compare 45 = .ok (.if_icmp .ge 70, 3) := by decide +kernel
theorem d_BlockCodeModel_compare_48 : decode b_BlockCodeModel_compare 48 = .ok (.aload_n 0, 1) := by decide +kernel
theorem d_BlockCodeModel_compare_49 : decode b_BlockCodeModel_compare 49 = .ok (.getfield 29, 3) := by decide +kernel
theorem d_BlockCodeModel_compare_52 : decode b_BlockCodeModel_compare 52 = .ok (.iload_n 1, 1) := by decide +kernel
theorem d_BlockCodeModel_compare_53 : decode b_BlockCodeModel_compare 53 = .ok (.baload, 1) := by decide +kernel
theorem d_BlockCodeModel_compare_54 : decode b_BlockCodeModel_compare 54 = .ok (.ifCond .eq 55, 3) := by decide +kernel
theorem d_BlockCodeModel_compare_57 : decode b_BlockCodeModel_compare 57 = .ok (.aload_n 0, 1) := by decide +kernel
theorem d_BlockCodeModel_compare_58 : decode b_BlockCodeModel_compare 58 = .ok (.getfield 16, 3) := by decide +kernel
theorem d_BlockCodeModel_compare_61 : decode b_BlockCodeModel_compare 61 = .ok (.iload_n 1, 1) := by decide +kernel
theorem d_BlockCodeModel_compare_62 : decode b_BlockCodeModel_compare 62 = .ok (.baload, 1) := by decide +kernel
theorem d_BlockCodeModel_compare_63 : decode b_BlockCodeModel_compare 63 = .ok (.ifCond .ne 6, 3) := by decide +kernel
theorem d_BlockCodeModel_compare_66 : decode b_BlockCodeModel_compare 66 = .ok (.goto 43, 3) := by decide +kernel
theorem d_BlockCodeModel_compare_69 : decode b_BlockCodeModel_compare 69 = .ok (.iload_n 1, 1) := by decide +kernel
theorem d_BlockCodeModel_compare_70 : decode b_BlockCodeModel_compare 70 = .ok (.iconst 1, 1) := by decide +kernel
theorem d_BlockCodeModel_compare_71 : decode b_BlockCodeModel_compare 71 = .ok (.iadd, 1) := by decide +kernel
theorem d_BlockCodeModel_compare_72 : decode b_BlockCodeModel_compare 72 = .ok (.istore_n 2, 1) := by decide +kernel
theorem d_BlockCodeModel_compare_73 : decode b_BlockCodeModel_compare 73 = .ok (.iload_n 2, 1) := by decide +kernel
theorem d_BlockCodeModel_compare_74 : decode b_BlockCodeModel_compare 74 = .ok (.aload_n 0, 1) := by decide +kernel
theorem d_BlockCodeModel_compare_75 : decode b_BlockCodeModel_compare 75 = .ok (.getfield 85, 3) := by decide +kernel
theorem d_BlockCodeModel_compare_78 : decode b_BlockCodeModel_compare 78 = .ok (.if_icmp .ge 18, 3) := by decide +kernel
theorem d_BlockCodeModel_compare_81 : decode b_BlockCodeModel_compare 81 = .ok (.aload_n 0, 1) := by decide +kernel
theorem d_BlockCodeModel_compare_82 : decode b_BlockCodeModel_compare 82 = .ok (.getfield 29, 3) := by decide +kernel
theorem d_BlockCodeModel_compare_85 : decode b_BlockCodeModel_compare 85 = .ok (.iload_n 2, 1) := by decide +kernel
theorem d_BlockCodeModel_compare_86 : decode b_BlockCodeModel_compare 86 = .ok (.baload, 1) := by decide +kernel
theorem d_BlockCodeModel_compare_87 : decode b_BlockCodeModel_compare 87 = .ok (.ifCond .ne 9, 3) := by decide +kernel
theorem d_BlockCodeModel_compare_90 : decode b_BlockCodeModel_compare 90 = .ok (.iinc 2 1, 3) := by decide +kernel
theorem d_BlockCodeModel_compare_93 : decode b_BlockCodeModel_compare 93 = .ok (.goto (-20), 3) := by decide +kernel
theorem d_BlockCodeModel_compare_96 : decode b_BlockCodeModel_compare 96 = .ok (.aload_n 0, 1) := by decide +kernel
theorem d_BlockCodeModel_compare_97 : decode b_BlockCodeModel_compare 97 = .ok (.iload_n 1, 1) := by decide +kernel
theorem d_BlockCodeModel_compare_98 : decode b_BlockCodeModel_compare 98 = .ok (.iload_n 2, 1) := by decide +kernel
theorem d_BlockCodeModel_compare_99 : decode b_BlockCodeModel_compare 99 = .ok (.invokevirtual 155, 3) := by decide +kernel
theorem d_BlockCodeModel_compare_102 : decode b_BlockCodeModel_compare 102 = .ok (.ifCond .ne 7, 3) := by decide +kernel
theorem d_BlockCodeModel_compare_105 : decode b_BlockCodeModel_compare 105 = .ok (.iconst 1, 1) := by decide +kernel
theorem d_BlockCodeModel_compare_106 : decode b_BlockCodeModel_compare 106 = .ok (.iload_n 1, 1) := by decide +kernel
theorem d_BlockCodeModel_compare_107 : decode b_BlockCodeModel_compare 107 = .ok (.iadd, 1) := by decide +kernel
theorem d_BlockCodeModel_compare_108 : decode b_BlockCodeModel_compare 108 = .ok (.ireturn, 1) := by decide +kernel
theorem d_BlockCodeModel_compare_109 : decode b_BlockCodeModel_compare 109 = .ok (.iinc 1 1, 3) := by decide +kernel
theorem d_BlockCodeModel_compare_112 : decode b_BlockCodeModel_compare 112 = .ok (.goto (-72), 3) := by decide +kernel
theorem d_BlockCodeModel_compare_115 : decode b_BlockCodeModel_compare 115 = .ok (.aload_n 0, 1) := by decide +kernel
theorem d_BlockCodeModel_compare_116 : decode b_BlockCodeModel_compare 116 = .ok (.iconst 1, 1) := by decide +kernel
theorem d_BlockCodeModel_compare_117 : decode b_BlockCodeModel_compare 117 = .ok (.putfield 92, 3) := by decide +kernel
theorem d_BlockCodeModel_compare_120 : decode b_BlockCodeModel_compare 120 = .ok (.iconst 0, 1) := by decide +kernel
theorem d_BlockCodeModel_compare_121 : decode b_BlockCodeModel_compare 121 = .ok (.ireturn, 1) := by decide +kernel
theorem d_BlockCodeModel_commit_0 : decode b_BlockCodeModel_commit 0 = .ok (.aload_n 0, 1) := by decide +kernel
theorem d_BlockCodeModel_commit_1 : decode b_BlockCodeModel_commit 1 = .ok (.iconst 0, 1) := by decide +kernel
theorem d_BlockCodeModel_commit_2 : decode b_BlockCodeModel_commit 2 = .ok (.putfield 65, 3) := by decide +kernel
theorem d_BlockCodeModel_commit_5 : decode b_BlockCodeModel_commit 5 = .ok (.aload_n 0, 1) := by decide +kernel
theorem d_BlockCodeModel_commit_6 : decode b_BlockCodeModel_commit 6 = .ok (.getfield 77, 3) := by decide +kernel
theorem d_BlockCodeModel_commit_9 : decode b_BlockCodeModel_commit 9 = .ok (.ifCond .eq 32, 3) := by decide +kernel
theorem d_BlockCodeModel_commit_12 : decode b_BlockCodeModel_commit 12 = .ok (.aload_n 0, 1) := by decide +kernel
theorem d_BlockCodeModel_commit_13 : decode b_BlockCodeModel_commit 13 = .ok (.getfield 92, 3) := by decide +kernel
theorem d_BlockCodeModel_commit_16 : decode b_BlockCodeModel_commit 16 = .ok (.ifCond .eq 25, 3) := by decide +kernel
theorem d_BlockCodeModel_commit_19 : decode b_BlockCodeModel_commit 19 = .ok (.aload_n 0, 1) := by decide +kernel
theorem d_BlockCodeModel_commit_20 : decode b_BlockCodeModel_commit 20 = .ok (.getfield 7, 3) := by decide +kernel
theorem d_BlockCodeModel_commit_23 : decode b_BlockCodeModel_commit 23 = .ok (.bipush 80, 2) := by decide +kernel
theorem d_BlockCodeModel_commit_25 : decode b_BlockCodeModel_commit 25 = .ok (.iconst 4, 1) := by decide +kernel
theorem d_BlockCodeModel_commit_26 : decode b_BlockCodeModel_commit 26 = .ok (.aload_n 0, 1) := by decide +kernel
theorem d_BlockCodeModel_commit_27 : decode b_BlockCodeModel_commit 27 = .ok (.getfield 85, 3) := by decide +kernel
theorem d_BlockCodeModel_commit_30 : decode b_BlockCodeModel_commit 30 = .ok (.imul, 1) := by decide +kernel
theorem d_BlockCodeModel_commit_31 : decode b_BlockCodeModel_commit 31 = .ok (.iadd, 1) := by decide +kernel
theorem d_BlockCodeModel_commit_32 : decode b_BlockCodeModel_commit 32 = .ok (.iconst 4, 1) := by decide +kernel
theorem d_BlockCodeModel_commit_33 : decode b_BlockCodeModel_commit 33 = .ok (.isub, 1) := by decide +kernel
theorem d_BlockCodeModel_commit_34 : decode b_BlockCodeModel_commit 34 = .ok (.iaload, 1) := by decide +kernel
theorem d_BlockCodeModel_commit_35 : decode b_BlockCodeModel_commit 35 = .ok (.invokestatic 95, 3) := by decide +kernel
theorem d_BlockCodeModel_commit_38 : decode b_BlockCodeModel_commit 38 = .ok (.ifCond .ne 5, 3) := by decide +kernel
theorem d_BlockCodeModel_commit_41 : decode b_BlockCodeModel_commit 41 = .ok (.iconst 0, 1) := by decide +kernel
theorem d_BlockCodeModel_commit_42 : decode b_BlockCodeModel_commit 42 = .ok (.ireturn, 1) := by decide +kernel
theorem d_BlockCodeModel_commit_43 : decode b_BlockCodeModel_commit 43 = .ok (.aload_n 0, 1) := by decide +kernel
theorem d_BlockCodeModel_commit_44 : decode b_BlockCodeModel_commit 44 = .ok (.iconst 1, 1) := by decide +kernel
theorem d_BlockCodeModel_commit_45 : decode b_BlockCodeModel_commit 45 = .ok (.iconst 0, 1) := by decide +kernel
theorem d_BlockCodeModel_commit_46 : decode b_BlockCodeModel_commit 46 = .ok (.invokevirtual 99, 3) := by decide +kernel
theorem d_BlockCodeModel_commit_49 : decode b_BlockCodeModel_commit 49 = .ok (.aload_n 0, 1) := by decide +kernel
theorem d_BlockCodeModel_commit_50 : decode b_BlockCodeModel_commit 50 = .ok (.iconst 0, 1) := by decide +kernel
theorem d_BlockCodeModel_commit_51 : decode b_BlockCodeModel_commit 51 = .ok (.putfield 92, 3) := by decide +kernel
theorem d_BlockCodeModel_commit_54 : decode b_BlockCodeModel_commit 54 = .ok (.iconst 1, 1) := by decide +kernel
theorem d_BlockCodeModel_commit_55 : decode b_BlockCodeModel_commit 55 = .ok (.ireturn, 1) := by decide +kernel
theorem d_BlockCodeModel_input_0 : decode b_BlockCodeModel_input 0 = .ok (.aload_n 0, 1) := by decide +kernel
theorem d_BlockCodeModel_input_1 : decode b_BlockCodeModel_input 1 = .ok (.iconst 0, 1) := by decide +kernel
theorem d_BlockCodeModel_input_2 : decode b_BlockCodeModel_input 2 = .ok (.putfield 65, 3) := by decide +kernel
theorem d_BlockCodeModel_input_5 : decode b_BlockCodeModel_input 5 = .ok (.iload_n 1, 1) := by decide +kernel
theorem d_BlockCodeModel_input_6 : decode b_BlockCodeModel_input 6 = .ok (.iconst 0, 1) := by decide +kernel
theorem d_BlockCodeModel_input_7 : decode b_BlockCodeModel_input 7 = .ok (.iconst 4, 1) := by decide +kernel
theorem d_BlockCodeModel_input_8 : decode b_BlockCodeModel_input 8 = .ok (.invokestatic 69, 3) := by decide +kernel
theorem d_BlockCodeModel_input_11 : decode b_BlockCodeModel_input 11 = .ok (.ifCond .ne 5, 3) := by decide +kernel
theorem d_BlockCodeModel_input_14 : decode b_BlockCodeModel_input 14 = .ok (.iconst 0, 1) := by decide +kernel
theorem d_BlockCodeModel_input_15 : decode b_BlockCodeModel_input 15 = .ok (.ireturn, 1) := by decide +kernel
theorem d_BlockCodeModel_input_16 : decode b_BlockCodeModel_input 16 = .ok (.aload_n 0, 1) := by decide +kernel
theorem d_BlockCodeModel_input_17 : decode b_BlockCodeModel_input 17 = .ok (.getfield 13, 3) := by decide +kernel
theorem d_BlockCodeModel_input_20 : decode b_BlockCodeModel_input 20 = .ok (.iload_n 1, 1) := by decide +kernel
theorem d_BlockCodeModel_input_21 : decode b_BlockCodeModel_input 21 = .ok (.iload_n 2, 1) := by decide +kernel
theorem d_BlockCodeModel_input_22 : decode b_BlockCodeModel_input 22 = .ok (.iastore, 1) := by decide +kernel
theorem d_BlockCodeModel_input_23 : decode b_BlockCodeModel_input 23 = .ok (.iconst 1, 1) := by decide +kernel
theorem d_BlockCodeModel_input_24 : decode b_BlockCodeModel_input 24 = .ok (.ireturn, 1) := by decide +kernel
theorem d_BlockCodeModel_run_0 : decode b_BlockCodeModel_run 0 = .ok (.aload_n 0, 1) := by decide +kernel
theorem d_BlockCodeModel_run_1 : decode b_BlockCodeModel_run 1 = .ok (.iconst 0, 1) := by decide +kernel
theorem d_BlockCodeModel_run_2 : decode b_BlockCodeModel_run 2 = .ok (.putfield 65, 3) := by decide +kernel
theorem d_BlockCodeModel_run_5 : decode b_BlockCodeModel_run 5 = .ok (.aload_n 0, 1) := by decide +kernel
theorem d_BlockCodeModel_run_6 : decode b_BlockCodeModel_run 6 = .ok (.getfield 77, 3) := by decide +kernel
theorem d_BlockCodeModel_run_9 : decode b_BlockCodeModel_run 9 = .ok (.ifCond .eq 14, 3) := by decide +kernel
theorem d_BlockCodeModel_run_12 : decode b_BlockCodeModel_run 12 = .ok (.iload_n 2, 1) := by decide +kernel
theorem d_BlockCodeModel_run_13 : decode b_BlockCodeModel_run 13 = .ok (.iconst 0, 1) := by decide +kernel
theorem d_BlockCodeModel_run_14 : decode b_BlockCodeModel_run 14 = .ok (.sipush 1000, 3) := by decide +kernel
theorem d_BlockCodeModel_run_17 : decode b_BlockCodeModel_run 17 = .ok (.invokestatic 69, 3) := by decide +kernel
theorem d_BlockCodeModel_run_20 : decode b_BlockCodeModel_run 20 = .ok (.ifCond .ne 5, 3) := by decide +kernel
theorem d_BlockCodeModel_run_23 : decode b_BlockCodeModel_run 23 = .ok (.iconst (-1), 1) := by decide +kernel
theorem d_BlockCodeModel_run_24 : decode b_BlockCodeModel_run 24 = .ok (.ireturn, 1) := by decide +kernel
theorem d_BlockCodeModel_run_25 : decode b_BlockCodeModel_run 25 = .ok (.iconst 0, 1) := by decide +kernel
theorem d_BlockCodeModel_run_26 : decode b_BlockCodeModel_run 26 = .ok (.istore_n 3, 1) := by decide +kernel
theorem d_BlockCodeModel_run_27 : decode b_BlockCodeModel_run 27 = .ok (.iload_n 3, 1) := by decide +kernel
theorem d_BlockCodeModel_run_28 : decode b_BlockCodeModel_run 28 = .ok (.iconst 5, 1) := by decide +kernel
theorem d_BlockCodeModel_run_29 : decode b_BlockCodeModel_run 29 = .ok (.if_icmp .ge 21, 3) := by decide +kernel
theorem d_BlockCodeModel_run_32 : decode b_BlockCodeModel_run 32 = .ok (.aload_n 0, 1) := by decide +kernel
theorem d_BlockCodeModel_run_33 : decode b_BlockCodeModel_run 33 = .ok (.getfield 62, 3) := by decide +kernel
theorem d_BlockCodeModel_run_36 : decode b_BlockCodeModel_run 36 = .ok (.iload_n 3, 1) := by decide +kernel
theorem d_BlockCodeModel_run_37 : decode b_BlockCodeModel_run 37 = .ok (.aload_n 0, 1) := by decide +kernel
theorem d_BlockCodeModel_run_38 : decode b_BlockCodeModel_run 38 = .ok (.getfield 13, 3) := by decide +kernel
theorem d_BlockCodeModel_run_41 : decode b_BlockCodeModel_run 41 = .ok (.iload_n 3, 1) := by decide +kernel
theorem d_BlockCodeModel_run_42 : decode b_BlockCodeModel_run 42 = .ok (.iaload, 1) := by decide +kernel
theorem d_BlockCodeModel_run_43 : decode b_BlockCodeModel_run 43 = .ok (.iastore, 1) := by decide +kernel
theorem d_BlockCodeModel_run_44 : decode b_BlockCodeModel_run 44 = .ok (.iinc 3 1, 3) := by decide +kernel
theorem d_BlockCodeModel_run_47 : decode b_BlockCodeModel_run 47 = .ok (.goto (-20), 3) := by decide +kernel
theorem d_BlockCodeModel_run_50 : decode b_BlockCodeModel_run 50 = .ok (.aload_n 0, 1) := by decide +kernel
theorem d_BlockCodeModel_run_51 : decode b_BlockCodeModel_run 51 = .ok (.iconst 0, 1) := by decide +kernel
theorem d_BlockCodeModel_run_52 : decode b_BlockCodeModel_run 52 = .ok (.putfield 158, 3) := by decide +kernel
theorem d_BlockCodeModel_run_55 : decode b_BlockCodeModel_run 55 = .ok (.aload_n 0, 1) := by decide +kernel
theorem d_BlockCodeModel_run_56 : decode b_BlockCodeModel_run 56 = .ok (.iconst 0, 1) := by decide +kernel
theorem d_BlockCodeModel_run_57 : decode b_BlockCodeModel_run 57 = .ok (.putfield 161, 3) := by decide +kernel
theorem d_BlockCodeModel_run_60 : decode b_BlockCodeModel_run 60 = .ok (.iconst 0, 1) := by decide +kernel
theorem d_BlockCodeModel_run_61 : decode b_BlockCodeModel_run 61 = .ok (.istore_n 3, 1) := by decide +kernel
theorem d_BlockCodeModel_run_62 : decode b_BlockCodeModel_run 62 = .ok (.aload_n 0, 1) := by decide +kernel
theorem d_BlockCodeModel_run_63 : decode b_BlockCodeModel_run 63 = .ok (.getfield 161, 3) := by decide +kernel
theorem d_BlockCodeModel_run_66 : decode b_BlockCodeModel_run 66 = .ok (.iload_n 2, 1) := by decide +kernel
theorem d_BlockCodeModel_run_67 : decode b_BlockCodeModel_run 67 = .ok (.if_icmp .ge 222, 3) := by decide +kernel
theorem d_BlockCodeModel_run_70 : decode b_BlockCodeModel_run 70 = .ok (.bipush 80, 2) := by decide +kernel
theorem d_BlockCodeModel_run_72 : decode b_BlockCodeModel_run 72 = .ok (.iload_n 1, 1) := by decide +kernel
theorem d_BlockCodeModel_run_73 : decode b_BlockCodeModel_run 73 = .ok (.imul, 1) := by decide +kernel
theorem d_BlockCodeModel_run_74 : decode b_BlockCodeModel_run 74 = .ok (.iconst 4, 1) := by decide +kernel
theorem d_BlockCodeModel_run_75 : decode b_BlockCodeModel_run 75 = .ok (.iload_n 3, 1) := by decide +kernel
theorem d_BlockCodeModel_run_76 : decode b_BlockCodeModel_run 76 = .ok (.imul, 1) := by decide +kernel
theorem d_BlockCodeModel_run_77 : decode b_BlockCodeModel_run 77 = .ok (.iadd, 1) := by decide +kernel
theorem d_BlockCodeModel_run_78 : decode b_BlockCodeModel_run 78 = .ok (.istore 4, 2) := by decide +kernel
theorem d_BlockCodeModel_run_80 : decode b_BlockCodeModel_run 80 = .ok (.aload_n 0, 1) := by decide +kernel
theorem d_BlockCodeModel_run_81 : decode b_BlockCodeModel_run 81 = .ok (.getfield 7, 3) := by decide +kernel
theorem d_BlockCodeModel_run_84 : decode b_BlockCodeModel_run 84 = .ok (.iload 4, 2) := by decide +kernel
