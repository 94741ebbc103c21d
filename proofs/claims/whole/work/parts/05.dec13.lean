theorem d_BlockCodeModel_run_86 : decode b_BlockCodeModel_run 86 = .ok (.iaload, 1) := by decide +kernel
theorem d_BlockCodeModel_run_87 : decode b_BlockCodeModel_run 87 = .ok (.istore 5, 2) := by decide +kernel
theorem d_BlockCodeModel_run_89 : decode b_BlockCodeModel_run 89 = .ok (.aload_n 0, 1) := by decide +kernel
theorem d_BlockCodeModel_run_90 : decode b_BlockCodeModel_run 90 = .ok (.getfield 7, 3) := by decide +kernel
theorem d_BlockCodeModel_run_93 : decode b_BlockCodeModel_run 93 = .ok (.iload 4, 2) := by decide +kernel
theorem d_BlockCodeModel_run_95 : decode b_BlockCodeModel_run 95 = .ok (.iconst 1, 1) := by decide +kernel
theorem d_BlockCodeModel_run_96 : decode b_BlockCodeModel_run 96 = .ok (.iadd, 1) := by decide +kernel
theorem d_BlockCodeModel_run_97 : decode b_BlockCodeModel_run 97 = .ok (.iaload, 1) := by decide +kernel
theorem d_BlockCodeModel_run_98 : decode b_BlockCodeModel_run 98 = .ok (.istore 6, 2) := by decide +kernel
theorem d_BlockCodeModel_run_100 : decode b_BlockCodeModel_run 100 = .ok (.aload_n 0, 1) := by decide +kernel
theorem d_BlockCodeModel_run_101 : decode b_BlockCodeModel_run 101 = .ok (.getfield 7, 3) := by decide +kernel
theorem d_BlockCodeModel_run_104 : decode b_BlockCodeModel_run 104 = .ok (.iload 4, 2) := by decide +kernel
theorem d_BlockCodeModel_run_106 : decode b_BlockCodeModel_run 106 = .ok (.iconst 2, 1) := by decide +kernel
theorem d_BlockCodeModel_run_107 : decode b_BlockCodeModel_run 107 = .ok (.iadd, 1) := by decide +kernel
theorem d_BlockCodeModel_run_108 : decode b_BlockCodeModel_run 108 = .ok (.iaload, 1) := by decide +kernel
theorem d_BlockCodeModel_run_109 : decode b_BlockCodeModel_run 109 = .ok (.istore 7, 2) := by decide +kernel
theorem d_BlockCodeModel_run_111 : decode b_BlockCodeModel_run 111 = .ok (.aload_n 0, 1) := by decide +kernel
theorem d_BlockCodeModel_run_112 : decode b_BlockCodeModel_run 112 = .ok (.getfield 7, 3) := by decide +kernel
theorem d_BlockCodeModel_run_115 : decode b_BlockCodeModel_run 115 = .ok (.iload 4, 2) := by decide +kernel
theorem d_BlockCodeModel_run_117 : decode b_BlockCodeModel_run 117 = .ok (.iconst 3, 1) := by decide +kernel
theorem d_BlockCodeModel_run_118 : decode b_BlockCodeModel_run 118 = .ok (.iadd, 1) := by decide +kernel
theorem d_BlockCodeModel_run_119 : decode b_BlockCodeModel_run 119 = .ok (.iaload, 1) := by decide +kernel
theorem d_BlockCodeModel_run_120 : decode b_BlockCodeModel_run 120 = .ok (.istore 8, 2) := by decide +kernel
theorem d_BlockCodeModel_run_122 : decode b_BlockCodeModel_run 122 = .ok (.aload_n 0, 1) := by decide +kernel
theorem d_BlockCodeModel_run_123 : decode b_BlockCodeModel_run 123 = .ok (.dup, 1) := by decide +kernel
theorem d_BlockCodeModel_run_124 : decode b_BlockCodeModel_run 124 = .ok (.getfield 161, 3) := by decide +kernel
theorem d_BlockCodeModel_run_127 : decode b_BlockCodeModel_run 127 = .ok (.iconst 1, 1) := by decide +kernel
theorem d_BlockCodeModel_run_128 : decode b_BlockCodeModel_run 128 = .ok (.iadd, 1) := by decide +kernel
theorem d_BlockCodeModel_run_129 : decode b_BlockCodeModel_run 129 = .ok (.putfield 161, 3) := by decide +kernel
theorem d_BlockCodeModel_run_132 : decode b_BlockCodeModel_run 132 = .ok (.iinc 3 1, 3) := by decide +kernel
theorem d_BlockCodeModel_run_135 : decode b_BlockCodeModel_run 135 = .ok (.iload 5, 2) := by decide +kernel
theorem d_BlockCodeModel_run_137 : decode b_BlockCodeModel_run 137 = .ok (.bipush 6, 2) := by decide +kernel
theorem d_BlockCodeModel_run_139 : decode b_BlockCodeModel_run 139 = .ok (.if_icmp .ne 15, 3) := by decide +kernel
theorem d_BlockCodeModel_run_142 : decode b_BlockCodeModel_run 142 = .ok (.aload_n 0, 1) := by decide +kernel
theorem d_BlockCodeModel_run_143 : decode b_BlockCodeModel_run 143 = .ok (.getfield 62, 3) := by decide +kernel
theorem d_BlockCodeModel_run_146 : decode b_BlockCodeModel_run 146 = .ok (.iload 8, 2) := by decide +kernel
theorem d_BlockCodeModel_run_148 : decode b_BlockCodeModel_run 148 = .ok (.iaload, 1) := by decide +kernel
theorem d_BlockCodeModel_run_149 : decode b_BlockCodeModel_run 149 = .ok (.ifCond .ne 5, 3) := by decide +kernel
theorem d_BlockCodeModel_run_152 : decode b_BlockCodeModel_run 152 = .ok (.iconst 1, 1) := by decide +kernel
theorem d_BlockCodeModel_run_153 : decode b_BlockCodeModel_run 153 = .ok (.ireturn, 1) := by decide +kernel
theorem d_BlockCodeModel_run_154 : decode b_BlockCodeModel_run 154 = .ok (.iload 5, 2) := by decide +kernel
theorem d_BlockCodeModel_run_156 : decode b_BlockCodeModel_run 156 = .ok (.bipush 10, 2) := by decide +kernel
theorem d_BlockCodeModel_run_158 : decode b_BlockCodeModel_run 158 = .ok (.if_icmp .ne 16, 3) := by decide +kernel
theorem d_BlockCodeModel_run_161 : decode b_BlockCodeModel_run 161 = .ok (.aload_n 0, 1) := by decide +kernel
theorem d_BlockCodeModel_run_162 : decode b_BlockCodeModel_run 162 = .ok (.iload 7, 2) := by decide +kernel
theorem d_BlockCodeModel_run_164 : decode b_BlockCodeModel_run 164 = .ok (.putfield 164, 3) := by decide +kernel
theorem d_BlockCodeModel_run_167 : decode b_BlockCodeModel_run 167 = .ok (.aload_n 0, 1) := by decide +kernel
theorem d_BlockCodeModel_run_168 : decode b_BlockCodeModel_run 168 = .ok (.iconst 1, 1) := by decide +kernel
theorem d_BlockCodeModel_run_169 : decode b_BlockCodeModel_run 169 = .ok (.putfield 158, 3) := by decide +kernel
theorem d_BlockCodeModel_run_172 : decode b_BlockCodeModel_run 172 = .ok (.iconst 0, 1) := by decide +kernel
theorem d_BlockCodeModel_run_173 : decode b_BlockCodeModel_run 173 = .ok (.ireturn, 1) := by decide +kernel
theorem d_BlockCodeModel_run_174 : decode b_BlockCodeModel_run 174 = .ok (.iload 5, 2) := by decide +kernel
theorem d_BlockCodeModel_run_176 : decode b_BlockCodeModel_run 176 = .ok (.iconst 1, 1) := by decide +kernel
theorem d_BlockCodeModel_run_177 : decode b_BlockCodeModel_run 177 = .ok (.if_icmp .ne 12, 3) := by decide +kernel
theorem d_BlockCodeModel_run_180 : decode b_BlockCodeModel_run 180 = .ok (.aload_n 0, 1) := by decide +kernel
theorem d_BlockCodeModel_run_181 : decode b_BlockCodeModel_run 181 = .ok (.getfield 62, 3) := by decide +kernel
theorem d_BlockCodeModel_run_184 : decode b_BlockCodeModel_run 184 = .ok (.iload 6, 2) := by decide +kernel
theorem d_BlockCodeModel_run_186 : decode b_BlockCodeModel_run 186 = .ok (.iload 7, 2) := by decide +kernel
theorem d_BlockCodeModel_run_188 : decode b_BlockCodeModel_run 188 = .ok (.iastore, 1) := by decide +kernel
theorem d_BlockCodeModel_run_189 : decode b_BlockCodeModel_run 189 = .ok (.iload 5, 2) := by decide +kernel
theorem d_BlockCodeModel_run_191 : decode b_BlockCodeModel_run 191 = .ok (.iconst 2, 1) := by decide +kernel
theorem d_BlockCodeModel_run_192 : decode b_BlockCodeModel_run 192 = .ok (.if_icmp .ne 17, 3) := by decide +kernel
theorem d_BlockCodeModel_run_195 : decode b_BlockCodeModel_run 195 = .ok (.aload_n 0, 1) := by decide +kernel
theorem d_BlockCodeModel_run_196 : decode b_BlockCodeModel_run 196 = .ok (.getfield 62, 3) := by decide +kernel
theorem d_BlockCodeModel_run_199 : decode b_BlockCodeModel_run 199 = .ok (.iload 6, 2) := by decide +kernel
theorem d_BlockCodeModel_run_201 : decode b_BlockCodeModel_run 201 = .ok (.aload_n 0, 1) := by decide +kernel
theorem d_BlockCodeModel_run_202 : decode b_BlockCodeModel_run 202 = .ok (.getfield 62, 3) := by decide +kernel
theorem d_BlockCodeModel_run_205 : decode b_BlockCodeModel_run 205 = .ok (.iload 7, 2) := by decide +kernel
theorem d_BlockCodeModel_run_207 : decode b_BlockCodeModel_run 207 = .ok (.iaload, 1) := by decide +kernel
theorem d_BlockCodeModel_run_208 : decode b_BlockCodeModel_run 208 = .ok (.iastore, 1) := by decide +kernel
theorem d_BlockCodeModel_run_209 : decode b_BlockCodeModel_run 209 = .ok (.iload 5, 2) := by decide +kernel
theorem d_BlockCodeModel_run_211 : decode b_BlockCodeModel_run 211 = .ok (.iconst 3, 1) := by decide +kernel
theorem d_BlockCodeModel_run_212 : decode b_BlockCodeModel_run 212 = .ok (.bipush 7, 2) := by decide +kernel
theorem d_BlockCodeModel_run_214 : decode b_BlockCodeModel_run 214 = .ok (.invokestatic 69, 3) := by decide +kernel
theorem d_BlockCodeModel_run_217 : decode b_BlockCodeModel_run 217 = .ok (.ifCond .eq 29, 3) := by decide +kernel
theorem d_BlockCodeModel_run_220 : decode b_BlockCodeModel_run 220 = .ok (.aload_n 0, 1) := by decide +kernel
theorem d_BlockCodeModel_run_221 : decode b_BlockCodeModel_run 221 = .ok (.getfield 62, 3) := by decide +kernel
theorem d_BlockCodeModel_run_224 : decode b_BlockCodeModel_run 224 = .ok (.iload 6, 2) := by decide +kernel
theorem d_BlockCodeModel_run_226 : decode b_BlockCodeModel_run 226 = .ok (.iload 5, 2) := by decide +kernel
theorem d_BlockCodeModel_run_228 : decode b_BlockCodeModel_run 228 = .ok (.aload_n 0, 1) := by decide +kernel
theorem d_BlockCodeModel_run_229 : decode b_BlockCodeModel_run 229 = .ok (.getfield 62, 3) := by decide +kernel
theorem d_BlockCodeModel_run_232 : decode b_BlockCodeModel_run 232 = .ok (.iload 7, 2) := by decide +kernel
theorem d_BlockCodeModel_run_234 : decode b_BlockCodeModel_run 234 = .ok (.iaload, 1) := by decide +kernel
theorem d_BlockCodeModel_run_235 : decode b_BlockCodeModel_run 235 = .ok (.aload_n 0, 1) := by decide +kernel
theorem d_BlockCodeModel_run_236 : decode b_BlockCodeModel_run 236 = .ok (.getfield 62, 3) := by decide +kernel
theorem d_BlockCodeModel_run_239 : decode b_BlockCodeModel_run 239 = .ok (.iload 8, 2) := by decide +kernel
theorem d_BlockCodeModel_run_241 : decode b_BlockCodeModel_run 241 = .ok (.iaload, 1) := by decide +kernel
theorem d_BlockCodeModel_run_242 : decode b_BlockCodeModel_run 242 = .ok (.invokestatic 110, 3) := by decide +kernel
theorem d_BlockCodeModel_run_245 : decode b_BlockCodeModel_run 245 = .ok (.iastore, 1) := by decide +kernel
theorem d_BlockCodeModel_run_246 : decode b_BlockCodeModel_run 246 = .ok (.iload 5, 2) := by decide +kernel
theorem d_BlockCodeModel_run_248 : decode b_BlockCodeModel_run 248 = .ok (.bipush 8, 2) := by decide +kernel
theorem d_BlockCodeModel_run_250 : decode b_BlockCodeModel_run 250 = .ok (.if_icmp .ne 6, 3) := by decide +kernel
theorem d_BlockCodeModel_run_253 : decode b_BlockCodeModel_run 253 = .ok (.iload 7, 2) := by decide +kernel
theorem d_BlockCodeModel_run_255 : decode b_BlockCodeModel_run 255 = .ok (.istore_n 3, 1) := by decide +kernel
theorem d_BlockCodeModel_run_256 : decode b_BlockCodeModel_run 256 = .ok (.iload 5, 2) := by decide +kernel
theorem d_BlockCodeModel_run_258 : decode b_BlockCodeModel_run 258 = .ok (.bipush 9, 2) := by decide +kernel
theorem d_BlockCodeModel_run_260 : decode b_BlockCodeModel_run 260 = .ok (.if_icmp .ne 16, 3) := by decide +kernel
theorem d_BlockCodeModel_run_263 : decode b_BlockCodeModel_run 263 = .ok (.aload_n 0, 1) := by decide +kernel
theorem d_BlockCodeModel_run_264 : decode b_BlockCodeModel_run 264 = .ok (.getfield 62, 3) := by decide +kernel
theorem d_BlockCodeModel_run_267 : decode b_BlockCodeModel_run 267 = .ok (.iload 7, 2) := by decide +kernel
theorem d_BlockCodeModel_run_269 : decode b_BlockCodeModel_run 269 = .ok (.iaload, 1) := by decide +kernel
theorem d_BlockCodeModel_run_270 : decode b_BlockCodeModel_run 270 = .ok (.ifCond .eq 6, 3) := by decide +kernel
theorem d_BlockCodeModel_run_273 : decode b_BlockCodeModel_run 273 = .ok (.iload 8, 2) := by decide +kernel
theorem d_BlockCodeModel_run_275 : decode b_BlockCodeModel_run 275 = .ok (.istore_n 3, 1) := by decide +kernel
theorem d_BlockCodeModel_run_276 : decode b_BlockCodeModel_run 276 = .ok (.iload_n 3, 1) := by decide +kernel
theorem d_BlockCodeModel_run_277 : decode b_BlockCodeModel_run 277 = .ok (.aload_n 0, 1) := by decide +kernel
theorem d_BlockCodeModel_run_278 : decode b_BlockCodeModel_run 278 = .ok (.getfield 85, 3) := by decide +kernel
theorem d_BlockCodeModel_run_281 : decode b_BlockCodeModel_run 281 = .ok (.if_icmp .ne 5, 3) := by decide +kernel
theorem d_BlockCodeModel_run_284 : decode b_BlockCodeModel_run 284 = .ok (.iconst 1, 1) := by decide +kernel
theorem d_BlockCodeModel_run_285 : decode b_BlockCodeModel_run 285 = .ok (.ireturn, 1) := by decide +kernel
theorem d_BlockCodeModel_run_286 : decode b_BlockCodeModel_run 286 = .ok (.goto (-224), 3) := by decide +kernel
theorem d_BlockCodeModel_run_289 : decode b_BlockCodeModel_run 289 = .ok (.iconst 2, 1) := by decide +kernel
theorem d_BlockCodeModel_run_290 : decode b_BlockCodeModel_run 290 = .ok (.ireturn, 1) := by decide +kernel
theorem d_BlockCodeModel_runSource_0 : decode b_BlockCodeModel_runSource 0 = .ok (.aload_n 0, 1) := by decide +kernel
theorem d_BlockCodeModel_runSource_1 : decode b_BlockCodeModel_runSource 1 = .ok (.iconst 0, 1) := by decide +kernel
theorem d_BlockCodeModel_runSource_2 : decode b_BlockCodeModel_runSource 2 = .ok (.iload_n 1, 1) := by decide +kernel
theorem d_BlockCodeModel_runSource_3 : decode b_BlockCodeModel_runSource 3 = .ok (.invokevirtual 167, 3) := by decide +kernel
theorem d_BlockCodeModel_runSource_6 : decode b_BlockCodeModel_runSource 6 = .ok (.ireturn, 1) := by decide +kernel
theorem d_BlockCodeModel_runResult_0 : decode b_BlockCodeModel_runResult 0 = .ok (.aload_n 0, 1) := by decide +kernel
theorem d_BlockCodeModel_runResult_1 : decode b_BlockCodeModel_runResult 1 = .ok (.iconst 1, 1) := by decide +kernel
theorem d_BlockCodeModel_runResult_2 : decode b_BlockCodeModel_runResult 2 = .ok (.iload_n 1, 1) := by decide +kernel
theorem d_BlockCodeModel_runResult_3 : decode b_BlockCodeModel_runResult 3 = .ok (.invokevirtual 167, 3) := by decide +kernel
theorem d_BlockCodeModel_runResult_6 : decode b_BlockCodeModel_runResult 6 = .ok (.ireturn, 1) := by decide +kernel
theorem d_BlockCodeModel_told_0 : decode b_BlockCodeModel_told 0 = .ok (.aload_n 0, 1) := by decide +kernel
theorem d_BlockCodeModel_told_1 : decode b_BlockCodeModel_told 1 = .ok (.iconst 0, 1) := by decide +kernel
theorem d_BlockCodeModel_told_2 : decode b_BlockCodeModel_told 2 = .ok (.putfield 65, 3) := by decide +kernel
theorem d_BlockCodeModel_told_5 : decode b_BlockCodeModel_told 5 = .ok (.iload_n 1, 1) := by decide +kernel
theorem d_BlockCodeModel_told_6 : decode b_BlockCodeModel_told 6 = .ok (.iconst 0, 1) := by decide +kernel
theorem d_BlockCodeModel_told_7 : decode b_BlockCodeModel_told 7 = .ok (.iconst 4, 1) := by decide +kernel
theorem d_BlockCodeModel_told_8 : decode b_BlockCodeModel_told 8 = .ok (.invokestatic 69, 3) := by decide +kernel
theorem d_BlockCodeModel_told_11 : decode b_BlockCodeModel_told 11 = .ok (.ifCond .eq 31, 3) := by decide +kernel
theorem d_BlockCodeModel_told_14 : decode b_BlockCodeModel_told 14 = .ok (.aload_n 0, 1) := by decide +kernel
theorem d_BlockCodeModel_told_15 : decode b_BlockCodeModel_told 15 = .ok (.getfield 158, 3) := by decide +kernel
theorem d_BlockCodeModel_told_18 : decode b_BlockCodeModel_told 18 = .ok (.ifCond .eq 24, 3) := by decide +kernel
theorem d_BlockCodeModel_told_21 : decode b_BlockCodeModel_told 21 = .ok (.aload_n 0, 1) := by decide +kernel
theorem d_BlockCodeModel_told_22 : decode b_BlockCodeModel_told 22 = .ok (.getfield 164, 3) := by decide +kernel
theorem d_BlockCodeModel_told_25 : decode b_BlockCodeModel_told 25 = .ok (.iload_n 1, 1) := by decide +kernel
theorem d_BlockCodeModel_told_26 : decode b_BlockCodeModel_told 26 = .ok (.ishr, 1) := by decide +kernel
theorem d_BlockCodeModel_told_27 : decode b_BlockCodeModel_told 27 = .ok (.iconst 1, 1) := by decide +kernel
theorem d_BlockCodeModel_told_28 : decode b_BlockCodeModel_told 28 = .ok (.iand, 1) := by decide +kernel
theorem d_BlockCodeModel_told_29 : decode b_BlockCodeModel_told 29 = .ok (.iconst 1, 1) := by decide +kernel
theorem d_BlockCodeModel_told_30 : decode b_BlockCodeModel_told 30 = .ok (.if_icmp .ne 12, 3) := by decide +kernel
theorem d_BlockCodeModel_told_33 : decode b_BlockCodeModel_told 33 = .ok (.aload_n 0, 1) := by decide +kernel
theorem d_BlockCodeModel_told_34 : decode b_BlockCodeModel_told 34 = .ok (.getfield 62, 3) := by decide +kernel
theorem d_BlockCodeModel_told_37 : decode b_BlockCodeModel_told 37 = .ok (.iload_n 1, 1) := by decide +kernel
theorem d_BlockCodeModel_told_38 : decode b_BlockCodeModel_told 38 = .ok (.iaload, 1) := by decide +kernel
theorem d_BlockCodeModel_told_39 : decode b_BlockCodeModel_told 39 = .ok (.goto 4, 3) := by decide +kernel
theorem d_BlockCodeModel_told_42 : decode b_BlockCodeModel_told 42 = .ok (.iconst 0, 1) := by decide +kernel
theorem d_BlockCodeModel_told_43 : decode b_BlockCodeModel_told 43 = .ok (.ireturn, 1) := by decide +kernel
theorem d_BlockCodeModel_steps_0 : decode b_BlockCodeModel_steps 0 = .ok (.aload_n 0, 1) := by decide +kernel
theorem d_BlockCodeModel_steps_1 : decode b_BlockCodeModel_steps 1 = .ok (.iconst 0, 1) := by decide +kernel
theorem d_BlockCodeModel_steps_2 : decode b_BlockCodeModel_steps 2 = .ok (.putfield 65, 3) := by decide +kernel
theorem d_BlockCodeModel_steps_5 : decode b_BlockCodeModel_steps 5 = .ok (.aload_n 0, 1) := by decide +kernel
theorem d_BlockCodeModel_steps_6 : decode b_BlockCodeModel_steps 6 = .ok (.getfield 161, 3) := by decide +kernel
theorem d_BlockCodeModel_steps_9 : decode b_BlockCodeModel_steps 9 = .ok (.ireturn, 1) := by decide +kernel
theorem d_Code_init_0 : decode b_Code_init 0 = .ok (.aload_n 0, 1) := by decide +kernel
theorem d_Code_init_1 : decode b_Code_init 1 = .ok (.invokespecial 3, 3) := by decide +kernel
theorem d_Code_init_4 : decode b_Code_init 4 = .ok (.aload_n 0, 1) := by decide +kernel
theorem d_Code_init_5 : decode b_Code_init 5 = .ok (.bipush 20, 2) := by decide +kernel
theorem d_Code_init_7 : decode b_Code_init 7 = .ok (.newarray .int, 2) := by decide +kernel
theorem d_Code_init_9 : decode b_Code_init 9 = .ok (.putfield 9, 3) := by decide +kernel
theorem d_Code_init_12 : decode b_Code_init 12 = .ok (.aload_n 0, 1) := by decide +kernel
theorem d_Code_init_13 : decode b_Code_init 13 = .ok (.bipush 20, 2) := by decide +kernel
theorem d_Code_init_15 : decode b_Code_init 15 = .ok (.newarray .int, 2) := by decide +kernel
theorem d_Code_init_17 : decode b_Code_init 17 = .ok (.putfield 15, 3) := by decide +kernel
theorem d_Code_init_20 : decode b_Code_init 20 = .ok (.aload_n 0, 1) := by decide +kernel
theorem d_Code_init_21 : decode b_Code_init 21 = .ok (.bipush 20, 2) := by decide +kernel
theorem d_Code_init_23 : decode b_Code_init 23 = .ok (.newarray .int, 2) := by decide +kernel
theorem d_Code_init_25 : decode b_Code_init 25 = .ok (.putfield 18, 3) := by decide +kernel
theorem d_Code_init_28 : decode b_Code_init 28 = .ok (.aload_n 0, 1) := by decide +kernel
theorem d_Code_init_29 : decode b_Code_init 29 = .ok (.bipush 20, 2) := by decide +kernel
theorem d_Code_init_31 : decode b_Code_init 31 = .ok (.newarray .int, 2) := by decide +kernel
theorem d_Code_init_33 : decode b_Code_init 33 = .ok (.putfield 21, 3) := by decide +kernel
theorem d_Code_init_36 : decode b_Code_init 36 = .ok (.aload_n 0, 1) := by decide +kernel
theorem d_Code_init_37 : decode b_Code_init 37 = .ok (.bipush 20, 2) := by decide +kernel
theorem d_Code_init_39 : decode b_Code_init 39 = .ok (.newarray .int, 2) := by decide +kernel
theorem d_Code_init_41 : decode b_Code_init 41 = .ok (.putfield 24, 3) := by decide +kernel
theorem d_Code_init_44 : decode b_Code_init 44 = .ok (.return_, 1) := by decide +kernel
theorem d_Facts_init_0 : decode b_Facts_init 0 = .ok (.aload_n 0, 1) := by decide +kernel
theorem d_Facts_init_1 : decode b_Facts_init 1 = .ok (.invokespecial 3, 3) := by decide +kernel
theorem d_Facts_init_4 : decode b_Facts_init 4 = .ok (.aload_n 0, 1) := by decide +kernel
theorem d_Facts_init_5 : decode b_Facts_init 5 = .ok (.bipush 100, 2) := by decide +kernel
theorem d_Facts_init_7 : decode b_Facts_init 7 = .ok (.newarray .long, 2) := by decide +kernel
theorem d_Facts_init_9 : decode b_Facts_init 9 = .ok (.putfield 9, 3) := by decide +kernel
theorem d_Facts_init_12 : decode b_Facts_init 12 = .ok (.aload_n 0, 1) := by decide +kernel
theorem d_Facts_init_13 : decode b_Facts_init 13 = .ok (.iconst 5, 1) := by decide +kernel
theorem d_Facts_init_14 : decode b_Facts_init 14 = .ok (.newarray .long, 2) := by decide +kernel
theorem d_Facts_init_16 : decode b_Facts_init 16 = .ok (.putfield 15, 3) := by decide +kernel
theorem d_Facts_init_19 : decode b_Facts_init 19 = .ok (.return_, 1) := by decide +kernel
theorem d_Symbols_init_0 : decode b_Symbols_init 0 = .ok (.aload_n 0, 1) := by decide +kernel
theorem d_Symbols_init_1 : decode b_Symbols_init 1 = .ok (.invokespecial 3, 3) := by decide +kernel
theorem d_Symbols_init_4 : decode b_Symbols_init 4 = .ok (.aload_n 0, 1) := by decide +kernel
theorem d_Symbols_init_5 : decode b_Symbols_init 5 = .ok (.bipush 45, 2) := by decide +kernel
theorem d_Symbols_init_7 : decode b_Symbols_init 7 = .ok (.newarray .int, 2) := by decide +kernel
theorem d_Symbols_init_9 : decode b_Symbols_init 9 = .ok (.putfield 11, 3) := by decide +kernel
theorem d_Symbols_init_12 : decode b_Symbols_init 12 = .ok (.aload_n 0, 1) := by decide +kernel
theorem d_Symbols_init_13 : decode b_Symbols_init 13 = .ok (.bipush 45, 2) := by decide +kernel
theorem d_Symbols_init_15 : decode b_Symbols_init 15 = .ok (.newarray .int, 2) := by decide +kernel
theorem d_Symbols_init_17 : decode b_Symbols_init 17 = .ok (.putfield 15, 3) := by decide +kernel
theorem d_Symbols_init_20 : decode b_Symbols_init 20 = .ok (.aload_n 0, 1) := by decide +kernel
theorem d_Symbols_init_21 : decode b_Symbols_init 21 = .ok (.bipush 45, 2) := by decide +kernel
theorem d_Symbols_init_23 : decode b_Symbols_init 23 = .ok (.newarray .int, 2) := by decide +kernel
theorem d_Symbols_init_25 : decode b_Symbols_init 25 = .ok (.putfield 18, 3) := by decide +kernel
theorem d_Symbols_init_28 : decode b_Symbols_init 28 = .ok (.return_, 1) := by decide +kernel
theorem d_Machine_init_0 : decode b_Machine_init 0 = .ok (.aload_n 0, 1) := by decide +kernel
theorem d_Machine_init_1 : decode b_Machine_init 1 = .ok (.invokespecial 3, 3) := by decide +kernel
theorem d_Machine_init_4 : decode b_Machine_init 4 = .ok (.aload_n 0, 1) := by decide +kernel
theorem d_Machine_init_5 : decode b_Machine_init 5 = .ok (.iconst 5, 1) := by decide +kernel
theorem d_Machine_init_6 : decode b_Machine_init 6 = .ok (.newarray .int, 2) := by decide +kernel
theorem d_Machine_init_8 : decode b_Machine_init 8 = .ok (.putfield 9, 3) := by decide +kernel
theorem d_Machine_init_11 : decode b_Machine_init 11 = .ok (.aload_n 0, 1) := by decide +kernel
theorem d_Machine_init_12 : decode b_Machine_init 12 = .ok (.iconst 5, 1) := by decide +kernel
theorem d_Machine_init_13 : decode b_Machine_init 13 = .ok (.newarray .int, 2) := by decide +kernel
theorem d_Machine_init_15 : decode b_Machine_init 15 = .ok (.putfield 15, 3) := by decide +kernel
theorem d_Machine_init_18 : decode b_Machine_init 18 = .ok (.return_, 1) := by decide +kernel
theorem d_Walk_init_0 : decode b_Walk_init 0 = .ok (.aload_n 0, 1) := by decide +kernel
theorem d_Walk_init_1 : decode b_Walk_init 1 = .ok (.invokespecial 3, 3) := by decide +kernel
theorem d_Walk_init_4 : decode b_Walk_init 4 = .ok (.aload_n 0, 1) := by decide +kernel
theorem d_Walk_init_5 : decode b_Walk_init 5 = .ok (.iconst 5, 1) := by decide +kernel
theorem d_Walk_init_6 : decode b_Walk_init 6 = .ok (.newarray .int, 2) := by decide +kernel
theorem d_Walk_init_8 : decode b_Walk_init 8 = .ok (.putfield 9, 3) := by decide +kernel
theorem d_Walk_init_11 : decode b_Walk_init 11 = .ok (.aload_n 0, 1) := by decide +kernel
theorem d_Walk_init_12 : decode b_Walk_init 12 = .ok (.bipush 20, 2) := by decide +kernel
theorem d_Walk_init_14 : decode b_Walk_init 14 = .ok (.newarray .int, 2) := by decide +kernel
theorem d_Walk_init_16 : decode b_Walk_init 16 = .ok (.putfield 15, 3) := by decide +kernel
theorem d_Walk_init_19 : decode b_Walk_init 19 = .ok (.aload_n 0, 1) := by decide +kernel
theorem d_Walk_init_20 : decode b_Walk_init 20 = .ok (.bipush 20, 2) := by decide +kernel
theorem d_Walk_init_22 : decode b_Walk_init 22 = .ok (.newarray .int, 2) := by decide +kernel
theorem d_Walk_init_24 : decode b_Walk_init 24 = .ok (.putfield 18, 3) := by decide +kernel
theorem d_Walk_init_27 : decode b_Walk_init 27 = .ok (.aload_n 0, 1) := by decide +kernel
theorem d_Walk_init_28 : decode b_Walk_init 28 = .ok (.aload_n 1, 1) := by decide +kernel
theorem d_Walk_init_29 : decode b_Walk_init 29 = .ok (.putfield 21, 3) := by decide +kernel
theorem d_Walk_init_32 : decode b_Walk_init 32 = .ok (.return_, 1) := by decide +kernel
theorem d_BlockCode_init_0 : decode b_BlockCode_init 0 = .ok (.aload_n 0, 1) := by decide +kernel
theorem d_BlockCode_init_1 : decode b_BlockCode_init 1 = .ok (.invokespecial 1, 3) := by decide +kernel
theorem d_BlockCode_init_4 : decode b_BlockCode_init 4 = .ok (.aload_n 0, 1) := by decide +kernel
theorem d_BlockCode_init_5 : decode b_BlockCode_init 5 = .ok (.new 7, 3) := by decide +kernel
theorem d_BlockCode_init_8 : decode b_BlockCode_init 8 = .ok (.dup, 1) := by decide +kernel
theorem d_BlockCode_init_9 : decode b_BlockCode_init 9 = .ok (.invokespecial 9, 3) := by decide +kernel
theorem d_BlockCode_init_12 : decode b_BlockCode_init 12 = .ok (.putfield 10, 3) := by decide +kernel
theorem d_BlockCode_init_15 : decode b_BlockCode_init 15 = .ok (.aload_n 0, 1) := by decide +kernel
theorem d_BlockCode_init_16 : decode b_BlockCode_init 16 = .ok (.new 7, 3) := by decide +kernel
theorem d_BlockCode_init_19 : decode b_BlockCode_init 19 = .ok (.dup, 1) := by decide +kernel
theorem d_BlockCode_init_20 : decode b_BlockCode_init 20 = .ok (.invokespecial 9, 3) := by decide +kernel
theorem d_BlockCode_init_23 : decode b_BlockCode_init 23 = .ok (.putfield 16, 3) := by decide +kernel
theorem d_BlockCode_init_26 : decode b_BlockCode_init 26 = .ok (.aload_n 0, 1) := by decide +kernel
theorem d_BlockCode_init_27 : decode b_BlockCode_init 27 = .ok (.new 19, 3) := by decide +kernel
theorem d_BlockCode_init_30 : decode b_BlockCode_init 30 = .ok (.dup, 1) := by decide +kernel
theorem d_BlockCode_init_31 : decode b_BlockCode_init 31 = .ok (.invokespecial 21, 3) := by decide +kernel
theorem d_BlockCode_init_34 : decode b_BlockCode_init 34 = .ok (.putfield 22, 3) := by decide +kernel
theorem d_BlockCode_init_37 : decode b_BlockCode_init 37 = .ok (.aload_n 0, 1) := by decide +kernel
theorem d_BlockCode_init_38 : decode b_BlockCode_init 38 = .ok (.new 26, 3) := by decide +kernel
theorem d_BlockCode_init_41 : decode b_BlockCode_init 41 = .ok (.dup, 1) := by decide +kernel
theorem d_BlockCode_init_42 : decode b_BlockCode_init 42 = .ok (.invokespecial 28, 3) := by decide +kernel
theorem d_BlockCode_init_45 : decode b_BlockCode_init 45 = .ok (.putfield 29, 3) := by decide +kernel
theorem d_BlockCode_init_48 : decode b_BlockCode_init 48 = .ok (.aload_n 0, 1) := by decide +kernel
theorem d_BlockCode_init_49 : decode b_BlockCode_init 49 = .ok (.new 33, 3) := by decide +kernel
theorem d_BlockCode_init_52 : decode b_BlockCode_init 52 = .ok (.dup, 1) := by decide +kernel
theorem d_BlockCode_init_53 : decode b_BlockCode_init 53 = .ok (.aload_n 0, 1) := by decide +kernel
theorem d_BlockCode_init_54 : decode b_BlockCode_init 54 = .ok (.getfield 29, 3) := by decide +kernel
theorem d_BlockCode_init_57 : decode b_BlockCode_init 57 = .ok (.invokespecial 35, 3) := by decide +kernel
theorem d_BlockCode_init_60 : decode b_BlockCode_init 60 = .ok (.putfield 38, 3) := by decide +kernel
theorem d_BlockCode_init_63 : decode b_BlockCode_init 63 = .ok (.aload_n 0, 1) := by decide +kernel
theorem d_BlockCode_init_64 : decode b_BlockCode_init 64 = .ok (.new 33, 3) := by decide +kernel
theorem d_BlockCode_init_67 : decode b_BlockCode_init 67 = .ok (.dup, 1) := by decide +kernel
theorem d_BlockCode_init_68 : decode b_BlockCode_init 68 = .ok (.aload_n 0, 1) := by decide +kernel
theorem d_BlockCode_init_69 : decode b_BlockCode_init 69 = .ok (.getfield 29, 3) := by decide +kernel
theorem d_BlockCode_init_72 : decode b_BlockCode_init 72 = .ok (.invokespecial 35, 3) := by decide +kernel
theorem d_BlockCode_init_75 : decode b_BlockCode_init 75 = .ok (.putfield 42, 3) := by decide +kernel
theorem d_BlockCode_init_78 : decode b_BlockCode_init 78 = .ok (.aload_n 0, 1) := by decide +kernel
theorem d_BlockCode_init_79 : decode b_BlockCode_init 79 = .ok (.new 45, 3) := by decide +kernel
theorem d_BlockCode_init_82 : decode b_BlockCode_init 82 = .ok (.dup, 1) := by decide +kernel
theorem d_BlockCode_init_83 : decode b_BlockCode_init 83 = .ok (.invokespecial 47, 3) := by decide +kernel
theorem d_BlockCode_init_86 : decode b_BlockCode_init 86 = .ok (.putfield 48, 3) := by decide +kernel
theorem d_BlockCode_init_89 : decode b_BlockCode_init 89 = .ok (.aload_n 0, 1) := by decide +kernel
theorem d_BlockCode_init_90 : decode b_BlockCode_init 90 = .ok (.iconst 0, 1) := by decide +kernel
theorem d_BlockCode_init_91 : decode b_BlockCode_init 91 = .ok (.putfield 52, 3) := by decide +kernel
theorem d_BlockCode_init_94 : decode b_BlockCode_init 94 = .ok (.aload_n 0, 1) := by decide +kernel
theorem d_BlockCode_init_95 : decode b_BlockCode_init 95 = .ok (.iconst 0, 1) := by decide +kernel
theorem d_BlockCode_init_96 : decode b_BlockCode_init 96 = .ok (.putfield 56, 3) := by decide +kernel
theorem d_BlockCode_init_99 : decode b_BlockCode_init 99 = .ok (.return_, 1) := by decide +kernel
theorem d_BlockCodeModel_init_0 : decode b_BlockCodeModel_init 0 = .ok (.aload_n 0, 1) := by decide +kernel
theorem d_BlockCodeModel_init_1 : decode b_BlockCodeModel_init 1 = .ok (.invokespecial 1, 3) := by decide +kernel
theorem d_BlockCodeModel_init_4 : decode b_BlockCodeModel_init 4 = .ok (.aload_n 0, 1) := by decide +kernel
theorem d_BlockCodeModel_init_5 : decode b_BlockCodeModel_init 5 = .ok (.sipush 160, 3) := by decide +kernel
theorem d_BlockCodeModel_init_8 : decode b_BlockCodeModel_init 8 = .ok (.newarray .int, 2) := by decide +kernel
theorem d_BlockCodeModel_init_10 : decode b_BlockCodeModel_init 10 = .ok (.putfield 7, 3) := by decide +kernel
theorem d_BlockCodeModel_init_13 : decode b_BlockCodeModel_init 13 = .ok (.aload_n 0, 1) := by decide +kernel
theorem d_BlockCodeModel_init_14 : decode b_BlockCodeModel_init 14 = .ok (.iconst 5, 1) := by decide +kernel
theorem d_BlockCodeModel_init_15 : decode b_BlockCodeModel_init 15 = .ok (.newarray .int, 2) := by decide +kernel
theorem d_BlockCodeModel_init_17 : decode b_BlockCodeModel_init 17 = .ok (.putfield 13, 3) := by decide +kernel
theorem d_BlockCodeModel_init_20 : decode b_BlockCodeModel_init 20 = .ok (.aload_n 0, 1) := by decide +kernel
theorem d_BlockCodeModel_init_21 : decode b_BlockCodeModel_init 21 = .ok (.bipush 21, 2) := by decide +kernel
theorem d_BlockCodeModel_init_23 : decode b_BlockCodeModel_init 23 = .ok (.newarray .boolean, 2) := by decide +kernel
theorem d_BlockCodeModel_init_25 : decode b_BlockCodeModel_init 25 = .ok (.putfield 16, 3) := by decide +kernel
theorem d_BlockCodeModel_init_28 : decode b_BlockCodeModel_init 28 = .ok (.aload_n 0, 1) := by decide +kernel
theorem d_BlockCodeModel_init_29 : decode b_BlockCodeModel_init 29 = .ok (.bipush 105, 2) := by decide +kernel
theorem d_BlockCodeModel_init_31 : decode b_BlockCodeModel_init 31 = .ok (.newarray .boolean, 2) := by decide +kernel
theorem d_BlockCodeModel_init_33 : decode b_BlockCodeModel_init 33 = .ok (.putfield 20, 3) := by decide +kernel
theorem d_BlockCodeModel_init_36 : decode b_BlockCodeModel_init 36 = .ok (.aload_n 0, 1) := by decide +kernel
theorem d_BlockCodeModel_init_37 : decode b_BlockCodeModel_init 37 = .ok (.bipush 105, 2) := by decide +kernel
theorem d_BlockCodeModel_init_39 : decode b_BlockCodeModel_init 39 = .ok (.newarray .int, 2) := by decide +kernel
theorem d_BlockCodeModel_init_41 : decode b_BlockCodeModel_init 41 = .ok (.putfield 23, 3) := by decide +kernel
theorem d_BlockCodeModel_init_44 : decode b_BlockCodeModel_init 44 = .ok (.aload_n 0, 1) := by decide +kernel
theorem d_BlockCodeModel_init_45 : decode b_BlockCodeModel_init 45 = .ok (.bipush 21, 2) := by decide +kernel
theorem d_BlockCodeModel_init_47 : decode b_BlockCodeModel_init 47 = .ok (.newarray .int, 2) := by decide +kernel
theorem d_BlockCodeModel_init_49 : decode b_BlockCodeModel_init 49 = .ok (.putfield 26, 3) := by decide +kernel
theorem d_BlockCodeModel_init_52 : decode b_BlockCodeModel_init 52 = .ok (.aload_n 0, 1) := by decide +kernel
theorem d_BlockCodeModel_init_53 : decode b_BlockCodeModel_init 53 = .ok (.bipush 21, 2) := by decide +kernel
theorem d_BlockCodeModel_init_55 : decode b_BlockCodeModel_init 55 = .ok (.newarray .boolean, 2) := by decide +kernel
theorem d_BlockCodeModel_init_57 : decode b_BlockCodeModel_init 57 = .ok (.putfield 29, 3) := by decide +kernel
theorem d_BlockCodeModel_init_60 : decode b_BlockCodeModel_init 60 = .ok (.aload_n 0, 1) := by decide +kernel
theorem d_BlockCodeModel_init_61 : decode b_BlockCodeModel_init 61 = .ok (.bipush 120, 2) := by decide +kernel
theorem d_BlockCodeModel_init_63 : decode b_BlockCodeModel_init 63 = .ok (.newarray .int, 2) := by decide +kernel
theorem d_BlockCodeModel_init_65 : decode b_BlockCodeModel_init 65 = .ok (.putfield 32, 3) := by decide +kernel
theorem d_BlockCodeModel_init_68 : decode b_BlockCodeModel_init 68 = .ok (.aload_n 0, 1) := by decide +kernel
theorem d_BlockCodeModel_init_69 : decode b_BlockCodeModel_init 69 = .ok (.bipush 120, 2) := by decide +kernel
theorem d_BlockCodeModel_init_71 : decode b_BlockCodeModel_init 71 = .ok (.newarray .int, 2) := by decide +kernel
theorem d_BlockCodeModel_init_73 : decode b_BlockCodeModel_init 73 = .ok (.putfield 35, 3) := by decide +kernel
theorem d_BlockCodeModel_init_76 : decode b_BlockCodeModel_init 76 = .ok (.aload_n 0, 1) := by decide +kernel
theorem d_BlockCodeModel_init_77 : decode b_BlockCodeModel_init 77 = .ok (.bipush 120, 2) := by decide +kernel
theorem d_BlockCodeModel_init_79 : decode b_BlockCodeModel_init 79 = .ok (.newarray .int, 2) := by decide +kernel
theorem d_BlockCodeModel_init_81 : decode b_BlockCodeModel_init 81 = .ok (.putfield 38, 3) := by decide +kernel
theorem d_BlockCodeModel_init_84 : decode b_BlockCodeModel_init 84 = .ok (.aload_n 0, 1) := by decide +kernel
theorem d_BlockCodeModel_init_85 : decode b_BlockCodeModel_init 85 = .ok (.bipush 10, 2) := by decide +kernel
theorem d_BlockCodeModel_init_87 : decode b_BlockCodeModel_init 87 = .ok (.newarray .int, 2) := by decide +kernel
theorem d_BlockCodeModel_init_89 : decode b_BlockCodeModel_init 89 = .ok (.putfield 41, 3) := by decide +kernel
theorem d_BlockCodeModel_init_92 : decode b_BlockCodeModel_init 92 = .ok (.aload_n 0, 1) := by decide +kernel
theorem d_BlockCodeModel_init_93 : decode b_BlockCodeModel_init 93 = .ok (.bipush 80, 2) := by decide +kernel
theorem d_BlockCodeModel_init_95 : decode b_BlockCodeModel_init 95 = .ok (.newarray .int, 2) := by decide +kernel
theorem d_BlockCodeModel_init_97 : decode b_BlockCodeModel_init 97 = .ok (.putfield 44, 3) := by decide +kernel
theorem d_BlockCodeModel_init_100 : decode b_BlockCodeModel_init 100 = .ok (.aload_n 0, 1) := by decide +kernel
theorem d_BlockCodeModel_init_101 : decode b_BlockCodeModel_init 101 = .ok (.iconst 2, 1) := by decide +kernel
theorem d_BlockCodeModel_init_102 : decode b_BlockCodeModel_init 102 = .ok (.newarray .int, 2) := by decide +kernel
theorem d_BlockCodeModel_init_104 : decode b_BlockCodeModel_init 104 = .ok (.putfield 47, 3) := by decide +kernel
theorem d_BlockCodeModel_init_107 : decode b_BlockCodeModel_init 107 = .ok (.aload_n 0, 1) := by decide +kernel
theorem d_BlockCodeModel_init_108 : decode b_BlockCodeModel_init 108 = .ok (.iconst 2, 1) := by decide +kernel
theorem d_BlockCodeModel_init_109 : decode b_BlockCodeModel_init 109 = .ok (.newarray .int, 2) := by decide +kernel
theorem d_BlockCodeModel_init_111 : decode b_BlockCodeModel_init 111 = .ok (.putfield 50, 3) := by decide +kernel
theorem d_BlockCodeModel_init_114 : decode b_BlockCodeModel_init 114 = .ok (.aload_n 0, 1) := by decide +kernel
theorem d_BlockCodeModel_init_115 : decode b_BlockCodeModel_init 115 = .ok (.iconst 2, 1) := by decide +kernel
theorem d_BlockCodeModel_init_116 : decode b_BlockCodeModel_init 116 = .ok (.newarray .int, 2) := by decide +kernel
theorem d_BlockCodeModel_init_118 : decode b_BlockCodeModel_init 118 = .ok (.putfield 53, 3) := by decide +kernel
theorem d_BlockCodeModel_init_121 : decode b_BlockCodeModel_init 121 = .ok (.aload_n 0, 1) := by decide +kernel
theorem d_BlockCodeModel_init_122 : decode b_BlockCodeModel_init 122 = .ok (.iconst 2, 1) := by decide +kernel
theorem d_BlockCodeModel_init_123 : decode b_BlockCodeModel_init 123 = .ok (.newarray .int, 2) := by decide +kernel
theorem d_BlockCodeModel_init_125 : decode b_BlockCodeModel_init 125 = .ok (.putfield 56, 3) := by decide +kernel
theorem d_BlockCodeModel_init_128 : decode b_BlockCodeModel_init 128 = .ok (.aload_n 0, 1) := by decide +kernel
theorem d_BlockCodeModel_init_129 : decode b_BlockCodeModel_init 129 = .ok (.iconst 2, 1) := by decide +kernel
theorem d_BlockCodeModel_init_130 : decode b_BlockCodeModel_init 130 = .ok (.newarray .int, 2) := by decide +kernel
theorem d_BlockCodeModel_init_132 : decode b_BlockCodeModel_init 132 = .ok (.putfield 59, 3) := by decide +kernel
theorem d_BlockCodeModel_init_135 : decode b_BlockCodeModel_init 135 = .ok (.aload_n 0, 1) := by decide +kernel
theorem d_BlockCodeModel_init_136 : decode b_BlockCodeModel_init 136 = .ok (.iconst 5, 1) := by decide +kernel
theorem d_BlockCodeModel_init_137 : decode b_BlockCodeModel_init 137 = .ok (.newarray .int, 2) := by decide +kernel
theorem d_BlockCodeModel_init_139 : decode b_BlockCodeModel_init 139 = .ok (.putfield 62, 3) := by decide +kernel
theorem d_BlockCodeModel_init_142 : decode b_BlockCodeModel_init 142 = .ok (.return_, 1) := by decide +kernel
theorem d_BlockCodeLaw_add_0 : decode b_BlockCodeLaw_add 0 = .ok (.aload 5, 2) := by decide +kernel
theorem d_BlockCodeLaw_add_2 : decode b_BlockCodeLaw_add 2 = .ok (.iconst 0, 1) := by decide +kernel
theorem d_BlockCodeLaw_add_3 : decode b_BlockCodeLaw_add 3 = .ok (.aload_n 0, 1) := by decide +kernel
theorem d_BlockCodeLaw_add_4 : decode b_BlockCodeLaw_add 4 = .ok (.iload_n 1, 1) := by decide +kernel
theorem d_BlockCodeLaw_add_5 : decode b_BlockCodeLaw_add 5 = .ok (.iload_n 2, 1) := by decide +kernel
theorem d_BlockCodeLaw_add_6 : decode b_BlockCodeLaw_add 6 = .ok (.iload_n 3, 1) := by decide +kernel
theorem d_BlockCodeLaw_add_7 : decode b_BlockCodeLaw_add 7 = .ok (.iload 4, 2) := by decide +kernel
theorem d_BlockCodeLaw_add_9 : decode b_BlockCodeLaw_add 9 = .ok (.invokevirtual 7, 3) := by decide +kernel
theorem d_BlockCodeLaw_add_12 : decode b_BlockCodeLaw_add 12 = .ok (.i2l, 1) := by decide +kernel
theorem d_BlockCodeLaw_add_13 : decode b_BlockCodeLaw_add 13 = .ok (.lastore, 1) := by decide +kernel
theorem d_BlockCodeLaw_add_14 : decode b_BlockCodeLaw_add 14 = .ok (.goto 7, 3) := by decide +kernel
theorem d_BlockCodeLaw_add_17 : decode b_BlockCodeLaw_add 17 = .ok (.astore 6, 2) := by decide +kernel
theorem d_BlockCodeLaw_add_19 : decode b_BlockCodeLaw_add 19 = .ok (.iconst 1, 1) := by decide +kernel
theorem d_BlockCodeLaw_add_20 : decode b_BlockCodeLaw_add 20 = .ok (.ireturn, 1) := by decide +kernel
theorem d_BlockCodeLaw_add_21 : decode b_BlockCodeLaw_add 21 = .ok (.iconst 0, 1) := by decide +kernel
theorem d_BlockCodeLaw_add_22 : decode b_BlockCodeLaw_add 22 = .ok (.ireturn, 1) := by decide +kernel
theorem d_BlockCodeLaw_seal_0 : decode b_BlockCodeLaw_seal 0 = .ok (.aload_n 1, 1) := by decide +kernel
theorem d_BlockCodeLaw_seal_1 : decode b_BlockCodeLaw_seal 1 = .ok (.iconst 0, 1) := by decide +kernel
theorem d_BlockCodeLaw_seal_2 : decode b_BlockCodeLaw_seal 2 = .ok (.aload_n 0, 1) := by decide +kernel
theorem d_BlockCodeLaw_seal_3 : decode b_BlockCodeLaw_seal 3 = .ok (.invokevirtual 15, 3) := by decide +kernel
theorem d_BlockCodeLaw_seal_6 : decode b_BlockCodeLaw_seal 6 = .ok (.i2l, 1) := by decide +kernel
theorem d_BlockCodeLaw_seal_7 : decode b_BlockCodeLaw_seal 7 = .ok (.lastore, 1) := by decide +kernel
theorem d_BlockCodeLaw_seal_8 : decode b_BlockCodeLaw_seal 8 = .ok (.goto 6, 3) := by decide +kernel
theorem d_BlockCodeLaw_seal_11 : decode b_BlockCodeLaw_seal 11 = .ok (.astore_n 2, 1) := by decide +kernel
theorem d_BlockCodeLaw_seal_12 : decode b_BlockCodeLaw_seal 12 = .ok (.iconst 1, 1) := by decide +kernel
theorem d_BlockCodeLaw_seal_13 : decode b_BlockCodeLaw_seal 13 = .ok (.ireturn, 1) := by decide +kernel
theorem d_BlockCodeLaw_seal_14 : decode b_BlockCodeLaw_seal 14 = .ok (.iconst 0, 1) := by decide +kernel
theorem d_BlockCodeLaw_seal_15 : decode b_BlockCodeLaw_seal 15 = .ok (.ireturn, 1) := by decide +kernel
theorem d_BlockCodeLaw_constants_0 : decode b_BlockCodeLaw_constants 0 = .ok (.aload_n 1, 1) := by decide +kernel
theorem d_BlockCodeLaw_constants_1 : decode b_BlockCodeLaw_constants 1 = .ok (.iconst 0, 1) := by decide +kernel
theorem d_BlockCodeLaw_constants_2 : decode b_BlockCodeLaw_constants 2 = .ok (.aload_n 0, 1) := by decide +kernel
theorem d_BlockCodeLaw_constants_3 : decode b_BlockCodeLaw_constants 3 = .ok (.invokevirtual 19, 3) := by decide +kernel
theorem d_BlockCodeLaw_constants_6 : decode b_BlockCodeLaw_constants 6 = .ok (.i2l, 1) := by decide +kernel
theorem d_BlockCodeLaw_constants_7 : decode b_BlockCodeLaw_constants 7 = .ok (.lastore, 1) := by decide +kernel
theorem d_BlockCodeLaw_constants_8 : decode b_BlockCodeLaw_constants 8 = .ok (.goto 6, 3) := by decide +kernel
theorem d_BlockCodeLaw_constants_11 : decode b_BlockCodeLaw_constants 11 = .ok (.astore_n 2, 1) := by decide +kernel
theorem d_BlockCodeLaw_constants_12 : decode b_BlockCodeLaw_constants 12 = .ok (.iconst 1, 1) := by decide +kernel
theorem d_BlockCodeLaw_constants_13 : decode b_BlockCodeLaw_constants 13 = .ok (.ireturn, 1) := by decide +kernel
theorem d_BlockCodeLaw_constants_14 : decode b_BlockCodeLaw_constants 14 = .ok (.iconst 0, 1) := by decide +kernel
theorem d_BlockCodeLaw_constants_15 : decode b_BlockCodeLaw_constants 15 = .ok (.ireturn, 1) := by decide +kernel
theorem d_BlockCodeLaw_repeats_0 : decode b_BlockCodeLaw_repeats 0 = .ok (.aload_n 1, 1) := by decide +kernel
theorem d_BlockCodeLaw_repeats_1 : decode b_BlockCodeLaw_repeats 1 = .ok (.iconst 0, 1) := by decide +kernel
theorem d_BlockCodeLaw_repeats_2 : decode b_BlockCodeLaw_repeats 2 = .ok (.aload_n 0, 1) := by decide +kernel
theorem d_BlockCodeLaw_repeats_3 : decode b_BlockCodeLaw_repeats 3 = .ok (.invokevirtual 22, 3) := by decide +kernel
