theorem d_BlockCodeModel_constants_74 : decode b_BlockCodeModel_constants 74 = .ok (.bipush 9, 2) := by decide +kernel
theorem d_BlockCodeModel_constants_76 : decode b_BlockCodeModel_constants 76 = .ok (.invokestatic 69, 3) := by decide +kernel
theorem d_BlockCodeModel_constants_79 : decode b_BlockCodeModel_constants 79 = .ok (.ifCond .eq 181, 3) := by decide +kernel
theorem d_BlockCodeModel_constants_82 : decode b_BlockCodeModel_constants 82 = .ok (.iload_n 2, 1) := by decide +kernel
theorem d_BlockCodeModel_constants_83 : decode b_BlockCodeModel_constants 83 = .ok (.bipush 8, 2) := by decide +kernel
theorem d_BlockCodeModel_constants_85 : decode b_BlockCodeModel_constants 85 = .ok (.if_icmp .eq 175, 3) := by decide +kernel
theorem d_BlockCodeModel_constants_88 : decode b_BlockCodeModel_constants 88 = .ok (.aload_n 0, 1) := by decide +kernel
theorem d_BlockCodeModel_constants_89 : decode b_BlockCodeModel_constants 89 = .ok (.getfield 20, 3) := by decide +kernel
theorem d_BlockCodeModel_constants_92 : decode b_BlockCodeModel_constants 92 = .ok (.iload_n 3, 1) := by decide +kernel
theorem d_BlockCodeModel_constants_93 : decode b_BlockCodeModel_constants 93 = .ok (.baload, 1) := by decide +kernel
theorem d_BlockCodeModel_constants_94 : decode b_BlockCodeModel_constants 94 = .ok (.ifCond .ne 6, 3) := by decide +kernel
theorem d_BlockCodeModel_constants_97 : decode b_BlockCodeModel_constants 97 = .ok (.goto 163, 3) := by decide +kernel
theorem d_BlockCodeModel_constants_100 : decode b_BlockCodeModel_constants 100 = .ok (.iload_n 2, 1) := by decide +kernel
theorem d_BlockCodeModel_constants_101 : decode b_BlockCodeModel_constants 101 = .ok (.bipush 9, 2) := by decide +kernel
theorem d_BlockCodeModel_constants_103 : decode b_BlockCodeModel_constants 103 = .ok (.if_icmp .ne 56, 3) := by decide +kernel
theorem d_BlockCodeModel_constants_106 : decode b_BlockCodeModel_constants 106 = .ok (.aload_n 0, 1) := by decide +kernel
theorem d_BlockCodeModel_constants_107 : decode b_BlockCodeModel_constants 107 = .ok (.getfield 23, 3) := by decide +kernel
theorem d_BlockCodeModel_constants_110 : decode b_BlockCodeModel_constants 110 = .ok (.iload_n 3, 1) := by decide +kernel
theorem d_BlockCodeModel_constants_111 : decode b_BlockCodeModel_constants 111 = .ok (.iaload, 1) := by decide +kernel
theorem d_BlockCodeModel_constants_112 : decode b_BlockCodeModel_constants 112 = .ok (.ifCond .eq 30, 3) := by decide +kernel
theorem d_BlockCodeModel_constants_115 : decode b_BlockCodeModel_constants 115 = .ok (.aload_n 0, 1) := by decide +kernel
theorem d_BlockCodeModel_constants_116 : decode b_BlockCodeModel_constants 116 = .ok (.bipush 80, 2) := by decide +kernel
theorem d_BlockCodeModel_constants_118 : decode b_BlockCodeModel_constants 118 = .ok (.iconst 4, 1) := by decide +kernel
theorem d_BlockCodeModel_constants_119 : decode b_BlockCodeModel_constants 119 = .ok (.iload_n 1, 1) := by decide +kernel
theorem d_BlockCodeModel_constants_120 : decode b_BlockCodeModel_constants 120 = .ok (.imul, 1) := by decide +kernel
theorem d_BlockCodeModel_constants_121 : decode b_BlockCodeModel_constants 121 = .ok (.iadd, 1) := by decide +kernel
theorem d_BlockCodeModel_constants_122 : decode b_BlockCodeModel_constants 122 = .ok (.bipush 8, 2) := by decide +kernel
theorem d_BlockCodeModel_constants_124 : decode b_BlockCodeModel_constants 124 = .ok (.iconst 0, 1) := by decide +kernel
theorem d_BlockCodeModel_constants_125 : decode b_BlockCodeModel_constants 125 = .ok (.aload_n 0, 1) := by decide +kernel
theorem d_BlockCodeModel_constants_126 : decode b_BlockCodeModel_constants 126 = .ok (.getfield 7, 3) := by decide +kernel
theorem d_BlockCodeModel_constants_129 : decode b_BlockCodeModel_constants 129 = .ok (.iconst 4, 1) := by decide +kernel
theorem d_BlockCodeModel_constants_130 : decode b_BlockCodeModel_constants 130 = .ok (.iload_n 1, 1) := by decide +kernel
theorem d_BlockCodeModel_constants_131 : decode b_BlockCodeModel_constants 131 = .ok (.imul, 1) := by decide +kernel
theorem d_BlockCodeModel_constants_132 : decode b_BlockCodeModel_constants 132 = .ok (.iconst 3, 1) := by decide +kernel
theorem d_BlockCodeModel_constants_133 : decode b_BlockCodeModel_constants 133 = .ok (.iadd, 1) := by decide +kernel
theorem d_BlockCodeModel_constants_134 : decode b_BlockCodeModel_constants 134 = .ok (.iaload, 1) := by decide +kernel
theorem d_BlockCodeModel_constants_135 : decode b_BlockCodeModel_constants 135 = .ok (.iconst 0, 1) := by decide +kernel
theorem d_BlockCodeModel_constants_136 : decode b_BlockCodeModel_constants 136 = .ok (.invokevirtual 88, 3) := by decide +kernel
theorem d_BlockCodeModel_constants_139 : decode b_BlockCodeModel_constants 139 = .ok (.goto 121, 3) := by decide +kernel
theorem d_BlockCodeModel_constants_142 : decode b_BlockCodeModel_constants 142 = .ok (.aload_n 0, 1) := by decide +kernel
theorem d_BlockCodeModel_constants_143 : decode b_BlockCodeModel_constants 143 = .ok (.bipush 80, 2) := by decide +kernel
theorem d_BlockCodeModel_constants_145 : decode b_BlockCodeModel_constants 145 = .ok (.iconst 4, 1) := by decide +kernel
theorem d_BlockCodeModel_constants_146 : decode b_BlockCodeModel_constants 146 = .ok (.iload_n 1, 1) := by decide +kernel
theorem d_BlockCodeModel_constants_147 : decode b_BlockCodeModel_constants 147 = .ok (.imul, 1) := by decide +kernel
theorem d_BlockCodeModel_constants_148 : decode b_BlockCodeModel_constants 148 = .ok (.iadd, 1) := by decide +kernel
theorem d_BlockCodeModel_constants_149 : decode b_BlockCodeModel_constants 149 = .ok (.iconst 0, 1) := by decide +kernel
theorem d_BlockCodeModel_constants_150 : decode b_BlockCodeModel_constants 150 = .ok (.iconst 0, 1) := by decide +kernel
theorem d_BlockCodeModel_constants_151 : decode b_BlockCodeModel_constants 151 = .ok (.iconst 0, 1) := by decide +kernel
theorem d_BlockCodeModel_constants_152 : decode b_BlockCodeModel_constants 152 = .ok (.iconst 0, 1) := by decide +kernel
theorem d_BlockCodeModel_constants_153 : decode b_BlockCodeModel_constants 153 = .ok (.invokevirtual 88, 3) := by decide +kernel
theorem d_BlockCodeModel_constants_156 : decode b_BlockCodeModel_constants 156 = .ok (.goto 104, 3) := by decide +kernel
theorem d_BlockCodeModel_constants_159 : decode b_BlockCodeModel_constants 159 = .ok (.iload_n 2, 1) := by decide +kernel
theorem d_BlockCodeModel_constants_160 : decode b_BlockCodeModel_constants 160 = .ok (.iconst 2, 1) := by decide +kernel
theorem d_BlockCodeModel_constants_161 : decode b_BlockCodeModel_constants 161 = .ok (.if_icmp .ne 34, 3) := by decide +kernel
theorem d_BlockCodeModel_constants_164 : decode b_BlockCodeModel_constants 164 = .ok (.aload_n 0, 1) := by decide +kernel
theorem d_BlockCodeModel_constants_165 : decode b_BlockCodeModel_constants 165 = .ok (.bipush 80, 2) := by decide +kernel
theorem d_BlockCodeModel_constants_167 : decode b_BlockCodeModel_constants 167 = .ok (.iconst 4, 1) := by decide +kernel
theorem d_BlockCodeModel_constants_168 : decode b_BlockCodeModel_constants 168 = .ok (.iload_n 1, 1) := by decide +kernel
theorem d_BlockCodeModel_constants_169 : decode b_BlockCodeModel_constants 169 = .ok (.imul, 1) := by decide +kernel
theorem d_BlockCodeModel_constants_170 : decode b_BlockCodeModel_constants 170 = .ok (.iadd, 1) := by decide +kernel
theorem d_BlockCodeModel_constants_171 : decode b_BlockCodeModel_constants 171 = .ok (.iconst 1, 1) := by decide +kernel
theorem d_BlockCodeModel_constants_172 : decode b_BlockCodeModel_constants 172 = .ok (.aload_n 0, 1) := by decide +kernel
theorem d_BlockCodeModel_constants_173 : decode b_BlockCodeModel_constants 173 = .ok (.getfield 7, 3) := by decide +kernel
theorem d_BlockCodeModel_constants_176 : decode b_BlockCodeModel_constants 176 = .ok (.iconst 4, 1) := by decide +kernel
theorem d_BlockCodeModel_constants_177 : decode b_BlockCodeModel_constants 177 = .ok (.iload_n 1, 1) := by decide +kernel
theorem d_BlockCodeModel_constants_178 : decode b_BlockCodeModel_constants 178 = .ok (.imul, 1) := by decide +kernel
theorem d_BlockCodeModel_constants_179 : decode b_BlockCodeModel_constants 179 = .ok (.iconst 1, 1) := by decide +kernel
theorem d_BlockCodeModel_constants_180 : decode b_BlockCodeModel_constants 180 = .ok (.iadd, 1) := by decide +kernel
theorem d_BlockCodeModel_constants_181 : decode b_BlockCodeModel_constants 181 = .ok (.iaload, 1) := by decide +kernel
theorem d_BlockCodeModel_constants_182 : decode b_BlockCodeModel_constants 182 = .ok (.aload_n 0, 1) := by decide +kernel
theorem d_BlockCodeModel_constants_183 : decode b_BlockCodeModel_constants 183 = .ok (.getfield 23, 3) := by decide +kernel
theorem d_BlockCodeModel_constants_186 : decode b_BlockCodeModel_constants 186 = .ok (.iload_n 3, 1) := by decide +kernel
theorem d_BlockCodeModel_constants_187 : decode b_BlockCodeModel_constants 187 = .ok (.iaload, 1) := by decide +kernel
theorem d_BlockCodeModel_constants_188 : decode b_BlockCodeModel_constants 188 = .ok (.iconst 0, 1) := by decide +kernel
theorem d_BlockCodeModel_constants_189 : decode b_BlockCodeModel_constants 189 = .ok (.invokevirtual 88, 3) := by decide +kernel
theorem d_BlockCodeModel_constants_192 : decode b_BlockCodeModel_constants 192 = .ok (.goto 68, 3) := by decide +kernel
theorem d_BlockCodeModel_constants_195 : decode b_BlockCodeModel_constants 195 = .ok (.aload_n 0, 1) := by decide +kernel
theorem d_BlockCodeModel_constants_196 : decode b_BlockCodeModel_constants 196 = .ok (.getfield 20, 3) := by decide +kernel
theorem d_BlockCodeModel_constants_199 : decode b_BlockCodeModel_constants 199 = .ok (.iload 4, 2) := by decide +kernel
theorem d_BlockCodeModel_constants_201 : decode b_BlockCodeModel_constants 201 = .ok (.baload, 1) := by decide +kernel
theorem d_BlockCodeModel_constants_202 : decode b_BlockCodeModel_constants 202 = .ok (.ifCond .eq 58, 3) := by decide +kernel
theorem d_BlockCodeModel_constants_205 : decode b_BlockCodeModel_constants 205 = .ok (.iload_n 2, 1) := by decide +kernel
theorem d_BlockCodeModel_constants_206 : decode b_BlockCodeModel_constants 206 = .ok (.bipush 6, 2) := by decide +kernel
theorem d_BlockCodeModel_constants_208 : decode b_BlockCodeModel_constants 208 = .ok (.if_icmp .ne 13, 3) := by decide +kernel
theorem d_BlockCodeModel_constants_211 : decode b_BlockCodeModel_constants 211 = .ok (.aload_n 0, 1) := by decide +kernel
theorem d_BlockCodeModel_constants_212 : decode b_BlockCodeModel_constants 212 = .ok (.getfield 23, 3) := by decide +kernel
theorem d_BlockCodeModel_constants_215 : decode b_BlockCodeModel_constants 215 = .ok (.iload 4, 2) := by decide +kernel
theorem d_BlockCodeModel_constants_217 : decode b_BlockCodeModel_constants 217 = .ok (.iaload, 1) := by decide +kernel
theorem d_BlockCodeModel_constants_218 : decode b_BlockCodeModel_constants 218 = .ok (.ifCond .eq 42, 3) := by decide +kernel
theorem d_BlockCodeModel_constants_221 : decode b_BlockCodeModel_constants 221 = .ok (.aload_n 0, 1) := by decide +kernel
theorem d_BlockCodeModel_constants_222 : decode b_BlockCodeModel_constants 222 = .ok (.bipush 80, 2) := by decide +kernel
theorem d_BlockCodeModel_constants_224 : decode b_BlockCodeModel_constants 224 = .ok (.iconst 4, 1) := by decide +kernel
theorem d_BlockCodeModel_constants_225 : decode b_BlockCodeModel_constants 225 = .ok (.iload_n 1, 1) := by decide +kernel
theorem d_BlockCodeModel_constants_226 : decode b_BlockCodeModel_constants 226 = .ok (.imul, 1) := by decide +kernel
theorem d_BlockCodeModel_constants_227 : decode b_BlockCodeModel_constants 227 = .ok (.iadd, 1) := by decide +kernel
theorem d_BlockCodeModel_constants_228 : decode b_BlockCodeModel_constants 228 = .ok (.iconst 1, 1) := by decide +kernel
theorem d_BlockCodeModel_constants_229 : decode b_BlockCodeModel_constants 229 = .ok (.aload_n 0, 1) := by decide +kernel
theorem d_BlockCodeModel_constants_230 : decode b_BlockCodeModel_constants 230 = .ok (.getfield 7, 3) := by decide +kernel
theorem d_BlockCodeModel_constants_233 : decode b_BlockCodeModel_constants 233 = .ok (.iconst 4, 1) := by decide +kernel
theorem d_BlockCodeModel_constants_234 : decode b_BlockCodeModel_constants 234 = .ok (.iload_n 1, 1) := by decide +kernel
theorem d_BlockCodeModel_constants_235 : decode b_BlockCodeModel_constants 235 = .ok (.imul, 1) := by decide +kernel
theorem d_BlockCodeModel_constants_236 : decode b_BlockCodeModel_constants 236 = .ok (.iconst 1, 1) := by decide +kernel
theorem d_BlockCodeModel_constants_237 : decode b_BlockCodeModel_constants 237 = .ok (.iadd, 1) := by decide +kernel
theorem d_BlockCodeModel_constants_238 : decode b_BlockCodeModel_constants 238 = .ok (.iaload, 1) := by decide +kernel
theorem d_BlockCodeModel_constants_239 : decode b_BlockCodeModel_constants 239 = .ok (.iload_n 2, 1) := by decide +kernel
theorem d_BlockCodeModel_constants_240 : decode b_BlockCodeModel_constants 240 = .ok (.aload_n 0, 1) := by decide +kernel
theorem d_BlockCodeModel_constants_241 : decode b_BlockCodeModel_constants 241 = .ok (.getfield 23, 3) := by decide +kernel
theorem d_BlockCodeModel_constants_244 : decode b_BlockCodeModel_constants 244 = .ok (.iload_n 3, 1) := by decide +kernel
theorem d_BlockCodeModel_constants_245 : decode b_BlockCodeModel_constants 245 = .ok (.iaload, 1) := by decide +kernel
theorem d_BlockCodeModel_constants_246 : decode b_BlockCodeModel_constants 246 = .ok (.aload_n 0, 1) := by decide +kernel
theorem d_BlockCodeModel_constants_247 : decode b_BlockCodeModel_constants 247 = .ok (.getfield 23, 3) := by decide +kernel
theorem d_BlockCodeModel_constants_250 : decode b_BlockCodeModel_constants 250 = .ok (.iload 4, 2) := by decide +kernel
theorem d_BlockCodeModel_constants_252 : decode b_BlockCodeModel_constants 252 = .ok (.iaload, 1) := by decide +kernel
theorem d_BlockCodeModel_constants_253 : decode b_BlockCodeModel_constants 253 = .ok (.invokestatic 110, 3) := by decide +kernel
theorem d_BlockCodeModel_constants_256 : decode b_BlockCodeModel_constants 256 = .ok (.iconst 0, 1) := by decide +kernel
theorem d_BlockCodeModel_constants_257 : decode b_BlockCodeModel_constants 257 = .ok (.invokevirtual 88, 3) := by decide +kernel
theorem d_BlockCodeModel_constants_260 : decode b_BlockCodeModel_constants 260 = .ok (.iinc 1 1, 3) := by decide +kernel
theorem d_BlockCodeModel_constants_263 : decode b_BlockCodeModel_constants 263 = .ok (.goto (-248), 3) := by decide +kernel
theorem d_BlockCodeModel_constants_266 : decode b_BlockCodeModel_constants 266 = .ok (.aload_n 0, 1) := by decide +kernel
theorem d_BlockCodeModel_constants_267 : decode b_BlockCodeModel_constants 267 = .ok (.invokevirtual 133, 3) := by decide +kernel
theorem d_BlockCodeModel_constants_270 : decode b_BlockCodeModel_constants 270 = .ok (.ireturn, 1) := by decide +kernel
theorem d_BlockCodeModel_symbolOf_0 : decode b_BlockCodeModel_symbolOf 0 = .ok (.iconst 0, 1) := by decide +kernel
theorem d_BlockCodeModel_symbolOf_1 : decode b_BlockCodeModel_symbolOf 1 = .ok (.istore 4, 2) := by decide +kernel
theorem d_BlockCodeModel_symbolOf_3 : decode b_BlockCodeModel_symbolOf 3 = .ok (.iload 4, 2) := by decide +kernel
theorem d_BlockCodeModel_symbolOf_5 : decode b_BlockCodeModel_symbolOf 5 = .ok (.aload_n 0, 1) := by decide +kernel
theorem d_BlockCodeModel_symbolOf_6 : decode b_BlockCodeModel_symbolOf 6 = .ok (.getfield 137, 3) := by decide +kernel
theorem d_BlockCodeModel_symbolOf_9 : decode b_BlockCodeModel_symbolOf 9 = .ok (.if_icmp .ge 45, 3) := by decide +kernel
theorem d_BlockCodeModel_symbolOf_12 : decode b_BlockCodeModel_symbolOf 12 = .ok (.aload_n 0, 1) := by decide +kernel
theorem d_BlockCodeModel_symbolOf_13 : decode b_BlockCodeModel_symbolOf 13 = .ok (.getfield 32, 3) := by decide +kernel
theorem d_BlockCodeModel_symbolOf_16 : decode b_BlockCodeModel_symbolOf 16 = .ok (.iload 4, 2) := by decide +kernel
theorem d_BlockCodeModel_symbolOf_18 : decode b_BlockCodeModel_symbolOf 18 = .ok (.iaload, 1) := by decide +kernel
theorem d_BlockCodeModel_symbolOf_19 : decode b_BlockCodeModel_symbolOf 19 = .ok (.iload_n 1, 1) := by decide +kernel
theorem d_BlockCodeModel_symbolOf_20 : decode b_BlockCodeModel_symbolOf 20 = .ok (.if_icmp .ne 28, 3) := by decide +kernel
theorem d_BlockCodeModel_symbolOf_23 : decode b_BlockCodeModel_symbolOf 23 = .ok (.aload_n 0, 1) := by decide +kernel
theorem d_BlockCodeModel_symbolOf_24 : decode b_BlockCodeModel_symbolOf 24 = .ok (.getfield 35, 3) := by decide +kernel
theorem d_BlockCodeModel_symbolOf_27 : decode b_BlockCodeModel_symbolOf 27 = .ok (.iload 4, 2) := by decide +kernel
theorem d_BlockCodeModel_symbolOf_29 : decode b_BlockCodeModel_symbolOf 29 = .ok (.iaload, 1) := by decide +kernel
theorem d_BlockCodeModel_symbolOf_30 : decode b_BlockCodeModel_symbolOf 30 = .ok (.iload_n 2, 1) := by decide +kernel
theorem d_BlockCodeModel_symbolOf_31 : decode b_BlockCodeModel_symbolOf 31 = .ok (.if_icmp .ne 17, 3) := by decide +kernel
theorem d_BlockCodeModel_symbolOf_34 : decode b_BlockCodeModel_symbolOf 34 = .ok (.aload_n 0, 1) := by decide +kernel
theorem d_BlockCodeModel_symbolOf_35 : decode b_BlockCodeModel_symbolOf 35 = .ok (.getfield 38, 3) := by decide +kernel
theorem d_BlockCodeModel_symbolOf_38 : decode b_BlockCodeModel_symbolOf 38 = .ok (.iload 4, 2) := by decide +kernel
theorem d_BlockCodeModel_symbolOf_40 : decode b_BlockCodeModel_symbolOf 40 = .ok (.iaload, 1) := by decide +kernel
theorem d_BlockCodeModel_symbolOf_41 : decode b_BlockCodeModel_symbolOf 41 = .ok (.iload_n 3, 1) := by decide +kernel
theorem d_BlockCodeModel_symbolOf_42 : decode b_BlockCodeModel_symbolOf 42 = .ok (.if_icmp .ne 6, 3) := by decide +kernel
theorem d_BlockCodeModel_symbolOf_45 : decode b_BlockCodeModel_symbolOf 45 = .ok (.iload 4, 2) := by decide +kernel
theorem d_BlockCodeModel_symbolOf_47 : decode b_BlockCodeModel_symbolOf 47 = .ok (.ireturn, 1) := by decide +kernel
theorem d_BlockCodeModel_symbolOf_48 : decode b_BlockCodeModel_symbolOf 48 = .ok (.iinc 4 1, 3) := by decide +kernel
theorem d_BlockCodeModel_symbolOf_51 : decode b_BlockCodeModel_symbolOf 51 = .ok (.goto (-48), 3) := by decide +kernel
theorem d_BlockCodeModel_symbolOf_54 : decode b_BlockCodeModel_symbolOf 54 = .ok (.aload_n 0, 1) := by decide +kernel
theorem d_BlockCodeModel_symbolOf_55 : decode b_BlockCodeModel_symbolOf 55 = .ok (.getfield 32, 3) := by decide +kernel
theorem d_BlockCodeModel_symbolOf_58 : decode b_BlockCodeModel_symbolOf 58 = .ok (.aload_n 0, 1) := by decide +kernel
theorem d_BlockCodeModel_symbolOf_59 : decode b_BlockCodeModel_symbolOf 59 = .ok (.getfield 137, 3) := by decide +kernel
theorem d_BlockCodeModel_symbolOf_62 : decode b_BlockCodeModel_symbolOf 62 = .ok (.iload_n 1, 1) := by decide +kernel
theorem d_BlockCodeModel_symbolOf_63 : decode b_BlockCodeModel_symbolOf 63 = .ok (.iastore, 1) := by decide +kernel
theorem d_BlockCodeModel_symbolOf_64 : decode b_BlockCodeModel_symbolOf 64 = .ok (.aload_n 0, 1) := by decide +kernel
theorem d_BlockCodeModel_symbolOf_65 : decode b_BlockCodeModel_symbolOf 65 = .ok (.getfield 35, 3) := by decide +kernel
theorem d_BlockCodeModel_symbolOf_68 : decode b_BlockCodeModel_symbolOf 68 = .ok (.aload_n 0, 1) := by decide +kernel
theorem d_BlockCodeModel_symbolOf_69 : decode b_BlockCodeModel_symbolOf 69 = .ok (.getfield 137, 3) := by decide +kernel
theorem d_BlockCodeModel_symbolOf_72 : decode b_BlockCodeModel_symbolOf 72 = .ok (.iload_n 2, 1) := by decide +kernel
theorem d_BlockCodeModel_symbolOf_73 : decode b_BlockCodeModel_symbolOf 73 = .ok (.iastore, 1) := by decide +kernel
theorem d_BlockCodeModel_symbolOf_74 : decode b_BlockCodeModel_symbolOf 74 = .ok (.aload_n 0, 1) := by decide +kernel
theorem d_BlockCodeModel_symbolOf_75 : decode b_BlockCodeModel_symbolOf 75 = .ok (.getfield 38, 3) := by decide +kernel
theorem d_BlockCodeModel_symbolOf_78 : decode b_BlockCodeModel_symbolOf 78 = .ok (.aload_n 0, 1) := by decide +kernel
theorem d_BlockCodeModel_symbolOf_79 : decode b_BlockCodeModel_symbolOf 79 = .ok (.getfield 137, 3) := by decide +kernel
theorem d_BlockCodeModel_symbolOf_82 : decode b_BlockCodeModel_symbolOf 82 = .ok (.iload_n 3, 1) := by decide +kernel
theorem d_BlockCodeModel_symbolOf_83 : decode b_BlockCodeModel_symbolOf 83 = .ok (.iastore, 1) := by decide +kernel
theorem d_BlockCodeModel_symbolOf_84 : decode b_BlockCodeModel_symbolOf 84 = .ok (.aload_n 0, 1) := by decide +kernel
theorem d_BlockCodeModel_symbolOf_85 : decode b_BlockCodeModel_symbolOf 85 = .ok (.dup, 1) := by decide +kernel
theorem d_BlockCodeModel_symbolOf_86 : decode b_BlockCodeModel_symbolOf 86 = .ok (.getfield 137, 3) := by decide +kernel
theorem d_BlockCodeModel_symbolOf_89 : decode b_BlockCodeModel_symbolOf 89 = .ok (.iconst 1, 1) := by decide +kernel
theorem d_BlockCodeModel_symbolOf_90 : decode b_BlockCodeModel_symbolOf 90 = .ok (.iadd, 1) := by decide +kernel
theorem d_BlockCodeModel_symbolOf_91 : decode b_BlockCodeModel_symbolOf 91 = .ok (.putfield 137, 3) := by decide +kernel
theorem d_BlockCodeModel_symbolOf_94 : decode b_BlockCodeModel_symbolOf 94 = .ok (.aload_n 0, 1) := by decide +kernel
theorem d_BlockCodeModel_symbolOf_95 : decode b_BlockCodeModel_symbolOf 95 = .ok (.getfield 137, 3) := by decide +kernel
theorem d_BlockCodeModel_symbolOf_98 : decode b_BlockCodeModel_symbolOf 98 = .ok (.iconst 1, 1) := by decide +kernel
theorem d_BlockCodeModel_symbolOf_99 : decode b_BlockCodeModel_symbolOf 99 = .ok (.isub, 1) := by decide +kernel
theorem d_BlockCodeModel_symbolOf_100 : decode b_BlockCodeModel_symbolOf 100 = .ok (.ireturn, 1) := by decide +kernel
theorem d_BlockCodeModel_repeats_0 : decode b_BlockCodeModel_repeats 0 = .ok (.aload_n 0, 1) := by decide +kernel
theorem d_BlockCodeModel_repeats_1 : decode b_BlockCodeModel_repeats 1 = .ok (.invokevirtual 129, 3) := by decide +kernel
theorem d_BlockCodeModel_repeats_4 : decode b_BlockCodeModel_repeats 4 = .ok (.ifCond .ne 5, 3) := by decide +kernel
theorem d_BlockCodeModel_repeats_7 : decode b_BlockCodeModel_repeats 7 = .ok (.iconst 0, 1) := by decide +kernel
theorem d_BlockCodeModel_repeats_8 : decode b_BlockCodeModel_repeats 8 = .ok (.ireturn, 1) := by decide +kernel
theorem d_BlockCodeModel_repeats_9 : decode b_BlockCodeModel_repeats 9 = .ok (.aload_n 0, 1) := by decide +kernel
theorem d_BlockCodeModel_repeats_10 : decode b_BlockCodeModel_repeats 10 = .ok (.invokevirtual 103, 3) := by decide +kernel
theorem d_BlockCodeModel_repeats_13 : decode b_BlockCodeModel_repeats 13 = .ok (.iconst 0, 1) := by decide +kernel
theorem d_BlockCodeModel_repeats_14 : decode b_BlockCodeModel_repeats 14 = .ok (.istore_n 1, 1) := by decide +kernel
theorem d_BlockCodeModel_repeats_15 : decode b_BlockCodeModel_repeats 15 = .ok (.iload_n 1, 1) := by decide +kernel
theorem d_BlockCodeModel_repeats_16 : decode b_BlockCodeModel_repeats 16 = .ok (.aload_n 0, 1) := by decide +kernel
theorem d_BlockCodeModel_repeats_17 : decode b_BlockCodeModel_repeats 17 = .ok (.getfield 85, 3) := by decide +kernel
theorem d_BlockCodeModel_repeats_20 : decode b_BlockCodeModel_repeats 20 = .ok (.if_icmp .ge 239, 3) := by decide +kernel
theorem d_BlockCodeModel_repeats_23 : decode b_BlockCodeModel_repeats 23 = .ok (.aload_n 0, 1) := by decide +kernel
theorem d_BlockCodeModel_repeats_24 : decode b_BlockCodeModel_repeats 24 = .ok (.getfield 29, 3) := by decide +kernel
theorem d_BlockCodeModel_repeats_27 : decode b_BlockCodeModel_repeats 27 = .ok (.iload_n 1, 1) := by decide +kernel
theorem d_BlockCodeModel_repeats_28 : decode b_BlockCodeModel_repeats 28 = .ok (.baload, 1) := by decide +kernel
theorem d_BlockCodeModel_repeats_29 : decode b_BlockCodeModel_repeats 29 = .ok (.ifCond .eq 34, 3) := by decide +kernel
theorem d_BlockCodeModel_repeats_32 : decode b_BlockCodeModel_repeats 32 = .ok (.aload_n 0, 1) := by decide +kernel
theorem d_BlockCodeModel_repeats_33 : decode b_BlockCodeModel_repeats 33 = .ok (.iconst 0, 1) := by decide +kernel
theorem d_BlockCodeModel_repeats_34 : decode b_BlockCodeModel_repeats 34 = .ok (.putfield 137, 3) := by decide +kernel
theorem d_BlockCodeModel_repeats_37 : decode b_BlockCodeModel_repeats 37 = .ok (.iconst 0, 1) := by decide +kernel
theorem d_BlockCodeModel_repeats_38 : decode b_BlockCodeModel_repeats 38 = .ok (.istore_n 2, 1) := by decide +kernel
theorem d_BlockCodeModel_repeats_39 : decode b_BlockCodeModel_repeats 39 = .ok (.iload_n 2, 1) := by decide +kernel
theorem d_BlockCodeModel_repeats_40 : decode b_BlockCodeModel_repeats 40 = .ok (.iconst 5, 1) := by decide +kernel
theorem d_BlockCodeModel_repeats_41 : decode b_BlockCodeModel_repeats 41 = .ok (.if_icmp .ge 22, 3) := by decide +kernel
theorem d_BlockCodeModel_repeats_44 : decode b_BlockCodeModel_repeats 44 = .ok (.aload_n 0, 1) := by decide +kernel
theorem d_BlockCodeModel_repeats_45 : decode b_BlockCodeModel_repeats 45 = .ok (.getfield 41, 3) := by decide +kernel
theorem d_BlockCodeModel_repeats_48 : decode b_BlockCodeModel_repeats 48 = .ok (.iload_n 2, 1) := by decide +kernel
theorem d_BlockCodeModel_repeats_49 : decode b_BlockCodeModel_repeats 49 = .ok (.aload_n 0, 1) := by decide +kernel
theorem d_BlockCodeModel_repeats_50 : decode b_BlockCodeModel_repeats 50 = .ok (.iconst 0, 1) := by decide +kernel
theorem d_BlockCodeModel_repeats_51 : decode b_BlockCodeModel_repeats 51 = .ok (.iload_n 2, 1) := by decide +kernel
theorem d_BlockCodeModel_repeats_52 : decode b_BlockCodeModel_repeats 52 = .ok (.iconst 0, 1) := by decide +kernel
theorem d_BlockCodeModel_repeats_53 : decode b_BlockCodeModel_repeats 53 = .ok (.invokevirtual 140, 3) := by decide +kernel
theorem d_BlockCodeModel_repeats_56 : decode b_BlockCodeModel_repeats 56 = .ok (.iastore, 1) := by decide +kernel
theorem d_BlockCodeModel_repeats_57 : decode b_BlockCodeModel_repeats 57 = .ok (.iinc 2 1, 3) := by decide +kernel
theorem d_BlockCodeModel_repeats_60 : decode b_BlockCodeModel_repeats 60 = .ok (.goto (-21), 3) := by decide +kernel
theorem d_BlockCodeModel_repeats_63 : decode b_BlockCodeModel_repeats 63 = .ok (.aload_n 0, 1) := by decide +kernel
theorem d_BlockCodeModel_repeats_64 : decode b_BlockCodeModel_repeats 64 = .ok (.getfield 7, 3) := by decide +kernel
theorem d_BlockCodeModel_repeats_67 : decode b_BlockCodeModel_repeats 67 = .ok (.iconst 4, 1) := by decide +kernel
theorem d_BlockCodeModel_repeats_68 : decode b_BlockCodeModel_repeats 68 = .ok (.iload_n 1, 1) := by decide +kernel
theorem d_BlockCodeModel_repeats_69 : decode b_BlockCodeModel_repeats 69 = .ok (.imul, 1) := by decide +kernel
theorem d_BlockCodeModel_repeats_70 : decode b_BlockCodeModel_repeats 70 = .ok (.iaload, 1) := by decide +kernel
theorem d_BlockCodeModel_repeats_71 : decode b_BlockCodeModel_repeats 71 = .ok (.istore_n 2, 1) := by decide +kernel
theorem d_BlockCodeModel_repeats_72 : decode b_BlockCodeModel_repeats 72 = .ok (.aload_n 0, 1) := by decide +kernel
theorem d_BlockCodeModel_repeats_73 : decode b_BlockCodeModel_repeats 73 = .ok (.getfield 7, 3) := by decide +kernel
theorem d_BlockCodeModel_repeats_76 : decode b_BlockCodeModel_repeats 76 = .ok (.iconst 4, 1) := by decide +kernel
theorem d_BlockCodeModel_repeats_77 : decode b_BlockCodeModel_repeats 77 = .ok (.iload_n 1, 1) := by decide +kernel
theorem d_BlockCodeModel_repeats_78 : decode b_BlockCodeModel_repeats 78 = .ok (.imul, 1) := by decide +kernel
theorem d_BlockCodeModel_repeats_79 : decode b_BlockCodeModel_repeats 79 = .ok (.iconst 1, 1) := by decide +kernel
theorem d_BlockCodeModel_repeats_80 : decode b_BlockCodeModel_repeats 80 = .ok (.iadd, 1) := by decide +kernel
theorem d_BlockCodeModel_repeats_81 : decode b_BlockCodeModel_repeats 81 = .ok (.iaload, 1) := by decide +kernel
theorem d_BlockCodeModel_repeats_82 : decode b_BlockCodeModel_repeats 82 = .ok (.istore_n 3, 1) := by decide +kernel
theorem d_BlockCodeModel_repeats_83 : decode b_BlockCodeModel_repeats 83 = .ok (.aload_n 0, 1) := by decide +kernel
theorem d_BlockCodeModel_repeats_84 : decode b_BlockCodeModel_repeats 84 = .ok (.getfield 7, 3) := by decide +kernel
theorem d_BlockCodeModel_repeats_87 : decode b_BlockCodeModel_repeats 87 = .ok (.iconst 4, 1) := by decide +kernel
theorem d_BlockCodeModel_repeats_88 : decode b_BlockCodeModel_repeats 88 = .ok (.iload_n 1, 1) := by decide +kernel
theorem d_BlockCodeModel_repeats_89 : decode b_BlockCodeModel_repeats 89 = .ok (.imul, 1) := by decide +kernel
theorem d_BlockCodeModel_repeats_90 : decode b_BlockCodeModel_repeats 90 = .ok (.iconst 2, 1) := by decide +kernel
theorem d_BlockCodeModel_repeats_91 : decode b_BlockCodeModel_repeats 91 = .ok (.iadd, 1) := by decide +kernel
theorem d_BlockCodeModel_repeats_92 : decode b_BlockCodeModel_repeats 92 = .ok (.iaload, 1) := by decide +kernel
theorem d_BlockCodeModel_repeats_93 : decode b_BlockCodeModel_repeats 93 = .ok (.istore 4, 2) := by decide +kernel
theorem d_BlockCodeModel_repeats_95 : decode b_BlockCodeModel_repeats 95 = .ok (.iload_n 2, 1) := by decide +kernel
theorem d_BlockCodeModel_repeats_96 : decode b_BlockCodeModel_repeats 96 = .ok (.iconst 1, 1) := by decide +kernel
theorem d_BlockCodeModel_repeats_97 : decode b_BlockCodeModel_repeats 97 = .ok (.if_icmp .ne 17, 3) := by decide +kernel
theorem d_BlockCodeModel_repeats_100 : decode b_BlockCodeModel_repeats 100 = .ok (.aload_n 0, 1) := by decide +kernel
theorem d_BlockCodeModel_repeats_101 : decode b_BlockCodeModel_repeats 101 = .ok (.getfield 41, 3) := by decide +kernel
theorem d_BlockCodeModel_repeats_104 : decode b_BlockCodeModel_repeats 104 = .ok (.iload_n 3, 1) := by decide +kernel
theorem d_BlockCodeModel_repeats_105 : decode b_BlockCodeModel_repeats 105 = .ok (.aload_n 0, 1) := by decide +kernel
theorem d_BlockCodeModel_repeats_106 : decode b_BlockCodeModel_repeats 106 = .ok (.iconst 1, 1) := by decide +kernel
theorem d_BlockCodeModel_repeats_107 : decode b_BlockCodeModel_repeats 107 = .ok (.iload 4, 2) := by decide +kernel
theorem d_BlockCodeModel_repeats_109 : decode b_BlockCodeModel_repeats 109 = .ok (.iconst 0, 1) := by decide +kernel
theorem d_BlockCodeModel_repeats_110 : decode b_BlockCodeModel_repeats 110 = .ok (.invokevirtual 140, 3) := by decide +kernel
theorem d_BlockCodeModel_repeats_113 : decode b_BlockCodeModel_repeats 113 = .ok (.iastore, 1) := by decide +kernel
theorem d_BlockCodeModel_repeats_114 : decode b_BlockCodeModel_repeats 114 = .ok (.iload_n 2, 1) := by decide +kernel
theorem d_BlockCodeModel_repeats_115 : decode b_BlockCodeModel_repeats 115 = .ok (.iconst 2, 1) := by decide +kernel
theorem d_BlockCodeModel_repeats_116 : decode b_BlockCodeModel_repeats 116 = .ok (.if_icmp .ne 16, 3) := by decide +kernel
theorem d_BlockCodeModel_repeats_119 : decode b_BlockCodeModel_repeats 119 = .ok (.aload_n 0, 1) := by decide +kernel
theorem d_BlockCodeModel_repeats_120 : decode b_BlockCodeModel_repeats 120 = .ok (.getfield 41, 3) := by decide +kernel
theorem d_BlockCodeModel_repeats_123 : decode b_BlockCodeModel_repeats 123 = .ok (.iload_n 3, 1) := by decide +kernel
theorem d_BlockCodeModel_repeats_124 : decode b_BlockCodeModel_repeats 124 = .ok (.aload_n 0, 1) := by decide +kernel
theorem d_BlockCodeModel_repeats_125 : decode b_BlockCodeModel_repeats 125 = .ok (.getfield 41, 3) := by decide +kernel
theorem d_BlockCodeModel_repeats_128 : decode b_BlockCodeModel_repeats 128 = .ok (.iload 4, 2) := by decide +kernel
theorem d_BlockCodeModel_repeats_130 : decode b_BlockCodeModel_repeats 130 = .ok (.iaload, 1) := by decide +kernel
theorem d_BlockCodeModel_repeats_131 : decode b_BlockCodeModel_repeats 131 = .ok (.iastore, 1) := by decide +kernel
theorem d_BlockCodeModel_repeats_132 : decode b_BlockCodeModel_repeats 132 = .ok (.iload_n 2, 1) := by decide +kernel
theorem d_BlockCodeModel_repeats_133 : decode b_BlockCodeModel_repeats 133 = .ok (.iconst 3, 1) := by decide +kernel
theorem d_BlockCodeModel_repeats_134 : decode b_BlockCodeModel_repeats 134 = .ok (.bipush 7, 2) := by decide +kernel
theorem d_BlockCodeModel_repeats_136 : decode b_BlockCodeModel_repeats 136 = .ok (.invokestatic 69, 3) := by decide +kernel
theorem d_BlockCodeModel_repeats_139 : decode b_BlockCodeModel_repeats 139 = .ok (.ifCond .ne 6, 3) := by decide +kernel
theorem d_BlockCodeModel_repeats_142 : decode b_BlockCodeModel_repeats 142 = .ok (.goto 111, 3) := by decide +kernel
theorem d_BlockCodeModel_repeats_145 : decode b_BlockCodeModel_repeats 145 = .ok (.aload_n 0, 1) := by decide +kernel
theorem d_BlockCodeModel_repeats_146 : decode b_BlockCodeModel_repeats 146 = .ok (.iload_n 2, 1) := by decide +kernel
theorem d_BlockCodeModel_repeats_147 : decode b_BlockCodeModel_repeats 147 = .ok (.aload_n 0, 1) := by decide +kernel
theorem d_BlockCodeModel_repeats_148 : decode b_BlockCodeModel_repeats 148 = .ok (.getfield 41, 3) := by decide +kernel
theorem d_BlockCodeModel_repeats_151 : decode b_BlockCodeModel_repeats 151 = .ok (.iload 4, 2) := by decide +kernel
theorem d_BlockCodeModel_repeats_153 : decode b_BlockCodeModel_repeats 153 = .ok (.iaload, 1) := by decide +kernel
theorem d_BlockCodeModel_repeats_154 : decode b_BlockCodeModel_repeats 154 = .ok (.aload_n 0, 1) := by decide +kernel
theorem d_BlockCodeModel_repeats_155 : decode b_BlockCodeModel_repeats 155 = .ok (.getfield 41, 3) := by decide +kernel
theorem d_BlockCodeModel_repeats_158 : decode b_BlockCodeModel_repeats 158 = .ok (.aload_n 0, 1) := by decide +kernel
theorem d_BlockCodeModel_repeats_159 : decode b_BlockCodeModel_repeats 159 = .ok (.getfield 7, 3) := by decide +kernel
theorem d_BlockCodeModel_repeats_162 : decode b_BlockCodeModel_repeats 162 = .ok (.iconst 4, 1) := by decide +kernel
theorem d_BlockCodeModel_repeats_163 : decode b_BlockCodeModel_repeats 163 = .ok (.iload_n 1, 1) := by decide +kernel
theorem d_BlockCodeModel_repeats_164 : decode b_BlockCodeModel_repeats 164 = .ok (.imul, 1) := by decide +kernel
theorem d_BlockCodeModel_repeats_165 : decode b_BlockCodeModel_repeats 165 = .ok (.iconst 3, 1) := by decide +kernel
theorem d_BlockCodeModel_repeats_166 : decode b_BlockCodeModel_repeats 166 = .ok (.iadd, 1) := by decide +kernel
theorem d_BlockCodeModel_repeats_167 : decode b_BlockCodeModel_repeats 167 = .ok (.iaload, 1) := by decide +kernel
theorem d_BlockCodeModel_repeats_168 : decode b_BlockCodeModel_repeats 168 = .ok (.iaload, 1) := by decide +kernel
theorem d_BlockCodeModel_repeats_169 : decode b_BlockCodeModel_repeats 169 = .ok (.invokevirtual 140, 3) := by decide +kernel
theorem d_BlockCodeModel_repeats_172 : decode b_BlockCodeModel_repeats 172 = .ok (.istore 5, 2) := by decide +kernel
theorem d_BlockCodeModel_repeats_174 : decode b_BlockCodeModel_repeats 174 = .ok (.iconst 0, 1) := by decide +kernel
theorem d_BlockCodeModel_repeats_175 : decode b_BlockCodeModel_repeats 175 = .ok (.istore 6, 2) := by decide +kernel
theorem d_BlockCodeModel_repeats_177 : decode b_BlockCodeModel_repeats 177 = .ok (.iload 6, 2) := by decide +kernel
theorem d_BlockCodeModel_repeats_179 : decode b_BlockCodeModel_repeats 179 = .ok (.iconst 5, 1) := by decide +kernel
theorem d_BlockCodeModel_repeats_180 : decode b_BlockCodeModel_repeats 180 = .ok (.if_icmp .ge 21, 3) := by decide +kernel
theorem d_BlockCodeModel_repeats_183 : decode b_BlockCodeModel_repeats 183 = .ok (.aload_n 0, 1) := by decide +kernel
theorem d_BlockCodeModel_repeats_184 : decode b_BlockCodeModel_repeats 184 = .ok (.getfield 41, 3) := by decide +kernel
theorem d_BlockCodeModel_repeats_187 : decode b_BlockCodeModel_repeats 187 = .ok (.iload 6, 2) := by decide +kernel
theorem d_BlockCodeModel_repeats_189 : decode b_BlockCodeModel_repeats 189 = .ok (.iaload, 1) := by decide +kernel
theorem d_BlockCodeModel_repeats_190 : decode b_BlockCodeModel_repeats 190 = .ok (.iload 5, 2) := by decide +kernel
theorem d_BlockCodeModel_repeats_192 : decode b_BlockCodeModel_repeats 192 = .ok (.if_icmp .eq 9, 3) := by decide +kernel
theorem d_BlockCodeModel_repeats_195 : decode b_BlockCodeModel_repeats 195 = .ok (.iinc 6 1, 3) := by decide +kernel
theorem d_BlockCodeModel_repeats_198 : decode b_BlockCodeModel_repeats 198 = .ok (.goto (-21), 3) := by decide +kernel
theorem d_BlockCodeModel_repeats_201 : decode b_BlockCodeModel_repeats 201 = .ok (.iload 6, 2) := by decide +kernel
theorem d_BlockCodeModel_repeats_203 : decode b_BlockCodeModel_repeats 203 = .ok (.iload_n 3, 1) := by decide +kernel
theorem d_BlockCodeModel_repeats_204 : decode b_BlockCodeModel_repeats 204 = .ok (.if_icmp .ne 20, 3) := by decide +kernel
theorem d_BlockCodeModel_repeats_207 : decode b_BlockCodeModel_repeats 207 = .ok (.aload_n 0, 1) := by decide +kernel
theorem d_BlockCodeModel_repeats_208 : decode b_BlockCodeModel_repeats 208 = .ok (.bipush 80, 2) := by decide +kernel
theorem d_BlockCodeModel_repeats_210 : decode b_BlockCodeModel_repeats 210 = .ok (.iconst 4, 1) := by decide +kernel
theorem d_BlockCodeModel_repeats_211 : decode b_BlockCodeModel_repeats 211 = .ok (.iload_n 1, 1) := by decide +kernel
theorem d_BlockCodeModel_repeats_212 : decode b_BlockCodeModel_repeats 212 = .ok (.imul, 1) := by decide +kernel
theorem d_BlockCodeModel_repeats_213 : decode b_BlockCodeModel_repeats 213 = .ok (.iadd, 1) := by decide +kernel
theorem d_BlockCodeModel_repeats_214 : decode b_BlockCodeModel_repeats 214 = .ok (.iconst 0, 1) := by decide +kernel
theorem d_BlockCodeModel_repeats_215 : decode b_BlockCodeModel_repeats 215 = .ok (.iconst 0, 1) := by decide +kernel
theorem d_BlockCodeModel_repeats_216 : decode b_BlockCodeModel_repeats 216 = .ok (.iconst 0, 1) := by decide +kernel
theorem d_BlockCodeModel_repeats_217 : decode b_BlockCodeModel_repeats 217 = .ok (.iconst 0, 1) := by decide +kernel
theorem d_BlockCodeModel_repeats_218 : decode b_BlockCodeModel_repeats 218 = .ok (.invokevirtual 88, 3) := by decide +kernel
theorem d_BlockCodeModel_repeats_221 : decode b_BlockCodeModel_repeats 221 = .ok (.goto 24, 3) := by decide +kernel
theorem d_BlockCodeModel_repeats_224 : decode b_BlockCodeModel_repeats 224 = .ok (.iload 6, 2) := by decide +kernel
theorem d_BlockCodeModel_repeats_226 : decode b_BlockCodeModel_repeats 226 = .ok (.iconst 5, 1) := by decide +kernel
theorem d_BlockCodeModel_repeats_227 : decode b_BlockCodeModel_repeats 227 = .ok (.if_icmp .ge 18, 3) := by decide +kernel
theorem d_BlockCodeModel_repeats_230 : decode b_BlockCodeModel_repeats 230 = .ok (.aload_n 0, 1) := by decide +kernel
theorem d_BlockCodeModel_repeats_231 : decode b_BlockCodeModel_repeats 231 = .ok (.bipush 80, 2) := by decide +kernel
theorem d_BlockCodeModel_repeats_233 : decode b_BlockCodeModel_repeats 233 = .ok (.iconst 4, 1) := by decide +kernel
theorem d_BlockCodeModel_repeats_234 : decode b_BlockCodeModel_repeats 234 = .ok (.iload_n 1, 1) := by decide +kernel
theorem d_BlockCodeModel_repeats_235 : decode b_BlockCodeModel_repeats 235 = .ok (.imul, 1) := by decide +kernel
theorem d_BlockCodeModel_repeats_236 : decode b_BlockCodeModel_repeats 236 = .ok (.iadd, 1) := by decide +kernel
theorem d_BlockCodeModel_repeats_237 : decode b_BlockCodeModel_repeats 237 = .ok (.iconst 2, 1) := by decide +kernel
theorem d_BlockCodeModel_repeats_238 : decode b_BlockCodeModel_repeats 238 = .ok (.iload_n 3, 1) := by decide +kernel
theorem d_BlockCodeModel_repeats_239 : decode b_BlockCodeModel_repeats 239 = .ok (.iload 6, 2) := by decide +kernel
theorem d_BlockCodeModel_repeats_241 : decode b_BlockCodeModel_repeats 241 = .ok (.iconst 0, 1) := by decide +kernel
theorem d_BlockCodeModel_repeats_242 : decode b_BlockCodeModel_repeats 242 = .ok (.invokevirtual 88, 3) := by decide +kernel
theorem d_BlockCodeModel_repeats_245 : decode b_BlockCodeModel_repeats 245 = .ok (.aload_n 0, 1) := by decide +kernel
theorem d_BlockCodeModel_repeats_246 : decode b_BlockCodeModel_repeats 246 = .ok (.getfield 41, 3) := by decide +kernel
theorem d_BlockCodeModel_repeats_249 : decode b_BlockCodeModel_repeats 249 = .ok (.iload_n 3, 1) := by decide +kernel
theorem d_BlockCodeModel_repeats_250 : decode b_BlockCodeModel_repeats 250 = .ok (.iload 5, 2) := by decide +kernel
theorem d_BlockCodeModel_repeats_252 : decode b_BlockCodeModel_repeats 252 = .ok (.iastore, 1) := by decide +kernel
theorem d_BlockCodeModel_repeats_253 : decode b_BlockCodeModel_repeats 253 = .ok (.iinc 1 1, 3) := by decide +kernel
theorem d_BlockCodeModel_repeats_256 : decode b_BlockCodeModel_repeats 256 = .ok (.goto (-241), 3) := by decide +kernel
theorem d_BlockCodeModel_repeats_259 : decode b_BlockCodeModel_repeats 259 = .ok (.aload_n 0, 1) := by decide +kernel
theorem d_BlockCodeModel_repeats_260 : decode b_BlockCodeModel_repeats 260 = .ok (.invokevirtual 133, 3) := by decide +kernel
theorem d_BlockCodeModel_repeats_263 : decode b_BlockCodeModel_repeats 263 = .ok (.ireturn, 1) := by decide +kernel
theorem d_BlockCodeModel_unneeded_0 : decode b_BlockCodeModel_unneeded 0 = .ok (.aload_n 0, 1) := by decide +kernel
theorem d_BlockCodeModel_unneeded_1 : decode b_BlockCodeModel_unneeded 1 = .ok (.invokevirtual 129, 3) := by decide +kernel
theorem d_BlockCodeModel_unneeded_4 : decode b_BlockCodeModel_unneeded 4 = .ok (.ifCond .ne 5, 3) := by decide +kernel
theorem d_BlockCodeModel_unneeded_7 : decode b_BlockCodeModel_unneeded 7 = .ok (.iconst 0, 1) := by decide +kernel
theorem d_BlockCodeModel_unneeded_8 : decode b_BlockCodeModel_unneeded 8 = .ok (.ireturn, 1) := by decide +kernel
theorem d_BlockCodeModel_unneeded_9 : decode b_BlockCodeModel_unneeded 9 = .ok (.aload_n 0, 1) := by decide +kernel
theorem d_BlockCodeModel_unneeded_10 : decode b_BlockCodeModel_unneeded 10 = .ok (.iconst 0, 1) := by decide +kernel
theorem d_BlockCodeModel_unneeded_11 : decode b_BlockCodeModel_unneeded 11 = .ok (.invokevirtual 125, 3) := by decide +kernel
theorem d_BlockCodeModel_unneeded_14 : decode b_BlockCodeModel_unneeded 14 = .ok (.iconst 0, 1) := by decide +kernel
theorem d_BlockCodeModel_unneeded_15 : decode b_BlockCodeModel_unneeded 15 = .ok (.istore_n 1, 1) := by decide +kernel
theorem d_BlockCodeModel_unneeded_16 : decode b_BlockCodeModel_unneeded 16 = .ok (.iload_n 1, 1) := by decide +kernel
theorem d_BlockCodeModel_unneeded_17 : decode b_BlockCodeModel_unneeded 17 = .ok (.aload_n 0, 1) := by decide +kernel
theorem d_BlockCodeModel_unneeded_18 : decode b_BlockCodeModel_unneeded 18 = .ok (.getfield 85, 3) := by decide +kernel
theorem d_BlockCodeModel_unneeded_21 : decode b_BlockCodeModel_unneeded 21 = .ok (.if_icmp .ge 72, 3) := by decide +kernel
theorem d_BlockCodeModel_unneeded_24 : decode b_BlockCodeModel_unneeded 24 = .ok (.aload_n 0, 1) := by decide +kernel
theorem d_BlockCodeModel_unneeded_25 : decode b_BlockCodeModel_unneeded 25 = .ok (.getfield 7, 3) := by decide +kernel
theorem d_BlockCodeModel_unneeded_28 : decode b_BlockCodeModel_unneeded 28 = .ok (.iconst 4, 1) := by decide +kernel
theorem d_BlockCodeModel_unneeded_29 : decode b_BlockCodeModel_unneeded 29 = .ok (.iload_n 1, 1) := by decide +kernel
theorem d_BlockCodeModel_unneeded_30 : decode b_BlockCodeModel_unneeded 30 = .ok (.imul, 1) := by decide +kernel
theorem d_BlockCodeModel_unneeded_31 : decode b_BlockCodeModel_unneeded 31 = .ok (.iaload, 1) := by decide +kernel
theorem d_BlockCodeModel_unneeded_32 : decode b_BlockCodeModel_unneeded 32 = .ok (.istore_n 2, 1) := by decide +kernel
theorem d_BlockCodeModel_unneeded_33 : decode b_BlockCodeModel_unneeded 33 = .ok (.iload_n 2, 1) := by decide +kernel
theorem d_BlockCodeModel_unneeded_34 : decode b_BlockCodeModel_unneeded 34 = .ok (.iconst 1, 1) := by decide +kernel
theorem d_BlockCodeModel_unneeded_35 : decode b_BlockCodeModel_unneeded 35 = .ok (.bipush 7, 2) := by decide +kernel
theorem d_BlockCodeModel_unneeded_37 : decode b_BlockCodeModel_unneeded 37 = .ok (.invokestatic 69, 3) := by decide +kernel
theorem d_BlockCodeModel_unneeded_40 : decode b_BlockCodeModel_unneeded 40 = .ok (.ifCond .eq 47, 3) := by decide +kernel
theorem d_BlockCodeModel_unneeded_43 : decode b_BlockCodeModel_unneeded 43 = .ok (.iload_n 2, 1) := by decide +kernel
theorem d_BlockCodeModel_unneeded_44 : decode b_BlockCodeModel_unneeded 44 = .ok (.bipush 6, 2) := by decide +kernel
theorem d_BlockCodeModel_unneeded_46 : decode b_BlockCodeModel_unneeded 46 = .ok (.if_icmp .eq 41, 3) := by decide +kernel
theorem d_BlockCodeModel_unneeded_49 : decode b_BlockCodeModel_unneeded 49 = .ok (.aload_n 0, 1) := by decide +kernel
theorem d_BlockCodeModel_unneeded_50 : decode b_BlockCodeModel_unneeded 50 = .ok (.getfield 26, 3) := by decide +kernel
theorem d_BlockCodeModel_unneeded_53 : decode b_BlockCodeModel_unneeded 53 = .ok (.iload_n 1, 1) := by decide +kernel
theorem d_BlockCodeModel_unneeded_54 : decode b_BlockCodeModel_unneeded 54 = .ok (.iconst 1, 1) := by decide +kernel
theorem d_BlockCodeModel_unneeded_55 : decode b_BlockCodeModel_unneeded 55 = .ok (.iadd, 1) := by decide +kernel
theorem d_BlockCodeModel_unneeded_56 : decode b_BlockCodeModel_unneeded 56 = .ok (.iaload, 1) := by decide +kernel
theorem d_BlockCodeModel_unneeded_57 : decode b_BlockCodeModel_unneeded 57 = .ok (.aload_n 0, 1) := by decide +kernel
theorem d_BlockCodeModel_unneeded_58 : decode b_BlockCodeModel_unneeded 58 = .ok (.getfield 7, 3) := by decide +kernel
theorem d_BlockCodeModel_unneeded_61 : decode b_BlockCodeModel_unneeded 61 = .ok (.iconst 4, 1) := by decide +kernel
theorem d_BlockCodeModel_unneeded_62 : decode b_BlockCodeModel_unneeded 62 = .ok (.iload_n 1, 1) := by decide +kernel
theorem d_BlockCodeModel_unneeded_63 : decode b_BlockCodeModel_unneeded 63 = .ok (.imul, 1) := by decide +kernel
theorem d_BlockCodeModel_unneeded_64 : decode b_BlockCodeModel_unneeded 64 = .ok (.iconst 1, 1) := by decide +kernel
theorem d_BlockCodeModel_unneeded_65 : decode b_BlockCodeModel_unneeded 65 = .ok (.iadd, 1) := by decide +kernel
theorem d_BlockCodeModel_unneeded_66 : decode b_BlockCodeModel_unneeded 66 = .ok (.iaload, 1) := by decide +kernel
theorem d_BlockCodeModel_unneeded_67 : decode b_BlockCodeModel_unneeded 67 = .ok (.ishr, 1) := by decide +kernel
theorem d_BlockCodeModel_unneeded_68 : decode b_BlockCodeModel_unneeded 68 = .ok (.iconst 1, 1) := by decide +kernel
theorem d_BlockCodeModel_unneeded_69 : decode b_BlockCodeModel_unneeded 69 = .ok (.iand, 1) := by decide +kernel
theorem d_BlockCodeModel_unneeded_70 : decode b_BlockCodeModel_unneeded 70 = .ok (.ifCond .ne 17, 3) := by decide +kernel
theorem d_BlockCodeModel_unneeded_73 : decode b_BlockCodeModel_unneeded 73 = .ok (.aload_n 0, 1) := by decide +kernel
theorem d_BlockCodeModel_unneeded_74 : decode b_BlockCodeModel_unneeded 74 = .ok (.bipush 80, 2) := by decide +kernel
theorem d_BlockCodeModel_unneeded_76 : decode b_BlockCodeModel_unneeded 76 = .ok (.iconst 4, 1) := by decide +kernel
theorem d_BlockCodeModel_unneeded_77 : decode b_BlockCodeModel_unneeded 77 = .ok (.iload_n 1, 1) := by decide +kernel
theorem d_BlockCodeModel_unneeded_78 : decode b_BlockCodeModel_unneeded 78 = .ok (.imul, 1) := by decide +kernel
theorem d_BlockCodeModel_unneeded_79 : decode b_BlockCodeModel_unneeded 79 = .ok (.iadd, 1) := by decide +kernel
theorem d_BlockCodeModel_unneeded_80 : decode b_BlockCodeModel_unneeded 80 = .ok (.iconst 0, 1) := by decide +kernel
theorem d_BlockCodeModel_unneeded_81 : decode b_BlockCodeModel_unneeded 81 = .ok (.iconst 0, 1) := by decide +kernel
theorem d_BlockCodeModel_unneeded_82 : decode b_BlockCodeModel_unneeded 82 = .ok (.iconst 0, 1) := by decide +kernel
theorem d_BlockCodeModel_unneeded_83 : decode b_BlockCodeModel_unneeded 83 = .ok (.iconst 0, 1) := by decide +kernel
theorem d_BlockCodeModel_unneeded_84 : decode b_BlockCodeModel_unneeded 84 = .ok (.invokevirtual 88, 3) := by decide +kernel
theorem d_BlockCodeModel_unneeded_87 : decode b_BlockCodeModel_unneeded 87 = .ok (.iinc 1 1, 3) := by decide +kernel
theorem d_BlockCodeModel_unneeded_90 : decode b_BlockCodeModel_unneeded 90 = .ok (.goto (-74), 3) := by decide +kernel
