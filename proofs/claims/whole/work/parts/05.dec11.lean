theorem d_BlockCodeModel_unneeded_93 : decode b_BlockCodeModel_unneeded 93 = .ok (.aload_n 0, 1) := by decide +kernel
theorem d_BlockCodeModel_unneeded_94 : decode b_BlockCodeModel_unneeded 94 = .ok (.invokevirtual 133, 3) := by decide +kernel
theorem d_BlockCodeModel_unneeded_97 : decode b_BlockCodeModel_unneeded 97 = .ok (.ireturn, 1) := by decide +kernel
theorem d_BlockCodeModel_poke_0 : decode b_BlockCodeModel_poke 0 = .ok (.aload_n 0, 1) := by decide +kernel
theorem d_BlockCodeModel_poke_1 : decode b_BlockCodeModel_poke 1 = .ok (.iconst 0, 1) := by decide +kernel
theorem d_BlockCodeModel_poke_2 : decode b_BlockCodeModel_poke 2 = .ok (.putfield 65, 3) := by decide +kernel
theorem d_BlockCodeModel_poke_5 : decode b_BlockCodeModel_poke 5 = .ok (.aload_n 0, 1) := by decide +kernel
theorem d_BlockCodeModel_poke_6 : decode b_BlockCodeModel_poke 6 = .ok (.getfield 77, 3) := by decide +kernel
theorem d_BlockCodeModel_poke_9 : decode b_BlockCodeModel_poke 9 = .ok (.ifCond .eq 29, 3) := by decide +kernel
theorem d_BlockCodeModel_poke_12 : decode b_BlockCodeModel_poke 12 = .ok (.iload_n 1, 1) := by decide +kernel
theorem d_BlockCodeModel_poke_13 : decode b_BlockCodeModel_poke 13 = .ok (.iconst 0, 1) := by decide +kernel
theorem d_BlockCodeModel_poke_14 : decode b_BlockCodeModel_poke 14 = .ok (.aload_n 0, 1) := by decide +kernel
theorem d_BlockCodeModel_poke_15 : decode b_BlockCodeModel_poke 15 = .ok (.getfield 85, 3) := by decide +kernel
theorem d_BlockCodeModel_poke_18 : decode b_BlockCodeModel_poke 18 = .ok (.iconst 1, 1) := by decide +kernel
theorem d_BlockCodeModel_poke_19 : decode b_BlockCodeModel_poke 19 = .ok (.isub, 1) := by decide +kernel
theorem d_BlockCodeModel_poke_20 : decode b_BlockCodeModel_poke 20 = .ok (.invokestatic 69, 3) := by decide +kernel
theorem d_BlockCodeModel_poke_23 : decode b_BlockCodeModel_poke 23 = .ok (.ifCond .eq 15, 3) := by decide +kernel
theorem d_BlockCodeModel_poke_26 : decode b_BlockCodeModel_poke 26 = .ok (.iload_n 2, 1) := by decide +kernel
theorem d_BlockCodeModel_poke_27 : decode b_BlockCodeModel_poke 27 = .ok (.iload_n 3, 1) := by decide +kernel
theorem d_BlockCodeModel_poke_28 : decode b_BlockCodeModel_poke 28 = .ok (.iload 4, 2) := by decide +kernel
theorem d_BlockCodeModel_poke_30 : decode b_BlockCodeModel_poke 30 = .ok (.iload 5, 2) := by decide +kernel
theorem d_BlockCodeModel_poke_32 : decode b_BlockCodeModel_poke 32 = .ok (.invokestatic 81, 3) := by decide +kernel
theorem d_BlockCodeModel_poke_35 : decode b_BlockCodeModel_poke 35 = .ok (.ifCond .ne 5, 3) := by decide +kernel
theorem d_BlockCodeModel_poke_38 : decode b_BlockCodeModel_poke 38 = .ok (.iconst 0, 1) := by decide +kernel
theorem d_BlockCodeModel_poke_39 : decode b_BlockCodeModel_poke 39 = .ok (.ireturn, 1) := by decide +kernel
theorem d_BlockCodeModel_poke_40 : decode b_BlockCodeModel_poke 40 = .ok (.iload_n 2, 1) := by decide +kernel
theorem d_BlockCodeModel_poke_41 : decode b_BlockCodeModel_poke 41 = .ok (.bipush 8, 2) := by decide +kernel
theorem d_BlockCodeModel_poke_43 : decode b_BlockCodeModel_poke 43 = .ok (.if_icmp .ne 12, 3) := by decide +kernel
theorem d_BlockCodeModel_poke_46 : decode b_BlockCodeModel_poke 46 = .ok (.iload 4, 2) := by decide +kernel
theorem d_BlockCodeModel_poke_48 : decode b_BlockCodeModel_poke 48 = .ok (.aload_n 0, 1) := by decide +kernel
theorem d_BlockCodeModel_poke_49 : decode b_BlockCodeModel_poke 49 = .ok (.getfield 85, 3) := by decide +kernel
theorem d_BlockCodeModel_poke_52 : decode b_BlockCodeModel_poke 52 = .ok (.if_icmp .ge 18, 3) := by decide +kernel
theorem d_BlockCodeModel_poke_55 : decode b_BlockCodeModel_poke 55 = .ok (.iload_n 2, 1) := by decide +kernel
theorem d_BlockCodeModel_poke_56 : decode b_BlockCodeModel_poke 56 = .ok (.bipush 9, 2) := by decide +kernel
theorem d_BlockCodeModel_poke_58 : decode b_BlockCodeModel_poke 58 = .ok (.if_icmp .ne 14, 3) := by decide +kernel
theorem d_BlockCodeModel_poke_61 : decode b_BlockCodeModel_poke 61 = .ok (.iload 5, 2) := by decide +kernel
theorem d_BlockCodeModel_poke_63 : decode b_BlockCodeModel_poke 63 = .ok (.aload_n 0, 1) := by decide +kernel
theorem d_BlockCodeModel_poke_64 : decode b_BlockCodeModel_poke 64 = .ok (.getfield 85, 3) := by decide +kernel
theorem d_BlockCodeModel_poke_67 : decode b_BlockCodeModel_poke 67 = .ok (.if_icmp .lt 5, 3) := by decide +kernel
theorem d_BlockCodeModel_poke_70 : decode b_BlockCodeModel_poke 70 = .ok (.iconst 0, 1) := by decide +kernel
theorem d_BlockCodeModel_poke_71 : decode b_BlockCodeModel_poke 71 = .ok (.ireturn, 1) := by decide +kernel
theorem d_BlockCodeModel_poke_72 : decode b_BlockCodeModel_poke 72 = .ok (.aload_n 0, 1) := by decide +kernel
theorem d_BlockCodeModel_poke_73 : decode b_BlockCodeModel_poke 73 = .ok (.bipush 80, 2) := by decide +kernel
theorem d_BlockCodeModel_poke_75 : decode b_BlockCodeModel_poke 75 = .ok (.iconst 4, 1) := by decide +kernel
theorem d_BlockCodeModel_poke_76 : decode b_BlockCodeModel_poke 76 = .ok (.iload_n 1, 1) := by decide +kernel
theorem d_BlockCodeModel_poke_77 : decode b_BlockCodeModel_poke 77 = .ok (.imul, 1) := by decide +kernel
theorem d_BlockCodeModel_poke_78 : decode b_BlockCodeModel_poke 78 = .ok (.iadd, 1) := by decide +kernel
theorem d_BlockCodeModel_poke_79 : decode b_BlockCodeModel_poke 79 = .ok (.iload_n 2, 1) := by decide +kernel
theorem d_BlockCodeModel_poke_80 : decode b_BlockCodeModel_poke 80 = .ok (.iload_n 3, 1) := by decide +kernel
theorem d_BlockCodeModel_poke_81 : decode b_BlockCodeModel_poke 81 = .ok (.iload 4, 2) := by decide +kernel
theorem d_BlockCodeModel_poke_83 : decode b_BlockCodeModel_poke 83 = .ok (.iload 5, 2) := by decide +kernel
theorem d_BlockCodeModel_poke_85 : decode b_BlockCodeModel_poke 85 = .ok (.invokevirtual 88, 3) := by decide +kernel
theorem d_BlockCodeModel_poke_88 : decode b_BlockCodeModel_poke 88 = .ok (.aload_n 0, 1) := by decide +kernel
theorem d_BlockCodeModel_poke_89 : decode b_BlockCodeModel_poke 89 = .ok (.iconst 0, 1) := by decide +kernel
theorem d_BlockCodeModel_poke_90 : decode b_BlockCodeModel_poke 90 = .ok (.putfield 92, 3) := by decide +kernel
theorem d_BlockCodeModel_poke_93 : decode b_BlockCodeModel_poke 93 = .ok (.iconst 1, 1) := by decide +kernel
theorem d_BlockCodeModel_poke_94 : decode b_BlockCodeModel_poke 94 = .ok (.ireturn, 1) := by decide +kernel
theorem d_BlockCodeModel_made_0 : decode b_BlockCodeModel_made 0 = .ok (.aload_n 0, 1) := by decide +kernel
theorem d_BlockCodeModel_made_1 : decode b_BlockCodeModel_made 1 = .ok (.getfield 32, 3) := by decide +kernel
theorem d_BlockCodeModel_made_4 : decode b_BlockCodeModel_made 4 = .ok (.iload_n 3, 1) := by decide +kernel
theorem d_BlockCodeModel_made_5 : decode b_BlockCodeModel_made 5 = .ok (.iaload, 1) := by decide +kernel
theorem d_BlockCodeModel_made_6 : decode b_BlockCodeModel_made 6 = .ok (.iconst 1, 1) := by decide +kernel
theorem d_BlockCodeModel_made_7 : decode b_BlockCodeModel_made 7 = .ok (.if_icmp .ne 18, 3) := by decide +kernel
theorem d_BlockCodeModel_made_10 : decode b_BlockCodeModel_made 10 = .ok (.aload_n 0, 1) := by decide +kernel
theorem d_BlockCodeModel_made_11 : decode b_BlockCodeModel_made 11 = .ok (.getfield 32, 3) := by decide +kernel
theorem d_BlockCodeModel_made_14 : decode b_BlockCodeModel_made 14 = .ok (.iload 4, 2) := by decide +kernel
theorem d_BlockCodeModel_made_16 : decode b_BlockCodeModel_made 16 = .ok (.iaload, 1) := by decide +kernel
theorem d_BlockCodeModel_made_17 : decode b_BlockCodeModel_made 17 = .ok (.iconst 1, 1) := by decide +kernel
theorem d_BlockCodeModel_made_18 : decode b_BlockCodeModel_made 18 = .ok (.if_icmp .ne 7, 3) := by decide +kernel
theorem d_BlockCodeModel_made_21 : decode b_BlockCodeModel_made 21 = .ok (.iconst 1, 1) := by decide +kernel
theorem d_BlockCodeModel_made_22 : decode b_BlockCodeModel_made 22 = .ok (.goto 4, 3) := by decide +kernel
theorem d_BlockCodeModel_made_25 : decode b_BlockCodeModel_made 25 = .ok (.iconst 0, 1) := by decide +kernel
theorem d_BlockCodeModel_made_26 : decode b_BlockCodeModel_made 26 = .ok (.istore 5, 2) := by decide +kernel
theorem d_BlockCodeModel_made_28 : decode b_BlockCodeModel_made 28 = .ok (.iload_n 2, 1) := by decide +kernel
theorem d_BlockCodeModel_made_29 : decode b_BlockCodeModel_made 29 = .ok (.bipush 6, 2) := by decide +kernel
theorem d_BlockCodeModel_made_31 : decode b_BlockCodeModel_made 31 = .ok (.if_icmp .ne 144, 3) := by decide +kernel
theorem d_BlockCodeModel_made_34 : decode b_BlockCodeModel_made 34 = .ok (.aload_n 0, 1) := by decide +kernel
theorem d_BlockCodeModel_made_35 : decode b_BlockCodeModel_made 35 = .ok (.getfield 32, 3) := by decide +kernel
theorem d_BlockCodeModel_made_38 : decode b_BlockCodeModel_made 38 = .ok (.iload 4, 2) := by decide +kernel
theorem d_BlockCodeModel_made_40 : decode b_BlockCodeModel_made 40 = .ok (.iaload, 1) := by decide +kernel
theorem d_BlockCodeModel_made_41 : decode b_BlockCodeModel_made 41 = .ok (.iconst 1, 1) := by decide +kernel
theorem d_BlockCodeModel_made_42 : decode b_BlockCodeModel_made 42 = .ok (.if_icmp .ne 13, 3) := by decide +kernel
theorem d_BlockCodeModel_made_45 : decode b_BlockCodeModel_made 45 = .ok (.aload_n 0, 1) := by decide +kernel
theorem d_BlockCodeModel_made_46 : decode b_BlockCodeModel_made 46 = .ok (.getfield 35, 3) := by decide +kernel
theorem d_BlockCodeModel_made_49 : decode b_BlockCodeModel_made 49 = .ok (.iload 4, 2) := by decide +kernel
theorem d_BlockCodeModel_made_51 : decode b_BlockCodeModel_made 51 = .ok (.iaload, 1) := by decide +kernel
theorem d_BlockCodeModel_made_52 : decode b_BlockCodeModel_made 52 = .ok (.ifCond .ne 123, 3) := by decide +kernel
theorem d_BlockCodeModel_made_55 : decode b_BlockCodeModel_made 55 = .ok (.iconst 0, 1) := by decide +kernel
theorem d_BlockCodeModel_made_56 : decode b_BlockCodeModel_made 56 = .ok (.istore 5, 2) := by decide +kernel
theorem d_BlockCodeModel_made_58 : decode b_BlockCodeModel_made 58 = .ok (.iconst 0, 1) := by decide +kernel
theorem d_BlockCodeModel_made_59 : decode b_BlockCodeModel_made 59 = .ok (.istore 6, 2) := by decide +kernel
theorem d_BlockCodeModel_made_61 : decode b_BlockCodeModel_made 61 = .ok (.aload_n 0, 1) := by decide +kernel
theorem d_BlockCodeModel_made_62 : decode b_BlockCodeModel_made 62 = .ok (.getfield 47, 3) := by decide +kernel
theorem d_BlockCodeModel_made_65 : decode b_BlockCodeModel_made 65 = .ok (.iload_n 1, 1) := by decide +kernel
theorem d_BlockCodeModel_made_66 : decode b_BlockCodeModel_made 66 = .ok (.iaload, 1) := by decide +kernel
theorem d_BlockCodeModel_made_67 : decode b_BlockCodeModel_made 67 = .ok (.istore 7, 2) := by decide +kernel
theorem d_BlockCodeModel_made_69 : decode b_BlockCodeModel_made 69 = .ok (.iconst 0, 1) := by decide +kernel
theorem d_BlockCodeModel_made_70 : decode b_BlockCodeModel_made 70 = .ok (.istore 8, 2) := by decide +kernel
theorem d_BlockCodeModel_made_72 : decode b_BlockCodeModel_made 72 = .ok (.iload 8, 2) := by decide +kernel
theorem d_BlockCodeModel_made_74 : decode b_BlockCodeModel_made 74 = .ok (.iload 7, 2) := by decide +kernel
theorem d_BlockCodeModel_made_76 : decode b_BlockCodeModel_made 76 = .ok (.if_icmp .ge 51, 3) := by decide +kernel
theorem d_BlockCodeModel_made_79 : decode b_BlockCodeModel_made 79 = .ok (.aload_n 0, 1) := by decide +kernel
theorem d_BlockCodeModel_made_80 : decode b_BlockCodeModel_made 80 = .ok (.getfield 44, 3) := by decide +kernel
theorem d_BlockCodeModel_made_83 : decode b_BlockCodeModel_made 83 = .ok (.bipush 40, 2) := by decide +kernel
theorem d_BlockCodeModel_made_85 : decode b_BlockCodeModel_made 85 = .ok (.iload_n 1, 1) := by decide +kernel
theorem d_BlockCodeModel_made_86 : decode b_BlockCodeModel_made 86 = .ok (.imul, 1) := by decide +kernel
theorem d_BlockCodeModel_made_87 : decode b_BlockCodeModel_made 87 = .ok (.iconst 2, 1) := by decide +kernel
theorem d_BlockCodeModel_made_88 : decode b_BlockCodeModel_made 88 = .ok (.iload 8, 2) := by decide +kernel
theorem d_BlockCodeModel_made_90 : decode b_BlockCodeModel_made 90 = .ok (.imul, 1) := by decide +kernel
theorem d_BlockCodeModel_made_91 : decode b_BlockCodeModel_made 91 = .ok (.iadd, 1) := by decide +kernel
theorem d_BlockCodeModel_made_92 : decode b_BlockCodeModel_made 92 = .ok (.iaload, 1) := by decide +kernel
theorem d_BlockCodeModel_made_93 : decode b_BlockCodeModel_made 93 = .ok (.iload_n 3, 1) := by decide +kernel
theorem d_BlockCodeModel_made_94 : decode b_BlockCodeModel_made 94 = .ok (.if_icmp .ne 27, 3) := by decide +kernel
theorem d_BlockCodeModel_made_97 : decode b_BlockCodeModel_made 97 = .ok (.aload_n 0, 1) := by decide +kernel
theorem d_BlockCodeModel_made_98 : decode b_BlockCodeModel_made 98 = .ok (.getfield 44, 3) := by decide +kernel
theorem d_BlockCodeModel_made_101 : decode b_BlockCodeModel_made 101 = .ok (.bipush 40, 2) := by decide +kernel
theorem d_BlockCodeModel_made_103 : decode b_BlockCodeModel_made 103 = .ok (.iload_n 1, 1) := by decide +kernel
theorem d_BlockCodeModel_made_104 : decode b_BlockCodeModel_made 104 = .ok (.imul, 1) := by decide +kernel
theorem d_BlockCodeModel_made_105 : decode b_BlockCodeModel_made 105 = .ok (.iconst 2, 1) := by decide +kernel
theorem d_BlockCodeModel_made_106 : decode b_BlockCodeModel_made 106 = .ok (.iload 8, 2) := by decide +kernel
theorem d_BlockCodeModel_made_108 : decode b_BlockCodeModel_made 108 = .ok (.imul, 1) := by decide +kernel
theorem d_BlockCodeModel_made_109 : decode b_BlockCodeModel_made 109 = .ok (.iadd, 1) := by decide +kernel
theorem d_BlockCodeModel_made_110 : decode b_BlockCodeModel_made 110 = .ok (.iconst 1, 1) := by decide +kernel
theorem d_BlockCodeModel_made_111 : decode b_BlockCodeModel_made 111 = .ok (.iadd, 1) := by decide +kernel
theorem d_BlockCodeModel_made_112 : decode b_BlockCodeModel_made 112 = .ok (.iaload, 1) := by decide +kernel
theorem d_BlockCodeModel_made_113 : decode b_BlockCodeModel_made 113 = .ok (.iload 4, 2) := by decide +kernel
theorem d_BlockCodeModel_made_115 : decode b_BlockCodeModel_made 115 = .ok (.if_icmp .ne 6, 3) := by decide +kernel
theorem d_BlockCodeModel_made_118 : decode b_BlockCodeModel_made 118 = .ok (.iconst 1, 1) := by decide +kernel
theorem d_BlockCodeModel_made_119 : decode b_BlockCodeModel_made 119 = .ok (.istore 6, 2) := by decide +kernel
theorem d_BlockCodeModel_made_121 : decode b_BlockCodeModel_made 121 = .ok (.iinc 8 1, 3) := by decide +kernel
theorem d_BlockCodeModel_made_124 : decode b_BlockCodeModel_made 124 = .ok (.goto (-52), 3) := by decide +kernel
theorem d_BlockCodeModel_made_127 : decode b_BlockCodeModel_made 127 = .ok (.iload 6, 2) := by decide +kernel
theorem d_BlockCodeModel_made_129 : decode b_BlockCodeModel_made 129 = .ok (.ifCond .ne 46, 3) := by decide +kernel
theorem d_BlockCodeModel_made_132 : decode b_BlockCodeModel_made 132 = .ok (.aload_n 0, 1) := by decide +kernel
theorem d_BlockCodeModel_made_133 : decode b_BlockCodeModel_made 133 = .ok (.getfield 44, 3) := by decide +kernel
theorem d_BlockCodeModel_made_136 : decode b_BlockCodeModel_made 136 = .ok (.bipush 40, 2) := by decide +kernel
theorem d_BlockCodeModel_made_138 : decode b_BlockCodeModel_made 138 = .ok (.iload_n 1, 1) := by decide +kernel
theorem d_BlockCodeModel_made_139 : decode b_BlockCodeModel_made 139 = .ok (.imul, 1) := by decide +kernel
theorem d_BlockCodeModel_made_140 : decode b_BlockCodeModel_made 140 = .ok (.iconst 2, 1) := by decide +kernel
theorem d_BlockCodeModel_made_141 : decode b_BlockCodeModel_made 141 = .ok (.iload 7, 2) := by decide +kernel
theorem d_BlockCodeModel_made_143 : decode b_BlockCodeModel_made 143 = .ok (.imul, 1) := by decide +kernel
theorem d_BlockCodeModel_made_144 : decode b_BlockCodeModel_made 144 = .ok (.iadd, 1) := by decide +kernel
theorem d_BlockCodeModel_made_145 : decode b_BlockCodeModel_made 145 = .ok (.iload_n 3, 1) := by decide +kernel
theorem d_BlockCodeModel_made_146 : decode b_BlockCodeModel_made 146 = .ok (.iastore, 1) := by decide +kernel
theorem d_BlockCodeModel_made_147 : decode b_BlockCodeModel_made 147 = .ok (.aload_n 0, 1) := by decide +kernel
theorem d_BlockCodeModel_made_148 : decode b_BlockCodeModel_made 148 = .ok (.getfield 44, 3) := by decide +kernel
theorem d_BlockCodeModel_made_151 : decode b_BlockCodeModel_made 151 = .ok (.bipush 40, 2) := by decide +kernel
theorem d_BlockCodeModel_made_153 : decode b_BlockCodeModel_made 153 = .ok (.iload_n 1, 1) := by decide +kernel
theorem d_BlockCodeModel_made_154 : decode b_BlockCodeModel_made 154 = .ok (.imul, 1) := by decide +kernel
theorem d_BlockCodeModel_made_155 : decode b_BlockCodeModel_made 155 = .ok (.iconst 2, 1) := by decide +kernel
theorem d_BlockCodeModel_made_156 : decode b_BlockCodeModel_made 156 = .ok (.iload 7, 2) := by decide +kernel
theorem d_BlockCodeModel_made_158 : decode b_BlockCodeModel_made 158 = .ok (.imul, 1) := by decide +kernel
theorem d_BlockCodeModel_made_159 : decode b_BlockCodeModel_made 159 = .ok (.iadd, 1) := by decide +kernel
theorem d_BlockCodeModel_made_160 : decode b_BlockCodeModel_made 160 = .ok (.iconst 1, 1) := by decide +kernel
theorem d_BlockCodeModel_made_161 : decode b_BlockCodeModel_made 161 = .ok (.iadd, 1) := by decide +kernel
theorem d_BlockCodeModel_made_162 : decode b_BlockCodeModel_made 162 = .ok (.iload 4, 2) := by decide +kernel
theorem d_BlockCodeModel_made_164 : decode b_BlockCodeModel_made 164 = .ok (.iastore, 1) := by decide +kernel
theorem d_BlockCodeModel_made_165 : decode b_BlockCodeModel_made 165 = .ok (.aload_n 0, 1) := by decide +kernel
theorem d_BlockCodeModel_made_166 : decode b_BlockCodeModel_made 166 = .ok (.getfield 47, 3) := by decide +kernel
theorem d_BlockCodeModel_made_169 : decode b_BlockCodeModel_made 169 = .ok (.iload_n 1, 1) := by decide +kernel
theorem d_BlockCodeModel_made_170 : decode b_BlockCodeModel_made 170 = .ok (.iload 7, 2) := by decide +kernel
theorem d_BlockCodeModel_made_172 : decode b_BlockCodeModel_made 172 = .ok (.iconst 1, 1) := by decide +kernel
theorem d_BlockCodeModel_made_173 : decode b_BlockCodeModel_made 173 = .ok (.iadd, 1) := by decide +kernel
theorem d_BlockCodeModel_made_174 : decode b_BlockCodeModel_made 174 = .ok (.iastore, 1) := by decide +kernel
theorem d_BlockCodeModel_made_175 : decode b_BlockCodeModel_made 175 = .ok (.iload 5, 2) := by decide +kernel
theorem d_BlockCodeModel_made_177 : decode b_BlockCodeModel_made 177 = .ok (.ifCond .eq 29, 3) := by decide +kernel
theorem d_BlockCodeModel_made_180 : decode b_BlockCodeModel_made 180 = .ok (.aload_n 0, 1) := by decide +kernel
theorem d_BlockCodeModel_made_181 : decode b_BlockCodeModel_made 181 = .ok (.iconst 1, 1) := by decide +kernel
theorem d_BlockCodeModel_made_182 : decode b_BlockCodeModel_made 182 = .ok (.iload_n 2, 1) := by decide +kernel
theorem d_BlockCodeModel_made_183 : decode b_BlockCodeModel_made 183 = .ok (.aload_n 0, 1) := by decide +kernel
theorem d_BlockCodeModel_made_184 : decode b_BlockCodeModel_made 184 = .ok (.getfield 35, 3) := by decide +kernel
theorem d_BlockCodeModel_made_187 : decode b_BlockCodeModel_made 187 = .ok (.iload_n 3, 1) := by decide +kernel
theorem d_BlockCodeModel_made_188 : decode b_BlockCodeModel_made 188 = .ok (.iaload, 1) := by decide +kernel
theorem d_BlockCodeModel_made_189 : decode b_BlockCodeModel_made 189 = .ok (.aload_n 0, 1) := by decide +kernel
theorem d_BlockCodeModel_made_190 : decode b_BlockCodeModel_made 190 = .ok (.getfield 35, 3) := by decide +kernel
theorem d_BlockCodeModel_made_193 : decode b_BlockCodeModel_made 193 = .ok (.iload 4, 2) := by decide +kernel
theorem d_BlockCodeModel_made_195 : decode b_BlockCodeModel_made 195 = .ok (.iaload, 1) := by decide +kernel
theorem d_BlockCodeModel_made_196 : decode b_BlockCodeModel_made 196 = .ok (.invokestatic 110, 3) := by decide +kernel
theorem d_BlockCodeModel_made_199 : decode b_BlockCodeModel_made 199 = .ok (.iconst 0, 1) := by decide +kernel
theorem d_BlockCodeModel_made_200 : decode b_BlockCodeModel_made 200 = .ok (.invokevirtual 140, 3) := by decide +kernel
theorem d_BlockCodeModel_made_203 : decode b_BlockCodeModel_made 203 = .ok (.goto 11, 3) := by decide +kernel
theorem d_BlockCodeModel_made_206 : decode b_BlockCodeModel_made 206 = .ok (.aload_n 0, 1) := by decide +kernel
theorem d_BlockCodeModel_made_207 : decode b_BlockCodeModel_made 207 = .ok (.iload_n 2, 1) := by decide +kernel
theorem d_BlockCodeModel_made_208 : decode b_BlockCodeModel_made 208 = .ok (.iload_n 3, 1) := by decide +kernel
theorem d_BlockCodeModel_made_209 : decode b_BlockCodeModel_made 209 = .ok (.iload 4, 2) := by decide +kernel
theorem d_BlockCodeModel_made_211 : decode b_BlockCodeModel_made 211 = .ok (.invokevirtual 140, 3) := by decide +kernel
theorem d_BlockCodeModel_made_214 : decode b_BlockCodeModel_made 214 = .ok (.ireturn, 1) := by decide +kernel
theorem d_BlockCodeModel_leave_0 : decode b_BlockCodeModel_leave 0 = .ok (.aload_n 0, 1) := by decide +kernel
theorem d_BlockCodeModel_leave_1 : decode b_BlockCodeModel_leave 1 = .ok (.getfield 50, 3) := by decide +kernel
theorem d_BlockCodeModel_leave_4 : decode b_BlockCodeModel_leave 4 = .ok (.iload_n 1, 1) := by decide +kernel
theorem d_BlockCodeModel_leave_5 : decode b_BlockCodeModel_leave 5 = .ok (.iload_n 2, 1) := by decide +kernel
theorem d_BlockCodeModel_leave_6 : decode b_BlockCodeModel_leave 6 = .ok (.iastore, 1) := by decide +kernel
theorem d_BlockCodeModel_leave_7 : decode b_BlockCodeModel_leave 7 = .ok (.aload_n 0, 1) := by decide +kernel
theorem d_BlockCodeModel_leave_8 : decode b_BlockCodeModel_leave 8 = .ok (.getfield 53, 3) := by decide +kernel
theorem d_BlockCodeModel_leave_11 : decode b_BlockCodeModel_leave 11 = .ok (.iload_n 1, 1) := by decide +kernel
theorem d_BlockCodeModel_leave_12 : decode b_BlockCodeModel_leave 12 = .ok (.iload_n 3, 1) := by decide +kernel
theorem d_BlockCodeModel_leave_13 : decode b_BlockCodeModel_leave 13 = .ok (.iastore, 1) := by decide +kernel
theorem d_BlockCodeModel_leave_14 : decode b_BlockCodeModel_leave 14 = .ok (.aload_n 0, 1) := by decide +kernel
theorem d_BlockCodeModel_leave_15 : decode b_BlockCodeModel_leave 15 = .ok (.getfield 56, 3) := by decide +kernel
theorem d_BlockCodeModel_leave_18 : decode b_BlockCodeModel_leave 18 = .ok (.iload_n 1, 1) := by decide +kernel
theorem d_BlockCodeModel_leave_19 : decode b_BlockCodeModel_leave 19 = .ok (.iload_n 2, 1) := by decide +kernel
theorem d_BlockCodeModel_leave_20 : decode b_BlockCodeModel_leave 20 = .ok (.iconst 2, 1) := by decide +kernel
theorem d_BlockCodeModel_leave_21 : decode b_BlockCodeModel_leave 21 = .ok (.if_icmp .ne 8, 3) := by decide +kernel
theorem d_BlockCodeModel_leave_24 : decode b_BlockCodeModel_leave 24 = .ok (.iload 4, 2) := by decide +kernel
theorem d_BlockCodeModel_leave_26 : decode b_BlockCodeModel_leave 26 = .ok (.goto 4, 3) := by decide +kernel
theorem d_BlockCodeModel_leave_29 : decode b_BlockCodeModel_leave 29 = .ok (.iconst 0, 1) := by decide +kernel
theorem d_BlockCodeModel_leave_30 : decode b_BlockCodeModel_leave 30 = .ok (.iastore, 1) := by decide +kernel
theorem d_BlockCodeModel_leave_31 : decode b_BlockCodeModel_leave 31 = .ok (.return_, 1) := by decide +kernel
theorem d_BlockCodeModel_walk_0 : decode b_BlockCodeModel_walk 0 = .ok (.iconst 5, 1) := by decide +kernel
theorem d_BlockCodeModel_walk_1 : decode b_BlockCodeModel_walk 1 = .ok (.iload_n 1, 1) := by decide +kernel
theorem d_BlockCodeModel_walk_2 : decode b_BlockCodeModel_walk 2 = .ok (.imul, 1) := by decide +kernel
theorem d_BlockCodeModel_walk_3 : decode b_BlockCodeModel_walk 3 = .ok (.istore 4, 2) := by decide +kernel
theorem d_BlockCodeModel_walk_5 : decode b_BlockCodeModel_walk 5 = .ok (.aload_n 0, 1) := by decide +kernel
theorem d_BlockCodeModel_walk_6 : decode b_BlockCodeModel_walk 6 = .ok (.getfield 47, 3) := by decide +kernel
theorem d_BlockCodeModel_walk_9 : decode b_BlockCodeModel_walk 9 = .ok (.iload_n 1, 1) := by decide +kernel
theorem d_BlockCodeModel_walk_10 : decode b_BlockCodeModel_walk 10 = .ok (.iconst 0, 1) := by decide +kernel
theorem d_BlockCodeModel_walk_11 : decode b_BlockCodeModel_walk 11 = .ok (.iastore, 1) := by decide +kernel
theorem d_BlockCodeModel_walk_12 : decode b_BlockCodeModel_walk 12 = .ok (.aload_n 0, 1) := by decide +kernel
theorem d_BlockCodeModel_walk_13 : decode b_BlockCodeModel_walk 13 = .ok (.getfield 50, 3) := by decide +kernel
theorem d_BlockCodeModel_walk_16 : decode b_BlockCodeModel_walk 16 = .ok (.iload_n 1, 1) := by decide +kernel
theorem d_BlockCodeModel_walk_17 : decode b_BlockCodeModel_walk 17 = .ok (.iconst 0, 1) := by decide +kernel
theorem d_BlockCodeModel_walk_18 : decode b_BlockCodeModel_walk 18 = .ok (.iastore, 1) := by decide +kernel
theorem d_BlockCodeModel_walk_19 : decode b_BlockCodeModel_walk 19 = .ok (.iconst 0, 1) := by decide +kernel
theorem d_BlockCodeModel_walk_20 : decode b_BlockCodeModel_walk 20 = .ok (.istore 5, 2) := by decide +kernel
theorem d_BlockCodeModel_walk_22 : decode b_BlockCodeModel_walk 22 = .ok (.iload 5, 2) := by decide +kernel
theorem d_BlockCodeModel_walk_24 : decode b_BlockCodeModel_walk 24 = .ok (.iconst 5, 1) := by decide +kernel
theorem d_BlockCodeModel_walk_25 : decode b_BlockCodeModel_walk 25 = .ok (.if_icmp .ge 61, 3) := by decide +kernel
theorem d_BlockCodeModel_walk_28 : decode b_BlockCodeModel_walk 28 = .ok (.aload_n 0, 1) := by decide +kernel
theorem d_BlockCodeModel_walk_29 : decode b_BlockCodeModel_walk 29 = .ok (.getfield 41, 3) := by decide +kernel
theorem d_BlockCodeModel_walk_32 : decode b_BlockCodeModel_walk 32 = .ok (.iload 4, 2) := by decide +kernel
theorem d_BlockCodeModel_walk_34 : decode b_BlockCodeModel_walk 34 = .ok (.iload 5, 2) := by decide +kernel
theorem d_BlockCodeModel_walk_36 : decode b_BlockCodeModel_walk 36 = .ok (.iadd, 1) := by decide +kernel
theorem d_BlockCodeModel_walk_37 : decode b_BlockCodeModel_walk 37 = .ok (.aload_n 0, 1) := by decide +kernel
theorem d_BlockCodeModel_walk_38 : decode b_BlockCodeModel_walk 38 = .ok (.getfield 20, 3) := by decide +kernel
theorem d_BlockCodeModel_walk_41 : decode b_BlockCodeModel_walk 41 = .ok (.iconst 5, 1) := by decide +kernel
theorem d_BlockCodeModel_walk_42 : decode b_BlockCodeModel_walk 42 = .ok (.iload_n 2, 1) := by decide +kernel
theorem d_BlockCodeModel_walk_43 : decode b_BlockCodeModel_walk 43 = .ok (.imul, 1) := by decide +kernel
theorem d_BlockCodeModel_walk_44 : decode b_BlockCodeModel_walk 44 = .ok (.iload 5, 2) := by decide +kernel
theorem d_BlockCodeModel_walk_46 : decode b_BlockCodeModel_walk 46 = .ok (.iadd, 1) := by decide +kernel
theorem d_BlockCodeModel_walk_47 : decode b_BlockCodeModel_walk 47 = .ok (.baload, 1) := by decide +kernel
theorem d_BlockCodeModel_walk_48 : decode b_BlockCodeModel_walk 48 = .ok (.ifCond .eq 23, 3) := by decide +kernel
theorem d_BlockCodeModel_walk_51 : decode b_BlockCodeModel_walk 51 = .ok (.aload_n 0, 1) := by decide +kernel
theorem d_BlockCodeModel_walk_52 : decode b_BlockCodeModel_walk 52 = .ok (.iconst 1, 1) := by decide +kernel
theorem d_BlockCodeModel_walk_53 : decode b_BlockCodeModel_walk 53 = .ok (.aload_n 0, 1) := by decide +kernel
theorem d_BlockCodeModel_walk_54 : decode b_BlockCodeModel_walk 54 = .ok (.getfield 23, 3) := by decide +kernel
theorem d_BlockCodeModel_walk_57 : decode b_BlockCodeModel_walk 57 = .ok (.iconst 5, 1) := by decide +kernel
theorem d_BlockCodeModel_walk_58 : decode b_BlockCodeModel_walk 58 = .ok (.iload_n 2, 1) := by decide +kernel
theorem d_BlockCodeModel_walk_59 : decode b_BlockCodeModel_walk 59 = .ok (.imul, 1) := by decide +kernel
theorem d_BlockCodeModel_walk_60 : decode b_BlockCodeModel_walk 60 = .ok (.iload 5, 2) := by decide +kernel
theorem d_BlockCodeModel_walk_62 : decode b_BlockCodeModel_walk 62 = .ok (.iadd, 1) := by decide +kernel
theorem d_BlockCodeModel_walk_63 : decode b_BlockCodeModel_walk 63 = .ok (.iaload, 1) := by decide +kernel
theorem d_BlockCodeModel_walk_64 : decode b_BlockCodeModel_walk 64 = .ok (.iconst 0, 1) := by decide +kernel
theorem d_BlockCodeModel_walk_65 : decode b_BlockCodeModel_walk 65 = .ok (.invokevirtual 140, 3) := by decide +kernel
theorem d_BlockCodeModel_walk_68 : decode b_BlockCodeModel_walk 68 = .ok (.goto 11, 3) := by decide +kernel
theorem d_BlockCodeModel_walk_71 : decode b_BlockCodeModel_walk 71 = .ok (.aload_n 0, 1) := by decide +kernel
theorem d_BlockCodeModel_walk_72 : decode b_BlockCodeModel_walk 72 = .ok (.iconst 0, 1) := by decide +kernel
theorem d_BlockCodeModel_walk_73 : decode b_BlockCodeModel_walk 73 = .ok (.iload 5, 2) := by decide +kernel
theorem d_BlockCodeModel_walk_75 : decode b_BlockCodeModel_walk 75 = .ok (.iconst 0, 1) := by decide +kernel
theorem d_BlockCodeModel_walk_76 : decode b_BlockCodeModel_walk 76 = .ok (.invokevirtual 140, 3) := by decide +kernel
theorem d_BlockCodeModel_walk_79 : decode b_BlockCodeModel_walk 79 = .ok (.iastore, 1) := by decide +kernel
theorem d_BlockCodeModel_walk_80 : decode b_BlockCodeModel_walk 80 = .ok (.iinc 5 1, 3) := by decide +kernel
theorem d_BlockCodeModel_walk_83 : decode b_BlockCodeModel_walk 83 = .ok (.goto (-61), 3) := by decide +kernel
theorem d_BlockCodeModel_walk_86 : decode b_BlockCodeModel_walk 86 = .ok (.iload_n 2, 1) := by decide +kernel
theorem d_BlockCodeModel_walk_87 : decode b_BlockCodeModel_walk 87 = .ok (.istore 5, 2) := by decide +kernel
theorem d_BlockCodeModel_walk_89 : decode b_BlockCodeModel_walk 89 = .ok (.iload 5, 2) := by decide +kernel
theorem d_BlockCodeModel_walk_91 : decode b_BlockCodeModel_walk 91 = .ok (.iload_n 3, 1) := by decide +kernel
theorem d_BlockCodeModel_walk_92 : decode b_BlockCodeModel_walk 92 = .ok (.if_icmp .ge 294, 3) := by decide +kernel
theorem d_BlockCodeModel_walk_95 : decode b_BlockCodeModel_walk 95 = .ok (.aload_n 0, 1) := by decide +kernel
theorem d_BlockCodeModel_walk_96 : decode b_BlockCodeModel_walk 96 = .ok (.getfield 50, 3) := by decide +kernel
theorem d_BlockCodeModel_walk_99 : decode b_BlockCodeModel_walk 99 = .ok (.iload_n 1, 1) := by decide +kernel
theorem d_BlockCodeModel_walk_100 : decode b_BlockCodeModel_walk 100 = .ok (.iaload, 1) := by decide +kernel
theorem d_BlockCodeModel_walk_101 : decode b_BlockCodeModel_walk 101 = .ok (.ifCond .ne 285, 3) := by decide +kernel
theorem d_BlockCodeModel_walk_104 : decode b_BlockCodeModel_walk 104 = .ok (.bipush 80, 2) := by decide +kernel
theorem d_BlockCodeModel_walk_106 : decode b_BlockCodeModel_walk 106 = .ok (.iload_n 1, 1) := by decide +kernel
theorem d_BlockCodeModel_walk_107 : decode b_BlockCodeModel_walk 107 = .ok (.imul, 1) := by decide +kernel
theorem d_BlockCodeModel_walk_108 : decode b_BlockCodeModel_walk 108 = .ok (.iconst 4, 1) := by decide +kernel
theorem d_BlockCodeModel_walk_109 : decode b_BlockCodeModel_walk 109 = .ok (.iload 5, 2) := by decide +kernel
theorem d_BlockCodeModel_walk_111 : decode b_BlockCodeModel_walk 111 = .ok (.imul, 1) := by decide +kernel
theorem d_BlockCodeModel_walk_112 : decode b_BlockCodeModel_walk 112 = .ok (.iadd, 1) := by decide +kernel
theorem d_BlockCodeModel_walk_113 : decode b_BlockCodeModel_walk 113 = .ok (.istore 6, 2) := by decide +kernel
theorem d_BlockCodeModel_walk_115 : decode b_BlockCodeModel_walk 115 = .ok (.aload_n 0, 1) := by decide +kernel
theorem d_BlockCodeModel_walk_116 : decode b_BlockCodeModel_walk 116 = .ok (.getfield 7, 3) := by decide +kernel
theorem d_BlockCodeModel_walk_119 : decode b_BlockCodeModel_walk 119 = .ok (.iload 6, 2) := by decide +kernel
theorem d_BlockCodeModel_walk_121 : decode b_BlockCodeModel_walk 121 = .ok (.iaload, 1) := by decide +kernel
theorem d_BlockCodeModel_walk_122 : decode b_BlockCodeModel_walk 122 = .ok (.istore 7, 2) := by decide +kernel
theorem d_BlockCodeModel_walk_124 : decode b_BlockCodeModel_walk 124 = .ok (.aload_n 0, 1) := by decide +kernel
theorem d_BlockCodeModel_walk_125 : decode b_BlockCodeModel_walk 125 = .ok (.getfield 7, 3) := by decide +kernel
theorem d_BlockCodeModel_walk_128 : decode b_BlockCodeModel_walk 128 = .ok (.iload 6, 2) := by decide +kernel
theorem d_BlockCodeModel_walk_130 : decode b_BlockCodeModel_walk 130 = .ok (.iconst 1, 1) := by decide +kernel
theorem d_BlockCodeModel_walk_131 : decode b_BlockCodeModel_walk 131 = .ok (.iadd, 1) := by decide +kernel
theorem d_BlockCodeModel_walk_132 : decode b_BlockCodeModel_walk 132 = .ok (.iaload, 1) := by decide +kernel
theorem d_BlockCodeModel_walk_133 : decode b_BlockCodeModel_walk 133 = .ok (.istore 8, 2) := by decide +kernel
theorem d_BlockCodeModel_walk_135 : decode b_BlockCodeModel_walk 135 = .ok (.aload_n 0, 1) := by decide +kernel
theorem d_BlockCodeModel_walk_136 : decode b_BlockCodeModel_walk 136 = .ok (.getfield 7, 3) := by decide +kernel
theorem d_BlockCodeModel_walk_139 : decode b_BlockCodeModel_walk 139 = .ok (.iload 6, 2) := by decide +kernel
theorem d_BlockCodeModel_walk_141 : decode b_BlockCodeModel_walk 141 = .ok (.iconst 2, 1) := by decide +kernel
theorem d_BlockCodeModel_walk_142 : decode b_BlockCodeModel_walk 142 = .ok (.iadd, 1) := by decide +kernel
theorem d_BlockCodeModel_walk_143 : decode b_BlockCodeModel_walk 143 = .ok (.iaload, 1) := by decide +kernel
theorem d_BlockCodeModel_walk_144 : decode b_BlockCodeModel_walk 144 = .ok (.istore 9, 2) := by decide +kernel
theorem d_BlockCodeModel_walk_146 : decode b_BlockCodeModel_walk 146 = .ok (.aload_n 0, 1) := by decide +kernel
theorem d_BlockCodeModel_walk_147 : decode b_BlockCodeModel_walk 147 = .ok (.getfield 7, 3) := by decide +kernel
theorem d_BlockCodeModel_walk_150 : decode b_BlockCodeModel_walk 150 = .ok (.iload 6, 2) := by decide +kernel
theorem d_BlockCodeModel_walk_152 : decode b_BlockCodeModel_walk 152 = .ok (.iconst 3, 1) := by decide +kernel
theorem d_BlockCodeModel_walk_153 : decode b_BlockCodeModel_walk 153 = .ok (.iadd, 1) := by decide +kernel
theorem d_BlockCodeModel_walk_154 : decode b_BlockCodeModel_walk 154 = .ok (.iaload, 1) := by decide +kernel
theorem d_BlockCodeModel_walk_155 : decode b_BlockCodeModel_walk 155 = .ok (.istore 10, 2) := by decide +kernel
theorem d_BlockCodeModel_walk_157 : decode b_BlockCodeModel_walk 157 = .ok (.aload_n 0, 1) := by decide +kernel
theorem d_BlockCodeModel_walk_158 : decode b_BlockCodeModel_walk 158 = .ok (.getfield 59, 3) := by decide +kernel
theorem d_BlockCodeModel_walk_161 : decode b_BlockCodeModel_walk 161 = .ok (.iload_n 1, 1) := by decide +kernel
theorem d_BlockCodeModel_walk_162 : decode b_BlockCodeModel_walk 162 = .ok (.iload 5, 2) := by decide +kernel
theorem d_BlockCodeModel_walk_164 : decode b_BlockCodeModel_walk 164 = .ok (.iastore, 1) := by decide +kernel
theorem d_BlockCodeModel_walk_165 : decode b_BlockCodeModel_walk 165 = .ok (.iload 7, 2) := by decide +kernel
theorem d_BlockCodeModel_walk_167 : decode b_BlockCodeModel_walk 167 = .ok (.iconst 1, 1) := by decide +kernel
theorem d_BlockCodeModel_walk_168 : decode b_BlockCodeModel_walk 168 = .ok (.if_icmp .ne 21, 3) := by decide +kernel
theorem d_BlockCodeModel_walk_171 : decode b_BlockCodeModel_walk 171 = .ok (.aload_n 0, 1) := by decide +kernel
theorem d_BlockCodeModel_walk_172 : decode b_BlockCodeModel_walk 172 = .ok (.getfield 41, 3) := by decide +kernel
theorem d_BlockCodeModel_walk_175 : decode b_BlockCodeModel_walk 175 = .ok (.iload 4, 2) := by decide +kernel
theorem d_BlockCodeModel_walk_177 : decode b_BlockCodeModel_walk 177 = .ok (.iload 8, 2) := by decide +kernel
theorem d_BlockCodeModel_walk_179 : decode b_BlockCodeModel_walk 179 = .ok (.iadd, 1) := by decide +kernel
theorem d_BlockCodeModel_walk_180 : decode b_BlockCodeModel_walk 180 = .ok (.aload_n 0, 1) := by decide +kernel
theorem d_BlockCodeModel_walk_181 : decode b_BlockCodeModel_walk 181 = .ok (.iconst 1, 1) := by decide +kernel
theorem d_BlockCodeModel_walk_182 : decode b_BlockCodeModel_walk 182 = .ok (.iload 9, 2) := by decide +kernel
theorem d_BlockCodeModel_walk_184 : decode b_BlockCodeModel_walk 184 = .ok (.iconst 0, 1) := by decide +kernel
theorem d_BlockCodeModel_walk_185 : decode b_BlockCodeModel_walk 185 = .ok (.invokevirtual 140, 3) := by decide +kernel
theorem d_BlockCodeModel_walk_188 : decode b_BlockCodeModel_walk 188 = .ok (.iastore, 1) := by decide +kernel
theorem d_BlockCodeModel_walk_189 : decode b_BlockCodeModel_walk 189 = .ok (.iload 7, 2) := by decide +kernel
theorem d_BlockCodeModel_walk_191 : decode b_BlockCodeModel_walk 191 = .ok (.iconst 2, 1) := by decide +kernel
theorem d_BlockCodeModel_walk_192 : decode b_BlockCodeModel_walk 192 = .ok (.if_icmp .ne 23, 3) := by decide +kernel
theorem d_BlockCodeModel_walk_195 : decode b_BlockCodeModel_walk 195 = .ok (.aload_n 0, 1) := by decide +kernel
theorem d_BlockCodeModel_walk_196 : decode b_BlockCodeModel_walk 196 = .ok (.getfield 41, 3) := by decide +kernel
theorem d_BlockCodeModel_walk_199 : decode b_BlockCodeModel_walk 199 = .ok (.iload 4, 2) := by decide +kernel
theorem d_BlockCodeModel_walk_201 : decode b_BlockCodeModel_walk 201 = .ok (.iload 8, 2) := by decide +kernel
theorem d_BlockCodeModel_walk_203 : decode b_BlockCodeModel_walk 203 = .ok (.iadd, 1) := by decide +kernel
theorem d_BlockCodeModel_walk_204 : decode b_BlockCodeModel_walk 204 = .ok (.aload_n 0, 1) := by decide +kernel
theorem d_BlockCodeModel_walk_205 : decode b_BlockCodeModel_walk 205 = .ok (.getfield 41, 3) := by decide +kernel
theorem d_BlockCodeModel_walk_208 : decode b_BlockCodeModel_walk 208 = .ok (.iload 4, 2) := by decide +kernel
theorem d_BlockCodeModel_walk_210 : decode b_BlockCodeModel_walk 210 = .ok (.iload 9, 2) := by decide +kernel
theorem d_BlockCodeModel_walk_212 : decode b_BlockCodeModel_walk 212 = .ok (.iadd, 1) := by decide +kernel
theorem d_BlockCodeModel_walk_213 : decode b_BlockCodeModel_walk 213 = .ok (.iaload, 1) := by decide +kernel
theorem d_BlockCodeModel_walk_214 : decode b_BlockCodeModel_walk 214 = .ok (.iastore, 1) := by decide +kernel
theorem d_BlockCodeModel_walk_215 : decode b_BlockCodeModel_walk 215 = .ok (.iload 7, 2) := by decide +kernel
theorem d_BlockCodeModel_walk_217 : decode b_BlockCodeModel_walk 217 = .ok (.iconst 3, 1) := by decide +kernel
theorem d_BlockCodeModel_walk_218 : decode b_BlockCodeModel_walk 218 = .ok (.bipush 7, 2) := by decide +kernel
theorem d_BlockCodeModel_walk_220 : decode b_BlockCodeModel_walk 220 = .ok (.invokestatic 69, 3) := by decide +kernel
theorem d_BlockCodeModel_walk_223 : decode b_BlockCodeModel_walk 223 = .ok (.ifCond .eq 40, 3) := by decide +kernel
theorem d_BlockCodeModel_walk_226 : decode b_BlockCodeModel_walk 226 = .ok (.aload_n 0, 1) := by decide +kernel
theorem d_BlockCodeModel_walk_227 : decode b_BlockCodeModel_walk 227 = .ok (.getfield 41, 3) := by decide +kernel
theorem d_BlockCodeModel_walk_230 : decode b_BlockCodeModel_walk 230 = .ok (.iload 4, 2) := by decide +kernel
theorem d_BlockCodeModel_walk_232 : decode b_BlockCodeModel_walk 232 = .ok (.iload 8, 2) := by decide +kernel
theorem d_BlockCodeModel_walk_234 : decode b_BlockCodeModel_walk 234 = .ok (.iadd, 1) := by decide +kernel
theorem d_BlockCodeModel_walk_235 : decode b_BlockCodeModel_walk 235 = .ok (.aload_n 0, 1) := by decide +kernel
theorem d_BlockCodeModel_walk_236 : decode b_BlockCodeModel_walk 236 = .ok (.iload_n 1, 1) := by decide +kernel
theorem d_BlockCodeModel_walk_237 : decode b_BlockCodeModel_walk 237 = .ok (.iload 7, 2) := by decide +kernel
theorem d_BlockCodeModel_walk_239 : decode b_BlockCodeModel_walk 239 = .ok (.aload_n 0, 1) := by decide +kernel
theorem d_BlockCodeModel_walk_240 : decode b_BlockCodeModel_walk 240 = .ok (.getfield 41, 3) := by decide +kernel
theorem d_BlockCodeModel_walk_243 : decode b_BlockCodeModel_walk 243 = .ok (.iload 4, 2) := by decide +kernel
theorem d_BlockCodeModel_walk_245 : decode b_BlockCodeModel_walk 245 = .ok (.iload 9, 2) := by decide +kernel
theorem d_BlockCodeModel_walk_247 : decode b_BlockCodeModel_walk 247 = .ok (.iadd, 1) := by decide +kernel
theorem d_BlockCodeModel_walk_248 : decode b_BlockCodeModel_walk 248 = .ok (.iaload, 1) := by decide +kernel
theorem d_BlockCodeModel_walk_249 : decode b_BlockCodeModel_walk 249 = .ok (.aload_n 0, 1) := by decide +kernel
theorem d_BlockCodeModel_walk_250 : decode b_BlockCodeModel_walk 250 = .ok (.getfield 41, 3) := by decide +kernel
theorem d_BlockCodeModel_walk_253 : decode b_BlockCodeModel_walk 253 = .ok (.iload 4, 2) := by decide +kernel
theorem d_BlockCodeModel_walk_255 : decode b_BlockCodeModel_walk 255 = .ok (.iload 10, 2) := by decide +kernel
theorem d_BlockCodeModel_walk_257 : decode b_BlockCodeModel_walk 257 = .ok (.iadd, 1) := by decide +kernel
theorem d_BlockCodeModel_walk_258 : decode b_BlockCodeModel_walk 258 = .ok (.iaload, 1) := by decide +kernel
theorem d_BlockCodeModel_walk_259 : decode b_BlockCodeModel_walk 259 = .ok (.invokevirtual 143, 3) := by decide +kernel
theorem d_BlockCodeModel_walk_262 : decode b_BlockCodeModel_walk 262 = .ok (.iastore, 1) := by decide +kernel
theorem d_BlockCodeModel_walk_263 : decode b_BlockCodeModel_walk 263 = .ok (.iload 7, 2) := by decide +kernel
theorem d_BlockCodeModel_walk_265 : decode b_BlockCodeModel_walk 265 = .ok (.bipush 8, 2) := by decide +kernel
theorem d_BlockCodeModel_walk_267 : decode b_BlockCodeModel_walk 267 = .ok (.if_icmp .ne 12, 3) := by decide +kernel
theorem d_BlockCodeModel_walk_270 : decode b_BlockCodeModel_walk 270 = .ok (.aload_n 0, 1) := by decide +kernel
theorem d_BlockCodeModel_walk_271 : decode b_BlockCodeModel_walk 271 = .ok (.iload_n 1, 1) := by decide +kernel
theorem d_BlockCodeModel_walk_272 : decode b_BlockCodeModel_walk 272 = .ok (.iconst 1, 1) := by decide +kernel
theorem d_BlockCodeModel_walk_273 : decode b_BlockCodeModel_walk 273 = .ok (.iload 9, 2) := by decide +kernel
theorem d_BlockCodeModel_walk_275 : decode b_BlockCodeModel_walk 275 = .ok (.iconst 0, 1) := by decide +kernel
theorem d_BlockCodeModel_walk_276 : decode b_BlockCodeModel_walk 276 = .ok (.invokevirtual 147, 3) := by decide +kernel
theorem d_BlockCodeModel_walk_279 : decode b_BlockCodeModel_walk 279 = .ok (.iload 7, 2) := by decide +kernel
theorem d_BlockCodeModel_walk_281 : decode b_BlockCodeModel_walk 281 = .ok (.bipush 10, 2) := by decide +kernel
theorem d_BlockCodeModel_walk_283 : decode b_BlockCodeModel_walk 283 = .ok (.if_icmp .ne 12, 3) := by decide +kernel
theorem d_BlockCodeModel_walk_286 : decode b_BlockCodeModel_walk 286 = .ok (.aload_n 0, 1) := by decide +kernel
theorem d_BlockCodeModel_walk_287 : decode b_BlockCodeModel_walk 287 = .ok (.iload_n 1, 1) := by decide +kernel
theorem d_BlockCodeModel_walk_288 : decode b_BlockCodeModel_walk 288 = .ok (.iconst 3, 1) := by decide +kernel
theorem d_BlockCodeModel_walk_289 : decode b_BlockCodeModel_walk 289 = .ok (.iload 9, 2) := by decide +kernel
theorem d_BlockCodeModel_walk_291 : decode b_BlockCodeModel_walk 291 = .ok (.iconst 0, 1) := by decide +kernel
theorem d_BlockCodeModel_walk_292 : decode b_BlockCodeModel_walk 292 = .ok (.invokevirtual 147, 3) := by decide +kernel
theorem d_BlockCodeModel_walk_295 : decode b_BlockCodeModel_walk 295 = .ok (.iload 7, 2) := by decide +kernel
theorem d_BlockCodeModel_walk_297 : decode b_BlockCodeModel_walk 297 = .ok (.bipush 9, 2) := by decide +kernel
theorem d_BlockCodeModel_walk_299 : decode b_BlockCodeModel_walk 299 = .ok (.if_icmp .eq 6, 3) := by decide +kernel
theorem d_BlockCodeModel_walk_302 : decode b_BlockCodeModel_walk 302 = .ok (.goto 78, 3) := by decide +kernel
theorem d_BlockCodeModel_walk_305 : decode b_BlockCodeModel_walk 305 = .ok (.aload_n 0, 1) := by decide +kernel
theorem d_BlockCodeModel_walk_306 : decode b_BlockCodeModel_walk 306 = .ok (.getfield 41, 3) := by decide +kernel
theorem d_BlockCodeModel_walk_309 : decode b_BlockCodeModel_walk 309 = .ok (.iload 4, 2) := by decide +kernel
theorem d_BlockCodeModel_walk_311 : decode b_BlockCodeModel_walk 311 = .ok (.iload 9, 2) := by decide +kernel
theorem d_BlockCodeModel_walk_313 : decode b_BlockCodeModel_walk 313 = .ok (.iadd, 1) := by decide +kernel
theorem d_BlockCodeModel_walk_314 : decode b_BlockCodeModel_walk 314 = .ok (.iaload, 1) := by decide +kernel
theorem d_BlockCodeModel_walk_315 : decode b_BlockCodeModel_walk 315 = .ok (.istore 11, 2) := by decide +kernel
theorem d_BlockCodeModel_walk_317 : decode b_BlockCodeModel_walk 317 = .ok (.aload_n 0, 1) := by decide +kernel
theorem d_BlockCodeModel_walk_318 : decode b_BlockCodeModel_walk 318 = .ok (.getfield 32, 3) := by decide +kernel
theorem d_BlockCodeModel_walk_321 : decode b_BlockCodeModel_walk 321 = .ok (.iload 11, 2) := by decide +kernel
theorem d_BlockCodeModel_walk_323 : decode b_BlockCodeModel_walk 323 = .ok (.iaload, 1) := by decide +kernel
