theorem d_BlockCodeModel_field_0 : decode b_BlockCodeModel_field 0 = .ok (.iload_n 2, 1) := by decide +kernel
theorem d_BlockCodeModel_field_1 : decode b_BlockCodeModel_field 1 = .ok (.iconst 0, 1) := by decide +kernel
theorem d_BlockCodeModel_field_2 : decode b_BlockCodeModel_field 2 = .ok (.aload_n 0, 1) := by decide +kernel
theorem d_BlockCodeModel_field_3 : decode b_BlockCodeModel_field 3 = .ok (.getfield 85, 3) := by decide +kernel
theorem d_BlockCodeModel_field_6 : decode b_BlockCodeModel_field 6 = .ok (.iconst 1, 1) := by decide +kernel
theorem d_BlockCodeModel_field_7 : decode b_BlockCodeModel_field 7 = .ok (.isub, 1) := by decide +kernel
theorem d_BlockCodeModel_field_8 : decode b_BlockCodeModel_field 8 = .ok (.invokestatic 69, 3) := by decide +kernel
theorem d_BlockCodeModel_field_11 : decode b_BlockCodeModel_field 11 = .ok (.ifCond .ne 8, 3) := by decide +kernel
theorem d_BlockCodeModel_field_14 : decode b_BlockCodeModel_field 14 = .ok (.bipush (-9), 2) := by decide +kernel
theorem d_BlockCodeModel_field_16 : decode b_BlockCodeModel_field 16 = .ok (.goto 31, 3) := by decide +kernel
theorem d_BlockCodeModel_field_19 : decode b_BlockCodeModel_field 19 = .ok (.iload_n 3, 1) := by decide +kernel
theorem d_BlockCodeModel_field_20 : decode b_BlockCodeModel_field 20 = .ok (.iconst 0, 1) := by decide +kernel
theorem d_BlockCodeModel_field_21 : decode b_BlockCodeModel_field 21 = .ok (.iconst 3, 1) := by decide +kernel
theorem d_BlockCodeModel_field_22 : decode b_BlockCodeModel_field 22 = .ok (.invokestatic 69, 3) := by decide +kernel
theorem d_BlockCodeModel_field_25 : decode b_BlockCodeModel_field 25 = .ok (.ifCond .eq 21, 3) := by decide +kernel
theorem d_BlockCodeModel_field_28 : decode b_BlockCodeModel_field 28 = .ok (.aload_n 0, 1) := by decide +kernel
theorem d_BlockCodeModel_field_29 : decode b_BlockCodeModel_field 29 = .ok (.getfield 7, 3) := by decide +kernel
theorem d_BlockCodeModel_field_32 : decode b_BlockCodeModel_field 32 = .ok (.bipush 80, 2) := by decide +kernel
theorem d_BlockCodeModel_field_34 : decode b_BlockCodeModel_field 34 = .ok (.iload_n 1, 1) := by decide +kernel
theorem d_BlockCodeModel_field_35 : decode b_BlockCodeModel_field 35 = .ok (.imul, 1) := by decide +kernel
theorem d_BlockCodeModel_field_36 : decode b_BlockCodeModel_field 36 = .ok (.iconst 4, 1) := by decide +kernel
theorem d_BlockCodeModel_field_37 : decode b_BlockCodeModel_field 37 = .ok (.iload_n 2, 1) := by decide +kernel
theorem d_BlockCodeModel_field_38 : decode b_BlockCodeModel_field 38 = .ok (.imul, 1) := by decide +kernel
theorem d_BlockCodeModel_field_39 : decode b_BlockCodeModel_field 39 = .ok (.iadd, 1) := by decide +kernel
theorem d_BlockCodeModel_field_40 : decode b_BlockCodeModel_field 40 = .ok (.iload_n 3, 1) := by decide +kernel
theorem d_BlockCodeModel_field_41 : decode b_BlockCodeModel_field 41 = .ok (.iadd, 1) := by decide +kernel
theorem d_BlockCodeModel_field_42 : decode b_BlockCodeModel_field 42 = .ok (.iaload, 1) := by decide +kernel
theorem d_BlockCodeModel_field_43 : decode b_BlockCodeModel_field 43 = .ok (.goto 4, 3) := by decide +kernel
theorem d_BlockCodeModel_field_46 : decode b_BlockCodeModel_field 46 = .ok (.iconst 0, 1) := by decide +kernel
theorem d_BlockCodeModel_field_47 : decode b_BlockCodeModel_field 47 = .ok (.ireturn, 1) := by decide +kernel
theorem d_BlockCodeModel_source_0 : decode b_BlockCodeModel_source 0 = .ok (.aload_n 0, 1) := by decide +kernel
theorem d_BlockCodeModel_source_1 : decode b_BlockCodeModel_source 1 = .ok (.iconst 0, 1) := by decide +kernel
theorem d_BlockCodeModel_source_2 : decode b_BlockCodeModel_source 2 = .ok (.putfield 65, 3) := by decide +kernel
theorem d_BlockCodeModel_source_5 : decode b_BlockCodeModel_source 5 = .ok (.aload_n 0, 1) := by decide +kernel
theorem d_BlockCodeModel_source_6 : decode b_BlockCodeModel_source 6 = .ok (.iconst 0, 1) := by decide +kernel
theorem d_BlockCodeModel_source_7 : decode b_BlockCodeModel_source 7 = .ok (.iload_n 1, 1) := by decide +kernel
theorem d_BlockCodeModel_source_8 : decode b_BlockCodeModel_source 8 = .ok (.iload_n 2, 1) := by decide +kernel
theorem d_BlockCodeModel_source_9 : decode b_BlockCodeModel_source 9 = .ok (.invokevirtual 106, 3) := by decide +kernel
theorem d_BlockCodeModel_source_12 : decode b_BlockCodeModel_source 12 = .ok (.ireturn, 1) := by decide +kernel
theorem d_BlockCodeModel_result_0 : decode b_BlockCodeModel_result 0 = .ok (.aload_n 0, 1) := by decide +kernel
theorem d_BlockCodeModel_result_1 : decode b_BlockCodeModel_result 1 = .ok (.iconst 0, 1) := by decide +kernel
theorem d_BlockCodeModel_result_2 : decode b_BlockCodeModel_result 2 = .ok (.putfield 65, 3) := by decide +kernel
theorem d_BlockCodeModel_result_5 : decode b_BlockCodeModel_result 5 = .ok (.aload_n 0, 1) := by decide +kernel
theorem d_BlockCodeModel_result_6 : decode b_BlockCodeModel_result 6 = .ok (.getfield 77, 3) := by decide +kernel
theorem d_BlockCodeModel_result_9 : decode b_BlockCodeModel_result 9 = .ok (.ifCond .eq 13, 3) := by decide +kernel
theorem d_BlockCodeModel_result_12 : decode b_BlockCodeModel_result 12 = .ok (.aload_n 0, 1) := by decide +kernel
theorem d_BlockCodeModel_result_13 : decode b_BlockCodeModel_result 13 = .ok (.iconst 1, 1) := by decide +kernel
theorem d_BlockCodeModel_result_14 : decode b_BlockCodeModel_result 14 = .ok (.iload_n 1, 1) := by decide +kernel
theorem d_BlockCodeModel_result_15 : decode b_BlockCodeModel_result 15 = .ok (.iload_n 2, 1) := by decide +kernel
theorem d_BlockCodeModel_result_16 : decode b_BlockCodeModel_result 16 = .ok (.invokevirtual 106, 3) := by decide +kernel
theorem d_BlockCodeModel_result_19 : decode b_BlockCodeModel_result 19 = .ok (.goto 5, 3) := by decide +kernel
theorem d_BlockCodeModel_result_22 : decode b_BlockCodeModel_result 22 = .ok (.bipush (-9), 2) := by decide +kernel
theorem d_BlockCodeModel_result_24 : decode b_BlockCodeModel_result 24 = .ok (.ireturn, 1) := by decide +kernel
theorem d_BlockCodeModel_value_0 : decode b_BlockCodeModel_value 0 = .ok (.iload_n 0, 1) := by decide +kernel
theorem d_BlockCodeModel_value_1 : decode b_BlockCodeModel_value 1 = .ok (.tableswitch 47 3 6 #[31, 35, 39, 43], 31) := by decide +kernel
theorem d_BlockCodeModel_value_32 : decode b_BlockCodeModel_value 32 = .ok (.iload_n 1, 1) := by decide +kernel
theorem d_BlockCodeModel_value_33 : decode b_BlockCodeModel_value 33 = .ok (.iload_n 2, 1) := by decide +kernel
theorem d_BlockCodeModel_value_34 : decode b_BlockCodeModel_value 34 = .ok (.iadd, 1) := by decide +kernel
theorem d_BlockCodeModel_value_35 : decode b_BlockCodeModel_value 35 = .ok (.ireturn, 1) := by decide +kernel
theorem d_BlockCodeModel_value_36 : decode b_BlockCodeModel_value 36 = .ok (.iload_n 1, 1) := by decide +kernel
theorem d_BlockCodeModel_value_37 : decode b_BlockCodeModel_value 37 = .ok (.iload_n 2, 1) := by decide +kernel
theorem d_BlockCodeModel_value_38 : decode b_BlockCodeModel_value 38 = .ok (.isub, 1) := by decide +kernel
theorem d_BlockCodeModel_value_39 : decode b_BlockCodeModel_value 39 = .ok (.ireturn, 1) := by decide +kernel
theorem d_BlockCodeModel_value_40 : decode b_BlockCodeModel_value 40 = .ok (.iload_n 1, 1) := by decide +kernel
theorem d_BlockCodeModel_value_41 : decode b_BlockCodeModel_value 41 = .ok (.iload_n 2, 1) := by decide +kernel
theorem d_BlockCodeModel_value_42 : decode b_BlockCodeModel_value 42 = .ok (.imul, 1) := by decide +kernel
theorem d_BlockCodeModel_value_43 : decode b_BlockCodeModel_value 43 = .ok (.ireturn, 1) := by decide +kernel
theorem d_BlockCodeModel_value_44 : decode b_BlockCodeModel_value 44 = .ok (.iload_n 1, 1) := by decide +kernel
theorem d_BlockCodeModel_value_45 : decode b_BlockCodeModel_value 45 = .ok (.iload_n 2, 1) := by decide +kernel
theorem d_BlockCodeModel_value_46 : decode b_BlockCodeModel_value 46 = .ok (.idiv, 1) := by decide +kernel
theorem d_BlockCodeModel_value_47 : decode b_BlockCodeModel_value 47 = .ok (.ireturn, 1) := by decide +kernel
theorem d_BlockCodeModel_value_48 : decode b_BlockCodeModel_value 48 = .ok (.iload_n 1, 1) := by decide +kernel
theorem d_BlockCodeModel_value_49 : decode b_BlockCodeModel_value 49 = .ok (.iload_n 2, 1) := by decide +kernel
theorem d_BlockCodeModel_value_50 : decode b_BlockCodeModel_value 50 = .ok (.if_icmp .ge 7, 3) := by decide +kernel
theorem d_BlockCodeModel_value_53 : decode b_BlockCodeModel_value 53 = .ok (.iconst 1, 1) := by decide +kernel
theorem d_BlockCodeModel_value_54 : decode b_BlockCodeModel_value 54 = .ok (.goto 4, 3) := by decide +kernel
theorem d_BlockCodeModel_value_57 : decode b_BlockCodeModel_value 57 = .ok (.iconst 0, 1) := by decide +kernel
theorem d_BlockCodeModel_value_58 : decode b_BlockCodeModel_value 58 = .ok (.ireturn, 1) := by decide +kernel
theorem d_BlockCodeModel_flow_0 : decode b_BlockCodeModel_flow 0 = .ok (.iconst 4, 1) := by decide +kernel
theorem d_BlockCodeModel_flow_1 : decode b_BlockCodeModel_flow 1 = .ok (.iload_n 1, 1) := by decide +kernel
theorem d_BlockCodeModel_flow_2 : decode b_BlockCodeModel_flow 2 = .ok (.imul, 1) := by decide +kernel
theorem d_BlockCodeModel_flow_3 : decode b_BlockCodeModel_flow 3 = .ok (.istore_n 3, 1) := by decide +kernel
theorem d_BlockCodeModel_flow_4 : decode b_BlockCodeModel_flow 4 = .ok (.aload_n 0, 1) := by decide +kernel
theorem d_BlockCodeModel_flow_5 : decode b_BlockCodeModel_flow 5 = .ok (.getfield 7, 3) := by decide +kernel
theorem d_BlockCodeModel_flow_8 : decode b_BlockCodeModel_flow 8 = .ok (.iload_n 3, 1) := by decide +kernel
theorem d_BlockCodeModel_flow_9 : decode b_BlockCodeModel_flow 9 = .ok (.iaload, 1) := by decide +kernel
theorem d_BlockCodeModel_flow_10 : decode b_BlockCodeModel_flow 10 = .ok (.istore 4, 2) := by decide +kernel
theorem d_BlockCodeModel_flow_12 : decode b_BlockCodeModel_flow 12 = .ok (.iconst 5, 1) := by decide +kernel
theorem d_BlockCodeModel_flow_13 : decode b_BlockCodeModel_flow 13 = .ok (.iload_n 1, 1) := by decide +kernel
theorem d_BlockCodeModel_flow_14 : decode b_BlockCodeModel_flow 14 = .ok (.imul, 1) := by decide +kernel
theorem d_BlockCodeModel_flow_15 : decode b_BlockCodeModel_flow 15 = .ok (.aload_n 0, 1) := by decide +kernel
theorem d_BlockCodeModel_flow_16 : decode b_BlockCodeModel_flow 16 = .ok (.getfield 7, 3) := by decide +kernel
theorem d_BlockCodeModel_flow_19 : decode b_BlockCodeModel_flow 19 = .ok (.iload_n 3, 1) := by decide +kernel
theorem d_BlockCodeModel_flow_20 : decode b_BlockCodeModel_flow 20 = .ok (.iconst 2, 1) := by decide +kernel
theorem d_BlockCodeModel_flow_21 : decode b_BlockCodeModel_flow 21 = .ok (.iadd, 1) := by decide +kernel
theorem d_BlockCodeModel_flow_22 : decode b_BlockCodeModel_flow 22 = .ok (.iaload, 1) := by decide +kernel
theorem d_BlockCodeModel_flow_23 : decode b_BlockCodeModel_flow 23 = .ok (.iadd, 1) := by decide +kernel
theorem d_BlockCodeModel_flow_24 : decode b_BlockCodeModel_flow 24 = .ok (.istore 5, 2) := by decide +kernel
theorem d_BlockCodeModel_flow_26 : decode b_BlockCodeModel_flow 26 = .ok (.iconst 5, 1) := by decide +kernel
theorem d_BlockCodeModel_flow_27 : decode b_BlockCodeModel_flow 27 = .ok (.iload_n 1, 1) := by decide +kernel
theorem d_BlockCodeModel_flow_28 : decode b_BlockCodeModel_flow 28 = .ok (.imul, 1) := by decide +kernel
theorem d_BlockCodeModel_flow_29 : decode b_BlockCodeModel_flow 29 = .ok (.aload_n 0, 1) := by decide +kernel
theorem d_BlockCodeModel_flow_30 : decode b_BlockCodeModel_flow 30 = .ok (.getfield 7, 3) := by decide +kernel
theorem d_BlockCodeModel_flow_33 : decode b_BlockCodeModel_flow 33 = .ok (.iload_n 3, 1) := by decide +kernel
theorem d_BlockCodeModel_flow_34 : decode b_BlockCodeModel_flow 34 = .ok (.iconst 3, 1) := by decide +kernel
theorem d_BlockCodeModel_flow_35 : decode b_BlockCodeModel_flow 35 = .ok (.iadd, 1) := by decide +kernel
theorem d_BlockCodeModel_flow_36 : decode b_BlockCodeModel_flow 36 = .ok (.iaload, 1) := by decide +kernel
theorem d_BlockCodeModel_flow_37 : decode b_BlockCodeModel_flow 37 = .ok (.iadd, 1) := by decide +kernel
theorem d_BlockCodeModel_flow_38 : decode b_BlockCodeModel_flow 38 = .ok (.istore 6, 2) := by decide +kernel
theorem d_BlockCodeModel_flow_40 : decode b_BlockCodeModel_flow 40 = .ok (.aload_n 0, 1) := by decide +kernel
theorem d_BlockCodeModel_flow_41 : decode b_BlockCodeModel_flow 41 = .ok (.getfield 16, 3) := by decide +kernel
theorem d_BlockCodeModel_flow_44 : decode b_BlockCodeModel_flow 44 = .ok (.iload_n 2, 1) := by decide +kernel
theorem d_BlockCodeModel_flow_45 : decode b_BlockCodeModel_flow 45 = .ok (.baload, 1) := by decide +kernel
theorem d_BlockCodeModel_flow_46 : decode b_BlockCodeModel_flow 46 = .ok (.ifCond .ne 7, 3) := by decide +kernel
theorem d_BlockCodeModel_flow_49 : decode b_BlockCodeModel_flow 49 = .ok (.iconst 1, 1) := by decide +kernel
theorem d_BlockCodeModel_flow_50 : decode b_BlockCodeModel_flow 50 = .ok (.goto 4, 3) := by decide +kernel
theorem d_BlockCodeModel_flow_53 : decode b_BlockCodeModel_flow 53 = .ok (.iconst 0, 1) := by decide +kernel
theorem d_BlockCodeModel_flow_54 : decode b_BlockCodeModel_flow 54 = .ok (.istore 7, 2) := by decide +kernel
theorem d_BlockCodeModel_flow_56 : decode b_BlockCodeModel_flow 56 = .ok (.iconst 0, 1) := by decide +kernel
theorem d_BlockCodeModel_flow_57 : decode b_BlockCodeModel_flow 57 = .ok (.istore 8, 2) := by decide +kernel
theorem d_BlockCodeModel_flow_59 : decode b_BlockCodeModel_flow 59 = .ok (.iload 8, 2) := by decide +kernel
theorem d_BlockCodeModel_flow_61 : decode b_BlockCodeModel_flow 61 = .ok (.iconst 5, 1) := by decide +kernel
theorem d_BlockCodeModel_flow_62 : decode b_BlockCodeModel_flow 62 = .ok (.if_icmp .ge 249, 3) := by decide +kernel
theorem d_BlockCodeModel_flow_65 : decode b_BlockCodeModel_flow 65 = .ok (.aload_n 0, 1) := by decide +kernel
theorem d_BlockCodeModel_flow_66 : decode b_BlockCodeModel_flow 66 = .ok (.getfield 20, 3) := by decide +kernel
theorem d_BlockCodeModel_flow_69 : decode b_BlockCodeModel_flow 69 = .ok (.iconst 5, 1) := by decide +kernel
theorem d_BlockCodeModel_flow_70 : decode b_BlockCodeModel_flow 70 = .ok (.iload_n 1, 1) := by decide +kernel
theorem d_BlockCodeModel_flow_71 : decode b_BlockCodeModel_flow 71 = .ok (.imul, 1) := by decide +kernel
theorem d_BlockCodeModel_flow_72 : decode b_BlockCodeModel_flow 72 = .ok (.iload 8, 2) := by decide +kernel
theorem d_BlockCodeModel_flow_74 : decode b_BlockCodeModel_flow 74 = .ok (.iadd, 1) := by decide +kernel
theorem d_BlockCodeModel_flow_75 : decode b_BlockCodeModel_flow 75 = .ok (.baload, 1) := by decide +kernel
theorem d_BlockCodeModel_flow_76 : decode b_BlockCodeModel_flow 76 = .ok (.istore 9, 2) := by decide +kernel
theorem d_BlockCodeModel_flow_78 : decode b_BlockCodeModel_flow 78 = .ok (.aload_n 0, 1) := by decide +kernel
theorem d_BlockCodeModel_flow_79 : decode b_BlockCodeModel_flow 79 = .ok (.getfield 23, 3) := by decide +kernel
theorem d_BlockCodeModel_flow_82 : decode b_BlockCodeModel_flow 82 = .ok (.iconst 5, 1) := by decide +kernel
theorem d_BlockCodeModel_flow_83 : decode b_BlockCodeModel_flow 83 = .ok (.iload_n 1, 1) := by decide +kernel
theorem d_BlockCodeModel_flow_84 : decode b_BlockCodeModel_flow 84 = .ok (.imul, 1) := by decide +kernel
theorem d_BlockCodeModel_flow_85 : decode b_BlockCodeModel_flow 85 = .ok (.iload 8, 2) := by decide +kernel
theorem d_BlockCodeModel_flow_87 : decode b_BlockCodeModel_flow 87 = .ok (.iadd, 1) := by decide +kernel
theorem d_BlockCodeModel_flow_88 : decode b_BlockCodeModel_flow 88 = .ok (.iaload, 1) := by decide +kernel
theorem d_BlockCodeModel_flow_89 : decode b_BlockCodeModel_flow 89 = .ok (.istore 10, 2) := by decide +kernel
theorem d_BlockCodeModel_flow_91 : decode b_BlockCodeModel_flow 91 = .ok (.iload 4, 2) := by decide +kernel
theorem d_BlockCodeModel_flow_93 : decode b_BlockCodeModel_flow 93 = .ok (.iconst 1, 1) := by decide +kernel
theorem d_BlockCodeModel_flow_94 : decode b_BlockCodeModel_flow 94 = .ok (.bipush 7, 2) := by decide +kernel
theorem d_BlockCodeModel_flow_96 : decode b_BlockCodeModel_flow 96 = .ok (.invokestatic 69, 3) := by decide +kernel
theorem d_BlockCodeModel_flow_99 : decode b_BlockCodeModel_flow 99 = .ok (.ifCond .eq 118, 3) := by decide +kernel
theorem d_BlockCodeModel_flow_102 : decode b_BlockCodeModel_flow 102 = .ok (.aload_n 0, 1) := by decide +kernel
theorem d_BlockCodeModel_flow_103 : decode b_BlockCodeModel_flow 103 = .ok (.getfield 7, 3) := by decide +kernel
theorem d_BlockCodeModel_flow_106 : decode b_BlockCodeModel_flow 106 = .ok (.iload_n 3, 1) := by decide +kernel
theorem d_BlockCodeModel_flow_107 : decode b_BlockCodeModel_flow 107 = .ok (.iconst 1, 1) := by decide +kernel
theorem d_BlockCodeModel_flow_108 : decode b_BlockCodeModel_flow 108 = .ok (.iadd, 1) := by decide +kernel
theorem d_BlockCodeModel_flow_109 : decode b_BlockCodeModel_flow 109 = .ok (.iaload, 1) := by decide +kernel
theorem d_BlockCodeModel_flow_110 : decode b_BlockCodeModel_flow 110 = .ok (.iload 8, 2) := by decide +kernel
theorem d_BlockCodeModel_flow_112 : decode b_BlockCodeModel_flow 112 = .ok (.if_icmp .ne 105, 3) := by decide +kernel
theorem d_BlockCodeModel_flow_115 : decode b_BlockCodeModel_flow 115 = .ok (.iload 4, 2) := by decide +kernel
theorem d_BlockCodeModel_flow_117 : decode b_BlockCodeModel_flow 117 = .ok (.iconst 1, 1) := by decide +kernel
theorem d_BlockCodeModel_flow_118 : decode b_BlockCodeModel_flow 118 = .ok (.if_icmp .eq 29, 3) := by decide +kernel
theorem d_BlockCodeModel_flow_121 : decode b_BlockCodeModel_flow 121 = .ok (.aload_n 0, 1) := by decide +kernel
theorem d_BlockCodeModel_flow_122 : decode b_BlockCodeModel_flow 122 = .ok (.getfield 20, 3) := by decide +kernel
theorem d_BlockCodeModel_flow_125 : decode b_BlockCodeModel_flow 125 = .ok (.iload 5, 2) := by decide +kernel
theorem d_BlockCodeModel_flow_127 : decode b_BlockCodeModel_flow 127 = .ok (.baload, 1) := by decide +kernel
theorem d_BlockCodeModel_flow_128 : decode b_BlockCodeModel_flow 128 = .ok (.ifCond .eq 23, 3) := by decide +kernel
theorem d_BlockCodeModel_flow_131 : decode b_BlockCodeModel_flow 131 = .ok (.iload 4, 2) := by decide +kernel
theorem d_BlockCodeModel_flow_133 : decode b_BlockCodeModel_flow 133 = .ok (.iconst 2, 1) := by decide +kernel
theorem d_BlockCodeModel_flow_134 : decode b_BlockCodeModel_flow 134 = .ok (.if_icmp .eq 13, 3) := by decide +kernel
theorem d_BlockCodeModel_flow_137 : decode b_BlockCodeModel_flow 137 = .ok (.aload_n 0, 1) := by decide +kernel
theorem d_BlockCodeModel_flow_138 : decode b_BlockCodeModel_flow 138 = .ok (.getfield 20, 3) := by decide +kernel
theorem d_BlockCodeModel_flow_141 : decode b_BlockCodeModel_flow 141 = .ok (.iload 6, 2) := by decide +kernel
theorem d_BlockCodeModel_flow_143 : decode b_BlockCodeModel_flow 143 = .ok (.baload, 1) := by decide +kernel
theorem d_BlockCodeModel_flow_144 : decode b_BlockCodeModel_flow 144 = .ok (.ifCond .eq 7, 3) := by decide +kernel
theorem d_BlockCodeModel_flow_147 : decode b_BlockCodeModel_flow 147 = .ok (.iconst 1, 1) := by decide +kernel
theorem d_BlockCodeModel_flow_148 : decode b_BlockCodeModel_flow 148 = .ok (.goto 4, 3) := by decide +kernel
theorem d_BlockCodeModel_flow_151 : decode b_BlockCodeModel_flow 151 = .ok (.iconst 0, 1) := by decide +kernel
theorem d_BlockCodeModel_flow_152 : decode b_BlockCodeModel_flow 152 = .ok (.istore 9, 2) := by decide +kernel
theorem d_BlockCodeModel_flow_154 : decode b_BlockCodeModel_flow 154 = .ok (.iload 9, 2) := by decide +kernel
theorem d_BlockCodeModel_flow_156 : decode b_BlockCodeModel_flow 156 = .ok (.ifCond .ne 7, 3) := by decide +kernel
theorem d_BlockCodeModel_flow_159 : decode b_BlockCodeModel_flow 159 = .ok (.iconst 0, 1) := by decide +kernel
theorem d_BlockCodeModel_flow_160 : decode b_BlockCodeModel_flow 160 = .ok (.goto 55, 3) := by decide +kernel
theorem d_BlockCodeModel_flow_163 : decode b_BlockCodeModel_flow 163 = .ok (.iload 4, 2) := by decide +kernel
theorem d_BlockCodeModel_flow_165 : decode b_BlockCodeModel_flow 165 = .ok (.iconst 1, 1) := by decide +kernel
theorem d_BlockCodeModel_flow_166 : decode b_BlockCodeModel_flow 166 = .ok (.if_icmp .ne 14, 3) := by decide +kernel
theorem d_BlockCodeModel_flow_169 : decode b_BlockCodeModel_flow 169 = .ok (.aload_n 0, 1) := by decide +kernel
theorem d_BlockCodeModel_flow_170 : decode b_BlockCodeModel_flow 170 = .ok (.getfield 7, 3) := by decide +kernel
theorem d_BlockCodeModel_flow_173 : decode b_BlockCodeModel_flow 173 = .ok (.iload_n 3, 1) := by decide +kernel
theorem d_BlockCodeModel_flow_174 : decode b_BlockCodeModel_flow 174 = .ok (.iconst 2, 1) := by decide +kernel
theorem d_BlockCodeModel_flow_175 : decode b_BlockCodeModel_flow 175 = .ok (.iadd, 1) := by decide +kernel
theorem d_BlockCodeModel_flow_176 : decode b_BlockCodeModel_flow 176 = .ok (.iaload, 1) := by decide +kernel
theorem d_BlockCodeModel_flow_177 : decode b_BlockCodeModel_flow 177 = .ok (.goto 38, 3) := by decide +kernel
theorem d_BlockCodeModel_flow_180 : decode b_BlockCodeModel_flow 180 = .ok (.iload 4, 2) := by decide +kernel
theorem d_BlockCodeModel_flow_182 : decode b_BlockCodeModel_flow 182 = .ok (.iconst 2, 1) := by decide +kernel
theorem d_BlockCodeModel_flow_183 : decode b_BlockCodeModel_flow 183 = .ok (.if_icmp .ne 13, 3) := by decide +kernel
theorem d_BlockCodeModel_flow_186 : decode b_BlockCodeModel_flow 186 = .ok (.aload_n 0, 1) := by decide +kernel
theorem d_BlockCodeModel_flow_187 : decode b_BlockCodeModel_flow 187 = .ok (.getfield 23, 3) := by decide +kernel
theorem d_BlockCodeModel_flow_190 : decode b_BlockCodeModel_flow 190 = .ok (.iload 5, 2) := by decide +kernel
theorem d_BlockCodeModel_flow_192 : decode b_BlockCodeModel_flow 192 = .ok (.iaload, 1) := by decide +kernel
theorem d_BlockCodeModel_flow_193 : decode b_BlockCodeModel_flow 193 = .ok (.goto 22, 3) := by decide +kernel
theorem d_BlockCodeModel_flow_196 : decode b_BlockCodeModel_flow 196 = .ok (.iload 4, 2) := by decide +kernel
theorem d_BlockCodeModel_flow_198 : decode b_BlockCodeModel_flow 198 = .ok (.aload_n 0, 1) := by decide +kernel
theorem d_BlockCodeModel_flow_199 : decode b_BlockCodeModel_flow 199 = .ok (.getfield 23, 3) := by decide +kernel
theorem d_BlockCodeModel_flow_202 : decode b_BlockCodeModel_flow 202 = .ok (.iload 5, 2) := by decide +kernel
theorem d_BlockCodeModel_flow_204 : decode b_BlockCodeModel_flow 204 = .ok (.iaload, 1) := by decide +kernel
theorem d_BlockCodeModel_flow_205 : decode b_BlockCodeModel_flow 205 = .ok (.aload_n 0, 1) := by decide +kernel
theorem d_BlockCodeModel_flow_206 : decode b_BlockCodeModel_flow 206 = .ok (.getfield 23, 3) := by decide +kernel
theorem d_BlockCodeModel_flow_209 : decode b_BlockCodeModel_flow 209 = .ok (.iload 6, 2) := by decide +kernel
theorem d_BlockCodeModel_flow_211 : decode b_BlockCodeModel_flow 211 = .ok (.iaload, 1) := by decide +kernel
theorem d_BlockCodeModel_flow_212 : decode b_BlockCodeModel_flow 212 = .ok (.invokestatic 110, 3) := by decide +kernel
theorem d_BlockCodeModel_flow_215 : decode b_BlockCodeModel_flow 215 = .ok (.istore 10, 2) := by decide +kernel
theorem d_BlockCodeModel_flow_217 : decode b_BlockCodeModel_flow 217 = .ok (.aload_n 0, 1) := by decide +kernel
theorem d_BlockCodeModel_flow_218 : decode b_BlockCodeModel_flow 218 = .ok (.getfield 16, 3) := by decide +kernel
theorem d_BlockCodeModel_flow_221 : decode b_BlockCodeModel_flow 221 = .ok (.iload_n 2, 1) := by decide +kernel
theorem d_BlockCodeModel_flow_222 : decode b_BlockCodeModel_flow 222 = .ok (.baload, 1) := by decide +kernel
theorem d_BlockCodeModel_flow_223 : decode b_BlockCodeModel_flow 223 = .ok (.ifCond .ne 32, 3) := by decide +kernel
theorem d_BlockCodeModel_flow_226 : decode b_BlockCodeModel_flow 226 = .ok (.aload_n 0, 1) := by decide +kernel
theorem d_BlockCodeModel_flow_227 : decode b_BlockCodeModel_flow 227 = .ok (.getfield 20, 3) := by decide +kernel
theorem d_BlockCodeModel_flow_230 : decode b_BlockCodeModel_flow 230 = .ok (.iconst 5, 1) := by decide +kernel
theorem d_BlockCodeModel_flow_231 : decode b_BlockCodeModel_flow 231 = .ok (.iload_n 2, 1) := by decide +kernel
theorem d_BlockCodeModel_flow_232 : decode b_BlockCodeModel_flow 232 = .ok (.imul, 1) := by decide +kernel
theorem d_BlockCodeModel_flow_233 : decode b_BlockCodeModel_flow 233 = .ok (.iload 8, 2) := by decide +kernel
theorem d_BlockCodeModel_flow_235 : decode b_BlockCodeModel_flow 235 = .ok (.iadd, 1) := by decide +kernel
theorem d_BlockCodeModel_flow_236 : decode b_BlockCodeModel_flow 236 = .ok (.iload 9, 2) := by decide +kernel
theorem d_BlockCodeModel_flow_238 : decode b_BlockCodeModel_flow 238 = .ok (.bastore, 1) := by decide +kernel
theorem d_BlockCodeModel_flow_239 : decode b_BlockCodeModel_flow 239 = .ok (.aload_n 0, 1) := by decide +kernel
theorem d_BlockCodeModel_flow_240 : decode b_BlockCodeModel_flow 240 = .ok (.getfield 23, 3) := by decide +kernel
theorem d_BlockCodeModel_flow_243 : decode b_BlockCodeModel_flow 243 = .ok (.iconst 5, 1) := by decide +kernel
theorem d_BlockCodeModel_flow_244 : decode b_BlockCodeModel_flow 244 = .ok (.iload_n 2, 1) := by decide +kernel
theorem d_BlockCodeModel_flow_245 : decode b_BlockCodeModel_flow 245 = .ok (.imul, 1) := by decide +kernel
theorem d_BlockCodeModel_flow_246 : decode b_BlockCodeModel_flow 246 = .ok (.iload 8, 2) := by decide +kernel
theorem d_BlockCodeModel_flow_248 : decode b_BlockCodeModel_flow 248 = .ok (.iadd, 1) := by decide +kernel
theorem d_BlockCodeModel_flow_249 : decode b_BlockCodeModel_flow 249 = .ok (.iload 10, 2) := by decide +kernel
theorem d_BlockCodeModel_flow_251 : decode b_BlockCodeModel_flow 251 = .ok (.iastore, 1) := by decide +kernel
theorem d_BlockCodeModel_flow_252 : decode b_BlockCodeModel_flow 252 = .ok (.goto 53, 3) := by decide +kernel
theorem d_BlockCodeModel_flow_255 : decode b_BlockCodeModel_flow 255 = .ok (.aload_n 0, 1) := by decide +kernel
theorem d_BlockCodeModel_flow_256 : decode b_BlockCodeModel_flow 256 = .ok (.getfield 20, 3) := by decide +kernel
theorem d_BlockCodeModel_flow_259 : decode b_BlockCodeModel_flow 259 = .ok (.iconst 5, 1) := by decide +kernel
theorem d_BlockCodeModel_flow_260 : decode b_BlockCodeModel_flow 260 = .ok (.iload_n 2, 1) := by decide +kernel
theorem d_BlockCodeModel_flow_261 : decode b_BlockCodeModel_flow 261 = .ok (.imul, 1) := by decide +kernel
theorem d_BlockCodeModel_flow_262 : decode b_BlockCodeModel_flow 262 = .ok (.iload 8, 2) := by decide +kernel
theorem d_BlockCodeModel_flow_264 : decode b_BlockCodeModel_flow 264 = .ok (.iadd, 1) := by decide +kernel
theorem d_BlockCodeModel_flow_265 : decode b_BlockCodeModel_flow 265 = .ok (.baload, 1) := by decide +kernel
theorem d_BlockCodeModel_flow_266 : decode b_BlockCodeModel_flow 266 = .ok (.ifCond .eq 39, 3) := by decide +kernel
theorem d_BlockCodeModel_flow_269 : decode b_BlockCodeModel_flow 269 = .ok (.iload 9, 2) := by decide +kernel
theorem d_BlockCodeModel_flow_271 : decode b_BlockCodeModel_flow 271 = .ok (.ifCond .eq 19, 3) := by decide +kernel
theorem d_BlockCodeModel_flow_274 : decode b_BlockCodeModel_flow 274 = .ok (.aload_n 0, 1) := by decide +kernel
theorem d_BlockCodeModel_flow_275 : decode b_BlockCodeModel_flow 275 = .ok (.getfield 23, 3) := by decide +kernel
theorem d_BlockCodeModel_flow_278 : decode b_BlockCodeModel_flow 278 = .ok (.iconst 5, 1) := by decide +kernel
theorem d_BlockCodeModel_flow_279 : decode b_BlockCodeModel_flow 279 = .ok (.iload_n 2, 1) := by decide +kernel
theorem d_BlockCodeModel_flow_280 : decode b_BlockCodeModel_flow 280 = .ok (.imul, 1) := by decide +kernel
theorem d_BlockCodeModel_flow_281 : decode b_BlockCodeModel_flow 281 = .ok (.iload 8, 2) := by decide +kernel
theorem d_BlockCodeModel_flow_283 : decode b_BlockCodeModel_flow 283 = .ok (.iadd, 1) := by decide +kernel
theorem d_BlockCodeModel_flow_284 : decode b_BlockCodeModel_flow 284 = .ok (.iaload, 1) := by decide +kernel
theorem d_BlockCodeModel_flow_285 : decode b_BlockCodeModel_flow 285 = .ok (.iload 10, 2) := by decide +kernel
theorem d_BlockCodeModel_flow_287 : decode b_BlockCodeModel_flow 287 = .ok (.if_icmp .eq 18, 3) := by decide +kernel
theorem d_BlockCodeModel_flow_290 : decode b_BlockCodeModel_flow 290 = .ok (.aload_n 0, 1) := by decide +kernel
theorem d_BlockCodeModel_flow_291 : decode b_BlockCodeModel_flow 291 = .ok (.getfield 20, 3) := by decide +kernel
theorem d_BlockCodeModel_flow_294 : decode b_BlockCodeModel_flow 294 = .ok (.iconst 5, 1) := by decide +kernel
theorem d_BlockCodeModel_flow_295 : decode b_BlockCodeModel_flow 295 = .ok (.iload_n 2, 1) := by decide +kernel
theorem d_BlockCodeModel_flow_296 : decode b_BlockCodeModel_flow 296 = .ok (.imul, 1) := by decide +kernel
theorem d_BlockCodeModel_flow_297 : decode b_BlockCodeModel_flow 297 = .ok (.iload 8, 2) := by decide +kernel
theorem d_BlockCodeModel_flow_299 : decode b_BlockCodeModel_flow 299 = .ok (.iadd, 1) := by decide +kernel
theorem d_BlockCodeModel_flow_300 : decode b_BlockCodeModel_flow 300 = .ok (.iconst 0, 1) := by decide +kernel
theorem d_BlockCodeModel_flow_301 : decode b_BlockCodeModel_flow 301 = .ok (.bastore, 1) := by decide +kernel
theorem d_BlockCodeModel_flow_302 : decode b_BlockCodeModel_flow 302 = .ok (.iconst 1, 1) := by decide +kernel
theorem d_BlockCodeModel_flow_303 : decode b_BlockCodeModel_flow 303 = .ok (.istore 7, 2) := by decide +kernel
theorem d_BlockCodeModel_flow_305 : decode b_BlockCodeModel_flow 305 = .ok (.iinc 8 1, 3) := by decide +kernel
theorem d_BlockCodeModel_flow_308 : decode b_BlockCodeModel_flow 308 = .ok (.goto (-249), 3) := by decide +kernel
theorem d_BlockCodeModel_flow_311 : decode b_BlockCodeModel_flow 311 = .ok (.aload_n 0, 1) := by decide +kernel
theorem d_BlockCodeModel_flow_312 : decode b_BlockCodeModel_flow 312 = .ok (.getfield 16, 3) := by decide +kernel
theorem d_BlockCodeModel_flow_315 : decode b_BlockCodeModel_flow 315 = .ok (.iload_n 2, 1) := by decide +kernel
theorem d_BlockCodeModel_flow_316 : decode b_BlockCodeModel_flow 316 = .ok (.iconst 1, 1) := by decide +kernel
theorem d_BlockCodeModel_flow_317 : decode b_BlockCodeModel_flow 317 = .ok (.bastore, 1) := by decide +kernel
theorem d_BlockCodeModel_flow_318 : decode b_BlockCodeModel_flow 318 = .ok (.iload 7, 2) := by decide +kernel
theorem d_BlockCodeModel_flow_320 : decode b_BlockCodeModel_flow 320 = .ok (.ireturn, 1) := by decide +kernel
theorem d_BlockCodeModel_findFacts_0 : decode b_BlockCodeModel_findFacts 0 = .ok (.iconst 0, 1) := by decide +kernel
theorem d_BlockCodeModel_findFacts_1 : decode b_BlockCodeModel_findFacts 1 = .ok (.istore_n 1, 1) := by decide +kernel
theorem d_BlockCodeModel_findFacts_2 : decode b_BlockCodeModel_findFacts 2 = .ok (.iload_n 1, 1) := by decide +kernel
theorem d_BlockCodeModel_findFacts_3 : decode b_BlockCodeModel_findFacts 3 = .ok (.bipush 20, 2) := by decide +kernel
theorem d_BlockCodeModel_findFacts_5 : decode b_BlockCodeModel_findFacts 5 = .ok (.if_icmp .gt 48, 3) := by decide +kernel
theorem d_BlockCodeModel_findFacts_8 : decode b_BlockCodeModel_findFacts 8 = .ok (.aload_n 0, 1) := by decide +kernel
theorem d_BlockCodeModel_findFacts_9 : decode b_BlockCodeModel_findFacts 9 = .ok (.getfield 16, 3) := by decide +kernel
theorem d_BlockCodeModel_findFacts_12 : decode b_BlockCodeModel_findFacts 12 = .ok (.iload_n 1, 1) := by decide +kernel
theorem d_BlockCodeModel_findFacts_13 : decode b_BlockCodeModel_findFacts 13 = .ok (.iload_n 1, 1) := by decide +kernel
theorem d_BlockCodeModel_findFacts_14 : decode b_BlockCodeModel_findFacts 14 = .ok (.ifCond .ne 7, 3) := by decide +kernel
theorem d_BlockCodeModel_findFacts_17 : decode b_BlockCodeModel_findFacts 17 = .ok (.iconst 1, 1) := by decide +kernel
theorem d_BlockCodeModel_findFacts_18 : decode b_BlockCodeModel_findFacts 18 = .ok (.goto 4, 3) := by decide +kernel
theorem d_BlockCodeModel_findFacts_21 : decode b_BlockCodeModel_findFacts 21 = .ok (.iconst 0, 1) := by decide +kernel
theorem d_BlockCodeModel_findFacts_22 : decode b_BlockCodeModel_findFacts 22 = .ok (.bastore, 1) := by decide +kernel
theorem d_BlockCodeModel_findFacts_23 : decode b_BlockCodeModel_findFacts 23 = .ok (.iconst 0, 1) := by decide +kernel
theorem d_BlockCodeModel_findFacts_24 : decode b_BlockCodeModel_findFacts 24 = .ok (.istore_n 2, 1) := by decide +kernel
theorem d_BlockCodeModel_findFacts_25 : decode b_BlockCodeModel_findFacts 25 = .ok (.iload_n 2, 1) := by decide +kernel
theorem d_BlockCodeModel_findFacts_26 : decode b_BlockCodeModel_findFacts 26 = .ok (.iconst 5, 1) := by decide +kernel
theorem d_BlockCodeModel_findFacts_27 : decode b_BlockCodeModel_findFacts 27 = .ok (.if_icmp .ge 20, 3) := by decide +kernel
theorem d_BlockCodeModel_findFacts_30 : decode b_BlockCodeModel_findFacts 30 = .ok (.aload_n 0, 1) := by decide +kernel
theorem d_BlockCodeModel_findFacts_31 : decode b_BlockCodeModel_findFacts 31 = .ok (.getfield 20, 3) := by decide +kernel
theorem d_BlockCodeModel_findFacts_34 : decode b_BlockCodeModel_findFacts 34 = .ok (.iconst 5, 1) := by decide +kernel
theorem d_BlockCodeModel_findFacts_35 : decode b_BlockCodeModel_findFacts 35 = .ok (.iload_n 1, 1) := by decide +kernel
theorem d_BlockCodeModel_findFacts_36 : decode b_BlockCodeModel_findFacts 36 = .ok (.imul, 1) := by decide +kernel
theorem d_BlockCodeModel_findFacts_37 : decode b_BlockCodeModel_findFacts 37 = .ok (.iload_n 2, 1) := by decide +kernel
theorem d_BlockCodeModel_findFacts_38 : decode b_BlockCodeModel_findFacts 38 = .ok (.iadd, 1) := by decide +kernel
theorem d_BlockCodeModel_findFacts_39 : decode b_BlockCodeModel_findFacts 39 = .ok (.iconst 0, 1) := by decide +kernel
theorem d_BlockCodeModel_findFacts_40 : decode b_BlockCodeModel_findFacts 40 = .ok (.bastore, 1) := by decide +kernel
theorem d_BlockCodeModel_findFacts_41 : decode b_BlockCodeModel_findFacts 41 = .ok (.iinc 2 1, 3) := by decide +kernel
theorem d_BlockCodeModel_findFacts_44 : decode b_BlockCodeModel_findFacts 44 = .ok (.goto (-19), 3) := by decide +kernel
theorem d_BlockCodeModel_findFacts_47 : decode b_BlockCodeModel_findFacts 47 = .ok (.iinc 1 1, 3) := by decide +kernel
theorem d_BlockCodeModel_findFacts_50 : decode b_BlockCodeModel_findFacts 50 = .ok (.goto (-48), 3) := by decide +kernel
theorem d_BlockCodeModel_findFacts_53 : decode b_BlockCodeModel_findFacts 53 = .ok (.iconst 1, 1) := by decide +kernel
theorem d_BlockCodeModel_findFacts_54 : decode b_BlockCodeModel_findFacts 54 = .ok (.istore_n 1, 1) := by decide +kernel
theorem d_BlockCodeModel_findFacts_55 : decode b_BlockCodeModel_findFacts 55 = .ok (.iconst 0, 1) := by decide +kernel
theorem d_BlockCodeModel_findFacts_56 : decode b_BlockCodeModel_findFacts 56 = .ok (.istore_n 2, 1) := by decide +kernel
theorem d_BlockCodeModel_findFacts_57 : decode b_BlockCodeModel_findFacts 57 = .ok (.iload_n 2, 1) := by decide +kernel
theorem d_BlockCodeModel_findFacts_58 : decode b_BlockCodeModel_findFacts 58 = .ok (.sipush 200, 3) := by decide +kernel
theorem d_BlockCodeModel_findFacts_61 : decode b_BlockCodeModel_findFacts 61 = .ok (.if_icmp .ge 258, 3) := by decide +kernel
theorem d_BlockCodeModel_findFacts_64 : decode b_BlockCodeModel_findFacts 64 = .ok (.iload_n 1, 1) := by decide +kernel
theorem d_BlockCodeModel_findFacts_65 : decode b_BlockCodeModel_findFacts 65 = .ok (.ifCond .eq 254, 3) := by decide +kernel
theorem d_BlockCodeModel_findFacts_68 : decode b_BlockCodeModel_findFacts 68 = .ok (.iconst 0, 1) := by decide +kernel
theorem d_BlockCodeModel_findFacts_69 : decode b_BlockCodeModel_findFacts 69 = .ok (.istore_n 1, 1) := by decide +kernel
theorem d_BlockCodeModel_findFacts_70 : decode b_BlockCodeModel_findFacts 70 = .ok (.iconst 0, 1) := by decide +kernel
theorem d_BlockCodeModel_findFacts_71 : decode b_BlockCodeModel_findFacts 71 = .ok (.istore_n 3, 1) := by decide +kernel
theorem d_BlockCodeModel_findFacts_72 : decode b_BlockCodeModel_findFacts 72 = .ok (.iload_n 3, 1) := by decide +kernel
theorem d_BlockCodeModel_findFacts_73 : decode b_BlockCodeModel_findFacts 73 = .ok (.aload_n 0, 1) := by decide +kernel
theorem d_BlockCodeModel_findFacts_74 : decode b_BlockCodeModel_findFacts 74 = .ok (.getfield 85, 3) := by decide +kernel
theorem d_BlockCodeModel_findFacts_77 : decode b_BlockCodeModel_findFacts 77 = .ok (.if_icmp .ge 236, 3) := by decide +kernel
theorem d_BlockCodeModel_findFacts_80 : decode b_BlockCodeModel_findFacts 80 = .ok (.aload_n 0, 1) := by decide +kernel
theorem d_BlockCodeModel_findFacts_81 : decode b_BlockCodeModel_findFacts 81 = .ok (.getfield 7, 3) := by decide +kernel
theorem d_BlockCodeModel_findFacts_84 : decode b_BlockCodeModel_findFacts 84 = .ok (.iconst 4, 1) := by decide +kernel
theorem d_BlockCodeModel_findFacts_85 : decode b_BlockCodeModel_findFacts 85 = .ok (.iload_n 3, 1) := by decide +kernel
theorem d_BlockCodeModel_findFacts_86 : decode b_BlockCodeModel_findFacts 86 = .ok (.imul, 1) := by decide +kernel
theorem d_BlockCodeModel_findFacts_87 : decode b_BlockCodeModel_findFacts 87 = .ok (.iaload, 1) := by decide +kernel
theorem d_BlockCodeModel_findFacts_88 : decode b_BlockCodeModel_findFacts 88 = .ok (.istore 4, 2) := by decide +kernel
theorem d_BlockCodeModel_findFacts_90 : decode b_BlockCodeModel_findFacts 90 = .ok (.aload_n 0, 1) := by decide +kernel
theorem d_BlockCodeModel_findFacts_91 : decode b_BlockCodeModel_findFacts 91 = .ok (.getfield 16, 3) := by decide +kernel
theorem d_BlockCodeModel_findFacts_94 : decode b_BlockCodeModel_findFacts 94 = .ok (.iload_n 3, 1) := by decide +kernel
theorem d_BlockCodeModel_findFacts_95 : decode b_BlockCodeModel_findFacts 95 = .ok (.baload, 1) := by decide +kernel
theorem d_BlockCodeModel_findFacts_96 : decode b_BlockCodeModel_findFacts 96 = .ok (.ifCond .eq 211, 3) := by decide +kernel
theorem d_BlockCodeModel_findFacts_99 : decode b_BlockCodeModel_findFacts 99 = .ok (.iload 4, 2) := by decide +kernel
theorem d_BlockCodeModel_findFacts_101 : decode b_BlockCodeModel_findFacts 101 = .ok (.bipush 10, 2) := by decide +kernel
theorem d_BlockCodeModel_findFacts_103 : decode b_BlockCodeModel_findFacts 103 = .ok (.if_icmp .ne 6, 3) := by decide +kernel
theorem d_BlockCodeModel_findFacts_106 : decode b_BlockCodeModel_findFacts 106 = .ok (.goto 201, 3) := by decide +kernel
theorem d_BlockCodeModel_findFacts_109 : decode b_BlockCodeModel_findFacts 109 = .ok (.iconst 5, 1) := by decide +kernel
theorem d_BlockCodeModel_findFacts_110 : decode b_BlockCodeModel_findFacts 110 = .ok (.iload_n 3, 1) := by decide +kernel
theorem d_BlockCodeModel_findFacts_111 : decode b_BlockCodeModel_findFacts 111 = .ok (.imul, 1) := by decide +kernel
theorem d_BlockCodeModel_findFacts_112 : decode b_BlockCodeModel_findFacts 112 = .ok (.aload_n 0, 1) := by decide +kernel
theorem d_BlockCodeModel_findFacts_113 : decode b_BlockCodeModel_findFacts 113 = .ok (.getfield 7, 3) := by decide +kernel
theorem d_BlockCodeModel_findFacts_116 : decode b_BlockCodeModel_findFacts 116 = .ok (.iconst 4, 1) := by decide +kernel
theorem d_BlockCodeModel_findFacts_117 : decode b_BlockCodeModel_findFacts 117 = .ok (.iload_n 3, 1) := by decide +kernel
theorem d_BlockCodeModel_findFacts_118 : decode b_BlockCodeModel_findFacts 118 = .ok (.imul, 1) := by decide +kernel
theorem d_BlockCodeModel_findFacts_119 : decode b_BlockCodeModel_findFacts 119 = .ok (.iconst 2, 1) := by decide +kernel
theorem d_BlockCodeModel_findFacts_120 : decode b_BlockCodeModel_findFacts 120 = .ok (.iadd, 1) := by decide +kernel
theorem d_BlockCodeModel_findFacts_121 : decode b_BlockCodeModel_findFacts 121 = .ok (.iaload, 1) := by decide +kernel
theorem d_BlockCodeModel_findFacts_122 : decode b_BlockCodeModel_findFacts 122 = .ok (.iadd, 1) := by decide +kernel
theorem d_BlockCodeModel_findFacts_123 : decode b_BlockCodeModel_findFacts 123 = .ok (.istore 5, 2) := by decide +kernel
theorem d_BlockCodeModel_findFacts_125 : decode b_BlockCodeModel_findFacts 125 = .ok (.iconst 5, 1) := by decide +kernel
theorem d_BlockCodeModel_findFacts_126 : decode b_BlockCodeModel_findFacts 126 = .ok (.iload_n 3, 1) := by decide +kernel
theorem d_BlockCodeModel_findFacts_127 : decode b_BlockCodeModel_findFacts 127 = .ok (.imul, 1) := by decide +kernel
theorem d_BlockCodeModel_findFacts_128 : decode b_BlockCodeModel_findFacts 128 = .ok (.aload_n 0, 1) := by decide +kernel
theorem d_BlockCodeModel_findFacts_129 : decode b_BlockCodeModel_findFacts 129 = .ok (.getfield 7, 3) := by decide +kernel
theorem d_BlockCodeModel_findFacts_132 : decode b_BlockCodeModel_findFacts 132 = .ok (.iconst 4, 1) := by decide +kernel
theorem d_BlockCodeModel_findFacts_133 : decode b_BlockCodeModel_findFacts 133 = .ok (.iload_n 3, 1) := by decide +kernel
theorem d_BlockCodeModel_findFacts_134 : decode b_BlockCodeModel_findFacts 134 = .ok (.imul, 1) := by decide +kernel
theorem d_BlockCodeModel_findFacts_135 : decode b_BlockCodeModel_findFacts 135 = .ok (.iconst 3, 1) := by decide +kernel
theorem d_BlockCodeModel_findFacts_136 : decode b_BlockCodeModel_findFacts 136 = .ok (.iadd, 1) := by decide +kernel
theorem d_BlockCodeModel_findFacts_137 : decode b_BlockCodeModel_findFacts 137 = .ok (.iaload, 1) := by decide +kernel
theorem d_BlockCodeModel_findFacts_138 : decode b_BlockCodeModel_findFacts 138 = .ok (.iadd, 1) := by decide +kernel
theorem d_BlockCodeModel_findFacts_139 : decode b_BlockCodeModel_findFacts 139 = .ok (.istore 6, 2) := by decide +kernel
theorem d_BlockCodeModel_findFacts_141 : decode b_BlockCodeModel_findFacts 141 = .ok (.iload 4, 2) := by decide +kernel
theorem d_BlockCodeModel_findFacts_143 : decode b_BlockCodeModel_findFacts 143 = .ok (.bipush 8, 2) := by decide +kernel
theorem d_BlockCodeModel_findFacts_145 : decode b_BlockCodeModel_findFacts 145 = .ok (.if_icmp .eq 7, 3) := by decide +kernel
theorem d_BlockCodeModel_findFacts_148 : decode b_BlockCodeModel_findFacts 148 = .ok (.iconst 1, 1) := by decide +kernel
theorem d_BlockCodeModel_findFacts_149 : decode b_BlockCodeModel_findFacts 149 = .ok (.goto 4, 3) := by decide +kernel
theorem d_BlockCodeModel_findFacts_152 : decode b_BlockCodeModel_findFacts 152 = .ok (.iconst 0, 1) := by decide +kernel
theorem d_BlockCodeModel_findFacts_153 : decode b_BlockCodeModel_findFacts 153 = .ok (.istore 7, 2) := by decide +kernel
theorem d_BlockCodeModel_findFacts_155 : decode b_BlockCodeModel_findFacts 155 = .ok (.iload 4, 2) := by decide +kernel
theorem d_BlockCodeModel_findFacts_157 : decode b_BlockCodeModel_findFacts 157 = .ok (.bipush 6, 2) := by decide +kernel
theorem d_BlockCodeModel_findFacts_159 : decode b_BlockCodeModel_findFacts 159 = .ok (.if_icmp .ne 26, 3) := by decide +kernel
theorem d_BlockCodeModel_findFacts_162 : decode b_BlockCodeModel_findFacts 162 = .ok (.aload_n 0, 1) := by decide +kernel
theorem d_BlockCodeModel_findFacts_163 : decode b_BlockCodeModel_findFacts 163 = .ok (.getfield 20, 3) := by decide +kernel
theorem d_BlockCodeModel_findFacts_166 : decode b_BlockCodeModel_findFacts 166 = .ok (.iload 6, 2) := by decide +kernel
theorem d_BlockCodeModel_findFacts_168 : decode b_BlockCodeModel_findFacts 168 = .ok (.baload, 1) := by decide +kernel
theorem d_BlockCodeModel_findFacts_169 : decode b_BlockCodeModel_findFacts 169 = .ok (.ifCond .eq 16, 3) := by decide +kernel
theorem d_BlockCodeModel_findFacts_172 : decode b_BlockCodeModel_findFacts 172 = .ok (.aload_n 0, 1) := by decide +kernel
theorem d_BlockCodeModel_findFacts_173 : decode b_BlockCodeModel_findFacts 173 = .ok (.getfield 23, 3) := by decide +kernel
theorem d_BlockCodeModel_findFacts_176 : decode b_BlockCodeModel_findFacts 176 = .ok (.iload 6, 2) := by decide +kernel
theorem d_BlockCodeModel_findFacts_178 : decode b_BlockCodeModel_findFacts 178 = .ok (.iaload, 1) := by decide +kernel
theorem d_BlockCodeModel_findFacts_179 : decode b_BlockCodeModel_findFacts 179 = .ok (.ifCond .ne 6, 3) := by decide +kernel
theorem d_BlockCodeModel_findFacts_182 : decode b_BlockCodeModel_findFacts 182 = .ok (.iconst 0, 1) := by decide +kernel
theorem d_BlockCodeModel_findFacts_183 : decode b_BlockCodeModel_findFacts 183 = .ok (.istore 7, 2) := by decide +kernel
theorem d_BlockCodeModel_findFacts_185 : decode b_BlockCodeModel_findFacts 185 = .ok (.iload 4, 2) := by decide +kernel
theorem d_BlockCodeModel_findFacts_187 : decode b_BlockCodeModel_findFacts 187 = .ok (.bipush 9, 2) := by decide +kernel
theorem d_BlockCodeModel_findFacts_189 : decode b_BlockCodeModel_findFacts 189 = .ok (.if_icmp .ne 26, 3) := by decide +kernel
theorem d_BlockCodeModel_findFacts_192 : decode b_BlockCodeModel_findFacts 192 = .ok (.aload_n 0, 1) := by decide +kernel
theorem d_BlockCodeModel_findFacts_193 : decode b_BlockCodeModel_findFacts 193 = .ok (.getfield 20, 3) := by decide +kernel
theorem d_BlockCodeModel_findFacts_196 : decode b_BlockCodeModel_findFacts 196 = .ok (.iload 5, 2) := by decide +kernel
theorem d_BlockCodeModel_findFacts_198 : decode b_BlockCodeModel_findFacts 198 = .ok (.baload, 1) := by decide +kernel
theorem d_BlockCodeModel_findFacts_199 : decode b_BlockCodeModel_findFacts 199 = .ok (.ifCond .eq 16, 3) := by decide +kernel
theorem d_BlockCodeModel_findFacts_202 : decode b_BlockCodeModel_findFacts 202 = .ok (.aload_n 0, 1) := by decide +kernel
theorem d_BlockCodeModel_findFacts_203 : decode b_BlockCodeModel_findFacts 203 = .ok (.getfield 23, 3) := by decide +kernel
theorem d_BlockCodeModel_findFacts_206 : decode b_BlockCodeModel_findFacts 206 = .ok (.iload 5, 2) := by decide +kernel
theorem d_BlockCodeModel_findFacts_208 : decode b_BlockCodeModel_findFacts 208 = .ok (.iaload, 1) := by decide +kernel
theorem d_BlockCodeModel_findFacts_209 : decode b_BlockCodeModel_findFacts 209 = .ok (.ifCond .eq 6, 3) := by decide +kernel
theorem d_BlockCodeModel_findFacts_212 : decode b_BlockCodeModel_findFacts 212 = .ok (.iconst 0, 1) := by decide +kernel
theorem d_BlockCodeModel_findFacts_213 : decode b_BlockCodeModel_findFacts 213 = .ok (.istore 7, 2) := by decide +kernel
