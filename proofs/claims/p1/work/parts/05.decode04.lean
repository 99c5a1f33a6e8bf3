theorem d_Mo_back_2 : decode prog_12_method_72_code 2 = .ok (.putfield 99, 3) := by decide +kernel
theorem d_Mo_back_5 : decode prog_12_method_72_code 5 = .ok (.aload_n 0, 1) := by decide +kernel
theorem d_Mo_back_6 : decode prog_12_method_72_code 6 = .ok (.getfield 95, 3) := by decide +kernel
theorem d_Mo_back_9 : decode prog_12_method_72_code 9 = .ok (.ifCond .ge 5, 3) := by decide +kernel
theorem d_Mo_back_12 : decode prog_12_method_72_code 12 = .ok (.iconst (-1), 1) := by decide +kernel
theorem d_Mo_back_13 : decode prog_12_method_72_code 13 = .ok (.ireturn, 1) := by decide +kernel
theorem d_Mo_clear_0 : decode prog_12_method_74_code 0 = .ok (.aload_n 0, 1) := by decide +kernel
theorem d_Mo_clear_1 : decode prog_12_method_74_code 1 = .ok (.iconst 0, 1) := by decide +kernel
theorem d_Mo_clear_2 : decode prog_12_method_74_code 2 = .ok (.putfield 99, 3) := by decide +kernel
theorem d_Mo_clear_5 : decode prog_12_method_74_code 5 = .ok (.aload_n 0, 1) := by decide +kernel
theorem d_Mo_clear_6 : decode prog_12_method_74_code 6 = .ok (.getfield 118, 3) := by decide +kernel
theorem d_Mo_clear_9 : decode prog_12_method_74_code 9 = .ok (.istore_n 1, 1) := by decide +kernel
theorem d_Mo_clear_10 : decode prog_12_method_74_code 10 = .ok (.aload_n 0, 1) := by decide +kernel
theorem d_Mo_clear_11 : decode prog_12_method_74_code 11 = .ok (.iconst 0, 1) := by decide +kernel
theorem d_Mo_clear_12 : decode prog_12_method_74_code 12 = .ok (.putfield 118, 3) := by decide +kernel
theorem d_Mo_clear_15 : decode prog_12_method_74_code 15 = .ok (.aload_n 0, 1) := by decide +kernel
theorem d_Mo_clear_16 : decode prog_12_method_74_code 16 = .ok (.invokevirtual 123, 3) := by decide +kernel
theorem d_Mo_clear_19 : decode prog_12_method_74_code 19 = .ok (.iload_n 1, 1) := by decide +kernel
theorem d_Mo_clear_20 : decode prog_12_method_74_code 20 = .ok (.ireturn, 1) := by decide +kernel
theorem d_Mo_column_0 : decode prog_12_method_65_code 0 = .ok (.aload_n 0, 1) := by decide +kernel
theorem d_Mo_column_1 : decode prog_12_method_65_code 1 = .ok (.iconst 0, 1) := by decide +kernel
theorem d_Mo_column_2 : decode prog_12_method_65_code 2 = .ok (.putfield 99, 3) := by decide +kernel
theorem d_Mo_column_5 : decode prog_12_method_65_code 5 = .ok (.aload_n 0, 1) := by decide +kernel
theorem d_Mo_column_6 : decode prog_12_method_65_code 6 = .ok (.invokevirtual 366, 3) := by decide +kernel
theorem d_Mo_column_9 : decode prog_12_method_65_code 9 = .ok (.iload_n 1, 1) := by decide +kernel
theorem d_Mo_column_10 : decode prog_12_method_65_code 10 = .ok (.ifCond .lt 11, 3) := by decide +kernel
theorem d_Mo_column_13 : decode prog_12_method_65_code 13 = .ok (.iload_n 1, 1) := by decide +kernel
theorem d_Mo_column_14 : decode prog_12_method_65_code 14 = .ok (.aload_n 0, 1) := by decide +kernel
theorem d_Mo_column_15 : decode prog_12_method_65_code 15 = .ok (.getfield 118, 3) := by decide +kernel
theorem d_Mo_column_18 : decode prog_12_method_65_code 18 = .ok (.if_icmp .lt 7, 3) := by decide +kernel
theorem d_Mo_column_21 : decode prog_12_method_65_code 21 = .ok (.iconst (-1), 1) := by decide +kernel
theorem d_Mo_column_22 : decode prog_12_method_65_code 22 = .ok (.goto 9, 3) := by decide +kernel
theorem d_Mo_column_31 : decode prog_12_method_65_code 31 = .ok (.ireturn, 1) := by decide +kernel
theorem d_Mo_comment_0 : decode prog_12_method_66_code 0 = .ok (.aload_n 0, 1) := by decide +kernel
theorem d_Mo_comment_1 : decode prog_12_method_66_code 1 = .ok (.iconst 0, 1) := by decide +kernel
theorem d_Mo_comment_2 : decode prog_12_method_66_code 2 = .ok (.putfield 99, 3) := by decide +kernel
theorem d_Mo_comment_5 : decode prog_12_method_66_code 5 = .ok (.aload_n 0, 1) := by decide +kernel
theorem d_Mo_comment_6 : decode prog_12_method_66_code 6 = .ok (.getfield 102, 3) := by decide +kernel
theorem d_Mo_comment_9 : decode prog_12_method_66_code 9 = .ok (.ifCond .eq 24, 3) := by decide +kernel
theorem d_Mo_comment_33 : decode prog_12_method_66_code 33 = .ok (.iconst (-1), 1) := by decide +kernel
theorem d_Mo_comment_34 : decode prog_12_method_66_code 34 = .ok (.ireturn, 1) := by decide +kernel
theorem d_Mo_init_0 : decode prog_12_method_1_code 0 = .ok (.aload_n 0, 1) := by decide +kernel
theorem d_Mo_init_1 : decode prog_12_method_1_code 1 = .ok (.invokespecial 1, 3) := by decide +kernel
theorem d_Mo_init_4 : decode prog_12_method_1_code 4 = .ok (.aload_n 0, 1) := by decide +kernel
theorem d_Mo_init_5 : decode prog_12_method_1_code 5 = .ok (.sipush 601, 3) := by decide +kernel
theorem d_Mo_init_8 : decode prog_12_method_1_code 8 = .ok (.newarray .int, 2) := by decide +kernel
theorem d_Mo_init_10 : decode prog_12_method_1_code 10 = .ok (.putfield 7, 3) := by decide +kernel
theorem d_Mo_init_13 : decode prog_12_method_1_code 13 = .ok (.aload_n 0, 1) := by decide +kernel
theorem d_Mo_init_14 : decode prog_12_method_1_code 14 = .ok (.sipush 601, 3) := by decide +kernel
theorem d_Mo_init_17 : decode prog_12_method_1_code 17 = .ok (.newarray .int, 2) := by decide +kernel
theorem d_Mo_init_19 : decode prog_12_method_1_code 19 = .ok (.putfield 13, 3) := by decide +kernel
theorem d_Mo_init_22 : decode prog_12_method_1_code 22 = .ok (.aload_n 0, 1) := by decide +kernel
theorem d_Mo_init_23 : decode prog_12_method_1_code 23 = .ok (.sipush 601, 3) := by decide +kernel
theorem d_Mo_init_26 : decode prog_12_method_1_code 26 = .ok (.newarray .int, 2) := by decide +kernel
theorem d_Mo_init_28 : decode prog_12_method_1_code 28 = .ok (.putfield 16, 3) := by decide +kernel
theorem d_Mo_init_31 : decode prog_12_method_1_code 31 = .ok (.aload_n 0, 1) := by decide +kernel
theorem d_Mo_init_32 : decode prog_12_method_1_code 32 = .ok (.sipush 601, 3) := by decide +kernel
theorem d_Mo_init_35 : decode prog_12_method_1_code 35 = .ok (.newarray .int, 2) := by decide +kernel
theorem d_Mo_init_37 : decode prog_12_method_1_code 37 = .ok (.putfield 19, 3) := by decide +kernel
theorem d_Mo_init_40 : decode prog_12_method_1_code 40 = .ok (.aload_n 0, 1) := by decide +kernel
theorem d_Mo_init_41 : decode prog_12_method_1_code 41 = .ok (.sipush 601, 3) := by decide +kernel
theorem d_Mo_init_44 : decode prog_12_method_1_code 44 = .ok (.newarray .int, 2) := by decide +kernel
theorem d_Mo_init_46 : decode prog_12_method_1_code 46 = .ok (.putfield 22, 3) := by decide +kernel
theorem d_Mo_init_49 : decode prog_12_method_1_code 49 = .ok (.aload_n 0, 1) := by decide +kernel
theorem d_Mo_init_50 : decode prog_12_method_1_code 50 = .ok (.sipush 601, 3) := by decide +kernel
theorem d_Mo_init_53 : decode prog_12_method_1_code 53 = .ok (.newarray .int, 2) := by decide +kernel
theorem d_Mo_init_55 : decode prog_12_method_1_code 55 = .ok (.putfield 25, 3) := by decide +kernel
theorem d_Mo_init_58 : decode prog_12_method_1_code 58 = .ok (.aload_n 0, 1) := by decide +kernel
theorem d_Mo_init_59 : decode prog_12_method_1_code 59 = .ok (.sipush 601, 3) := by decide +kernel
theorem d_Mo_init_62 : decode prog_12_method_1_code 62 = .ok (.newarray .int, 2) := by decide +kernel
theorem d_Mo_init_64 : decode prog_12_method_1_code 64 = .ok (.putfield 28, 3) := by decide +kernel
theorem d_Mo_init_67 : decode prog_12_method_1_code 67 = .ok (.aload_n 0, 1) := by decide +kernel
theorem d_Mo_init_68 : decode prog_12_method_1_code 68 = .ok (.sipush 601, 3) := by decide +kernel
theorem d_Mo_init_71 : decode prog_12_method_1_code 71 = .ok (.newarray .int, 2) := by decide +kernel
theorem d_Mo_init_73 : decode prog_12_method_1_code 73 = .ok (.putfield 31, 3) := by decide +kernel
theorem d_Mo_init_76 : decode prog_12_method_1_code 76 = .ok (.aload_n 0, 1) := by decide +kernel
theorem d_Mo_init_77 : decode prog_12_method_1_code 77 = .ok (.sipush 601, 3) := by decide +kernel
theorem d_Mo_init_80 : decode prog_12_method_1_code 80 = .ok (.newarray .int, 2) := by decide +kernel
theorem d_Mo_init_82 : decode prog_12_method_1_code 82 = .ok (.putfield 34, 3) := by decide +kernel
theorem d_Mo_init_85 : decode prog_12_method_1_code 85 = .ok (.aload_n 0, 1) := by decide +kernel
theorem d_Mo_init_86 : decode prog_12_method_1_code 86 = .ok (.sipush 601, 3) := by decide +kernel
theorem d_Mo_init_89 : decode prog_12_method_1_code 89 = .ok (.newarray .int, 2) := by decide +kernel
theorem d_Mo_init_91 : decode prog_12_method_1_code 91 = .ok (.putfield 37, 3) := by decide +kernel
theorem d_Mo_init_94 : decode prog_12_method_1_code 94 = .ok (.aload_n 0, 1) := by decide +kernel
theorem d_Mo_init_95 : decode prog_12_method_1_code 95 = .ok (.sipush 1300, 3) := by decide +kernel
theorem d_Mo_init_98 : decode prog_12_method_1_code 98 = .ok (.newarray .int, 2) := by decide +kernel
theorem d_Mo_init_100 : decode prog_12_method_1_code 100 = .ok (.putfield 40, 3) := by decide +kernel
theorem d_Mo_init_103 : decode prog_12_method_1_code 103 = .ok (.aload_n 0, 1) := by decide +kernel
theorem d_Mo_init_104 : decode prog_12_method_1_code 104 = .ok (.sipush 601, 3) := by decide +kernel
theorem d_Mo_init_107 : decode prog_12_method_1_code 107 = .ok (.newarray .int, 2) := by decide +kernel
theorem d_Mo_init_109 : decode prog_12_method_1_code 109 = .ok (.putfield 43, 3) := by decide +kernel
theorem d_Mo_init_112 : decode prog_12_method_1_code 112 = .ok (.aload_n 0, 1) := by decide +kernel
theorem d_Mo_init_113 : decode prog_12_method_1_code 113 = .ok (.sipush 601, 3) := by decide +kernel
theorem d_Mo_init_116 : decode prog_12_method_1_code 116 = .ok (.newarray .int, 2) := by decide +kernel
theorem d_Mo_init_118 : decode prog_12_method_1_code 118 = .ok (.putfield 46, 3) := by decide +kernel
theorem d_Mo_init_121 : decode prog_12_method_1_code 121 = .ok (.aload_n 0, 1) := by decide +kernel
theorem d_Mo_init_122 : decode prog_12_method_1_code 122 = .ok (.sipush 601, 3) := by decide +kernel
theorem d_Mo_init_125 : decode prog_12_method_1_code 125 = .ok (.newarray .boolean, 2) := by decide +kernel
theorem d_Mo_init_127 : decode prog_12_method_1_code 127 = .ok (.putfield 49, 3) := by decide +kernel
theorem d_Mo_init_130 : decode prog_12_method_1_code 130 = .ok (.aload_n 0, 1) := by decide +kernel
theorem d_Mo_init_131 : decode prog_12_method_1_code 131 = .ok (.sipush 501, 3) := by decide +kernel
theorem d_Mo_init_134 : decode prog_12_method_1_code 134 = .ok (.newarray .int, 2) := by decide +kernel
theorem d_Mo_init_136 : decode prog_12_method_1_code 136 = .ok (.putfield 53, 3) := by decide +kernel
theorem d_Mo_init_139 : decode prog_12_method_1_code 139 = .ok (.aload_n 0, 1) := by decide +kernel
theorem d_Mo_init_140 : decode prog_12_method_1_code 140 = .ok (.sipush 501, 3) := by decide +kernel
theorem d_Mo_init_143 : decode prog_12_method_1_code 143 = .ok (.newarray .int, 2) := by decide +kernel
theorem d_Mo_init_145 : decode prog_12_method_1_code 145 = .ok (.putfield 56, 3) := by decide +kernel
theorem d_Mo_init_148 : decode prog_12_method_1_code 148 = .ok (.aload_n 0, 1) := by decide +kernel
theorem d_Mo_init_149 : decode prog_12_method_1_code 149 = .ok (.sipush 501, 3) := by decide +kernel
theorem d_Mo_init_152 : decode prog_12_method_1_code 152 = .ok (.newarray .int, 2) := by decide +kernel
theorem d_Mo_init_154 : decode prog_12_method_1_code 154 = .ok (.putfield 59, 3) := by decide +kernel
theorem d_Mo_init_157 : decode prog_12_method_1_code 157 = .ok (.aload_n 0, 1) := by decide +kernel
theorem d_Mo_init_158 : decode prog_12_method_1_code 158 = .ok (.sipush 501, 3) := by decide +kernel
theorem d_Mo_init_161 : decode prog_12_method_1_code 161 = .ok (.newarray .int, 2) := by decide +kernel
theorem d_Mo_init_163 : decode prog_12_method_1_code 163 = .ok (.putfield 62, 3) := by decide +kernel
theorem d_Mo_init_166 : decode prog_12_method_1_code 166 = .ok (.aload_n 0, 1) := by decide +kernel
theorem d_Mo_init_167 : decode prog_12_method_1_code 167 = .ok (.sipush 501, 3) := by decide +kernel
theorem d_Mo_init_170 : decode prog_12_method_1_code 170 = .ok (.newarray .int, 2) := by decide +kernel
theorem d_Mo_init_172 : decode prog_12_method_1_code 172 = .ok (.putfield 65, 3) := by decide +kernel
theorem d_Mo_init_175 : decode prog_12_method_1_code 175 = .ok (.aload_n 0, 1) := by decide +kernel
theorem d_Mo_init_176 : decode prog_12_method_1_code 176 = .ok (.sipush 501, 3) := by decide +kernel
theorem d_Mo_init_179 : decode prog_12_method_1_code 179 = .ok (.newarray .boolean, 2) := by decide +kernel
theorem d_Mo_init_181 : decode prog_12_method_1_code 181 = .ok (.putfield 68, 3) := by decide +kernel
theorem d_Mo_init_184 : decode prog_12_method_1_code 184 = .ok (.aload_n 0, 1) := by decide +kernel
theorem d_Mo_init_185 : decode prog_12_method_1_code 185 = .ok (.sipush 3001, 3) := by decide +kernel
theorem d_Mo_init_188 : decode prog_12_method_1_code 188 = .ok (.newarray .int, 2) := by decide +kernel
theorem d_Mo_init_190 : decode prog_12_method_1_code 190 = .ok (.putfield 71, 3) := by decide +kernel
theorem d_Mo_init_193 : decode prog_12_method_1_code 193 = .ok (.aload_n 0, 1) := by decide +kernel
theorem d_Mo_init_194 : decode prog_12_method_1_code 194 = .ok (.sipush 3001, 3) := by decide +kernel
theorem d_Mo_init_197 : decode prog_12_method_1_code 197 = .ok (.newarray .int, 2) := by decide +kernel
theorem d_Mo_init_199 : decode prog_12_method_1_code 199 = .ok (.putfield 74, 3) := by decide +kernel
theorem d_Mo_init_202 : decode prog_12_method_1_code 202 = .ok (.aload_n 0, 1) := by decide +kernel
theorem d_Mo_init_203 : decode prog_12_method_1_code 203 = .ok (.sipush 602, 3) := by decide +kernel
theorem d_Mo_init_206 : decode prog_12_method_1_code 206 = .ok (.newarray .int, 2) := by decide +kernel
theorem d_Mo_init_208 : decode prog_12_method_1_code 208 = .ok (.putfield 77, 3) := by decide +kernel
theorem d_Mo_init_211 : decode prog_12_method_1_code 211 = .ok (.aload_n 0, 1) := by decide +kernel
theorem d_Mo_init_212 : decode prog_12_method_1_code 212 = .ok (.sipush 602, 3) := by decide +kernel
theorem d_Mo_init_215 : decode prog_12_method_1_code 215 = .ok (.newarray .boolean, 2) := by decide +kernel
theorem d_Mo_init_217 : decode prog_12_method_1_code 217 = .ok (.putfield 80, 3) := by decide +kernel
theorem d_Mo_init_220 : decode prog_12_method_1_code 220 = .ok (.aload_n 0, 1) := by decide +kernel
theorem d_Mo_init_221 : decode prog_12_method_1_code 221 = .ok (.sipush 602, 3) := by decide +kernel
theorem d_Mo_init_224 : decode prog_12_method_1_code 224 = .ok (.newarray .boolean, 2) := by decide +kernel
theorem d_Mo_init_226 : decode prog_12_method_1_code 226 = .ok (.putfield 83, 3) := by decide +kernel
theorem d_Mo_init_229 : decode prog_12_method_1_code 229 = .ok (.aload_n 0, 1) := by decide +kernel
theorem d_Mo_init_230 : decode prog_12_method_1_code 230 = .ok (.bipush 61, 2) := by decide +kernel
theorem d_Mo_init_232 : decode prog_12_method_1_code 232 = .ok (.newarray .int, 2) := by decide +kernel
theorem d_Mo_init_234 : decode prog_12_method_1_code 234 = .ok (.putfield 86, 3) := by decide +kernel
theorem d_Mo_init_237 : decode prog_12_method_1_code 237 = .ok (.aload_n 0, 1) := by decide +kernel
theorem d_Mo_init_238 : decode prog_12_method_1_code 238 = .ok (.bipush 61, 2) := by decide +kernel
theorem d_Mo_init_240 : decode prog_12_method_1_code 240 = .ok (.newarray .int, 2) := by decide +kernel
theorem d_Mo_init_242 : decode prog_12_method_1_code 242 = .ok (.putfield 89, 3) := by decide +kernel
theorem d_Mo_init_245 : decode prog_12_method_1_code 245 = .ok (.aload_n 0, 1) := by decide +kernel
theorem d_Mo_init_246 : decode prog_12_method_1_code 246 = .ok (.bipush 61, 2) := by decide +kernel
theorem d_Mo_init_248 : decode prog_12_method_1_code 248 = .ok (.newarray .boolean, 2) := by decide +kernel
theorem d_Mo_init_250 : decode prog_12_method_1_code 250 = .ok (.putfield 92, 3) := by decide +kernel
theorem d_Mo_init_253 : decode prog_12_method_1_code 253 = .ok (.aload_n 0, 1) := by decide +kernel
theorem d_Mo_init_254 : decode prog_12_method_1_code 254 = .ok (.iconst (-1), 1) := by decide +kernel
theorem d_Mo_init_255 : decode prog_12_method_1_code 255 = .ok (.putfield 95, 3) := by decide +kernel
theorem d_Mo_init_258 : decode prog_12_method_1_code 258 = .ok (.return_, 1) := by decide +kernel
theorem d_Mo_isTop_0 : decode prog_12_method_49_code 0 = .ok (.aload_n 0, 1) := by decide +kernel
theorem d_Mo_isTop_1 : decode prog_12_method_49_code 1 = .ok (.getfield 301, 3) := by decide +kernel
theorem d_Mo_isTop_4 : decode prog_12_method_49_code 4 = .ok (.ifCond .le 51, 3) := by decide +kernel
theorem d_Mo_isTop_55 : decode prog_12_method_49_code 55 = .ok (.iconst 0, 1) := by decide +kernel
theorem d_Mo_isTop_56 : decode prog_12_method_49_code 56 = .ok (.ireturn, 1) := by decide +kernel
theorem d_Mo_layLines_0 : decode prog_12_method_5_code 0 = .ok (.iconst 1, 1) := by decide +kernel
theorem d_Mo_layLines_1 : decode prog_12_method_5_code 1 = .ok (.istore_n 1, 1) := by decide +kernel
theorem d_Mo_layLines_2 : decode prog_12_method_5_code 2 = .ok (.iconst 1, 1) := by decide +kernel
theorem d_Mo_layLines_3 : decode prog_12_method_5_code 3 = .ok (.istore_n 2, 1) := by decide +kernel
theorem d_Mo_layLines_4 : decode prog_12_method_5_code 4 = .ok (.iconst 0, 1) := by decide +kernel
theorem d_Mo_layLines_5 : decode prog_12_method_5_code 5 = .ok (.istore_n 3, 1) := by decide +kernel
theorem d_Mo_layLines_6 : decode prog_12_method_5_code 6 = .ok (.iload_n 3, 1) := by decide +kernel
theorem d_Mo_layLines_7 : decode prog_12_method_5_code 7 = .ok (.aload_n 0, 1) := by decide +kernel
theorem d_Mo_layLines_8 : decode prog_12_method_5_code 8 = .ok (.getfield 118, 3) := by decide +kernel
theorem d_Mo_layLines_11 : decode prog_12_method_5_code 11 = .ok (.if_icmp .ge 118, 3) := by decide +kernel
theorem d_Mo_layLines_129 : decode prog_12_method_5_code 129 = .ok (.return_, 1) := by decide +kernel
theorem d_Mo_layout_0 : decode prog_12_method_58_code 0 = .ok (.aload_n 0, 1) := by decide +kernel
theorem d_Mo_layout_1 : decode prog_12_method_58_code 1 = .ok (.iconst 0, 1) := by decide +kernel
theorem d_Mo_layout_2 : decode prog_12_method_58_code 2 = .ok (.putfield 301, 3) := by decide +kernel
theorem d_Mo_layout_5 : decode prog_12_method_58_code 5 = .ok (.aload_n 0, 1) := by decide +kernel
theorem d_Mo_layout_6 : decode prog_12_method_58_code 6 = .ok (.iconst 0, 1) := by decide +kernel
theorem d_Mo_layout_7 : decode prog_12_method_58_code 7 = .ok (.putfield 339, 3) := by decide +kernel
theorem d_Mo_layout_10 : decode prog_12_method_58_code 10 = .ok (.iconst 0, 1) := by decide +kernel
theorem d_Mo_layout_11 : decode prog_12_method_58_code 11 = .ok (.istore_n 1, 1) := by decide +kernel
theorem d_Mo_layout_12 : decode prog_12_method_58_code 12 = .ok (.iload_n 1, 1) := by decide +kernel
theorem d_Mo_layout_13 : decode prog_12_method_58_code 13 = .ok (.aload_n 0, 1) := by decide +kernel
theorem d_Mo_layout_14 : decode prog_12_method_58_code 14 = .ok (.getfield 106, 3) := by decide +kernel
theorem d_Mo_layout_17 : decode prog_12_method_58_code 17 = .ok (.if_icmp .ge 21, 3) := by decide +kernel
theorem d_Mo_layout_38 : decode prog_12_method_58_code 38 = .ok (.aload_n 0, 1) := by decide +kernel
theorem d_Mo_layout_39 : decode prog_12_method_58_code 39 = .ok (.getfield 133, 3) := by decide +kernel
theorem d_Mo_layout_42 : decode prog_12_method_58_code 42 = .ok (.ifCond .lt 4, 3) := by decide +kernel
theorem d_Mo_layout_46 : decode prog_12_method_58_code 46 = .ok (.aload_n 0, 1) := by decide +kernel
theorem d_Mo_layout_47 : decode prog_12_method_58_code 47 = .ok (.aload_n 0, 1) := by decide +kernel
theorem d_Mo_layout_48 : decode prog_12_method_58_code 48 = .ok (.getfield 118, 3) := by decide +kernel
theorem d_Mo_layout_51 : decode prog_12_method_58_code 51 = .ok (.putfield 304, 3) := by decide +kernel
theorem d_Mo_layout_54 : decode prog_12_method_58_code 54 = .ok (.aload_n 0, 1) := by decide +kernel
theorem d_Mo_layout_55 : decode prog_12_method_58_code 55 = .ok (.aload_n 0, 1) := by decide +kernel
theorem d_Mo_layout_56 : decode prog_12_method_58_code 56 = .ok (.getfield 118, 3) := by decide +kernel
theorem d_Mo_layout_59 : decode prog_12_method_58_code 59 = .ok (.ifCond .ne 7, 3) := by decide +kernel
theorem d_Mo_layout_62 : decode prog_12_method_58_code 62 = .ok (.iconst 1, 1) := by decide +kernel
theorem d_Mo_layout_63 : decode prog_12_method_58_code 63 = .ok (.goto 14, 3) := by decide +kernel
theorem d_Mo_layout_77 : decode prog_12_method_58_code 77 = .ok (.putfield 307, 3) := by decide +kernel
theorem d_Mo_layout_80 : decode prog_12_method_58_code 80 = .ok (.aload_n 0, 1) := by decide +kernel
theorem d_Mo_layout_81 : decode prog_12_method_58_code 81 = .ok (.iconst 0, 1) := by decide +kernel
theorem d_Mo_layout_82 : decode prog_12_method_58_code 82 = .ok (.putfield 310, 3) := by decide +kernel
theorem d_Mo_layout_85 : decode prog_12_method_58_code 85 = .ok (.aload_n 0, 1) := by decide +kernel
theorem d_Mo_layout_86 : decode prog_12_method_58_code 86 = .ok (.getfield 106, 3) := by decide +kernel
theorem d_Mo_layout_89 : decode prog_12_method_58_code 89 = .ok (.ifCond .eq 20, 3) := by decide +kernel
theorem d_Mo_layout_109 : decode prog_12_method_58_code 109 = .ok (.aload_n 0, 1) := by decide +kernel
theorem d_Mo_layout_110 : decode prog_12_method_58_code 110 = .ok (.invokevirtual 351, 3) := by decide +kernel
theorem d_Mo_layout_113 : decode prog_12_method_58_code 113 = .ok (.aload_n 0, 1) := by decide +kernel
theorem d_Mo_layout_114 : decode prog_12_method_58_code 114 = .ok (.bipush 14, 2) := by decide +kernel
theorem d_Mo_layout_116 : decode prog_12_method_58_code 116 = .ok (.invokevirtual 326, 3) := by decide +kernel
theorem d_Mo_layout_119 : decode prog_12_method_58_code 119 = .ok (.aload_n 0, 1) := by decide +kernel
theorem d_Mo_layout_120 : decode prog_12_method_58_code 120 = .ok (.bipush 16, 2) := by decide +kernel
theorem d_Mo_layout_122 : decode prog_12_method_58_code 122 = .ok (.invokevirtual 326, 3) := by decide +kernel
theorem d_Mo_layout_125 : decode prog_12_method_58_code 125 = .ok (.aload_n 0, 1) := by decide +kernel
theorem d_Mo_layout_126 : decode prog_12_method_58_code 126 = .ok (.getfield 133, 3) := by decide +kernel
theorem d_Mo_layout_129 : decode prog_12_method_58_code 129 = .ok (.ifCond .ge 33, 3) := by decide +kernel
theorem d_Mo_layout_132 : decode prog_12_method_58_code 132 = .ok (.aload_n 0, 1) := by decide +kernel
theorem d_Mo_layout_133 : decode prog_12_method_58_code 133 = .ok (.iconst 0, 1) := by decide +kernel
theorem d_Mo_layout_134 : decode prog_12_method_58_code 134 = .ok (.ldc_w 319, 3) := by decide +kernel
theorem d_Mo_layout_137 : decode prog_12_method_58_code 137 = .ok (.invokevirtual 320, 3) := by decide +kernel
theorem d_Mo_layout_140 : decode prog_12_method_58_code 140 = .ok (.ifCond .eq 22, 3) := by decide +kernel
theorem d_Mo_layout_162 : decode prog_12_method_58_code 162 = .ok (.return_, 1) := by decide +kernel
theorem d_Mo_letter_0 : decode prog_12_method_71_code 0 = .ok (.aload_n 0, 1) := by decide +kernel
theorem d_Mo_letter_1 : decode prog_12_method_71_code 1 = .ok (.iconst 0, 1) := by decide +kernel
theorem d_Mo_letter_2 : decode prog_12_method_71_code 2 = .ok (.putfield 99, 3) := by decide +kernel
theorem d_Mo_letter_5 : decode prog_12_method_71_code 5 = .ok (.iload_n 1, 1) := by decide +kernel
theorem d_Mo_letter_6 : decode prog_12_method_71_code 6 = .ok (.ifCond .lt 11, 3) := by decide +kernel
theorem d_Mo_letter_9 : decode prog_12_method_71_code 9 = .ok (.iload_n 1, 1) := by decide +kernel
theorem d_Mo_letter_10 : decode prog_12_method_71_code 10 = .ok (.aload_n 0, 1) := by decide +kernel
theorem d_Mo_letter_11 : decode prog_12_method_71_code 11 = .ok (.getfield 95, 3) := by decide +kernel
theorem d_Mo_letter_14 : decode prog_12_method_71_code 14 = .ok (.if_icmp .lt 7, 3) := by decide +kernel
theorem d_Mo_letter_17 : decode prog_12_method_71_code 17 = .ok (.iconst (-1), 1) := by decide +kernel
theorem d_Mo_letter_18 : decode prog_12_method_71_code 18 = .ok (.goto 9, 3) := by decide +kernel
theorem d_Mo_letter_27 : decode prog_12_method_71_code 27 = .ok (.ireturn, 1) := by decide +kernel
theorem d_Mo_literate_0 : decode prog_12_method_10_code 0 = .ok (.aload_n 0, 1) := by decide +kernel
theorem d_Mo_literate_1 : decode prog_12_method_10_code 1 = .ok (.getfield 118, 3) := by decide +kernel
theorem d_Mo_literate_4 : decode prog_12_method_10_code 4 = .ok (.ifCond .ne 7, 3) := by decide +kernel
theorem d_Mo_literate_7 : decode prog_12_method_10_code 7 = .ok (.iconst 0, 1) := by decide +kernel
theorem d_Mo_literate_8 : decode prog_12_method_10_code 8 = .ok (.goto 14, 3) := by decide +kernel
theorem d_Mo_literate_22 : decode prog_12_method_10_code 22 = .ok (.istore_n 1, 1) := by decide +kernel
theorem d_Mo_literate_23 : decode prog_12_method_10_code 23 = .ok (.iconst 0, 1) := by decide +kernel
theorem d_Mo_literate_24 : decode prog_12_method_10_code 24 = .ok (.istore_n 2, 1) := by decide +kernel
theorem d_Mo_literate_25 : decode prog_12_method_10_code 25 = .ok (.iload_n 2, 1) := by decide +kernel
theorem d_Mo_literate_26 : decode prog_12_method_10_code 26 = .ok (.iload_n 1, 1) := by decide +kernel
theorem d_Mo_literate_27 : decode prog_12_method_10_code 27 = .ok (.iconst 1, 1) := by decide +kernel
theorem d_Mo_literate_28 : decode prog_12_method_10_code 28 = .ok (.iadd, 1) := by decide +kernel
theorem d_Mo_literate_29 : decode prog_12_method_10_code 29 = .ok (.if_icmp .gt 30, 3) := by decide +kernel
theorem d_Mo_literate_32 : decode prog_12_method_10_code 32 = .ok (.aload_n 0, 1) := by decide +kernel
