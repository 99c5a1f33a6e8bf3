theorem d_Mo_unread_12 : decode prog_12_method_3_code 12 = .ok (.putfield 109, 3) := by decide +kernel
theorem d_Mo_unread_15 : decode prog_12_method_3_code 15 = .ok (.aload_n 0, 1) := by decide +kernel
theorem d_Mo_unread_16 : decode prog_12_method_3_code 16 = .ok (.iconst 0, 1) := by decide +kernel
theorem d_Mo_unread_17 : decode prog_12_method_3_code 17 = .ok (.putfield 112, 3) := by decide +kernel
theorem d_Mo_unread_20 : decode prog_12_method_3_code 20 = .ok (.aload_n 0, 1) := by decide +kernel
theorem d_Mo_unread_21 : decode prog_12_method_3_code 21 = .ok (.iconst 0, 1) := by decide +kernel
theorem d_Mo_unread_22 : decode prog_12_method_3_code 22 = .ok (.putfield 115, 3) := by decide +kernel
theorem d_Mo_unread_25 : decode prog_12_method_3_code 25 = .ok (.return_, 1) := by decide +kernel
theorem d_Pr_count_0 : decode prog_7_method_2_code 0 = .ok (.aload_n 0, 1) := by decide +kernel
theorem d_Pr_count_1 : decode prog_7_method_2_code 1 = .ok (.getfield 23, 3) := by decide +kernel
theorem d_Pr_count_4 : decode prog_7_method_2_code 4 = .ok (.ireturn, 1) := by decide +kernel
theorem d_Pr_init_0 : decode prog_7_method_1_code 0 = .ok (.aload_n 0, 1) := by decide +kernel
theorem d_Pr_init_1 : decode prog_7_method_1_code 1 = .ok (.invokespecial 3, 3) := by decide +kernel
theorem d_Pr_init_4 : decode prog_7_method_1_code 4 = .ok (.aload_n 0, 1) := by decide +kernel
theorem d_Pr_init_5 : decode prog_7_method_1_code 5 = .ok (.aload_n 1, 1) := by decide +kernel
theorem d_Pr_init_6 : decode prog_7_method_1_code 6 = .ok (.putfield 9, 3) := by decide +kernel
theorem d_Pr_init_9 : decode prog_7_method_1_code 9 = .ok (.aload_n 0, 1) := by decide +kernel
theorem d_Pr_init_10 : decode prog_7_method_1_code 10 = .ok (.aload_n 2, 1) := by decide +kernel
theorem d_Pr_init_11 : decode prog_7_method_1_code 11 = .ok (.putfield 15, 3) := by decide +kernel
theorem d_Pr_init_14 : decode prog_7_method_1_code 14 = .ok (.aload_n 0, 1) := by decide +kernel
theorem d_Pr_init_15 : decode prog_7_method_1_code 15 = .ok (.sipush 3000, 3) := by decide +kernel
theorem d_Pr_init_18 : decode prog_7_method_1_code 18 = .ok (.newarray .int, 2) := by decide +kernel
theorem d_Pr_init_20 : decode prog_7_method_1_code 20 = .ok (.putfield 19, 3) := by decide +kernel
theorem d_Pr_init_23 : decode prog_7_method_1_code 23 = .ok (.aload_n 0, 1) := by decide +kernel
theorem d_Pr_init_24 : decode prog_7_method_1_code 24 = .ok (.iconst (-1), 1) := by decide +kernel
theorem d_Pr_init_25 : decode prog_7_method_1_code 25 = .ok (.putfield 23, 3) := by decide +kernel
theorem d_Pr_init_28 : decode prog_7_method_1_code 28 = .ok (.return_, 1) := by decide +kernel
theorem d_Pr_letterAt_0 : decode prog_7_method_3_code 0 = .ok (.iload_n 1, 1) := by decide +kernel
theorem d_Pr_letterAt_1 : decode prog_7_method_3_code 1 = .ok (.ifCond .lt 27, 3) := by decide +kernel
theorem d_Pr_letterAt_4 : decode prog_7_method_3_code 4 = .ok (.iload_n 1, 1) := by decide +kernel
theorem d_Pr_letterAt_5 : decode prog_7_method_3_code 5 = .ok (.aload_n 0, 1) := by decide +kernel
theorem d_Pr_letterAt_6 : decode prog_7_method_3_code 6 = .ok (.getfield 23, 3) := by decide +kernel
theorem d_Pr_letterAt_9 : decode prog_7_method_3_code 9 = .ok (.if_icmp .ge 19, 3) := by decide +kernel
theorem d_Pr_letterAt_28 : decode prog_7_method_3_code 28 = .ok (.iconst (-1), 1) := by decide +kernel
theorem d_Pr_letterAt_29 : decode prog_7_method_3_code 29 = .ok (.ireturn, 1) := by decide +kernel
theorem d_Qu_init_0 : decode prog_8_method_1_code 0 = .ok (.aload_n 0, 1) := by decide +kernel
theorem d_Qu_init_1 : decode prog_8_method_1_code 1 = .ok (.invokespecial 3, 3) := by decide +kernel
theorem d_Qu_init_4 : decode prog_8_method_1_code 4 = .ok (.aload_n 0, 1) := by decide +kernel
theorem d_Qu_init_5 : decode prog_8_method_1_code 5 = .ok (.aload_n 1, 1) := by decide +kernel
theorem d_Qu_init_6 : decode prog_8_method_1_code 6 = .ok (.putfield 9, 3) := by decide +kernel
theorem d_Qu_init_9 : decode prog_8_method_1_code 9 = .ok (.aload_n 0, 1) := by decide +kernel
theorem d_Qu_init_10 : decode prog_8_method_1_code 10 = .ok (.aload_n 2, 1) := by decide +kernel
theorem d_Qu_init_11 : decode prog_8_method_1_code 11 = .ok (.putfield 15, 3) := by decide +kernel
theorem d_Qu_init_14 : decode prog_8_method_1_code 14 = .ok (.return_, 1) := by decide +kernel
theorem d_Re_init_0 : decode prog_9_method_1_code 0 = .ok (.aload_n 0, 1) := by decide +kernel
theorem d_Re_init_1 : decode prog_9_method_1_code 1 = .ok (.invokespecial 3, 3) := by decide +kernel
theorem d_Re_init_4 : decode prog_9_method_1_code 4 = .ok (.aload_n 0, 1) := by decide +kernel
theorem d_Re_init_5 : decode prog_9_method_1_code 5 = .ok (.aload_n 1, 1) := by decide +kernel
theorem d_Re_init_6 : decode prog_9_method_1_code 6 = .ok (.putfield 9, 3) := by decide +kernel
theorem d_Re_init_9 : decode prog_9_method_1_code 9 = .ok (.aload_n 0, 1) := by decide +kernel
theorem d_Re_init_10 : decode prog_9_method_1_code 10 = .ok (.aload_n 2, 1) := by decide +kernel
theorem d_Re_init_11 : decode prog_9_method_1_code 11 = .ok (.putfield 15, 3) := by decide +kernel
theorem d_Re_init_14 : decode prog_9_method_1_code 14 = .ok (.aload_n 0, 1) := by decide +kernel
theorem d_Re_init_15 : decode prog_9_method_1_code 15 = .ok (.aload_n 3, 1) := by decide +kernel
theorem d_Re_init_16 : decode prog_9_method_1_code 16 = .ok (.putfield 19, 3) := by decide +kernel
theorem d_Re_init_19 : decode prog_9_method_1_code 19 = .ok (.aload_n 0, 1) := by decide +kernel
theorem d_Re_init_20 : decode prog_9_method_1_code 20 = .ok (.new 23, 3) := by decide +kernel
theorem d_Re_init_23 : decode prog_9_method_1_code 23 = .ok (.dup, 1) := by decide +kernel
theorem d_Re_init_24 : decode prog_9_method_1_code 24 = .ok (.aload_n 1, 1) := by decide +kernel
theorem d_Re_init_25 : decode prog_9_method_1_code 25 = .ok (.aload_n 2, 1) := by decide +kernel
theorem d_Re_init_26 : decode prog_9_method_1_code 26 = .ok (.invokespecial 25, 3) := by decide +kernel
theorem d_Re_init_29 : decode prog_9_method_1_code 29 = .ok (.putfield 28, 3) := by decide +kernel
theorem d_Re_init_32 : decode prog_9_method_1_code 32 = .ok (.return_, 1) := by decide +kernel
theorem d_Re_readAll_0 : decode prog_9_method_2_code 0 = .ok (.iconst 0, 1) := by decide +kernel
theorem d_Re_readAll_1 : decode prog_9_method_2_code 1 = .ok (.istore_n 1, 1) := by decide +kernel
theorem d_Re_readAll_2 : decode prog_9_method_2_code 2 = .ok (.iconst 0, 1) := by decide +kernel
theorem d_Re_readAll_3 : decode prog_9_method_2_code 3 = .ok (.istore_n 2, 1) := by decide +kernel
theorem d_Re_readAll_4 : decode prog_9_method_2_code 4 = .ok (.iload_n 2, 1) := by decide +kernel
theorem d_Re_readAll_5 : decode prog_9_method_2_code 5 = .ok (.sipush 600, 3) := by decide +kernel
theorem d_Re_readAll_8 : decode prog_9_method_2_code 8 = .ok (.if_icmp .ge 30, 3) := by decide +kernel
theorem d_Re_readAll_11 : decode prog_9_method_2_code 11 = .ok (.iload_n 1, 1) := by decide +kernel
theorem d_Re_readAll_12 : decode prog_9_method_2_code 12 = .ok (.ifCond .lt 26, 3) := by decide +kernel
theorem d_Re_readAll_15 : decode prog_9_method_2_code 15 = .ok (.iload_n 1, 1) := by decide +kernel
theorem d_Re_readAll_16 : decode prog_9_method_2_code 16 = .ok (.aload_n 0, 1) := by decide +kernel
theorem d_Re_readAll_17 : decode prog_9_method_2_code 17 = .ok (.getfield 9, 3) := by decide +kernel
theorem d_Re_readAll_20 : decode prog_9_method_2_code 20 = .ok (.invokevirtual 32, 3) := by decide +kernel
theorem d_Re_readAll_23 : decode prog_9_method_2_code 23 = .ok (.if_icmp .ge 15, 3) := by decide +kernel
theorem d_Re_readAll_38 : decode prog_9_method_2_code 38 = .ok (.iload_n 1, 1) := by decide +kernel
theorem d_Re_readAll_39 : decode prog_9_method_2_code 39 = .ok (.ireturn, 1) := by decide +kernel
theorem d_So_append_0 : decode prog_10_method_5_code 0 = .ok (.aload_n 0, 1) := by decide +kernel
theorem d_So_append_1 : decode prog_10_method_5_code 1 = .ok (.getfield 24, 3) := by decide +kernel
theorem d_So_append_4 : decode prog_10_method_5_code 4 = .ok (.ifCond .lt 13, 3) := by decide +kernel
theorem d_So_append_7 : decode prog_10_method_5_code 7 = .ok (.aload_n 0, 1) := by decide +kernel
theorem d_So_append_8 : decode prog_10_method_5_code 8 = .ok (.getfield 24, 3) := by decide +kernel
theorem d_So_append_11 : decode prog_10_method_5_code 11 = .ok (.sipush 600, 3) := by decide +kernel
theorem d_So_append_14 : decode prog_10_method_5_code 14 = .ok (.if_icmp .lt 4, 3) := by decide +kernel
theorem d_So_append_18 : decode prog_10_method_5_code 18 = .ok (.iconst 1, 1) := by decide +kernel
theorem d_So_append_19 : decode prog_10_method_5_code 19 = .ok (.istore_n 2, 1) := by decide +kernel
theorem d_So_append_20 : decode prog_10_method_5_code 20 = .ok (.iconst 1, 1) := by decide +kernel
theorem d_So_append_21 : decode prog_10_method_5_code 21 = .ok (.istore_n 3, 1) := by decide +kernel
theorem d_So_append_22 : decode prog_10_method_5_code 22 = .ok (.aload_n 0, 1) := by decide +kernel
theorem d_So_append_23 : decode prog_10_method_5_code 23 = .ok (.getfield 24, 3) := by decide +kernel
theorem d_So_append_26 : decode prog_10_method_5_code 26 = .ok (.ifCond .le 103, 3) := by decide +kernel
theorem d_So_append_29 : decode prog_10_method_5_code 29 = .ok (.aload_n 0, 1) := by decide +kernel
theorem d_So_append_30 : decode prog_10_method_5_code 30 = .ok (.getfield 9, 3) := by decide +kernel
theorem d_So_append_33 : decode prog_10_method_5_code 33 = .ok (.aload_n 0, 1) := by decide +kernel
theorem d_So_append_34 : decode prog_10_method_5_code 34 = .ok (.getfield 24, 3) := by decide +kernel
theorem d_So_append_37 : decode prog_10_method_5_code 37 = .ok (.iconst 1, 1) := by decide +kernel
theorem d_So_append_38 : decode prog_10_method_5_code 38 = .ok (.isub, 1) := by decide +kernel
theorem d_So_append_39 : decode prog_10_method_5_code 39 = .ok (.iaload, 1) := by decide +kernel
theorem d_So_append_40 : decode prog_10_method_5_code 40 = .ok (.istore 4, 2) := by decide +kernel
theorem d_So_append_42 : decode prog_10_method_5_code 42 = .ok (.iload 4, 2) := by decide +kernel
theorem d_So_append_44 : decode prog_10_method_5_code 44 = .ok (.bipush 10, 2) := by decide +kernel
theorem d_So_append_46 : decode prog_10_method_5_code 46 = .ok (.if_icmp .eq 16, 3) := by decide +kernel
theorem d_So_append_49 : decode prog_10_method_5_code 49 = .ok (.iload 4, 2) := by decide +kernel
theorem d_So_append_51 : decode prog_10_method_5_code 51 = .ok (.bipush 13, 2) := by decide +kernel
theorem d_So_append_53 : decode prog_10_method_5_code 53 = .ok (.if_icmp .ne 13, 3) := by decide +kernel
theorem d_So_append_56 : decode prog_10_method_5_code 56 = .ok (.iload_n 1, 1) := by decide +kernel
theorem d_So_append_57 : decode prog_10_method_5_code 57 = .ok (.bipush 10, 2) := by decide +kernel
theorem d_So_append_59 : decode prog_10_method_5_code 59 = .ok (.if_icmp .eq 7, 3) := by decide +kernel
theorem d_So_append_62 : decode prog_10_method_5_code 62 = .ok (.iconst 1, 1) := by decide +kernel
theorem d_So_append_63 : decode prog_10_method_5_code 63 = .ok (.goto 4, 3) := by decide +kernel
theorem d_So_append_66 : decode prog_10_method_5_code 66 = .ok (.iconst 0, 1) := by decide +kernel
theorem d_So_append_67 : decode prog_10_method_5_code 67 = .ok (.istore 5, 2) := by decide +kernel
theorem d_So_append_69 : decode prog_10_method_5_code 69 = .ok (.iload 5, 2) := by decide +kernel
theorem d_So_append_71 : decode prog_10_method_5_code 71 = .ok (.ifCond .eq 19, 3) := by decide +kernel
theorem d_So_append_74 : decode prog_10_method_5_code 74 = .ok (.aload_n 0, 1) := by decide +kernel
theorem d_So_append_75 : decode prog_10_method_5_code 75 = .ok (.getfield 15, 3) := by decide +kernel
theorem d_So_append_78 : decode prog_10_method_5_code 78 = .ok (.aload_n 0, 1) := by decide +kernel
theorem d_So_append_79 : decode prog_10_method_5_code 79 = .ok (.getfield 24, 3) := by decide +kernel
theorem d_So_append_82 : decode prog_10_method_5_code 82 = .ok (.iconst 1, 1) := by decide +kernel
theorem d_So_append_83 : decode prog_10_method_5_code 83 = .ok (.isub, 1) := by decide +kernel
theorem d_So_append_84 : decode prog_10_method_5_code 84 = .ok (.iaload, 1) := by decide +kernel
theorem d_So_append_85 : decode prog_10_method_5_code 85 = .ok (.iconst 1, 1) := by decide +kernel
theorem d_So_append_86 : decode prog_10_method_5_code 86 = .ok (.iadd, 1) := by decide +kernel
theorem d_So_append_87 : decode prog_10_method_5_code 87 = .ok (.goto 14, 3) := by decide +kernel
theorem d_So_append_90 : decode prog_10_method_5_code 90 = .ok (.aload_n 0, 1) := by decide +kernel
theorem d_So_append_91 : decode prog_10_method_5_code 91 = .ok (.getfield 15, 3) := by decide +kernel
theorem d_So_append_94 : decode prog_10_method_5_code 94 = .ok (.aload_n 0, 1) := by decide +kernel
theorem d_So_append_95 : decode prog_10_method_5_code 95 = .ok (.getfield 24, 3) := by decide +kernel
theorem d_So_append_98 : decode prog_10_method_5_code 98 = .ok (.iconst 1, 1) := by decide +kernel
theorem d_So_append_99 : decode prog_10_method_5_code 99 = .ok (.isub, 1) := by decide +kernel
theorem d_So_append_100 : decode prog_10_method_5_code 100 = .ok (.iaload, 1) := by decide +kernel
theorem d_So_append_101 : decode prog_10_method_5_code 101 = .ok (.istore_n 2, 1) := by decide +kernel
theorem d_So_append_102 : decode prog_10_method_5_code 102 = .ok (.iload 5, 2) := by decide +kernel
theorem d_So_append_104 : decode prog_10_method_5_code 104 = .ok (.ifCond .eq 7, 3) := by decide +kernel
theorem d_So_append_107 : decode prog_10_method_5_code 107 = .ok (.iconst 1, 1) := by decide +kernel
theorem d_So_append_108 : decode prog_10_method_5_code 108 = .ok (.goto 20, 3) := by decide +kernel
theorem d_So_append_111 : decode prog_10_method_5_code 111 = .ok (.aload_n 0, 1) := by decide +kernel
theorem d_So_append_112 : decode prog_10_method_5_code 112 = .ok (.iload 4, 2) := by decide +kernel
theorem d_So_append_114 : decode prog_10_method_5_code 114 = .ok (.aload_n 0, 1) := by decide +kernel
theorem d_So_append_115 : decode prog_10_method_5_code 115 = .ok (.getfield 18, 3) := by decide +kernel
theorem d_So_append_118 : decode prog_10_method_5_code 118 = .ok (.aload_n 0, 1) := by decide +kernel
theorem d_So_append_119 : decode prog_10_method_5_code 119 = .ok (.getfield 24, 3) := by decide +kernel
theorem d_So_append_122 : decode prog_10_method_5_code 122 = .ok (.iconst 1, 1) := by decide +kernel
theorem d_So_append_123 : decode prog_10_method_5_code 123 = .ok (.isub, 1) := by decide +kernel
theorem d_So_append_124 : decode prog_10_method_5_code 124 = .ok (.iaload, 1) := by decide +kernel
theorem d_So_append_125 : decode prog_10_method_5_code 125 = .ok (.invokevirtual 28, 3) := by decide +kernel
theorem d_So_append_128 : decode prog_10_method_5_code 128 = .ok (.istore_n 3, 1) := by decide +kernel
theorem d_So_append_129 : decode prog_10_method_5_code 129 = .ok (.aload_n 0, 1) := by decide +kernel
theorem d_So_append_130 : decode prog_10_method_5_code 130 = .ok (.getfield 9, 3) := by decide +kernel
theorem d_So_append_133 : decode prog_10_method_5_code 133 = .ok (.aload_n 0, 1) := by decide +kernel
theorem d_So_append_134 : decode prog_10_method_5_code 134 = .ok (.getfield 24, 3) := by decide +kernel
theorem d_So_append_137 : decode prog_10_method_5_code 137 = .ok (.iload_n 1, 1) := by decide +kernel
theorem d_So_append_138 : decode prog_10_method_5_code 138 = .ok (.iastore, 1) := by decide +kernel
theorem d_So_append_139 : decode prog_10_method_5_code 139 = .ok (.aload_n 0, 1) := by decide +kernel
theorem d_So_append_140 : decode prog_10_method_5_code 140 = .ok (.getfield 15, 3) := by decide +kernel
theorem d_So_append_143 : decode prog_10_method_5_code 143 = .ok (.aload_n 0, 1) := by decide +kernel
theorem d_So_append_144 : decode prog_10_method_5_code 144 = .ok (.getfield 24, 3) := by decide +kernel
theorem d_So_append_147 : decode prog_10_method_5_code 147 = .ok (.iload_n 2, 1) := by decide +kernel
theorem d_So_append_148 : decode prog_10_method_5_code 148 = .ok (.iastore, 1) := by decide +kernel
theorem d_So_append_149 : decode prog_10_method_5_code 149 = .ok (.aload_n 0, 1) := by decide +kernel
theorem d_So_append_150 : decode prog_10_method_5_code 150 = .ok (.getfield 18, 3) := by decide +kernel
theorem d_So_append_153 : decode prog_10_method_5_code 153 = .ok (.aload_n 0, 1) := by decide +kernel
theorem d_So_append_154 : decode prog_10_method_5_code 154 = .ok (.getfield 24, 3) := by decide +kernel
theorem d_So_append_157 : decode prog_10_method_5_code 157 = .ok (.iload_n 3, 1) := by decide +kernel
theorem d_So_append_158 : decode prog_10_method_5_code 158 = .ok (.iastore, 1) := by decide +kernel
theorem d_So_append_159 : decode prog_10_method_5_code 159 = .ok (.aload_n 0, 1) := by decide +kernel
theorem d_So_append_160 : decode prog_10_method_5_code 160 = .ok (.dup, 1) := by decide +kernel
theorem d_So_append_161 : decode prog_10_method_5_code 161 = .ok (.getfield 24, 3) := by decide +kernel
theorem d_So_append_164 : decode prog_10_method_5_code 164 = .ok (.iconst 1, 1) := by decide +kernel
theorem d_So_append_165 : decode prog_10_method_5_code 165 = .ok (.iadd, 1) := by decide +kernel
theorem d_So_append_166 : decode prog_10_method_5_code 166 = .ok (.putfield 24, 3) := by decide +kernel
theorem d_So_append_169 : decode prog_10_method_5_code 169 = .ok (.return_, 1) := by decide +kernel
theorem d_So_columnAt_0 : decode prog_10_method_9_code 0 = .ok (.aload_n 0, 1) := by decide +kernel
theorem d_So_columnAt_1 : decode prog_10_method_9_code 1 = .ok (.iload_n 1, 1) := by decide +kernel
theorem d_So_columnAt_2 : decode prog_10_method_9_code 2 = .ok (.invokevirtual 32, 3) := by decide +kernel
theorem d_So_columnAt_5 : decode prog_10_method_9_code 5 = .ok (.ifCond .eq 12, 3) := by decide +kernel
theorem d_So_columnAt_17 : decode prog_10_method_9_code 17 = .ok (.iconst (-1), 1) := by decide +kernel
theorem d_So_columnAt_18 : decode prog_10_method_9_code 18 = .ok (.ireturn, 1) := by decide +kernel
theorem d_So_columnBehind_0 : decode prog_10_method_6_code 0 = .ok (.iload_n 1, 1) := by decide +kernel
theorem d_So_columnBehind_1 : decode prog_10_method_6_code 1 = .ok (.bipush 9, 2) := by decide +kernel
theorem d_So_columnBehind_3 : decode prog_10_method_6_code 3 = .ok (.if_icmp .ne 19, 3) := by decide +kernel
theorem d_So_columnBehind_6 : decode prog_10_method_6_code 6 = .ok (.iload_n 2, 1) := by decide +kernel
theorem d_So_columnBehind_7 : decode prog_10_method_6_code 7 = .ok (.iconst 1, 1) := by decide +kernel
theorem d_So_columnBehind_8 : decode prog_10_method_6_code 8 = .ok (.isub, 1) := by decide +kernel
theorem d_So_columnBehind_9 : decode prog_10_method_6_code 9 = .ok (.bipush 8, 2) := by decide +kernel
theorem d_So_columnBehind_11 : decode prog_10_method_6_code 11 = .ok (.idiv, 1) := by decide +kernel
theorem d_So_columnBehind_12 : decode prog_10_method_6_code 12 = .ok (.iconst 1, 1) := by decide +kernel
theorem d_So_columnBehind_13 : decode prog_10_method_6_code 13 = .ok (.iadd, 1) := by decide +kernel
theorem d_So_columnBehind_14 : decode prog_10_method_6_code 14 = .ok (.bipush 8, 2) := by decide +kernel
theorem d_So_columnBehind_16 : decode prog_10_method_6_code 16 = .ok (.imul, 1) := by decide +kernel
theorem d_So_columnBehind_17 : decode prog_10_method_6_code 17 = .ok (.iconst 1, 1) := by decide +kernel
theorem d_So_columnBehind_18 : decode prog_10_method_6_code 18 = .ok (.iadd, 1) := by decide +kernel
theorem d_So_columnBehind_19 : decode prog_10_method_6_code 19 = .ok (.goto 6, 3) := by decide +kernel
theorem d_So_columnBehind_22 : decode prog_10_method_6_code 22 = .ok (.iload_n 2, 1) := by decide +kernel
theorem d_So_columnBehind_23 : decode prog_10_method_6_code 23 = .ok (.iconst 1, 1) := by decide +kernel
theorem d_So_columnBehind_24 : decode prog_10_method_6_code 24 = .ok (.iadd, 1) := by decide +kernel
theorem d_So_columnBehind_25 : decode prog_10_method_6_code 25 = .ok (.ireturn, 1) := by decide +kernel
theorem d_So_countAll_0 : decode prog_10_method_13_code 0 = .ok (.iconst 0, 1) := by decide +kernel
theorem d_So_countAll_1 : decode prog_10_method_13_code 1 = .ok (.istore_n 1, 1) := by decide +kernel
theorem d_So_countAll_2 : decode prog_10_method_13_code 2 = .ok (.iload_n 1, 1) := by decide +kernel
theorem d_So_countAll_3 : decode prog_10_method_13_code 3 = .ok (.aload_n 0, 1) := by decide +kernel
theorem d_So_countAll_4 : decode prog_10_method_13_code 4 = .ok (.getfield 24, 3) := by decide +kernel
theorem d_So_countAll_7 : decode prog_10_method_13_code 7 = .ok (.if_icmp .ge 28, 3) := by decide +kernel
theorem d_So_countAll_35 : decode prog_10_method_13_code 35 = .ok (.aload_n 0, 1) := by decide +kernel
theorem d_So_countAll_36 : decode prog_10_method_13_code 36 = .ok (.getfield 24, 3) := by decide +kernel
theorem d_So_countAll_39 : decode prog_10_method_13_code 39 = .ok (.ireturn, 1) := by decide +kernel
theorem d_So_empty_0 : decode prog_10_method_4_code 0 = .ok (.aload_n 0, 1) := by decide +kernel
theorem d_So_empty_1 : decode prog_10_method_4_code 1 = .ok (.iconst 0, 1) := by decide +kernel
theorem d_So_empty_2 : decode prog_10_method_4_code 2 = .ok (.putfield 24, 3) := by decide +kernel
theorem d_So_empty_5 : decode prog_10_method_4_code 5 = .ok (.return_, 1) := by decide +kernel
theorem d_So_has_0 : decode prog_10_method_3_code 0 = .ok (.iload_n 1, 1) := by decide +kernel
theorem d_So_has_1 : decode prog_10_method_3_code 1 = .ok (.ifCond .lt 22, 3) := by decide +kernel
theorem d_So_has_4 : decode prog_10_method_3_code 4 = .ok (.iload_n 1, 1) := by decide +kernel
theorem d_So_has_5 : decode prog_10_method_3_code 5 = .ok (.aload_n 0, 1) := by decide +kernel
theorem d_So_has_6 : decode prog_10_method_3_code 6 = .ok (.getfield 24, 3) := by decide +kernel
theorem d_So_has_9 : decode prog_10_method_3_code 9 = .ok (.if_icmp .ge 14, 3) := by decide +kernel
theorem d_So_has_23 : decode prog_10_method_3_code 23 = .ok (.iconst 0, 1) := by decide +kernel
theorem d_So_has_24 : decode prog_10_method_3_code 24 = .ok (.ireturn, 1) := by decide +kernel
theorem d_So_init_0 : decode prog_10_method_1_code 0 = .ok (.aload_n 0, 1) := by decide +kernel
theorem d_So_init_1 : decode prog_10_method_1_code 1 = .ok (.invokespecial 3, 3) := by decide +kernel
theorem d_So_init_4 : decode prog_10_method_1_code 4 = .ok (.aload_n 0, 1) := by decide +kernel
theorem d_So_init_5 : decode prog_10_method_1_code 5 = .ok (.sipush 600, 3) := by decide +kernel
theorem d_So_init_8 : decode prog_10_method_1_code 8 = .ok (.newarray .int, 2) := by decide +kernel
theorem d_So_init_10 : decode prog_10_method_1_code 10 = .ok (.putfield 9, 3) := by decide +kernel
theorem d_So_init_13 : decode prog_10_method_1_code 13 = .ok (.aload_n 0, 1) := by decide +kernel
theorem d_So_init_14 : decode prog_10_method_1_code 14 = .ok (.sipush 600, 3) := by decide +kernel
theorem d_So_init_17 : decode prog_10_method_1_code 17 = .ok (.newarray .int, 2) := by decide +kernel
theorem d_So_init_19 : decode prog_10_method_1_code 19 = .ok (.putfield 15, 3) := by decide +kernel
theorem d_So_init_22 : decode prog_10_method_1_code 22 = .ok (.aload_n 0, 1) := by decide +kernel
theorem d_So_init_23 : decode prog_10_method_1_code 23 = .ok (.sipush 600, 3) := by decide +kernel
theorem d_So_init_26 : decode prog_10_method_1_code 26 = .ok (.newarray .int, 2) := by decide +kernel
theorem d_So_init_28 : decode prog_10_method_1_code 28 = .ok (.putfield 18, 3) := by decide +kernel
theorem d_So_init_31 : decode prog_10_method_1_code 31 = .ok (.aload_n 0, 1) := by decide +kernel
theorem d_So_init_32 : decode prog_10_method_1_code 32 = .ok (.sipush 600, 3) := by decide +kernel
theorem d_So_init_35 : decode prog_10_method_1_code 35 = .ok (.newarray .int, 2) := by decide +kernel
theorem d_So_init_37 : decode prog_10_method_1_code 37 = .ok (.putfield 21, 3) := by decide +kernel
theorem d_So_init_40 : decode prog_10_method_1_code 40 = .ok (.aload_n 0, 1) := by decide +kernel
theorem d_So_init_41 : decode prog_10_method_1_code 41 = .ok (.iconst 0, 1) := by decide +kernel
theorem d_So_init_42 : decode prog_10_method_1_code 42 = .ok (.putfield 24, 3) := by decide +kernel
theorem d_So_init_45 : decode prog_10_method_1_code 45 = .ok (.return_, 1) := by decide +kernel
theorem d_So_lastLine_0 : decode prog_10_method_10_code 0 = .ok (.aload_n 0, 1) := by decide +kernel
theorem d_So_lastLine_1 : decode prog_10_method_10_code 1 = .ok (.getfield 24, 3) := by decide +kernel
theorem d_So_lastLine_4 : decode prog_10_method_10_code 4 = .ok (.ifCond .le 16, 3) := by decide +kernel
theorem d_So_lastLine_20 : decode prog_10_method_10_code 20 = .ok (.iconst 1, 1) := by decide +kernel
theorem d_So_lastLine_21 : decode prog_10_method_10_code 21 = .ok (.ireturn, 1) := by decide +kernel
theorem d_So_size_0 : decode prog_10_method_2_code 0 = .ok (.aload_n 0, 1) := by decide +kernel
theorem d_So_size_1 : decode prog_10_method_2_code 1 = .ok (.getfield 24, 3) := by decide +kernel
theorem d_So_size_4 : decode prog_10_method_2_code 4 = .ok (.ireturn, 1) := by decide +kernel
