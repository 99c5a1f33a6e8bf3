theorem d_Le_init_78 : decode prog_5_method_1_code 78 = .ok (.putfield 38, 3) := by decide +kernel
theorem d_Le_init_81 : decode prog_5_method_1_code 81 = .ok (.aload_n 0, 1) := by decide +kernel
theorem d_Le_init_82 : decode prog_5_method_1_code 82 = .ok (.iconst 0, 1) := by decide +kernel
theorem d_Le_init_83 : decode prog_5_method_1_code 83 = .ok (.putfield 41, 3) := by decide +kernel
theorem d_Le_init_86 : decode prog_5_method_1_code 86 = .ok (.aload_n 0, 1) := by decide +kernel
theorem d_Le_init_87 : decode prog_5_method_1_code 87 = .ok (.iconst 0, 1) := by decide +kernel
theorem d_Le_init_88 : decode prog_5_method_1_code 88 = .ok (.putfield 45, 3) := by decide +kernel
theorem d_Le_init_91 : decode prog_5_method_1_code 91 = .ok (.return_, 1) := by decide +kernel
theorem d_Le_signOf_0 : decode prog_5_method_15_code 0 = .ok (.aload_n 0, 1) := by decide +kernel
theorem d_Le_signOf_1 : decode prog_5_method_15_code 1 = .ok (.iload_n 1, 1) := by decide +kernel
theorem d_Le_signOf_2 : decode prog_5_method_15_code 2 = .ok (.invokevirtual 62, 3) := by decide +kernel
theorem d_Le_signOf_5 : decode prog_5_method_15_code 5 = .ok (.ifCond .eq 17, 3) := by decide +kernel
theorem d_Le_signOf_22 : decode prog_5_method_15_code 22 = .ok (.iconst (-1), 1) := by decide +kernel
theorem d_Le_signOf_23 : decode prog_5_method_15_code 23 = .ok (.ireturn, 1) := by decide +kernel
theorem d_Le_valueOf_0 : decode prog_5_method_13_code 0 = .ok (.aload_n 0, 1) := by decide +kernel
theorem d_Le_valueOf_1 : decode prog_5_method_13_code 1 = .ok (.iload_n 1, 1) := by decide +kernel
theorem d_Le_valueOf_2 : decode prog_5_method_13_code 2 = .ok (.invokevirtual 62, 3) := by decide +kernel
theorem d_Le_valueOf_5 : decode prog_5_method_13_code 5 = .ok (.ifCond .eq 12, 3) := by decide +kernel
theorem d_Le_valueOf_17 : decode prog_5_method_13_code 17 = .ok (.lconst 0, 1) := by decide +kernel
theorem d_Le_valueOf_18 : decode prog_5_method_13_code 18 = .ok (.lreturn, 1) := by decide +kernel
theorem d_Li_count_0 : decode prog_6_method_2_code 0 = .ok (.iconst 0, 1) := by decide +kernel
theorem d_Li_count_1 : decode prog_6_method_2_code 1 = .ok (.istore_n 1, 1) := by decide +kernel
theorem d_Li_count_2 : decode prog_6_method_2_code 2 = .ok (.iconst 0, 1) := by decide +kernel
theorem d_Li_count_3 : decode prog_6_method_2_code 3 = .ok (.istore_n 2, 1) := by decide +kernel
theorem d_Li_count_4 : decode prog_6_method_2_code 4 = .ok (.iconst 0, 1) := by decide +kernel
theorem d_Li_count_5 : decode prog_6_method_2_code 5 = .ok (.istore_n 3, 1) := by decide +kernel
theorem d_Li_count_6 : decode prog_6_method_2_code 6 = .ok (.iconst 0, 1) := by decide +kernel
theorem d_Li_count_7 : decode prog_6_method_2_code 7 = .ok (.istore 4, 2) := by decide +kernel
theorem d_Li_count_9 : decode prog_6_method_2_code 9 = .ok (.iconst 0, 1) := by decide +kernel
theorem d_Li_count_10 : decode prog_6_method_2_code 10 = .ok (.istore 5, 2) := by decide +kernel
theorem d_Li_count_12 : decode prog_6_method_2_code 12 = .ok (.iload 5, 2) := by decide +kernel
theorem d_Li_count_14 : decode prog_6_method_2_code 14 = .ok (.sipush 600, 3) := by decide +kernel
theorem d_Li_count_17 : decode prog_6_method_2_code 17 = .ok (.if_icmp .ge 117, 3) := by decide +kernel
theorem d_Li_count_20 : decode prog_6_method_2_code 20 = .ok (.iload 4, 2) := by decide +kernel
theorem d_Li_count_22 : decode prog_6_method_2_code 22 = .ok (.aload_n 0, 1) := by decide +kernel
theorem d_Li_count_23 : decode prog_6_method_2_code 23 = .ok (.getfield 9, 3) := by decide +kernel
theorem d_Li_count_26 : decode prog_6_method_2_code 26 = .ok (.invokevirtual 15, 3) := by decide +kernel
theorem d_Li_count_29 : decode prog_6_method_2_code 29 = .ok (.if_icmp .ge 105, 3) := by decide +kernel
theorem d_Li_count_134 : decode prog_6_method_2_code 134 = .ok (.iload_n 1, 1) := by decide +kernel
theorem d_Li_count_135 : decode prog_6_method_2_code 135 = .ok (.ifCond .eq 13, 3) := by decide +kernel
theorem d_Li_count_148 : decode prog_6_method_2_code 148 = .ok (.aload_n 0, 1) := by decide +kernel
theorem d_Li_count_149 : decode prog_6_method_2_code 149 = .ok (.getfield 9, 3) := by decide +kernel
theorem d_Li_count_152 : decode prog_6_method_2_code 152 = .ok (.invokevirtual 15, 3) := by decide +kernel
theorem d_Li_count_155 : decode prog_6_method_2_code 155 = .ok (.invokestatic 29, 3) := by decide +kernel
theorem d_Li_count_158 : decode prog_6_method_2_code 158 = .ok (.ireturn, 1) := by decide +kernel
theorem d_Li_init_0 : decode prog_6_method_1_code 0 = .ok (.aload_n 0, 1) := by decide +kernel
theorem d_Li_init_1 : decode prog_6_method_1_code 1 = .ok (.invokespecial 3, 3) := by decide +kernel
theorem d_Li_init_4 : decode prog_6_method_1_code 4 = .ok (.aload_n 0, 1) := by decide +kernel
theorem d_Li_init_5 : decode prog_6_method_1_code 5 = .ok (.aload_n 1, 1) := by decide +kernel
theorem d_Li_init_6 : decode prog_6_method_1_code 6 = .ok (.putfield 9, 3) := by decide +kernel
theorem d_Li_init_9 : decode prog_6_method_1_code 9 = .ok (.return_, 1) := by decide +kernel
theorem d_Lt_asked_0 : decode prog_1_method_7_code 0 = .ok (.aload_n 0, 1) := by decide +kernel
theorem d_Lt_asked_1 : decode prog_1_method_7_code 1 = .ok (.getfield 51, 3) := by decide +kernel
theorem d_Lt_asked_4 : decode prog_1_method_7_code 4 = .ok (.iload_n 1, 1) := by decide +kernel
theorem d_Lt_asked_5 : decode prog_1_method_7_code 5 = .ok (.invokevirtual 134, 3) := by decide +kernel
theorem d_Lt_asked_8 : decode prog_1_method_7_code 8 = .ok (.ireturn, 1) := by decide +kernel
theorem d_Lt_back_0 : decode prog_1_method_12_code 0 = .ok (.aload_n 0, 1) := by decide +kernel
theorem d_Lt_back_1 : decode prog_1_method_12_code 1 = .ok (.getfield 69, 3) := by decide +kernel
theorem d_Lt_back_4 : decode prog_1_method_12_code 4 = .ok (.invokevirtual 149, 3) := by decide +kernel
theorem d_Lt_back_7 : decode prog_1_method_12_code 7 = .ok (.iconst (-1), 1) := by decide +kernel
theorem d_Lt_back_8 : decode prog_1_method_12_code 8 = .ok (.if_icmp .ne 5, 3) := by decide +kernel
theorem d_Lt_back_11 : decode prog_1_method_12_code 11 = .ok (.iconst (-1), 1) := by decide +kernel
theorem d_Lt_back_12 : decode prog_1_method_12_code 12 = .ok (.ireturn, 1) := by decide +kernel
theorem d_Lt_clear_0 : decode prog_1_method_14_code 0 = .ok (.aload_n 0, 1) := by decide +kernel
theorem d_Lt_clear_1 : decode prog_1_method_14_code 1 = .ok (.getfield 10, 3) := by decide +kernel
theorem d_Lt_clear_4 : decode prog_1_method_14_code 4 = .ok (.invokevirtual 77, 3) := by decide +kernel
theorem d_Lt_clear_7 : decode prog_1_method_14_code 7 = .ok (.istore_n 1, 1) := by decide +kernel
theorem d_Lt_clear_8 : decode prog_1_method_14_code 8 = .ok (.aload_n 0, 1) := by decide +kernel
theorem d_Lt_clear_9 : decode prog_1_method_14_code 9 = .ok (.getfield 10, 3) := by decide +kernel
theorem d_Lt_clear_12 : decode prog_1_method_14_code 12 = .ok (.invokevirtual 150, 3) := by decide +kernel
theorem d_Lt_clear_15 : decode prog_1_method_14_code 15 = .ok (.aload_n 0, 1) := by decide +kernel
theorem d_Lt_clear_16 : decode prog_1_method_14_code 16 = .ok (.invokevirtual 85, 3) := by decide +kernel
theorem d_Lt_clear_19 : decode prog_1_method_14_code 19 = .ok (.iload_n 1, 1) := by decide +kernel
theorem d_Lt_clear_20 : decode prog_1_method_14_code 20 = .ok (.ireturn, 1) := by decide +kernel
theorem d_Lt_column_0 : decode prog_1_method_8_code 0 = .ok (.aload_n 0, 1) := by decide +kernel
theorem d_Lt_column_1 : decode prog_1_method_8_code 1 = .ok (.getfield 10, 3) := by decide +kernel
theorem d_Lt_column_4 : decode prog_1_method_8_code 4 = .ok (.iload_n 1, 1) := by decide +kernel
theorem d_Lt_column_5 : decode prog_1_method_8_code 5 = .ok (.invokevirtual 137, 3) := by decide +kernel
theorem d_Lt_column_8 : decode prog_1_method_8_code 8 = .ok (.ireturn, 1) := by decide +kernel
theorem d_Lt_comment_0 : decode prog_1_method_9_code 0 = .ok (.aload_n 0, 1) := by decide +kernel
theorem d_Lt_comment_1 : decode prog_1_method_9_code 1 = .ok (.getfield 35, 3) := by decide +kernel
theorem d_Lt_comment_4 : decode prog_1_method_9_code 4 = .ok (.iload_n 1, 1) := by decide +kernel
theorem d_Lt_comment_5 : decode prog_1_method_9_code 5 = .ok (.iload_n 2, 1) := by decide +kernel
theorem d_Lt_comment_6 : decode prog_1_method_9_code 6 = .ok (.invokevirtual 140, 3) := by decide +kernel
theorem d_Lt_comment_9 : decode prog_1_method_9_code 9 = .ok (.ireturn, 1) := by decide +kernel
theorem d_Lt_faultAt_0 : decode prog_1_method_16_code 0 = .ok (.bipush (-2), 2) := by decide +kernel
theorem d_Lt_faultAt_2 : decode prog_1_method_16_code 2 = .ok (.iload_n 0, 1) := by decide +kernel
theorem d_Lt_faultAt_3 : decode prog_1_method_16_code 3 = .ok (.isub, 1) := by decide +kernel
theorem d_Lt_faultAt_4 : decode prog_1_method_16_code 4 = .ok (.ireturn, 1) := by decide +kernel
theorem d_Lt_forget_0 : decode prog_1_method_15_code 0 = .ok (.aload_n 0, 1) := by decide +kernel
theorem d_Lt_forget_1 : decode prog_1_method_15_code 1 = .ok (.iconst 0, 1) := by decide +kernel
theorem d_Lt_forget_2 : decode prog_1_method_15_code 2 = .ok (.putfield 73, 3) := by decide +kernel
theorem d_Lt_forget_5 : decode prog_1_method_15_code 5 = .ok (.aload_n 0, 1) := by decide +kernel
theorem d_Lt_forget_6 : decode prog_1_method_15_code 6 = .ok (.getfield 51, 3) := by decide +kernel
theorem d_Lt_forget_9 : decode prog_1_method_15_code 9 = .ok (.invokevirtual 164, 3) := by decide +kernel
theorem d_Lt_forget_12 : decode prog_1_method_15_code 12 = .ok (.aload_n 0, 1) := by decide +kernel
theorem d_Lt_forget_13 : decode prog_1_method_15_code 13 = .ok (.getfield 28, 3) := by decide +kernel
theorem d_Lt_forget_16 : decode prog_1_method_15_code 16 = .ok (.invokevirtual 165, 3) := by decide +kernel
theorem d_Lt_forget_19 : decode prog_1_method_15_code 19 = .ok (.aload_n 0, 1) := by decide +kernel
theorem d_Lt_forget_20 : decode prog_1_method_15_code 20 = .ok (.getfield 35, 3) := by decide +kernel
theorem d_Lt_forget_23 : decode prog_1_method_15_code 23 = .ok (.invokevirtual 166, 3) := by decide +kernel
theorem d_Lt_forget_26 : decode prog_1_method_15_code 26 = .ok (.return_, 1) := by decide +kernel
theorem d_Lt_init_0 : decode prog_1_method_1_code 0 = .ok (.aload_n 0, 1) := by decide +kernel
theorem d_Lt_init_1 : decode prog_1_method_1_code 1 = .ok (.invokespecial 1, 3) := by decide +kernel
theorem d_Lt_init_4 : decode prog_1_method_1_code 4 = .ok (.aload_n 0, 1) := by decide +kernel
theorem d_Lt_init_5 : decode prog_1_method_1_code 5 = .ok (.new 7, 3) := by decide +kernel
theorem d_Lt_init_8 : decode prog_1_method_1_code 8 = .ok (.dup, 1) := by decide +kernel
theorem d_Lt_init_9 : decode prog_1_method_1_code 9 = .ok (.invokespecial 9, 3) := by decide +kernel
theorem d_Lt_init_12 : decode prog_1_method_1_code 12 = .ok (.putfield 10, 3) := by decide +kernel
theorem d_Lt_init_15 : decode prog_1_method_1_code 15 = .ok (.aload_n 0, 1) := by decide +kernel
theorem d_Lt_init_16 : decode prog_1_method_1_code 16 = .ok (.new 16, 3) := by decide +kernel
theorem d_Lt_init_19 : decode prog_1_method_1_code 19 = .ok (.dup, 1) := by decide +kernel
theorem d_Lt_init_20 : decode prog_1_method_1_code 20 = .ok (.aload_n 0, 1) := by decide +kernel
theorem d_Lt_init_21 : decode prog_1_method_1_code 21 = .ok (.getfield 10, 3) := by decide +kernel
theorem d_Lt_init_24 : decode prog_1_method_1_code 24 = .ok (.invokespecial 18, 3) := by decide +kernel
theorem d_Lt_init_27 : decode prog_1_method_1_code 27 = .ok (.putfield 21, 3) := by decide +kernel
theorem d_Lt_init_30 : decode prog_1_method_1_code 30 = .ok (.aload_n 0, 1) := by decide +kernel
theorem d_Lt_init_31 : decode prog_1_method_1_code 31 = .ok (.new 25, 3) := by decide +kernel
theorem d_Lt_init_34 : decode prog_1_method_1_code 34 = .ok (.dup, 1) := by decide +kernel
theorem d_Lt_init_35 : decode prog_1_method_1_code 35 = .ok (.aload_n 0, 1) := by decide +kernel
theorem d_Lt_init_36 : decode prog_1_method_1_code 36 = .ok (.getfield 10, 3) := by decide +kernel
theorem d_Lt_init_39 : decode prog_1_method_1_code 39 = .ok (.invokespecial 27, 3) := by decide +kernel
theorem d_Lt_init_42 : decode prog_1_method_1_code 42 = .ok (.putfield 28, 3) := by decide +kernel
theorem d_Lt_init_45 : decode prog_1_method_1_code 45 = .ok (.aload_n 0, 1) := by decide +kernel
theorem d_Lt_init_46 : decode prog_1_method_1_code 46 = .ok (.new 32, 3) := by decide +kernel
theorem d_Lt_init_49 : decode prog_1_method_1_code 49 = .ok (.dup, 1) := by decide +kernel
theorem d_Lt_init_50 : decode prog_1_method_1_code 50 = .ok (.invokespecial 34, 3) := by decide +kernel
theorem d_Lt_init_53 : decode prog_1_method_1_code 53 = .ok (.putfield 35, 3) := by decide +kernel
theorem d_Lt_init_56 : decode prog_1_method_1_code 56 = .ok (.aload_n 0, 1) := by decide +kernel
theorem d_Lt_init_57 : decode prog_1_method_1_code 57 = .ok (.new 39, 3) := by decide +kernel
theorem d_Lt_init_60 : decode prog_1_method_1_code 60 = .ok (.dup, 1) := by decide +kernel
theorem d_Lt_init_61 : decode prog_1_method_1_code 61 = .ok (.aload_n 0, 1) := by decide +kernel
theorem d_Lt_init_62 : decode prog_1_method_1_code 62 = .ok (.getfield 10, 3) := by decide +kernel
theorem d_Lt_init_65 : decode prog_1_method_1_code 65 = .ok (.aload_n 0, 1) := by decide +kernel
theorem d_Lt_init_66 : decode prog_1_method_1_code 66 = .ok (.getfield 28, 3) := by decide +kernel
theorem d_Lt_init_69 : decode prog_1_method_1_code 69 = .ok (.aload_n 0, 1) := by decide +kernel
theorem d_Lt_init_70 : decode prog_1_method_1_code 70 = .ok (.getfield 35, 3) := by decide +kernel
theorem d_Lt_init_73 : decode prog_1_method_1_code 73 = .ok (.invokespecial 41, 3) := by decide +kernel
theorem d_Lt_init_76 : decode prog_1_method_1_code 76 = .ok (.putfield 44, 3) := by decide +kernel
theorem d_Lt_init_79 : decode prog_1_method_1_code 79 = .ok (.aload_n 0, 1) := by decide +kernel
theorem d_Lt_init_80 : decode prog_1_method_1_code 80 = .ok (.new 48, 3) := by decide +kernel
theorem d_Lt_init_83 : decode prog_1_method_1_code 83 = .ok (.dup, 1) := by decide +kernel
theorem d_Lt_init_84 : decode prog_1_method_1_code 84 = .ok (.aload_n 0, 1) := by decide +kernel
theorem d_Lt_init_85 : decode prog_1_method_1_code 85 = .ok (.getfield 10, 3) := by decide +kernel
theorem d_Lt_init_88 : decode prog_1_method_1_code 88 = .ok (.invokespecial 50, 3) := by decide +kernel
theorem d_Lt_init_91 : decode prog_1_method_1_code 91 = .ok (.putfield 51, 3) := by decide +kernel
theorem d_Lt_init_94 : decode prog_1_method_1_code 94 = .ok (.aload_n 0, 1) := by decide +kernel
theorem d_Lt_init_95 : decode prog_1_method_1_code 95 = .ok (.new 55, 3) := by decide +kernel
theorem d_Lt_init_98 : decode prog_1_method_1_code 98 = .ok (.dup, 1) := by decide +kernel
theorem d_Lt_init_99 : decode prog_1_method_1_code 99 = .ok (.aload_n 0, 1) := by decide +kernel
theorem d_Lt_init_100 : decode prog_1_method_1_code 100 = .ok (.getfield 10, 3) := by decide +kernel
theorem d_Lt_init_103 : decode prog_1_method_1_code 103 = .ok (.aload_n 0, 1) := by decide +kernel
theorem d_Lt_init_104 : decode prog_1_method_1_code 104 = .ok (.getfield 28, 3) := by decide +kernel
theorem d_Lt_init_107 : decode prog_1_method_1_code 107 = .ok (.aload_n 0, 1) := by decide +kernel
theorem d_Lt_init_108 : decode prog_1_method_1_code 108 = .ok (.getfield 51, 3) := by decide +kernel
theorem d_Lt_init_111 : decode prog_1_method_1_code 111 = .ok (.invokespecial 57, 3) := by decide +kernel
theorem d_Lt_init_114 : decode prog_1_method_1_code 114 = .ok (.putfield 60, 3) := by decide +kernel
theorem d_Lt_init_117 : decode prog_1_method_1_code 117 = .ok (.aload_n 0, 1) := by decide +kernel
theorem d_Lt_init_118 : decode prog_1_method_1_code 118 = .ok (.new 64, 3) := by decide +kernel
theorem d_Lt_init_121 : decode prog_1_method_1_code 121 = .ok (.dup, 1) := by decide +kernel
theorem d_Lt_init_122 : decode prog_1_method_1_code 122 = .ok (.aload_n 0, 1) := by decide +kernel
theorem d_Lt_init_123 : decode prog_1_method_1_code 123 = .ok (.getfield 28, 3) := by decide +kernel
theorem d_Lt_init_126 : decode prog_1_method_1_code 126 = .ok (.aload_n 0, 1) := by decide +kernel
theorem d_Lt_init_127 : decode prog_1_method_1_code 127 = .ok (.getfield 51, 3) := by decide +kernel
theorem d_Lt_init_130 : decode prog_1_method_1_code 130 = .ok (.invokespecial 66, 3) := by decide +kernel
theorem d_Lt_init_133 : decode prog_1_method_1_code 133 = .ok (.putfield 69, 3) := by decide +kernel
theorem d_Lt_init_136 : decode prog_1_method_1_code 136 = .ok (.aload_n 0, 1) := by decide +kernel
theorem d_Lt_init_137 : decode prog_1_method_1_code 137 = .ok (.iconst 0, 1) := by decide +kernel
theorem d_Lt_init_138 : decode prog_1_method_1_code 138 = .ok (.putfield 73, 3) := by decide +kernel
theorem d_Lt_init_141 : decode prog_1_method_1_code 141 = .ok (.return_, 1) := by decide +kernel
theorem d_Lt_letter_0 : decode prog_1_method_11_code 0 = .ok (.aload_n 0, 1) := by decide +kernel
theorem d_Lt_letter_1 : decode prog_1_method_11_code 1 = .ok (.getfield 69, 3) := by decide +kernel
theorem d_Lt_letter_4 : decode prog_1_method_11_code 4 = .ok (.iload_n 1, 1) := by decide +kernel
theorem d_Lt_letter_5 : decode prog_1_method_11_code 5 = .ok (.invokevirtual 146, 3) := by decide +kernel
theorem d_Lt_letter_8 : decode prog_1_method_11_code 8 = .ok (.ireturn, 1) := by decide +kernel
theorem d_Lt_number_0 : decode prog_1_method_6_code 0 = .ok (.aload_n 0, 1) := by decide +kernel
theorem d_Lt_number_1 : decode prog_1_method_6_code 1 = .ok (.getfield 28, 3) := by decide +kernel
theorem d_Lt_number_4 : decode prog_1_method_6_code 4 = .ok (.aload_n 0, 1) := by decide +kernel
theorem d_Lt_number_5 : decode prog_1_method_6_code 5 = .ok (.getfield 51, 3) := by decide +kernel
theorem d_Lt_number_8 : decode prog_1_method_6_code 8 = .ok (.iload_n 1, 1) := by decide +kernel
theorem d_Lt_number_9 : decode prog_1_method_6_code 9 = .ok (.invokevirtual 111, 3) := by decide +kernel
theorem d_Lt_number_12 : decode prog_1_method_6_code 12 = .ok (.invokevirtual 130, 3) := by decide +kernel
theorem d_Lt_number_15 : decode prog_1_method_6_code 15 = .ok (.lreturn, 1) := by decide +kernel
theorem d_Lt_octets_0 : decode prog_1_method_2_code 0 = .ok (.iload_n 1, 1) := by decide +kernel
theorem d_Lt_octets_1 : decode prog_1_method_2_code 1 = .ok (.iconst 1, 1) := by decide +kernel
theorem d_Lt_octets_2 : decode prog_1_method_2_code 2 = .ok (.if_icmp .lt 24, 3) := by decide +kernel
theorem d_Lt_octets_5 : decode prog_1_method_2_code 5 = .ok (.iload_n 1, 1) := by decide +kernel
theorem d_Lt_octets_6 : decode prog_1_method_2_code 6 = .ok (.bipush 8, 2) := by decide +kernel
theorem d_Lt_octets_8 : decode prog_1_method_2_code 8 = .ok (.if_icmp .gt 18, 3) := by decide +kernel
theorem d_Lt_octets_11 : decode prog_1_method_2_code 11 = .ok (.aload_n 0, 1) := by decide +kernel
theorem d_Lt_octets_12 : decode prog_1_method_2_code 12 = .ok (.getfield 10, 3) := by decide +kernel
theorem d_Lt_octets_15 : decode prog_1_method_2_code 15 = .ok (.invokevirtual 77, 3) := by decide +kernel
theorem d_Lt_octets_18 : decode prog_1_method_2_code 18 = .ok (.iload_n 1, 1) := by decide +kernel
theorem d_Lt_octets_19 : decode prog_1_method_2_code 19 = .ok (.iadd, 1) := by decide +kernel
theorem d_Lt_octets_20 : decode prog_1_method_2_code 20 = .ok (.sipush 600, 3) := by decide +kernel
theorem d_Lt_octets_23 : decode prog_1_method_2_code 23 = .ok (.if_icmp .le 5, 3) := by decide +kernel
theorem d_Lt_octets_26 : decode prog_1_method_2_code 26 = .ok (.iconst (-1), 1) := by decide +kernel
theorem d_Lt_octets_27 : decode prog_1_method_2_code 27 = .ok (.ireturn, 1) := by decide +kernel
theorem d_Lt_octets_28 : decode prog_1_method_2_code 28 = .ok (.iconst 0, 1) := by decide +kernel
theorem d_Lt_octets_29 : decode prog_1_method_2_code 29 = .ok (.istore 4, 2) := by decide +kernel
theorem d_Lt_octets_31 : decode prog_1_method_2_code 31 = .ok (.iload 4, 2) := by decide +kernel
theorem d_Lt_octets_33 : decode prog_1_method_2_code 33 = .ok (.iload_n 1, 1) := by decide +kernel
theorem d_Lt_octets_34 : decode prog_1_method_2_code 34 = .ok (.if_icmp .ge 28, 3) := by decide +kernel
theorem d_Lt_octets_37 : decode prog_1_method_2_code 37 = .ok (.aload_n 0, 1) := by decide +kernel
theorem d_Lt_octets_38 : decode prog_1_method_2_code 38 = .ok (.getfield 10, 3) := by decide +kernel
theorem d_Lt_octets_41 : decode prog_1_method_2_code 41 = .ok (.lload_n 2, 1) := by decide +kernel
theorem d_Lt_octets_42 : decode prog_1_method_2_code 42 = .ok (.bipush 8, 2) := by decide +kernel
theorem d_Lt_octets_44 : decode prog_1_method_2_code 44 = .ok (.iload 4, 2) := by decide +kernel
theorem d_Lt_octets_46 : decode prog_1_method_2_code 46 = .ok (.imul, 1) := by decide +kernel
theorem d_Lt_octets_47 : decode prog_1_method_2_code 47 = .ok (.lushr, 1) := by decide +kernel
theorem d_Lt_octets_48 : decode prog_1_method_2_code 48 = .ok (.l2i, 1) := by decide +kernel
theorem d_Lt_octets_49 : decode prog_1_method_2_code 49 = .ok (.sipush 255, 3) := by decide +kernel
theorem d_Lt_octets_52 : decode prog_1_method_2_code 52 = .ok (.iand, 1) := by decide +kernel
theorem d_Lt_octets_53 : decode prog_1_method_2_code 53 = .ok (.invokevirtual 81, 3) := by decide +kernel
theorem d_Lt_octets_56 : decode prog_1_method_2_code 56 = .ok (.iinc 4 1, 3) := by decide +kernel
theorem d_Lt_octets_59 : decode prog_1_method_2_code 59 = .ok (.goto (-28), 3) := by decide +kernel
theorem d_Lt_octets_62 : decode prog_1_method_2_code 62 = .ok (.aload_n 0, 1) := by decide +kernel
theorem d_Lt_octets_63 : decode prog_1_method_2_code 63 = .ok (.getfield 10, 3) := by decide +kernel
theorem d_Lt_octets_66 : decode prog_1_method_2_code 66 = .ok (.invokevirtual 77, 3) := by decide +kernel
theorem d_Lt_octets_69 : decode prog_1_method_2_code 69 = .ok (.ireturn, 1) := by decide +kernel
theorem d_Lt_print_0 : decode prog_1_method_10_code 0 = .ok (.aload_n 0, 1) := by decide +kernel
theorem d_Lt_print_1 : decode prog_1_method_10_code 1 = .ok (.getfield 73, 3) := by decide +kernel
theorem d_Lt_print_4 : decode prog_1_method_10_code 4 = .ok (.ifCond .eq 13, 3) := by decide +kernel
theorem d_Lt_print_17 : decode prog_1_method_10_code 17 = .ok (.iconst (-1), 1) := by decide +kernel
theorem d_Lt_print_18 : decode prog_1_method_10_code 18 = .ok (.ireturn, 1) := by decide +kernel
theorem d_Lt_read_0 : decode prog_1_method_3_code 0 = .ok (.aload_n 0, 1) := by decide +kernel
theorem d_Lt_read_1 : decode prog_1_method_3_code 1 = .ok (.invokevirtual 85, 3) := by decide +kernel
theorem d_Lt_read_4 : decode prog_1_method_3_code 4 = .ok (.iload_n 1, 1) := by decide +kernel
theorem d_Lt_read_5 : decode prog_1_method_3_code 5 = .ok (.ifCond .eq 13, 3) := by decide +kernel
theorem d_Lt_read_8 : decode prog_1_method_3_code 8 = .ok (.aload_n 0, 1) := by decide +kernel
theorem d_Lt_read_9 : decode prog_1_method_3_code 9 = .ok (.getfield 21, 3) := by decide +kernel
theorem d_Lt_read_12 : decode prog_1_method_3_code 12 = .ok (.invokevirtual 88, 3) := by decide +kernel
theorem d_Lt_read_15 : decode prog_1_method_3_code 15 = .ok (.goto 10, 3) := by decide +kernel
theorem d_Lt_read_18 : decode prog_1_method_3_code 18 = .ok (.aload_n 0, 1) := by decide +kernel
theorem d_Lt_read_19 : decode prog_1_method_3_code 19 = .ok (.getfield 10, 3) := by decide +kernel
theorem d_Lt_read_22 : decode prog_1_method_3_code 22 = .ok (.invokevirtual 91, 3) := by decide +kernel
theorem d_Lt_read_25 : decode prog_1_method_3_code 25 = .ok (.istore_n 2, 1) := by decide +kernel
theorem d_Lt_read_26 : decode prog_1_method_3_code 26 = .ok (.iload_n 2, 1) := by decide +kernel
theorem d_Lt_read_27 : decode prog_1_method_3_code 27 = .ok (.ifCond .lt 11, 3) := by decide +kernel
theorem d_Lt_read_30 : decode prog_1_method_3_code 30 = .ok (.aload_n 0, 1) := by decide +kernel
theorem d_Lt_read_31 : decode prog_1_method_3_code 31 = .ok (.getfield 44, 3) := by decide +kernel
theorem d_Lt_read_34 : decode prog_1_method_3_code 34 = .ok (.invokevirtual 94, 3) := by decide +kernel
theorem d_Lt_read_37 : decode prog_1_method_3_code 37 = .ok (.istore_n 2, 1) := by decide +kernel
theorem d_Lt_read_38 : decode prog_1_method_3_code 38 = .ok (.iload_n 2, 1) := by decide +kernel
theorem d_Lt_read_39 : decode prog_1_method_3_code 39 = .ok (.ifCond .lt 11, 3) := by decide +kernel
theorem d_Lt_read_42 : decode prog_1_method_3_code 42 = .ok (.aload_n 0, 1) := by decide +kernel
theorem d_Lt_read_43 : decode prog_1_method_3_code 43 = .ok (.getfield 60, 3) := by decide +kernel
theorem d_Lt_read_46 : decode prog_1_method_3_code 46 = .ok (.invokevirtual 97, 3) := by decide +kernel
theorem d_Lt_read_49 : decode prog_1_method_3_code 49 = .ok (.istore_n 2, 1) := by decide +kernel
theorem d_Lt_read_50 : decode prog_1_method_3_code 50 = .ok (.iload_n 2, 1) := by decide +kernel
