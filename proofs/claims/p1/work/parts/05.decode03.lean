theorem d_Lt_read_51 : decode prog_1_method_3_code 51 = .ok (.ifCond .ge 9, 3) := by decide +kernel
theorem d_Lt_read_54 : decode prog_1_method_3_code 54 = .ok (.aload_n 0, 1) := by decide +kernel
theorem d_Lt_read_55 : decode prog_1_method_3_code 55 = .ok (.invokevirtual 85, 3) := by decide +kernel
theorem d_Lt_read_58 : decode prog_1_method_3_code 58 = .ok (.iload_n 2, 1) := by decide +kernel
theorem d_Lt_read_59 : decode prog_1_method_3_code 59 = .ok (.ireturn, 1) := by decide +kernel
theorem d_Lt_read_60 : decode prog_1_method_3_code 60 = .ok (.aload_n 0, 1) := by decide +kernel
theorem d_Lt_read_61 : decode prog_1_method_3_code 61 = .ok (.iconst 1, 1) := by decide +kernel
theorem d_Lt_read_62 : decode prog_1_method_3_code 62 = .ok (.putfield 73, 3) := by decide +kernel
theorem d_Lt_read_65 : decode prog_1_method_3_code 65 = .ok (.iload_n 2, 1) := by decide +kernel
theorem d_Lt_read_66 : decode prog_1_method_3_code 66 = .ok (.ireturn, 1) := by decide +kernel
theorem d_Lt_sign_0 : decode prog_1_method_5_code 0 = .ok (.aload_n 0, 1) := by decide +kernel
theorem d_Lt_sign_1 : decode prog_1_method_5_code 1 = .ok (.getfield 28, 3) := by decide +kernel
theorem d_Lt_sign_4 : decode prog_1_method_5_code 4 = .ok (.aload_n 0, 1) := by decide +kernel
theorem d_Lt_sign_5 : decode prog_1_method_5_code 5 = .ok (.getfield 51, 3) := by decide +kernel
theorem d_Lt_sign_8 : decode prog_1_method_5_code 8 = .ok (.iload_n 1, 1) := by decide +kernel
theorem d_Lt_sign_9 : decode prog_1_method_5_code 9 = .ok (.invokevirtual 111, 3) := by decide +kernel
theorem d_Lt_sign_12 : decode prog_1_method_5_code 12 = .ok (.iload_n 2, 1) := by decide +kernel
theorem d_Lt_sign_13 : decode prog_1_method_5_code 13 = .ok (.invokevirtual 126, 3) := by decide +kernel
theorem d_Lt_sign_16 : decode prog_1_method_5_code 16 = .ok (.ireturn, 1) := by decide +kernel
theorem d_Lt_token_0 : decode prog_1_method_4_code 0 = .ok (.aload_n 0, 1) := by decide +kernel
theorem d_Lt_token_1 : decode prog_1_method_4_code 1 = .ok (.getfield 51, 3) := by decide +kernel
theorem d_Lt_token_4 : decode prog_1_method_4_code 4 = .ok (.iload_n 1, 1) := by decide +kernel
theorem d_Lt_token_5 : decode prog_1_method_4_code 5 = .ok (.invokevirtual 100, 3) := by decide +kernel
theorem d_Lt_token_8 : decode prog_1_method_4_code 8 = .ok (.ifCond .ne 5, 3) := by decide +kernel
theorem d_Lt_token_11 : decode prog_1_method_4_code 11 = .ok (.iconst (-1), 1) := by decide +kernel
theorem d_Lt_token_12 : decode prog_1_method_4_code 12 = .ok (.ireturn, 1) := by decide +kernel
theorem d_Lt_told_0 : decode prog_1_method_13_code 0 = .ok (.iload_n 1, 1) := by decide +kernel
theorem d_Lt_told_1 : decode prog_1_method_13_code 1 = .ok (.tableswitch 104 0 6 #[43, 51, 59, 67, 75, 83, 91], 43) := by decide +kernel
theorem d_Lt_told_44 : decode prog_1_method_13_code 44 = .ok (.aload_n 0, 1) := by decide +kernel
theorem d_Lt_told_45 : decode prog_1_method_13_code 45 = .ok (.getfield 10, 3) := by decide +kernel
theorem d_Lt_told_48 : decode prog_1_method_13_code 48 = .ok (.invokevirtual 77, 3) := by decide +kernel
theorem d_Lt_told_51 : decode prog_1_method_13_code 51 = .ok (.ireturn, 1) := by decide +kernel
theorem d_Lt_told_52 : decode prog_1_method_13_code 52 = .ok (.aload_n 0, 1) := by decide +kernel
theorem d_Lt_told_53 : decode prog_1_method_13_code 53 = .ok (.getfield 51, 3) := by decide +kernel
theorem d_Lt_told_56 : decode prog_1_method_13_code 56 = .ok (.invokevirtual 153, 3) := by decide +kernel
theorem d_Lt_told_59 : decode prog_1_method_13_code 59 = .ok (.ireturn, 1) := by decide +kernel
theorem d_Lt_told_60 : decode prog_1_method_13_code 60 = .ok (.aload_n 0, 1) := by decide +kernel
theorem d_Lt_told_61 : decode prog_1_method_13_code 61 = .ok (.getfield 51, 3) := by decide +kernel
theorem d_Lt_told_64 : decode prog_1_method_13_code 64 = .ok (.invokevirtual 154, 3) := by decide +kernel
theorem d_Lt_told_67 : decode prog_1_method_13_code 67 = .ok (.ireturn, 1) := by decide +kernel
theorem d_Lt_told_68 : decode prog_1_method_13_code 68 = .ok (.aload_n 0, 1) := by decide +kernel
theorem d_Lt_told_69 : decode prog_1_method_13_code 69 = .ok (.getfield 51, 3) := by decide +kernel
theorem d_Lt_told_72 : decode prog_1_method_13_code 72 = .ok (.invokevirtual 157, 3) := by decide +kernel
theorem d_Lt_told_75 : decode prog_1_method_13_code 75 = .ok (.ireturn, 1) := by decide +kernel
theorem d_Lt_told_76 : decode prog_1_method_13_code 76 = .ok (.aload_n 0, 1) := by decide +kernel
theorem d_Lt_told_77 : decode prog_1_method_13_code 77 = .ok (.getfield 35, 3) := by decide +kernel
theorem d_Lt_told_80 : decode prog_1_method_13_code 80 = .ok (.invokevirtual 160, 3) := by decide +kernel
theorem d_Lt_told_83 : decode prog_1_method_13_code 83 = .ok (.ireturn, 1) := by decide +kernel
theorem d_Lt_told_84 : decode prog_1_method_13_code 84 = .ok (.aload_n 0, 1) := by decide +kernel
theorem d_Lt_told_85 : decode prog_1_method_13_code 85 = .ok (.getfield 35, 3) := by decide +kernel
theorem d_Lt_told_88 : decode prog_1_method_13_code 88 = .ok (.invokevirtual 161, 3) := by decide +kernel
theorem d_Lt_told_91 : decode prog_1_method_13_code 91 = .ok (.ireturn, 1) := by decide +kernel
theorem d_Lt_told_92 : decode prog_1_method_13_code 92 = .ok (.aload_n 0, 1) := by decide +kernel
theorem d_Lt_told_93 : decode prog_1_method_13_code 93 = .ok (.getfield 73, 3) := by decide +kernel
theorem d_Lt_told_96 : decode prog_1_method_13_code 96 = .ok (.ifCond .eq 7, 3) := by decide +kernel
theorem d_Lt_told_103 : decode prog_1_method_13_code 103 = .ok (.iconst 0, 1) := by decide +kernel
theorem d_Lt_told_104 : decode prog_1_method_13_code 104 = .ok (.ireturn, 1) := by decide +kernel
theorem d_Lt_told_105 : decode prog_1_method_13_code 105 = .ok (.iconst (-1), 1) := by decide +kernel
theorem d_Lt_told_106 : decode prog_1_method_13_code 106 = .ok (.ireturn, 1) := by decide +kernel
theorem d_Ly_closeEmpty_0 : decode prog_4_method_7_code 0 = .ok (.aload_n 0, 1) := by decide +kernel
theorem d_Ly_closeEmpty_1 : decode prog_4_method_7_code 1 = .ok (.aload_n 0, 1) := by decide +kernel
theorem d_Ly_closeEmpty_2 : decode prog_4_method_7_code 2 = .ok (.getfield 41, 3) := by decide +kernel
theorem d_Ly_closeEmpty_5 : decode prog_4_method_7_code 5 = .ok (.ifCond .ne 12, 3) := by decide +kernel
theorem d_Ly_closeEmpty_8 : decode prog_4_method_7_code 8 = .ok (.aload_n 0, 1) := by decide +kernel
theorem d_Ly_closeEmpty_9 : decode prog_4_method_7_code 9 = .ok (.getfield 34, 3) := by decide +kernel
theorem d_Ly_closeEmpty_12 : decode prog_4_method_7_code 12 = .ok (.bipush 60, 2) := by decide +kernel
theorem d_Ly_closeEmpty_14 : decode prog_4_method_7_code 14 = .ok (.if_icmp .lt 7, 3) := by decide +kernel
theorem d_Ly_closeEmpty_21 : decode prog_4_method_7_code 21 = .ok (.iconst 0, 1) := by decide +kernel
theorem d_Ly_closeEmpty_22 : decode prog_4_method_7_code 22 = .ok (.putfield 41, 3) := by decide +kernel
theorem d_Ly_closeEmpty_25 : decode prog_4_method_7_code 25 = .ok (.aload_n 0, 1) := by decide +kernel
theorem d_Ly_closeEmpty_26 : decode prog_4_method_7_code 26 = .ok (.bipush 16, 2) := by decide +kernel
theorem d_Ly_closeEmpty_28 : decode prog_4_method_7_code 28 = .ok (.iconst 0, 1) := by decide +kernel
theorem d_Ly_closeEmpty_29 : decode prog_4_method_7_code 29 = .ok (.invokevirtual 130, 3) := by decide +kernel
theorem d_Ly_closeEmpty_32 : decode prog_4_method_7_code 32 = .ok (.return_, 1) := by decide +kernel
theorem d_Ly_finish_0 : decode prog_4_method_21_code 0 = .ok (.aload_n 0, 1) := by decide +kernel
theorem d_Ly_finish_1 : decode prog_4_method_21_code 1 = .ok (.aload_n 0, 1) := by decide +kernel
theorem d_Ly_finish_2 : decode prog_4_method_21_code 2 = .ok (.getfield 9, 3) := by decide +kernel
theorem d_Ly_finish_5 : decode prog_4_method_21_code 5 = .ok (.invokevirtual 65, 3) := by decide +kernel
theorem d_Ly_finish_8 : decode prog_4_method_21_code 8 = .ok (.putfield 76, 3) := by decide +kernel
theorem d_Ly_finish_11 : decode prog_4_method_21_code 11 = .ok (.aload_n 0, 1) := by decide +kernel
theorem d_Ly_finish_12 : decode prog_4_method_21_code 12 = .ok (.getfield 19, 3) := by decide +kernel
theorem d_Ly_finish_15 : decode prog_4_method_21_code 15 = .ok (.invokevirtual 167, 3) := by decide +kernel
theorem d_Ly_finish_18 : decode prog_4_method_21_code 18 = .ok (.aload_n 0, 1) := by decide +kernel
theorem d_Ly_finish_19 : decode prog_4_method_21_code 19 = .ok (.getfield 15, 3) := by decide +kernel
theorem d_Ly_finish_22 : decode prog_4_method_21_code 22 = .ok (.invokevirtual 45, 3) := by decide +kernel
theorem d_Ly_finish_25 : decode prog_4_method_21_code 25 = .ok (.iconst 1, 1) := by decide +kernel
theorem d_Ly_finish_26 : decode prog_4_method_21_code 26 = .ok (.isub, 1) := by decide +kernel
theorem d_Ly_finish_27 : decode prog_4_method_21_code 27 = .ok (.istore_n 1, 1) := by decide +kernel
theorem d_Ly_finish_28 : decode prog_4_method_21_code 28 = .ok (.iload_n 1, 1) := by decide +kernel
theorem d_Ly_finish_29 : decode prog_4_method_21_code 29 = .ok (.ifCond .lt 18, 3) := by decide +kernel
theorem d_Ly_finish_47 : decode prog_4_method_21_code 47 = .ok (.aload_n 0, 1) := by decide +kernel
theorem d_Ly_finish_48 : decode prog_4_method_21_code 48 = .ok (.bipush 14, 2) := by decide +kernel
theorem d_Ly_finish_50 : decode prog_4_method_21_code 50 = .ok (.iconst 0, 1) := by decide +kernel
theorem d_Ly_finish_51 : decode prog_4_method_21_code 51 = .ok (.invokevirtual 130, 3) := by decide +kernel
theorem d_Ly_finish_54 : decode prog_4_method_21_code 54 = .ok (.aload_n 0, 1) := by decide +kernel
theorem d_Ly_finish_55 : decode prog_4_method_21_code 55 = .ok (.invokevirtual 137, 3) := by decide +kernel
theorem d_Ly_finish_58 : decode prog_4_method_21_code 58 = .ok (.iconst 0, 1) := by decide +kernel
theorem d_Ly_finish_59 : decode prog_4_method_21_code 59 = .ok (.istore_n 2, 1) := by decide +kernel
theorem d_Ly_finish_60 : decode prog_4_method_21_code 60 = .ok (.iload_n 2, 1) := by decide +kernel
theorem d_Ly_finish_61 : decode prog_4_method_21_code 61 = .ok (.bipush 60, 2) := by decide +kernel
theorem d_Ly_finish_63 : decode prog_4_method_21_code 63 = .ok (.if_icmp .ge 28, 3) := by decide +kernel
theorem d_Ly_finish_66 : decode prog_4_method_21_code 66 = .ok (.aload_n 0, 1) := by decide +kernel
theorem d_Ly_finish_67 : decode prog_4_method_21_code 67 = .ok (.invokevirtual 140, 3) := by decide +kernel
theorem d_Ly_finish_70 : decode prog_4_method_21_code 70 = .ok (.iconst (-1), 1) := by decide +kernel
theorem d_Ly_finish_71 : decode prog_4_method_21_code 71 = .ok (.if_icmp .eq 20, 3) := by decide +kernel
theorem d_Ly_finish_91 : decode prog_4_method_21_code 91 = .ok (.return_, 1) := by decide +kernel
theorem d_Ly_init_0 : decode prog_4_method_1_code 0 = .ok (.aload_n 0, 1) := by decide +kernel
theorem d_Ly_init_1 : decode prog_4_method_1_code 1 = .ok (.invokespecial 3, 3) := by decide +kernel
theorem d_Ly_init_4 : decode prog_4_method_1_code 4 = .ok (.aload_n 0, 1) := by decide +kernel
theorem d_Ly_init_5 : decode prog_4_method_1_code 5 = .ok (.aload_n 1, 1) := by decide +kernel
theorem d_Ly_init_6 : decode prog_4_method_1_code 6 = .ok (.putfield 9, 3) := by decide +kernel
theorem d_Ly_init_9 : decode prog_4_method_1_code 9 = .ok (.aload_n 0, 1) := by decide +kernel
theorem d_Ly_init_10 : decode prog_4_method_1_code 10 = .ok (.aload_n 2, 1) := by decide +kernel
theorem d_Ly_init_11 : decode prog_4_method_1_code 11 = .ok (.putfield 15, 3) := by decide +kernel
theorem d_Ly_init_14 : decode prog_4_method_1_code 14 = .ok (.aload_n 0, 1) := by decide +kernel
theorem d_Ly_init_15 : decode prog_4_method_1_code 15 = .ok (.aload_n 3, 1) := by decide +kernel
theorem d_Ly_init_16 : decode prog_4_method_1_code 16 = .ok (.putfield 19, 3) := by decide +kernel
theorem d_Ly_init_19 : decode prog_4_method_1_code 19 = .ok (.aload_n 0, 1) := by decide +kernel
theorem d_Ly_init_20 : decode prog_4_method_1_code 20 = .ok (.bipush 60, 2) := by decide +kernel
theorem d_Ly_init_22 : decode prog_4_method_1_code 22 = .ok (.newarray .int, 2) := by decide +kernel
theorem d_Ly_init_24 : decode prog_4_method_1_code 24 = .ok (.putfield 23, 3) := by decide +kernel
theorem d_Ly_init_27 : decode prog_4_method_1_code 27 = .ok (.aload_n 0, 1) := by decide +kernel
theorem d_Ly_init_28 : decode prog_4_method_1_code 28 = .ok (.bipush 60, 2) := by decide +kernel
theorem d_Ly_init_30 : decode prog_4_method_1_code 30 = .ok (.newarray .int, 2) := by decide +kernel
theorem d_Ly_init_32 : decode prog_4_method_1_code 32 = .ok (.putfield 27, 3) := by decide +kernel
theorem d_Ly_init_35 : decode prog_4_method_1_code 35 = .ok (.aload_n 0, 1) := by decide +kernel
theorem d_Ly_init_36 : decode prog_4_method_1_code 36 = .ok (.bipush 60, 2) := by decide +kernel
theorem d_Ly_init_38 : decode prog_4_method_1_code 38 = .ok (.newarray .boolean, 2) := by decide +kernel
theorem d_Ly_init_40 : decode prog_4_method_1_code 40 = .ok (.putfield 30, 3) := by decide +kernel
theorem d_Ly_init_43 : decode prog_4_method_1_code 43 = .ok (.return_, 1) := by decide +kernel
theorem d_Ly_layAll_0 : decode prog_4_method_2_code 0 = .ok (.aload_n 0, 1) := by decide +kernel
theorem d_Ly_layAll_1 : decode prog_4_method_2_code 1 = .ok (.iconst 0, 1) := by decide +kernel
theorem d_Ly_layAll_2 : decode prog_4_method_2_code 2 = .ok (.putfield 34, 3) := by decide +kernel
theorem d_Ly_layAll_5 : decode prog_4_method_2_code 5 = .ok (.aload_n 0, 1) := by decide +kernel
theorem d_Ly_layAll_6 : decode prog_4_method_2_code 6 = .ok (.iconst (-1), 1) := by decide +kernel
theorem d_Ly_layAll_7 : decode prog_4_method_2_code 7 = .ok (.putfield 38, 3) := by decide +kernel
theorem d_Ly_layAll_10 : decode prog_4_method_2_code 10 = .ok (.aload_n 0, 1) := by decide +kernel
theorem d_Ly_layAll_11 : decode prog_4_method_2_code 11 = .ok (.iconst 0, 1) := by decide +kernel
theorem d_Ly_layAll_12 : decode prog_4_method_2_code 12 = .ok (.putfield 41, 3) := by decide +kernel
theorem d_Ly_layAll_15 : decode prog_4_method_2_code 15 = .ok (.iconst 0, 1) := by decide +kernel
theorem d_Ly_layAll_16 : decode prog_4_method_2_code 16 = .ok (.istore_n 1, 1) := by decide +kernel
theorem d_Ly_layAll_17 : decode prog_4_method_2_code 17 = .ok (.iload_n 1, 1) := by decide +kernel
theorem d_Ly_layAll_18 : decode prog_4_method_2_code 18 = .ok (.aload_n 0, 1) := by decide +kernel
theorem d_Ly_layAll_19 : decode prog_4_method_2_code 19 = .ok (.getfield 15, 3) := by decide +kernel
theorem d_Ly_layAll_22 : decode prog_4_method_2_code 22 = .ok (.invokevirtual 45, 3) := by decide +kernel
theorem d_Ly_layAll_25 : decode prog_4_method_2_code 25 = .ok (.if_icmp .ge 33, 3) := by decide +kernel
theorem d_Ly_layAll_58 : decode prog_4_method_2_code 58 = .ok (.aload_n 0, 1) := by decide +kernel
theorem d_Ly_layAll_59 : decode prog_4_method_2_code 59 = .ok (.invokevirtual 62, 3) := by decide +kernel
theorem d_Ly_layAll_62 : decode prog_4_method_2_code 62 = .ok (.aload_n 0, 1) := by decide +kernel
theorem d_Ly_layAll_63 : decode prog_4_method_2_code 63 = .ok (.getfield 41, 3) := by decide +kernel
theorem d_Ly_layAll_66 : decode prog_4_method_2_code 66 = .ok (.ifCond .eq 16, 3) := by decide +kernel
theorem d_Ly_layAll_82 : decode prog_4_method_2_code 82 = .ok (.aload_n 0, 1) := by decide +kernel
theorem d_Ly_layAll_83 : decode prog_4_method_2_code 83 = .ok (.getfield 19, 3) := by decide +kernel
theorem d_Ly_layAll_86 : decode prog_4_method_2_code 86 = .ok (.invokevirtual 70, 3) := by decide +kernel
theorem d_Ly_layAll_89 : decode prog_4_method_2_code 89 = .ok (.ireturn, 1) := by decide +kernel
theorem d_Ly_putIn_0 : decode prog_4_method_19_code 0 = .ok (.aload_n 0, 1) := by decide +kernel
theorem d_Ly_putIn_1 : decode prog_4_method_19_code 1 = .ok (.getfield 19, 3) := by decide +kernel
theorem d_Ly_putIn_4 : decode prog_4_method_19_code 4 = .ok (.iconst (-1), 1) := by decide +kernel
theorem d_Ly_putIn_5 : decode prog_4_method_19_code 5 = .ok (.iload_n 1, 1) := by decide +kernel
theorem d_Ly_putIn_6 : decode prog_4_method_19_code 6 = .ok (.aload_n 0, 1) := by decide +kernel
theorem d_Ly_putIn_7 : decode prog_4_method_19_code 7 = .ok (.getfield 76, 3) := by decide +kernel
theorem d_Ly_putIn_10 : decode prog_4_method_19_code 10 = .ok (.iload_n 2, 1) := by decide +kernel
theorem d_Ly_putIn_11 : decode prog_4_method_19_code 11 = .ok (.invokevirtual 116, 3) := by decide +kernel
theorem d_Ly_putIn_14 : decode prog_4_method_19_code 14 = .ok (.istore_n 3, 1) := by decide +kernel
theorem d_Ly_putIn_15 : decode prog_4_method_19_code 15 = .ok (.aload_n 0, 1) := by decide +kernel
theorem d_Ly_putIn_16 : decode prog_4_method_19_code 16 = .ok (.aload_n 0, 1) := by decide +kernel
theorem d_Ly_putIn_17 : decode prog_4_method_19_code 17 = .ok (.getfield 41, 3) := by decide +kernel
theorem d_Ly_putIn_20 : decode prog_4_method_19_code 20 = .ok (.ifCond .ne 7, 3) := by decide +kernel
theorem d_Ly_putIn_23 : decode prog_4_method_19_code 23 = .ok (.iload_n 3, 1) := by decide +kernel
theorem d_Ly_putIn_24 : decode prog_4_method_19_code 24 = .ok (.ifCond .ne 7, 3) := by decide +kernel
theorem d_Ly_putIn_31 : decode prog_4_method_19_code 31 = .ok (.iconst 0, 1) := by decide +kernel
theorem d_Ly_putIn_32 : decode prog_4_method_19_code 32 = .ok (.putfield 41, 3) := by decide +kernel
theorem d_Ly_putIn_35 : decode prog_4_method_19_code 35 = .ok (.return_, 1) := by decide +kernel
theorem d_Ly_topColumn_0 : decode prog_4_method_10_code 0 = .ok (.aload_n 0, 1) := by decide +kernel
theorem d_Ly_topColumn_1 : decode prog_4_method_10_code 1 = .ok (.getfield 34, 3) := by decide +kernel
theorem d_Ly_topColumn_4 : decode prog_4_method_10_code 4 = .ok (.iconst 1, 1) := by decide +kernel
theorem d_Ly_topColumn_5 : decode prog_4_method_10_code 5 = .ok (.isub, 1) := by decide +kernel
theorem d_Ly_topColumn_6 : decode prog_4_method_10_code 6 = .ok (.istore_n 1, 1) := by decide +kernel
theorem d_Ly_topColumn_7 : decode prog_4_method_10_code 7 = .ok (.iload_n 1, 1) := by decide +kernel
theorem d_Ly_topColumn_8 : decode prog_4_method_10_code 8 = .ok (.ifCond .lt 22, 3) := by decide +kernel
theorem d_Ly_topColumn_30 : decode prog_4_method_10_code 30 = .ok (.iconst 0, 1) := by decide +kernel
theorem d_Ly_topColumn_31 : decode prog_4_method_10_code 31 = .ok (.istore_n 2, 1) := by decide +kernel
theorem d_Ly_topColumn_32 : decode prog_4_method_10_code 32 = .ok (.iload_n 2, 1) := by decide +kernel
theorem d_Ly_topColumn_33 : decode prog_4_method_10_code 33 = .ok (.ifCond .eq 12, 3) := by decide +kernel
theorem d_Ly_topColumn_45 : decode prog_4_method_10_code 45 = .ok (.iconst (-1), 1) := by decide +kernel
theorem d_Ly_topColumn_46 : decode prog_4_method_10_code 46 = .ok (.ireturn, 1) := by decide +kernel
theorem d_Mo_addToken_0 : decode prog_12_method_45_code 0 = .ok (.aload_n 0, 1) := by decide +kernel
theorem d_Mo_addToken_1 : decode prog_12_method_45_code 1 = .ok (.getfield 109, 3) := by decide +kernel
theorem d_Mo_addToken_4 : decode prog_12_method_45_code 4 = .ok (.sipush 500, 3) := by decide +kernel
theorem d_Mo_addToken_7 : decode prog_12_method_45_code 7 = .ok (.if_icmp .ne 11, 3) := by decide +kernel
theorem d_Mo_addToken_18 : decode prog_12_method_45_code 18 = .ok (.aload_n 0, 1) := by decide +kernel
theorem d_Mo_addToken_19 : decode prog_12_method_45_code 19 = .ok (.getfield 133, 3) := by decide +kernel
theorem d_Mo_addToken_22 : decode prog_12_method_45_code 22 = .ok (.ifCond .lt 4, 3) := by decide +kernel
theorem d_Mo_addToken_26 : decode prog_12_method_45_code 26 = .ok (.aload_n 0, 1) := by decide +kernel
theorem d_Mo_addToken_27 : decode prog_12_method_45_code 27 = .ok (.getfield 53, 3) := by decide +kernel
theorem d_Mo_addToken_30 : decode prog_12_method_45_code 30 = .ok (.aload_n 0, 1) := by decide +kernel
theorem d_Mo_addToken_31 : decode prog_12_method_45_code 31 = .ok (.getfield 109, 3) := by decide +kernel
theorem d_Mo_addToken_34 : decode prog_12_method_45_code 34 = .ok (.iload_n 1, 1) := by decide +kernel
theorem d_Mo_addToken_35 : decode prog_12_method_45_code 35 = .ok (.iastore, 1) := by decide +kernel
theorem d_Mo_addToken_36 : decode prog_12_method_45_code 36 = .ok (.aload_n 0, 1) := by decide +kernel
theorem d_Mo_addToken_37 : decode prog_12_method_45_code 37 = .ok (.getfield 56, 3) := by decide +kernel
theorem d_Mo_addToken_40 : decode prog_12_method_45_code 40 = .ok (.aload_n 0, 1) := by decide +kernel
theorem d_Mo_addToken_41 : decode prog_12_method_45_code 41 = .ok (.getfield 109, 3) := by decide +kernel
theorem d_Mo_addToken_44 : decode prog_12_method_45_code 44 = .ok (.iload_n 2, 1) := by decide +kernel
theorem d_Mo_addToken_45 : decode prog_12_method_45_code 45 = .ok (.iastore, 1) := by decide +kernel
theorem d_Mo_addToken_46 : decode prog_12_method_45_code 46 = .ok (.aload_n 0, 1) := by decide +kernel
theorem d_Mo_addToken_47 : decode prog_12_method_45_code 47 = .ok (.getfield 59, 3) := by decide +kernel
theorem d_Mo_addToken_50 : decode prog_12_method_45_code 50 = .ok (.aload_n 0, 1) := by decide +kernel
theorem d_Mo_addToken_51 : decode prog_12_method_45_code 51 = .ok (.getfield 109, 3) := by decide +kernel
theorem d_Mo_addToken_54 : decode prog_12_method_45_code 54 = .ok (.aload_n 0, 1) := by decide +kernel
theorem d_Mo_addToken_55 : decode prog_12_method_45_code 55 = .ok (.getfield 304, 3) := by decide +kernel
theorem d_Mo_addToken_58 : decode prog_12_method_45_code 58 = .ok (.iastore, 1) := by decide +kernel
theorem d_Mo_addToken_59 : decode prog_12_method_45_code 59 = .ok (.aload_n 0, 1) := by decide +kernel
theorem d_Mo_addToken_60 : decode prog_12_method_45_code 60 = .ok (.getfield 62, 3) := by decide +kernel
theorem d_Mo_addToken_63 : decode prog_12_method_45_code 63 = .ok (.aload_n 0, 1) := by decide +kernel
theorem d_Mo_addToken_64 : decode prog_12_method_45_code 64 = .ok (.getfield 109, 3) := by decide +kernel
theorem d_Mo_addToken_67 : decode prog_12_method_45_code 67 = .ok (.aload_n 0, 1) := by decide +kernel
theorem d_Mo_addToken_68 : decode prog_12_method_45_code 68 = .ok (.getfield 307, 3) := by decide +kernel
theorem d_Mo_addToken_71 : decode prog_12_method_45_code 71 = .ok (.iastore, 1) := by decide +kernel
theorem d_Mo_addToken_72 : decode prog_12_method_45_code 72 = .ok (.aload_n 0, 1) := by decide +kernel
theorem d_Mo_addToken_73 : decode prog_12_method_45_code 73 = .ok (.getfield 65, 3) := by decide +kernel
theorem d_Mo_addToken_76 : decode prog_12_method_45_code 76 = .ok (.aload_n 0, 1) := by decide +kernel
theorem d_Mo_addToken_77 : decode prog_12_method_45_code 77 = .ok (.getfield 109, 3) := by decide +kernel
theorem d_Mo_addToken_80 : decode prog_12_method_45_code 80 = .ok (.aload_n 0, 1) := by decide +kernel
theorem d_Mo_addToken_81 : decode prog_12_method_45_code 81 = .ok (.getfield 310, 3) := by decide +kernel
theorem d_Mo_addToken_84 : decode prog_12_method_45_code 84 = .ok (.iastore, 1) := by decide +kernel
theorem d_Mo_addToken_85 : decode prog_12_method_45_code 85 = .ok (.aload_n 0, 1) := by decide +kernel
theorem d_Mo_addToken_86 : decode prog_12_method_45_code 86 = .ok (.getfield 68, 3) := by decide +kernel
theorem d_Mo_addToken_89 : decode prog_12_method_45_code 89 = .ok (.aload_n 0, 1) := by decide +kernel
theorem d_Mo_addToken_90 : decode prog_12_method_45_code 90 = .ok (.getfield 109, 3) := by decide +kernel
theorem d_Mo_addToken_93 : decode prog_12_method_45_code 93 = .ok (.iload_n 3, 1) := by decide +kernel
theorem d_Mo_addToken_94 : decode prog_12_method_45_code 94 = .ok (.bastore, 1) := by decide +kernel
theorem d_Mo_addToken_95 : decode prog_12_method_45_code 95 = .ok (.aload_n 0, 1) := by decide +kernel
theorem d_Mo_addToken_96 : decode prog_12_method_45_code 96 = .ok (.dup, 1) := by decide +kernel
theorem d_Mo_addToken_97 : decode prog_12_method_45_code 97 = .ok (.getfield 109, 3) := by decide +kernel
theorem d_Mo_addToken_100 : decode prog_12_method_45_code 100 = .ok (.iconst 1, 1) := by decide +kernel
theorem d_Mo_addToken_101 : decode prog_12_method_45_code 101 = .ok (.iadd, 1) := by decide +kernel
theorem d_Mo_addToken_102 : decode prog_12_method_45_code 102 = .ok (.putfield 109, 3) := by decide +kernel
theorem d_Mo_addToken_105 : decode prog_12_method_45_code 105 = .ok (.return_, 1) := by decide +kernel
theorem d_Mo_asked_0 : decode prog_12_method_64_code 0 = .ok (.aload_n 0, 1) := by decide +kernel
theorem d_Mo_asked_1 : decode prog_12_method_64_code 1 = .ok (.iconst 0, 1) := by decide +kernel
theorem d_Mo_asked_2 : decode prog_12_method_64_code 2 = .ok (.putfield 99, 3) := by decide +kernel
theorem d_Mo_asked_5 : decode prog_12_method_64_code 5 = .ok (.aload_n 0, 1) := by decide +kernel
theorem d_Mo_asked_6 : decode prog_12_method_64_code 6 = .ok (.iload_n 1, 1) := by decide +kernel
theorem d_Mo_asked_7 : decode prog_12_method_64_code 7 = .ok (.invokevirtual 378, 3) := by decide +kernel
theorem d_Mo_asked_10 : decode prog_12_method_64_code 10 = .ok (.ifCond .ne 16, 3) := by decide +kernel
theorem d_Mo_asked_26 : decode prog_12_method_64_code 26 = .ok (.iconst 0, 1) := by decide +kernel
theorem d_Mo_asked_27 : decode prog_12_method_64_code 27 = .ok (.ireturn, 1) := by decide +kernel
theorem d_Mo_back_0 : decode prog_12_method_72_code 0 = .ok (.aload_n 0, 1) := by decide +kernel
theorem d_Mo_back_1 : decode prog_12_method_72_code 1 = .ok (.iconst 0, 1) := by decide +kernel
