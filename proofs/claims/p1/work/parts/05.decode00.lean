theorem d_Co_count_0 : decode prog_2_method_3_code 0 = .ok (.aload_n 0, 1) := by decide +kernel
theorem d_Co_count_1 : decode prog_2_method_3_code 1 = .ok (.getfield 21, 3) := by decide +kernel
theorem d_Co_count_4 : decode prog_2_method_3_code 4 = .ok (.ireturn, 1) := by decide +kernel
theorem d_Co_deepest_0 : decode prog_2_method_4_code 0 = .ok (.aload_n 0, 1) := by decide +kernel
theorem d_Co_deepest_1 : decode prog_2_method_4_code 1 = .ok (.getfield 25, 3) := by decide +kernel
theorem d_Co_deepest_4 : decode prog_2_method_4_code 4 = .ok (.ireturn, 1) := by decide +kernel
theorem d_Co_empty_0 : decode prog_2_method_2_code 0 = .ok (.aload_n 0, 1) := by decide +kernel
theorem d_Co_empty_1 : decode prog_2_method_2_code 1 = .ok (.iconst 0, 1) := by decide +kernel
theorem d_Co_empty_2 : decode prog_2_method_2_code 2 = .ok (.putfield 21, 3) := by decide +kernel
theorem d_Co_empty_5 : decode prog_2_method_2_code 5 = .ok (.aload_n 0, 1) := by decide +kernel
theorem d_Co_empty_6 : decode prog_2_method_2_code 6 = .ok (.iconst 0, 1) := by decide +kernel
theorem d_Co_empty_7 : decode prog_2_method_2_code 7 = .ok (.putfield 25, 3) := by decide +kernel
theorem d_Co_empty_10 : decode prog_2_method_2_code 10 = .ok (.return_, 1) := by decide +kernel
theorem d_Co_init_0 : decode prog_2_method_1_code 0 = .ok (.aload_n 0, 1) := by decide +kernel
theorem d_Co_init_1 : decode prog_2_method_1_code 1 = .ok (.invokespecial 3, 3) := by decide +kernel
theorem d_Co_init_4 : decode prog_2_method_1_code 4 = .ok (.aload_n 0, 1) := by decide +kernel
theorem d_Co_init_5 : decode prog_2_method_1_code 5 = .ok (.sipush 200, 3) := by decide +kernel
theorem d_Co_init_8 : decode prog_2_method_1_code 8 = .ok (.newarray .int, 2) := by decide +kernel
theorem d_Co_init_10 : decode prog_2_method_1_code 10 = .ok (.putfield 9, 3) := by decide +kernel
theorem d_Co_init_13 : decode prog_2_method_1_code 13 = .ok (.aload_n 0, 1) := by decide +kernel
theorem d_Co_init_14 : decode prog_2_method_1_code 14 = .ok (.sipush 200, 3) := by decide +kernel
theorem d_Co_init_17 : decode prog_2_method_1_code 17 = .ok (.newarray .int, 2) := by decide +kernel
theorem d_Co_init_19 : decode prog_2_method_1_code 19 = .ok (.putfield 15, 3) := by decide +kernel
theorem d_Co_init_22 : decode prog_2_method_1_code 22 = .ok (.aload_n 0, 1) := by decide +kernel
theorem d_Co_init_23 : decode prog_2_method_1_code 23 = .ok (.sipush 200, 3) := by decide +kernel
theorem d_Co_init_26 : decode prog_2_method_1_code 26 = .ok (.newarray .int, 2) := by decide +kernel
theorem d_Co_init_28 : decode prog_2_method_1_code 28 = .ok (.putfield 18, 3) := by decide +kernel
theorem d_Co_init_31 : decode prog_2_method_1_code 31 = .ok (.aload_n 0, 1) := by decide +kernel
theorem d_Co_init_32 : decode prog_2_method_1_code 32 = .ok (.iconst 0, 1) := by decide +kernel
theorem d_Co_init_33 : decode prog_2_method_1_code 33 = .ok (.putfield 21, 3) := by decide +kernel
theorem d_Co_init_36 : decode prog_2_method_1_code 36 = .ok (.aload_n 0, 1) := by decide +kernel
theorem d_Co_init_37 : decode prog_2_method_1_code 37 = .ok (.iconst 0, 1) := by decide +kernel
theorem d_Co_init_38 : decode prog_2_method_1_code 38 = .ok (.putfield 25, 3) := by decide +kernel
theorem d_Co_init_41 : decode prog_2_method_1_code 41 = .ok (.return_, 1) := by decide +kernel
theorem d_Co_tell_0 : decode prog_2_method_6_code 0 = .ok (.iload_n 1, 1) := by decide +kernel
theorem d_Co_tell_1 : decode prog_2_method_6_code 1 = .ok (.ifCond .lt 18, 3) := by decide +kernel
theorem d_Co_tell_4 : decode prog_2_method_6_code 4 = .ok (.iload_n 1, 1) := by decide +kernel
theorem d_Co_tell_5 : decode prog_2_method_6_code 5 = .ok (.aload_n 0, 1) := by decide +kernel
theorem d_Co_tell_6 : decode prog_2_method_6_code 6 = .ok (.getfield 21, 3) := by decide +kernel
theorem d_Co_tell_9 : decode prog_2_method_6_code 9 = .ok (.if_icmp .ge 10, 3) := by decide +kernel
theorem d_Co_tell_19 : decode prog_2_method_6_code 19 = .ok (.iconst (-1), 1) := by decide +kernel
theorem d_Co_tell_20 : decode prog_2_method_6_code 20 = .ok (.ireturn, 1) := by decide +kernel
theorem d_La_add_0 : decode prog_3_method_4_code 0 = .ok (.aload_n 0, 1) := by decide +kernel
theorem d_La_add_1 : decode prog_3_method_4_code 1 = .ok (.getfield 29, 3) := by decide +kernel
theorem d_La_add_4 : decode prog_3_method_4_code 4 = .ok (.ifCond .lt 13, 3) := by decide +kernel
theorem d_La_add_7 : decode prog_3_method_4_code 7 = .ok (.aload_n 0, 1) := by decide +kernel
theorem d_La_add_8 : decode prog_3_method_4_code 8 = .ok (.getfield 29, 3) := by decide +kernel
theorem d_La_add_11 : decode prog_3_method_4_code 11 = .ok (.sipush 500, 3) := by decide +kernel
theorem d_La_add_14 : decode prog_3_method_4_code 14 = .ok (.if_icmp .lt 5, 3) := by decide +kernel
theorem d_La_add_19 : decode prog_3_method_4_code 19 = .ok (.aload_n 0, 1) := by decide +kernel
theorem d_La_add_20 : decode prog_3_method_4_code 20 = .ok (.getfield 15, 3) := by decide +kernel
theorem d_La_add_23 : decode prog_3_method_4_code 23 = .ok (.aload_n 0, 1) := by decide +kernel
theorem d_La_add_24 : decode prog_3_method_4_code 24 = .ok (.getfield 29, 3) := by decide +kernel
theorem d_La_add_27 : decode prog_3_method_4_code 27 = .ok (.iload_n 1, 1) := by decide +kernel
theorem d_La_add_28 : decode prog_3_method_4_code 28 = .ok (.iastore, 1) := by decide +kernel
theorem d_La_add_29 : decode prog_3_method_4_code 29 = .ok (.aload_n 0, 1) := by decide +kernel
theorem d_La_add_30 : decode prog_3_method_4_code 30 = .ok (.getfield 19, 3) := by decide +kernel
theorem d_La_add_33 : decode prog_3_method_4_code 33 = .ok (.aload_n 0, 1) := by decide +kernel
theorem d_La_add_34 : decode prog_3_method_4_code 34 = .ok (.getfield 29, 3) := by decide +kernel
theorem d_La_add_37 : decode prog_3_method_4_code 37 = .ok (.iload_n 2, 1) := by decide +kernel
theorem d_La_add_38 : decode prog_3_method_4_code 38 = .ok (.iastore, 1) := by decide +kernel
theorem d_La_add_39 : decode prog_3_method_4_code 39 = .ok (.aload_n 0, 1) := by decide +kernel
theorem d_La_add_40 : decode prog_3_method_4_code 40 = .ok (.getfield 22, 3) := by decide +kernel
theorem d_La_add_43 : decode prog_3_method_4_code 43 = .ok (.aload_n 0, 1) := by decide +kernel
theorem d_La_add_44 : decode prog_3_method_4_code 44 = .ok (.getfield 29, 3) := by decide +kernel
theorem d_La_add_47 : decode prog_3_method_4_code 47 = .ok (.iload_n 3, 1) := by decide +kernel
theorem d_La_add_48 : decode prog_3_method_4_code 48 = .ok (.iastore, 1) := by decide +kernel
theorem d_La_add_49 : decode prog_3_method_4_code 49 = .ok (.aload_n 0, 1) := by decide +kernel
theorem d_La_add_50 : decode prog_3_method_4_code 50 = .ok (.getfield 25, 3) := by decide +kernel
theorem d_La_add_53 : decode prog_3_method_4_code 53 = .ok (.aload_n 0, 1) := by decide +kernel
theorem d_La_add_54 : decode prog_3_method_4_code 54 = .ok (.getfield 29, 3) := by decide +kernel
theorem d_La_add_57 : decode prog_3_method_4_code 57 = .ok (.iload 4, 2) := by decide +kernel
theorem d_La_add_59 : decode prog_3_method_4_code 59 = .ok (.bastore, 1) := by decide +kernel
theorem d_La_add_60 : decode prog_3_method_4_code 60 = .ok (.aload_n 0, 1) := by decide +kernel
theorem d_La_add_61 : decode prog_3_method_4_code 61 = .ok (.dup, 1) := by decide +kernel
theorem d_La_add_62 : decode prog_3_method_4_code 62 = .ok (.getfield 29, 3) := by decide +kernel
theorem d_La_add_65 : decode prog_3_method_4_code 65 = .ok (.iconst 1, 1) := by decide +kernel
theorem d_La_add_66 : decode prog_3_method_4_code 66 = .ok (.iadd, 1) := by decide +kernel
theorem d_La_add_67 : decode prog_3_method_4_code 67 = .ok (.putfield 29, 3) := by decide +kernel
theorem d_La_add_70 : decode prog_3_method_4_code 70 = .ok (.aload_n 0, 1) := by decide +kernel
theorem d_La_add_71 : decode prog_3_method_4_code 71 = .ok (.dup, 1) := by decide +kernel
theorem d_La_add_72 : decode prog_3_method_4_code 72 = .ok (.getfield 33, 3) := by decide +kernel
theorem d_La_add_75 : decode prog_3_method_4_code 75 = .ok (.iload_n 1, 1) := by decide +kernel
theorem d_La_add_76 : decode prog_3_method_4_code 76 = .ok (.iconst (-1), 1) := by decide +kernel
theorem d_La_add_77 : decode prog_3_method_4_code 77 = .ok (.if_icmp .ne 7, 3) := by decide +kernel
theorem d_La_add_80 : decode prog_3_method_4_code 80 = .ok (.iconst 1, 1) := by decide +kernel
theorem d_La_add_81 : decode prog_3_method_4_code 81 = .ok (.goto 4, 3) := by decide +kernel
theorem d_La_add_85 : decode prog_3_method_4_code 85 = .ok (.iadd, 1) := by decide +kernel
theorem d_La_add_86 : decode prog_3_method_4_code 86 = .ok (.putfield 33, 3) := by decide +kernel
theorem d_La_add_89 : decode prog_3_method_4_code 89 = .ok (.aload_n 0, 1) := by decide +kernel
theorem d_La_add_90 : decode prog_3_method_4_code 90 = .ok (.dup, 1) := by decide +kernel
theorem d_La_add_91 : decode prog_3_method_4_code 91 = .ok (.getfield 36, 3) := by decide +kernel
theorem d_La_add_94 : decode prog_3_method_4_code 94 = .ok (.iload 4, 2) := by decide +kernel
theorem d_La_add_96 : decode prog_3_method_4_code 96 = .ok (.ifCond .eq 7, 3) := by decide +kernel
theorem d_La_add_103 : decode prog_3_method_4_code 103 = .ok (.iconst 0, 1) := by decide +kernel
theorem d_La_add_104 : decode prog_3_method_4_code 104 = .ok (.iadd, 1) := by decide +kernel
theorem d_La_add_105 : decode prog_3_method_4_code 105 = .ok (.putfield 36, 3) := by decide +kernel
theorem d_La_add_108 : decode prog_3_method_4_code 108 = .ok (.iconst 1, 1) := by decide +kernel
theorem d_La_add_109 : decode prog_3_method_4_code 109 = .ok (.ireturn, 1) := by decide +kernel
theorem d_La_count_0 : decode prog_3_method_6_code 0 = .ok (.aload_n 0, 1) := by decide +kernel
theorem d_La_count_1 : decode prog_3_method_6_code 1 = .ok (.getfield 29, 3) := by decide +kernel
theorem d_La_count_4 : decode prog_3_method_6_code 4 = .ok (.ireturn, 1) := by decide +kernel
theorem d_La_countAsked_0 : decode prog_3_method_8_code 0 = .ok (.aload_n 0, 1) := by decide +kernel
theorem d_La_countAsked_1 : decode prog_3_method_8_code 1 = .ok (.getfield 36, 3) := by decide +kernel
theorem d_La_countAsked_4 : decode prog_3_method_8_code 4 = .ok (.ireturn, 1) := by decide +kernel
theorem d_La_countPutIn_0 : decode prog_3_method_7_code 0 = .ok (.aload_n 0, 1) := by decide +kernel
theorem d_La_countPutIn_1 : decode prog_3_method_7_code 1 = .ok (.getfield 33, 3) := by decide +kernel
theorem d_La_countPutIn_4 : decode prog_3_method_7_code 4 = .ok (.ireturn, 1) := by decide +kernel
theorem d_La_empty_0 : decode prog_3_method_2_code 0 = .ok (.aload_n 0, 1) := by decide +kernel
theorem d_La_empty_1 : decode prog_3_method_2_code 1 = .ok (.iconst 0, 1) := by decide +kernel
theorem d_La_empty_2 : decode prog_3_method_2_code 2 = .ok (.putfield 29, 3) := by decide +kernel
theorem d_La_empty_5 : decode prog_3_method_2_code 5 = .ok (.aload_n 0, 1) := by decide +kernel
theorem d_La_empty_6 : decode prog_3_method_2_code 6 = .ok (.iconst 0, 1) := by decide +kernel
theorem d_La_empty_7 : decode prog_3_method_2_code 7 = .ok (.putfield 33, 3) := by decide +kernel
theorem d_La_empty_10 : decode prog_3_method_2_code 10 = .ok (.aload_n 0, 1) := by decide +kernel
theorem d_La_empty_11 : decode prog_3_method_2_code 11 = .ok (.iconst 0, 1) := by decide +kernel
theorem d_La_empty_12 : decode prog_3_method_2_code 12 = .ok (.putfield 36, 3) := by decide +kernel
theorem d_La_empty_15 : decode prog_3_method_2_code 15 = .ok (.return_, 1) := by decide +kernel
theorem d_La_has_0 : decode prog_3_method_5_code 0 = .ok (.iload_n 1, 1) := by decide +kernel
theorem d_La_has_1 : decode prog_3_method_5_code 1 = .ok (.ifCond .lt 22, 3) := by decide +kernel
theorem d_La_has_4 : decode prog_3_method_5_code 4 = .ok (.iload_n 1, 1) := by decide +kernel
theorem d_La_has_5 : decode prog_3_method_5_code 5 = .ok (.aload_n 0, 1) := by decide +kernel
theorem d_La_has_6 : decode prog_3_method_5_code 6 = .ok (.getfield 29, 3) := by decide +kernel
theorem d_La_has_9 : decode prog_3_method_5_code 9 = .ok (.if_icmp .ge 14, 3) := by decide +kernel
theorem d_La_has_23 : decode prog_3_method_5_code 23 = .ok (.iconst 0, 1) := by decide +kernel
theorem d_La_has_24 : decode prog_3_method_5_code 24 = .ok (.ireturn, 1) := by decide +kernel
theorem d_La_init_0 : decode prog_3_method_1_code 0 = .ok (.aload_n 0, 1) := by decide +kernel
theorem d_La_init_1 : decode prog_3_method_1_code 1 = .ok (.invokespecial 3, 3) := by decide +kernel
theorem d_La_init_4 : decode prog_3_method_1_code 4 = .ok (.aload_n 0, 1) := by decide +kernel
theorem d_La_init_5 : decode prog_3_method_1_code 5 = .ok (.aload_n 1, 1) := by decide +kernel
theorem d_La_init_6 : decode prog_3_method_1_code 6 = .ok (.putfield 9, 3) := by decide +kernel
theorem d_La_init_9 : decode prog_3_method_1_code 9 = .ok (.aload_n 0, 1) := by decide +kernel
theorem d_La_init_10 : decode prog_3_method_1_code 10 = .ok (.sipush 500, 3) := by decide +kernel
theorem d_La_init_13 : decode prog_3_method_1_code 13 = .ok (.newarray .int, 2) := by decide +kernel
theorem d_La_init_15 : decode prog_3_method_1_code 15 = .ok (.putfield 15, 3) := by decide +kernel
theorem d_La_init_18 : decode prog_3_method_1_code 18 = .ok (.aload_n 0, 1) := by decide +kernel
theorem d_La_init_19 : decode prog_3_method_1_code 19 = .ok (.sipush 500, 3) := by decide +kernel
theorem d_La_init_22 : decode prog_3_method_1_code 22 = .ok (.newarray .int, 2) := by decide +kernel
theorem d_La_init_24 : decode prog_3_method_1_code 24 = .ok (.putfield 19, 3) := by decide +kernel
theorem d_La_init_27 : decode prog_3_method_1_code 27 = .ok (.aload_n 0, 1) := by decide +kernel
theorem d_La_init_28 : decode prog_3_method_1_code 28 = .ok (.sipush 500, 3) := by decide +kernel
theorem d_La_init_31 : decode prog_3_method_1_code 31 = .ok (.newarray .int, 2) := by decide +kernel
theorem d_La_init_33 : decode prog_3_method_1_code 33 = .ok (.putfield 22, 3) := by decide +kernel
theorem d_La_init_36 : decode prog_3_method_1_code 36 = .ok (.aload_n 0, 1) := by decide +kernel
theorem d_La_init_37 : decode prog_3_method_1_code 37 = .ok (.sipush 500, 3) := by decide +kernel
theorem d_La_init_40 : decode prog_3_method_1_code 40 = .ok (.newarray .boolean, 2) := by decide +kernel
theorem d_La_init_42 : decode prog_3_method_1_code 42 = .ok (.putfield 25, 3) := by decide +kernel
theorem d_La_init_45 : decode prog_3_method_1_code 45 = .ok (.aload_n 0, 1) := by decide +kernel
theorem d_La_init_46 : decode prog_3_method_1_code 46 = .ok (.iconst 0, 1) := by decide +kernel
theorem d_La_init_47 : decode prog_3_method_1_code 47 = .ok (.putfield 29, 3) := by decide +kernel
theorem d_La_init_50 : decode prog_3_method_1_code 50 = .ok (.aload_n 0, 1) := by decide +kernel
theorem d_La_init_51 : decode prog_3_method_1_code 51 = .ok (.iconst 0, 1) := by decide +kernel
theorem d_La_init_52 : decode prog_3_method_1_code 52 = .ok (.putfield 33, 3) := by decide +kernel
theorem d_La_init_55 : decode prog_3_method_1_code 55 = .ok (.aload_n 0, 1) := by decide +kernel
theorem d_La_init_56 : decode prog_3_method_1_code 56 = .ok (.iconst 0, 1) := by decide +kernel
theorem d_La_init_57 : decode prog_3_method_1_code 57 = .ok (.putfield 36, 3) := by decide +kernel
theorem d_La_init_60 : decode prog_3_method_1_code 60 = .ok (.aload_n 0, 1) := by decide +kernel
theorem d_La_init_61 : decode prog_3_method_1_code 61 = .ok (.iconst (-1), 1) := by decide +kernel
theorem d_La_init_62 : decode prog_3_method_1_code 62 = .ok (.putfield 39, 3) := by decide +kernel
theorem d_La_init_65 : decode prog_3_method_1_code 65 = .ok (.aload_n 0, 1) := by decide +kernel
theorem d_La_init_66 : decode prog_3_method_1_code 66 = .ok (.iconst (-1), 1) := by decide +kernel
theorem d_La_init_67 : decode prog_3_method_1_code 67 = .ok (.putfield 42, 3) := by decide +kernel
theorem d_La_init_70 : decode prog_3_method_1_code 70 = .ok (.return_, 1) := by decide +kernel
theorem d_La_isAsked_0 : decode prog_3_method_14_code 0 = .ok (.aload_n 0, 1) := by decide +kernel
theorem d_La_isAsked_1 : decode prog_3_method_14_code 1 = .ok (.iload_n 1, 1) := by decide +kernel
theorem d_La_isAsked_2 : decode prog_3_method_14_code 2 = .ok (.invokevirtual 54, 3) := by decide +kernel
theorem d_La_isAsked_5 : decode prog_3_method_14_code 5 = .ok (.ifCond .eq 16, 3) := by decide +kernel
theorem d_La_isAsked_21 : decode prog_3_method_14_code 21 = .ok (.iconst 0, 1) := by decide +kernel
theorem d_La_isAsked_22 : decode prog_3_method_14_code 22 = .ok (.ireturn, 1) := by decide +kernel
theorem d_La_keepEnd_0 : decode prog_3_method_3_code 0 = .ok (.aload_n 0, 1) := by decide +kernel
theorem d_La_keepEnd_1 : decode prog_3_method_3_code 1 = .ok (.aload_n 0, 1) := by decide +kernel
theorem d_La_keepEnd_2 : decode prog_3_method_3_code 2 = .ok (.getfield 9, 3) := by decide +kernel
theorem d_La_keepEnd_5 : decode prog_3_method_3_code 5 = .ok (.invokevirtual 45, 3) := by decide +kernel
theorem d_La_keepEnd_8 : decode prog_3_method_3_code 8 = .ok (.putfield 39, 3) := by decide +kernel
theorem d_La_keepEnd_11 : decode prog_3_method_3_code 11 = .ok (.aload_n 0, 1) := by decide +kernel
theorem d_La_keepEnd_12 : decode prog_3_method_3_code 12 = .ok (.aload_n 0, 1) := by decide +kernel
theorem d_La_keepEnd_13 : decode prog_3_method_3_code 13 = .ok (.getfield 9, 3) := by decide +kernel
theorem d_La_keepEnd_16 : decode prog_3_method_3_code 16 = .ok (.invokevirtual 51, 3) := by decide +kernel
theorem d_La_keepEnd_19 : decode prog_3_method_3_code 19 = .ok (.putfield 42, 3) := by decide +kernel
theorem d_La_keepEnd_22 : decode prog_3_method_3_code 22 = .ok (.return_, 1) := by decide +kernel
theorem d_La_lexemeOf_0 : decode prog_3_method_9_code 0 = .ok (.aload_n 0, 1) := by decide +kernel
theorem d_La_lexemeOf_1 : decode prog_3_method_9_code 1 = .ok (.iload_n 1, 1) := by decide +kernel
theorem d_La_lexemeOf_2 : decode prog_3_method_9_code 2 = .ok (.invokevirtual 54, 3) := by decide +kernel
theorem d_La_lexemeOf_5 : decode prog_3_method_9_code 5 = .ok (.ifCond .eq 12, 3) := by decide +kernel
theorem d_La_lexemeOf_17 : decode prog_3_method_9_code 17 = .ok (.iconst (-1), 1) := by decide +kernel
theorem d_La_lexemeOf_18 : decode prog_3_method_9_code 18 = .ok (.ireturn, 1) := by decide +kernel
theorem d_Law_law_0 : decode code 0 = .ok (.new 7, 3) := by decide +kernel
theorem d_Law_law_3 : decode code 3 = .ok (.dup, 1) := by decide +kernel
theorem d_Law_law_4 : decode code 4 = .ok (.invokespecial 9, 3) := by decide +kernel
theorem d_Law_law_7 : decode code 7 = .ok (.astore_n 1, 1) := by decide +kernel
theorem d_Law_law_8 : decode code 8 = .ok (.new 10, 3) := by decide +kernel
theorem d_Law_law_11 : decode code 11 = .ok (.dup, 1) := by decide +kernel
theorem d_Law_law_12 : decode code 12 = .ok (.invokespecial 12, 3) := by decide +kernel
theorem d_Law_law_15 : decode code 15 = .ok (.astore_n 2, 1) := by decide +kernel
theorem d_Law_law_16 : decode code 16 = .ok (.iconst 0, 1) := by decide +kernel
theorem d_Law_law_17 : decode code 17 = .ok (.istore_n 3, 1) := by decide +kernel
theorem d_Law_law_18 : decode code 18 = .ok (.iload_n 3, 1) := by decide +kernel
theorem d_Law_law_19 : decode code 19 = .ok (.aload_n 0, 1) := by decide +kernel
theorem d_Law_law_20 : decode code 20 = .ok (.arraylength, 1) := by decide +kernel
theorem d_Law_law_21 : decode code 21 = .ok (.iconst 4, 1) := by decide +kernel
theorem d_Law_law_22 : decode code 22 = .ok (.isub, 1) := by decide +kernel
theorem d_Law_law_23 : decode code 23 = .ok (.if_icmp .gt 439, 3) := by decide +kernel
theorem d_Law_law_26 : decode code 26 = .ok (.aload_n 0, 1) := by decide +kernel
theorem d_Law_law_27 : decode code 27 = .ok (.iload_n 3, 1) := by decide +kernel
theorem d_Law_law_28 : decode code 28 = .ok (.iaload, 1) := by decide +kernel
theorem d_Law_law_29 : decode code 29 = .ok (.bipush 15, 2) := by decide +kernel
theorem d_Law_law_31 : decode code 31 = .ok (.iand, 1) := by decide +kernel
theorem d_Law_law_32 : decode code 32 = .ok (.tableswitch 424 0 12 #[68, 131, 170, 203, 236, 260, 283, 306, 339, 352, 375, 388, 411], 68) := by decide +kernel
theorem d_Law_law_100 : decode code 100 = .ok (.aload_n 1, 1) := by decide +kernel
theorem d_Law_law_101 : decode code 101 = .ok (.aload_n 0, 1) := by decide +kernel
theorem d_Law_law_102 : decode code 102 = .ok (.iload_n 3, 1) := by decide +kernel
theorem d_Law_law_103 : decode code 103 = .ok (.iconst 1, 1) := by decide +kernel
theorem d_Law_law_104 : decode code 104 = .ok (.iadd, 1) := by decide +kernel
theorem d_Law_law_105 : decode code 105 = .ok (.iaload, 1) := by decide +kernel
theorem d_Law_law_106 : decode code 106 = .ok (.aload_n 0, 1) := by decide +kernel
theorem d_Law_law_107 : decode code 107 = .ok (.iload_n 3, 1) := by decide +kernel
theorem d_Law_law_108 : decode code 108 = .ok (.iconst 2, 1) := by decide +kernel
theorem d_Law_law_109 : decode code 109 = .ok (.iadd, 1) := by decide +kernel
theorem d_Law_law_110 : decode code 110 = .ok (.iaload, 1) := by decide +kernel
theorem d_Law_law_111 : decode code 111 = .ok (.i2l, 1) := by decide +kernel
theorem d_Law_law_112 : decode code 112 = .ok (.bipush 32, 2) := by decide +kernel
theorem d_Law_law_114 : decode code 114 = .ok (.lshl, 1) := by decide +kernel
theorem d_Law_law_115 : decode code 115 = .ok (.aload_n 0, 1) := by decide +kernel
theorem d_Law_law_116 : decode code 116 = .ok (.iload_n 3, 1) := by decide +kernel
theorem d_Law_law_117 : decode code 117 = .ok (.iconst 3, 1) := by decide +kernel
theorem d_Law_law_118 : decode code 118 = .ok (.iadd, 1) := by decide +kernel
theorem d_Law_law_119 : decode code 119 = .ok (.iaload, 1) := by decide +kernel
theorem d_Law_law_120 : decode code 120 = .ok (.i2l, 1) := by decide +kernel
theorem d_Law_law_121 : decode code 121 = .ok (.ldc2_w 13, 3) := by decide +kernel
theorem d_Law_law_124 : decode code 124 = .ok (.land, 1) := by decide +kernel
theorem d_Law_law_125 : decode code 125 = .ok (.lor, 1) := by decide +kernel
theorem d_Law_law_126 : decode code 126 = .ok (.invokevirtual 15, 3) := by decide +kernel
theorem d_Law_law_129 : decode code 129 = .ok (.aload_n 2, 1) := by decide +kernel
theorem d_Law_law_130 : decode code 130 = .ok (.aload_n 0, 1) := by decide +kernel
theorem d_Law_law_131 : decode code 131 = .ok (.iload_n 3, 1) := by decide +kernel
theorem d_Law_law_132 : decode code 132 = .ok (.iconst 1, 1) := by decide +kernel
theorem d_Law_law_133 : decode code 133 = .ok (.iadd, 1) := by decide +kernel
theorem d_Law_law_134 : decode code 134 = .ok (.iaload, 1) := by decide +kernel
theorem d_Law_law_135 : decode code 135 = .ok (.aload_n 0, 1) := by decide +kernel
theorem d_Law_law_136 : decode code 136 = .ok (.iload_n 3, 1) := by decide +kernel
theorem d_Law_law_137 : decode code 137 = .ok (.iconst 2, 1) := by decide +kernel
theorem d_Law_law_138 : decode code 138 = .ok (.iadd, 1) := by decide +kernel
theorem d_Law_law_139 : decode code 139 = .ok (.iaload, 1) := by decide +kernel
theorem d_Law_law_140 : decode code 140 = .ok (.i2l, 1) := by decide +kernel
theorem d_Law_law_141 : decode code 141 = .ok (.bipush 32, 2) := by decide +kernel
theorem d_Law_law_143 : decode code 143 = .ok (.lshl, 1) := by decide +kernel
theorem d_Law_law_144 : decode code 144 = .ok (.aload_n 0, 1) := by decide +kernel
theorem d_Law_law_145 : decode code 145 = .ok (.iload_n 3, 1) := by decide +kernel
theorem d_Law_law_146 : decode code 146 = .ok (.iconst 3, 1) := by decide +kernel
theorem d_Law_law_147 : decode code 147 = .ok (.iadd, 1) := by decide +kernel
