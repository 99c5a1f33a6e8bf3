theorem d_Mo_literate_33 : decode prog_12_method_10_code 33 = .ok (.getfield 80, 3) := by decide +kernel
theorem d_Mo_literate_36 : decode prog_12_method_10_code 36 = .ok (.iload_n 2, 1) := by decide +kernel
theorem d_Mo_literate_37 : decode prog_12_method_10_code 37 = .ok (.iconst 0, 1) := by decide +kernel
theorem d_Mo_literate_38 : decode prog_12_method_10_code 38 = .ok (.bastore, 1) := by decide +kernel
theorem d_Mo_literate_39 : decode prog_12_method_10_code 39 = .ok (.aload_n 0, 1) := by decide +kernel
theorem d_Mo_literate_40 : decode prog_12_method_10_code 40 = .ok (.getfield 83, 3) := by decide +kernel
theorem d_Mo_literate_43 : decode prog_12_method_10_code 43 = .ok (.iload_n 2, 1) := by decide +kernel
theorem d_Mo_literate_44 : decode prog_12_method_10_code 44 = .ok (.iconst 0, 1) := by decide +kernel
theorem d_Mo_literate_45 : decode prog_12_method_10_code 45 = .ok (.bastore, 1) := by decide +kernel
theorem d_Mo_literate_46 : decode prog_12_method_10_code 46 = .ok (.aload_n 0, 1) := by decide +kernel
theorem d_Mo_literate_47 : decode prog_12_method_10_code 47 = .ok (.getfield 77, 3) := by decide +kernel
theorem d_Mo_literate_50 : decode prog_12_method_10_code 50 = .ok (.iload_n 2, 1) := by decide +kernel
theorem d_Mo_literate_51 : decode prog_12_method_10_code 51 = .ok (.iconst (-1), 1) := by decide +kernel
theorem d_Mo_literate_52 : decode prog_12_method_10_code 52 = .ok (.iastore, 1) := by decide +kernel
theorem d_Mo_literate_53 : decode prog_12_method_10_code 53 = .ok (.iinc 2 1, 3) := by decide +kernel
theorem d_Mo_literate_56 : decode prog_12_method_10_code 56 = .ok (.goto (-31), 3) := by decide +kernel
theorem d_Mo_literate_59 : decode prog_12_method_10_code 59 = .ok (.iconst 0, 1) := by decide +kernel
theorem d_Mo_literate_60 : decode prog_12_method_10_code 60 = .ok (.istore_n 2, 1) := by decide +kernel
theorem d_Mo_literate_61 : decode prog_12_method_10_code 61 = .ok (.iconst 0, 1) := by decide +kernel
theorem d_Mo_literate_62 : decode prog_12_method_10_code 62 = .ok (.istore_n 3, 1) := by decide +kernel
theorem d_Mo_literate_63 : decode prog_12_method_10_code 63 = .ok (.iload_n 3, 1) := by decide +kernel
theorem d_Mo_literate_64 : decode prog_12_method_10_code 64 = .ok (.aload_n 0, 1) := by decide +kernel
theorem d_Mo_literate_65 : decode prog_12_method_10_code 65 = .ok (.getfield 118, 3) := by decide +kernel
theorem d_Mo_literate_68 : decode prog_12_method_10_code 68 = .ok (.if_icmp .ge 165, 3) := by decide +kernel
theorem d_Mo_literate_233 : decode prog_12_method_10_code 233 = .ok (.iconst 1, 1) := by decide +kernel
theorem d_Mo_literate_234 : decode prog_12_method_10_code 234 = .ok (.istore_n 3, 1) := by decide +kernel
theorem d_Mo_literate_235 : decode prog_12_method_10_code 235 = .ok (.iload_n 3, 1) := by decide +kernel
theorem d_Mo_literate_236 : decode prog_12_method_10_code 236 = .ok (.iload_n 1, 1) := by decide +kernel
theorem d_Mo_literate_237 : decode prog_12_method_10_code 237 = .ok (.if_icmp .gt 50, 3) := by decide +kernel
theorem d_Mo_literate_287 : decode prog_12_method_10_code 287 = .ok (.iload_n 2, 1) := by decide +kernel
theorem d_Mo_literate_288 : decode prog_12_method_10_code 288 = .ok (.ifCond .ne 11, 3) := by decide +kernel
theorem d_Mo_literate_291 : decode prog_12_method_10_code 291 = .ok (.aload_n 0, 1) := by decide +kernel
theorem d_Mo_literate_292 : decode prog_12_method_10_code 292 = .ok (.aload_n 0, 1) := by decide +kernel
theorem d_Mo_literate_293 : decode prog_12_method_10_code 293 = .ok (.getfield 118, 3) := by decide +kernel
theorem d_Mo_literate_296 : decode prog_12_method_10_code 296 = .ok (.invokevirtual 139, 3) := by decide +kernel
theorem d_Mo_literate_299 : decode prog_12_method_10_code 299 = .ok (.return_, 1) := by decide +kernel
theorem d_Mo_noToken_0 : decode prog_12_method_60_code 0 = .ok (.iload_n 1, 1) := by decide +kernel
theorem d_Mo_noToken_1 : decode prog_12_method_60_code 1 = .ok (.ifCond .lt 11, 3) := by decide +kernel
theorem d_Mo_noToken_4 : decode prog_12_method_60_code 4 = .ok (.iload_n 1, 1) := by decide +kernel
theorem d_Mo_noToken_5 : decode prog_12_method_60_code 5 = .ok (.aload_n 0, 1) := by decide +kernel
theorem d_Mo_noToken_6 : decode prog_12_method_60_code 6 = .ok (.getfield 109, 3) := by decide +kernel
theorem d_Mo_noToken_9 : decode prog_12_method_60_code 9 = .ok (.if_icmp .lt 7, 3) := by decide +kernel
theorem d_Mo_noToken_12 : decode prog_12_method_60_code 12 = .ok (.iconst 1, 1) := by decide +kernel
theorem d_Mo_noToken_13 : decode prog_12_method_60_code 13 = .ok (.goto 4, 3) := by decide +kernel
theorem d_Mo_noToken_17 : decode prog_12_method_60_code 17 = .ok (.ireturn, 1) := by decide +kernel
theorem d_Mo_number_0 : decode prog_12_method_63_code 0 = .ok (.aload_n 0, 1) := by decide +kernel
theorem d_Mo_number_1 : decode prog_12_method_63_code 1 = .ok (.iconst 0, 1) := by decide +kernel
theorem d_Mo_number_2 : decode prog_12_method_63_code 2 = .ok (.putfield 99, 3) := by decide +kernel
theorem d_Mo_number_5 : decode prog_12_method_63_code 5 = .ok (.aload_n 0, 1) := by decide +kernel
theorem d_Mo_number_6 : decode prog_12_method_63_code 6 = .ok (.iload_n 1, 1) := by decide +kernel
theorem d_Mo_number_7 : decode prog_12_method_63_code 7 = .ok (.invokevirtual 378, 3) := by decide +kernel
theorem d_Mo_number_10 : decode prog_12_method_63_code 10 = .ok (.ifCond .ne 14, 3) := by decide +kernel
theorem d_Mo_number_24 : decode prog_12_method_63_code 24 = .ok (.lconst 0, 1) := by decide +kernel
theorem d_Mo_number_25 : decode prog_12_method_63_code 25 = .ok (.lreturn, 1) := by decide +kernel
theorem d_Mo_octets_0 : decode prog_12_method_4_code 0 = .ok (.aload_n 0, 1) := by decide +kernel
theorem d_Mo_octets_1 : decode prog_12_method_4_code 1 = .ok (.iconst 0, 1) := by decide +kernel
theorem d_Mo_octets_2 : decode prog_12_method_4_code 2 = .ok (.putfield 99, 3) := by decide +kernel
theorem d_Mo_octets_5 : decode prog_12_method_4_code 5 = .ok (.iload_n 1, 1) := by decide +kernel
theorem d_Mo_octets_6 : decode prog_12_method_4_code 6 = .ok (.iconst 1, 1) := by decide +kernel
theorem d_Mo_octets_7 : decode prog_12_method_4_code 7 = .ok (.if_icmp .lt 21, 3) := by decide +kernel
theorem d_Mo_octets_10 : decode prog_12_method_4_code 10 = .ok (.iload_n 1, 1) := by decide +kernel
theorem d_Mo_octets_11 : decode prog_12_method_4_code 11 = .ok (.bipush 8, 2) := by decide +kernel
theorem d_Mo_octets_13 : decode prog_12_method_4_code 13 = .ok (.if_icmp .gt 15, 3) := by decide +kernel
theorem d_Mo_octets_16 : decode prog_12_method_4_code 16 = .ok (.aload_n 0, 1) := by decide +kernel
theorem d_Mo_octets_17 : decode prog_12_method_4_code 17 = .ok (.getfield 118, 3) := by decide +kernel
theorem d_Mo_octets_20 : decode prog_12_method_4_code 20 = .ok (.iload_n 1, 1) := by decide +kernel
theorem d_Mo_octets_21 : decode prog_12_method_4_code 21 = .ok (.iadd, 1) := by decide +kernel
theorem d_Mo_octets_22 : decode prog_12_method_4_code 22 = .ok (.sipush 600, 3) := by decide +kernel
theorem d_Mo_octets_25 : decode prog_12_method_4_code 25 = .ok (.if_icmp .le 5, 3) := by decide +kernel
theorem d_Mo_octets_28 : decode prog_12_method_4_code 28 = .ok (.iconst (-1), 1) := by decide +kernel
theorem d_Mo_octets_29 : decode prog_12_method_4_code 29 = .ok (.ireturn, 1) := by decide +kernel
theorem d_Mo_octets_30 : decode prog_12_method_4_code 30 = .ok (.iconst 0, 1) := by decide +kernel
theorem d_Mo_octets_31 : decode prog_12_method_4_code 31 = .ok (.istore 4, 2) := by decide +kernel
theorem d_Mo_octets_33 : decode prog_12_method_4_code 33 = .ok (.iload 4, 2) := by decide +kernel
theorem d_Mo_octets_35 : decode prog_12_method_4_code 35 = .ok (.iload_n 1, 1) := by decide +kernel
theorem d_Mo_octets_36 : decode prog_12_method_4_code 36 = .ok (.if_icmp .ge 40, 3) := by decide +kernel
theorem d_Mo_octets_39 : decode prog_12_method_4_code 39 = .ok (.aload_n 0, 1) := by decide +kernel
theorem d_Mo_octets_40 : decode prog_12_method_4_code 40 = .ok (.getfield 7, 3) := by decide +kernel
theorem d_Mo_octets_43 : decode prog_12_method_4_code 43 = .ok (.aload_n 0, 1) := by decide +kernel
theorem d_Mo_octets_44 : decode prog_12_method_4_code 44 = .ok (.getfield 118, 3) := by decide +kernel
theorem d_Mo_octets_47 : decode prog_12_method_4_code 47 = .ok (.lload_n 2, 1) := by decide +kernel
theorem d_Mo_octets_48 : decode prog_12_method_4_code 48 = .ok (.bipush 8, 2) := by decide +kernel
theorem d_Mo_octets_50 : decode prog_12_method_4_code 50 = .ok (.iload 4, 2) := by decide +kernel
theorem d_Mo_octets_52 : decode prog_12_method_4_code 52 = .ok (.imul, 1) := by decide +kernel
theorem d_Mo_octets_53 : decode prog_12_method_4_code 53 = .ok (.lshr, 1) := by decide +kernel
theorem d_Mo_octets_54 : decode prog_12_method_4_code 54 = .ok (.ldc2_w 121, 3) := by decide +kernel
theorem d_Mo_octets_57 : decode prog_12_method_4_code 57 = .ok (.land, 1) := by decide +kernel
theorem d_Mo_octets_58 : decode prog_12_method_4_code 58 = .ok (.l2i, 1) := by decide +kernel
theorem d_Mo_octets_59 : decode prog_12_method_4_code 59 = .ok (.iastore, 1) := by decide +kernel
theorem d_Mo_octets_60 : decode prog_12_method_4_code 60 = .ok (.aload_n 0, 1) := by decide +kernel
theorem d_Mo_octets_61 : decode prog_12_method_4_code 61 = .ok (.dup, 1) := by decide +kernel
theorem d_Mo_octets_62 : decode prog_12_method_4_code 62 = .ok (.getfield 118, 3) := by decide +kernel
theorem d_Mo_octets_65 : decode prog_12_method_4_code 65 = .ok (.iconst 1, 1) := by decide +kernel
theorem d_Mo_octets_66 : decode prog_12_method_4_code 66 = .ok (.iadd, 1) := by decide +kernel
theorem d_Mo_octets_67 : decode prog_12_method_4_code 67 = .ok (.putfield 118, 3) := by decide +kernel
theorem d_Mo_octets_70 : decode prog_12_method_4_code 70 = .ok (.iinc 4 1, 3) := by decide +kernel
theorem d_Mo_octets_73 : decode prog_12_method_4_code 73 = .ok (.goto (-40), 3) := by decide +kernel
theorem d_Mo_octets_76 : decode prog_12_method_4_code 76 = .ok (.aload_n 0, 1) := by decide +kernel
theorem d_Mo_octets_77 : decode prog_12_method_4_code 77 = .ok (.invokevirtual 123, 3) := by decide +kernel
theorem d_Mo_octets_80 : decode prog_12_method_4_code 80 = .ok (.aload_n 0, 1) := by decide +kernel
theorem d_Mo_octets_81 : decode prog_12_method_4_code 81 = .ok (.getfield 118, 3) := by decide +kernel
theorem d_Mo_octets_84 : decode prog_12_method_4_code 84 = .ok (.ireturn, 1) := by decide +kernel
theorem d_Mo_print_0 : decode prog_12_method_70_code 0 = .ok (.aload_n 0, 1) := by decide +kernel
theorem d_Mo_print_1 : decode prog_12_method_70_code 1 = .ok (.iconst 0, 1) := by decide +kernel
theorem d_Mo_print_2 : decode prog_12_method_70_code 2 = .ok (.putfield 99, 3) := by decide +kernel
theorem d_Mo_print_5 : decode prog_12_method_70_code 5 = .ok (.aload_n 0, 1) := by decide +kernel
theorem d_Mo_print_6 : decode prog_12_method_70_code 6 = .ok (.getfield 102, 3) := by decide +kernel
theorem d_Mo_print_9 : decode prog_12_method_70_code 9 = .ok (.ifCond .ne 5, 3) := by decide +kernel
theorem d_Mo_print_12 : decode prog_12_method_70_code 12 = .ok (.iconst (-1), 1) := by decide +kernel
theorem d_Mo_print_13 : decode prog_12_method_70_code 13 = .ok (.ireturn, 1) := by decide +kernel
theorem d_Mo_putIn_0 : decode prog_12_method_46_code 0 = .ok (.aload_n 0, 1) := by decide +kernel
theorem d_Mo_putIn_1 : decode prog_12_method_46_code 1 = .ok (.iconst (-1), 1) := by decide +kernel
theorem d_Mo_putIn_2 : decode prog_12_method_46_code 2 = .ok (.iload_n 1, 1) := by decide +kernel
theorem d_Mo_putIn_3 : decode prog_12_method_46_code 3 = .ok (.iconst 0, 1) := by decide +kernel
theorem d_Mo_putIn_4 : decode prog_12_method_46_code 4 = .ok (.invokevirtual 313, 3) := by decide +kernel
theorem d_Mo_putIn_7 : decode prog_12_method_46_code 7 = .ok (.return_, 1) := by decide +kernel
theorem d_Mo_read_0 : decode prog_12_method_59_code 0 = .ok (.aload_n 0, 1) := by decide +kernel
theorem d_Mo_read_1 : decode prog_12_method_59_code 1 = .ok (.iconst 0, 1) := by decide +kernel
theorem d_Mo_read_2 : decode prog_12_method_59_code 2 = .ok (.putfield 99, 3) := by decide +kernel
theorem d_Mo_read_5 : decode prog_12_method_59_code 5 = .ok (.aload_n 0, 1) := by decide +kernel
theorem d_Mo_read_6 : decode prog_12_method_59_code 6 = .ok (.invokevirtual 123, 3) := by decide +kernel
theorem d_Mo_read_9 : decode prog_12_method_59_code 9 = .ok (.aload_n 0, 1) := by decide +kernel
theorem d_Mo_read_10 : decode prog_12_method_59_code 10 = .ok (.iconst 0, 1) := by decide +kernel
theorem d_Mo_read_11 : decode prog_12_method_59_code 11 = .ok (.putfield 260, 3) := by decide +kernel
theorem d_Mo_read_14 : decode prog_12_method_59_code 14 = .ok (.aload_n 0, 1) := by decide +kernel
theorem d_Mo_read_15 : decode prog_12_method_59_code 15 = .ok (.iconst (-1), 1) := by decide +kernel
theorem d_Mo_read_16 : decode prog_12_method_59_code 16 = .ok (.putfield 133, 3) := by decide +kernel
theorem d_Mo_read_19 : decode prog_12_method_59_code 19 = .ok (.aload_n 0, 1) := by decide +kernel
theorem d_Mo_read_20 : decode prog_12_method_59_code 20 = .ok (.invokevirtual 366, 3) := by decide +kernel
theorem d_Mo_read_23 : decode prog_12_method_59_code 23 = .ok (.iload_n 1, 1) := by decide +kernel
theorem d_Mo_read_24 : decode prog_12_method_59_code 24 = .ok (.ifCond .eq 10, 3) := by decide +kernel
theorem d_Mo_read_27 : decode prog_12_method_59_code 27 = .ok (.aload_n 0, 1) := by decide +kernel
theorem d_Mo_read_28 : decode prog_12_method_59_code 28 = .ok (.invokevirtual 369, 3) := by decide +kernel
theorem d_Mo_read_31 : decode prog_12_method_59_code 31 = .ok (.goto 31, 3) := by decide +kernel
theorem d_Mo_read_34 : decode prog_12_method_59_code 34 = .ok (.iconst 0, 1) := by decide +kernel
theorem d_Mo_read_35 : decode prog_12_method_59_code 35 = .ok (.istore_n 2, 1) := by decide +kernel
theorem d_Mo_read_36 : decode prog_12_method_59_code 36 = .ok (.iload_n 2, 1) := by decide +kernel
theorem d_Mo_read_37 : decode prog_12_method_59_code 37 = .ok (.aload_n 0, 1) := by decide +kernel
theorem d_Mo_read_38 : decode prog_12_method_59_code 38 = .ok (.getfield 118, 3) := by decide +kernel
theorem d_Mo_read_41 : decode prog_12_method_59_code 41 = .ok (.if_icmp .ge 21, 3) := by decide +kernel
theorem d_Mo_read_62 : decode prog_12_method_59_code 62 = .ok (.aload_n 0, 1) := by decide +kernel
theorem d_Mo_read_63 : decode prog_12_method_59_code 63 = .ok (.getfield 133, 3) := by decide +kernel
theorem d_Mo_read_66 : decode prog_12_method_59_code 66 = .ok (.ifCond .ge 7, 3) := by decide +kernel
theorem d_Mo_read_69 : decode prog_12_method_59_code 69 = .ok (.aload_n 0, 1) := by decide +kernel
theorem d_Mo_read_70 : decode prog_12_method_59_code 70 = .ok (.invokevirtual 372, 3) := by decide +kernel
theorem d_Mo_read_73 : decode prog_12_method_59_code 73 = .ok (.aload_n 0, 1) := by decide +kernel
theorem d_Mo_read_74 : decode prog_12_method_59_code 74 = .ok (.getfield 133, 3) := by decide +kernel
theorem d_Mo_read_77 : decode prog_12_method_59_code 77 = .ok (.ifCond .ge 7, 3) := by decide +kernel
theorem d_Mo_read_80 : decode prog_12_method_59_code 80 = .ok (.aload_n 0, 1) := by decide +kernel
theorem d_Mo_read_81 : decode prog_12_method_59_code 81 = .ok (.invokevirtual 375, 3) := by decide +kernel
theorem d_Mo_read_84 : decode prog_12_method_59_code 84 = .ok (.aload_n 0, 1) := by decide +kernel
theorem d_Mo_read_85 : decode prog_12_method_59_code 85 = .ok (.getfield 133, 3) := by decide +kernel
theorem d_Mo_read_88 : decode prog_12_method_59_code 88 = .ok (.ifCond .lt 15, 3) := by decide +kernel
theorem d_Mo_read_91 : decode prog_12_method_59_code 91 = .ok (.aload_n 0, 1) := by decide +kernel
theorem d_Mo_read_92 : decode prog_12_method_59_code 92 = .ok (.invokevirtual 123, 3) := by decide +kernel
theorem d_Mo_read_95 : decode prog_12_method_59_code 95 = .ok (.bipush (-2), 2) := by decide +kernel
theorem d_Mo_read_97 : decode prog_12_method_59_code 97 = .ok (.aload_n 0, 1) := by decide +kernel
theorem d_Mo_read_98 : decode prog_12_method_59_code 98 = .ok (.getfield 133, 3) := by decide +kernel
theorem d_Mo_read_101 : decode prog_12_method_59_code 101 = .ok (.isub, 1) := by decide +kernel
theorem d_Mo_read_102 : decode prog_12_method_59_code 102 = .ok (.ireturn, 1) := by decide +kernel
theorem d_Mo_read_103 : decode prog_12_method_59_code 103 = .ok (.aload_n 0, 1) := by decide +kernel
theorem d_Mo_read_104 : decode prog_12_method_59_code 104 = .ok (.iconst 1, 1) := by decide +kernel
theorem d_Mo_read_105 : decode prog_12_method_59_code 105 = .ok (.putfield 102, 3) := by decide +kernel
theorem d_Mo_read_108 : decode prog_12_method_59_code 108 = .ok (.aload_n 0, 1) := by decide +kernel
theorem d_Mo_read_109 : decode prog_12_method_59_code 109 = .ok (.getfield 109, 3) := by decide +kernel
theorem d_Mo_read_112 : decode prog_12_method_59_code 112 = .ok (.ireturn, 1) := by decide +kernel
theorem d_Mo_readAll_0 : decode prog_12_method_42_code 0 = .ok (.iconst 0, 1) := by decide +kernel
theorem d_Mo_readAll_1 : decode prog_12_method_42_code 1 = .ok (.istore_n 1, 1) := by decide +kernel
theorem d_Mo_readAll_2 : decode prog_12_method_42_code 2 = .ok (.iload_n 1, 1) := by decide +kernel
theorem d_Mo_readAll_3 : decode prog_12_method_42_code 3 = .ok (.aload_n 0, 1) := by decide +kernel
theorem d_Mo_readAll_4 : decode prog_12_method_42_code 4 = .ok (.getfield 118, 3) := by decide +kernel
theorem d_Mo_readAll_7 : decode prog_12_method_42_code 7 = .ok (.if_icmp .ge 53, 3) := by decide +kernel
theorem d_Mo_readAll_60 : decode prog_12_method_42_code 60 = .ok (.return_, 1) := by decide +kernel
theorem d_Mo_room_0 : decode prog_12_method_43_code 0 = .ok (.aload_n 0, 1) := by decide +kernel
theorem d_Mo_room_1 : decode prog_12_method_43_code 1 = .ok (.getfield 301, 3) := by decide +kernel
theorem d_Mo_room_4 : decode prog_12_method_43_code 4 = .ok (.bipush 60, 2) := by decide +kernel
theorem d_Mo_room_6 : decode prog_12_method_43_code 6 = .ok (.if_icmp .ne 11, 3) := by decide +kernel
theorem d_Mo_room_17 : decode prog_12_method_43_code 17 = .ok (.return_, 1) := by decide +kernel
theorem d_Mo_sign_0 : decode prog_12_method_62_code 0 = .ok (.aload_n 0, 1) := by decide +kernel
theorem d_Mo_sign_1 : decode prog_12_method_62_code 1 = .ok (.iconst 0, 1) := by decide +kernel
theorem d_Mo_sign_2 : decode prog_12_method_62_code 2 = .ok (.putfield 99, 3) := by decide +kernel
theorem d_Mo_sign_5 : decode prog_12_method_62_code 5 = .ok (.aload_n 0, 1) := by decide +kernel
theorem d_Mo_sign_6 : decode prog_12_method_62_code 6 = .ok (.iload_n 1, 1) := by decide +kernel
theorem d_Mo_sign_7 : decode prog_12_method_62_code 7 = .ok (.invokevirtual 378, 3) := by decide +kernel
theorem d_Mo_sign_10 : decode prog_12_method_62_code 10 = .ok (.ifCond .ne 31, 3) := by decide +kernel
theorem d_Mo_sign_41 : decode prog_12_method_62_code 41 = .ok (.iconst (-1), 1) := by decide +kernel
theorem d_Mo_sign_42 : decode prog_12_method_62_code 42 = .ok (.ireturn, 1) := by decide +kernel
theorem d_Mo_stop_0 : decode prog_12_method_9_code 0 = .ok (.aload_n 0, 1) := by decide +kernel
theorem d_Mo_stop_1 : decode prog_12_method_9_code 1 = .ok (.aload_n 0, 1) := by decide +kernel
theorem d_Mo_stop_2 : decode prog_12_method_9_code 2 = .ok (.getfield 133, 3) := by decide +kernel
theorem d_Mo_stop_5 : decode prog_12_method_9_code 5 = .ok (.ifCond .ge 7, 3) := by decide +kernel
theorem d_Mo_stop_8 : decode prog_12_method_9_code 8 = .ok (.iload_n 1, 1) := by decide +kernel
theorem d_Mo_stop_9 : decode prog_12_method_9_code 9 = .ok (.goto 7, 3) := by decide +kernel
theorem d_Mo_stop_16 : decode prog_12_method_9_code 16 = .ok (.putfield 133, 3) := by decide +kernel
theorem d_Mo_stop_19 : decode prog_12_method_9_code 19 = .ok (.return_, 1) := by decide +kernel
theorem d_Mo_token_0 : decode prog_12_method_61_code 0 = .ok (.aload_n 0, 1) := by decide +kernel
theorem d_Mo_token_1 : decode prog_12_method_61_code 1 = .ok (.iconst 0, 1) := by decide +kernel
theorem d_Mo_token_2 : decode prog_12_method_61_code 2 = .ok (.putfield 99, 3) := by decide +kernel
theorem d_Mo_token_5 : decode prog_12_method_61_code 5 = .ok (.aload_n 0, 1) := by decide +kernel
theorem d_Mo_token_6 : decode prog_12_method_61_code 6 = .ok (.iload_n 1, 1) := by decide +kernel
theorem d_Mo_token_7 : decode prog_12_method_61_code 7 = .ok (.invokevirtual 378, 3) := by decide +kernel
theorem d_Mo_token_10 : decode prog_12_method_61_code 10 = .ok (.ifCond .eq 5, 3) := by decide +kernel
theorem d_Mo_token_13 : decode prog_12_method_61_code 13 = .ok (.iconst (-1), 1) := by decide +kernel
theorem d_Mo_token_14 : decode prog_12_method_61_code 14 = .ok (.ireturn, 1) := by decide +kernel
theorem d_Mo_told_0 : decode prog_12_method_73_code 0 = .ok (.aload_n 0, 1) := by decide +kernel
theorem d_Mo_told_1 : decode prog_12_method_73_code 1 = .ok (.iconst 0, 1) := by decide +kernel
theorem d_Mo_told_2 : decode prog_12_method_73_code 2 = .ok (.putfield 99, 3) := by decide +kernel
theorem d_Mo_told_5 : decode prog_12_method_73_code 5 = .ok (.iconst 0, 1) := by decide +kernel
theorem d_Mo_told_6 : decode prog_12_method_73_code 6 = .ok (.istore_n 2, 1) := by decide +kernel
theorem d_Mo_told_7 : decode prog_12_method_73_code 7 = .ok (.iconst 0, 1) := by decide +kernel
theorem d_Mo_told_8 : decode prog_12_method_73_code 8 = .ok (.istore_n 3, 1) := by decide +kernel
theorem d_Mo_told_9 : decode prog_12_method_73_code 9 = .ok (.iconst 0, 1) := by decide +kernel
theorem d_Mo_told_10 : decode prog_12_method_73_code 10 = .ok (.istore 4, 2) := by decide +kernel
theorem d_Mo_told_12 : decode prog_12_method_73_code 12 = .ok (.iload 4, 2) := by decide +kernel
theorem d_Mo_told_14 : decode prog_12_method_73_code 14 = .ok (.aload_n 0, 1) := by decide +kernel
theorem d_Mo_told_15 : decode prog_12_method_73_code 15 = .ok (.getfield 109, 3) := by decide +kernel
theorem d_Mo_told_18 : decode prog_12_method_73_code 18 = .ok (.if_icmp .ge 45, 3) := by decide +kernel
theorem d_Mo_told_63 : decode prog_12_method_73_code 63 = .ok (.iload_n 1, 1) := by decide +kernel
theorem d_Mo_told_64 : decode prog_12_method_73_code 64 = .ok (.tableswitch 81 0 6 #[44, 49, 54, 56, 58, 63, 68], 44) := by decide +kernel
theorem d_Mo_told_108 : decode prog_12_method_73_code 108 = .ok (.aload_n 0, 1) := by decide +kernel
theorem d_Mo_told_109 : decode prog_12_method_73_code 109 = .ok (.getfield 118, 3) := by decide +kernel
theorem d_Mo_told_112 : decode prog_12_method_73_code 112 = .ok (.ireturn, 1) := by decide +kernel
theorem d_Mo_told_113 : decode prog_12_method_73_code 113 = .ok (.aload_n 0, 1) := by decide +kernel
theorem d_Mo_told_114 : decode prog_12_method_73_code 114 = .ok (.getfield 109, 3) := by decide +kernel
theorem d_Mo_told_117 : decode prog_12_method_73_code 117 = .ok (.ireturn, 1) := by decide +kernel
theorem d_Mo_told_118 : decode prog_12_method_73_code 118 = .ok (.iload_n 2, 1) := by decide +kernel
theorem d_Mo_told_119 : decode prog_12_method_73_code 119 = .ok (.ireturn, 1) := by decide +kernel
theorem d_Mo_told_120 : decode prog_12_method_73_code 120 = .ok (.iload_n 3, 1) := by decide +kernel
theorem d_Mo_told_121 : decode prog_12_method_73_code 121 = .ok (.ireturn, 1) := by decide +kernel
theorem d_Mo_told_122 : decode prog_12_method_73_code 122 = .ok (.aload_n 0, 1) := by decide +kernel
theorem d_Mo_told_123 : decode prog_12_method_73_code 123 = .ok (.getfield 112, 3) := by decide +kernel
theorem d_Mo_told_126 : decode prog_12_method_73_code 126 = .ok (.ireturn, 1) := by decide +kernel
theorem d_Mo_told_127 : decode prog_12_method_73_code 127 = .ok (.aload_n 0, 1) := by decide +kernel
theorem d_Mo_told_128 : decode prog_12_method_73_code 128 = .ok (.getfield 115, 3) := by decide +kernel
theorem d_Mo_told_131 : decode prog_12_method_73_code 131 = .ok (.ireturn, 1) := by decide +kernel
theorem d_Mo_told_132 : decode prog_12_method_73_code 132 = .ok (.aload_n 0, 1) := by decide +kernel
theorem d_Mo_told_133 : decode prog_12_method_73_code 133 = .ok (.getfield 102, 3) := by decide +kernel
theorem d_Mo_told_136 : decode prog_12_method_73_code 136 = .ok (.ifCond .eq 7, 3) := by decide +kernel
theorem d_Mo_told_143 : decode prog_12_method_73_code 143 = .ok (.iconst 0, 1) := by decide +kernel
theorem d_Mo_told_144 : decode prog_12_method_73_code 144 = .ok (.ireturn, 1) := by decide +kernel
theorem d_Mo_told_145 : decode prog_12_method_73_code 145 = .ok (.iconst (-1), 1) := by decide +kernel
theorem d_Mo_told_146 : decode prog_12_method_73_code 146 = .ok (.ireturn, 1) := by decide +kernel
theorem d_Mo_unread_0 : decode prog_12_method_3_code 0 = .ok (.aload_n 0, 1) := by decide +kernel
theorem d_Mo_unread_1 : decode prog_12_method_3_code 1 = .ok (.iconst 0, 1) := by decide +kernel
theorem d_Mo_unread_2 : decode prog_12_method_3_code 2 = .ok (.putfield 102, 3) := by decide +kernel
theorem d_Mo_unread_5 : decode prog_12_method_3_code 5 = .ok (.aload_n 0, 1) := by decide +kernel
theorem d_Mo_unread_6 : decode prog_12_method_3_code 6 = .ok (.iconst 0, 1) := by decide +kernel
theorem d_Mo_unread_7 : decode prog_12_method_3_code 7 = .ok (.putfield 106, 3) := by decide +kernel
theorem d_Mo_unread_10 : decode prog_12_method_3_code 10 = .ok (.aload_n 0, 1) := by decide +kernel
theorem d_Mo_unread_11 : decode prog_12_method_3_code 11 = .ok (.iconst 0, 1) := by decide +kernel
