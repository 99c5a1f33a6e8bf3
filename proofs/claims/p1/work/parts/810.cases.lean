set_option maxHeartbeats 4000000 in
set_option maxRecDepth 100000 in
theorem law_case_0 {p : Program} {l : Launch} {e : Env} {s : State} {m : MethodId} {below : List Frame} {meth : Method} {c : Code} {b : Nat} {xs : Nat → Int32} {D : va_G} {aI aJ aZ : ClassId} (X : kX p s m #[Value.ref b] c code 4 "LayoutTokensLaw" D (kT aI aJ aZ)) (hr : meth.sig.returnType = ret) (hlocks : meth.locks = false) (hX : va_X b 4 xs s s.heap) (hbl : b < s.heap.size) {q_1 q_2 q_7 q_8 q_17 q_21 q_23 q_28 q_32 q_3 q_4 q_5 q_6 q_35 q_36 q_37 q_38 q_39 q_40 q_41 q_42 q_43 q_44 q_45 q_46 q_47 q_48 q_49 q_50 q_51 q_52 q_53 q_54 q_55 q_56 q_57 q_58 q_59 q_60 q_61 q_62 q_63 : Nat} {A : Nat → Prop} (hAe : A = fun q : Nat => s.heap.size ≤ q) {H : Heap} {locs : List Loc} (hP : va_P D classes [(q_1, .inr (9, [.ref q_2, .ref q_7, .ref q_8, .ref q_17, .ref q_21, .ref q_23, .ref q_28, .ref q_32, .int 0])), (q_2, .inr (0, [.ref q_3, .ref q_4, .ref q_5, .ref q_6, .int 0])), (q_3, .inl (aI, 600, .inl (fun _ => 0))), (q_4, .inl (aI, 600, .inl (fun _ => 0))), (q_5, .inl (aI, 600, .inl (fun _ => 0))), (q_35, .inr (10, [.int 0, .ref q_36, .int 0, .ref q_37, .ref q_38, .ref q_39, .int 0, .int 0, .int 0, .ref q_40, .ref q_41, .ref q_42, .ref q_43, .ref q_44, .ref q_45, .ref q_46, .int 0, .int 0, .ref q_47, .ref q_48, .ref q_49, .int 0, .int 0, .ref q_50, .ref q_51, .ref q_52, .ref q_53, .ref q_54, .ref q_55, .int (-1), .ref q_56, .ref q_57, .int 0, .ref q_58, .ref q_59, .ref q_60, .int 0, .int 0, .int 0, .ref q_61, .ref q_62, .ref q_63, .int 0, .int 0, .int 0, .int 0, .int 0, .int 0])), (q_36, .inl (aI, 601, .inl (fun _ => 0)))] H) (hD : va_D A [(q_1, .inr (9, [.ref q_2, .ref q_7, .ref q_8, .ref q_17, .ref q_21, .ref q_23, .ref q_28, .ref q_32, .int 0])), (q_2, .inr (0, [.ref q_3, .ref q_4, .ref q_5, .ref q_6, .int 0])), (q_3, .inl (aI, 600, .inl (fun _ => 0))), (q_4, .inl (aI, 600, .inl (fun _ => 0))), (q_5, .inl (aI, 600, .inl (fun _ => 0))), (q_35, .inr (10, [.int 0, .ref q_36, .int 0, .ref q_37, .ref q_38, .ref q_39, .int 0, .int 0, .int 0, .ref q_40, .ref q_41, .ref q_42, .ref q_43, .ref q_44, .ref q_45, .ref q_46, .int 0, .int 0, .ref q_47, .ref q_48, .ref q_49, .int 0, .int 0, .ref q_50, .ref q_51, .ref q_52, .ref q_53, .ref q_54, .ref q_55, .int (-1), .ref q_56, .ref q_57, .int 0, .ref q_58, .ref q_59, .ref q_60, .int 0, .int 0, .int 0, .ref q_61, .ref q_62, .ref q_63, .int 0, .int 0, .int 0, .int 0, .int 0, .int 0])), (q_36, .inl (aI, 601, .inl (fun _ => 0)))]) (hS : va_S A s.heap H locs) {ls : Array Slot} (hl : lv_has ls 4 [(3, .int 0), (2, .ref q_35), (1, .ref q_1), (0, .ref b)]) : W p l e room_1 s m #[Value.ref b] below meth c H locs 62 33204 (lw_Z below #[Value.ref b] s) (F0 m 100 ls []) := by
  have hx := X.1.1
  have hb := X.1.2.1
  have hown := X.1.2.2.2.1
  have hk := X.1.2.2.2.2
  have hA : ∀ q : Nat, s.heap.size ≤ q → A q := by rw [hAe]; exact fun _ h => h
  have hbA : ¬ A b := by rw [hAe]; exact Nat.not_le.mpr hbl
  refine lv_aload_n hx hb d_Law_law_100 rfl (lv_at hl 2 rfl) ?_
  refine lv_aload_n hx hb d_Law_law_101 rfl (lv_at hl 3 rfl) ?_
  refine lv_iload_n hx hb d_Law_law_102 rfl (lv_at hl 0 rfl) ?_
  refine lv_iconst (v := 1) hx hb d_Law_law_103 (by decide) ?_
  refine lv_iadd hx hb d_Law_law_104 ?_
  refine lv_topi (fun z_1001 ez_1001 => ?_)
  obtain rfl : z_1001 = 1 := ez_1001.trans (by decide)
  refine va_sld hx hb hX hbl hbA hS (by unfold vp_in; decide) d_Law_law_105 ?_
  refine W.eq (g2 := F0 m 106 ls [.int (xs 1), .ref q_1]) rfl ?_
  refine lv_aload_n hx hb d_Law_law_106 rfl (lv_at hl 3 rfl) ?_
  refine lv_iload_n hx hb d_Law_law_107 rfl (lv_at hl 0 rfl) ?_
  refine lv_iconst (v := 2) hx hb d_Law_law_108 (by decide) ?_
  refine lv_iadd hx hb d_Law_law_109 ?_
  refine lv_topi (fun z_1002 ez_1002 => ?_)
  obtain rfl : z_1002 = 2 := ez_1002.trans (by decide)
  refine va_sld hx hb hX hbl hbA hS (by unfold vp_in; decide) d_Law_law_110 ?_
  refine W.eq (g2 := F0 m 111 ls [.int (xs 2), .int (xs 1), .ref q_1]) rfl ?_
  refine lv_i2l hx hb d_Law_law_111 rfl ?_
  refine lv_topl (fun x_1003 ex_1003 => ?_)
  refine lv_bipush (v := 32) hx hb d_Law_law_112 (by decide) ?_
  refine lv_lshl hx hb d_Law_law_114 rfl ?_
  refine lv_topl (fun x_1004 ex_1004 => ?_)
  refine lv_aload_n hx hb d_Law_law_115 rfl (lv_at hl 3 rfl) ?_
  refine lv_iload_n hx hb d_Law_law_116 rfl (lv_at hl 0 rfl) ?_
  refine lv_iconst (v := 3) hx hb d_Law_law_117 (by decide) ?_
  refine lv_iadd hx hb d_Law_law_118 ?_
  refine lv_topi (fun z_1005 ez_1005 => ?_)
  obtain rfl : z_1005 = 3 := ez_1005.trans (by decide)
  refine va_sld hx hb hX hbl hbA hS (by unfold vp_in; decide) d_Law_law_119 ?_
  refine W.eq (g2 := F0 m 120 ls [.int (xs 3), .long x_1004, .int (xs 1), .ref q_1]) rfl ?_
  refine lv_i2l hx hb d_Law_law_120 rfl ?_
  refine lv_topl (fun x_1006 ex_1006 => ?_)
  refine lv_ldc2 hx hb hown (hk _ t_1431) d_Law_law_121 ?_
  refine lv_topl (fun x_1007 ex_1007 => ?_)
  refine lv_land hx hb d_Law_law_124 ?_
  refine lv_topl (fun x_1008 ex_1008 => ?_)
  refine lv_lor hx hb d_Law_law_125 ?_
  refine lv_topl (fun x_1009 ex_1009 => ?_)
  refine kVi (n := 2) (As := [.int (xs 1), .long x_1009]) (rest := []) (wr := [(q_35, .inr (10, [.int 0, .ref q_36, .int 0, .ref q_37, .ref q_38, .ref q_39, .int 0, .int 0, .int 0, .ref q_40, .ref q_41, .ref q_42, .ref q_43, .ref q_44, .ref q_45, .ref q_46, .int 0, .int 0, .ref q_47, .ref q_48, .ref q_49, .int 0, .int 0, .ref q_50, .ref q_51, .ref q_52, .ref q_53, .ref q_54, .ref q_55, .int (-1), .ref q_56, .ref q_57, .int 0, .ref q_58, .ref q_59, .ref q_60, .int 0, .int 0, .int 0, .ref q_61, .ref q_62, .ref q_63, .int 0, .int 0, .int 0, .int 0, .int 0, .int 0])), (q_36, .inl (aI, 601, .inl (fun _ => 0)))]) X hP hD hS hA (c29_Lt_octets l D aI aJ aZ _ (q_1) (q_2) (q_3) (q_4) (q_5) ((xs 1)) (x_1009) (.ref q_7) (.ref q_8) (.ref q_17) (.ref q_21) (.ref q_23) (.ref q_28) (.ref q_32) (.int 0) (.ref q_6) ((fun _ => 0)) ((fun _ => 0)) ((fun _ => 0))) (kV_good t_389 t_386 t_387 t_388 t_97) rfl rfl (by decide +kernel) ⟨Nat.le_of_ble_eq_true rfl, Nat.le_of_ble_eq_true rfl⟩ hl.1 rfl rfl (Nat.le_of_ble_eq_true rfl) d_Law_law_126 ⟨Nat.le_of_ble_eq_true rfl, Nat.le_of_ble_eq_true rfl⟩ [0, 1, 2, 3, 4] [5, 6] rfl rfl (by decide) (by decide) (by decide) 0 rfl rfl (fun r_1011 u H locs w_1010 hP hD hS => ?_)
  have hP : va_P D classes [(q_35, .inr (10, [.int 0, .ref q_36, .int 0, .ref q_37, .ref q_38, .ref q_39, .int 0, .int 0, .int 0, .ref q_40, .ref q_41, .ref q_42, .ref q_43, .ref q_44, .ref q_45, .ref q_46, .int 0, .int 0, .ref q_47, .ref q_48, .ref q_49, .int 0, .int 0, .ref q_50, .ref q_51, .ref q_52, .ref q_53, .ref q_54, .ref q_55, .int (-1), .ref q_56, .ref q_57, .int 0, .ref q_58, .ref q_59, .ref q_60, .int 0, .int 0, .int 0, .ref q_61, .ref q_62, .ref q_63, .int 0, .int 0, .int 0, .int 0, .int 0, .int 0])), (q_36, .inl (aI, 601, .inl (fun _ => 0)))] H := hP
  have hD : va_D A [(q_35, .inr (10, [.int 0, .ref q_36, .int 0, .ref q_37, .ref q_38, .ref q_39, .int 0, .int 0, .int 0, .ref q_40, .ref q_41, .ref q_42, .ref q_43, .ref q_44, .ref q_45, .ref q_46, .int 0, .int 0, .ref q_47, .ref q_48, .ref q_49, .int 0, .int 0, .ref q_50, .ref q_51, .ref q_52, .ref q_53, .ref q_54, .ref q_55, .int (-1), .ref q_56, .ref q_57, .int 0, .ref q_58, .ref q_59, .ref q_60, .int 0, .int 0, .int 0, .ref q_61, .ref q_62, .ref q_63, .int 0, .int 0, .int 0, .int 0, .int 0, .int 0])), (q_36, .inl (aI, 601, .inl (fun _ => 0)))] := hD
  refine lv_aload_n hx hb d_Law_law_129 rfl (lv_at hl 1 rfl) ?_
  refine lv_aload_n hx hb d_Law_law_130 rfl (lv_at hl 3 rfl) ?_
  refine lv_iload_n hx hb d_Law_law_131 rfl (lv_at hl 0 rfl) ?_
  refine lv_iconst (v := 1) hx hb d_Law_law_132 (by decide) ?_
  refine lv_iadd hx hb d_Law_law_133 ?_
  refine lv_topi (fun z_1012 ez_1012 => ?_)
  obtain rfl : z_1012 = 1 := ez_1012.trans (by decide)
  refine va_sld hx hb hX hbl hbA hS (by unfold vp_in; decide) d_Law_law_134 ?_
  refine W.eq (g2 := F0 m 135 ls [.int (xs 1), .ref q_35, .int r_1011]) rfl ?_
  refine lv_aload_n hx hb d_Law_law_135 rfl (lv_at hl 3 rfl) ?_
  refine lv_iload_n hx hb d_Law_law_136 rfl (lv_at hl 0 rfl) ?_
  refine lv_iconst (v := 2) hx hb d_Law_law_137 (by decide) ?_
  refine lv_iadd hx hb d_Law_law_138 ?_
  refine lv_topi (fun z_1013 ez_1013 => ?_)
  obtain rfl : z_1013 = 2 := ez_1013.trans (by decide)
  refine va_sld hx hb hX hbl hbA hS (by unfold vp_in; decide) d_Law_law_139 ?_
  refine W.eq (g2 := F0 m 140 ls [.int (xs 2), .int (xs 1), .ref q_35, .int r_1011]) rfl ?_
  refine lv_i2l hx hb d_Law_law_140 rfl ?_
  refine lv_topl (fun x_1014 ex_1014 => ?_)
  refine lv_bipush (v := 32) hx hb d_Law_law_141 (by decide) ?_
  refine lv_lshl hx hb d_Law_law_143 rfl ?_
  refine lv_topl (fun x_1015 ex_1015 => ?_)
  refine lv_aload_n hx hb d_Law_law_144 rfl (lv_at hl 3 rfl) ?_
  refine lv_iload_n hx hb d_Law_law_145 rfl (lv_at hl 0 rfl) ?_
  refine lv_iconst (v := 3) hx hb d_Law_law_146 (by decide) ?_
  refine lv_iadd hx hb d_Law_law_147 ?_
  refine lv_topi (fun z_1016 ez_1016 => ?_)
  obtain rfl : z_1016 = 3 := ez_1016.trans (by decide)
  refine va_sld hx hb hX hbl hbA hS (by unfold vp_in; decide) d_Law_law_148 ?_
  refine W.eq (g2 := F0 m 149 ls [.int (xs 3), .long x_1015, .int (xs 1), .ref q_35, .int r_1011]) rfl ?_
  refine lv_i2l hx hb d_Law_law_149 rfl ?_
  refine lv_topl (fun x_1017 ex_1017 => ?_)
  refine lv_ldc2 hx hb hown (hk _ t_1431) d_Law_law_150 ?_
  refine lv_topl (fun x_1018 ex_1018 => ?_)
  refine lv_land hx hb d_Law_law_153 ?_
  refine lv_topl (fun x_1019 ex_1019 => ?_)
  refine lv_lor hx hb d_Law_law_154 ?_
  refine lv_topl (fun x_1020 ex_1020 => ?_)
  refine kVi (n := 2) (As := [.int (xs 1), .long x_1020]) (rest := [.int r_1011]) (wr := []) X hP hD hS hA (c31_Mo_octets l D aI aJ aZ _ (q_35) (q_36) ((xs 1)) (x_1020) (.ref q_37) (.ref q_38) (.ref q_39) (.int 0) (.ref q_40) (.ref q_41) (.ref q_42) (.ref q_43) (.ref q_44) (.ref q_45) (.ref q_46) (.int 0) (.ref q_47) (.ref q_48) (.ref q_49) (.ref q_50) (.ref q_51) (.ref q_52) (.ref q_53) (.ref q_54) (.ref q_55) (.int (-1)) (.ref q_56) (.ref q_57) (.int 0) (.ref q_58) (.ref q_59) (.ref q_60) (.int 0) (.int 0) (.int 0) (.ref q_61) (.ref q_62) (.ref q_63) (.int 0) (.int 0) (.int 0) (.int 0) (.int 0) (.int 0) ((fun _ => 0))) (kV_good t_1136 t_1133 t_1134 t_1135 t_107) rfl rfl (by decide +kernel) ⟨Nat.le_of_ble_eq_true rfl, Nat.le_of_ble_eq_true rfl⟩ hl.1 rfl rfl (Nat.le_of_ble_eq_true rfl) d_Law_law_155 ⟨Nat.le_of_ble_eq_true rfl, Nat.le_of_ble_eq_true rfl⟩ [0, 1] [] rfl rfl (by decide) (by decide) (by decide) 0 rfl rfl (fun r_1022 u H locs w_1021 hP hD hS => ?_)
  have hP : va_P D classes [] H := hP
  have hD : va_D A [] := hD
  refine lv_icmp_eq (tgt := 456) hx hb d_Law_law_158 (by decide) (fun c_1023 => ?_) (fun c_1023 => absurd (w_1010.trans w_1021.symm) c_1023)
  refine lv_iinc (v := 4) (lv' := [(3, .int 4), (2, .ref q_35), (1, .ref q_1), (0, .ref b)]) hx hb d_Law_law_456 hl (k := 0) rfl (by decide) (by decide) rfl (fun ls hl => ?_)
  refine lv_goto (tgt := 18) hx hb d_Law_law_459 (by decide) ?_
  refine lv_iload_n hx hb d_Law_law_18 rfl (lv_at hl 0 rfl) ?_
  refine lv_aload_n hx hb d_Law_law_19 rfl (lv_at hl 3 rfl) ?_
  refine va_slen hx hb hX hbl hbA hS d_Law_law_20 ?_
  refine lv_topi (fun z_1024 ez_1024 => ?_)
  obtain rfl : z_1024 = 4 := ez_1024.trans (by decide)
  refine lv_iconst (v := 4) hx hb d_Law_law_21 (by decide) ?_
  refine lv_isub hx hb d_Law_law_22 ?_
  refine lv_topi (fun z_1025 ez_1025 => ?_)
  obtain rfl : z_1025 = 0 := ez_1025.trans (by decide)
  refine lv_icmp_gt (tgt := 462) hx hb d_Law_law_23 (by decide) (fun c_1026 => ?_) (fun c_1026 => absurd (by decide) c_1026)
  refine lv_iconst (v := 1) hx hb d_Law_law_462 (by decide) ?_
  subst hAe; refine va_forget (fun q hq => hS.2.2 q hq) ?_
  exact lw_ret hx hb hr hlocks d_Law_law_463
set_option maxHeartbeats 4000000 in
set_option maxRecDepth 100000 in
theorem law_case_1 {p : Program} {l : Launch} {e : Env} {s : State} {m : MethodId} {below : List Frame} {meth : Method} {c : Code} {b : Nat} {xs : Nat → Int32} {D : va_G} {aI aJ aZ : ClassId} (X : kX p s m #[Value.ref b] c code 4 "LayoutTokensLaw" D (kT aI aJ aZ)) (hr : meth.sig.returnType = ret) (hlocks : meth.locks = false) (hX : va_X b 4 xs s s.heap) (hbl : b < s.heap.size) {q_1 q_2 q_7 q_8 q_17 q_21 q_23 q_28 q_32 q_3 q_4 q_5 q_6 q_9 q_10 q_11 q_12 q_13 q_14 q_15 q_16 q_18 q_19 q_20 q_22 q_24 q_25 q_26 q_27 q_29 q_30 q_31 q_35 q_36 q_37 q_38 q_39 q_40 q_41 q_42 q_43 q_44 q_45 q_46 q_47 q_48 q_49 q_50 q_51 q_52 q_53 q_54 q_55 q_56 q_57 q_58 q_59 q_60 q_61 q_62 q_63 : Nat} {A : Nat → Prop} (hAe : A = fun q : Nat => s.heap.size ≤ q) {H : Heap} {locs : List Loc} (hP : va_P D classes [(q_1, .inr (9, [.ref q_2, .ref q_7, .ref q_8, .ref q_17, .ref q_21, .ref q_23, .ref q_28, .ref q_32, .int 0])), (q_2, .inr (0, [.ref q_3, .ref q_4, .ref q_5, .ref q_6, .int 0])), (q_7, .inr (1, [.ref q_2])), (q_8, .inr (2, [.ref q_2, .ref q_9, .ref q_10, .ref q_11, .ref q_12, .ref q_13, .ref q_14, .ref q_15, .ref q_16, .int 0, .int 0])), (q_17, .inr (3, [.ref q_18, .ref q_19, .ref q_20, .int 0, .int 0])), (q_21, .inr (5, [.ref q_2, .ref q_8, .ref q_17, .ref q_22])), (q_23, .inr (6, [.ref q_2, .ref q_24, .ref q_25, .ref q_26, .ref q_27, .int 0, .int 0, .int 0, .int (-1), .int (-1)])), (q_24, .inl (aI, 500, .inl (fun _ => 0))), (q_25, .inl (aI, 500, .inl (fun _ => 0))), (q_26, .inl (aI, 500, .inl (fun _ => 0))), (q_27, .inl (aZ, 500, .inl (fun _ => 0))), (q_28, .inr (7, [.ref q_2, .ref q_8, .ref q_23, .ref q_29, .ref q_30, .ref q_31, .int 0, .int 0, .int 0, .int 0, .int 0, .int 0, .int 0])), (q_35, .inr (10, [.int 0, .ref q_36, .int 0, .ref q_37, .ref q_38, .ref q_39, .int 0, .int 0, .int 0, .ref q_40, .ref q_41, .ref q_42, .ref q_43, .ref q_44, .ref q_45, .ref q_46, .int 0, .int 0, .ref q_47, .ref q_48, .ref q_49, .int 0, .int 0, .ref q_50, .ref q_51, .ref q_52, .ref q_53, .ref q_54, .ref q_55, .int (-1), .ref q_56, .ref q_57, .int 0, .ref q_58, .ref q_59, .ref q_60, .int 0, .int 0, .int 0, .ref q_61, .ref q_62, .ref q_63, .int 0, .int 0, .int 0, .int 0, .int 0, .int 0])), (q_50, .inl (aI, 501, .inl (fun _ => 0))), (q_51, .inl (aI, 501, .inl (fun _ => 0))), (q_52, .inl (aI, 501, .inl (fun _ => 0))), (q_53, .inl (aI, 501, .inl (fun _ => 0))), (q_54, .inl (aI, 501, .inl (fun _ => 0))), (q_55, .inl (aZ, 501, .inl (fun _ => 0))), (q_58, .inl (aI, 602, .inl (fun _ => 0))), (q_59, .inl (aZ, 602, .inl (fun _ => 0))), (q_60, .inl (aZ, 602, .inl (fun _ => 0)))] H) (hD : va_D A [(q_1, .inr (9, [.ref q_2, .ref q_7, .ref q_8, .ref q_17, .ref q_21, .ref q_23, .ref q_28, .ref q_32, .int 0])), (q_2, .inr (0, [.ref q_3, .ref q_4, .ref q_5, .ref q_6, .int 0])), (q_7, .inr (1, [.ref q_2])), (q_8, .inr (2, [.ref q_2, .ref q_9, .ref q_10, .ref q_11, .ref q_12, .ref q_13, .ref q_14, .ref q_15, .ref q_16, .int 0, .int 0])), (q_17, .inr (3, [.ref q_18, .ref q_19, .ref q_20, .int 0, .int 0])), (q_21, .inr (5, [.ref q_2, .ref q_8, .ref q_17, .ref q_22])), (q_23, .inr (6, [.ref q_2, .ref q_24, .ref q_25, .ref q_26, .ref q_27, .int 0, .int 0, .int 0, .int (-1), .int (-1)])), (q_24, .inl (aI, 500, .inl (fun _ => 0))), (q_25, .inl (aI, 500, .inl (fun _ => 0))), (q_26, .inl (aI, 500, .inl (fun _ => 0))), (q_27, .inl (aZ, 500, .inl (fun _ => 0))), (q_28, .inr (7, [.ref q_2, .ref q_8, .ref q_23, .ref q_29, .ref q_30, .ref q_31, .int 0, .int 0, .int 0, .int 0, .int 0, .int 0, .int 0])), (q_35, .inr (10, [.int 0, .ref q_36, .int 0, .ref q_37, .ref q_38, .ref q_39, .int 0, .int 0, .int 0, .ref q_40, .ref q_41, .ref q_42, .ref q_43, .ref q_44, .ref q_45, .ref q_46, .int 0, .int 0, .ref q_47, .ref q_48, .ref q_49, .int 0, .int 0, .ref q_50, .ref q_51, .ref q_52, .ref q_53, .ref q_54, .ref q_55, .int (-1), .ref q_56, .ref q_57, .int 0, .ref q_58, .ref q_59, .ref q_60, .int 0, .int 0, .int 0, .ref q_61, .ref q_62, .ref q_63, .int 0, .int 0, .int 0, .int 0, .int 0, .int 0])), (q_50, .inl (aI, 501, .inl (fun _ => 0))), (q_51, .inl (aI, 501, .inl (fun _ => 0))), (q_52, .inl (aI, 501, .inl (fun _ => 0))), (q_53, .inl (aI, 501, .inl (fun _ => 0))), (q_54, .inl (aI, 501, .inl (fun _ => 0))), (q_55, .inl (aZ, 501, .inl (fun _ => 0))), (q_58, .inl (aI, 602, .inl (fun _ => 0))), (q_59, .inl (aZ, 602, .inl (fun _ => 0))), (q_60, .inl (aZ, 602, .inl (fun _ => 0)))]) (hS : va_S A s.heap H locs) {ls : Array Slot} (hl : lv_has ls 4 [(3, .int 0), (2, .ref q_35), (1, .ref q_1), (0, .ref b)]) : W p l e room_1 s m #[Value.ref b] below meth c H locs 62 33204 (lw_Z below #[Value.ref b] s) (F0 m 163 ls []) := by
  have hx := X.1.1
  have hb := X.1.2.1
  have hown := X.1.2.2.2.1
  have hk := X.1.2.2.2.2
  have hA : ∀ q : Nat, s.heap.size ≤ q → A q := by rw [hAe]; exact fun _ h => h
  have hbA : ¬ A b := by rw [hAe]; exact Nat.not_le.mpr hbl
  refine lv_aload_n hx hb d_Law_law_163 rfl (lv_at hl 2 rfl) ?_
  refine lv_aload_n hx hb d_Law_law_164 rfl (lv_at hl 3 rfl) ?_
  refine lv_iload_n hx hb d_Law_law_165 rfl (lv_at hl 0 rfl) ?_
  refine lv_iconst (v := 1) hx hb d_Law_law_166 (by decide) ?_
  refine lv_iadd hx hb d_Law_law_167 ?_
  refine lv_topi (fun z_1001 ez_1001 => ?_)
  obtain rfl : z_1001 = 1 := ez_1001.trans (by decide)
  refine va_sld hx hb hX hbl hbA hS (by unfold vp_in; decide) d_Law_law_168 ?_
  refine W.eq (g2 := F0 m 169 ls [.int (xs 1), .ref q_1]) rfl ?_
  refine lv_if_eq (tgt := 176) hx hb d_Law_law_169 (by decide) (fun c_1002 => ?_) (fun c_1002 => ?_)
  · refine lv_iconst (v := 0) hx hb d_Law_law_176 (by decide) ?_
    refine kVi (n := 1) (As := [.int 0]) (rest := []) (wr := [(q_7, .inr (1, [.ref q_2])), (q_35, .inr (10, [.int 0, .ref q_36, .int 0, .ref q_37, .ref q_38, .ref q_39, .int 0, .int 0, .int 0, .ref q_40, .ref q_41, .ref q_42, .ref q_43, .ref q_44, .ref q_45, .ref q_46, .int 0, .int 0, .ref q_47, .ref q_48, .ref q_49, .int 0, .int 0, .ref q_50, .ref q_51, .ref q_52, .ref q_53, .ref q_54, .ref q_55, .int (-1), .ref q_56, .ref q_57, .int 0, .ref q_58, .ref q_59, .ref q_60, .int 0, .int 0, .int 0, .ref q_61, .ref q_62, .ref q_63, .int 0, .int 0, .int 0, .int 0, .int 0, .int 0])), (q_50, .inl (aI, 501, .inl (fun _ => 0))), (q_51, .inl (aI, 501, .inl (fun _ => 0))), (q_52, .inl (aI, 501, .inl (fun _ => 0))), (q_53, .inl (aI, 501, .inl (fun _ => 0))), (q_54, .inl (aI, 501, .inl (fun _ => 0))), (q_55, .inl (aZ, 501, .inl (fun _ => 0))), (q_58, .inl (aI, 602, .inl (fun _ => 0))), (q_59, .inl (aZ, 602, .inl (fun _ => 0))), (q_60, .inl (aZ, 602, .inl (fun _ => 0)))]) X hP hD hS hA (c50_Lt_read l D aI aJ aZ _ (q_1) (q_23) (q_8) (q_17) (q_2) (q_21) (q_28) (q_24) (q_25) (q_26) (q_27) (.ref q_7) (.ref q_32) (.ref q_2) (.ref q_9) (.ref q_10) (.ref q_11) (.ref q_12) (.ref q_13) (.ref q_14) (.ref q_15) (.ref q_16) (.ref q_18) (.ref q_19) (.ref q_20) (.ref q_3) (.ref q_4) (.ref q_5) (.ref q_6) (.ref q_8) (.ref q_17) (.ref q_22) (.ref q_29) (.ref q_30) (.ref q_31) (.int 0) (.int 0) (.int 0) ((fun _ => 0)) ((fun _ => 0)) ((fun _ => 0)) ((fun _ => 0))) (kV_good t_405 t_402 t_403 t_404 t_97) rfl rfl (by decide +kernel) ⟨Nat.le_of_ble_eq_true rfl, Nat.le_of_ble_eq_true rfl⟩ hl.1 rfl rfl (Nat.le_of_ble_eq_true rfl) d_Law_law_177 ⟨Nat.le_of_ble_eq_true rfl, Nat.le_of_ble_eq_true rfl⟩ [0, 6, 3, 4, 1, 5, 11, 7, 8, 9, 10] [2, 12, 13, 14, 15, 16, 17, 18, 19, 20, 21] rfl rfl (by decide) (by decide) (by decide) 0 rfl rfl (fun r_1004 u H locs w_1003 hP hD hS => ?_)
    have hP : va_P D classes [(q_7, .inr (1, [.ref q_2])), (q_35, .inr (10, [.int 0, .ref q_36, .int 0, .ref q_37, .ref q_38, .ref q_39, .int 0, .int 0, .int 0, .ref q_40, .ref q_41, .ref q_42, .ref q_43, .ref q_44, .ref q_45, .ref q_46, .int 0, .int 0, .ref q_47, .ref q_48, .ref q_49, .int 0, .int 0, .ref q_50, .ref q_51, .ref q_52, .ref q_53, .ref q_54, .ref q_55, .int (-1), .ref q_56, .ref q_57, .int 0, .ref q_58, .ref q_59, .ref q_60, .int 0, .int 0, .int 0, .ref q_61, .ref q_62, .ref q_63, .int 0, .int 0, .int 0, .int 0, .int 0, .int 0])), (q_50, .inl (aI, 501, .inl (fun _ => 0))), (q_51, .inl (aI, 501, .inl (fun _ => 0))), (q_52, .inl (aI, 501, .inl (fun _ => 0))), (q_53, .inl (aI, 501, .inl (fun _ => 0))), (q_54, .inl (aI, 501, .inl (fun _ => 0))), (q_55, .inl (aZ, 501, .inl (fun _ => 0))), (q_58, .inl (aI, 602, .inl (fun _ => 0))), (q_59, .inl (aZ, 602, .inl (fun _ => 0))), (q_60, .inl (aZ, 602, .inl (fun _ => 0)))] H := hP
    have hD : va_D A [(q_7, .inr (1, [.ref q_2])), (q_35, .inr (10, [.int 0, .ref q_36, .int 0, .ref q_37, .ref q_38, .ref q_39, .int 0, .int 0, .int 0, .ref q_40, .ref q_41, .ref q_42, .ref q_43, .ref q_44, .ref q_45, .ref q_46, .int 0, .int 0, .ref q_47, .ref q_48, .ref q_49, .int 0, .int 0, .ref q_50, .ref q_51, .ref q_52, .ref q_53, .ref q_54, .ref q_55, .int (-1), .ref q_56, .ref q_57, .int 0, .ref q_58, .ref q_59, .ref q_60, .int 0, .int 0, .int 0, .ref q_61, .ref q_62, .ref q_63, .int 0, .int 0, .int 0, .int 0, .int 0, .int 0])), (q_50, .inl (aI, 501, .inl (fun _ => 0))), (q_51, .inl (aI, 501, .inl (fun _ => 0))), (q_52, .inl (aI, 501, .inl (fun _ => 0))), (q_53, .inl (aI, 501, .inl (fun _ => 0))), (q_54, .inl (aI, 501, .inl (fun _ => 0))), (q_55, .inl (aZ, 501, .inl (fun _ => 0))), (q_58, .inl (aI, 602, .inl (fun _ => 0))), (q_59, .inl (aZ, 602, .inl (fun _ => 0))), (q_60, .inl (aZ, 602, .inl (fun _ => 0)))] := hD
    obtain rfl : r_1004 = 2 := w_1003
    refine lv_aload_n hx hb d_Law_law_180 rfl (lv_at hl 1 rfl) ?_
    refine lv_aload_n hx hb d_Law_law_181 rfl (lv_at hl 3 rfl) ?_
    refine lv_iload_n hx hb d_Law_law_182 rfl (lv_at hl 0 rfl) ?_
    refine lv_iconst (v := 1) hx hb d_Law_law_183 (by decide) ?_
    refine lv_iadd hx hb d_Law_law_184 ?_
    refine lv_topi (fun z_1005 ez_1005 => ?_)
    obtain rfl : z_1005 = 1 := ez_1005.trans (by decide)
    refine va_sld hx hb hX hbl hbA hS (by unfold vp_in; decide) d_Law_law_185 ?_
    refine W.eq (g2 := F0 m 186 ls [.int (xs 1), .ref q_35, .int 2]) rfl ?_
    refine lv_if_eq (tgt := 193) hx hb d_Law_law_186 (by decide) (fun c_1006 => ?_) (fun c_1006 => ?_)
    · refine lv_iconst (v := 0) hx hb d_Law_law_193 (by decide) ?_
      refine kVi (n := 1) (As := [.int 0]) (rest := [.int 2]) (wr := [(q_7, .inr (1, [.ref q_2])), (q_58, .inl (aI, 602, .inl (fun _ => 0))), (q_59, .inl (aZ, 602, .inl (fun _ => 0))), (q_60, .inl (aZ, 602, .inl (fun _ => 0)))]) X hP hD hS hA (c60_Mo_read l D aI aJ aZ _ (q_35) (q_50) (q_51) (q_52) (q_53) (q_54) (q_55) (.ref q_36) (.ref q_37) (.ref q_38) (.ref q_39) (.ref q_40) (.ref q_41) (.ref q_42) (.ref q_43) (.ref q_44) (.ref q_45) (.ref q_46) (.ref q_47) (.ref q_48) (.ref q_49) (.int (-1)) (.ref q_56) (.ref q_57) (.int 0) (.ref q_58) (.ref q_59) (.ref q_60) (.int 0) (.int 0) (.int 0) (.ref q_61) (.ref q_62) (.ref q_63) (.int 0) ((fun _ => 0)) ((fun _ => 0)) ((fun _ => 0)) ((fun _ => 0)) ((fun _ => 0)) ((fun _ => 0))) (kV_good t_1145 t_1142 t_1143 t_1144 t_107) rfl rfl (by decide +kernel) ⟨Nat.le_of_ble_eq_true rfl, Nat.le_of_ble_eq_true rfl⟩ hl.1 rfl rfl (Nat.le_of_ble_eq_true rfl) d_Law_law_194 ⟨Nat.le_of_ble_eq_true rfl, Nat.le_of_ble_eq_true rfl⟩ [1, 2, 3, 4, 5, 6, 7] [0, 8, 9, 10] rfl rfl (by decide) (by decide) (by decide) 0 rfl rfl (fun r_1008 u H locs w_1007 hP hD hS => ?_)
      have hP : va_P D classes [(q_7, .inr (1, [.ref q_2])), (q_58, .inl (aI, 602, .inl (fun _ => 0))), (q_59, .inl (aZ, 602, .inl (fun _ => 0))), (q_60, .inl (aZ, 602, .inl (fun _ => 0)))] H := hP
      have hD : va_D A [(q_7, .inr (1, [.ref q_2])), (q_58, .inl (aI, 602, .inl (fun _ => 0))), (q_59, .inl (aZ, 602, .inl (fun _ => 0))), (q_60, .inl (aZ, 602, .inl (fun _ => 0)))] := hD
      obtain rfl : r_1008 = 2 := w_1007
      refine lv_icmp_eq (tgt := 456) hx hb d_Law_law_197 (by decide) (fun c_1009 => ?_) (fun c_1009 => absurd (by decide) c_1009)
      refine lv_iinc (v := 4) (lv' := [(3, .int 4), (2, .ref q_35), (1, .ref q_1), (0, .ref b)]) hx hb d_Law_law_456 hl (k := 0) rfl (by decide) (by decide) rfl (fun ls hl => ?_)
      refine lv_goto (tgt := 18) hx hb d_Law_law_459 (by decide) ?_
      refine lv_iload_n hx hb d_Law_law_18 rfl (lv_at hl 0 rfl) ?_
      refine lv_aload_n hx hb d_Law_law_19 rfl (lv_at hl 3 rfl) ?_
      refine va_slen hx hb hX hbl hbA hS d_Law_law_20 ?_
      refine lv_topi (fun z_1010 ez_1010 => ?_)
      obtain rfl : z_1010 = 4 := ez_1010.trans (by decide)
      refine lv_iconst (v := 4) hx hb d_Law_law_21 (by decide) ?_
      refine lv_isub hx hb d_Law_law_22 ?_
      refine lv_topi (fun z_1011 ez_1011 => ?_)
      obtain rfl : z_1011 = 0 := ez_1011.trans (by decide)
      refine lv_icmp_gt (tgt := 462) hx hb d_Law_law_23 (by decide) (fun c_1012 => ?_) (fun c_1012 => absurd (by decide) c_1012)
      refine lv_iconst (v := 1) hx hb d_Law_law_462 (by decide) ?_
      subst hAe; refine va_forget (fun q hq => hS.2.2 q hq) ?_
      exact lw_ret hx hb hr hlocks d_Law_law_463
    · exfalso
      first
        | contradiction
        | (simp only [Int32.lt_iff_toInt_lt, Int32.le_iff_toInt_le, kz_m1, kz_0, kz_1, kz_2, kz_3, kz_4, kz_5, kz_6, kz_7, kz_8, kz_600] at c_1002 c_1006; omega)
  · refine lv_iconst (v := 1) hx hb d_Law_law_172 (by decide) ?_
    refine lv_goto (tgt := 177) hx hb d_Law_law_173 (by decide) ?_
    refine kVi (n := 1) (As := [.int 1]) (rest := []) (wr := [(q_21, .inr (5, [.ref q_2, .ref q_8, .ref q_17, .ref q_22])), (q_24, .inl (aI, 500, .inl (fun _ => 0))), (q_25, .inl (aI, 500, .inl (fun _ => 0))), (q_26, .inl (aI, 500, .inl (fun _ => 0))), (q_27, .inl (aZ, 500, .inl (fun _ => 0))), (q_28, .inr (7, [.ref q_2, .ref q_8, .ref q_23, .ref q_29, .ref q_30, .ref q_31, .int 0, .int 0, .int 0, .int 0, .int 0, .int 0, .int 0])), (q_35, .inr (10, [.int 0, .ref q_36, .int 0, .ref q_37, .ref q_38, .ref q_39, .int 0, .int 0, .int 0, .ref q_40, .ref q_41, .ref q_42, .ref q_43, .ref q_44, .ref q_45, .ref q_46, .int 0, .int 0, .ref q_47, .ref q_48, .ref q_49, .int 0, .int 0, .ref q_50, .ref q_51, .ref q_52, .ref q_53, .ref q_54, .ref q_55, .int (-1), .ref q_56, .ref q_57, .int 0, .ref q_58, .ref q_59, .ref q_60, .int 0, .int 0, .int 0, .ref q_61, .ref q_62, .ref q_63, .int 0, .int 0, .int 0, .int 0, .int 0, .int 0])), (q_50, .inl (aI, 501, .inl (fun _ => 0))), (q_51, .inl (aI, 501, .inl (fun _ => 0))), (q_52, .inl (aI, 501, .inl (fun _ => 0))), (q_53, .inl (aI, 501, .inl (fun _ => 0))), (q_54, .inl (aI, 501, .inl (fun _ => 0))), (q_55, .inl (aZ, 501, .inl (fun _ => 0))), (q_58, .inl (aI, 602, .inl (fun _ => 0))), (q_59, .inl (aZ, 602, .inl (fun _ => 0))), (q_60, .inl (aZ, 602, .inl (fun _ => 0)))]) X hP hD hS hA (c63_Lt_read l D aI aJ aZ _ (q_1) (q_23) (q_8) (q_17) (q_7) (q_2) (.ref q_2) (.ref q_21) (.ref q_28) (.ref q_32) (.ref q_2) (.ref q_24) (.ref q_25) (.ref q_26) (.ref q_27) (.int (-1)) (.int (-1)) (.ref q_2) (.ref q_9) (.ref q_10) (.ref q_11) (.ref q_12) (.ref q_13) (.ref q_14) (.ref q_15) (.ref q_16) (.ref q_18) (.ref q_19) (.ref q_20) (.ref q_3) (.ref q_4) (.ref q_5) (.ref q_6)) (kV_good t_405 t_402 t_403 t_404 t_97) rfl rfl (by decide +kernel) ⟨Nat.le_of_ble_eq_true rfl, Nat.le_of_ble_eq_true rfl⟩ hl.1 rfl rfl (Nat.le_of_ble_eq_true rfl) d_Law_law_177 ⟨Nat.le_of_ble_eq_true rfl, Nat.le_of_ble_eq_true rfl⟩ [0, 6, 3, 4, 2, 1] [5, 7, 8, 9, 10, 11, 12, 13, 14, 15, 16, 17, 18, 19, 20, 21] rfl rfl (by decide) (by decide) (by decide) 0 rfl rfl (fun r_1014 u H locs w_1013 hP hD hS => ?_)
    have hP : va_P D classes [(q_21, .inr (5, [.ref q_2, .ref q_8, .ref q_17, .ref q_22])), (q_24, .inl (aI, 500, .inl (fun _ => 0))), (q_25, .inl (aI, 500, .inl (fun _ => 0))), (q_26, .inl (aI, 500, .inl (fun _ => 0))), (q_27, .inl (aZ, 500, .inl (fun _ => 0))), (q_28, .inr (7, [.ref q_2, .ref q_8, .ref q_23, .ref q_29, .ref q_30, .ref q_31, .int 0, .int 0, .int 0, .int 0, .int 0, .int 0, .int 0])), (q_35, .inr (10, [.int 0, .ref q_36, .int 0, .ref q_37, .ref q_38, .ref q_39, .int 0, .int 0, .int 0, .ref q_40, .ref q_41, .ref q_42, .ref q_43, .ref q_44, .ref q_45, .ref q_46, .int 0, .int 0, .ref q_47, .ref q_48, .ref q_49, .int 0, .int 0, .ref q_50, .ref q_51, .ref q_52, .ref q_53, .ref q_54, .ref q_55, .int (-1), .ref q_56, .ref q_57, .int 0, .ref q_58, .ref q_59, .ref q_60, .int 0, .int 0, .int 0, .ref q_61, .ref q_62, .ref q_63, .int 0, .int 0, .int 0, .int 0, .int 0, .int 0])), (q_50, .inl (aI, 501, .inl (fun _ => 0))), (q_51, .inl (aI, 501, .inl (fun _ => 0))), (q_52, .inl (aI, 501, .inl (fun _ => 0))), (q_53, .inl (aI, 501, .inl (fun _ => 0))), (q_54, .inl (aI, 501, .inl (fun _ => 0))), (q_55, .inl (aZ, 501, .inl (fun _ => 0))), (q_58, .inl (aI, 602, .inl (fun _ => 0))), (q_59, .inl (aZ, 602, .inl (fun _ => 0))), (q_60, .inl (aZ, 602, .inl (fun _ => 0)))] H := hP
    have hD : va_D A [(q_21, .inr (5, [.ref q_2, .ref q_8, .ref q_17, .ref q_22])), (q_24, .inl (aI, 500, .inl (fun _ => 0))), (q_25, .inl (aI, 500, .inl (fun _ => 0))), (q_26, .inl (aI, 500, .inl (fun _ => 0))), (q_27, .inl (aZ, 500, .inl (fun _ => 0))), (q_28, .inr (7, [.ref q_2, .ref q_8, .ref q_23, .ref q_29, .ref q_30, .ref q_31, .int 0, .int 0, .int 0, .int 0, .int 0, .int 0, .int 0])), (q_35, .inr (10, [.int 0, .ref q_36, .int 0, .ref q_37, .ref q_38, .ref q_39, .int 0, .int 0, .int 0, .ref q_40, .ref q_41, .ref q_42, .ref q_43, .ref q_44, .ref q_45, .ref q_46, .int 0, .int 0, .ref q_47, .ref q_48, .ref q_49, .int 0, .int 0, .ref q_50, .ref q_51, .ref q_52, .ref q_53, .ref q_54, .ref q_55, .int (-1), .ref q_56, .ref q_57, .int 0, .ref q_58, .ref q_59, .ref q_60, .int 0, .int 0, .int 0, .ref q_61, .ref q_62, .ref q_63, .int 0, .int 0, .int 0, .int 0, .int 0, .int 0])), (q_50, .inl (aI, 501, .inl (fun _ => 0))), (q_51, .inl (aI, 501, .inl (fun _ => 0))), (q_52, .inl (aI, 501, .inl (fun _ => 0))), (q_53, .inl (aI, 501, .inl (fun _ => 0))), (q_54, .inl (aI, 501, .inl (fun _ => 0))), (q_55, .inl (aZ, 501, .inl (fun _ => 0))), (q_58, .inl (aI, 602, .inl (fun _ => 0))), (q_59, .inl (aZ, 602, .inl (fun _ => 0))), (q_60, .inl (aZ, 602, .inl (fun _ => 0)))] := hD
    obtain rfl : r_1014 = (-2) := w_1013
    refine lv_aload_n hx hb d_Law_law_180 rfl (lv_at hl 1 rfl) ?_
    refine lv_aload_n hx hb d_Law_law_181 rfl (lv_at hl 3 rfl) ?_
    refine lv_iload_n hx hb d_Law_law_182 rfl (lv_at hl 0 rfl) ?_
    refine lv_iconst (v := 1) hx hb d_Law_law_183 (by decide) ?_
    refine lv_iadd hx hb d_Law_law_184 ?_
    refine lv_topi (fun z_1015 ez_1015 => ?_)
    obtain rfl : z_1015 = 1 := ez_1015.trans (by decide)
    refine va_sld hx hb hX hbl hbA hS (by unfold vp_in; decide) d_Law_law_185 ?_
    refine W.eq (g2 := F0 m 186 ls [.int (xs 1), .ref q_35, .int (-2)]) rfl ?_
    refine lv_if_eq (tgt := 193) hx hb d_Law_law_186 (by decide) (fun c_1016 => ?_) (fun c_1016 => ?_)
    · exfalso
      first
        | contradiction
        | (simp only [Int32.lt_iff_toInt_lt, Int32.le_iff_toInt_le, kz_m1, kz_0, kz_1, kz_2, kz_3, kz_4, kz_5, kz_6, kz_7, kz_8, kz_600] at c_1002 c_1016; omega)
    · refine lv_iconst (v := 1) hx hb d_Law_law_189 (by decide) ?_
      refine lv_goto (tgt := 194) hx hb d_Law_law_190 (by decide) ?_
      refine kVi (n := 1) (As := [.int 1]) (rest := [.int (-2)]) (wr := [(q_21, .inr (5, [.ref q_2, .ref q_8, .ref q_17, .ref q_22])), (q_24, .inl (aI, 500, .inl (fun _ => 0))), (q_25, .inl (aI, 500, .inl (fun _ => 0))), (q_26, .inl (aI, 500, .inl (fun _ => 0))), (q_27, .inl (aZ, 500, .inl (fun _ => 0))), (q_28, .inr (7, [.ref q_2, .ref q_8, .ref q_23, .ref q_29, .ref q_30, .ref q_31, .int 0, .int 0, .int 0, .int 0, .int 0, .int 0, .int 0])), (q_50, .inl (aI, 501, .inl (fun _ => 0))), (q_51, .inl (aI, 501, .inl (fun _ => 0))), (q_52, .inl (aI, 501, .inl (fun _ => 0))), (q_53, .inl (aI, 501, .inl (fun _ => 0))), (q_54, .inl (aI, 501, .inl (fun _ => 0))), (q_55, .inl (aZ, 501, .inl (fun _ => 0)))]) X hP hD hS hA (c66_Mo_read l D aI aJ aZ _ (q_35) (q_59) (q_60) (q_58) (.ref q_36) (.ref q_37) (.ref q_38) (.ref q_39) (.ref q_40) (.ref q_41) (.ref q_42) (.ref q_43) (.ref q_44) (.ref q_45) (.ref q_46) (.ref q_47) (.ref q_48) (.ref q_49) (.ref q_50) (.ref q_51) (.ref q_52) (.ref q_53) (.ref q_54) (.ref q_55) (.int (-1)) (.ref q_56) (.ref q_57) (.int 0) (.int 0) (.int 0) (.int 0) (.ref q_61) (.ref q_62) (.ref q_63) (.int 0) (.int 0) (.int 0) (.int 0) (.int 0) (.int 0) ((fun _ => 0)) ((fun _ => 0)) ((fun _ => 0))) (kV_good t_1145 t_1142 t_1143 t_1144 t_107) rfl rfl (by decide +kernel) ⟨Nat.le_of_ble_eq_true rfl, Nat.le_of_ble_eq_true rfl⟩ hl.1 rfl rfl (Nat.le_of_ble_eq_true rfl) d_Law_law_194 ⟨Nat.le_of_ble_eq_true rfl, Nat.le_of_ble_eq_true rfl⟩ [6, 14, 15, 13] [0, 1, 2, 3, 4, 5, 7, 8, 9, 10, 11, 12] rfl rfl (by decide) (by decide) (by decide) 0 rfl rfl (fun r_1018 u H locs w_1017 hP hD hS => ?_)
      have hP : va_P D classes [(q_21, .inr (5, [.ref q_2, .ref q_8, .ref q_17, .ref q_22])), (q_24, .inl (aI, 500, .inl (fun _ => 0))), (q_25, .inl (aI, 500, .inl (fun _ => 0))), (q_26, .inl (aI, 500, .inl (fun _ => 0))), (q_27, .inl (aZ, 500, .inl (fun _ => 0))), (q_28, .inr (7, [.ref q_2, .ref q_8, .ref q_23, .ref q_29, .ref q_30, .ref q_31, .int 0, .int 0, .int 0, .int 0, .int 0, .int 0, .int 0])), (q_50, .inl (aI, 501, .inl (fun _ => 0))), (q_51, .inl (aI, 501, .inl (fun _ => 0))), (q_52, .inl (aI, 501, .inl (fun _ => 0))), (q_53, .inl (aI, 501, .inl (fun _ => 0))), (q_54, .inl (aI, 501, .inl (fun _ => 0))), (q_55, .inl (aZ, 501, .inl (fun _ => 0)))] H := hP
      have hD : va_D A [(q_21, .inr (5, [.ref q_2, .ref q_8, .ref q_17, .ref q_22])), (q_24, .inl (aI, 500, .inl (fun _ => 0))), (q_25, .inl (aI, 500, .inl (fun _ => 0))), (q_26, .inl (aI, 500, .inl (fun _ => 0))), (q_27, .inl (aZ, 500, .inl (fun _ => 0))), (q_28, .inr (7, [.ref q_2, .ref q_8, .ref q_23, .ref q_29, .ref q_30, .ref q_31, .int 0, .int 0, .int 0, .int 0, .int 0, .int 0, .int 0])), (q_50, .inl (aI, 501, .inl (fun _ => 0))), (q_51, .inl (aI, 501, .inl (fun _ => 0))), (q_52, .inl (aI, 501, .inl (fun _ => 0))), (q_53, .inl (aI, 501, .inl (fun _ => 0))), (q_54, .inl (aI, 501, .inl (fun _ => 0))), (q_55, .inl (aZ, 501, .inl (fun _ => 0)))] := hD
      obtain rfl : r_1018 = (-2) := w_1017
      refine lv_icmp_eq (tgt := 456) hx hb d_Law_law_197 (by decide) (fun c_1019 => ?_) (fun c_1019 => absurd (by decide) c_1019)
      refine lv_iinc (v := 4) (lv' := [(3, .int 4), (2, .ref q_35), (1, .ref q_1), (0, .ref b)]) hx hb d_Law_law_456 hl (k := 0) rfl (by decide) (by decide) rfl (fun ls hl => ?_)
      refine lv_goto (tgt := 18) hx hb d_Law_law_459 (by decide) ?_
      refine lv_iload_n hx hb d_Law_law_18 rfl (lv_at hl 0 rfl) ?_
      refine lv_aload_n hx hb d_Law_law_19 rfl (lv_at hl 3 rfl) ?_
      refine va_slen hx hb hX hbl hbA hS d_Law_law_20 ?_
      refine lv_topi (fun z_1020 ez_1020 => ?_)
      obtain rfl : z_1020 = 4 := ez_1020.trans (by decide)
      refine lv_iconst (v := 4) hx hb d_Law_law_21 (by decide) ?_
      refine lv_isub hx hb d_Law_law_22 ?_
      refine lv_topi (fun z_1021 ez_1021 => ?_)
      obtain rfl : z_1021 = 0 := ez_1021.trans (by decide)
      refine lv_icmp_gt (tgt := 462) hx hb d_Law_law_23 (by decide) (fun c_1022 => ?_) (fun c_1022 => absurd (by decide) c_1022)
      refine lv_iconst (v := 1) hx hb d_Law_law_462 (by decide) ?_
      subst hAe; refine va_forget (fun q hq => hS.2.2 q hq) ?_
      exact lw_ret hx hb hr hlocks d_Law_law_463
