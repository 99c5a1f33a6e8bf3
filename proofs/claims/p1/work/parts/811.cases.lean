set_option maxHeartbeats 4000000 in
set_option maxRecDepth 100000 in
theorem law_case_2 {p : Program} {l : Launch} {e : Env} {s : State} {m : MethodId} {below : List Frame} {meth : Method} {c : Code} {b : Nat} {xs : Nat → Int32} {D : va_G} {aI aJ aZ : ClassId} (X : kX p s m #[Value.ref b] c code 4 "LayoutTokensLaw" D (kT aI aJ aZ)) (hr : meth.sig.returnType = ret) (hlocks : meth.locks = false) (hX : va_X b 4 xs s s.heap) (hbl : b < s.heap.size) {q_1 q_2 q_7 q_8 q_17 q_21 q_23 q_28 q_32 q_24 q_25 q_26 q_27 q_35 q_36 q_37 q_38 q_39 q_40 q_41 q_42 q_43 q_44 q_45 q_46 q_47 q_48 q_49 q_50 q_51 q_52 q_53 q_54 q_55 q_56 q_57 q_58 q_59 q_60 q_61 q_62 q_63 : Nat} {A : Nat → Prop} (hAe : A = fun q : Nat => s.heap.size ≤ q) {H : Heap} {locs : List Loc} (hP : va_P D classes [(q_1, .inr (9, [.ref q_2, .ref q_7, .ref q_8, .ref q_17, .ref q_21, .ref q_23, .ref q_28, .ref q_32, .int 0])), (q_23, .inr (6, [.ref q_2, .ref q_24, .ref q_25, .ref q_26, .ref q_27, .int 0, .int 0, .int 0, .int (-1), .int (-1)])), (q_35, .inr (10, [.int 0, .ref q_36, .int 0, .ref q_37, .ref q_38, .ref q_39, .int 0, .int 0, .int 0, .ref q_40, .ref q_41, .ref q_42, .ref q_43, .ref q_44, .ref q_45, .ref q_46, .int 0, .int 0, .ref q_47, .ref q_48, .ref q_49, .int 0, .int 0, .ref q_50, .ref q_51, .ref q_52, .ref q_53, .ref q_54, .ref q_55, .int (-1), .ref q_56, .ref q_57, .int 0, .ref q_58, .ref q_59, .ref q_60, .int 0, .int 0, .int 0, .ref q_61, .ref q_62, .ref q_63, .int 0, .int 0, .int 0, .int 0, .int 0, .int 0]))] H) (hD : va_D A [(q_1, .inr (9, [.ref q_2, .ref q_7, .ref q_8, .ref q_17, .ref q_21, .ref q_23, .ref q_28, .ref q_32, .int 0])), (q_23, .inr (6, [.ref q_2, .ref q_24, .ref q_25, .ref q_26, .ref q_27, .int 0, .int 0, .int 0, .int (-1), .int (-1)])), (q_35, .inr (10, [.int 0, .ref q_36, .int 0, .ref q_37, .ref q_38, .ref q_39, .int 0, .int 0, .int 0, .ref q_40, .ref q_41, .ref q_42, .ref q_43, .ref q_44, .ref q_45, .ref q_46, .int 0, .int 0, .ref q_47, .ref q_48, .ref q_49, .int 0, .int 0, .ref q_50, .ref q_51, .ref q_52, .ref q_53, .ref q_54, .ref q_55, .int (-1), .ref q_56, .ref q_57, .int 0, .ref q_58, .ref q_59, .ref q_60, .int 0, .int 0, .int 0, .ref q_61, .ref q_62, .ref q_63, .int 0, .int 0, .int 0, .int 0, .int 0, .int 0]))]) (hS : va_S A s.heap H locs) {ls : Array Slot} (hl : lv_has ls 4 [(3, .int 0), (2, .ref q_35), (1, .ref q_1), (0, .ref b)]) : W p l e room_1 s m #[Value.ref b] below meth c H locs 62 33204 (lw_Z below #[Value.ref b] s) (F0 m 202 ls []) := by
  have hx := X.1.1
  have hb := X.1.2.1
  have hown := X.1.2.2.2.1
  have hk := X.1.2.2.2.2
  have hA : ∀ q : Nat, s.heap.size ≤ q → A q := by rw [hAe]; exact fun _ h => h
  have hbA : ¬ A b := by rw [hAe]; exact Nat.not_le.mpr hbl
  refine lv_aload_n hx hb d_Law_law_202 rfl (lv_at hl 2 rfl) ?_
  refine lv_aload_n hx hb d_Law_law_203 rfl (lv_at hl 3 rfl) ?_
  refine lv_iload_n hx hb d_Law_law_204 rfl (lv_at hl 0 rfl) ?_
  refine lv_iconst (v := 1) hx hb d_Law_law_205 (by decide) ?_
  refine lv_iadd hx hb d_Law_law_206 ?_
  refine lv_topi (fun z_1001 ez_1001 => ?_)
  obtain rfl : z_1001 = 1 := ez_1001.trans (by decide)
  refine va_sld hx hb hX hbl hbA hS (by unfold vp_in; decide) d_Law_law_207 ?_
  refine W.eq (g2 := F0 m 208 ls [.int (xs 1), .ref q_1]) rfl ?_
  refine lv_aload_n hx hb d_Law_law_208 rfl (lv_at hl 3 rfl) ?_
  refine lv_iload_n hx hb d_Law_law_209 rfl (lv_at hl 0 rfl) ?_
  refine lv_iconst (v := 2) hx hb d_Law_law_210 (by decide) ?_
  refine lv_iadd hx hb d_Law_law_211 ?_
  refine lv_topi (fun z_1002 ez_1002 => ?_)
  obtain rfl : z_1002 = 2 := ez_1002.trans (by decide)
  refine va_sld hx hb hX hbl hbA hS (by unfold vp_in; decide) d_Law_law_212 ?_
  refine W.eq (g2 := F0 m 213 ls [.int (xs 2), .int (xs 1), .ref q_1]) rfl ?_
  refine kVi (n := 2) (As := [.int (xs 1), .int (xs 2)]) (rest := []) (wr := [(q_35, .inr (10, [.int 0, .ref q_36, .int 0, .ref q_37, .ref q_38, .ref q_39, .int 0, .int 0, .int 0, .ref q_40, .ref q_41, .ref q_42, .ref q_43, .ref q_44, .ref q_45, .ref q_46, .int 0, .int 0, .ref q_47, .ref q_48, .ref q_49, .int 0, .int 0, .ref q_50, .ref q_51, .ref q_52, .ref q_53, .ref q_54, .ref q_55, .int (-1), .ref q_56, .ref q_57, .int 0, .ref q_58, .ref q_59, .ref q_60, .int 0, .int 0, .int 0, .ref q_61, .ref q_62, .ref q_63, .int 0, .int 0, .int 0, .int 0, .int 0, .int 0]))]) X hP hD hS hA (c68_Lt_token l D aI aJ aZ _ (q_1) (q_23) ((xs 1)) ((xs 2)) (.ref q_2) (.ref q_7) (.ref q_8) (.ref q_17) (.ref q_21) (.ref q_28) (.ref q_32) (.int 0) (.ref q_2) (.ref q_24) (.ref q_25) (.ref q_26) (.ref q_27) (.int 0) (.int 0) (.int (-1)) (.int (-1))) (kV_good t_825 t_822 t_823 t_824 t_97) rfl rfl (by decide +kernel) ⟨Nat.le_of_ble_eq_true rfl, Nat.le_of_ble_eq_true rfl⟩ hl.1 rfl rfl (Nat.le_of_ble_eq_true rfl) d_Law_law_213 ⟨Nat.le_of_ble_eq_true rfl, Nat.le_of_ble_eq_true rfl⟩ [0, 1] [2] rfl rfl (by decide) (by decide) (by decide) 0 rfl rfl (fun r_1004 u H locs w_1003 hP hD hS => ?_)
  have hP : va_P D classes [(q_35, .inr (10, [.int 0, .ref q_36, .int 0, .ref q_37, .ref q_38, .ref q_39, .int 0, .int 0, .int 0, .ref q_40, .ref q_41, .ref q_42, .ref q_43, .ref q_44, .ref q_45, .ref q_46, .int 0, .int 0, .ref q_47, .ref q_48, .ref q_49, .int 0, .int 0, .ref q_50, .ref q_51, .ref q_52, .ref q_53, .ref q_54, .ref q_55, .int (-1), .ref q_56, .ref q_57, .int 0, .ref q_58, .ref q_59, .ref q_60, .int 0, .int 0, .int 0, .ref q_61, .ref q_62, .ref q_63, .int 0, .int 0, .int 0, .int 0, .int 0, .int 0]))] H := hP
  have hD : va_D A [(q_35, .inr (10, [.int 0, .ref q_36, .int 0, .ref q_37, .ref q_38, .ref q_39, .int 0, .int 0, .int 0, .ref q_40, .ref q_41, .ref q_42, .ref q_43, .ref q_44, .ref q_45, .ref q_46, .int 0, .int 0, .ref q_47, .ref q_48, .ref q_49, .int 0, .int 0, .ref q_50, .ref q_51, .ref q_52, .ref q_53, .ref q_54, .ref q_55, .int (-1), .ref q_56, .ref q_57, .int 0, .ref q_58, .ref q_59, .ref q_60, .int 0, .int 0, .int 0, .ref q_61, .ref q_62, .ref q_63, .int 0, .int 0, .int 0, .int 0, .int 0, .int 0]))] := hD
  obtain rfl : r_1004 = (-1) := w_1003
  refine lv_aload_n hx hb d_Law_law_216 rfl (lv_at hl 1 rfl) ?_
  refine lv_aload_n hx hb d_Law_law_217 rfl (lv_at hl 3 rfl) ?_
  refine lv_iload_n hx hb d_Law_law_218 rfl (lv_at hl 0 rfl) ?_
  refine lv_iconst (v := 1) hx hb d_Law_law_219 (by decide) ?_
  refine lv_iadd hx hb d_Law_law_220 ?_
  refine lv_topi (fun z_1005 ez_1005 => ?_)
  obtain rfl : z_1005 = 1 := ez_1005.trans (by decide)
  refine va_sld hx hb hX hbl hbA hS (by unfold vp_in; decide) d_Law_law_221 ?_
  refine W.eq (g2 := F0 m 222 ls [.int (xs 1), .ref q_35, .int (-1)]) rfl ?_
  refine lv_aload_n hx hb d_Law_law_222 rfl (lv_at hl 3 rfl) ?_
  refine lv_iload_n hx hb d_Law_law_223 rfl (lv_at hl 0 rfl) ?_
  refine lv_iconst (v := 2) hx hb d_Law_law_224 (by decide) ?_
  refine lv_iadd hx hb d_Law_law_225 ?_
  refine lv_topi (fun z_1006 ez_1006 => ?_)
  obtain rfl : z_1006 = 2 := ez_1006.trans (by decide)
  refine va_sld hx hb hX hbl hbA hS (by unfold vp_in; decide) d_Law_law_226 ?_
  refine W.eq (g2 := F0 m 227 ls [.int (xs 2), .int (xs 1), .ref q_35, .int (-1)]) rfl ?_
  refine kVi (n := 2) (As := [.int (xs 1), .int (xs 2)]) (rest := [.int (-1)]) (wr := []) X hP hD hS hA (c70_Mo_token l D aI aJ aZ _ (q_35) ((xs 1)) ((xs 2)) (.ref q_36) (.int 0) (.ref q_37) (.ref q_38) (.ref q_39) (.int 0) (.int 0) (.int 0) (.ref q_40) (.ref q_41) (.ref q_42) (.ref q_43) (.ref q_44) (.ref q_45) (.ref q_46) (.int 0) (.int 0) (.ref q_47) (.ref q_48) (.ref q_49) (.int 0) (.ref q_50) (.ref q_51) (.ref q_52) (.ref q_53) (.ref q_54) (.ref q_55) (.int (-1)) (.ref q_56) (.ref q_57) (.int 0) (.ref q_58) (.ref q_59) (.ref q_60) (.int 0) (.int 0) (.int 0) (.ref q_61) (.ref q_62) (.ref q_63) (.int 0) (.int 0) (.int 0) (.int 0) (.int 0) (.int 0)) (kV_good t_1373 t_1370 t_1371 t_1372 t_107) rfl rfl (by decide +kernel) ⟨Nat.le_of_ble_eq_true rfl, Nat.le_of_ble_eq_true rfl⟩ hl.1 rfl rfl (Nat.le_of_ble_eq_true rfl) d_Law_law_227 ⟨Nat.le_of_ble_eq_true rfl, Nat.le_of_ble_eq_true rfl⟩ [0] [] rfl rfl (by decide) (by decide) (by decide) 0 rfl rfl (fun r_1008 u H locs w_1007 hP hD hS => ?_)
  have hP : va_P D classes [] H := hP
  have hD : va_D A [] := hD
  obtain rfl : r_1008 = (-1) := w_1007
  refine lv_icmp_eq (tgt := 456) hx hb d_Law_law_230 (by decide) (fun c_1009 => ?_) (fun c_1009 => absurd (by decide) c_1009)
  refine lv_iinc (v := 4) (lv' := [(3, .int 4), (2, .ref q_35), (1, .ref q_1), (0, .ref b)]) hx hb d_Law_law_456 hl (k := 0) rfl (by decide) (by decide) rfl (fun ls hl => ?_)
  refine lv_goto (tgt := 18) hx hb d_Law_law_459 (by decide) ?_
  refine lv_iload_n hx hb d_Law_law_18 rfl (lv_at hl 0 rfl) ?_
  refine lv_aload_n hx hb d_Law_law_19 rfl (lv_at hl 3 rfl) ?_
  refine va_slen hx hb hX hbl hbA hS d_Law_law_20 ?_
  refine lv_topi (fun z_1010 ez_1010 => ?_)
  obtain rfl : z_1010 = 4 := ez_1010.trans (by decide)
  refine lv_iconst (v := 4) hx hb d_Law_law_21 (by decide) ?_
  refine lv_isub hx hb d_Law_law_22 ?_
  refine lv_topi (fun z_1011 ez_1011 => ?_)
  obtain rfl : z_1011 = 0 := ez_1011.trans (by decide)
  refine lv_icmp_gt (tgt := 462) hx hb d_Law_law_23 (by decide) (fun c_1012 => ?_) (fun c_1012 => absurd (by decide) c_1012)
  refine lv_iconst (v := 1) hx hb d_Law_law_462 (by decide) ?_
  subst hAe; refine va_forget (fun q hq => hS.2.2 q hq) ?_
  exact lw_ret hx hb hr hlocks d_Law_law_463
set_option maxHeartbeats 4000000 in
set_option maxRecDepth 100000 in
theorem law_case_3 {p : Program} {l : Launch} {e : Env} {s : State} {m : MethodId} {below : List Frame} {meth : Method} {c : Code} {b : Nat} {xs : Nat → Int32} {D : va_G} {aI aJ aZ : ClassId} (X : kX p s m #[Value.ref b] c code 4 "LayoutTokensLaw" D (kT aI aJ aZ)) (hr : meth.sig.returnType = ret) (hlocks : meth.locks = false) (hX : va_X b 4 xs s s.heap) (hbl : b < s.heap.size) {q_1 q_2 q_7 q_8 q_17 q_21 q_23 q_28 q_32 q_9 q_10 q_11 q_12 q_13 q_14 q_15 q_16 q_24 q_25 q_26 q_27 q_35 q_36 q_37 q_38 q_39 q_40 q_41 q_42 q_43 q_44 q_45 q_46 q_47 q_48 q_49 q_50 q_51 q_52 q_53 q_54 q_55 q_56 q_57 q_58 q_59 q_60 q_61 q_62 q_63 : Nat} {A : Nat → Prop} (hAe : A = fun q : Nat => s.heap.size ≤ q) {H : Heap} {locs : List Loc} (hP : va_P D classes [(q_1, .inr (9, [.ref q_2, .ref q_7, .ref q_8, .ref q_17, .ref q_21, .ref q_23, .ref q_28, .ref q_32, .int 0])), (q_8, .inr (2, [.ref q_2, .ref q_9, .ref q_10, .ref q_11, .ref q_12, .ref q_13, .ref q_14, .ref q_15, .ref q_16, .int 0, .int 0])), (q_23, .inr (6, [.ref q_2, .ref q_24, .ref q_25, .ref q_26, .ref q_27, .int 0, .int 0, .int 0, .int (-1), .int (-1)])), (q_35, .inr (10, [.int 0, .ref q_36, .int 0, .ref q_37, .ref q_38, .ref q_39, .int 0, .int 0, .int 0, .ref q_40, .ref q_41, .ref q_42, .ref q_43, .ref q_44, .ref q_45, .ref q_46, .int 0, .int 0, .ref q_47, .ref q_48, .ref q_49, .int 0, .int 0, .ref q_50, .ref q_51, .ref q_52, .ref q_53, .ref q_54, .ref q_55, .int (-1), .ref q_56, .ref q_57, .int 0, .ref q_58, .ref q_59, .ref q_60, .int 0, .int 0, .int 0, .ref q_61, .ref q_62, .ref q_63, .int 0, .int 0, .int 0, .int 0, .int 0, .int 0]))] H) (hD : va_D A [(q_1, .inr (9, [.ref q_2, .ref q_7, .ref q_8, .ref q_17, .ref q_21, .ref q_23, .ref q_28, .ref q_32, .int 0])), (q_8, .inr (2, [.ref q_2, .ref q_9, .ref q_10, .ref q_11, .ref q_12, .ref q_13, .ref q_14, .ref q_15, .ref q_16, .int 0, .int 0])), (q_23, .inr (6, [.ref q_2, .ref q_24, .ref q_25, .ref q_26, .ref q_27, .int 0, .int 0, .int 0, .int (-1), .int (-1)])), (q_35, .inr (10, [.int 0, .ref q_36, .int 0, .ref q_37, .ref q_38, .ref q_39, .int 0, .int 0, .int 0, .ref q_40, .ref q_41, .ref q_42, .ref q_43, .ref q_44, .ref q_45, .ref q_46, .int 0, .int 0, .ref q_47, .ref q_48, .ref q_49, .int 0, .int 0, .ref q_50, .ref q_51, .ref q_52, .ref q_53, .ref q_54, .ref q_55, .int (-1), .ref q_56, .ref q_57, .int 0, .ref q_58, .ref q_59, .ref q_60, .int 0, .int 0, .int 0, .ref q_61, .ref q_62, .ref q_63, .int 0, .int 0, .int 0, .int 0, .int 0, .int 0]))]) (hS : va_S A s.heap H locs) {ls : Array Slot} (hl : lv_has ls 4 [(3, .int 0), (2, .ref q_35), (1, .ref q_1), (0, .ref b)]) : W p l e room_1 s m #[Value.ref b] below meth c H locs 62 33204 (lw_Z below #[Value.ref b] s) (F0 m 235 ls []) := by
  have hx := X.1.1
  have hb := X.1.2.1
  have hown := X.1.2.2.2.1
  have hk := X.1.2.2.2.2
  have hA : ∀ q : Nat, s.heap.size ≤ q → A q := by rw [hAe]; exact fun _ h => h
  have hbA : ¬ A b := by rw [hAe]; exact Nat.not_le.mpr hbl
  refine lv_aload_n hx hb d_Law_law_235 rfl (lv_at hl 2 rfl) ?_
  refine lv_aload_n hx hb d_Law_law_236 rfl (lv_at hl 3 rfl) ?_
  refine lv_iload_n hx hb d_Law_law_237 rfl (lv_at hl 0 rfl) ?_
  refine lv_iconst (v := 1) hx hb d_Law_law_238 (by decide) ?_
  refine lv_iadd hx hb d_Law_law_239 ?_
  refine lv_topi (fun z_1001 ez_1001 => ?_)
  obtain rfl : z_1001 = 1 := ez_1001.trans (by decide)
  refine va_sld hx hb hX hbl hbA hS (by unfold vp_in; decide) d_Law_law_240 ?_
  refine W.eq (g2 := F0 m 241 ls [.int (xs 1), .ref q_1]) rfl ?_
  refine lv_aload_n hx hb d_Law_law_241 rfl (lv_at hl 3 rfl) ?_
  refine lv_iload_n hx hb d_Law_law_242 rfl (lv_at hl 0 rfl) ?_
  refine lv_iconst (v := 2) hx hb d_Law_law_243 (by decide) ?_
  refine lv_iadd hx hb d_Law_law_244 ?_
  refine lv_topi (fun z_1002 ez_1002 => ?_)
  obtain rfl : z_1002 = 2 := ez_1002.trans (by decide)
  refine va_sld hx hb hX hbl hbA hS (by unfold vp_in; decide) d_Law_law_245 ?_
  refine W.eq (g2 := F0 m 246 ls [.int (xs 2), .int (xs 1), .ref q_1]) rfl ?_
  refine kVi (n := 2) (As := [.int (xs 1), .int (xs 2)]) (rest := []) (wr := [(q_35, .inr (10, [.int 0, .ref q_36, .int 0, .ref q_37, .ref q_38, .ref q_39, .int 0, .int 0, .int 0, .ref q_40, .ref q_41, .ref q_42, .ref q_43, .ref q_44, .ref q_45, .ref q_46, .int 0, .int 0, .ref q_47, .ref q_48, .ref q_49, .int 0, .int 0, .ref q_50, .ref q_51, .ref q_52, .ref q_53, .ref q_54, .ref q_55, .int (-1), .ref q_56, .ref q_57, .int 0, .ref q_58, .ref q_59, .ref q_60, .int 0, .int 0, .int 0, .ref q_61, .ref q_62, .ref q_63, .int 0, .int 0, .int 0, .int 0, .int 0, .int 0]))]) X hP hD hS hA (c74_Lt_sign l D aI aJ aZ _ (q_1) (q_23) (q_8) ((xs 1)) ((xs 2)) (.ref q_2) (.ref q_7) (.ref q_17) (.ref q_21) (.ref q_28) (.ref q_32) (.int 0) (.ref q_2) (.ref q_24) (.ref q_25) (.ref q_26) (.ref q_27) (.int 0) (.int 0) (.int (-1)) (.int (-1)) (.ref q_2) (.ref q_9) (.ref q_10) (.ref q_11) (.ref q_12) (.ref q_13) (.ref q_14) (.ref q_15) (.ref q_16) (.int 0) (.int 0)) (kV_good t_865 t_862 t_863 t_864 t_97) rfl rfl (by decide +kernel) ⟨Nat.le_of_ble_eq_true rfl, Nat.le_of_ble_eq_true rfl⟩ hl.1 rfl rfl (Nat.le_of_ble_eq_true rfl) d_Law_law_246 ⟨Nat.le_of_ble_eq_true rfl, Nat.le_of_ble_eq_true rfl⟩ [0, 2, 1] [3] rfl rfl (by decide) (by decide) (by decide) 0 rfl rfl (fun r_1004 u H locs w_1003 hP hD hS => ?_)
  have hP : va_P D classes [(q_35, .inr (10, [.int 0, .ref q_36, .int 0, .ref q_37, .ref q_38, .ref q_39, .int 0, .int 0, .int 0, .ref q_40, .ref q_41, .ref q_42, .ref q_43, .ref q_44, .ref q_45, .ref q_46, .int 0, .int 0, .ref q_47, .ref q_48, .ref q_49, .int 0, .int 0, .ref q_50, .ref q_51, .ref q_52, .ref q_53, .ref q_54, .ref q_55, .int (-1), .ref q_56, .ref q_57, .int 0, .ref q_58, .ref q_59, .ref q_60, .int 0, .int 0, .int 0, .ref q_61, .ref q_62, .ref q_63, .int 0, .int 0, .int 0, .int 0, .int 0, .int 0]))] H := hP
  have hD : va_D A [(q_35, .inr (10, [.int 0, .ref q_36, .int 0, .ref q_37, .ref q_38, .ref q_39, .int 0, .int 0, .int 0, .ref q_40, .ref q_41, .ref q_42, .ref q_43, .ref q_44, .ref q_45, .ref q_46, .int 0, .int 0, .ref q_47, .ref q_48, .ref q_49, .int 0, .int 0, .ref q_50, .ref q_51, .ref q_52, .ref q_53, .ref q_54, .ref q_55, .int (-1), .ref q_56, .ref q_57, .int 0, .ref q_58, .ref q_59, .ref q_60, .int 0, .int 0, .int 0, .ref q_61, .ref q_62, .ref q_63, .int 0, .int 0, .int 0, .int 0, .int 0, .int 0]))] := hD
  obtain rfl : r_1004 = (-1) := w_1003
  refine lv_aload_n hx hb d_Law_law_249 rfl (lv_at hl 1 rfl) ?_
  refine lv_aload_n hx hb d_Law_law_250 rfl (lv_at hl 3 rfl) ?_
  refine lv_iload_n hx hb d_Law_law_251 rfl (lv_at hl 0 rfl) ?_
  refine lv_iconst (v := 1) hx hb d_Law_law_252 (by decide) ?_
  refine lv_iadd hx hb d_Law_law_253 ?_
  refine lv_topi (fun z_1005 ez_1005 => ?_)
  obtain rfl : z_1005 = 1 := ez_1005.trans (by decide)
  refine va_sld hx hb hX hbl hbA hS (by unfold vp_in; decide) d_Law_law_254 ?_
  refine W.eq (g2 := F0 m 255 ls [.int (xs 1), .ref q_35, .int (-1)]) rfl ?_
  refine lv_aload_n hx hb d_Law_law_255 rfl (lv_at hl 3 rfl) ?_
  refine lv_iload_n hx hb d_Law_law_256 rfl (lv_at hl 0 rfl) ?_
  refine lv_iconst (v := 2) hx hb d_Law_law_257 (by decide) ?_
  refine lv_iadd hx hb d_Law_law_258 ?_
  refine lv_topi (fun z_1006 ez_1006 => ?_)
  obtain rfl : z_1006 = 2 := ez_1006.trans (by decide)
  refine va_sld hx hb hX hbl hbA hS (by unfold vp_in; decide) d_Law_law_259 ?_
  refine W.eq (g2 := F0 m 260 ls [.int (xs 2), .int (xs 1), .ref q_35, .int (-1)]) rfl ?_
  refine kVi (n := 2) (As := [.int (xs 1), .int (xs 2)]) (rest := [.int (-1)]) (wr := []) X hP hD hS hA (c75_Mo_sign l D aI aJ aZ _ (q_35) ((xs 1)) ((xs 2)) (.ref q_36) (.int 0) (.ref q_37) (.ref q_38) (.ref q_39) (.int 0) (.int 0) (.int 0) (.ref q_40) (.ref q_41) (.ref q_42) (.ref q_43) (.ref q_44) (.ref q_45) (.ref q_46) (.int 0) (.int 0) (.ref q_47) (.ref q_48) (.ref q_49) (.int 0) (.ref q_50) (.ref q_51) (.ref q_52) (.ref q_53) (.ref q_54) (.ref q_55) (.int (-1)) (.ref q_56) (.ref q_57) (.int 0) (.ref q_58) (.ref q_59) (.ref q_60) (.int 0) (.int 0) (.int 0) (.ref q_61) (.ref q_62) (.ref q_63) (.int 0) (.int 0) (.int 0) (.int 0) (.int 0) (.int 0)) (kV_good t_1381 t_1378 t_1379 t_1380 t_107) rfl rfl (by decide +kernel) ⟨Nat.le_of_ble_eq_true rfl, Nat.le_of_ble_eq_true rfl⟩ hl.1 rfl rfl (Nat.le_of_ble_eq_true rfl) d_Law_law_260 ⟨Nat.le_of_ble_eq_true rfl, Nat.le_of_ble_eq_true rfl⟩ [0] [] rfl rfl (by decide) (by decide) (by decide) 0 rfl rfl (fun r_1008 u H locs w_1007 hP hD hS => ?_)
  have hP : va_P D classes [] H := hP
  have hD : va_D A [] := hD
  obtain rfl : r_1008 = (-1) := w_1007
  refine lv_icmp_eq (tgt := 456) hx hb d_Law_law_263 (by decide) (fun c_1009 => ?_) (fun c_1009 => absurd (by decide) c_1009)
  refine lv_iinc (v := 4) (lv' := [(3, .int 4), (2, .ref q_35), (1, .ref q_1), (0, .ref b)]) hx hb d_Law_law_456 hl (k := 0) rfl (by decide) (by decide) rfl (fun ls hl => ?_)
  refine lv_goto (tgt := 18) hx hb d_Law_law_459 (by decide) ?_
  refine lv_iload_n hx hb d_Law_law_18 rfl (lv_at hl 0 rfl) ?_
  refine lv_aload_n hx hb d_Law_law_19 rfl (lv_at hl 3 rfl) ?_
  refine va_slen hx hb hX hbl hbA hS d_Law_law_20 ?_
  refine lv_topi (fun z_1010 ez_1010 => ?_)
  obtain rfl : z_1010 = 4 := ez_1010.trans (by decide)
  refine lv_iconst (v := 4) hx hb d_Law_law_21 (by decide) ?_
  refine lv_isub hx hb d_Law_law_22 ?_
  refine lv_topi (fun z_1011 ez_1011 => ?_)
  obtain rfl : z_1011 = 0 := ez_1011.trans (by decide)
  refine lv_icmp_gt (tgt := 462) hx hb d_Law_law_23 (by decide) (fun c_1012 => ?_) (fun c_1012 => absurd (by decide) c_1012)
  refine lv_iconst (v := 1) hx hb d_Law_law_462 (by decide) ?_
  subst hAe; refine va_forget (fun q hq => hS.2.2 q hq) ?_
  exact lw_ret hx hb hr hlocks d_Law_law_463
set_option maxHeartbeats 4000000 in
set_option maxRecDepth 100000 in
theorem law_case_4 {p : Program} {l : Launch} {e : Env} {s : State} {m : MethodId} {below : List Frame} {meth : Method} {c : Code} {b : Nat} {xs : Nat → Int32} {D : va_G} {aI aJ aZ : ClassId} (X : kX p s m #[Value.ref b] c code 4 "LayoutTokensLaw" D (kT aI aJ aZ)) (hr : meth.sig.returnType = ret) (hlocks : meth.locks = false) (hX : va_X b 4 xs s s.heap) (hbl : b < s.heap.size) {q_1 q_2 q_7 q_8 q_17 q_21 q_23 q_28 q_32 q_9 q_10 q_11 q_12 q_13 q_14 q_15 q_16 q_24 q_25 q_26 q_27 q_35 q_36 q_37 q_38 q_39 q_40 q_41 q_42 q_43 q_44 q_45 q_46 q_47 q_48 q_49 q_50 q_51 q_52 q_53 q_54 q_55 q_56 q_57 q_58 q_59 q_60 q_61 q_62 q_63 : Nat} {A : Nat → Prop} (hAe : A = fun q : Nat => s.heap.size ≤ q) {H : Heap} {locs : List Loc} (hP : va_P D classes [(q_1, .inr (9, [.ref q_2, .ref q_7, .ref q_8, .ref q_17, .ref q_21, .ref q_23, .ref q_28, .ref q_32, .int 0])), (q_8, .inr (2, [.ref q_2, .ref q_9, .ref q_10, .ref q_11, .ref q_12, .ref q_13, .ref q_14, .ref q_15, .ref q_16, .int 0, .int 0])), (q_23, .inr (6, [.ref q_2, .ref q_24, .ref q_25, .ref q_26, .ref q_27, .int 0, .int 0, .int 0, .int (-1), .int (-1)])), (q_35, .inr (10, [.int 0, .ref q_36, .int 0, .ref q_37, .ref q_38, .ref q_39, .int 0, .int 0, .int 0, .ref q_40, .ref q_41, .ref q_42, .ref q_43, .ref q_44, .ref q_45, .ref q_46, .int 0, .int 0, .ref q_47, .ref q_48, .ref q_49, .int 0, .int 0, .ref q_50, .ref q_51, .ref q_52, .ref q_53, .ref q_54, .ref q_55, .int (-1), .ref q_56, .ref q_57, .int 0, .ref q_58, .ref q_59, .ref q_60, .int 0, .int 0, .int 0, .ref q_61, .ref q_62, .ref q_63, .int 0, .int 0, .int 0, .int 0, .int 0, .int 0]))] H) (hD : va_D A [(q_1, .inr (9, [.ref q_2, .ref q_7, .ref q_8, .ref q_17, .ref q_21, .ref q_23, .ref q_28, .ref q_32, .int 0])), (q_8, .inr (2, [.ref q_2, .ref q_9, .ref q_10, .ref q_11, .ref q_12, .ref q_13, .ref q_14, .ref q_15, .ref q_16, .int 0, .int 0])), (q_23, .inr (6, [.ref q_2, .ref q_24, .ref q_25, .ref q_26, .ref q_27, .int 0, .int 0, .int 0, .int (-1), .int (-1)])), (q_35, .inr (10, [.int 0, .ref q_36, .int 0, .ref q_37, .ref q_38, .ref q_39, .int 0, .int 0, .int 0, .ref q_40, .ref q_41, .ref q_42, .ref q_43, .ref q_44, .ref q_45, .ref q_46, .int 0, .int 0, .ref q_47, .ref q_48, .ref q_49, .int 0, .int 0, .ref q_50, .ref q_51, .ref q_52, .ref q_53, .ref q_54, .ref q_55, .int (-1), .ref q_56, .ref q_57, .int 0, .ref q_58, .ref q_59, .ref q_60, .int 0, .int 0, .int 0, .ref q_61, .ref q_62, .ref q_63, .int 0, .int 0, .int 0, .int 0, .int 0, .int 0]))]) (hS : va_S A s.heap H locs) {ls : Array Slot} (hl : lv_has ls 4 [(3, .int 0), (2, .ref q_35), (1, .ref q_1), (0, .ref b)]) : W p l e room_1 s m #[Value.ref b] below meth c H locs 62 33204 (lw_Z below #[Value.ref b] s) (F0 m 268 ls []) := by
  have hx := X.1.1
  have hb := X.1.2.1
  have hown := X.1.2.2.2.1
  have hk := X.1.2.2.2.2
  have hA : ∀ q : Nat, s.heap.size ≤ q → A q := by rw [hAe]; exact fun _ h => h
  have hbA : ¬ A b := by rw [hAe]; exact Nat.not_le.mpr hbl
  refine lv_aload_n hx hb d_Law_law_268 rfl (lv_at hl 2 rfl) ?_
  refine lv_aload_n hx hb d_Law_law_269 rfl (lv_at hl 3 rfl) ?_
  refine lv_iload_n hx hb d_Law_law_270 rfl (lv_at hl 0 rfl) ?_
  refine lv_iconst (v := 1) hx hb d_Law_law_271 (by decide) ?_
  refine lv_iadd hx hb d_Law_law_272 ?_
  refine lv_topi (fun z_1001 ez_1001 => ?_)
  obtain rfl : z_1001 = 1 := ez_1001.trans (by decide)
  refine va_sld hx hb hX hbl hbA hS (by unfold vp_in; decide) d_Law_law_273 ?_
  refine W.eq (g2 := F0 m 274 ls [.int (xs 1), .ref q_1]) rfl ?_
  refine kVl (n := 1) (As := [.int (xs 1)]) (rest := []) (wr := [(q_35, .inr (10, [.int 0, .ref q_36, .int 0, .ref q_37, .ref q_38, .ref q_39, .int 0, .int 0, .int 0, .ref q_40, .ref q_41, .ref q_42, .ref q_43, .ref q_44, .ref q_45, .ref q_46, .int 0, .int 0, .ref q_47, .ref q_48, .ref q_49, .int 0, .int 0, .ref q_50, .ref q_51, .ref q_52, .ref q_53, .ref q_54, .ref q_55, .int (-1), .ref q_56, .ref q_57, .int 0, .ref q_58, .ref q_59, .ref q_60, .int 0, .int 0, .int 0, .ref q_61, .ref q_62, .ref q_63, .int 0, .int 0, .int 0, .int 0, .int 0, .int 0]))]) X hP hD hS hA (c77_Lt_number l D aI aJ aZ _ (q_1) (q_23) (q_8) ((xs 1)) (.ref q_2) (.ref q_7) (.ref q_17) (.ref q_21) (.ref q_28) (.ref q_32) (.int 0) (.ref q_2) (.ref q_24) (.ref q_25) (.ref q_26) (.ref q_27) (.int 0) (.int 0) (.int (-1)) (.int (-1)) (.ref q_2) (.ref q_9) (.ref q_10) (.ref q_11) (.ref q_12) (.ref q_13) (.ref q_14) (.ref q_15) (.ref q_16) (.int 0) (.int 0)) (kV_good t_873 t_870 t_871 t_872 t_97) rfl rfl (by decide +kernel) ⟨Nat.le_of_ble_eq_true rfl, Nat.le_of_ble_eq_true rfl⟩ hl.1 rfl rfl (Nat.le_of_ble_eq_true rfl) d_Law_law_274 ⟨Nat.le_of_ble_eq_true rfl, Nat.le_of_ble_eq_true rfl⟩ [0, 2, 1] [3] rfl rfl (by decide) (by decide) (by decide) 0 rfl rfl (fun r_1003 u H locs w_1002 hP hD hS => ?_)
  have hP : va_P D classes [(q_35, .inr (10, [.int 0, .ref q_36, .int 0, .ref q_37, .ref q_38, .ref q_39, .int 0, .int 0, .int 0, .ref q_40, .ref q_41, .ref q_42, .ref q_43, .ref q_44, .ref q_45, .ref q_46, .int 0, .int 0, .ref q_47, .ref q_48, .ref q_49, .int 0, .int 0, .ref q_50, .ref q_51, .ref q_52, .ref q_53, .ref q_54, .ref q_55, .int (-1), .ref q_56, .ref q_57, .int 0, .ref q_58, .ref q_59, .ref q_60, .int 0, .int 0, .int 0, .ref q_61, .ref q_62, .ref q_63, .int 0, .int 0, .int 0, .int 0, .int 0, .int 0]))] H := hP
  have hD : va_D A [(q_35, .inr (10, [.int 0, .ref q_36, .int 0, .ref q_37, .ref q_38, .ref q_39, .int 0, .int 0, .int 0, .ref q_40, .ref q_41, .ref q_42, .ref q_43, .ref q_44, .ref q_45, .ref q_46, .int 0, .int 0, .ref q_47, .ref q_48, .ref q_49, .int 0, .int 0, .ref q_50, .ref q_51, .ref q_52, .ref q_53, .ref q_54, .ref q_55, .int (-1), .ref q_56, .ref q_57, .int 0, .ref q_58, .ref q_59, .ref q_60, .int 0, .int 0, .int 0, .ref q_61, .ref q_62, .ref q_63, .int 0, .int 0, .int 0, .int 0, .int 0, .int 0]))] := hD
  obtain rfl : r_1003 = 0 := w_1002
  refine lv_aload_n hx hb d_Law_law_277 rfl (lv_at hl 1 rfl) ?_
  refine lv_aload_n hx hb d_Law_law_278 rfl (lv_at hl 3 rfl) ?_
  refine lv_iload_n hx hb d_Law_law_279 rfl (lv_at hl 0 rfl) ?_
  refine lv_iconst (v := 1) hx hb d_Law_law_280 (by decide) ?_
  refine lv_iadd hx hb d_Law_law_281 ?_
  refine lv_topi (fun z_1004 ez_1004 => ?_)
  obtain rfl : z_1004 = 1 := ez_1004.trans (by decide)
  refine va_sld hx hb hX hbl hbA hS (by unfold vp_in; decide) d_Law_law_282 ?_
  refine W.eq (g2 := F0 m 283 ls [.int (xs 1), .ref q_35, .long 0]) rfl ?_
  refine kVl (n := 1) (As := [.int (xs 1)]) (rest := [.long 0]) (wr := []) X hP hD hS hA (c78_Mo_number l D aI aJ aZ _ (q_35) ((xs 1)) (.ref q_36) (.int 0) (.ref q_37) (.ref q_38) (.ref q_39) (.int 0) (.int 0) (.int 0) (.ref q_40) (.ref q_41) (.ref q_42) (.ref q_43) (.ref q_44) (.ref q_45) (.ref q_46) (.int 0) (.int 0) (.ref q_47) (.ref q_48) (.ref q_49) (.int 0) (.ref q_50) (.ref q_51) (.ref q_52) (.ref q_53) (.ref q_54) (.ref q_55) (.int (-1)) (.ref q_56) (.ref q_57) (.int 0) (.ref q_58) (.ref q_59) (.ref q_60) (.int 0) (.int 0) (.int 0) (.ref q_61) (.ref q_62) (.ref q_63) (.int 0) (.int 0) (.int 0) (.int 0) (.int 0) (.int 0)) (kV_good t_1385 t_1382 t_1383 t_1384 t_107) rfl rfl (by decide +kernel) ⟨Nat.le_of_ble_eq_true rfl, Nat.le_of_ble_eq_true rfl⟩ hl.1 rfl rfl (Nat.le_of_ble_eq_true rfl) d_Law_law_283 ⟨Nat.le_of_ble_eq_true rfl, Nat.le_of_ble_eq_true rfl⟩ [0] [] rfl rfl (by decide) (by decide) (by decide) 0 rfl rfl (fun r_1006 u H locs w_1005 hP hD hS => ?_)
  have hP : va_P D classes [] H := hP
  have hD : va_D A [] := hD
  obtain rfl : r_1006 = 0 := w_1005
  refine W.lcmp hx hb d_Law_law_286 ?_
  refine W.eq (g2 := F0 m 287 ls [.int 0]) (by rfl) ?_
  refine lv_if_eq (tgt := 456) hx hb d_Law_law_287 (by decide) (fun c_1007 => ?_) (fun c_1007 => absurd (by decide) c_1007)
  refine lv_iinc (v := 4) (lv' := [(3, .int 4), (2, .ref q_35), (1, .ref q_1), (0, .ref b)]) hx hb d_Law_law_456 hl (k := 0) rfl (by decide) (by decide) rfl (fun ls hl => ?_)
  refine lv_goto (tgt := 18) hx hb d_Law_law_459 (by decide) ?_
  refine lv_iload_n hx hb d_Law_law_18 rfl (lv_at hl 0 rfl) ?_
  refine lv_aload_n hx hb d_Law_law_19 rfl (lv_at hl 3 rfl) ?_
  refine va_slen hx hb hX hbl hbA hS d_Law_law_20 ?_
  refine lv_topi (fun z_1008 ez_1008 => ?_)
  obtain rfl : z_1008 = 4 := ez_1008.trans (by decide)
  refine lv_iconst (v := 4) hx hb d_Law_law_21 (by decide) ?_
  refine lv_isub hx hb d_Law_law_22 ?_
  refine lv_topi (fun z_1009 ez_1009 => ?_)
  obtain rfl : z_1009 = 0 := ez_1009.trans (by decide)
  refine lv_icmp_gt (tgt := 462) hx hb d_Law_law_23 (by decide) (fun c_1010 => ?_) (fun c_1010 => absurd (by decide) c_1010)
  refine lv_iconst (v := 1) hx hb d_Law_law_462 (by decide) ?_
  subst hAe; refine va_forget (fun q hq => hS.2.2 q hq) ?_
  exact lw_ret hx hb hr hlocks d_Law_law_463
set_option maxHeartbeats 4000000 in
set_option maxRecDepth 100000 in
theorem law_case_5 {p : Program} {l : Launch} {e : Env} {s : State} {m : MethodId} {below : List Frame} {meth : Method} {c : Code} {b : Nat} {xs : Nat → Int32} {D : va_G} {aI aJ aZ : ClassId} (X : kX p s m #[Value.ref b] c code 4 "LayoutTokensLaw" D (kT aI aJ aZ)) (hr : meth.sig.returnType = ret) (hlocks : meth.locks = false) (hX : va_X b 4 xs s s.heap) (hbl : b < s.heap.size) {q_1 q_2 q_7 q_8 q_17 q_21 q_23 q_28 q_32 q_24 q_25 q_26 q_27 q_35 q_36 q_37 q_38 q_39 q_40 q_41 q_42 q_43 q_44 q_45 q_46 q_47 q_48 q_49 q_50 q_51 q_52 q_53 q_54 q_55 q_56 q_57 q_58 q_59 q_60 q_61 q_62 q_63 : Nat} {A : Nat → Prop} (hAe : A = fun q : Nat => s.heap.size ≤ q) {H : Heap} {locs : List Loc} (hP : va_P D classes [(q_1, .inr (9, [.ref q_2, .ref q_7, .ref q_8, .ref q_17, .ref q_21, .ref q_23, .ref q_28, .ref q_32, .int 0])), (q_23, .inr (6, [.ref q_2, .ref q_24, .ref q_25, .ref q_26, .ref q_27, .int 0, .int 0, .int 0, .int (-1), .int (-1)])), (q_35, .inr (10, [.int 0, .ref q_36, .int 0, .ref q_37, .ref q_38, .ref q_39, .int 0, .int 0, .int 0, .ref q_40, .ref q_41, .ref q_42, .ref q_43, .ref q_44, .ref q_45, .ref q_46, .int 0, .int 0, .ref q_47, .ref q_48, .ref q_49, .int 0, .int 0, .ref q_50, .ref q_51, .ref q_52, .ref q_53, .ref q_54, .ref q_55, .int (-1), .ref q_56, .ref q_57, .int 0, .ref q_58, .ref q_59, .ref q_60, .int 0, .int 0, .int 0, .ref q_61, .ref q_62, .ref q_63, .int 0, .int 0, .int 0, .int 0, .int 0, .int 0]))] H) (hD : va_D A [(q_1, .inr (9, [.ref q_2, .ref q_7, .ref q_8, .ref q_17, .ref q_21, .ref q_23, .ref q_28, .ref q_32, .int 0])), (q_23, .inr (6, [.ref q_2, .ref q_24, .ref q_25, .ref q_26, .ref q_27, .int 0, .int 0, .int 0, .int (-1), .int (-1)])), (q_35, .inr (10, [.int 0, .ref q_36, .int 0, .ref q_37, .ref q_38, .ref q_39, .int 0, .int 0, .int 0, .ref q_40, .ref q_41, .ref q_42, .ref q_43, .ref q_44, .ref q_45, .ref q_46, .int 0, .int 0, .ref q_47, .ref q_48, .ref q_49, .int 0, .int 0, .ref q_50, .ref q_51, .ref q_52, .ref q_53, .ref q_54, .ref q_55, .int (-1), .ref q_56, .ref q_57, .int 0, .ref q_58, .ref q_59, .ref q_60, .int 0, .int 0, .int 0, .ref q_61, .ref q_62, .ref q_63, .int 0, .int 0, .int 0, .int 0, .int 0, .int 0]))]) (hS : va_S A s.heap H locs) {ls : Array Slot} (hl : lv_has ls 4 [(3, .int 0), (2, .ref q_35), (1, .ref q_1), (0, .ref b)]) : W p l e room_1 s m #[Value.ref b] below meth c H locs 62 33204 (lw_Z below #[Value.ref b] s) (F0 m 292 ls []) := by
  have hx := X.1.1
  have hb := X.1.2.1
  have hown := X.1.2.2.2.1
  have hk := X.1.2.2.2.2
  have hA : ∀ q : Nat, s.heap.size ≤ q → A q := by rw [hAe]; exact fun _ h => h
  have hbA : ¬ A b := by rw [hAe]; exact Nat.not_le.mpr hbl
  refine lv_aload_n hx hb d_Law_law_292 rfl (lv_at hl 2 rfl) ?_
  refine lv_aload_n hx hb d_Law_law_293 rfl (lv_at hl 3 rfl) ?_
  refine lv_iload_n hx hb d_Law_law_294 rfl (lv_at hl 0 rfl) ?_
  refine lv_iconst (v := 1) hx hb d_Law_law_295 (by decide) ?_
  refine lv_iadd hx hb d_Law_law_296 ?_
  refine lv_topi (fun z_1001 ez_1001 => ?_)
  obtain rfl : z_1001 = 1 := ez_1001.trans (by decide)
  refine va_sld hx hb hX hbl hbA hS (by unfold vp_in; decide) d_Law_law_297 ?_
  refine W.eq (g2 := F0 m 298 ls [.int (xs 1), .ref q_1]) rfl ?_
  refine kVi (n := 1) (As := [.int (xs 1)]) (rest := []) (wr := [(q_35, .inr (10, [.int 0, .ref q_36, .int 0, .ref q_37, .ref q_38, .ref q_39, .int 0, .int 0, .int 0, .ref q_40, .ref q_41, .ref q_42, .ref q_43, .ref q_44, .ref q_45, .ref q_46, .int 0, .int 0, .ref q_47, .ref q_48, .ref q_49, .int 0, .int 0, .ref q_50, .ref q_51, .ref q_52, .ref q_53, .ref q_54, .ref q_55, .int (-1), .ref q_56, .ref q_57, .int 0, .ref q_58, .ref q_59, .ref q_60, .int 0, .int 0, .int 0, .ref q_61, .ref q_62, .ref q_63, .int 0, .int 0, .int 0, .int 0, .int 0, .int 0]))]) X hP hD hS hA (c80_Lt_asked l D aI aJ aZ _ (q_1) (q_23) ((xs 1)) (.ref q_2) (.ref q_7) (.ref q_8) (.ref q_17) (.ref q_21) (.ref q_28) (.ref q_32) (.int 0) (.ref q_2) (.ref q_24) (.ref q_25) (.ref q_26) (.ref q_27) (.int 0) (.int 0) (.int (-1)) (.int (-1))) (kV_good t_881 t_878 t_879 t_880 t_97) rfl rfl (by decide +kernel) ⟨Nat.le_of_ble_eq_true rfl, Nat.le_of_ble_eq_true rfl⟩ hl.1 rfl rfl (Nat.le_of_ble_eq_true rfl) d_Law_law_298 ⟨Nat.le_of_ble_eq_true rfl, Nat.le_of_ble_eq_true rfl⟩ [0, 1] [2] rfl rfl (by decide) (by decide) (by decide) 0 rfl rfl (fun r_1003 u H locs w_1002 hP hD hS => ?_)
  have hP : va_P D classes [(q_35, .inr (10, [.int 0, .ref q_36, .int 0, .ref q_37, .ref q_38, .ref q_39, .int 0, .int 0, .int 0, .ref q_40, .ref q_41, .ref q_42, .ref q_43, .ref q_44, .ref q_45, .ref q_46, .int 0, .int 0, .ref q_47, .ref q_48, .ref q_49, .int 0, .int 0, .ref q_50, .ref q_51, .ref q_52, .ref q_53, .ref q_54, .ref q_55, .int (-1), .ref q_56, .ref q_57, .int 0, .ref q_58, .ref q_59, .ref q_60, .int 0, .int 0, .int 0, .ref q_61, .ref q_62, .ref q_63, .int 0, .int 0, .int 0, .int 0, .int 0, .int 0]))] H := hP
  have hD : va_D A [(q_35, .inr (10, [.int 0, .ref q_36, .int 0, .ref q_37, .ref q_38, .ref q_39, .int 0, .int 0, .int 0, .ref q_40, .ref q_41, .ref q_42, .ref q_43, .ref q_44, .ref q_45, .ref q_46, .int 0, .int 0, .ref q_47, .ref q_48, .ref q_49, .int 0, .int 0, .ref q_50, .ref q_51, .ref q_52, .ref q_53, .ref q_54, .ref q_55, .int (-1), .ref q_56, .ref q_57, .int 0, .ref q_58, .ref q_59, .ref q_60, .int 0, .int 0, .int 0, .ref q_61, .ref q_62, .ref q_63, .int 0, .int 0, .int 0, .int 0, .int 0, .int 0]))] := hD
  obtain rfl : r_1003 = 0 := w_1002
  refine lv_aload_n hx hb d_Law_law_301 rfl (lv_at hl 1 rfl) ?_
  refine lv_aload_n hx hb d_Law_law_302 rfl (lv_at hl 3 rfl) ?_
  refine lv_iload_n hx hb d_Law_law_303 rfl (lv_at hl 0 rfl) ?_
  refine lv_iconst (v := 1) hx hb d_Law_law_304 (by decide) ?_
  refine lv_iadd hx hb d_Law_law_305 ?_
  refine lv_topi (fun z_1004 ez_1004 => ?_)
  obtain rfl : z_1004 = 1 := ez_1004.trans (by decide)
  refine va_sld hx hb hX hbl hbA hS (by unfold vp_in; decide) d_Law_law_306 ?_
  refine W.eq (g2 := F0 m 307 ls [.int (xs 1), .ref q_35, .int 0]) rfl ?_
  refine kVi (n := 1) (As := [.int (xs 1)]) (rest := [.int 0]) (wr := []) X hP hD hS hA (c81_Mo_asked l D aI aJ aZ _ (q_35) ((xs 1)) (.ref q_36) (.int 0) (.ref q_37) (.ref q_38) (.ref q_39) (.int 0) (.int 0) (.int 0) (.ref q_40) (.ref q_41) (.ref q_42) (.ref q_43) (.ref q_44) (.ref q_45) (.ref q_46) (.int 0) (.int 0) (.ref q_47) (.ref q_48) (.ref q_49) (.int 0) (.ref q_50) (.ref q_51) (.ref q_52) (.ref q_53) (.ref q_54) (.ref q_55) (.int (-1)) (.ref q_56) (.ref q_57) (.int 0) (.ref q_58) (.ref q_59) (.ref q_60) (.int 0) (.int 0) (.int 0) (.ref q_61) (.ref q_62) (.ref q_63) (.int 0) (.int 0) (.int 0) (.int 0) (.int 0) (.int 0)) (kV_good t_1389 t_1386 t_1387 t_1388 t_107) rfl rfl (by decide +kernel) ⟨Nat.le_of_ble_eq_true rfl, Nat.le_of_ble_eq_true rfl⟩ hl.1 rfl rfl (Nat.le_of_ble_eq_true rfl) d_Law_law_307 ⟨Nat.le_of_ble_eq_true rfl, Nat.le_of_ble_eq_true rfl⟩ [0] [] rfl rfl (by decide) (by decide) (by decide) 0 rfl rfl (fun r_1006 u H locs w_1005 hP hD hS => ?_)
  have hP : va_P D classes [] H := hP
  have hD : va_D A [] := hD
  obtain rfl : r_1006 = 0 := w_1005
  refine lv_icmp_eq (tgt := 456) hx hb d_Law_law_310 (by decide) (fun c_1007 => ?_) (fun c_1007 => absurd (by decide) c_1007)
  refine lv_iinc (v := 4) (lv' := [(3, .int 4), (2, .ref q_35), (1, .ref q_1), (0, .ref b)]) hx hb d_Law_law_456 hl (k := 0) rfl (by decide) (by decide) rfl (fun ls hl => ?_)
  refine lv_goto (tgt := 18) hx hb d_Law_law_459 (by decide) ?_
  refine lv_iload_n hx hb d_Law_law_18 rfl (lv_at hl 0 rfl) ?_
  refine lv_aload_n hx hb d_Law_law_19 rfl (lv_at hl 3 rfl) ?_
  refine va_slen hx hb hX hbl hbA hS d_Law_law_20 ?_
  refine lv_topi (fun z_1008 ez_1008 => ?_)
  obtain rfl : z_1008 = 4 := ez_1008.trans (by decide)
  refine lv_iconst (v := 4) hx hb d_Law_law_21 (by decide) ?_
  refine lv_isub hx hb d_Law_law_22 ?_
  refine lv_topi (fun z_1009 ez_1009 => ?_)
  obtain rfl : z_1009 = 0 := ez_1009.trans (by decide)
  refine lv_icmp_gt (tgt := 462) hx hb d_Law_law_23 (by decide) (fun c_1010 => ?_) (fun c_1010 => absurd (by decide) c_1010)
  refine lv_iconst (v := 1) hx hb d_Law_law_462 (by decide) ?_
  subst hAe; refine va_forget (fun q hq => hS.2.2 q hq) ?_
  exact lw_ret hx hb hr hlocks d_Law_law_463
set_option maxHeartbeats 4000000 in
set_option maxRecDepth 100000 in
theorem law_case_6 {p : Program} {l : Launch} {e : Env} {s : State} {m : MethodId} {below : List Frame} {meth : Method} {c : Code} {b : Nat} {xs : Nat → Int32} {D : va_G} {aI aJ aZ : ClassId} (X : kX p s m #[Value.ref b] c code 4 "LayoutTokensLaw" D (kT aI aJ aZ)) (hr : meth.sig.returnType = ret) (hlocks : meth.locks = false) (hX : va_X b 4 xs s s.heap) (hbl : b < s.heap.size) {q_1 q_2 q_7 q_8 q_17 q_21 q_23 q_28 q_32 q_3 q_4 q_5 q_6 q_35 q_36 q_37 q_38 q_39 q_40 q_41 q_42 q_43 q_44 q_45 q_46 q_47 q_48 q_49 q_50 q_51 q_52 q_53 q_54 q_55 q_56 q_57 q_58 q_59 q_60 q_61 q_62 q_63 : Nat} {A : Nat → Prop} (hAe : A = fun q : Nat => s.heap.size ≤ q) {H : Heap} {locs : List Loc} (hP : va_P D classes [(q_1, .inr (9, [.ref q_2, .ref q_7, .ref q_8, .ref q_17, .ref q_21, .ref q_23, .ref q_28, .ref q_32, .int 0])), (q_2, .inr (0, [.ref q_3, .ref q_4, .ref q_5, .ref q_6, .int 0])), (q_35, .inr (10, [.int 0, .ref q_36, .int 0, .ref q_37, .ref q_38, .ref q_39, .int 0, .int 0, .int 0, .ref q_40, .ref q_41, .ref q_42, .ref q_43, .ref q_44, .ref q_45, .ref q_46, .int 0, .int 0, .ref q_47, .ref q_48, .ref q_49, .int 0, .int 0, .ref q_50, .ref q_51, .ref q_52, .ref q_53, .ref q_54, .ref q_55, .int (-1), .ref q_56, .ref q_57, .int 0, .ref q_58, .ref q_59, .ref q_60, .int 0, .int 0, .int 0, .ref q_61, .ref q_62, .ref q_63, .int 0, .int 0, .int 0, .int 0, .int 0, .int 0]))] H) (hD : va_D A [(q_1, .inr (9, [.ref q_2, .ref q_7, .ref q_8, .ref q_17, .ref q_21, .ref q_23, .ref q_28, .ref q_32, .int 0])), (q_2, .inr (0, [.ref q_3, .ref q_4, .ref q_5, .ref q_6, .int 0])), (q_35, .inr (10, [.int 0, .ref q_36, .int 0, .ref q_37, .ref q_38, .ref q_39, .int 0, .int 0, .int 0, .ref q_40, .ref q_41, .ref q_42, .ref q_43, .ref q_44, .ref q_45, .ref q_46, .int 0, .int 0, .ref q_47, .ref q_48, .ref q_49, .int 0, .int 0, .ref q_50, .ref q_51, .ref q_52, .ref q_53, .ref q_54, .ref q_55, .int (-1), .ref q_56, .ref q_57, .int 0, .ref q_58, .ref q_59, .ref q_60, .int 0, .int 0, .int 0, .ref q_61, .ref q_62, .ref q_63, .int 0, .int 0, .int 0, .int 0, .int 0, .int 0]))]) (hS : va_S A s.heap H locs) {ls : Array Slot} (hl : lv_has ls 4 [(3, .int 0), (2, .ref q_35), (1, .ref q_1), (0, .ref b)]) : W p l e room_1 s m #[Value.ref b] below meth c H locs 62 33204 (lw_Z below #[Value.ref b] s) (F0 m 315 ls []) := by
  have hx := X.1.1
  have hb := X.1.2.1
  have hown := X.1.2.2.2.1
  have hk := X.1.2.2.2.2
  have hA : ∀ q : Nat, s.heap.size ≤ q → A q := by rw [hAe]; exact fun _ h => h
  have hbA : ¬ A b := by rw [hAe]; exact Nat.not_le.mpr hbl
  refine lv_aload_n hx hb d_Law_law_315 rfl (lv_at hl 2 rfl) ?_
  refine lv_aload_n hx hb d_Law_law_316 rfl (lv_at hl 3 rfl) ?_
  refine lv_iload_n hx hb d_Law_law_317 rfl (lv_at hl 0 rfl) ?_
  refine lv_iconst (v := 1) hx hb d_Law_law_318 (by decide) ?_
  refine lv_iadd hx hb d_Law_law_319 ?_
  refine lv_topi (fun z_1001 ez_1001 => ?_)
  obtain rfl : z_1001 = 1 := ez_1001.trans (by decide)
  refine va_sld hx hb hX hbl hbA hS (by unfold vp_in; decide) d_Law_law_320 ?_
  refine W.eq (g2 := F0 m 321 ls [.int (xs 1), .ref q_1]) rfl ?_
  refine kVi (n := 1) (As := [.int (xs 1)]) (rest := []) (wr := [(q_35, .inr (10, [.int 0, .ref q_36, .int 0, .ref q_37, .ref q_38, .ref q_39, .int 0, .int 0, .int 0, .ref q_40, .ref q_41, .ref q_42, .ref q_43, .ref q_44, .ref q_45, .ref q_46, .int 0, .int 0, .ref q_47, .ref q_48, .ref q_49, .int 0, .int 0, .ref q_50, .ref q_51, .ref q_52, .ref q_53, .ref q_54, .ref q_55, .int (-1), .ref q_56, .ref q_57, .int 0, .ref q_58, .ref q_59, .ref q_60, .int 0, .int 0, .int 0, .ref q_61, .ref q_62, .ref q_63, .int 0, .int 0, .int 0, .int 0, .int 0, .int 0]))]) X hP hD hS hA (c84_Lt_column l D aI aJ aZ _ (q_1) (q_2) ((xs 1)) (.ref q_7) (.ref q_8) (.ref q_17) (.ref q_21) (.ref q_23) (.ref q_28) (.ref q_32) (.int 0) (.ref q_3) (.ref q_4) (.ref q_5) (.ref q_6)) (kV_good t_889 t_886 t_887 t_888 t_97) rfl rfl (by decide +kernel) ⟨Nat.le_of_ble_eq_true rfl, Nat.le_of_ble_eq_true rfl⟩ hl.1 rfl rfl (Nat.le_of_ble_eq_true rfl) d_Law_law_321 ⟨Nat.le_of_ble_eq_true rfl, Nat.le_of_ble_eq_true rfl⟩ [0, 1] [2] rfl rfl (by decide) (by decide) (by decide) 0 rfl rfl (fun r_1003 u H locs w_1002 hP hD hS => ?_)
  have hP : va_P D classes [(q_35, .inr (10, [.int 0, .ref q_36, .int 0, .ref q_37, .ref q_38, .ref q_39, .int 0, .int 0, .int 0, .ref q_40, .ref q_41, .ref q_42, .ref q_43, .ref q_44, .ref q_45, .ref q_46, .int 0, .int 0, .ref q_47, .ref q_48, .ref q_49, .int 0, .int 0, .ref q_50, .ref q_51, .ref q_52, .ref q_53, .ref q_54, .ref q_55, .int (-1), .ref q_56, .ref q_57, .int 0, .ref q_58, .ref q_59, .ref q_60, .int 0, .int 0, .int 0, .ref q_61, .ref q_62, .ref q_63, .int 0, .int 0, .int 0, .int 0, .int 0, .int 0]))] H := hP
  have hD : va_D A [(q_35, .inr (10, [.int 0, .ref q_36, .int 0, .ref q_37, .ref q_38, .ref q_39, .int 0, .int 0, .int 0, .ref q_40, .ref q_41, .ref q_42, .ref q_43, .ref q_44, .ref q_45, .ref q_46, .int 0, .int 0, .ref q_47, .ref q_48, .ref q_49, .int 0, .int 0, .ref q_50, .ref q_51, .ref q_52, .ref q_53, .ref q_54, .ref q_55, .int (-1), .ref q_56, .ref q_57, .int 0, .ref q_58, .ref q_59, .ref q_60, .int 0, .int 0, .int 0, .ref q_61, .ref q_62, .ref q_63, .int 0, .int 0, .int 0, .int 0, .int 0, .int 0]))] := hD
  obtain rfl : r_1003 = (-1) := w_1002
  refine lv_aload_n hx hb d_Law_law_324 rfl (lv_at hl 1 rfl) ?_
  refine lv_aload_n hx hb d_Law_law_325 rfl (lv_at hl 3 rfl) ?_
  refine lv_iload_n hx hb d_Law_law_326 rfl (lv_at hl 0 rfl) ?_
  refine lv_iconst (v := 1) hx hb d_Law_law_327 (by decide) ?_
  refine lv_iadd hx hb d_Law_law_328 ?_
  refine lv_topi (fun z_1004 ez_1004 => ?_)
  obtain rfl : z_1004 = 1 := ez_1004.trans (by decide)
  refine va_sld hx hb hX hbl hbA hS (by unfold vp_in; decide) d_Law_law_329 ?_
  refine W.eq (g2 := F0 m 330 ls [.int (xs 1), .ref q_35, .int (-1)]) rfl ?_
  refine kVi (n := 1) (As := [.int (xs 1)]) (rest := [.int (-1)]) (wr := []) X hP hD hS hA (c85_Mo_column l D aI aJ aZ _ (q_35) ((xs 1)) (.ref q_36) (.ref q_37) (.ref q_38) (.ref q_39) (.int 0) (.int 0) (.int 0) (.ref q_40) (.ref q_41) (.ref q_42) (.ref q_43) (.ref q_44) (.ref q_45) (.ref q_46) (.int 0) (.int 0) (.ref q_47) (.ref q_48) (.ref q_49) (.int 0) (.int 0) (.ref q_50) (.ref q_51) (.ref q_52) (.ref q_53) (.ref q_54) (.ref q_55) (.int (-1)) (.ref q_56) (.ref q_57) (.int 0) (.ref q_58) (.ref q_59) (.ref q_60) (.int 0) (.int 0) (.int 0) (.ref q_61) (.ref q_62) (.ref q_63) (.int 0) (.int 0) (.int 0) (.int 0) (.int 0) (.int 0)) (kV_good t_1393 t_1390 t_1391 t_1392 t_107) rfl rfl (by decide +kernel) ⟨Nat.le_of_ble_eq_true rfl, Nat.le_of_ble_eq_true rfl⟩ hl.1 rfl rfl (Nat.le_of_ble_eq_true rfl) d_Law_law_330 ⟨Nat.le_of_ble_eq_true rfl, Nat.le_of_ble_eq_true rfl⟩ [0] [] rfl rfl (by decide) (by decide) (by decide) 0 rfl rfl (fun r_1006 u H locs w_1005 hP hD hS => ?_)
  have hP : va_P D classes [] H := hP
  have hD : va_D A [] := hD
  obtain rfl : r_1006 = (-1) := w_1005
  refine lv_icmp_eq (tgt := 456) hx hb d_Law_law_333 (by decide) (fun c_1007 => ?_) (fun c_1007 => absurd (by decide) c_1007)
  refine lv_iinc (v := 4) (lv' := [(3, .int 4), (2, .ref q_35), (1, .ref q_1), (0, .ref b)]) hx hb d_Law_law_456 hl (k := 0) rfl (by decide) (by decide) rfl (fun ls hl => ?_)
  refine lv_goto (tgt := 18) hx hb d_Law_law_459 (by decide) ?_
  refine lv_iload_n hx hb d_Law_law_18 rfl (lv_at hl 0 rfl) ?_
  refine lv_aload_n hx hb d_Law_law_19 rfl (lv_at hl 3 rfl) ?_
  refine va_slen hx hb hX hbl hbA hS d_Law_law_20 ?_
  refine lv_topi (fun z_1008 ez_1008 => ?_)
  obtain rfl : z_1008 = 4 := ez_1008.trans (by decide)
  refine lv_iconst (v := 4) hx hb d_Law_law_21 (by decide) ?_
  refine lv_isub hx hb d_Law_law_22 ?_
  refine lv_topi (fun z_1009 ez_1009 => ?_)
  obtain rfl : z_1009 = 0 := ez_1009.trans (by decide)
  refine lv_icmp_gt (tgt := 462) hx hb d_Law_law_23 (by decide) (fun c_1010 => ?_) (fun c_1010 => absurd (by decide) c_1010)
  refine lv_iconst (v := 1) hx hb d_Law_law_462 (by decide) ?_
  subst hAe; refine va_forget (fun q hq => hS.2.2 q hq) ?_
  exact lw_ret hx hb hr hlocks d_Law_law_463
set_option maxHeartbeats 4000000 in
set_option maxRecDepth 100000 in
theorem law_case_7 {p : Program} {l : Launch} {e : Env} {s : State} {m : MethodId} {below : List Frame} {meth : Method} {c : Code} {b : Nat} {xs : Nat → Int32} {D : va_G} {aI aJ aZ : ClassId} (X : kX p s m #[Value.ref b] c code 4 "LayoutTokensLaw" D (kT aI aJ aZ)) (hr : meth.sig.returnType = ret) (hlocks : meth.locks = false) (hX : va_X b 4 xs s s.heap) (hbl : b < s.heap.size) {q_1 q_2 q_7 q_8 q_17 q_21 q_23 q_28 q_32 q_18 q_19 q_20 q_35 q_36 q_37 q_38 q_39 q_40 q_41 q_42 q_43 q_44 q_45 q_46 q_47 q_48 q_49 q_50 q_51 q_52 q_53 q_54 q_55 q_56 q_57 q_58 q_59 q_60 q_61 q_62 q_63 : Nat} {A : Nat → Prop} (hAe : A = fun q : Nat => s.heap.size ≤ q) {H : Heap} {locs : List Loc} (hP : va_P D classes [(q_1, .inr (9, [.ref q_2, .ref q_7, .ref q_8, .ref q_17, .ref q_21, .ref q_23, .ref q_28, .ref q_32, .int 0])), (q_17, .inr (3, [.ref q_18, .ref q_19, .ref q_20, .int 0, .int 0])), (q_35, .inr (10, [.int 0, .ref q_36, .int 0, .ref q_37, .ref q_38, .ref q_39, .int 0, .int 0, .int 0, .ref q_40, .ref q_41, .ref q_42, .ref q_43, .ref q_44, .ref q_45, .ref q_46, .int 0, .int 0, .ref q_47, .ref q_48, .ref q_49, .int 0, .int 0, .ref q_50, .ref q_51, .ref q_52, .ref q_53, .ref q_54, .ref q_55, .int (-1), .ref q_56, .ref q_57, .int 0, .ref q_58, .ref q_59, .ref q_60, .int 0, .int 0, .int 0, .ref q_61, .ref q_62, .ref q_63, .int 0, .int 0, .int 0, .int 0, .int 0, .int 0]))] H) (hD : va_D A [(q_1, .inr (9, [.ref q_2, .ref q_7, .ref q_8, .ref q_17, .ref q_21, .ref q_23, .ref q_28, .ref q_32, .int 0])), (q_17, .inr (3, [.ref q_18, .ref q_19, .ref q_20, .int 0, .int 0])), (q_35, .inr (10, [.int 0, .ref q_36, .int 0, .ref q_37, .ref q_38, .ref q_39, .int 0, .int 0, .int 0, .ref q_40, .ref q_41, .ref q_42, .ref q_43, .ref q_44, .ref q_45, .ref q_46, .int 0, .int 0, .ref q_47, .ref q_48, .ref q_49, .int 0, .int 0, .ref q_50, .ref q_51, .ref q_52, .ref q_53, .ref q_54, .ref q_55, .int (-1), .ref q_56, .ref q_57, .int 0, .ref q_58, .ref q_59, .ref q_60, .int 0, .int 0, .int 0, .ref q_61, .ref q_62, .ref q_63, .int 0, .int 0, .int 0, .int 0, .int 0, .int 0]))]) (hS : va_S A s.heap H locs) {ls : Array Slot} (hl : lv_has ls 4 [(3, .int 0), (2, .ref q_35), (1, .ref q_1), (0, .ref b)]) : W p l e room_1 s m #[Value.ref b] below meth c H locs 62 33204 (lw_Z below #[Value.ref b] s) (F0 m 338 ls []) := by
  have hx := X.1.1
  have hb := X.1.2.1
  have hown := X.1.2.2.2.1
  have hk := X.1.2.2.2.2
  have hA : ∀ q : Nat, s.heap.size ≤ q → A q := by rw [hAe]; exact fun _ h => h
  have hbA : ¬ A b := by rw [hAe]; exact Nat.not_le.mpr hbl
  refine lv_aload_n hx hb d_Law_law_338 rfl (lv_at hl 2 rfl) ?_
  refine lv_aload_n hx hb d_Law_law_339 rfl (lv_at hl 3 rfl) ?_
  refine lv_iload_n hx hb d_Law_law_340 rfl (lv_at hl 0 rfl) ?_
  refine lv_iconst (v := 1) hx hb d_Law_law_341 (by decide) ?_
  refine lv_iadd hx hb d_Law_law_342 ?_
  refine lv_topi (fun z_1001 ez_1001 => ?_)
  obtain rfl : z_1001 = 1 := ez_1001.trans (by decide)
  refine va_sld hx hb hX hbl hbA hS (by unfold vp_in; decide) d_Law_law_343 ?_
  refine W.eq (g2 := F0 m 344 ls [.int (xs 1), .ref q_1]) rfl ?_
  refine lv_aload_n hx hb d_Law_law_344 rfl (lv_at hl 3 rfl) ?_
  refine lv_iload_n hx hb d_Law_law_345 rfl (lv_at hl 0 rfl) ?_
  refine lv_iconst (v := 2) hx hb d_Law_law_346 (by decide) ?_
  refine lv_iadd hx hb d_Law_law_347 ?_
  refine lv_topi (fun z_1002 ez_1002 => ?_)
  obtain rfl : z_1002 = 2 := ez_1002.trans (by decide)
  refine va_sld hx hb hX hbl hbA hS (by unfold vp_in; decide) d_Law_law_348 ?_
  refine W.eq (g2 := F0 m 349 ls [.int (xs 2), .int (xs 1), .ref q_1]) rfl ?_
  refine kVi (n := 2) (As := [.int (xs 1), .int (xs 2)]) (rest := []) (wr := [(q_35, .inr (10, [.int 0, .ref q_36, .int 0, .ref q_37, .ref q_38, .ref q_39, .int 0, .int 0, .int 0, .ref q_40, .ref q_41, .ref q_42, .ref q_43, .ref q_44, .ref q_45, .ref q_46, .int 0, .int 0, .ref q_47, .ref q_48, .ref q_49, .int 0, .int 0, .ref q_50, .ref q_51, .ref q_52, .ref q_53, .ref q_54, .ref q_55, .int (-1), .ref q_56, .ref q_57, .int 0, .ref q_58, .ref q_59, .ref q_60, .int 0, .int 0, .int 0, .ref q_61, .ref q_62, .ref q_63, .int 0, .int 0, .int 0, .int 0, .int 0, .int 0]))]) X hP hD hS hA (c87_Lt_comment l D aI aJ aZ _ (q_1) (q_17) ((xs 1)) ((xs 2)) (.ref q_2) (.ref q_7) (.ref q_8) (.ref q_21) (.ref q_23) (.ref q_28) (.ref q_32) (.int 0) (.ref q_18) (.ref q_19) (.ref q_20) (.int 0)) (kV_good t_894 t_891 t_892 t_893 t_97) rfl rfl (by decide +kernel) ⟨Nat.le_of_ble_eq_true rfl, Nat.le_of_ble_eq_true rfl⟩ hl.1 rfl rfl (Nat.le_of_ble_eq_true rfl) d_Law_law_349 ⟨Nat.le_of_ble_eq_true rfl, Nat.le_of_ble_eq_true rfl⟩ [0, 1] [2] rfl rfl (by decide) (by decide) (by decide) 0 rfl rfl (fun r_1004 u H locs w_1003 hP hD hS => ?_)
  have hP : va_P D classes [(q_35, .inr (10, [.int 0, .ref q_36, .int 0, .ref q_37, .ref q_38, .ref q_39, .int 0, .int 0, .int 0, .ref q_40, .ref q_41, .ref q_42, .ref q_43, .ref q_44, .ref q_45, .ref q_46, .int 0, .int 0, .ref q_47, .ref q_48, .ref q_49, .int 0, .int 0, .ref q_50, .ref q_51, .ref q_52, .ref q_53, .ref q_54, .ref q_55, .int (-1), .ref q_56, .ref q_57, .int 0, .ref q_58, .ref q_59, .ref q_60, .int 0, .int 0, .int 0, .ref q_61, .ref q_62, .ref q_63, .int 0, .int 0, .int 0, .int 0, .int 0, .int 0]))] H := hP
  have hD : va_D A [(q_35, .inr (10, [.int 0, .ref q_36, .int 0, .ref q_37, .ref q_38, .ref q_39, .int 0, .int 0, .int 0, .ref q_40, .ref q_41, .ref q_42, .ref q_43, .ref q_44, .ref q_45, .ref q_46, .int 0, .int 0, .ref q_47, .ref q_48, .ref q_49, .int 0, .int 0, .ref q_50, .ref q_51, .ref q_52, .ref q_53, .ref q_54, .ref q_55, .int (-1), .ref q_56, .ref q_57, .int 0, .ref q_58, .ref q_59, .ref q_60, .int 0, .int 0, .int 0, .ref q_61, .ref q_62, .ref q_63, .int 0, .int 0, .int 0, .int 0, .int 0, .int 0]))] := hD
  obtain rfl : r_1004 = (-1) := w_1003
  refine lv_aload_n hx hb d_Law_law_352 rfl (lv_at hl 1 rfl) ?_
  refine lv_aload_n hx hb d_Law_law_353 rfl (lv_at hl 3 rfl) ?_
  refine lv_iload_n hx hb d_Law_law_354 rfl (lv_at hl 0 rfl) ?_
  refine lv_iconst (v := 1) hx hb d_Law_law_355 (by decide) ?_
  refine lv_iadd hx hb d_Law_law_356 ?_
  refine lv_topi (fun z_1005 ez_1005 => ?_)
  obtain rfl : z_1005 = 1 := ez_1005.trans (by decide)
  refine va_sld hx hb hX hbl hbA hS (by unfold vp_in; decide) d_Law_law_357 ?_
  refine W.eq (g2 := F0 m 358 ls [.int (xs 1), .ref q_35, .int (-1)]) rfl ?_
  refine lv_aload_n hx hb d_Law_law_358 rfl (lv_at hl 3 rfl) ?_
  refine lv_iload_n hx hb d_Law_law_359 rfl (lv_at hl 0 rfl) ?_
  refine lv_iconst (v := 2) hx hb d_Law_law_360 (by decide) ?_
  refine lv_iadd hx hb d_Law_law_361 ?_
  refine lv_topi (fun z_1006 ez_1006 => ?_)
  obtain rfl : z_1006 = 2 := ez_1006.trans (by decide)
  refine va_sld hx hb hX hbl hbA hS (by unfold vp_in; decide) d_Law_law_362 ?_
  refine W.eq (g2 := F0 m 363 ls [.int (xs 2), .int (xs 1), .ref q_35, .int (-1)]) rfl ?_
  refine kVi (n := 2) (As := [.int (xs 1), .int (xs 2)]) (rest := [.int (-1)]) (wr := []) X hP hD hS hA (c88_Mo_comment l D aI aJ aZ _ (q_35) ((xs 1)) ((xs 2)) (.ref q_36) (.int 0) (.ref q_37) (.ref q_38) (.ref q_39) (.int 0) (.int 0) (.ref q_40) (.ref q_41) (.ref q_42) (.ref q_43) (.ref q_44) (.ref q_45) (.ref q_46) (.int 0) (.int 0) (.ref q_47) (.ref q_48) (.ref q_49) (.int 0) (.int 0) (.ref q_50) (.ref q_51) (.ref q_52) (.ref q_53) (.ref q_54) (.ref q_55) (.int (-1)) (.ref q_56) (.ref q_57) (.int 0) (.ref q_58) (.ref q_59) (.ref q_60) (.int 0) (.int 0) (.int 0) (.ref q_61) (.ref q_62) (.ref q_63) (.int 0) (.int 0) (.int 0) (.int 0) (.int 0) (.int 0)) (kV_good t_1397 t_1394 t_1395 t_1396 t_107) rfl rfl (by decide +kernel) ⟨Nat.le_of_ble_eq_true rfl, Nat.le_of_ble_eq_true rfl⟩ hl.1 rfl rfl (Nat.le_of_ble_eq_true rfl) d_Law_law_363 ⟨Nat.le_of_ble_eq_true rfl, Nat.le_of_ble_eq_true rfl⟩ [0] [] rfl rfl (by decide) (by decide) (by decide) 0 rfl rfl (fun r_1008 u H locs w_1007 hP hD hS => ?_)
  have hP : va_P D classes [] H := hP
  have hD : va_D A [] := hD
  obtain rfl : r_1008 = (-1) := w_1007
  refine lv_icmp_eq (tgt := 456) hx hb d_Law_law_366 (by decide) (fun c_1009 => ?_) (fun c_1009 => absurd (by decide) c_1009)
  refine lv_iinc (v := 4) (lv' := [(3, .int 4), (2, .ref q_35), (1, .ref q_1), (0, .ref b)]) hx hb d_Law_law_456 hl (k := 0) rfl (by decide) (by decide) rfl (fun ls hl => ?_)
  refine lv_goto (tgt := 18) hx hb d_Law_law_459 (by decide) ?_
  refine lv_iload_n hx hb d_Law_law_18 rfl (lv_at hl 0 rfl) ?_
  refine lv_aload_n hx hb d_Law_law_19 rfl (lv_at hl 3 rfl) ?_
  refine va_slen hx hb hX hbl hbA hS d_Law_law_20 ?_
  refine lv_topi (fun z_1010 ez_1010 => ?_)
  obtain rfl : z_1010 = 4 := ez_1010.trans (by decide)
  refine lv_iconst (v := 4) hx hb d_Law_law_21 (by decide) ?_
  refine lv_isub hx hb d_Law_law_22 ?_
  refine lv_topi (fun z_1011 ez_1011 => ?_)
  obtain rfl : z_1011 = 0 := ez_1011.trans (by decide)
  refine lv_icmp_gt (tgt := 462) hx hb d_Law_law_23 (by decide) (fun c_1012 => ?_) (fun c_1012 => absurd (by decide) c_1012)
  refine lv_iconst (v := 1) hx hb d_Law_law_462 (by decide) ?_
  subst hAe; refine va_forget (fun q hq => hS.2.2 q hq) ?_
  exact lw_ret hx hb hr hlocks d_Law_law_463
set_option maxHeartbeats 4000000 in
set_option maxRecDepth 100000 in
theorem law_case_8 {p : Program} {l : Launch} {e : Env} {s : State} {m : MethodId} {below : List Frame} {meth : Method} {c : Code} {b : Nat} {xs : Nat → Int32} {D : va_G} {aI aJ aZ : ClassId} (X : kX p s m #[Value.ref b] c code 4 "LayoutTokensLaw" D (kT aI aJ aZ)) (hr : meth.sig.returnType = ret) (hlocks : meth.locks = false) (hX : va_X b 4 xs s s.heap) (hbl : b < s.heap.size) {q_1 q_2 q_7 q_8 q_17 q_21 q_23 q_28 q_32 q_35 q_36 q_37 q_38 q_39 q_40 q_41 q_42 q_43 q_44 q_45 q_46 q_47 q_48 q_49 q_50 q_51 q_52 q_53 q_54 q_55 q_56 q_57 q_58 q_59 q_60 q_61 q_62 q_63 : Nat} {A : Nat → Prop} (hAe : A = fun q : Nat => s.heap.size ≤ q) {H : Heap} {locs : List Loc} (hP : va_P D classes [(q_1, .inr (9, [.ref q_2, .ref q_7, .ref q_8, .ref q_17, .ref q_21, .ref q_23, .ref q_28, .ref q_32, .int 0])), (q_35, .inr (10, [.int 0, .ref q_36, .int 0, .ref q_37, .ref q_38, .ref q_39, .int 0, .int 0, .int 0, .ref q_40, .ref q_41, .ref q_42, .ref q_43, .ref q_44, .ref q_45, .ref q_46, .int 0, .int 0, .ref q_47, .ref q_48, .ref q_49, .int 0, .int 0, .ref q_50, .ref q_51, .ref q_52, .ref q_53, .ref q_54, .ref q_55, .int (-1), .ref q_56, .ref q_57, .int 0, .ref q_58, .ref q_59, .ref q_60, .int 0, .int 0, .int 0, .ref q_61, .ref q_62, .ref q_63, .int 0, .int 0, .int 0, .int 0, .int 0, .int 0]))] H) (hD : va_D A [(q_1, .inr (9, [.ref q_2, .ref q_7, .ref q_8, .ref q_17, .ref q_21, .ref q_23, .ref q_28, .ref q_32, .int 0])), (q_35, .inr (10, [.int 0, .ref q_36, .int 0, .ref q_37, .ref q_38, .ref q_39, .int 0, .int 0, .int 0, .ref q_40, .ref q_41, .ref q_42, .ref q_43, .ref q_44, .ref q_45, .ref q_46, .int 0, .int 0, .ref q_47, .ref q_48, .ref q_49, .int 0, .int 0, .ref q_50, .ref q_51, .ref q_52, .ref q_53, .ref q_54, .ref q_55, .int (-1), .ref q_56, .ref q_57, .int 0, .ref q_58, .ref q_59, .ref q_60, .int 0, .int 0, .int 0, .ref q_61, .ref q_62, .ref q_63, .int 0, .int 0, .int 0, .int 0, .int 0, .int 0]))]) (hS : va_S A s.heap H locs) {ls : Array Slot} (hl : lv_has ls 4 [(3, .int 0), (2, .ref q_35), (1, .ref q_1), (0, .ref b)]) : W p l e room_1 s m #[Value.ref b] below meth c H locs 62 33204 (lw_Z below #[Value.ref b] s) (F0 m 371 ls []) := by
  have hx := X.1.1
  have hb := X.1.2.1
  have hown := X.1.2.2.2.1
  have hk := X.1.2.2.2.2
  have hA : ∀ q : Nat, s.heap.size ≤ q → A q := by rw [hAe]; exact fun _ h => h
  have hbA : ¬ A b := by rw [hAe]; exact Nat.not_le.mpr hbl
  refine lv_aload_n hx hb d_Law_law_371 rfl (lv_at hl 2 rfl) ?_
  refine kVi (n := 0) (As := []) (rest := []) (wr := [(q_35, .inr (10, [.int 0, .ref q_36, .int 0, .ref q_37, .ref q_38, .ref q_39, .int 0, .int 0, .int 0, .ref q_40, .ref q_41, .ref q_42, .ref q_43, .ref q_44, .ref q_45, .ref q_46, .int 0, .int 0, .ref q_47, .ref q_48, .ref q_49, .int 0, .int 0, .ref q_50, .ref q_51, .ref q_52, .ref q_53, .ref q_54, .ref q_55, .int (-1), .ref q_56, .ref q_57, .int 0, .ref q_58, .ref q_59, .ref q_60, .int 0, .int 0, .int 0, .ref q_61, .ref q_62, .ref q_63, .int 0, .int 0, .int 0, .int 0, .int 0, .int 0]))]) X hP hD hS hA (c89_Lt_print l D aI aJ aZ _ (q_1) (.ref q_2) (.ref q_7) (.ref q_8) (.ref q_17) (.ref q_21) (.ref q_23) (.ref q_28) (.ref q_32)) (kV_good t_902 t_899 t_900 t_901 t_97) rfl rfl (by decide +kernel) ⟨Nat.le_of_ble_eq_true rfl, Nat.le_of_ble_eq_true rfl⟩ hl.1 rfl rfl (Nat.le_of_ble_eq_true rfl) d_Law_law_372 ⟨Nat.le_of_ble_eq_true rfl, Nat.le_of_ble_eq_true rfl⟩ [0] [1] rfl rfl (by decide) (by decide) (by decide) 0 rfl rfl (fun r_1002 u H locs w_1001 hP hD hS => ?_)
  have hP : va_P D classes [(q_35, .inr (10, [.int 0, .ref q_36, .int 0, .ref q_37, .ref q_38, .ref q_39, .int 0, .int 0, .int 0, .ref q_40, .ref q_41, .ref q_42, .ref q_43, .ref q_44, .ref q_45, .ref q_46, .int 0, .int 0, .ref q_47, .ref q_48, .ref q_49, .int 0, .int 0, .ref q_50, .ref q_51, .ref q_52, .ref q_53, .ref q_54, .ref q_55, .int (-1), .ref q_56, .ref q_57, .int 0, .ref q_58, .ref q_59, .ref q_60, .int 0, .int 0, .int 0, .ref q_61, .ref q_62, .ref q_63, .int 0, .int 0, .int 0, .int 0, .int 0, .int 0]))] H := hP
  have hD : va_D A [(q_35, .inr (10, [.int 0, .ref q_36, .int 0, .ref q_37, .ref q_38, .ref q_39, .int 0, .int 0, .int 0, .ref q_40, .ref q_41, .ref q_42, .ref q_43, .ref q_44, .ref q_45, .ref q_46, .int 0, .int 0, .ref q_47, .ref q_48, .ref q_49, .int 0, .int 0, .ref q_50, .ref q_51, .ref q_52, .ref q_53, .ref q_54, .ref q_55, .int (-1), .ref q_56, .ref q_57, .int 0, .ref q_58, .ref q_59, .ref q_60, .int 0, .int 0, .int 0, .ref q_61, .ref q_62, .ref q_63, .int 0, .int 0, .int 0, .int 0, .int 0, .int 0]))] := hD
  obtain rfl : r_1002 = (-1) := w_1001
  refine lv_aload_n hx hb d_Law_law_375 rfl (lv_at hl 1 rfl) ?_
  refine kVi (n := 0) (As := []) (rest := [.int (-1)]) (wr := []) X hP hD hS hA (c90_Mo_print l D aI aJ aZ _ (q_35) (.ref q_36) (.int 0) (.ref q_37) (.ref q_38) (.ref q_39) (.int 0) (.int 0) (.ref q_40) (.ref q_41) (.ref q_42) (.ref q_43) (.ref q_44) (.ref q_45) (.ref q_46) (.int 0) (.int 0) (.ref q_47) (.ref q_48) (.ref q_49) (.int 0) (.int 0) (.ref q_50) (.ref q_51) (.ref q_52) (.ref q_53) (.ref q_54) (.ref q_55) (.int (-1)) (.ref q_56) (.ref q_57) (.int 0) (.ref q_58) (.ref q_59) (.ref q_60) (.int 0) (.int 0) (.int 0) (.ref q_61) (.ref q_62) (.ref q_63) (.int 0) (.int 0) (.int 0) (.int 0) (.int 0) (.int 0)) (kV_good t_1401 t_1398 t_1399 t_1400 t_107) rfl rfl (by decide +kernel) ⟨Nat.le_of_ble_eq_true rfl, Nat.le_of_ble_eq_true rfl⟩ hl.1 rfl rfl (Nat.le_of_ble_eq_true rfl) d_Law_law_376 ⟨Nat.le_of_ble_eq_true rfl, Nat.le_of_ble_eq_true rfl⟩ [0] [] rfl rfl (by decide) (by decide) (by decide) 0 rfl rfl (fun r_1004 u H locs w_1003 hP hD hS => ?_)
  have hP : va_P D classes [] H := hP
  have hD : va_D A [] := hD
  obtain rfl : r_1004 = (-1) := w_1003
  refine lv_icmp_eq (tgt := 456) hx hb d_Law_law_379 (by decide) (fun c_1005 => ?_) (fun c_1005 => absurd (by decide) c_1005)
  refine lv_iinc (v := 4) (lv' := [(3, .int 4), (2, .ref q_35), (1, .ref q_1), (0, .ref b)]) hx hb d_Law_law_456 hl (k := 0) rfl (by decide) (by decide) rfl (fun ls hl => ?_)
  refine lv_goto (tgt := 18) hx hb d_Law_law_459 (by decide) ?_
  refine lv_iload_n hx hb d_Law_law_18 rfl (lv_at hl 0 rfl) ?_
  refine lv_aload_n hx hb d_Law_law_19 rfl (lv_at hl 3 rfl) ?_
  refine va_slen hx hb hX hbl hbA hS d_Law_law_20 ?_
  refine lv_topi (fun z_1006 ez_1006 => ?_)
  obtain rfl : z_1006 = 4 := ez_1006.trans (by decide)
  refine lv_iconst (v := 4) hx hb d_Law_law_21 (by decide) ?_
  refine lv_isub hx hb d_Law_law_22 ?_
  refine lv_topi (fun z_1007 ez_1007 => ?_)
  obtain rfl : z_1007 = 0 := ez_1007.trans (by decide)
  refine lv_icmp_gt (tgt := 462) hx hb d_Law_law_23 (by decide) (fun c_1008 => ?_) (fun c_1008 => absurd (by decide) c_1008)
  refine lv_iconst (v := 1) hx hb d_Law_law_462 (by decide) ?_
  subst hAe; refine va_forget (fun q hq => hS.2.2 q hq) ?_
  exact lw_ret hx hb hr hlocks d_Law_law_463
set_option maxHeartbeats 4000000 in
set_option maxRecDepth 100000 in
theorem law_case_9 {p : Program} {l : Launch} {e : Env} {s : State} {m : MethodId} {below : List Frame} {meth : Method} {c : Code} {b : Nat} {xs : Nat → Int32} {D : va_G} {aI aJ aZ : ClassId} (X : kX p s m #[Value.ref b] c code 4 "LayoutTokensLaw" D (kT aI aJ aZ)) (hr : meth.sig.returnType = ret) (hlocks : meth.locks = false) (hX : va_X b 4 xs s s.heap) (hbl : b < s.heap.size) {q_1 q_2 q_7 q_8 q_17 q_21 q_23 q_28 q_32 q_33 q_35 q_36 q_37 q_38 q_39 q_40 q_41 q_42 q_43 q_44 q_45 q_46 q_47 q_48 q_49 q_50 q_51 q_52 q_53 q_54 q_55 q_56 q_57 q_58 q_59 q_60 q_61 q_62 q_63 : Nat} {A : Nat → Prop} (hAe : A = fun q : Nat => s.heap.size ≤ q) {H : Heap} {locs : List Loc} (hP : va_P D classes [(q_1, .inr (9, [.ref q_2, .ref q_7, .ref q_8, .ref q_17, .ref q_21, .ref q_23, .ref q_28, .ref q_32, .int 0])), (q_32, .inr (8, [.ref q_8, .ref q_23, .ref q_33, .int (-1), .int 0, .int 0])), (q_35, .inr (10, [.int 0, .ref q_36, .int 0, .ref q_37, .ref q_38, .ref q_39, .int 0, .int 0, .int 0, .ref q_40, .ref q_41, .ref q_42, .ref q_43, .ref q_44, .ref q_45, .ref q_46, .int 0, .int 0, .ref q_47, .ref q_48, .ref q_49, .int 0, .int 0, .ref q_50, .ref q_51, .ref q_52, .ref q_53, .ref q_54, .ref q_55, .int (-1), .ref q_56, .ref q_57, .int 0, .ref q_58, .ref q_59, .ref q_60, .int 0, .int 0, .int 0, .ref q_61, .ref q_62, .ref q_63, .int 0, .int 0, .int 0, .int 0, .int 0, .int 0]))] H) (hD : va_D A [(q_1, .inr (9, [.ref q_2, .ref q_7, .ref q_8, .ref q_17, .ref q_21, .ref q_23, .ref q_28, .ref q_32, .int 0])), (q_32, .inr (8, [.ref q_8, .ref q_23, .ref q_33, .int (-1), .int 0, .int 0])), (q_35, .inr (10, [.int 0, .ref q_36, .int 0, .ref q_37, .ref q_38, .ref q_39, .int 0, .int 0, .int 0, .ref q_40, .ref q_41, .ref q_42, .ref q_43, .ref q_44, .ref q_45, .ref q_46, .int 0, .int 0, .ref q_47, .ref q_48, .ref q_49, .int 0, .int 0, .ref q_50, .ref q_51, .ref q_52, .ref q_53, .ref q_54, .ref q_55, .int (-1), .ref q_56, .ref q_57, .int 0, .ref q_58, .ref q_59, .ref q_60, .int 0, .int 0, .int 0, .ref q_61, .ref q_62, .ref q_63, .int 0, .int 0, .int 0, .int 0, .int 0, .int 0]))]) (hS : va_S A s.heap H locs) {ls : Array Slot} (hl : lv_has ls 4 [(3, .int 0), (2, .ref q_35), (1, .ref q_1), (0, .ref b)]) : W p l e room_1 s m #[Value.ref b] below meth c H locs 62 33204 (lw_Z below #[Value.ref b] s) (F0 m 384 ls []) := by
  have hx := X.1.1
  have hb := X.1.2.1
  have hown := X.1.2.2.2.1
  have hk := X.1.2.2.2.2
  have hA : ∀ q : Nat, s.heap.size ≤ q → A q := by rw [hAe]; exact fun _ h => h
  have hbA : ¬ A b := by rw [hAe]; exact Nat.not_le.mpr hbl
  refine lv_aload_n hx hb d_Law_law_384 rfl (lv_at hl 2 rfl) ?_
  refine lv_aload_n hx hb d_Law_law_385 rfl (lv_at hl 3 rfl) ?_
  refine lv_iload_n hx hb d_Law_law_386 rfl (lv_at hl 0 rfl) ?_
  refine lv_iconst (v := 1) hx hb d_Law_law_387 (by decide) ?_
  refine lv_iadd hx hb d_Law_law_388 ?_
  refine lv_topi (fun z_1001 ez_1001 => ?_)
  obtain rfl : z_1001 = 1 := ez_1001.trans (by decide)
  refine va_sld hx hb hX hbl hbA hS (by unfold vp_in; decide) d_Law_law_389 ?_
  refine W.eq (g2 := F0 m 390 ls [.int (xs 1), .ref q_1]) rfl ?_
  refine kVi (n := 1) (As := [.int (xs 1)]) (rest := []) (wr := [(q_35, .inr (10, [.int 0, .ref q_36, .int 0, .ref q_37, .ref q_38, .ref q_39, .int 0, .int 0, .int 0, .ref q_40, .ref q_41, .ref q_42, .ref q_43, .ref q_44, .ref q_45, .ref q_46, .int 0, .int 0, .ref q_47, .ref q_48, .ref q_49, .int 0, .int 0, .ref q_50, .ref q_51, .ref q_52, .ref q_53, .ref q_54, .ref q_55, .int (-1), .ref q_56, .ref q_57, .int 0, .ref q_58, .ref q_59, .ref q_60, .int 0, .int 0, .int 0, .ref q_61, .ref q_62, .ref q_63, .int 0, .int 0, .int 0, .int 0, .int 0, .int 0]))]) X hP hD hS hA (c92_Lt_letter l D aI aJ aZ _ (q_1) (q_32) ((xs 1)) (.ref q_2) (.ref q_7) (.ref q_8) (.ref q_17) (.ref q_21) (.ref q_23) (.ref q_28) (.int 0) (.ref q_8) (.ref q_23) (.ref q_33) (.int 0) (.int 0)) (kV_good t_940 t_937 t_938 t_939 t_97) rfl rfl (by decide +kernel) ⟨Nat.le_of_ble_eq_true rfl, Nat.le_of_ble_eq_true rfl⟩ hl.1 rfl rfl (Nat.le_of_ble_eq_true rfl) d_Law_law_390 ⟨Nat.le_of_ble_eq_true rfl, Nat.le_of_ble_eq_true rfl⟩ [0, 1] [2] rfl rfl (by decide) (by decide) (by decide) 0 rfl rfl (fun r_1003 u H locs w_1002 hP hD hS => ?_)
  have hP : va_P D classes [(q_35, .inr (10, [.int 0, .ref q_36, .int 0, .ref q_37, .ref q_38, .ref q_39, .int 0, .int 0, .int 0, .ref q_40, .ref q_41, .ref q_42, .ref q_43, .ref q_44, .ref q_45, .ref q_46, .int 0, .int 0, .ref q_47, .ref q_48, .ref q_49, .int 0, .int 0, .ref q_50, .ref q_51, .ref q_52, .ref q_53, .ref q_54, .ref q_55, .int (-1), .ref q_56, .ref q_57, .int 0, .ref q_58, .ref q_59, .ref q_60, .int 0, .int 0, .int 0, .ref q_61, .ref q_62, .ref q_63, .int 0, .int 0, .int 0, .int 0, .int 0, .int 0]))] H := hP
  have hD : va_D A [(q_35, .inr (10, [.int 0, .ref q_36, .int 0, .ref q_37, .ref q_38, .ref q_39, .int 0, .int 0, .int 0, .ref q_40, .ref q_41, .ref q_42, .ref q_43, .ref q_44, .ref q_45, .ref q_46, .int 0, .int 0, .ref q_47, .ref q_48, .ref q_49, .int 0, .int 0, .ref q_50, .ref q_51, .ref q_52, .ref q_53, .ref q_54, .ref q_55, .int (-1), .ref q_56, .ref q_57, .int 0, .ref q_58, .ref q_59, .ref q_60, .int 0, .int 0, .int 0, .ref q_61, .ref q_62, .ref q_63, .int 0, .int 0, .int 0, .int 0, .int 0, .int 0]))] := hD
  obtain rfl : r_1003 = (-1) := w_1002
  refine lv_aload_n hx hb d_Law_law_393 rfl (lv_at hl 1 rfl) ?_
  refine lv_aload_n hx hb d_Law_law_394 rfl (lv_at hl 3 rfl) ?_
  refine lv_iload_n hx hb d_Law_law_395 rfl (lv_at hl 0 rfl) ?_
  refine lv_iconst (v := 1) hx hb d_Law_law_396 (by decide) ?_
  refine lv_iadd hx hb d_Law_law_397 ?_
  refine lv_topi (fun z_1004 ez_1004 => ?_)
  obtain rfl : z_1004 = 1 := ez_1004.trans (by decide)
  refine va_sld hx hb hX hbl hbA hS (by unfold vp_in; decide) d_Law_law_398 ?_
  refine W.eq (g2 := F0 m 399 ls [.int (xs 1), .ref q_35, .int (-1)]) rfl ?_
  refine kVi (n := 1) (As := [.int (xs 1)]) (rest := [.int (-1)]) (wr := []) X hP hD hS hA (c93_Mo_letter l D aI aJ aZ _ (q_35) ((xs 1)) (.ref q_36) (.int 0) (.ref q_37) (.ref q_38) (.ref q_39) (.int 0) (.int 0) (.int 0) (.ref q_40) (.ref q_41) (.ref q_42) (.ref q_43) (.ref q_44) (.ref q_45) (.ref q_46) (.int 0) (.int 0) (.ref q_47) (.ref q_48) (.ref q_49) (.int 0) (.int 0) (.ref q_50) (.ref q_51) (.ref q_52) (.ref q_53) (.ref q_54) (.ref q_55) (.ref q_56) (.ref q_57) (.int 0) (.ref q_58) (.ref q_59) (.ref q_60) (.int 0) (.int 0) (.int 0) (.ref q_61) (.ref q_62) (.ref q_63) (.int 0) (.int 0) (.int 0) (.int 0) (.int 0) (.int 0)) (kV_good t_1418 t_1415 t_1416 t_1417 t_107) rfl rfl (by decide +kernel) ⟨Nat.le_of_ble_eq_true rfl, Nat.le_of_ble_eq_true rfl⟩ hl.1 rfl rfl (Nat.le_of_ble_eq_true rfl) d_Law_law_399 ⟨Nat.le_of_ble_eq_true rfl, Nat.le_of_ble_eq_true rfl⟩ [0] [] rfl rfl (by decide) (by decide) (by decide) 0 rfl rfl (fun r_1006 u H locs w_1005 hP hD hS => ?_)
  have hP : va_P D classes [] H := hP
  have hD : va_D A [] := hD
  obtain rfl : r_1006 = (-1) := w_1005
  refine lv_icmp_eq (tgt := 456) hx hb d_Law_law_402 (by decide) (fun c_1007 => ?_) (fun c_1007 => absurd (by decide) c_1007)
  refine lv_iinc (v := 4) (lv' := [(3, .int 4), (2, .ref q_35), (1, .ref q_1), (0, .ref b)]) hx hb d_Law_law_456 hl (k := 0) rfl (by decide) (by decide) rfl (fun ls hl => ?_)
  refine lv_goto (tgt := 18) hx hb d_Law_law_459 (by decide) ?_
  refine lv_iload_n hx hb d_Law_law_18 rfl (lv_at hl 0 rfl) ?_
  refine lv_aload_n hx hb d_Law_law_19 rfl (lv_at hl 3 rfl) ?_
  refine va_slen hx hb hX hbl hbA hS d_Law_law_20 ?_
  refine lv_topi (fun z_1008 ez_1008 => ?_)
  obtain rfl : z_1008 = 4 := ez_1008.trans (by decide)
  refine lv_iconst (v := 4) hx hb d_Law_law_21 (by decide) ?_
  refine lv_isub hx hb d_Law_law_22 ?_
  refine lv_topi (fun z_1009 ez_1009 => ?_)
  obtain rfl : z_1009 = 0 := ez_1009.trans (by decide)
  refine lv_icmp_gt (tgt := 462) hx hb d_Law_law_23 (by decide) (fun c_1010 => ?_) (fun c_1010 => absurd (by decide) c_1010)
  refine lv_iconst (v := 1) hx hb d_Law_law_462 (by decide) ?_
  subst hAe; refine va_forget (fun q hq => hS.2.2 q hq) ?_
  exact lw_ret hx hb hr hlocks d_Law_law_463
set_option maxHeartbeats 4000000 in
set_option maxRecDepth 100000 in
theorem law_case_10 {p : Program} {l : Launch} {e : Env} {s : State} {m : MethodId} {below : List Frame} {meth : Method} {c : Code} {b : Nat} {xs : Nat → Int32} {D : va_G} {aI aJ aZ : ClassId} (X : kX p s m #[Value.ref b] c code 4 "LayoutTokensLaw" D (kT aI aJ aZ)) (hr : meth.sig.returnType = ret) (hlocks : meth.locks = false) (hX : va_X b 4 xs s s.heap) (hbl : b < s.heap.size) {q_1 q_2 q_7 q_8 q_17 q_21 q_23 q_28 q_32 q_33 q_35 q_36 q_37 q_38 q_39 q_40 q_41 q_42 q_43 q_44 q_45 q_46 q_47 q_48 q_49 q_50 q_51 q_52 q_53 q_54 q_55 q_56 q_57 q_58 q_59 q_60 q_61 q_62 q_63 : Nat} {A : Nat → Prop} (hAe : A = fun q : Nat => s.heap.size ≤ q) {H : Heap} {locs : List Loc} (hP : va_P D classes [(q_1, .inr (9, [.ref q_2, .ref q_7, .ref q_8, .ref q_17, .ref q_21, .ref q_23, .ref q_28, .ref q_32, .int 0])), (q_32, .inr (8, [.ref q_8, .ref q_23, .ref q_33, .int (-1), .int 0, .int 0])), (q_35, .inr (10, [.int 0, .ref q_36, .int 0, .ref q_37, .ref q_38, .ref q_39, .int 0, .int 0, .int 0, .ref q_40, .ref q_41, .ref q_42, .ref q_43, .ref q_44, .ref q_45, .ref q_46, .int 0, .int 0, .ref q_47, .ref q_48, .ref q_49, .int 0, .int 0, .ref q_50, .ref q_51, .ref q_52, .ref q_53, .ref q_54, .ref q_55, .int (-1), .ref q_56, .ref q_57, .int 0, .ref q_58, .ref q_59, .ref q_60, .int 0, .int 0, .int 0, .ref q_61, .ref q_62, .ref q_63, .int 0, .int 0, .int 0, .int 0, .int 0, .int 0]))] H) (hD : va_D A [(q_1, .inr (9, [.ref q_2, .ref q_7, .ref q_8, .ref q_17, .ref q_21, .ref q_23, .ref q_28, .ref q_32, .int 0])), (q_32, .inr (8, [.ref q_8, .ref q_23, .ref q_33, .int (-1), .int 0, .int 0])), (q_35, .inr (10, [.int 0, .ref q_36, .int 0, .ref q_37, .ref q_38, .ref q_39, .int 0, .int 0, .int 0, .ref q_40, .ref q_41, .ref q_42, .ref q_43, .ref q_44, .ref q_45, .ref q_46, .int 0, .int 0, .ref q_47, .ref q_48, .ref q_49, .int 0, .int 0, .ref q_50, .ref q_51, .ref q_52, .ref q_53, .ref q_54, .ref q_55, .int (-1), .ref q_56, .ref q_57, .int 0, .ref q_58, .ref q_59, .ref q_60, .int 0, .int 0, .int 0, .ref q_61, .ref q_62, .ref q_63, .int 0, .int 0, .int 0, .int 0, .int 0, .int 0]))]) (hS : va_S A s.heap H locs) {ls : Array Slot} (hl : lv_has ls 4 [(3, .int 0), (2, .ref q_35), (1, .ref q_1), (0, .ref b)]) : W p l e room_1 s m #[Value.ref b] below meth c H locs 62 33204 (lw_Z below #[Value.ref b] s) (F0 m 407 ls []) := by
  have hx := X.1.1
  have hb := X.1.2.1
  have hown := X.1.2.2.2.1
  have hk := X.1.2.2.2.2
  have hA : ∀ q : Nat, s.heap.size ≤ q → A q := by rw [hAe]; exact fun _ h => h
  have hbA : ¬ A b := by rw [hAe]; exact Nat.not_le.mpr hbl
  refine lv_aload_n hx hb d_Law_law_407 rfl (lv_at hl 2 rfl) ?_
  refine kVi (n := 0) (As := []) (rest := []) (wr := [(q_35, .inr (10, [.int 0, .ref q_36, .int 0, .ref q_37, .ref q_38, .ref q_39, .int 0, .int 0, .int 0, .ref q_40, .ref q_41, .ref q_42, .ref q_43, .ref q_44, .ref q_45, .ref q_46, .int 0, .int 0, .ref q_47, .ref q_48, .ref q_49, .int 0, .int 0, .ref q_50, .ref q_51, .ref q_52, .ref q_53, .ref q_54, .ref q_55, .int (-1), .ref q_56, .ref q_57, .int 0, .ref q_58, .ref q_59, .ref q_60, .int 0, .int 0, .int 0, .ref q_61, .ref q_62, .ref q_63, .int 0, .int 0, .int 0, .int 0, .int 0, .int 0]))]) X hP hD hS hA (c95_Lt_back l D aI aJ aZ _ (q_1) (q_32) (.ref q_2) (.ref q_7) (.ref q_8) (.ref q_17) (.ref q_21) (.ref q_23) (.ref q_28) (.int 0) (.ref q_8) (.ref q_23) (.ref q_33) (.int 0) (.int 0)) (kV_good t_948 t_945 t_946 t_947 t_97) rfl rfl (by decide +kernel) ⟨Nat.le_of_ble_eq_true rfl, Nat.le_of_ble_eq_true rfl⟩ hl.1 rfl rfl (Nat.le_of_ble_eq_true rfl) d_Law_law_408 ⟨Nat.le_of_ble_eq_true rfl, Nat.le_of_ble_eq_true rfl⟩ [0, 1] [2] rfl rfl (by decide) (by decide) (by decide) 0 rfl rfl (fun r_1002 u H locs w_1001 hP hD hS => ?_)
  have hP : va_P D classes [(q_35, .inr (10, [.int 0, .ref q_36, .int 0, .ref q_37, .ref q_38, .ref q_39, .int 0, .int 0, .int 0, .ref q_40, .ref q_41, .ref q_42, .ref q_43, .ref q_44, .ref q_45, .ref q_46, .int 0, .int 0, .ref q_47, .ref q_48, .ref q_49, .int 0, .int 0, .ref q_50, .ref q_51, .ref q_52, .ref q_53, .ref q_54, .ref q_55, .int (-1), .ref q_56, .ref q_57, .int 0, .ref q_58, .ref q_59, .ref q_60, .int 0, .int 0, .int 0, .ref q_61, .ref q_62, .ref q_63, .int 0, .int 0, .int 0, .int 0, .int 0, .int 0]))] H := hP
  have hD : va_D A [(q_35, .inr (10, [.int 0, .ref q_36, .int 0, .ref q_37, .ref q_38, .ref q_39, .int 0, .int 0, .int 0, .ref q_40, .ref q_41, .ref q_42, .ref q_43, .ref q_44, .ref q_45, .ref q_46, .int 0, .int 0, .ref q_47, .ref q_48, .ref q_49, .int 0, .int 0, .ref q_50, .ref q_51, .ref q_52, .ref q_53, .ref q_54, .ref q_55, .int (-1), .ref q_56, .ref q_57, .int 0, .ref q_58, .ref q_59, .ref q_60, .int 0, .int 0, .int 0, .ref q_61, .ref q_62, .ref q_63, .int 0, .int 0, .int 0, .int 0, .int 0, .int 0]))] := hD
  obtain rfl : r_1002 = (-1) := w_1001
  refine lv_aload_n hx hb d_Law_law_411 rfl (lv_at hl 1 rfl) ?_
  refine kVi (n := 0) (As := []) (rest := [.int (-1)]) (wr := []) X hP hD hS hA (c96_Mo_back l D aI aJ aZ _ (q_35) (.ref q_36) (.int 0) (.ref q_37) (.ref q_38) (.ref q_39) (.int 0) (.int 0) (.int 0) (.ref q_40) (.ref q_41) (.ref q_42) (.ref q_43) (.ref q_44) (.ref q_45) (.ref q_46) (.int 0) (.int 0) (.ref q_47) (.ref q_48) (.ref q_49) (.int 0) (.int 0) (.ref q_50) (.ref q_51) (.ref q_52) (.ref q_53) (.ref q_54) (.ref q_55) (.ref q_56) (.ref q_57) (.int 0) (.ref q_58) (.ref q_59) (.ref q_60) (.int 0) (.int 0) (.int 0) (.ref q_61) (.ref q_62) (.ref q_63) (.int 0) (.int 0) (.int 0) (.int 0) (.int 0) (.int 0)) (kV_good t_1422 t_1419 t_1420 t_1421 t_107) rfl rfl (by decide +kernel) ⟨Nat.le_of_ble_eq_true rfl, Nat.le_of_ble_eq_true rfl⟩ hl.1 rfl rfl (Nat.le_of_ble_eq_true rfl) d_Law_law_412 ⟨Nat.le_of_ble_eq_true rfl, Nat.le_of_ble_eq_true rfl⟩ [0] [] rfl rfl (by decide) (by decide) (by decide) 0 rfl rfl (fun r_1004 u H locs w_1003 hP hD hS => ?_)
  have hP : va_P D classes [] H := hP
  have hD : va_D A [] := hD
  obtain rfl : r_1004 = (-1) := w_1003
  refine lv_icmp_eq (tgt := 456) hx hb d_Law_law_415 (by decide) (fun c_1005 => ?_) (fun c_1005 => absurd (by decide) c_1005)
  refine lv_iinc (v := 4) (lv' := [(3, .int 4), (2, .ref q_35), (1, .ref q_1), (0, .ref b)]) hx hb d_Law_law_456 hl (k := 0) rfl (by decide) (by decide) rfl (fun ls hl => ?_)
  refine lv_goto (tgt := 18) hx hb d_Law_law_459 (by decide) ?_
  refine lv_iload_n hx hb d_Law_law_18 rfl (lv_at hl 0 rfl) ?_
  refine lv_aload_n hx hb d_Law_law_19 rfl (lv_at hl 3 rfl) ?_
  refine va_slen hx hb hX hbl hbA hS d_Law_law_20 ?_
  refine lv_topi (fun z_1006 ez_1006 => ?_)
  obtain rfl : z_1006 = 4 := ez_1006.trans (by decide)
  refine lv_iconst (v := 4) hx hb d_Law_law_21 (by decide) ?_
  refine lv_isub hx hb d_Law_law_22 ?_
  refine lv_topi (fun z_1007 ez_1007 => ?_)
  obtain rfl : z_1007 = 0 := ez_1007.trans (by decide)
  refine lv_icmp_gt (tgt := 462) hx hb d_Law_law_23 (by decide) (fun c_1008 => ?_) (fun c_1008 => absurd (by decide) c_1008)
  refine lv_iconst (v := 1) hx hb d_Law_law_462 (by decide) ?_
  subst hAe; refine va_forget (fun q hq => hS.2.2 q hq) ?_
  exact lw_ret hx hb hr hlocks d_Law_law_463
set_option maxHeartbeats 4000000 in
set_option maxRecDepth 100000 in
theorem law_case_11 {p : Program} {l : Launch} {e : Env} {s : State} {m : MethodId} {below : List Frame} {meth : Method} {c : Code} {b : Nat} {xs : Nat → Int32} {D : va_G} {aI aJ aZ : ClassId} (X : kX p s m #[Value.ref b] c code 4 "LayoutTokensLaw" D (kT aI aJ aZ)) (hr : meth.sig.returnType = ret) (hlocks : meth.locks = false) (hX : va_X b 4 xs s s.heap) (hbl : b < s.heap.size) {q_1 q_2 q_7 q_8 q_17 q_21 q_23 q_28 q_32 q_3 q_4 q_5 q_6 q_18 q_19 q_20 q_24 q_25 q_26 q_27 q_35 q_36 q_37 q_38 q_39 q_40 q_41 q_42 q_43 q_44 q_45 q_46 q_47 q_48 q_49 q_50 q_51 q_52 q_53 q_54 q_55 q_56 q_57 q_58 q_59 q_60 q_61 q_62 q_63 : Nat} {A : Nat → Prop} (hAe : A = fun q : Nat => s.heap.size ≤ q) {H : Heap} {locs : List Loc} (hP : va_P D classes [(q_1, .inr (9, [.ref q_2, .ref q_7, .ref q_8, .ref q_17, .ref q_21, .ref q_23, .ref q_28, .ref q_32, .int 0])), (q_2, .inr (0, [.ref q_3, .ref q_4, .ref q_5, .ref q_6, .int 0])), (q_17, .inr (3, [.ref q_18, .ref q_19, .ref q_20, .int 0, .int 0])), (q_23, .inr (6, [.ref q_2, .ref q_24, .ref q_25, .ref q_26, .ref q_27, .int 0, .int 0, .int 0, .int (-1), .int (-1)])), (q_35, .inr (10, [.int 0, .ref q_36, .int 0, .ref q_37, .ref q_38, .ref q_39, .int 0, .int 0, .int 0, .ref q_40, .ref q_41, .ref q_42, .ref q_43, .ref q_44, .ref q_45, .ref q_46, .int 0, .int 0, .ref q_47, .ref q_48, .ref q_49, .int 0, .int 0, .ref q_50, .ref q_51, .ref q_52, .ref q_53, .ref q_54, .ref q_55, .int (-1), .ref q_56, .ref q_57, .int 0, .ref q_58, .ref q_59, .ref q_60, .int 0, .int 0, .int 0, .ref q_61, .ref q_62, .ref q_63, .int 0, .int 0, .int 0, .int 0, .int 0, .int 0]))] H) (hD : va_D A [(q_1, .inr (9, [.ref q_2, .ref q_7, .ref q_8, .ref q_17, .ref q_21, .ref q_23, .ref q_28, .ref q_32, .int 0])), (q_2, .inr (0, [.ref q_3, .ref q_4, .ref q_5, .ref q_6, .int 0])), (q_17, .inr (3, [.ref q_18, .ref q_19, .ref q_20, .int 0, .int 0])), (q_23, .inr (6, [.ref q_2, .ref q_24, .ref q_25, .ref q_26, .ref q_27, .int 0, .int 0, .int 0, .int (-1), .int (-1)])), (q_35, .inr (10, [.int 0, .ref q_36, .int 0, .ref q_37, .ref q_38, .ref q_39, .int 0, .int 0, .int 0, .ref q_40, .ref q_41, .ref q_42, .ref q_43, .ref q_44, .ref q_45, .ref q_46, .int 0, .int 0, .ref q_47, .ref q_48, .ref q_49, .int 0, .int 0, .ref q_50, .ref q_51, .ref q_52, .ref q_53, .ref q_54, .ref q_55, .int (-1), .ref q_56, .ref q_57, .int 0, .ref q_58, .ref q_59, .ref q_60, .int 0, .int 0, .int 0, .ref q_61, .ref q_62, .ref q_63, .int 0, .int 0, .int 0, .int 0, .int 0, .int 0]))]) (hS : va_S A s.heap H locs) {ls : Array Slot} (hl : lv_has ls 4 [(3, .int 0), (2, .ref q_35), (1, .ref q_1), (0, .ref b)]) : W p l e room_1 s m #[Value.ref b] below meth c H locs 62 33204 (lw_Z below #[Value.ref b] s) (F0 m 420 ls []) := by
  have hx := X.1.1
  have hb := X.1.2.1
  have hown := X.1.2.2.2.1
  have hk := X.1.2.2.2.2
  have hA : ∀ q : Nat, s.heap.size ≤ q → A q := by rw [hAe]; exact fun _ h => h
  have hbA : ¬ A b := by rw [hAe]; exact Nat.not_le.mpr hbl
  refine lv_aload_n hx hb d_Law_law_420 rfl (lv_at hl 2 rfl) ?_
  refine lv_aload_n hx hb d_Law_law_421 rfl (lv_at hl 3 rfl) ?_
  refine lv_iload_n hx hb d_Law_law_422 rfl (lv_at hl 0 rfl) ?_
  refine lv_iconst (v := 1) hx hb d_Law_law_423 (by decide) ?_
  refine lv_iadd hx hb d_Law_law_424 ?_
  refine lv_topi (fun z_1001 ez_1001 => ?_)
  obtain rfl : z_1001 = 1 := ez_1001.trans (by decide)
  refine va_sld hx hb hX hbl hbA hS (by unfold vp_in; decide) d_Law_law_425 ?_
  refine W.eq (g2 := F0 m 426 ls [.int (xs 1), .ref q_1]) rfl ?_
  refine kVi (n := 1) (As := [.int (xs 1)]) (rest := []) (wr := [(q_35, .inr (10, [.int 0, .ref q_36, .int 0, .ref q_37, .ref q_38, .ref q_39, .int 0, .int 0, .int 0, .ref q_40, .ref q_41, .ref q_42, .ref q_43, .ref q_44, .ref q_45, .ref q_46, .int 0, .int 0, .ref q_47, .ref q_48, .ref q_49, .int 0, .int 0, .ref q_50, .ref q_51, .ref q_52, .ref q_53, .ref q_54, .ref q_55, .int (-1), .ref q_56, .ref q_57, .int 0, .ref q_58, .ref q_59, .ref q_60, .int 0, .int 0, .int 0, .ref q_61, .ref q_62, .ref q_63, .int 0, .int 0, .int 0, .int 0, .int 0, .int 0]))]) X hP hD hS hA (c102_Lt_told l D aI aJ aZ _ (q_1) (q_2) (q_23) (q_17) ((xs 1)) (.ref q_7) (.ref q_8) (.ref q_21) (.ref q_28) (.ref q_32) (.ref q_3) (.ref q_4) (.ref q_5) (.ref q_6) (.ref q_2) (.ref q_24) (.ref q_25) (.ref q_26) (.ref q_27) (.int (-1)) (.int (-1)) (.ref q_18) (.ref q_19) (.ref q_20)) (kV_good t_960 t_957 t_958 t_959 t_97) rfl rfl (by decide +kernel) ⟨Nat.le_of_ble_eq_true rfl, Nat.le_of_ble_eq_true rfl⟩ hl.1 rfl rfl (Nat.le_of_ble_eq_true rfl) d_Law_law_426 ⟨Nat.le_of_ble_eq_true rfl, Nat.le_of_ble_eq_true rfl⟩ [0, 1, 3, 2] [4] rfl rfl (by decide) (by decide) (by decide) 0 rfl rfl (fun r_1003 u H locs w_1002 hP hD hS => ?_)
  have hP : va_P D classes [(q_35, .inr (10, [.int 0, .ref q_36, .int 0, .ref q_37, .ref q_38, .ref q_39, .int 0, .int 0, .int 0, .ref q_40, .ref q_41, .ref q_42, .ref q_43, .ref q_44, .ref q_45, .ref q_46, .int 0, .int 0, .ref q_47, .ref q_48, .ref q_49, .int 0, .int 0, .ref q_50, .ref q_51, .ref q_52, .ref q_53, .ref q_54, .ref q_55, .int (-1), .ref q_56, .ref q_57, .int 0, .ref q_58, .ref q_59, .ref q_60, .int 0, .int 0, .int 0, .ref q_61, .ref q_62, .ref q_63, .int 0, .int 0, .int 0, .int 0, .int 0, .int 0]))] H := hP
  have hD : va_D A [(q_35, .inr (10, [.int 0, .ref q_36, .int 0, .ref q_37, .ref q_38, .ref q_39, .int 0, .int 0, .int 0, .ref q_40, .ref q_41, .ref q_42, .ref q_43, .ref q_44, .ref q_45, .ref q_46, .int 0, .int 0, .ref q_47, .ref q_48, .ref q_49, .int 0, .int 0, .ref q_50, .ref q_51, .ref q_52, .ref q_53, .ref q_54, .ref q_55, .int (-1), .ref q_56, .ref q_57, .int 0, .ref q_58, .ref q_59, .ref q_60, .int 0, .int 0, .int 0, .ref q_61, .ref q_62, .ref q_63, .int 0, .int 0, .int 0, .int 0, .int 0, .int 0]))] := hD
  refine lv_aload_n hx hb d_Law_law_429 rfl (lv_at hl 1 rfl) ?_
  refine lv_aload_n hx hb d_Law_law_430 rfl (lv_at hl 3 rfl) ?_
  refine lv_iload_n hx hb d_Law_law_431 rfl (lv_at hl 0 rfl) ?_
  refine lv_iconst (v := 1) hx hb d_Law_law_432 (by decide) ?_
  refine lv_iadd hx hb d_Law_law_433 ?_
  refine lv_topi (fun z_1004 ez_1004 => ?_)
  obtain rfl : z_1004 = 1 := ez_1004.trans (by decide)
  refine va_sld hx hb hX hbl hbA hS (by unfold vp_in; decide) d_Law_law_434 ?_
  refine W.eq (g2 := F0 m 435 ls [.int (xs 1), .ref q_35, .int r_1003]) rfl ?_
  refine kVi (n := 1) (As := [.int (xs 1)]) (rest := [.int r_1003]) (wr := []) X hP hD hS hA (c103_Mo_told l D aI aJ aZ _ (q_35) ((xs 1)) (.ref q_36) (.ref q_37) (.ref q_38) (.ref q_39) (.int 0) (.int 0) (.ref q_40) (.ref q_41) (.ref q_42) (.ref q_43) (.ref q_44) (.ref q_45) (.ref q_46) (.int 0) (.ref q_47) (.ref q_48) (.ref q_49) (.ref q_50) (.ref q_51) (.ref q_52) (.ref q_53) (.ref q_54) (.ref q_55) (.int (-1)) (.ref q_56) (.ref q_57) (.int 0) (.ref q_58) (.ref q_59) (.ref q_60) (.int 0) (.int 0) (.int 0) (.ref q_61) (.ref q_62) (.ref q_63) (.int 0) (.int 0) (.int 0) (.int 0) (.int 0) (.int 0)) (kV_good t_1426 t_1423 t_1424 t_1425 t_107) rfl rfl (by decide +kernel) ⟨Nat.le_of_ble_eq_true rfl, Nat.le_of_ble_eq_true rfl⟩ hl.1 rfl rfl (Nat.le_of_ble_eq_true rfl) d_Law_law_435 ⟨Nat.le_of_ble_eq_true rfl, Nat.le_of_ble_eq_true rfl⟩ [0] [] rfl rfl (by decide) (by decide) (by decide) 0 rfl rfl (fun r_1006 u H locs w_1005 hP hD hS => ?_)
  have hP : va_P D classes [] H := hP
  have hD : va_D A [] := hD
  refine lv_icmp_eq (tgt := 456) hx hb d_Law_law_438 (by decide) (fun c_1007 => ?_) (fun c_1007 => absurd (w_1002.trans w_1005.symm) c_1007)
  refine lv_iinc (v := 4) (lv' := [(3, .int 4), (2, .ref q_35), (1, .ref q_1), (0, .ref b)]) hx hb d_Law_law_456 hl (k := 0) rfl (by decide) (by decide) rfl (fun ls hl => ?_)
  refine lv_goto (tgt := 18) hx hb d_Law_law_459 (by decide) ?_
  refine lv_iload_n hx hb d_Law_law_18 rfl (lv_at hl 0 rfl) ?_
  refine lv_aload_n hx hb d_Law_law_19 rfl (lv_at hl 3 rfl) ?_
  refine va_slen hx hb hX hbl hbA hS d_Law_law_20 ?_
  refine lv_topi (fun z_1008 ez_1008 => ?_)
  obtain rfl : z_1008 = 4 := ez_1008.trans (by decide)
  refine lv_iconst (v := 4) hx hb d_Law_law_21 (by decide) ?_
  refine lv_isub hx hb d_Law_law_22 ?_
  refine lv_topi (fun z_1009 ez_1009 => ?_)
  obtain rfl : z_1009 = 0 := ez_1009.trans (by decide)
  refine lv_icmp_gt (tgt := 462) hx hb d_Law_law_23 (by decide) (fun c_1010 => ?_) (fun c_1010 => absurd (by decide) c_1010)
  refine lv_iconst (v := 1) hx hb d_Law_law_462 (by decide) ?_
  subst hAe; refine va_forget (fun q hq => hS.2.2 q hq) ?_
  exact lw_ret hx hb hr hlocks d_Law_law_463
set_option maxHeartbeats 4000000 in
set_option maxRecDepth 100000 in
theorem law_case_12 {p : Program} {l : Launch} {e : Env} {s : State} {m : MethodId} {below : List Frame} {meth : Method} {c : Code} {b : Nat} {xs : Nat → Int32} {D : va_G} {aI aJ aZ : ClassId} (X : kX p s m #[Value.ref b] c code 4 "LayoutTokensLaw" D (kT aI aJ aZ)) (hr : meth.sig.returnType = ret) (hlocks : meth.locks = false) (hX : va_X b 4 xs s s.heap) (hbl : b < s.heap.size) {q_1 q_2 q_7 q_8 q_17 q_21 q_23 q_28 q_32 q_3 q_4 q_5 q_6 q_9 q_10 q_11 q_12 q_13 q_14 q_15 q_16 q_18 q_19 q_20 q_24 q_25 q_26 q_27 q_35 q_36 q_37 q_38 q_39 q_40 q_41 q_42 q_43 q_44 q_45 q_46 q_47 q_48 q_49 q_50 q_51 q_52 q_53 q_54 q_55 q_56 q_57 q_58 q_59 q_60 q_61 q_62 q_63 : Nat} {A : Nat → Prop} (hAe : A = fun q : Nat => s.heap.size ≤ q) {H : Heap} {locs : List Loc} (hP : va_P D classes [(q_1, .inr (9, [.ref q_2, .ref q_7, .ref q_8, .ref q_17, .ref q_21, .ref q_23, .ref q_28, .ref q_32, .int 0])), (q_2, .inr (0, [.ref q_3, .ref q_4, .ref q_5, .ref q_6, .int 0])), (q_8, .inr (2, [.ref q_2, .ref q_9, .ref q_10, .ref q_11, .ref q_12, .ref q_13, .ref q_14, .ref q_15, .ref q_16, .int 0, .int 0])), (q_17, .inr (3, [.ref q_18, .ref q_19, .ref q_20, .int 0, .int 0])), (q_23, .inr (6, [.ref q_2, .ref q_24, .ref q_25, .ref q_26, .ref q_27, .int 0, .int 0, .int 0, .int (-1), .int (-1)])), (q_35, .inr (10, [.int 0, .ref q_36, .int 0, .ref q_37, .ref q_38, .ref q_39, .int 0, .int 0, .int 0, .ref q_40, .ref q_41, .ref q_42, .ref q_43, .ref q_44, .ref q_45, .ref q_46, .int 0, .int 0, .ref q_47, .ref q_48, .ref q_49, .int 0, .int 0, .ref q_50, .ref q_51, .ref q_52, .ref q_53, .ref q_54, .ref q_55, .int (-1), .ref q_56, .ref q_57, .int 0, .ref q_58, .ref q_59, .ref q_60, .int 0, .int 0, .int 0, .ref q_61, .ref q_62, .ref q_63, .int 0, .int 0, .int 0, .int 0, .int 0, .int 0]))] H) (hD : va_D A [(q_1, .inr (9, [.ref q_2, .ref q_7, .ref q_8, .ref q_17, .ref q_21, .ref q_23, .ref q_28, .ref q_32, .int 0])), (q_2, .inr (0, [.ref q_3, .ref q_4, .ref q_5, .ref q_6, .int 0])), (q_8, .inr (2, [.ref q_2, .ref q_9, .ref q_10, .ref q_11, .ref q_12, .ref q_13, .ref q_14, .ref q_15, .ref q_16, .int 0, .int 0])), (q_17, .inr (3, [.ref q_18, .ref q_19, .ref q_20, .int 0, .int 0])), (q_23, .inr (6, [.ref q_2, .ref q_24, .ref q_25, .ref q_26, .ref q_27, .int 0, .int 0, .int 0, .int (-1), .int (-1)])), (q_35, .inr (10, [.int 0, .ref q_36, .int 0, .ref q_37, .ref q_38, .ref q_39, .int 0, .int 0, .int 0, .ref q_40, .ref q_41, .ref q_42, .ref q_43, .ref q_44, .ref q_45, .ref q_46, .int 0, .int 0, .ref q_47, .ref q_48, .ref q_49, .int 0, .int 0, .ref q_50, .ref q_51, .ref q_52, .ref q_53, .ref q_54, .ref q_55, .int (-1), .ref q_56, .ref q_57, .int 0, .ref q_58, .ref q_59, .ref q_60, .int 0, .int 0, .int 0, .ref q_61, .ref q_62, .ref q_63, .int 0, .int 0, .int 0, .int 0, .int 0, .int 0]))]) (hS : va_S A s.heap H locs) {ls : Array Slot} (hl : lv_has ls 4 [(3, .int 0), (2, .ref q_35), (1, .ref q_1), (0, .ref b)]) : W p l e room_1 s m #[Value.ref b] below meth c H locs 62 33204 (lw_Z below #[Value.ref b] s) (F0 m 443 ls []) := by
  have hx := X.1.1
  have hb := X.1.2.1
  have hown := X.1.2.2.2.1
  have hk := X.1.2.2.2.2
  have hA : ∀ q : Nat, s.heap.size ≤ q → A q := by rw [hAe]; exact fun _ h => h
  have hbA : ¬ A b := by rw [hAe]; exact Nat.not_le.mpr hbl
  refine lv_aload_n hx hb d_Law_law_443 rfl (lv_at hl 2 rfl) ?_
  refine kVi (n := 0) (As := []) (rest := []) (wr := [(q_35, .inr (10, [.int 0, .ref q_36, .int 0, .ref q_37, .ref q_38, .ref q_39, .int 0, .int 0, .int 0, .ref q_40, .ref q_41, .ref q_42, .ref q_43, .ref q_44, .ref q_45, .ref q_46, .int 0, .int 0, .ref q_47, .ref q_48, .ref q_49, .int 0, .int 0, .ref q_50, .ref q_51, .ref q_52, .ref q_53, .ref q_54, .ref q_55, .int (-1), .ref q_56, .ref q_57, .int 0, .ref q_58, .ref q_59, .ref q_60, .int 0, .int 0, .int 0, .ref q_61, .ref q_62, .ref q_63, .int 0, .int 0, .int 0, .int 0, .int 0, .int 0]))]) X hP hD hS hA (c105_Lt_clear l D aI aJ aZ _ (q_1) (q_2) (q_23) (q_8) (q_17) (.ref q_7) (.ref q_21) (.ref q_28) (.ref q_32) (.ref q_3) (.ref q_4) (.ref q_5) (.ref q_6) (.ref q_2) (.ref q_24) (.ref q_25) (.ref q_26) (.ref q_27) (.int (-1)) (.int (-1)) (.ref q_2) (.ref q_9) (.ref q_10) (.ref q_11) (.ref q_12) (.ref q_13) (.ref q_14) (.ref q_15) (.ref q_16) (.ref q_18) (.ref q_19) (.ref q_20)) (kV_good t_981 t_978 t_979 t_980 t_97) rfl rfl (by decide +kernel) ⟨Nat.le_of_ble_eq_true rfl, Nat.le_of_ble_eq_true rfl⟩ hl.1 rfl rfl (Nat.le_of_ble_eq_true rfl) d_Law_law_444 ⟨Nat.le_of_ble_eq_true rfl, Nat.le_of_ble_eq_true rfl⟩ [0, 1, 4, 2, 3] [5] rfl rfl (by decide) (by decide) (by decide) 0 rfl rfl (fun r_1002 u H locs w_1001 hP hD hS => ?_)
  have hP : va_P D classes [(q_35, .inr (10, [.int 0, .ref q_36, .int 0, .ref q_37, .ref q_38, .ref q_39, .int 0, .int 0, .int 0, .ref q_40, .ref q_41, .ref q_42, .ref q_43, .ref q_44, .ref q_45, .ref q_46, .int 0, .int 0, .ref q_47, .ref q_48, .ref q_49, .int 0, .int 0, .ref q_50, .ref q_51, .ref q_52, .ref q_53, .ref q_54, .ref q_55, .int (-1), .ref q_56, .ref q_57, .int 0, .ref q_58, .ref q_59, .ref q_60, .int 0, .int 0, .int 0, .ref q_61, .ref q_62, .ref q_63, .int 0, .int 0, .int 0, .int 0, .int 0, .int 0]))] H := hP
  have hD : va_D A [(q_35, .inr (10, [.int 0, .ref q_36, .int 0, .ref q_37, .ref q_38, .ref q_39, .int 0, .int 0, .int 0, .ref q_40, .ref q_41, .ref q_42, .ref q_43, .ref q_44, .ref q_45, .ref q_46, .int 0, .int 0, .ref q_47, .ref q_48, .ref q_49, .int 0, .int 0, .ref q_50, .ref q_51, .ref q_52, .ref q_53, .ref q_54, .ref q_55, .int (-1), .ref q_56, .ref q_57, .int 0, .ref q_58, .ref q_59, .ref q_60, .int 0, .int 0, .int 0, .ref q_61, .ref q_62, .ref q_63, .int 0, .int 0, .int 0, .int 0, .int 0, .int 0]))] := hD
  obtain rfl : r_1002 = 0 := w_1001
  refine lv_aload_n hx hb d_Law_law_447 rfl (lv_at hl 1 rfl) ?_
  refine kVi (n := 0) (As := []) (rest := [.int 0]) (wr := []) X hP hD hS hA (c106_Mo_clear l D aI aJ aZ _ (q_35) (.ref q_36) (.ref q_37) (.ref q_38) (.ref q_39) (.int 0) (.ref q_40) (.ref q_41) (.ref q_42) (.ref q_43) (.ref q_44) (.ref q_45) (.ref q_46) (.int 0) (.ref q_47) (.ref q_48) (.ref q_49) (.ref q_50) (.ref q_51) (.ref q_52) (.ref q_53) (.ref q_54) (.ref q_55) (.int (-1)) (.ref q_56) (.ref q_57) (.int 0) (.ref q_58) (.ref q_59) (.ref q_60) (.int 0) (.int 0) (.int 0) (.ref q_61) (.ref q_62) (.ref q_63) (.int 0) (.int 0) (.int 0) (.int 0) (.int 0) (.int 0)) (kV_good t_1430 t_1427 t_1428 t_1429 t_107) rfl rfl (by decide +kernel) ⟨Nat.le_of_ble_eq_true rfl, Nat.le_of_ble_eq_true rfl⟩ hl.1 rfl rfl (Nat.le_of_ble_eq_true rfl) d_Law_law_448 ⟨Nat.le_of_ble_eq_true rfl, Nat.le_of_ble_eq_true rfl⟩ [0] [] rfl rfl (by decide) (by decide) (by decide) 0 rfl rfl (fun r_1004 u H locs w_1003 hP hD hS => ?_)
  have hP : va_P D classes [] H := hP
  have hD : va_D A [] := hD
  obtain rfl : r_1004 = 0 := w_1003
  refine lv_icmp_eq (tgt := 456) hx hb d_Law_law_451 (by decide) (fun c_1005 => ?_) (fun c_1005 => absurd (by decide) c_1005)
  refine lv_iinc (v := 4) (lv' := [(3, .int 4), (2, .ref q_35), (1, .ref q_1), (0, .ref b)]) hx hb d_Law_law_456 hl (k := 0) rfl (by decide) (by decide) rfl (fun ls hl => ?_)
  refine lv_goto (tgt := 18) hx hb d_Law_law_459 (by decide) ?_
  refine lv_iload_n hx hb d_Law_law_18 rfl (lv_at hl 0 rfl) ?_
  refine lv_aload_n hx hb d_Law_law_19 rfl (lv_at hl 3 rfl) ?_
  refine va_slen hx hb hX hbl hbA hS d_Law_law_20 ?_
  refine lv_topi (fun z_1006 ez_1006 => ?_)
  obtain rfl : z_1006 = 4 := ez_1006.trans (by decide)
  refine lv_iconst (v := 4) hx hb d_Law_law_21 (by decide) ?_
  refine lv_isub hx hb d_Law_law_22 ?_
  refine lv_topi (fun z_1007 ez_1007 => ?_)
  obtain rfl : z_1007 = 0 := ez_1007.trans (by decide)
  refine lv_icmp_gt (tgt := 462) hx hb d_Law_law_23 (by decide) (fun c_1008 => ?_) (fun c_1008 => absurd (by decide) c_1008)
  refine lv_iconst (v := 1) hx hb d_Law_law_462 (by decide) ?_
  subst hAe; refine va_forget (fun q hq => hS.2.2 q hq) ?_
  exact lw_ret hx hb hr hlocks d_Law_law_463
set_option maxHeartbeats 4000000 in
set_option maxRecDepth 100000 in
theorem law_case_d {p : Program} {l : Launch} {e : Env} {s : State} {m : MethodId} {below : List Frame} {meth : Method} {c : Code} {b : Nat} {xs : Nat → Int32} {D : va_G} {aI aJ aZ : ClassId} (X : kX p s m #[Value.ref b] c code 4 "LayoutTokensLaw" D (kT aI aJ aZ)) (hr : meth.sig.returnType = ret) (hlocks : meth.locks = false) (hX : va_X b 4 xs s s.heap) (hbl : b < s.heap.size) {q_35 q_1 : Nat} {A : Nat → Prop} (hAe : A = fun q : Nat => s.heap.size ≤ q) {H : Heap} {locs : List Loc} (hP : va_P D classes [] H) (hD : va_D A []) (hS : va_S A s.heap H locs) {ls : Array Slot} (hl : lv_has ls 4 [(3, .int 0), (2, .ref q_35), (1, .ref q_1), (0, .ref b)]) : W p l e room_1 s m #[Value.ref b] below meth c H locs 62 33204 (lw_Z below #[Value.ref b] s) (F0 m 456 ls []) := by
  have hx := X.1.1
  have hb := X.1.2.1
  have hown := X.1.2.2.2.1
  have hk := X.1.2.2.2.2
  have hA : ∀ q : Nat, s.heap.size ≤ q → A q := by rw [hAe]; exact fun _ h => h
  have hbA : ¬ A b := by rw [hAe]; exact Nat.not_le.mpr hbl
  refine lv_iinc (v := 4) (lv' := [(3, .int 4), (2, .ref q_35), (1, .ref q_1), (0, .ref b)]) hx hb d_Law_law_456 hl (k := 0) rfl (by decide) (by decide) rfl (fun ls hl => ?_)
  refine lv_goto (tgt := 18) hx hb d_Law_law_459 (by decide) ?_
  refine lv_iload_n hx hb d_Law_law_18 rfl (lv_at hl 0 rfl) ?_
  refine lv_aload_n hx hb d_Law_law_19 rfl (lv_at hl 3 rfl) ?_
  refine va_slen hx hb hX hbl hbA hS d_Law_law_20 ?_
  refine lv_topi (fun z_1001 ez_1001 => ?_)
  obtain rfl : z_1001 = 4 := ez_1001.trans (by decide)
  refine lv_iconst (v := 4) hx hb d_Law_law_21 (by decide) ?_
  refine lv_isub hx hb d_Law_law_22 ?_
  refine lv_topi (fun z_1002 ez_1002 => ?_)
  obtain rfl : z_1002 = 0 := ez_1002.trans (by decide)
  refine lv_icmp_gt (tgt := 462) hx hb d_Law_law_23 (by decide) (fun c_1003 => ?_) (fun c_1003 => absurd (by decide) c_1003)
  refine lv_iconst (v := 1) hx hb d_Law_law_462 (by decide) ?_
  subst hAe; refine va_forget (fun q hq => hS.2.2 q hq) ?_
  exact lw_ret hx hb hr hlocks d_Law_law_463
