set_option maxHeartbeats 4000000 in
set_option maxRecDepth 100000 in
theorem c31_Mo_octets (l : Launch) (D : va_G) (aI aJ aZ : ClassId) (sz : Nat) (h0 : Nat) (h1 : Nat) (p0 : Int32) (p1 : Int64) (v2 : Value) (v3 : Value) (v4 : Value) (v5 : Value) (v6 : Value) (v7 : Value) (v8 : Value) (v9 : Value) (v10 : Value) (v11 : Value) (v12 : Value) (v13 : Value) (v14 : Value) (v15 : Value) (v16 : Value) (v17 : Value) (v18 : Value) (v19 : Value) (v20 : Value) (v21 : Value) (v22 : Value) (v23 : Value) (v24 : Value) (v25 : Value) (v26 : Value) (v27 : Value) (v28 : Value) (v29 : Value) (v30 : Value) (v31 : Value) (v32 : Value) (v33 : Value) (v34 : Value) (v35 : Value) (v36 : Value) (v37 : Value) (v38 : Value) (v39 : Value) (v40 : Value) (v41 : Value) (g42 : Nat → Int32) : Met l y_Mo_octets (kq y_Mo_octets prog_12_method_4_code 5 (some .int)) { frames := 1, cells := 0, slots := 0, locals := 20 } (va_Pc [.ref h0, .int p0, .long p1] (kPre D (kT aI aJ aZ) [(h0, .inr (10, [.int 0, .ref h1, .int 0, v2, v3, v4, .int 0, v5, .int 0, v6, v7, v8, v9, v10, v11, v12, v13, .int 0, v14, v15, v16, .int 0, .int 0, v17, v18, v19, v20, v21, v22, v23, v24, v25, v26, v27, v28, v29, v30, v31, v32, v33, v34, v35, v36, v37, v38, v39, v40, v41])), (h1, .inl (aI, 601, .inl g42))] sz)) (va_Qi (fun (r : Int32) (_ : Unit) => r = koct p0) (fun u => kB D (va_A [(h0, .inr (10, [.int 0, .ref h1, .int 0, v2, v3, v4, .int 0, v5, .int 0, v6, v7, v8, v9, v10, v11, v12, v13, .int 0, v14, v15, v16, .int 0, .int 0, v17, v18, v19, v20, v21, v22, v23, v24, v25, v26, v27, v28, v29, v30, v31, v32, v33, v34, v35, v36, v37, v38, v39, v40, v41])), (h1, .inl (aI, 601, .inl g42))] sz) ((fun (_ : Unit) => ([] : va_W)) u)) (va_A [(h0, .inr (10, [.int 0, .ref h1, .int 0, v2, v3, v4, .int 0, v5, .int 0, v6, v7, v8, v9, v10, v11, v12, v13, .int 0, v14, v15, v16, .int 0, .int 0, v17, v18, v19, v20, v21, v22, v23, v24, v25, v26, v27, v28, v29, v30, v31, v32, v33, v34, v35, v36, v37, v38, v39, v40, v41])), (h1, .inl (aI, 601, .inl g42))] sz)) 0 0 (va_A [(h0, .inr (10, [.int 0, .ref h1, .int 0, v2, v3, v4, .int 0, v5, .int 0, v6, v7, v8, v9, v10, v11, v12, v13, .int 0, v14, v15, v16, .int 0, .int 0, v17, v18, v19, v20, v21, v22, v23, v24, v25, v26, v27, v28, v29, v30, v31, v32, v33, v34, v35, v36, v37, v38, v39, v40, v41])), (h1, .inl (aI, 601, .inl g42))] sz) := by
  refine kMet (y := y_Mo_octets) (bytes := prog_12_method_4_code) (maxL := 5) (ret := (some .int)) (av := [.ref h0, .int p0, .long p1]) (ws := [(h0, .inr (10, [.int 0, .ref h1, .int 0, v2, v3, v4, .int 0, v5, .int 0, v6, v7, v8, v9, v10, v11, v12, v13, .int 0, v14, v15, v16, .int 0, .int 0, v17, v18, v19, v20, v21, v22, v23, v24, v25, v26, v27, v28, v29, v30, v31, v32, v33, v34, v35, v36, v37, v38, v39, v40, v41])), (h1, .inl (aI, 601, .inl g42))]) (Qc := fun A => va_Qi (fun (r : Int32) (_ : Unit) => r = koct p0) (fun u => kB D A ((fun (_ : Unit) => ([] : va_W)) u)) A) "LayoutTokensModel" "octets" (by decide) rfl rfl (Nat.le_of_ble_eq_true rfl) ?_
  intro p e s m below meth c A ls X hr hlocks hin hA hP hD hl
  have hx := X.1.1
  have hb := X.1.2.1
  have hown := X.1.2.2.2.1
  have hk := X.1.2.2.2.2
  have hS : va_S A s.heap s.heap [] := va_S.rf
  have hl : lv_has ls 5 [(0, .ref h0), (1, .int p0), (2, .long p1)] := hl
  refine lv_aload_n hx hb d_Mo_octets_0 rfl (lv_at hl 0 rfl) ?_
  refine lv_iconst (v := 0) hx hb d_Mo_octets_1 (by decide) ?_
  refine kput X hP hD hS 0 rfl rfl i_Mo ty_Mo ty_Mo_ok nm_Mo 0 (by decide) t_988 rfl (v := .int 0) rfl rfl (Nat.le_of_ble_eq_true rfl) d_Mo_octets_2 (fun H locs hP hD hS => ?_)
  have hP : va_P D classes [(h0, .inr (10, [.int 0, .ref h1, .int 0, v2, v3, v4, .int 0, v5, .int 0, v6, v7, v8, v9, v10, v11, v12, v13, .int 0, v14, v15, v16, .int 0, .int 0, v17, v18, v19, v20, v21, v22, v23, v24, v25, v26, v27, v28, v29, v30, v31, v32, v33, v34, v35, v36, v37, v38, v39, v40, v41])), (h1, .inl (aI, 601, .inl g42))] H := hP
  have hD : va_D A [(h0, .inr (10, [.int 0, .ref h1, .int 0, v2, v3, v4, .int 0, v5, .int 0, v6, v7, v8, v9, v10, v11, v12, v13, .int 0, v14, v15, v16, .int 0, .int 0, v17, v18, v19, v20, v21, v22, v23, v24, v25, v26, v27, v28, v29, v30, v31, v32, v33, v34, v35, v36, v37, v38, v39, v40, v41])), (h1, .inl (aI, 601, .inl g42))] := hD
  refine lv_iload_n hx hb d_Mo_octets_5 rfl (lv_at hl 1 rfl) ?_
  refine lv_iconst (v := 1) hx hb d_Mo_octets_6 (by decide) ?_
  refine lv_icmp_lt (tgt := 28) hx hb d_Mo_octets_7 (by decide) (fun c_1 => ?_) (fun c_1 => ?_)
  · refine lv_iconst (v := (-1)) hx hb d_Mo_octets_28 (by decide) ?_
    exact kri X hr hlocks hS () (koct_lo c_1) (hP.sub [] rfl) (hD.sub [] (by decide) rfl) d_Mo_octets_29
  · refine lv_iload_n hx hb d_Mo_octets_10 rfl (lv_at hl 1 rfl) ?_
    refine lv_bipush (v := 8) hx hb d_Mo_octets_11 (by decide) ?_
    refine lv_icmp_gt (tgt := 28) hx hb d_Mo_octets_13 (by decide) (fun c_2 => ?_) (fun c_2 => ?_)
    · refine lv_iconst (v := (-1)) hx hb d_Mo_octets_28 (by decide) ?_
      exact kri X hr hlocks hS () (koct_hi c_2) (hP.sub [] rfl) (hD.sub [] (by decide) rfl) d_Mo_octets_29
    · refine lv_aload_n hx hb d_Mo_octets_16 rfl (lv_at hl 0 rfl) ?_
      refine kget X hP 0 rfl rfl i_Mo 2 (by decide) t_990 rfl (v := .int 0) rfl d_Mo_octets_17 ?_
      refine lv_iload_n hx hb d_Mo_octets_20 rfl (lv_at hl 1 rfl) ?_
      refine lv_iadd hx hb d_Mo_octets_21 ?_
      refine W.eq (g2 := F0 m 22 ls [.int p0]) (by rw [Int32.zero_add]) ?_
      refine lv_sipush (v := 600) hx hb d_Mo_octets_22 (by decide) ?_
      refine lv_icmp_le (tgt := 30) hx hb d_Mo_octets_25 (by decide) (fun c_3 => ?_) (fun c_3 => ?_)
      · refine lv_iconst (v := 0) hx hb d_Mo_octets_30 (by decide) ?_
        refine lv_istore (lv' := [(4, .int 0), (0, .ref h0), (1, .int p0), (2, .long p1)]) hx hb d_Mo_octets_31 hl (by decide) rfl (fun ls hl => ?_)
        refine lv_iload hx hb d_Mo_octets_33 (lv_at hl 0 rfl) ?_
        refine lv_iload_n hx hb d_Mo_octets_35 rfl (lv_at hl 2 rfl) ?_
        refine lv_icmp_ge (tgt := 76) hx hb d_Mo_octets_36 (by decide) (fun c_4 => ?_) (fun c_4 => ?_)
        · exfalso
          first
            | contradiction
            | (simp only [Int32.lt_iff_toInt_lt, Int32.le_iff_toInt_le, kz_m1, kz_0, kz_1, kz_2, kz_3, kz_4, kz_5, kz_6, kz_7, kz_8, kz_600] at c_1 c_2 c_3 c_4; omega)
        · refine lv_aload_n hx hb d_Mo_octets_39 rfl (lv_at hl 1 rfl) ?_
          refine kget X hP 0 rfl rfl i_Mo 1 (by decide) t_989 rfl (v := .ref h1) rfl d_Mo_octets_40 ?_
          refine lv_aload_n hx hb d_Mo_octets_43 rfl (lv_at hl 1 rfl) ?_
          refine kget X hP 0 rfl rfl i_Mo 2 (by decide) t_990 rfl (v := .int 0) rfl d_Mo_octets_44 ?_
          refine lv_lload_n hx hb d_Mo_octets_47 rfl (lv_at hl 3 rfl) ?_
          refine lv_bipush (v := 8) hx hb d_Mo_octets_48 (by decide) ?_
          refine lv_iload hx hb d_Mo_octets_50 (lv_at hl 0 rfl) ?_
          refine lv_imul hx hb d_Mo_octets_52 ?_
          refine lv_topi (fun z_5 ez_5 => ?_)
          obtain rfl : z_5 = 0 := ez_5.trans (by decide)
          refine lv_lshr hx hb d_Mo_octets_53 rfl ?_
          refine lv_topl (fun x_6 ex_6 => ?_)
          refine lv_ldc2 hx hb hown (hk _ t_1137) d_Mo_octets_54 ?_
          refine lv_topl (fun x_7 ex_7 => ?_)
          refine lv_land hx hb d_Mo_octets_57 ?_
          refine lv_topl (fun x_8 ex_8 => ?_)
          refine lv_l2i hx hb d_Mo_octets_58 rfl ?_
          refine lv_topi (fun x_9 ex_9 => ?_)
          refine kiast X hP hD hS 1 0 rfl rfl (by unfold vp_in; decide) d_Mo_octets_59 (fun f_10 H locs hP hD hS => ?_)
          have hP : va_P D classes [(h0, .inr (10, [.int 0, .ref h1, .int 0, v2, v3, v4, .int 0, v5, .int 0, v6, v7, v8, v9, v10, v11, v12, v13, .int 0, v14, v15, v16, .int 0, .int 0, v17, v18, v19, v20, v21, v22, v23, v24, v25, v26, v27, v28, v29, v30, v31, v32, v33, v34, v35, v36, v37, v38, v39, v40, v41])), (h1, .inl (aI, 601, .inl f_10))] H := hP
          have hD : va_D A [(h0, .inr (10, [.int 0, .ref h1, .int 0, v2, v3, v4, .int 0, v5, .int 0, v6, v7, v8, v9, v10, v11, v12, v13, .int 0, v14, v15, v16, .int 0, .int 0, v17, v18, v19, v20, v21, v22, v23, v24, v25, v26, v27, v28, v29, v30, v31, v32, v33, v34, v35, v36, v37, v38, v39, v40, v41])), (h1, .inl (aI, 601, .inl f_10))] := hD
          refine lv_aload_n hx hb d_Mo_octets_60 rfl (lv_at hl 1 rfl) ?_
          refine lv_dup hx hb d_Mo_octets_61 rfl ?_
          refine kget X hP 0 rfl rfl i_Mo 2 (by decide) t_990 rfl (v := .int 0) rfl d_Mo_octets_62 ?_
          refine lv_iconst (v := 1) hx hb d_Mo_octets_65 (by decide) ?_
          refine lv_iadd hx hb d_Mo_octets_66 ?_
          refine lv_topi (fun z_11 ez_11 => ?_)
          obtain rfl : z_11 = 1 := ez_11.trans (by decide)
          refine kput X hP hD hS 0 rfl rfl i_Mo ty_Mo ty_Mo_ok nm_Mo 2 (by decide) t_990 rfl (v := .int 1) rfl rfl (Nat.le_of_ble_eq_true rfl) d_Mo_octets_67 (fun H locs hP hD hS => ?_)
          have hP : va_P D classes [(h0, .inr (10, [.int 0, .ref h1, .int 1, v2, v3, v4, .int 0, v5, .int 0, v6, v7, v8, v9, v10, v11, v12, v13, .int 0, v14, v15, v16, .int 0, .int 0, v17, v18, v19, v20, v21, v22, v23, v24, v25, v26, v27, v28, v29, v30, v31, v32, v33, v34, v35, v36, v37, v38, v39, v40, v41])), (h1, .inl (aI, 601, .inl f_10))] H := hP
          have hD : va_D A [(h0, .inr (10, [.int 0, .ref h1, .int 1, v2, v3, v4, .int 0, v5, .int 0, v6, v7, v8, v9, v10, v11, v12, v13, .int 0, v14, v15, v16, .int 0, .int 0, v17, v18, v19, v20, v21, v22, v23, v24, v25, v26, v27, v28, v29, v30, v31, v32, v33, v34, v35, v36, v37, v38, v39, v40, v41])), (h1, .inl (aI, 601, .inl f_10))] := hD
          refine lv_iinc (v := 1) (lv' := [(4, .int 1), (0, .ref h0), (1, .int p0), (2, .long p1)]) hx hb d_Mo_octets_70 hl (k := 0) rfl (by decide) (by decide) rfl (fun ls hl => ?_)
          refine lv_goto (tgt := 33) hx hb d_Mo_octets_73 (by decide) ?_
          refine lv_iload hx hb d_Mo_octets_33 (lv_at hl 0 rfl) ?_
          refine lv_iload_n hx hb d_Mo_octets_35 rfl (lv_at hl 2 rfl) ?_
          refine lv_icmp_ge (tgt := 76) hx hb d_Mo_octets_36 (by decide) (fun c_12 => ?_) (fun c_12 => ?_)
          · refine lv_aload_n hx hb d_Mo_octets_76 rfl (lv_at hl 1 rfl) ?_
            refine kVv (n := 0) (As := []) (rest := []) (wr := [(h1, .inl (aI, 601, .inl f_10))]) X hP hD hS hA (c30_Mo_unread l D aI aJ aZ _ (h0) (.int 0) (.ref h1) (.int 1) (v2) (v3) (v4) (v5) (v6) (v7) (v8) (v9) (v10) (v11) (v12) (v13) (v14) (v15) (v16) (v17) (v18) (v19) (v20) (v21) (v22) (v23) (v24) (v25) (v26) (v27) (v28) (v29) (v30) (v31) (v32) (v33) (v34) (v35) (v36) (v37) (v38) (v39) (v40) (v41)) (kV_good t_1141 t_1138 t_1140 t_53 t_107) rfl rfl (by decide +kernel) ⟨Nat.le_of_ble_eq_true rfl, Nat.le_of_ble_eq_true rfl⟩ hl.1 rfl rfl (Nat.le_of_ble_eq_true rfl) d_Mo_octets_77 ⟨Nat.le_of_ble_eq_true rfl, Nat.le_of_ble_eq_true rfl⟩ [0] [1] rfl rfl (by decide) (by decide) (by decide) 0 rfl rfl (fun u H locs w_13 hP hD hS => ?_)
            have hP : va_P D classes [(h1, .inl (aI, 601, .inl f_10)), (h0, .inr (10, [.int 0, .ref h1, .int 1, v2, v3, v4, .int 0, v5, .int 0, v6, v7, v8, v9, v10, v11, v12, v13, .int 0, v14, v15, v16, .int 0, .int 0, v17, v18, v19, v20, v21, v22, v23, v24, v25, v26, v27, v28, v29, v30, v31, v32, v33, v34, v35, v36, v37, v38, v39, v40, v41]))] H := hP
            have hD : va_D A [(h1, .inl (aI, 601, .inl f_10)), (h0, .inr (10, [.int 0, .ref h1, .int 1, v2, v3, v4, .int 0, v5, .int 0, v6, v7, v8, v9, v10, v11, v12, v13, .int 0, v14, v15, v16, .int 0, .int 0, v17, v18, v19, v20, v21, v22, v23, v24, v25, v26, v27, v28, v29, v30, v31, v32, v33, v34, v35, v36, v37, v38, v39, v40, v41]))] := hD
            refine lv_aload_n hx hb d_Mo_octets_80 rfl (lv_at hl 1 rfl) ?_
            refine kget X hP 1 rfl rfl i_Mo 2 (by decide) t_990 rfl (v := .int 1) rfl d_Mo_octets_81 ?_
            exact kri X hr hlocks hS () (koct_in c_1 c_2 (Int32.toInt_inj.mp (by simp only [Int32.lt_iff_toInt_lt, Int32.le_iff_toInt_le, kz_m1, kz_0, kz_1, kz_2, kz_3, kz_4, kz_5, kz_6, kz_7, kz_8, kz_600] at c_1 c_2 c_3 c_4 c_12; simp only [kz_m1, kz_0, kz_1, kz_2, kz_3, kz_4, kz_5, kz_6, kz_7, kz_8, kz_600]; omega))) (hP.sub [] rfl) (hD.sub [] (by decide) rfl) d_Mo_octets_84
          · refine lv_aload_n hx hb d_Mo_octets_39 rfl (lv_at hl 1 rfl) ?_
            refine kget X hP 0 rfl rfl i_Mo 1 (by decide) t_989 rfl (v := .ref h1) rfl d_Mo_octets_40 ?_
            refine lv_aload_n hx hb d_Mo_octets_43 rfl (lv_at hl 1 rfl) ?_
            refine kget X hP 0 rfl rfl i_Mo 2 (by decide) t_990 rfl (v := .int 1) rfl d_Mo_octets_44 ?_
            refine lv_lload_n hx hb d_Mo_octets_47 rfl (lv_at hl 3 rfl) ?_
            refine lv_bipush (v := 8) hx hb d_Mo_octets_48 (by decide) ?_
            refine lv_iload hx hb d_Mo_octets_50 (lv_at hl 0 rfl) ?_
            refine lv_imul hx hb d_Mo_octets_52 ?_
            refine lv_topi (fun z_14 ez_14 => ?_)
            obtain rfl : z_14 = 8 := ez_14.trans (by decide)
            refine lv_lshr hx hb d_Mo_octets_53 rfl ?_
            refine lv_topl (fun x_15 ex_15 => ?_)
            refine lv_ldc2 hx hb hown (hk _ t_1137) d_Mo_octets_54 ?_
            refine lv_topl (fun x_16 ex_16 => ?_)
            refine lv_land hx hb d_Mo_octets_57 ?_
            refine lv_topl (fun x_17 ex_17 => ?_)
            refine lv_l2i hx hb d_Mo_octets_58 rfl ?_
            refine lv_topi (fun x_18 ex_18 => ?_)
            refine kiast X hP hD hS 1 0 rfl rfl (by unfold vp_in; decide) d_Mo_octets_59 (fun f_19 H locs hP hD hS => ?_)
            have hP : va_P D classes [(h0, .inr (10, [.int 0, .ref h1, .int 1, v2, v3, v4, .int 0, v5, .int 0, v6, v7, v8, v9, v10, v11, v12, v13, .int 0, v14, v15, v16, .int 0, .int 0, v17, v18, v19, v20, v21, v22, v23, v24, v25, v26, v27, v28, v29, v30, v31, v32, v33, v34, v35, v36, v37, v38, v39, v40, v41])), (h1, .inl (aI, 601, .inl f_19))] H := hP
            have hD : va_D A [(h0, .inr (10, [.int 0, .ref h1, .int 1, v2, v3, v4, .int 0, v5, .int 0, v6, v7, v8, v9, v10, v11, v12, v13, .int 0, v14, v15, v16, .int 0, .int 0, v17, v18, v19, v20, v21, v22, v23, v24, v25, v26, v27, v28, v29, v30, v31, v32, v33, v34, v35, v36, v37, v38, v39, v40, v41])), (h1, .inl (aI, 601, .inl f_19))] := hD
            refine lv_aload_n hx hb d_Mo_octets_60 rfl (lv_at hl 1 rfl) ?_
            refine lv_dup hx hb d_Mo_octets_61 rfl ?_
            refine kget X hP 0 rfl rfl i_Mo 2 (by decide) t_990 rfl (v := .int 1) rfl d_Mo_octets_62 ?_
            refine lv_iconst (v := 1) hx hb d_Mo_octets_65 (by decide) ?_
            refine lv_iadd hx hb d_Mo_octets_66 ?_
            refine lv_topi (fun z_20 ez_20 => ?_)
            obtain rfl : z_20 = 2 := ez_20.trans (by decide)
            refine kput X hP hD hS 0 rfl rfl i_Mo ty_Mo ty_Mo_ok nm_Mo 2 (by decide) t_990 rfl (v := .int 2) rfl rfl (Nat.le_of_ble_eq_true rfl) d_Mo_octets_67 (fun H locs hP hD hS => ?_)
            have hP : va_P D classes [(h0, .inr (10, [.int 0, .ref h1, .int 2, v2, v3, v4, .int 0, v5, .int 0, v6, v7, v8, v9, v10, v11, v12, v13, .int 0, v14, v15, v16, .int 0, .int 0, v17, v18, v19, v20, v21, v22, v23, v24, v25, v26, v27, v28, v29, v30, v31, v32, v33, v34, v35, v36, v37, v38, v39, v40, v41])), (h1, .inl (aI, 601, .inl f_19))] H := hP
            have hD : va_D A [(h0, .inr (10, [.int 0, .ref h1, .int 2, v2, v3, v4, .int 0, v5, .int 0, v6, v7, v8, v9, v10, v11, v12, v13, .int 0, v14, v15, v16, .int 0, .int 0, v17, v18, v19, v20, v21, v22, v23, v24, v25, v26, v27, v28, v29, v30, v31, v32, v33, v34, v35, v36, v37, v38, v39, v40, v41])), (h1, .inl (aI, 601, .inl f_19))] := hD
            refine lv_iinc (v := 2) (lv' := [(4, .int 2), (0, .ref h0), (1, .int p0), (2, .long p1)]) hx hb d_Mo_octets_70 hl (k := 0) rfl (by decide) (by decide) rfl (fun ls hl => ?_)
            refine lv_goto (tgt := 33) hx hb d_Mo_octets_73 (by decide) ?_
            refine lv_iload hx hb d_Mo_octets_33 (lv_at hl 0 rfl) ?_
            refine lv_iload_n hx hb d_Mo_octets_35 rfl (lv_at hl 2 rfl) ?_
            refine lv_icmp_ge (tgt := 76) hx hb d_Mo_octets_36 (by decide) (fun c_21 => ?_) (fun c_21 => ?_)
            · refine lv_aload_n hx hb d_Mo_octets_76 rfl (lv_at hl 1 rfl) ?_
              refine kVv (n := 0) (As := []) (rest := []) (wr := [(h1, .inl (aI, 601, .inl f_19))]) X hP hD hS hA (c30_Mo_unread l D aI aJ aZ _ (h0) (.int 0) (.ref h1) (.int 2) (v2) (v3) (v4) (v5) (v6) (v7) (v8) (v9) (v10) (v11) (v12) (v13) (v14) (v15) (v16) (v17) (v18) (v19) (v20) (v21) (v22) (v23) (v24) (v25) (v26) (v27) (v28) (v29) (v30) (v31) (v32) (v33) (v34) (v35) (v36) (v37) (v38) (v39) (v40) (v41)) (kV_good t_1141 t_1138 t_1140 t_53 t_107) rfl rfl (by decide +kernel) ⟨Nat.le_of_ble_eq_true rfl, Nat.le_of_ble_eq_true rfl⟩ hl.1 rfl rfl (Nat.le_of_ble_eq_true rfl) d_Mo_octets_77 ⟨Nat.le_of_ble_eq_true rfl, Nat.le_of_ble_eq_true rfl⟩ [0] [1] rfl rfl (by decide) (by decide) (by decide) 0 rfl rfl (fun u H locs w_22 hP hD hS => ?_)
              have hP : va_P D classes [(h1, .inl (aI, 601, .inl f_19)), (h0, .inr (10, [.int 0, .ref h1, .int 2, v2, v3, v4, .int 0, v5, .int 0, v6, v7, v8, v9, v10, v11, v12, v13, .int 0, v14, v15, v16, .int 0, .int 0, v17, v18, v19, v20, v21, v22, v23, v24, v25, v26, v27, v28, v29, v30, v31, v32, v33, v34, v35, v36, v37, v38, v39, v40, v41]))] H := hP
              have hD : va_D A [(h1, .inl (aI, 601, .inl f_19)), (h0, .inr (10, [.int 0, .ref h1, .int 2, v2, v3, v4, .int 0, v5, .int 0, v6, v7, v8, v9, v10, v11, v12, v13, .int 0, v14, v15, v16, .int 0, .int 0, v17, v18, v19, v20, v21, v22, v23, v24, v25, v26, v27, v28, v29, v30, v31, v32, v33, v34, v35, v36, v37, v38, v39, v40, v41]))] := hD
              refine lv_aload_n hx hb d_Mo_octets_80 rfl (lv_at hl 1 rfl) ?_
              refine kget X hP 1 rfl rfl i_Mo 2 (by decide) t_990 rfl (v := .int 2) rfl d_Mo_octets_81 ?_
              exact kri X hr hlocks hS () (koct_in c_1 c_2 (Int32.toInt_inj.mp (by simp only [Int32.lt_iff_toInt_lt, Int32.le_iff_toInt_le, kz_m1, kz_0, kz_1, kz_2, kz_3, kz_4, kz_5, kz_6, kz_7, kz_8, kz_600] at c_1 c_2 c_3 c_4 c_12 c_21; simp only [kz_m1, kz_0, kz_1, kz_2, kz_3, kz_4, kz_5, kz_6, kz_7, kz_8, kz_600]; omega))) (hP.sub [] rfl) (hD.sub [] (by decide) rfl) d_Mo_octets_84
            · refine lv_aload_n hx hb d_Mo_octets_39 rfl (lv_at hl 1 rfl) ?_
              refine kget X hP 0 rfl rfl i_Mo 1 (by decide) t_989 rfl (v := .ref h1) rfl d_Mo_octets_40 ?_
              refine lv_aload_n hx hb d_Mo_octets_43 rfl (lv_at hl 1 rfl) ?_
              refine kget X hP 0 rfl rfl i_Mo 2 (by decide) t_990 rfl (v := .int 2) rfl d_Mo_octets_44 ?_
              refine lv_lload_n hx hb d_Mo_octets_47 rfl (lv_at hl 3 rfl) ?_
              refine lv_bipush (v := 8) hx hb d_Mo_octets_48 (by decide) ?_
              refine lv_iload hx hb d_Mo_octets_50 (lv_at hl 0 rfl) ?_
              refine lv_imul hx hb d_Mo_octets_52 ?_
              refine lv_topi (fun z_23 ez_23 => ?_)
              obtain rfl : z_23 = 16 := ez_23.trans (by decide)
              refine lv_lshr hx hb d_Mo_octets_53 rfl ?_
              refine lv_topl (fun x_24 ex_24 => ?_)
              refine lv_ldc2 hx hb hown (hk _ t_1137) d_Mo_octets_54 ?_
              refine lv_topl (fun x_25 ex_25 => ?_)
              refine lv_land hx hb d_Mo_octets_57 ?_
              refine lv_topl (fun x_26 ex_26 => ?_)
              refine lv_l2i hx hb d_Mo_octets_58 rfl ?_
              refine lv_topi (fun x_27 ex_27 => ?_)
              refine kiast X hP hD hS 1 0 rfl rfl (by unfold vp_in; decide) d_Mo_octets_59 (fun f_28 H locs hP hD hS => ?_)
              have hP : va_P D classes [(h0, .inr (10, [.int 0, .ref h1, .int 2, v2, v3, v4, .int 0, v5, .int 0, v6, v7, v8, v9, v10, v11, v12, v13, .int 0, v14, v15, v16, .int 0, .int 0, v17, v18, v19, v20, v21, v22, v23, v24, v25, v26, v27, v28, v29, v30, v31, v32, v33, v34, v35, v36, v37, v38, v39, v40, v41])), (h1, .inl (aI, 601, .inl f_28))] H := hP
              have hD : va_D A [(h0, .inr (10, [.int 0, .ref h1, .int 2, v2, v3, v4, .int 0, v5, .int 0, v6, v7, v8, v9, v10, v11, v12, v13, .int 0, v14, v15, v16, .int 0, .int 0, v17, v18, v19, v20, v21, v22, v23, v24, v25, v26, v27, v28, v29, v30, v31, v32, v33, v34, v35, v36, v37, v38, v39, v40, v41])), (h1, .inl (aI, 601, .inl f_28))] := hD
              refine lv_aload_n hx hb d_Mo_octets_60 rfl (lv_at hl 1 rfl) ?_
              refine lv_dup hx hb d_Mo_octets_61 rfl ?_
              refine kget X hP 0 rfl rfl i_Mo 2 (by decide) t_990 rfl (v := .int 2) rfl d_Mo_octets_62 ?_
              refine lv_iconst (v := 1) hx hb d_Mo_octets_65 (by decide) ?_
              refine lv_iadd hx hb d_Mo_octets_66 ?_
              refine lv_topi (fun z_29 ez_29 => ?_)
              obtain rfl : z_29 = 3 := ez_29.trans (by decide)
              refine kput X hP hD hS 0 rfl rfl i_Mo ty_Mo ty_Mo_ok nm_Mo 2 (by decide) t_990 rfl (v := .int 3) rfl rfl (Nat.le_of_ble_eq_true rfl) d_Mo_octets_67 (fun H locs hP hD hS => ?_)
              have hP : va_P D classes [(h0, .inr (10, [.int 0, .ref h1, .int 3, v2, v3, v4, .int 0, v5, .int 0, v6, v7, v8, v9, v10, v11, v12, v13, .int 0, v14, v15, v16, .int 0, .int 0, v17, v18, v19, v20, v21, v22, v23, v24, v25, v26, v27, v28, v29, v30, v31, v32, v33, v34, v35, v36, v37, v38, v39, v40, v41])), (h1, .inl (aI, 601, .inl f_28))] H := hP
              have hD : va_D A [(h0, .inr (10, [.int 0, .ref h1, .int 3, v2, v3, v4, .int 0, v5, .int 0, v6, v7, v8, v9, v10, v11, v12, v13, .int 0, v14, v15, v16, .int 0, .int 0, v17, v18, v19, v20, v21, v22, v23, v24, v25, v26, v27, v28, v29, v30, v31, v32, v33, v34, v35, v36, v37, v38, v39, v40, v41])), (h1, .inl (aI, 601, .inl f_28))] := hD
              refine lv_iinc (v := 3) (lv' := [(4, .int 3), (0, .ref h0), (1, .int p0), (2, .long p1)]) hx hb d_Mo_octets_70 hl (k := 0) rfl (by decide) (by decide) rfl (fun ls hl => ?_)
              refine lv_goto (tgt := 33) hx hb d_Mo_octets_73 (by decide) ?_
              refine lv_iload hx hb d_Mo_octets_33 (lv_at hl 0 rfl) ?_
              refine lv_iload_n hx hb d_Mo_octets_35 rfl (lv_at hl 2 rfl) ?_
              refine lv_icmp_ge (tgt := 76) hx hb d_Mo_octets_36 (by decide) (fun c_30 => ?_) (fun c_30 => ?_)
              · refine lv_aload_n hx hb d_Mo_octets_76 rfl (lv_at hl 1 rfl) ?_
                refine kVv (n := 0) (As := []) (rest := []) (wr := [(h1, .inl (aI, 601, .inl f_28))]) X hP hD hS hA (c30_Mo_unread l D aI aJ aZ _ (h0) (.int 0) (.ref h1) (.int 3) (v2) (v3) (v4) (v5) (v6) (v7) (v8) (v9) (v10) (v11) (v12) (v13) (v14) (v15) (v16) (v17) (v18) (v19) (v20) (v21) (v22) (v23) (v24) (v25) (v26) (v27) (v28) (v29) (v30) (v31) (v32) (v33) (v34) (v35) (v36) (v37) (v38) (v39) (v40) (v41)) (kV_good t_1141 t_1138 t_1140 t_53 t_107) rfl rfl (by decide +kernel) ⟨Nat.le_of_ble_eq_true rfl, Nat.le_of_ble_eq_true rfl⟩ hl.1 rfl rfl (Nat.le_of_ble_eq_true rfl) d_Mo_octets_77 ⟨Nat.le_of_ble_eq_true rfl, Nat.le_of_ble_eq_true rfl⟩ [0] [1] rfl rfl (by decide) (by decide) (by decide) 0 rfl rfl (fun u H locs w_31 hP hD hS => ?_)
                have hP : va_P D classes [(h1, .inl (aI, 601, .inl f_28)), (h0, .inr (10, [.int 0, .ref h1, .int 3, v2, v3, v4, .int 0, v5, .int 0, v6, v7, v8, v9, v10, v11, v12, v13, .int 0, v14, v15, v16, .int 0, .int 0, v17, v18, v19, v20, v21, v22, v23, v24, v25, v26, v27, v28, v29, v30, v31, v32, v33, v34, v35, v36, v37, v38, v39, v40, v41]))] H := hP
                have hD : va_D A [(h1, .inl (aI, 601, .inl f_28)), (h0, .inr (10, [.int 0, .ref h1, .int 3, v2, v3, v4, .int 0, v5, .int 0, v6, v7, v8, v9, v10, v11, v12, v13, .int 0, v14, v15, v16, .int 0, .int 0, v17, v18, v19, v20, v21, v22, v23, v24, v25, v26, v27, v28, v29, v30, v31, v32, v33, v34, v35, v36, v37, v38, v39, v40, v41]))] := hD
                refine lv_aload_n hx hb d_Mo_octets_80 rfl (lv_at hl 1 rfl) ?_
                refine kget X hP 1 rfl rfl i_Mo 2 (by decide) t_990 rfl (v := .int 3) rfl d_Mo_octets_81 ?_
                exact kri X hr hlocks hS () (koct_in c_1 c_2 (Int32.toInt_inj.mp (by simp only [Int32.lt_iff_toInt_lt, Int32.le_iff_toInt_le, kz_m1, kz_0, kz_1, kz_2, kz_3, kz_4, kz_5, kz_6, kz_7, kz_8, kz_600] at c_1 c_2 c_3 c_4 c_12 c_21 c_30; simp only [kz_m1, kz_0, kz_1, kz_2, kz_3, kz_4, kz_5, kz_6, kz_7, kz_8, kz_600]; omega))) (hP.sub [] rfl) (hD.sub [] (by decide) rfl) d_Mo_octets_84
              · refine lv_aload_n hx hb d_Mo_octets_39 rfl (lv_at hl 1 rfl) ?_
                refine kget X hP 0 rfl rfl i_Mo 1 (by decide) t_989 rfl (v := .ref h1) rfl d_Mo_octets_40 ?_
                refine lv_aload_n hx hb d_Mo_octets_43 rfl (lv_at hl 1 rfl) ?_
                refine kget X hP 0 rfl rfl i_Mo 2 (by decide) t_990 rfl (v := .int 3) rfl d_Mo_octets_44 ?_
                refine lv_lload_n hx hb d_Mo_octets_47 rfl (lv_at hl 3 rfl) ?_
                refine lv_bipush (v := 8) hx hb d_Mo_octets_48 (by decide) ?_
                refine lv_iload hx hb d_Mo_octets_50 (lv_at hl 0 rfl) ?_
                refine lv_imul hx hb d_Mo_octets_52 ?_
                refine lv_topi (fun z_32 ez_32 => ?_)
                obtain rfl : z_32 = 24 := ez_32.trans (by decide)
                refine lv_lshr hx hb d_Mo_octets_53 rfl ?_
                refine lv_topl (fun x_33 ex_33 => ?_)
                refine lv_ldc2 hx hb hown (hk _ t_1137) d_Mo_octets_54 ?_
                refine lv_topl (fun x_34 ex_34 => ?_)
                refine lv_land hx hb d_Mo_octets_57 ?_
                refine lv_topl (fun x_35 ex_35 => ?_)
                refine lv_l2i hx hb d_Mo_octets_58 rfl ?_
                refine lv_topi (fun x_36 ex_36 => ?_)
                refine kiast X hP hD hS 1 0 rfl rfl (by unfold vp_in; decide) d_Mo_octets_59 (fun f_37 H locs hP hD hS => ?_)
                have hP : va_P D classes [(h0, .inr (10, [.int 0, .ref h1, .int 3, v2, v3, v4, .int 0, v5, .int 0, v6, v7, v8, v9, v10, v11, v12, v13, .int 0, v14, v15, v16, .int 0, .int 0, v17, v18, v19, v20, v21, v22, v23, v24, v25, v26, v27, v28, v29, v30, v31, v32, v33, v34, v35, v36, v37, v38, v39, v40, v41])), (h1, .inl (aI, 601, .inl f_37))] H := hP
                have hD : va_D A [(h0, .inr (10, [.int 0, .ref h1, .int 3, v2, v3, v4, .int 0, v5, .int 0, v6, v7, v8, v9, v10, v11, v12, v13, .int 0, v14, v15, v16, .int 0, .int 0, v17, v18, v19, v20, v21, v22, v23, v24, v25, v26, v27, v28, v29, v30, v31, v32, v33, v34, v35, v36, v37, v38, v39, v40, v41])), (h1, .inl (aI, 601, .inl f_37))] := hD
                refine lv_aload_n hx hb d_Mo_octets_60 rfl (lv_at hl 1 rfl) ?_
                refine lv_dup hx hb d_Mo_octets_61 rfl ?_
                refine kget X hP 0 rfl rfl i_Mo 2 (by decide) t_990 rfl (v := .int 3) rfl d_Mo_octets_62 ?_
                refine lv_iconst (v := 1) hx hb d_Mo_octets_65 (by decide) ?_
                refine lv_iadd hx hb d_Mo_octets_66 ?_
                refine lv_topi (fun z_38 ez_38 => ?_)
                obtain rfl : z_38 = 4 := ez_38.trans (by decide)
                refine kput X hP hD hS 0 rfl rfl i_Mo ty_Mo ty_Mo_ok nm_Mo 2 (by decide) t_990 rfl (v := .int 4) rfl rfl (Nat.le_of_ble_eq_true rfl) d_Mo_octets_67 (fun H locs hP hD hS => ?_)
                have hP : va_P D classes [(h0, .inr (10, [.int 0, .ref h1, .int 4, v2, v3, v4, .int 0, v5, .int 0, v6, v7, v8, v9, v10, v11, v12, v13, .int 0, v14, v15, v16, .int 0, .int 0, v17, v18, v19, v20, v21, v22, v23, v24, v25, v26, v27, v28, v29, v30, v31, v32, v33, v34, v35, v36, v37, v38, v39, v40, v41])), (h1, .inl (aI, 601, .inl f_37))] H := hP
                have hD : va_D A [(h0, .inr (10, [.int 0, .ref h1, .int 4, v2, v3, v4, .int 0, v5, .int 0, v6, v7, v8, v9, v10, v11, v12, v13, .int 0, v14, v15, v16, .int 0, .int 0, v17, v18, v19, v20, v21, v22, v23, v24, v25, v26, v27, v28, v29, v30, v31, v32, v33, v34, v35, v36, v37, v38, v39, v40, v41])), (h1, .inl (aI, 601, .inl f_37))] := hD
                refine lv_iinc (v := 4) (lv' := [(4, .int 4), (0, .ref h0), (1, .int p0), (2, .long p1)]) hx hb d_Mo_octets_70 hl (k := 0) rfl (by decide) (by decide) rfl (fun ls hl => ?_)
                refine lv_goto (tgt := 33) hx hb d_Mo_octets_73 (by decide) ?_
                refine lv_iload hx hb d_Mo_octets_33 (lv_at hl 0 rfl) ?_
                refine lv_iload_n hx hb d_Mo_octets_35 rfl (lv_at hl 2 rfl) ?_
                refine lv_icmp_ge (tgt := 76) hx hb d_Mo_octets_36 (by decide) (fun c_39 => ?_) (fun c_39 => ?_)
                · refine lv_aload_n hx hb d_Mo_octets_76 rfl (lv_at hl 1 rfl) ?_
                  refine kVv (n := 0) (As := []) (rest := []) (wr := [(h1, .inl (aI, 601, .inl f_37))]) X hP hD hS hA (c30_Mo_unread l D aI aJ aZ _ (h0) (.int 0) (.ref h1) (.int 4) (v2) (v3) (v4) (v5) (v6) (v7) (v8) (v9) (v10) (v11) (v12) (v13) (v14) (v15) (v16) (v17) (v18) (v19) (v20) (v21) (v22) (v23) (v24) (v25) (v26) (v27) (v28) (v29) (v30) (v31) (v32) (v33) (v34) (v35) (v36) (v37) (v38) (v39) (v40) (v41)) (kV_good t_1141 t_1138 t_1140 t_53 t_107) rfl rfl (by decide +kernel) ⟨Nat.le_of_ble_eq_true rfl, Nat.le_of_ble_eq_true rfl⟩ hl.1 rfl rfl (Nat.le_of_ble_eq_true rfl) d_Mo_octets_77 ⟨Nat.le_of_ble_eq_true rfl, Nat.le_of_ble_eq_true rfl⟩ [0] [1] rfl rfl (by decide) (by decide) (by decide) 0 rfl rfl (fun u H locs w_40 hP hD hS => ?_)
                  have hP : va_P D classes [(h1, .inl (aI, 601, .inl f_37)), (h0, .inr (10, [.int 0, .ref h1, .int 4, v2, v3, v4, .int 0, v5, .int 0, v6, v7, v8, v9, v10, v11, v12, v13, .int 0, v14, v15, v16, .int 0, .int 0, v17, v18, v19, v20, v21, v22, v23, v24, v25, v26, v27, v28, v29, v30, v31, v32, v33, v34, v35, v36, v37, v38, v39, v40, v41]))] H := hP
                  have hD : va_D A [(h1, .inl (aI, 601, .inl f_37)), (h0, .inr (10, [.int 0, .ref h1, .int 4, v2, v3, v4, .int 0, v5, .int 0, v6, v7, v8, v9, v10, v11, v12, v13, .int 0, v14, v15, v16, .int 0, .int 0, v17, v18, v19, v20, v21, v22, v23, v24, v25, v26, v27, v28, v29, v30, v31, v32, v33, v34, v35, v36, v37, v38, v39, v40, v41]))] := hD
                  refine lv_aload_n hx hb d_Mo_octets_80 rfl (lv_at hl 1 rfl) ?_
                  refine kget X hP 1 rfl rfl i_Mo 2 (by decide) t_990 rfl (v := .int 4) rfl d_Mo_octets_81 ?_
                  exact kri X hr hlocks hS () (koct_in c_1 c_2 (Int32.toInt_inj.mp (by simp only [Int32.lt_iff_toInt_lt, Int32.le_iff_toInt_le, kz_m1, kz_0, kz_1, kz_2, kz_3, kz_4, kz_5, kz_6, kz_7, kz_8, kz_600] at c_1 c_2 c_3 c_4 c_12 c_21 c_30 c_39; simp only [kz_m1, kz_0, kz_1, kz_2, kz_3, kz_4, kz_5, kz_6, kz_7, kz_8, kz_600]; omega))) (hP.sub [] rfl) (hD.sub [] (by decide) rfl) d_Mo_octets_84
                · refine lv_aload_n hx hb d_Mo_octets_39 rfl (lv_at hl 1 rfl) ?_
                  refine kget X hP 0 rfl rfl i_Mo 1 (by decide) t_989 rfl (v := .ref h1) rfl d_Mo_octets_40 ?_
                  refine lv_aload_n hx hb d_Mo_octets_43 rfl (lv_at hl 1 rfl) ?_
                  refine kget X hP 0 rfl rfl i_Mo 2 (by decide) t_990 rfl (v := .int 4) rfl d_Mo_octets_44 ?_
                  refine lv_lload_n hx hb d_Mo_octets_47 rfl (lv_at hl 3 rfl) ?_
                  refine lv_bipush (v := 8) hx hb d_Mo_octets_48 (by decide) ?_
                  refine lv_iload hx hb d_Mo_octets_50 (lv_at hl 0 rfl) ?_
                  refine lv_imul hx hb d_Mo_octets_52 ?_
                  refine lv_topi (fun z_41 ez_41 => ?_)
                  obtain rfl : z_41 = 32 := ez_41.trans (by decide)
                  refine lv_lshr hx hb d_Mo_octets_53 rfl ?_
                  refine lv_topl (fun x_42 ex_42 => ?_)
                  refine lv_ldc2 hx hb hown (hk _ t_1137) d_Mo_octets_54 ?_
                  refine lv_topl (fun x_43 ex_43 => ?_)
                  refine lv_land hx hb d_Mo_octets_57 ?_
                  refine lv_topl (fun x_44 ex_44 => ?_)
                  refine lv_l2i hx hb d_Mo_octets_58 rfl ?_
                  refine lv_topi (fun x_45 ex_45 => ?_)
                  refine kiast X hP hD hS 1 0 rfl rfl (by unfold vp_in; decide) d_Mo_octets_59 (fun f_46 H locs hP hD hS => ?_)
                  have hP : va_P D classes [(h0, .inr (10, [.int 0, .ref h1, .int 4, v2, v3, v4, .int 0, v5, .int 0, v6, v7, v8, v9, v10, v11, v12, v13, .int 0, v14, v15, v16, .int 0, .int 0, v17, v18, v19, v20, v21, v22, v23, v24, v25, v26, v27, v28, v29, v30, v31, v32, v33, v34, v35, v36, v37, v38, v39, v40, v41])), (h1, .inl (aI, 601, .inl f_46))] H := hP
                  have hD : va_D A [(h0, .inr (10, [.int 0, .ref h1, .int 4, v2, v3, v4, .int 0, v5, .int 0, v6, v7, v8, v9, v10, v11, v12, v13, .int 0, v14, v15, v16, .int 0, .int 0, v17, v18, v19, v20, v21, v22, v23, v24, v25, v26, v27, v28, v29, v30, v31, v32, v33, v34, v35, v36, v37, v38, v39, v40, v41])), (h1, .inl (aI, 601, .inl f_46))] := hD
                  refine lv_aload_n hx hb d_Mo_octets_60 rfl (lv_at hl 1 rfl) ?_
                  refine lv_dup hx hb d_Mo_octets_61 rfl ?_
                  refine kget X hP 0 rfl rfl i_Mo 2 (by decide) t_990 rfl (v := .int 4) rfl d_Mo_octets_62 ?_
                  refine lv_iconst (v := 1) hx hb d_Mo_octets_65 (by decide) ?_
                  refine lv_iadd hx hb d_Mo_octets_66 ?_
                  refine lv_topi (fun z_47 ez_47 => ?_)
                  obtain rfl : z_47 = 5 := ez_47.trans (by decide)
                  refine kput X hP hD hS 0 rfl rfl i_Mo ty_Mo ty_Mo_ok nm_Mo 2 (by decide) t_990 rfl (v := .int 5) rfl rfl (Nat.le_of_ble_eq_true rfl) d_Mo_octets_67 (fun H locs hP hD hS => ?_)
                  have hP : va_P D classes [(h0, .inr (10, [.int 0, .ref h1, .int 5, v2, v3, v4, .int 0, v5, .int 0, v6, v7, v8, v9, v10, v11, v12, v13, .int 0, v14, v15, v16, .int 0, .int 0, v17, v18, v19, v20, v21, v22, v23, v24, v25, v26, v27, v28, v29, v30, v31, v32, v33, v34, v35, v36, v37, v38, v39, v40, v41])), (h1, .inl (aI, 601, .inl f_46))] H := hP
                  have hD : va_D A [(h0, .inr (10, [.int 0, .ref h1, .int 5, v2, v3, v4, .int 0, v5, .int 0, v6, v7, v8, v9, v10, v11, v12, v13, .int 0, v14, v15, v16, .int 0, .int 0, v17, v18, v19, v20, v21, v22, v23, v24, v25, v26, v27, v28, v29, v30, v31, v32, v33, v34, v35, v36, v37, v38, v39, v40, v41])), (h1, .inl (aI, 601, .inl f_46))] := hD
                  refine lv_iinc (v := 5) (lv' := [(4, .int 5), (0, .ref h0), (1, .int p0), (2, .long p1)]) hx hb d_Mo_octets_70 hl (k := 0) rfl (by decide) (by decide) rfl (fun ls hl => ?_)
                  refine lv_goto (tgt := 33) hx hb d_Mo_octets_73 (by decide) ?_
                  refine lv_iload hx hb d_Mo_octets_33 (lv_at hl 0 rfl) ?_
                  refine lv_iload_n hx hb d_Mo_octets_35 rfl (lv_at hl 2 rfl) ?_
                  refine lv_icmp_ge (tgt := 76) hx hb d_Mo_octets_36 (by decide) (fun c_48 => ?_) (fun c_48 => ?_)
                  · refine lv_aload_n hx hb d_Mo_octets_76 rfl (lv_at hl 1 rfl) ?_
                    refine kVv (n := 0) (As := []) (rest := []) (wr := [(h1, .inl (aI, 601, .inl f_46))]) X hP hD hS hA (c30_Mo_unread l D aI aJ aZ _ (h0) (.int 0) (.ref h1) (.int 5) (v2) (v3) (v4) (v5) (v6) (v7) (v8) (v9) (v10) (v11) (v12) (v13) (v14) (v15) (v16) (v17) (v18) (v19) (v20) (v21) (v22) (v23) (v24) (v25) (v26) (v27) (v28) (v29) (v30) (v31) (v32) (v33) (v34) (v35) (v36) (v37) (v38) (v39) (v40) (v41)) (kV_good t_1141 t_1138 t_1140 t_53 t_107) rfl rfl (by decide +kernel) ⟨Nat.le_of_ble_eq_true rfl, Nat.le_of_ble_eq_true rfl⟩ hl.1 rfl rfl (Nat.le_of_ble_eq_true rfl) d_Mo_octets_77 ⟨Nat.le_of_ble_eq_true rfl, Nat.le_of_ble_eq_true rfl⟩ [0] [1] rfl rfl (by decide) (by decide) (by decide) 0 rfl rfl (fun u H locs w_49 hP hD hS => ?_)
                    have hP : va_P D classes [(h1, .inl (aI, 601, .inl f_46)), (h0, .inr (10, [.int 0, .ref h1, .int 5, v2, v3, v4, .int 0, v5, .int 0, v6, v7, v8, v9, v10, v11, v12, v13, .int 0, v14, v15, v16, .int 0, .int 0, v17, v18, v19, v20, v21, v22, v23, v24, v25, v26, v27, v28, v29, v30, v31, v32, v33, v34, v35, v36, v37, v38, v39, v40, v41]))] H := hP
                    have hD : va_D A [(h1, .inl (aI, 601, .inl f_46)), (h0, .inr (10, [.int 0, .ref h1, .int 5, v2, v3, v4, .int 0, v5, .int 0, v6, v7, v8, v9, v10, v11, v12, v13, .int 0, v14, v15, v16, .int 0, .int 0, v17, v18, v19, v20, v21, v22, v23, v24, v25, v26, v27, v28, v29, v30, v31, v32, v33, v34, v35, v36, v37, v38, v39, v40, v41]))] := hD
                    refine lv_aload_n hx hb d_Mo_octets_80 rfl (lv_at hl 1 rfl) ?_
                    refine kget X hP 1 rfl rfl i_Mo 2 (by decide) t_990 rfl (v := .int 5) rfl d_Mo_octets_81 ?_
                    exact kri X hr hlocks hS () (koct_in c_1 c_2 (Int32.toInt_inj.mp (by simp only [Int32.lt_iff_toInt_lt, Int32.le_iff_toInt_le, kz_m1, kz_0, kz_1, kz_2, kz_3, kz_4, kz_5, kz_6, kz_7, kz_8, kz_600] at c_1 c_2 c_3 c_4 c_12 c_21 c_30 c_39 c_48; simp only [kz_m1, kz_0, kz_1, kz_2, kz_3, kz_4, kz_5, kz_6, kz_7, kz_8, kz_600]; omega))) (hP.sub [] rfl) (hD.sub [] (by decide) rfl) d_Mo_octets_84
                  · refine lv_aload_n hx hb d_Mo_octets_39 rfl (lv_at hl 1 rfl) ?_
                    refine kget X hP 0 rfl rfl i_Mo 1 (by decide) t_989 rfl (v := .ref h1) rfl d_Mo_octets_40 ?_
                    refine lv_aload_n hx hb d_Mo_octets_43 rfl (lv_at hl 1 rfl) ?_
                    refine kget X hP 0 rfl rfl i_Mo 2 (by decide) t_990 rfl (v := .int 5) rfl d_Mo_octets_44 ?_
                    refine lv_lload_n hx hb d_Mo_octets_47 rfl (lv_at hl 3 rfl) ?_
                    refine lv_bipush (v := 8) hx hb d_Mo_octets_48 (by decide) ?_
                    refine lv_iload hx hb d_Mo_octets_50 (lv_at hl 0 rfl) ?_
                    refine lv_imul hx hb d_Mo_octets_52 ?_
                    refine lv_topi (fun z_50 ez_50 => ?_)
                    obtain rfl : z_50 = 40 := ez_50.trans (by decide)
                    refine lv_lshr hx hb d_Mo_octets_53 rfl ?_
                    refine lv_topl (fun x_51 ex_51 => ?_)
                    refine lv_ldc2 hx hb hown (hk _ t_1137) d_Mo_octets_54 ?_
                    refine lv_topl (fun x_52 ex_52 => ?_)
                    refine lv_land hx hb d_Mo_octets_57 ?_
                    refine lv_topl (fun x_53 ex_53 => ?_)
                    refine lv_l2i hx hb d_Mo_octets_58 rfl ?_
                    refine lv_topi (fun x_54 ex_54 => ?_)
                    refine kiast X hP hD hS 1 0 rfl rfl (by unfold vp_in; decide) d_Mo_octets_59 (fun f_55 H locs hP hD hS => ?_)
                    have hP : va_P D classes [(h0, .inr (10, [.int 0, .ref h1, .int 5, v2, v3, v4, .int 0, v5, .int 0, v6, v7, v8, v9, v10, v11, v12, v13, .int 0, v14, v15, v16, .int 0, .int 0, v17, v18, v19, v20, v21, v22, v23, v24, v25, v26, v27, v28, v29, v30, v31, v32, v33, v34, v35, v36, v37, v38, v39, v40, v41])), (h1, .inl (aI, 601, .inl f_55))] H := hP
                    have hD : va_D A [(h0, .inr (10, [.int 0, .ref h1, .int 5, v2, v3, v4, .int 0, v5, .int 0, v6, v7, v8, v9, v10, v11, v12, v13, .int 0, v14, v15, v16, .int 0, .int 0, v17, v18, v19, v20, v21, v22, v23, v24, v25, v26, v27, v28, v29, v30, v31, v32, v33, v34, v35, v36, v37, v38, v39, v40, v41])), (h1, .inl (aI, 601, .inl f_55))] := hD
                    refine lv_aload_n hx hb d_Mo_octets_60 rfl (lv_at hl 1 rfl) ?_
                    refine lv_dup hx hb d_Mo_octets_61 rfl ?_
                    refine kget X hP 0 rfl rfl i_Mo 2 (by decide) t_990 rfl (v := .int 5) rfl d_Mo_octets_62 ?_
                    refine lv_iconst (v := 1) hx hb d_Mo_octets_65 (by decide) ?_
                    refine lv_iadd hx hb d_Mo_octets_66 ?_
                    refine lv_topi (fun z_56 ez_56 => ?_)
                    obtain rfl : z_56 = 6 := ez_56.trans (by decide)
                    refine kput X hP hD hS 0 rfl rfl i_Mo ty_Mo ty_Mo_ok nm_Mo 2 (by decide) t_990 rfl (v := .int 6) rfl rfl (Nat.le_of_ble_eq_true rfl) d_Mo_octets_67 (fun H locs hP hD hS => ?_)
                    have hP : va_P D classes [(h0, .inr (10, [.int 0, .ref h1, .int 6, v2, v3, v4, .int 0, v5, .int 0, v6, v7, v8, v9, v10, v11, v12, v13, .int 0, v14, v15, v16, .int 0, .int 0, v17, v18, v19, v20, v21, v22, v23, v24, v25, v26, v27, v28, v29, v30, v31, v32, v33, v34, v35, v36, v37, v38, v39, v40, v41])), (h1, .inl (aI, 601, .inl f_55))] H := hP
                    have hD : va_D A [(h0, .inr (10, [.int 0, .ref h1, .int 6, v2, v3, v4, .int 0, v5, .int 0, v6, v7, v8, v9, v10, v11, v12, v13, .int 0, v14, v15, v16, .int 0, .int 0, v17, v18, v19, v20, v21, v22, v23, v24, v25, v26, v27, v28, v29, v30, v31, v32, v33, v34, v35, v36, v37, v38, v39, v40, v41])), (h1, .inl (aI, 601, .inl f_55))] := hD
                    refine lv_iinc (v := 6) (lv' := [(4, .int 6), (0, .ref h0), (1, .int p0), (2, .long p1)]) hx hb d_Mo_octets_70 hl (k := 0) rfl (by decide) (by decide) rfl (fun ls hl => ?_)
                    refine lv_goto (tgt := 33) hx hb d_Mo_octets_73 (by decide) ?_
                    refine lv_iload hx hb d_Mo_octets_33 (lv_at hl 0 rfl) ?_
                    refine lv_iload_n hx hb d_Mo_octets_35 rfl (lv_at hl 2 rfl) ?_
                    refine lv_icmp_ge (tgt := 76) hx hb d_Mo_octets_36 (by decide) (fun c_57 => ?_) (fun c_57 => ?_)
                    · refine lv_aload_n hx hb d_Mo_octets_76 rfl (lv_at hl 1 rfl) ?_
                      refine kVv (n := 0) (As := []) (rest := []) (wr := [(h1, .inl (aI, 601, .inl f_55))]) X hP hD hS hA (c30_Mo_unread l D aI aJ aZ _ (h0) (.int 0) (.ref h1) (.int 6) (v2) (v3) (v4) (v5) (v6) (v7) (v8) (v9) (v10) (v11) (v12) (v13) (v14) (v15) (v16) (v17) (v18) (v19) (v20) (v21) (v22) (v23) (v24) (v25) (v26) (v27) (v28) (v29) (v30) (v31) (v32) (v33) (v34) (v35) (v36) (v37) (v38) (v39) (v40) (v41)) (kV_good t_1141 t_1138 t_1140 t_53 t_107) rfl rfl (by decide +kernel) ⟨Nat.le_of_ble_eq_true rfl, Nat.le_of_ble_eq_true rfl⟩ hl.1 rfl rfl (Nat.le_of_ble_eq_true rfl) d_Mo_octets_77 ⟨Nat.le_of_ble_eq_true rfl, Nat.le_of_ble_eq_true rfl⟩ [0] [1] rfl rfl (by decide) (by decide) (by decide) 0 rfl rfl (fun u H locs w_58 hP hD hS => ?_)
                      have hP : va_P D classes [(h1, .inl (aI, 601, .inl f_55)), (h0, .inr (10, [.int 0, .ref h1, .int 6, v2, v3, v4, .int 0, v5, .int 0, v6, v7, v8, v9, v10, v11, v12, v13, .int 0, v14, v15, v16, .int 0, .int 0, v17, v18, v19, v20, v21, v22, v23, v24, v25, v26, v27, v28, v29, v30, v31, v32, v33, v34, v35, v36, v37, v38, v39, v40, v41]))] H := hP
                      have hD : va_D A [(h1, .inl (aI, 601, .inl f_55)), (h0, .inr (10, [.int 0, .ref h1, .int 6, v2, v3, v4, .int 0, v5, .int 0, v6, v7, v8, v9, v10, v11, v12, v13, .int 0, v14, v15, v16, .int 0, .int 0, v17, v18, v19, v20, v21, v22, v23, v24, v25, v26, v27, v28, v29, v30, v31, v32, v33, v34, v35, v36, v37, v38, v39, v40, v41]))] := hD
                      refine lv_aload_n hx hb d_Mo_octets_80 rfl (lv_at hl 1 rfl) ?_
                      refine kget X hP 1 rfl rfl i_Mo 2 (by decide) t_990 rfl (v := .int 6) rfl d_Mo_octets_81 ?_
                      exact kri X hr hlocks hS () (koct_in c_1 c_2 (Int32.toInt_inj.mp (by simp only [Int32.lt_iff_toInt_lt, Int32.le_iff_toInt_le, kz_m1, kz_0, kz_1, kz_2, kz_3, kz_4, kz_5, kz_6, kz_7, kz_8, kz_600] at c_1 c_2 c_3 c_4 c_12 c_21 c_30 c_39 c_48 c_57; simp only [kz_m1, kz_0, kz_1, kz_2, kz_3, kz_4, kz_5, kz_6, kz_7, kz_8, kz_600]; omega))) (hP.sub [] rfl) (hD.sub [] (by decide) rfl) d_Mo_octets_84
                    · refine lv_aload_n hx hb d_Mo_octets_39 rfl (lv_at hl 1 rfl) ?_
                      refine kget X hP 0 rfl rfl i_Mo 1 (by decide) t_989 rfl (v := .ref h1) rfl d_Mo_octets_40 ?_
                      refine lv_aload_n hx hb d_Mo_octets_43 rfl (lv_at hl 1 rfl) ?_
                      refine kget X hP 0 rfl rfl i_Mo 2 (by decide) t_990 rfl (v := .int 6) rfl d_Mo_octets_44 ?_
                      refine lv_lload_n hx hb d_Mo_octets_47 rfl (lv_at hl 3 rfl) ?_
                      refine lv_bipush (v := 8) hx hb d_Mo_octets_48 (by decide) ?_
                      refine lv_iload hx hb d_Mo_octets_50 (lv_at hl 0 rfl) ?_
                      refine lv_imul hx hb d_Mo_octets_52 ?_
                      refine lv_topi (fun z_59 ez_59 => ?_)
                      obtain rfl : z_59 = 48 := ez_59.trans (by decide)
                      refine lv_lshr hx hb d_Mo_octets_53 rfl ?_
                      refine lv_topl (fun x_60 ex_60 => ?_)
                      refine lv_ldc2 hx hb hown (hk _ t_1137) d_Mo_octets_54 ?_
                      refine lv_topl (fun x_61 ex_61 => ?_)
                      refine lv_land hx hb d_Mo_octets_57 ?_
                      refine lv_topl (fun x_62 ex_62 => ?_)
                      refine lv_l2i hx hb d_Mo_octets_58 rfl ?_
                      refine lv_topi (fun x_63 ex_63 => ?_)
                      refine kiast X hP hD hS 1 0 rfl rfl (by unfold vp_in; decide) d_Mo_octets_59 (fun f_64 H locs hP hD hS => ?_)
                      have hP : va_P D classes [(h0, .inr (10, [.int 0, .ref h1, .int 6, v2, v3, v4, .int 0, v5, .int 0, v6, v7, v8, v9, v10, v11, v12, v13, .int 0, v14, v15, v16, .int 0, .int 0, v17, v18, v19, v20, v21, v22, v23, v24, v25, v26, v27, v28, v29, v30, v31, v32, v33, v34, v35, v36, v37, v38, v39, v40, v41])), (h1, .inl (aI, 601, .inl f_64))] H := hP
                      have hD : va_D A [(h0, .inr (10, [.int 0, .ref h1, .int 6, v2, v3, v4, .int 0, v5, .int 0, v6, v7, v8, v9, v10, v11, v12, v13, .int 0, v14, v15, v16, .int 0, .int 0, v17, v18, v19, v20, v21, v22, v23, v24, v25, v26, v27, v28, v29, v30, v31, v32, v33, v34, v35, v36, v37, v38, v39, v40, v41])), (h1, .inl (aI, 601, .inl f_64))] := hD
                      refine lv_aload_n hx hb d_Mo_octets_60 rfl (lv_at hl 1 rfl) ?_
                      refine lv_dup hx hb d_Mo_octets_61 rfl ?_
                      refine kget X hP 0 rfl rfl i_Mo 2 (by decide) t_990 rfl (v := .int 6) rfl d_Mo_octets_62 ?_
                      refine lv_iconst (v := 1) hx hb d_Mo_octets_65 (by decide) ?_
                      refine lv_iadd hx hb d_Mo_octets_66 ?_
                      refine lv_topi (fun z_65 ez_65 => ?_)
                      obtain rfl : z_65 = 7 := ez_65.trans (by decide)
                      refine kput X hP hD hS 0 rfl rfl i_Mo ty_Mo ty_Mo_ok nm_Mo 2 (by decide) t_990 rfl (v := .int 7) rfl rfl (Nat.le_of_ble_eq_true rfl) d_Mo_octets_67 (fun H locs hP hD hS => ?_)
                      have hP : va_P D classes [(h0, .inr (10, [.int 0, .ref h1, .int 7, v2, v3, v4, .int 0, v5, .int 0, v6, v7, v8, v9, v10, v11, v12, v13, .int 0, v14, v15, v16, .int 0, .int 0, v17, v18, v19, v20, v21, v22, v23, v24, v25, v26, v27, v28, v29, v30, v31, v32, v33, v34, v35, v36, v37, v38, v39, v40, v41])), (h1, .inl (aI, 601, .inl f_64))] H := hP
                      have hD : va_D A [(h0, .inr (10, [.int 0, .ref h1, .int 7, v2, v3, v4, .int 0, v5, .int 0, v6, v7, v8, v9, v10, v11, v12, v13, .int 0, v14, v15, v16, .int 0, .int 0, v17, v18, v19, v20, v21, v22, v23, v24, v25, v26, v27, v28, v29, v30, v31, v32, v33, v34, v35, v36, v37, v38, v39, v40, v41])), (h1, .inl (aI, 601, .inl f_64))] := hD
                      refine lv_iinc (v := 7) (lv' := [(4, .int 7), (0, .ref h0), (1, .int p0), (2, .long p1)]) hx hb d_Mo_octets_70 hl (k := 0) rfl (by decide) (by decide) rfl (fun ls hl => ?_)
                      refine lv_goto (tgt := 33) hx hb d_Mo_octets_73 (by decide) ?_
                      refine lv_iload hx hb d_Mo_octets_33 (lv_at hl 0 rfl) ?_
                      refine lv_iload_n hx hb d_Mo_octets_35 rfl (lv_at hl 2 rfl) ?_
                      refine lv_icmp_ge (tgt := 76) hx hb d_Mo_octets_36 (by decide) (fun c_66 => ?_) (fun c_66 => ?_)
                      · refine lv_aload_n hx hb d_Mo_octets_76 rfl (lv_at hl 1 rfl) ?_
                        refine kVv (n := 0) (As := []) (rest := []) (wr := [(h1, .inl (aI, 601, .inl f_64))]) X hP hD hS hA (c30_Mo_unread l D aI aJ aZ _ (h0) (.int 0) (.ref h1) (.int 7) (v2) (v3) (v4) (v5) (v6) (v7) (v8) (v9) (v10) (v11) (v12) (v13) (v14) (v15) (v16) (v17) (v18) (v19) (v20) (v21) (v22) (v23) (v24) (v25) (v26) (v27) (v28) (v29) (v30) (v31) (v32) (v33) (v34) (v35) (v36) (v37) (v38) (v39) (v40) (v41)) (kV_good t_1141 t_1138 t_1140 t_53 t_107) rfl rfl (by decide +kernel) ⟨Nat.le_of_ble_eq_true rfl, Nat.le_of_ble_eq_true rfl⟩ hl.1 rfl rfl (Nat.le_of_ble_eq_true rfl) d_Mo_octets_77 ⟨Nat.le_of_ble_eq_true rfl, Nat.le_of_ble_eq_true rfl⟩ [0] [1] rfl rfl (by decide) (by decide) (by decide) 0 rfl rfl (fun u H locs w_67 hP hD hS => ?_)
                        have hP : va_P D classes [(h1, .inl (aI, 601, .inl f_64)), (h0, .inr (10, [.int 0, .ref h1, .int 7, v2, v3, v4, .int 0, v5, .int 0, v6, v7, v8, v9, v10, v11, v12, v13, .int 0, v14, v15, v16, .int 0, .int 0, v17, v18, v19, v20, v21, v22, v23, v24, v25, v26, v27, v28, v29, v30, v31, v32, v33, v34, v35, v36, v37, v38, v39, v40, v41]))] H := hP
                        have hD : va_D A [(h1, .inl (aI, 601, .inl f_64)), (h0, .inr (10, [.int 0, .ref h1, .int 7, v2, v3, v4, .int 0, v5, .int 0, v6, v7, v8, v9, v10, v11, v12, v13, .int 0, v14, v15, v16, .int 0, .int 0, v17, v18, v19, v20, v21, v22, v23, v24, v25, v26, v27, v28, v29, v30, v31, v32, v33, v34, v35, v36, v37, v38, v39, v40, v41]))] := hD
                        refine lv_aload_n hx hb d_Mo_octets_80 rfl (lv_at hl 1 rfl) ?_
                        refine kget X hP 1 rfl rfl i_Mo 2 (by decide) t_990 rfl (v := .int 7) rfl d_Mo_octets_81 ?_
                        exact kri X hr hlocks hS () (koct_in c_1 c_2 (Int32.toInt_inj.mp (by simp only [Int32.lt_iff_toInt_lt, Int32.le_iff_toInt_le, kz_m1, kz_0, kz_1, kz_2, kz_3, kz_4, kz_5, kz_6, kz_7, kz_8, kz_600] at c_1 c_2 c_3 c_4 c_12 c_21 c_30 c_39 c_48 c_57 c_66; simp only [kz_m1, kz_0, kz_1, kz_2, kz_3, kz_4, kz_5, kz_6, kz_7, kz_8, kz_600]; omega))) (hP.sub [] rfl) (hD.sub [] (by decide) rfl) d_Mo_octets_84
                      · refine lv_aload_n hx hb d_Mo_octets_39 rfl (lv_at hl 1 rfl) ?_
                        refine kget X hP 0 rfl rfl i_Mo 1 (by decide) t_989 rfl (v := .ref h1) rfl d_Mo_octets_40 ?_
                        refine lv_aload_n hx hb d_Mo_octets_43 rfl (lv_at hl 1 rfl) ?_
                        refine kget X hP 0 rfl rfl i_Mo 2 (by decide) t_990 rfl (v := .int 7) rfl d_Mo_octets_44 ?_
                        refine lv_lload_n hx hb d_Mo_octets_47 rfl (lv_at hl 3 rfl) ?_
                        refine lv_bipush (v := 8) hx hb d_Mo_octets_48 (by decide) ?_
                        refine lv_iload hx hb d_Mo_octets_50 (lv_at hl 0 rfl) ?_
                        refine lv_imul hx hb d_Mo_octets_52 ?_
                        refine lv_topi (fun z_68 ez_68 => ?_)
                        obtain rfl : z_68 = 56 := ez_68.trans (by decide)
                        refine lv_lshr hx hb d_Mo_octets_53 rfl ?_
                        refine lv_topl (fun x_69 ex_69 => ?_)
                        refine lv_ldc2 hx hb hown (hk _ t_1137) d_Mo_octets_54 ?_
                        refine lv_topl (fun x_70 ex_70 => ?_)
                        refine lv_land hx hb d_Mo_octets_57 ?_
                        refine lv_topl (fun x_71 ex_71 => ?_)
                        refine lv_l2i hx hb d_Mo_octets_58 rfl ?_
                        refine lv_topi (fun x_72 ex_72 => ?_)
                        refine kiast X hP hD hS 1 0 rfl rfl (by unfold vp_in; decide) d_Mo_octets_59 (fun f_73 H locs hP hD hS => ?_)
                        have hP : va_P D classes [(h0, .inr (10, [.int 0, .ref h1, .int 7, v2, v3, v4, .int 0, v5, .int 0, v6, v7, v8, v9, v10, v11, v12, v13, .int 0, v14, v15, v16, .int 0, .int 0, v17, v18, v19, v20, v21, v22, v23, v24, v25, v26, v27, v28, v29, v30, v31, v32, v33, v34, v35, v36, v37, v38, v39, v40, v41])), (h1, .inl (aI, 601, .inl f_73))] H := hP
                        have hD : va_D A [(h0, .inr (10, [.int 0, .ref h1, .int 7, v2, v3, v4, .int 0, v5, .int 0, v6, v7, v8, v9, v10, v11, v12, v13, .int 0, v14, v15, v16, .int 0, .int 0, v17, v18, v19, v20, v21, v22, v23, v24, v25, v26, v27, v28, v29, v30, v31, v32, v33, v34, v35, v36, v37, v38, v39, v40, v41])), (h1, .inl (aI, 601, .inl f_73))] := hD
                        refine lv_aload_n hx hb d_Mo_octets_60 rfl (lv_at hl 1 rfl) ?_
                        refine lv_dup hx hb d_Mo_octets_61 rfl ?_
                        refine kget X hP 0 rfl rfl i_Mo 2 (by decide) t_990 rfl (v := .int 7) rfl d_Mo_octets_62 ?_
                        refine lv_iconst (v := 1) hx hb d_Mo_octets_65 (by decide) ?_
                        refine lv_iadd hx hb d_Mo_octets_66 ?_
                        refine lv_topi (fun z_74 ez_74 => ?_)
                        obtain rfl : z_74 = 8 := ez_74.trans (by decide)
                        refine kput X hP hD hS 0 rfl rfl i_Mo ty_Mo ty_Mo_ok nm_Mo 2 (by decide) t_990 rfl (v := .int 8) rfl rfl (Nat.le_of_ble_eq_true rfl) d_Mo_octets_67 (fun H locs hP hD hS => ?_)
                        have hP : va_P D classes [(h0, .inr (10, [.int 0, .ref h1, .int 8, v2, v3, v4, .int 0, v5, .int 0, v6, v7, v8, v9, v10, v11, v12, v13, .int 0, v14, v15, v16, .int 0, .int 0, v17, v18, v19, v20, v21, v22, v23, v24, v25, v26, v27, v28, v29, v30, v31, v32, v33, v34, v35, v36, v37, v38, v39, v40, v41])), (h1, .inl (aI, 601, .inl f_73))] H := hP
                        have hD : va_D A [(h0, .inr (10, [.int 0, .ref h1, .int 8, v2, v3, v4, .int 0, v5, .int 0, v6, v7, v8, v9, v10, v11, v12, v13, .int 0, v14, v15, v16, .int 0, .int 0, v17, v18, v19, v20, v21, v22, v23, v24, v25, v26, v27, v28, v29, v30, v31, v32, v33, v34, v35, v36, v37, v38, v39, v40, v41])), (h1, .inl (aI, 601, .inl f_73))] := hD
                        refine lv_iinc (v := 8) (lv' := [(4, .int 8), (0, .ref h0), (1, .int p0), (2, .long p1)]) hx hb d_Mo_octets_70 hl (k := 0) rfl (by decide) (by decide) rfl (fun ls hl => ?_)
                        refine lv_goto (tgt := 33) hx hb d_Mo_octets_73 (by decide) ?_
                        refine lv_iload hx hb d_Mo_octets_33 (lv_at hl 0 rfl) ?_
                        refine lv_iload_n hx hb d_Mo_octets_35 rfl (lv_at hl 2 rfl) ?_
                        refine lv_icmp_ge (tgt := 76) hx hb d_Mo_octets_36 (by decide) (fun c_75 => ?_) (fun c_75 => ?_)
                        · refine lv_aload_n hx hb d_Mo_octets_76 rfl (lv_at hl 1 rfl) ?_
                          refine kVv (n := 0) (As := []) (rest := []) (wr := [(h1, .inl (aI, 601, .inl f_73))]) X hP hD hS hA (c30_Mo_unread l D aI aJ aZ _ (h0) (.int 0) (.ref h1) (.int 8) (v2) (v3) (v4) (v5) (v6) (v7) (v8) (v9) (v10) (v11) (v12) (v13) (v14) (v15) (v16) (v17) (v18) (v19) (v20) (v21) (v22) (v23) (v24) (v25) (v26) (v27) (v28) (v29) (v30) (v31) (v32) (v33) (v34) (v35) (v36) (v37) (v38) (v39) (v40) (v41)) (kV_good t_1141 t_1138 t_1140 t_53 t_107) rfl rfl (by decide +kernel) ⟨Nat.le_of_ble_eq_true rfl, Nat.le_of_ble_eq_true rfl⟩ hl.1 rfl rfl (Nat.le_of_ble_eq_true rfl) d_Mo_octets_77 ⟨Nat.le_of_ble_eq_true rfl, Nat.le_of_ble_eq_true rfl⟩ [0] [1] rfl rfl (by decide) (by decide) (by decide) 0 rfl rfl (fun u H locs w_76 hP hD hS => ?_)
                          have hP : va_P D classes [(h1, .inl (aI, 601, .inl f_73)), (h0, .inr (10, [.int 0, .ref h1, .int 8, v2, v3, v4, .int 0, v5, .int 0, v6, v7, v8, v9, v10, v11, v12, v13, .int 0, v14, v15, v16, .int 0, .int 0, v17, v18, v19, v20, v21, v22, v23, v24, v25, v26, v27, v28, v29, v30, v31, v32, v33, v34, v35, v36, v37, v38, v39, v40, v41]))] H := hP
                          have hD : va_D A [(h1, .inl (aI, 601, .inl f_73)), (h0, .inr (10, [.int 0, .ref h1, .int 8, v2, v3, v4, .int 0, v5, .int 0, v6, v7, v8, v9, v10, v11, v12, v13, .int 0, v14, v15, v16, .int 0, .int 0, v17, v18, v19, v20, v21, v22, v23, v24, v25, v26, v27, v28, v29, v30, v31, v32, v33, v34, v35, v36, v37, v38, v39, v40, v41]))] := hD
                          refine lv_aload_n hx hb d_Mo_octets_80 rfl (lv_at hl 1 rfl) ?_
                          refine kget X hP 1 rfl rfl i_Mo 2 (by decide) t_990 rfl (v := .int 8) rfl d_Mo_octets_81 ?_
                          exact kri X hr hlocks hS () (koct_in c_1 c_2 (Int32.toInt_inj.mp (by simp only [Int32.lt_iff_toInt_lt, Int32.le_iff_toInt_le, kz_m1, kz_0, kz_1, kz_2, kz_3, kz_4, kz_5, kz_6, kz_7, kz_8, kz_600] at c_1 c_2 c_3 c_4 c_12 c_21 c_30 c_39 c_48 c_57 c_66 c_75; simp only [kz_m1, kz_0, kz_1, kz_2, kz_3, kz_4, kz_5, kz_6, kz_7, kz_8, kz_600]; omega))) (hP.sub [] rfl) (hD.sub [] (by decide) rfl) d_Mo_octets_84
                        · exfalso
                          first
                            | contradiction
                            | (simp only [Int32.lt_iff_toInt_lt, Int32.le_iff_toInt_le, kz_m1, kz_0, kz_1, kz_2, kz_3, kz_4, kz_5, kz_6, kz_7, kz_8, kz_600] at c_1 c_2 c_3 c_4 c_12 c_21 c_30 c_39 c_48 c_57 c_66 c_75; omega)
      · exfalso
        first
          | contradiction
          | (simp only [Int32.lt_iff_toInt_lt, Int32.le_iff_toInt_le, kz_m1, kz_0, kz_1, kz_2, kz_3, kz_4, kz_5, kz_6, kz_7, kz_8, kz_600] at c_1 c_2 c_3; omega)
