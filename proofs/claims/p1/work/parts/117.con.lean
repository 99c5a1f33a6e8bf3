set_option maxHeartbeats 4000000 in
set_option maxRecDepth 100000 in
theorem c91_Pr_letterAt (l : Launch) (D : va_G) (aI aJ aZ : ClassId) (sz : Nat) (h0 : Nat) (p0 : Int32) (v1 : Value) (v2 : Value) (v3 : Value) (v4 : Value) (v5 : Value) : Met l y_Pr_letterAt (kq y_Pr_letterAt prog_7_method_3_code 2 (some .int)) { frames := 0, cells := 0, slots := 0, locals := 0 } (va_Pc [.ref h0, .int p0] (kPre D (kT aI aJ aZ) [(h0, .inr (8, [v1, v2, v3, .int (-1), v4, v5]))] sz)) (va_Qi (fun (r : Int32) (_ : Unit) => r = (-1)) (fun u => kB D (va_A [(h0, .inr (8, [v1, v2, v3, .int (-1), v4, v5]))] sz) ((fun (_ : Unit) => ([(h0, .inr (8, [v1, v2, v3, .int (-1), v4, v5]))] : va_W)) u)) (va_A [(h0, .inr (8, [v1, v2, v3, .int (-1), v4, v5]))] sz)) 0 0 (va_A [(h0, .inr (8, [v1, v2, v3, .int (-1), v4, v5]))] sz) := by
  refine kMet (y := y_Pr_letterAt) (bytes := prog_7_method_3_code) (maxL := 2) (ret := (some .int)) (av := [.ref h0, .int p0]) (ws := [(h0, .inr (8, [v1, v2, v3, .int (-1), v4, v5]))]) (Qc := fun A => va_Qi (fun (r : Int32) (_ : Unit) => r = (-1)) (fun u => kB D A ((fun (_ : Unit) => ([(h0, .inr (8, [v1, v2, v3, .int (-1), v4, v5]))] : va_W)) u)) A) "LayoutTokens$Printer" "letterAt" (by decide) rfl rfl (Nat.le_of_ble_eq_true rfl) ?_
  intro p e s m below meth c A ls X hr hlocks hin hA hP hD hl
  have hx := X.1.1
  have hb := X.1.2.1
  have hown := X.1.2.2.2.1
  have hk := X.1.2.2.2.2
  have hS : va_S A s.heap s.heap [] := va_S.rf
  have hl : lv_has ls 2 [(0, .ref h0), (1, .int p0)] := hl
  refine lv_iload_n hx hb d_Pr_letterAt_0 rfl (lv_at hl 1 rfl) ?_
  refine lv_if_lt (tgt := 28) hx hb d_Pr_letterAt_1 (by decide) (fun c_1 => ?_) (fun c_1 => ?_)
  · refine lv_iconst (v := (-1)) hx hb d_Pr_letterAt_28 (by decide) ?_
    exact kri X hr hlocks hS () rfl (hP.sub [0] rfl) (hD.sub [0] (by decide) rfl) d_Pr_letterAt_29
  · refine lv_iload_n hx hb d_Pr_letterAt_4 rfl (lv_at hl 1 rfl) ?_
    refine lv_aload_n hx hb d_Pr_letterAt_5 rfl (lv_at hl 0 rfl) ?_
    refine kget X hP 0 rfl rfl i_Pr 3 (by decide) t_342 rfl (v := .int (-1)) rfl d_Pr_letterAt_6 ?_
    refine lv_icmp_ge (tgt := 28) hx hb d_Pr_letterAt_9 (by decide) (fun c_2 => ?_) (fun c_2 => ?_)
    · refine lv_iconst (v := (-1)) hx hb d_Pr_letterAt_28 (by decide) ?_
      exact kri X hr hlocks hS () rfl (hP.sub [0] rfl) (hD.sub [0] (by decide) rfl) d_Pr_letterAt_29
    · exfalso
      first
        | contradiction
        | (simp only [Int32.lt_iff_toInt_lt, Int32.le_iff_toInt_le, kz_m1, kz_0, kz_1, kz_2, kz_3, kz_4, kz_5, kz_6, kz_7, kz_8, kz_600] at c_1 c_2; omega)
set_option maxHeartbeats 4000000 in
set_option maxRecDepth 100000 in
theorem c92_Lt_letter (l : Launch) (D : va_G) (aI aJ aZ : ClassId) (sz : Nat) (h0 : Nat) (h1 : Nat) (p0 : Int32) (v1 : Value) (v2 : Value) (v3 : Value) (v4 : Value) (v5 : Value) (v6 : Value) (v7 : Value) (v8 : Value) (v9 : Value) (v10 : Value) (v11 : Value) (v12 : Value) (v13 : Value) : Met l y_Lt_letter (kq y_Lt_letter prog_1_method_11_code 2 (some .int)) { frames := 1, cells := 0, slots := 0, locals := 21 } (va_Pc [.ref h0, .int p0] (kPre D (kT aI aJ aZ) [(h0, .inr (9, [v1, v2, v3, v4, v5, v6, v7, .ref h1, v8])), (h1, .inr (8, [v9, v10, v11, .int (-1), v12, v13]))] sz)) (va_Qi (fun (r : Int32) (_ : Unit) => r = (-1)) (fun u => kB D (va_A [(h0, .inr (9, [v1, v2, v3, v4, v5, v6, v7, .ref h1, v8])), (h1, .inr (8, [v9, v10, v11, .int (-1), v12, v13]))] sz) ((fun (_ : Unit) => ([] : va_W)) u)) (va_A [(h0, .inr (9, [v1, v2, v3, v4, v5, v6, v7, .ref h1, v8])), (h1, .inr (8, [v9, v10, v11, .int (-1), v12, v13]))] sz)) 0 0 (va_A [(h0, .inr (9, [v1, v2, v3, v4, v5, v6, v7, .ref h1, v8])), (h1, .inr (8, [v9, v10, v11, .int (-1), v12, v13]))] sz) := by
  refine kMet (y := y_Lt_letter) (bytes := prog_1_method_11_code) (maxL := 2) (ret := (some .int)) (av := [.ref h0, .int p0]) (ws := [(h0, .inr (9, [v1, v2, v3, v4, v5, v6, v7, .ref h1, v8])), (h1, .inr (8, [v9, v10, v11, .int (-1), v12, v13]))]) (Qc := fun A => va_Qi (fun (r : Int32) (_ : Unit) => r = (-1)) (fun u => kB D A ((fun (_ : Unit) => ([] : va_W)) u)) A) "LayoutTokens" "letter" (by decide) rfl rfl (Nat.le_of_ble_eq_true rfl) ?_
  intro p e s m below meth c A ls X hr hlocks hin hA hP hD hl
  have hx := X.1.1
  have hb := X.1.2.1
  have hown := X.1.2.2.2.1
  have hk := X.1.2.2.2.2
  have hS : va_S A s.heap s.heap [] := va_S.rf
  have hl : lv_has ls 2 [(0, .ref h0), (1, .int p0)] := hl
  refine lv_aload_n hx hb d_Lt_letter_0 rfl (lv_at hl 0 rfl) ?_
  refine kget X hP 0 rfl rfl i_Lt 7 (by decide) t_365 rfl (v := .ref h1) rfl d_Lt_letter_1 ?_
  refine lv_iload_n hx hb d_Lt_letter_4 rfl (lv_at hl 1 rfl) ?_
  refine kVi (n := 1) (As := [.int p0]) (rest := []) (wr := [(h0, .inr (9, [v1, v2, v3, v4, v5, v6, v7, .ref h1, v8]))]) X hP hD hS hA (c91_Pr_letterAt l D aI aJ aZ _ (h1) (p0) (v9) (v10) (v11) (v12) (v13)) (kV_good t_944 t_941 t_942 t_943 t_106) rfl rfl (by decide +kernel) ⟨Nat.le_of_ble_eq_true rfl, Nat.le_of_ble_eq_true rfl⟩ hl.1 rfl rfl (Nat.le_of_ble_eq_true rfl) d_Lt_letter_5 ⟨Nat.le_of_ble_eq_true rfl, Nat.le_of_ble_eq_true rfl⟩ [1] [0] rfl rfl (by decide) (by decide) (by decide) 0 rfl rfl (fun r_2 u H locs w_1 hP hD hS => ?_)
  have hP : va_P D classes [(h0, .inr (9, [v1, v2, v3, v4, v5, v6, v7, .ref h1, v8])), (h1, .inr (8, [v9, v10, v11, .int (-1), v12, v13]))] H := hP
  have hD : va_D A [(h0, .inr (9, [v1, v2, v3, v4, v5, v6, v7, .ref h1, v8])), (h1, .inr (8, [v9, v10, v11, .int (-1), v12, v13]))] := hD
  obtain rfl : r_2 = (-1) := w_1
  exact kri X hr hlocks hS () rfl (hP.sub [] rfl) (hD.sub [] (by decide) rfl) d_Lt_letter_8
set_option maxHeartbeats 4000000 in
set_option maxRecDepth 100000 in
theorem c93_Mo_letter (l : Launch) (D : va_G) (aI aJ aZ : ClassId) (sz : Nat) (h0 : Nat) (p0 : Int32) (v1 : Value) (v2 : Value) (v3 : Value) (v4 : Value) (v5 : Value) (v6 : Value) (v7 : Value) (v8 : Value) (v9 : Value) (v10 : Value) (v11 : Value) (v12 : Value) (v13 : Value) (v14 : Value) (v15 : Value) (v16 : Value) (v17 : Value) (v18 : Value) (v19 : Value) (v20 : Value) (v21 : Value) (v22 : Value) (v23 : Value) (v24 : Value) (v25 : Value) (v26 : Value) (v27 : Value) (v28 : Value) (v29 : Value) (v30 : Value) (v31 : Value) (v32 : Value) (v33 : Value) (v34 : Value) (v35 : Value) (v36 : Value) (v37 : Value) (v38 : Value) (v39 : Value) (v40 : Value) (v41 : Value) (v42 : Value) (v43 : Value) (v44 : Value) (v45 : Value) (v46 : Value) : Met l y_Mo_letter (kq y_Mo_letter prog_12_method_71_code 2 (some .int)) { frames := 0, cells := 0, slots := 0, locals := 0 } (va_Pc [.ref h0, .int p0] (kPre D (kT aI aJ aZ) [(h0, .inr (10, [.int 0, v1, v2, v3, v4, v5, v6, v7, v8, v9, v10, v11, v12, v13, v14, v15, v16, v17, v18, v19, v20, v21, v22, v23, v24, v25, v26, v27, v28, .int (-1), v29, v30, v31, v32, v33, v34, v35, v36, v37, v38, v39, v40, v41, v42, v43, v44, v45, v46]))] sz)) (va_Qi (fun (r : Int32) (_ : Unit) => r = (-1)) (fun u => kB D (va_A [(h0, .inr (10, [.int 0, v1, v2, v3, v4, v5, v6, v7, v8, v9, v10, v11, v12, v13, v14, v15, v16, v17, v18, v19, v20, v21, v22, v23, v24, v25, v26, v27, v28, .int (-1), v29, v30, v31, v32, v33, v34, v35, v36, v37, v38, v39, v40, v41, v42, v43, v44, v45, v46]))] sz) ((fun (_ : Unit) => ([] : va_W)) u)) (va_A [(h0, .inr (10, [.int 0, v1, v2, v3, v4, v5, v6, v7, v8, v9, v10, v11, v12, v13, v14, v15, v16, v17, v18, v19, v20, v21, v22, v23, v24, v25, v26, v27, v28, .int (-1), v29, v30, v31, v32, v33, v34, v35, v36, v37, v38, v39, v40, v41, v42, v43, v44, v45, v46]))] sz)) 0 0 (va_A [(h0, .inr (10, [.int 0, v1, v2, v3, v4, v5, v6, v7, v8, v9, v10, v11, v12, v13, v14, v15, v16, v17, v18, v19, v20, v21, v22, v23, v24, v25, v26, v27, v28, .int (-1), v29, v30, v31, v32, v33, v34, v35, v36, v37, v38, v39, v40, v41, v42, v43, v44, v45, v46]))] sz) := by
  refine kMet (y := y_Mo_letter) (bytes := prog_12_method_71_code) (maxL := 2) (ret := (some .int)) (av := [.ref h0, .int p0]) (ws := [(h0, .inr (10, [.int 0, v1, v2, v3, v4, v5, v6, v7, v8, v9, v10, v11, v12, v13, v14, v15, v16, v17, v18, v19, v20, v21, v22, v23, v24, v25, v26, v27, v28, .int (-1), v29, v30, v31, v32, v33, v34, v35, v36, v37, v38, v39, v40, v41, v42, v43, v44, v45, v46]))]) (Qc := fun A => va_Qi (fun (r : Int32) (_ : Unit) => r = (-1)) (fun u => kB D A ((fun (_ : Unit) => ([] : va_W)) u)) A) "LayoutTokensModel" "letter" (by decide) rfl rfl (Nat.le_of_ble_eq_true rfl) ?_
  intro p e s m below meth c A ls X hr hlocks hin hA hP hD hl
  have hx := X.1.1
  have hb := X.1.2.1
  have hown := X.1.2.2.2.1
  have hk := X.1.2.2.2.2
  have hS : va_S A s.heap s.heap [] := va_S.rf
  have hl : lv_has ls 2 [(0, .ref h0), (1, .int p0)] := hl
  refine lv_aload_n hx hb d_Mo_letter_0 rfl (lv_at hl 0 rfl) ?_
  refine lv_iconst (v := 0) hx hb d_Mo_letter_1 (by decide) ?_
  refine kput X hP hD hS 0 rfl rfl i_Mo ty_Mo ty_Mo_ok nm_Mo 0 (by decide) t_988 rfl (v := .int 0) rfl rfl (Nat.le_of_ble_eq_true rfl) d_Mo_letter_2 (fun H locs hP hD hS => ?_)
  have hP : va_P D classes [(h0, .inr (10, [.int 0, v1, v2, v3, v4, v5, v6, v7, v8, v9, v10, v11, v12, v13, v14, v15, v16, v17, v18, v19, v20, v21, v22, v23, v24, v25, v26, v27, v28, .int (-1), v29, v30, v31, v32, v33, v34, v35, v36, v37, v38, v39, v40, v41, v42, v43, v44, v45, v46]))] H := hP
  have hD : va_D A [(h0, .inr (10, [.int 0, v1, v2, v3, v4, v5, v6, v7, v8, v9, v10, v11, v12, v13, v14, v15, v16, v17, v18, v19, v20, v21, v22, v23, v24, v25, v26, v27, v28, .int (-1), v29, v30, v31, v32, v33, v34, v35, v36, v37, v38, v39, v40, v41, v42, v43, v44, v45, v46]))] := hD
  refine lv_iload_n hx hb d_Mo_letter_5 rfl (lv_at hl 1 rfl) ?_
  refine lv_if_lt (tgt := 17) hx hb d_Mo_letter_6 (by decide) (fun c_1 => ?_) (fun c_1 => ?_)
  · refine lv_iconst (v := (-1)) hx hb d_Mo_letter_17 (by decide) ?_
    refine lv_goto (tgt := 27) hx hb d_Mo_letter_18 (by decide) ?_
    exact kri X hr hlocks hS () rfl (hP.sub [] rfl) (hD.sub [] (by decide) rfl) d_Mo_letter_27
  · refine lv_iload_n hx hb d_Mo_letter_9 rfl (lv_at hl 1 rfl) ?_
    refine lv_aload_n hx hb d_Mo_letter_10 rfl (lv_at hl 0 rfl) ?_
    refine kget X hP 0 rfl rfl i_Mo 29 (by decide) t_1017 rfl (v := .int (-1)) rfl d_Mo_letter_11 ?_
    refine lv_icmp_lt (tgt := 21) hx hb d_Mo_letter_14 (by decide) (fun c_2 => ?_) (fun c_2 => ?_)
    · exfalso
      first
        | contradiction
        | (simp only [Int32.lt_iff_toInt_lt, Int32.le_iff_toInt_le, kz_m1, kz_0, kz_1, kz_2, kz_3, kz_4, kz_5, kz_6, kz_7, kz_8, kz_600] at c_1 c_2; omega)
    · refine lv_iconst (v := (-1)) hx hb d_Mo_letter_17 (by decide) ?_
      refine lv_goto (tgt := 27) hx hb d_Mo_letter_18 (by decide) ?_
      exact kri X hr hlocks hS () rfl (hP.sub [] rfl) (hD.sub [] (by decide) rfl) d_Mo_letter_27
set_option maxHeartbeats 4000000 in
set_option maxRecDepth 100000 in
theorem c94_Pr_count (l : Launch) (D : va_G) (aI aJ aZ : ClassId) (sz : Nat) (h0 : Nat) (v0 : Value) (v1 : Value) (v2 : Value) (v3 : Value) (v4 : Value) : Met l y_Pr_count (kq y_Pr_count prog_7_method_2_code 1 (some .int)) { frames := 0, cells := 0, slots := 0, locals := 0 } (va_Pc [.ref h0] (kPre D (kT aI aJ aZ) [(h0, .inr (8, [v0, v1, v2, .int (-1), v3, v4]))] sz)) (va_Qi (fun (r : Int32) (_ : Unit) => r = (-1)) (fun u => kB D (va_A [(h0, .inr (8, [v0, v1, v2, .int (-1), v3, v4]))] sz) ((fun (_ : Unit) => ([(h0, .inr (8, [v0, v1, v2, .int (-1), v3, v4]))] : va_W)) u)) (va_A [(h0, .inr (8, [v0, v1, v2, .int (-1), v3, v4]))] sz)) 0 0 (va_A [(h0, .inr (8, [v0, v1, v2, .int (-1), v3, v4]))] sz) := by
  refine kMet (y := y_Pr_count) (bytes := prog_7_method_2_code) (maxL := 1) (ret := (some .int)) (av := [.ref h0]) (ws := [(h0, .inr (8, [v0, v1, v2, .int (-1), v3, v4]))]) (Qc := fun A => va_Qi (fun (r : Int32) (_ : Unit) => r = (-1)) (fun u => kB D A ((fun (_ : Unit) => ([(h0, .inr (8, [v0, v1, v2, .int (-1), v3, v4]))] : va_W)) u)) A) "LayoutTokens$Printer" "count" (by decide) rfl rfl (Nat.le_of_ble_eq_true rfl) ?_
  intro p e s m below meth c A ls X hr hlocks hin hA hP hD hl
  have hx := X.1.1
  have hb := X.1.2.1
  have hown := X.1.2.2.2.1
  have hk := X.1.2.2.2.2
  have hS : va_S A s.heap s.heap [] := va_S.rf
  have hl : lv_has ls 1 [(0, .ref h0)] := hl
  refine lv_aload_n hx hb d_Pr_count_0 rfl (lv_at hl 0 rfl) ?_
  refine kget X hP 0 rfl rfl i_Pr 3 (by decide) t_342 rfl (v := .int (-1)) rfl d_Pr_count_1 ?_
  exact kri X hr hlocks hS () rfl (hP.sub [0] rfl) (hD.sub [0] (by decide) rfl) d_Pr_count_4
set_option maxHeartbeats 4000000 in
set_option maxRecDepth 100000 in
theorem c95_Lt_back (l : Launch) (D : va_G) (aI aJ aZ : ClassId) (sz : Nat) (h0 : Nat) (h1 : Nat) (v0 : Value) (v1 : Value) (v2 : Value) (v3 : Value) (v4 : Value) (v5 : Value) (v6 : Value) (v7 : Value) (v8 : Value) (v9 : Value) (v10 : Value) (v11 : Value) (v12 : Value) : Met l y_Lt_back (kq y_Lt_back prog_1_method_12_code 2 (some .int)) { frames := 1, cells := 0, slots := 0, locals := 20 } (va_Pc [.ref h0] (kPre D (kT aI aJ aZ) [(h0, .inr (9, [v0, v1, v2, v3, v4, v5, v6, .ref h1, v7])), (h1, .inr (8, [v8, v9, v10, .int (-1), v11, v12]))] sz)) (va_Qi (fun (r : Int32) (_ : Unit) => r = (-1)) (fun u => kB D (va_A [(h0, .inr (9, [v0, v1, v2, v3, v4, v5, v6, .ref h1, v7])), (h1, .inr (8, [v8, v9, v10, .int (-1), v11, v12]))] sz) ((fun (_ : Unit) => ([] : va_W)) u)) (va_A [(h0, .inr (9, [v0, v1, v2, v3, v4, v5, v6, .ref h1, v7])), (h1, .inr (8, [v8, v9, v10, .int (-1), v11, v12]))] sz)) 0 0 (va_A [(h0, .inr (9, [v0, v1, v2, v3, v4, v5, v6, .ref h1, v7])), (h1, .inr (8, [v8, v9, v10, .int (-1), v11, v12]))] sz) := by
  refine kMet (y := y_Lt_back) (bytes := prog_1_method_12_code) (maxL := 2) (ret := (some .int)) (av := [.ref h0]) (ws := [(h0, .inr (9, [v0, v1, v2, v3, v4, v5, v6, .ref h1, v7])), (h1, .inr (8, [v8, v9, v10, .int (-1), v11, v12]))]) (Qc := fun A => va_Qi (fun (r : Int32) (_ : Unit) => r = (-1)) (fun u => kB D A ((fun (_ : Unit) => ([] : va_W)) u)) A) "LayoutTokens" "back" (by decide) rfl rfl (Nat.le_of_ble_eq_true rfl) ?_
  intro p e s m below meth c A ls X hr hlocks hin hA hP hD hl
  have hx := X.1.1
  have hb := X.1.2.1
  have hown := X.1.2.2.2.1
  have hk := X.1.2.2.2.2
  have hS : va_S A s.heap s.heap [] := va_S.rf
  have hl : lv_has ls 2 [(0, .ref h0)] := hl
  refine lv_aload_n hx hb d_Lt_back_0 rfl (lv_at hl 0 rfl) ?_
  refine kget X hP 0 rfl rfl i_Lt 7 (by decide) t_365 rfl (v := .ref h1) rfl d_Lt_back_1 ?_
  refine kVi (n := 0) (As := []) (rest := []) (wr := [(h0, .inr (9, [v0, v1, v2, v3, v4, v5, v6, .ref h1, v7]))]) X hP hD hS hA (c94_Pr_count l D aI aJ aZ _ (h1) (v8) (v9) (v10) (v11) (v12)) (kV_good t_952 t_949 t_950 t_951 t_106) rfl rfl (by decide +kernel) ⟨Nat.le_of_ble_eq_true rfl, Nat.le_of_ble_eq_true rfl⟩ hl.1 rfl rfl (Nat.le_of_ble_eq_true rfl) d_Lt_back_4 ⟨Nat.le_of_ble_eq_true rfl, Nat.le_of_ble_eq_true rfl⟩ [1] [0] rfl rfl (by decide) (by decide) (by decide) 0 rfl rfl (fun r_2 u H locs w_1 hP hD hS => ?_)
  have hP : va_P D classes [(h0, .inr (9, [v0, v1, v2, v3, v4, v5, v6, .ref h1, v7])), (h1, .inr (8, [v8, v9, v10, .int (-1), v11, v12]))] H := hP
  have hD : va_D A [(h0, .inr (9, [v0, v1, v2, v3, v4, v5, v6, .ref h1, v7])), (h1, .inr (8, [v8, v9, v10, .int (-1), v11, v12]))] := hD
  obtain rfl : r_2 = (-1) := w_1
  refine lv_iconst (v := (-1)) hx hb d_Lt_back_7 (by decide) ?_
  refine lv_icmp_ne (tgt := 13) hx hb d_Lt_back_8 (by decide) (fun c_3 => absurd (by decide) c_3) (fun c_3 => ?_)
  refine lv_iconst (v := (-1)) hx hb d_Lt_back_11 (by decide) ?_
  exact kri X hr hlocks hS () rfl (hP.sub [] rfl) (hD.sub [] (by decide) rfl) d_Lt_back_12
set_option maxHeartbeats 4000000 in
set_option maxRecDepth 100000 in
theorem c96_Mo_back (l : Launch) (D : va_G) (aI aJ aZ : ClassId) (sz : Nat) (h0 : Nat) (v0 : Value) (v1 : Value) (v2 : Value) (v3 : Value) (v4 : Value) (v5 : Value) (v6 : Value) (v7 : Value) (v8 : Value) (v9 : Value) (v10 : Value) (v11 : Value) (v12 : Value) (v13 : Value) (v14 : Value) (v15 : Value) (v16 : Value) (v17 : Value) (v18 : Value) (v19 : Value) (v20 : Value) (v21 : Value) (v22 : Value) (v23 : Value) (v24 : Value) (v25 : Value) (v26 : Value) (v27 : Value) (v28 : Value) (v29 : Value) (v30 : Value) (v31 : Value) (v32 : Value) (v33 : Value) (v34 : Value) (v35 : Value) (v36 : Value) (v37 : Value) (v38 : Value) (v39 : Value) (v40 : Value) (v41 : Value) (v42 : Value) (v43 : Value) (v44 : Value) (v45 : Value) : Met l y_Mo_back (kq y_Mo_back prog_12_method_72_code 2 (some .int)) { frames := 0, cells := 0, slots := 0, locals := 0 } (va_Pc [.ref h0] (kPre D (kT aI aJ aZ) [(h0, .inr (10, [.int 0, v0, v1, v2, v3, v4, v5, v6, v7, v8, v9, v10, v11, v12, v13, v14, v15, v16, v17, v18, v19, v20, v21, v22, v23, v24, v25, v26, v27, .int (-1), v28, v29, v30, v31, v32, v33, v34, v35, v36, v37, v38, v39, v40, v41, v42, v43, v44, v45]))] sz)) (va_Qi (fun (r : Int32) (_ : Unit) => r = (-1)) (fun u => kB D (va_A [(h0, .inr (10, [.int 0, v0, v1, v2, v3, v4, v5, v6, v7, v8, v9, v10, v11, v12, v13, v14, v15, v16, v17, v18, v19, v20, v21, v22, v23, v24, v25, v26, v27, .int (-1), v28, v29, v30, v31, v32, v33, v34, v35, v36, v37, v38, v39, v40, v41, v42, v43, v44, v45]))] sz) ((fun (_ : Unit) => ([] : va_W)) u)) (va_A [(h0, .inr (10, [.int 0, v0, v1, v2, v3, v4, v5, v6, v7, v8, v9, v10, v11, v12, v13, v14, v15, v16, v17, v18, v19, v20, v21, v22, v23, v24, v25, v26, v27, .int (-1), v28, v29, v30, v31, v32, v33, v34, v35, v36, v37, v38, v39, v40, v41, v42, v43, v44, v45]))] sz)) 0 0 (va_A [(h0, .inr (10, [.int 0, v0, v1, v2, v3, v4, v5, v6, v7, v8, v9, v10, v11, v12, v13, v14, v15, v16, v17, v18, v19, v20, v21, v22, v23, v24, v25, v26, v27, .int (-1), v28, v29, v30, v31, v32, v33, v34, v35, v36, v37, v38, v39, v40, v41, v42, v43, v44, v45]))] sz) := by
  refine kMet (y := y_Mo_back) (bytes := prog_12_method_72_code) (maxL := 2) (ret := (some .int)) (av := [.ref h0]) (ws := [(h0, .inr (10, [.int 0, v0, v1, v2, v3, v4, v5, v6, v7, v8, v9, v10, v11, v12, v13, v14, v15, v16, v17, v18, v19, v20, v21, v22, v23, v24, v25, v26, v27, .int (-1), v28, v29, v30, v31, v32, v33, v34, v35, v36, v37, v38, v39, v40, v41, v42, v43, v44, v45]))]) (Qc := fun A => va_Qi (fun (r : Int32) (_ : Unit) => r = (-1)) (fun u => kB D A ((fun (_ : Unit) => ([] : va_W)) u)) A) "LayoutTokensModel" "back" (by decide) rfl rfl (Nat.le_of_ble_eq_true rfl) ?_
  intro p e s m below meth c A ls X hr hlocks hin hA hP hD hl
  have hx := X.1.1
  have hb := X.1.2.1
  have hown := X.1.2.2.2.1
  have hk := X.1.2.2.2.2
  have hS : va_S A s.heap s.heap [] := va_S.rf
  have hl : lv_has ls 2 [(0, .ref h0)] := hl
  refine lv_aload_n hx hb d_Mo_back_0 rfl (lv_at hl 0 rfl) ?_
  refine lv_iconst (v := 0) hx hb d_Mo_back_1 (by decide) ?_
  refine kput X hP hD hS 0 rfl rfl i_Mo ty_Mo ty_Mo_ok nm_Mo 0 (by decide) t_988 rfl (v := .int 0) rfl rfl (Nat.le_of_ble_eq_true rfl) d_Mo_back_2 (fun H locs hP hD hS => ?_)
  have hP : va_P D classes [(h0, .inr (10, [.int 0, v0, v1, v2, v3, v4, v5, v6, v7, v8, v9, v10, v11, v12, v13, v14, v15, v16, v17, v18, v19, v20, v21, v22, v23, v24, v25, v26, v27, .int (-1), v28, v29, v30, v31, v32, v33, v34, v35, v36, v37, v38, v39, v40, v41, v42, v43, v44, v45]))] H := hP
  have hD : va_D A [(h0, .inr (10, [.int 0, v0, v1, v2, v3, v4, v5, v6, v7, v8, v9, v10, v11, v12, v13, v14, v15, v16, v17, v18, v19, v20, v21, v22, v23, v24, v25, v26, v27, .int (-1), v28, v29, v30, v31, v32, v33, v34, v35, v36, v37, v38, v39, v40, v41, v42, v43, v44, v45]))] := hD
  refine lv_aload_n hx hb d_Mo_back_5 rfl (lv_at hl 0 rfl) ?_
  refine kget X hP 0 rfl rfl i_Mo 29 (by decide) t_1017 rfl (v := .int (-1)) rfl d_Mo_back_6 ?_
  refine lv_if_ge (tgt := 14) hx hb d_Mo_back_9 (by decide) (fun c_1 => absurd c_1 (by decide)) (fun c_1 => ?_)
  refine lv_iconst (v := (-1)) hx hb d_Mo_back_12 (by decide) ?_
  exact kri X hr hlocks hS () rfl (hP.sub [] rfl) (hD.sub [] (by decide) rfl) d_Mo_back_13
set_option maxHeartbeats 4000000 in
set_option maxRecDepth 100000 in
theorem c97_La_count (l : Launch) (D : va_G) (aI aJ aZ : ClassId) (sz : Nat) (h0 : Nat) (v0 : Value) (v1 : Value) (v2 : Value) (v3 : Value) (v4 : Value) (v5 : Value) (v6 : Value) (v7 : Value) (v8 : Value) : Met l y_La_count (kq y_La_count prog_3_method_6_code 1 (some .int)) { frames := 0, cells := 0, slots := 0, locals := 0 } (va_Pc [.ref h0] (kPre D (kT aI aJ aZ) [(h0, .inr (6, [v0, v1, v2, v3, v4, .int 0, v5, v6, v7, v8]))] sz)) (va_Qi (fun (r : Int32) (_ : Unit) => r = 0) (fun u => kB D (va_A [(h0, .inr (6, [v0, v1, v2, v3, v4, .int 0, v5, v6, v7, v8]))] sz) ((fun (_ : Unit) => ([(h0, .inr (6, [v0, v1, v2, v3, v4, .int 0, v5, v6, v7, v8]))] : va_W)) u)) (va_A [(h0, .inr (6, [v0, v1, v2, v3, v4, .int 0, v5, v6, v7, v8]))] sz)) 0 0 (va_A [(h0, .inr (6, [v0, v1, v2, v3, v4, .int 0, v5, v6, v7, v8]))] sz) := by
  refine kMet (y := y_La_count) (bytes := prog_3_method_6_code) (maxL := 1) (ret := (some .int)) (av := [.ref h0]) (ws := [(h0, .inr (6, [v0, v1, v2, v3, v4, .int 0, v5, v6, v7, v8]))]) (Qc := fun A => va_Qi (fun (r : Int32) (_ : Unit) => r = 0) (fun u => kB D A ((fun (_ : Unit) => ([(h0, .inr (6, [v0, v1, v2, v3, v4, .int 0, v5, v6, v7, v8]))] : va_W)) u)) A) "LayoutTokens$Laid" "count" (by decide) rfl rfl (Nat.le_of_ble_eq_true rfl) ?_
  intro p e s m below meth c A ls X hr hlocks hin hA hP hD hl
  have hx := X.1.1
  have hb := X.1.2.1
  have hown := X.1.2.2.2.1
  have hk := X.1.2.2.2.2
  have hS : va_S A s.heap s.heap [] := va_S.rf
  have hl : lv_has ls 1 [(0, .ref h0)] := hl
  refine lv_aload_n hx hb d_La_count_0 rfl (lv_at hl 0 rfl) ?_
  refine kget X hP 0 rfl rfl i_La 5 (by decide) t_260 rfl (v := .int 0) rfl d_La_count_1 ?_
  exact kri X hr hlocks hS () rfl (hP.sub [0] rfl) (hD.sub [0] (by decide) rfl) d_La_count_4
set_option maxHeartbeats 4000000 in
set_option maxRecDepth 100000 in
theorem c98_La_countPutIn (l : Launch) (D : va_G) (aI aJ aZ : ClassId) (sz : Nat) (h0 : Nat) (v0 : Value) (v1 : Value) (v2 : Value) (v3 : Value) (v4 : Value) (v5 : Value) (v6 : Value) (v7 : Value) (v8 : Value) : Met l y_La_countPutIn (kq y_La_countPutIn prog_3_method_7_code 1 (some .int)) { frames := 0, cells := 0, slots := 0, locals := 0 } (va_Pc [.ref h0] (kPre D (kT aI aJ aZ) [(h0, .inr (6, [v0, v1, v2, v3, v4, v5, .int 0, v6, v7, v8]))] sz)) (va_Qi (fun (r : Int32) (_ : Unit) => r = 0) (fun u => kB D (va_A [(h0, .inr (6, [v0, v1, v2, v3, v4, v5, .int 0, v6, v7, v8]))] sz) ((fun (_ : Unit) => ([(h0, .inr (6, [v0, v1, v2, v3, v4, v5, .int 0, v6, v7, v8]))] : va_W)) u)) (va_A [(h0, .inr (6, [v0, v1, v2, v3, v4, v5, .int 0, v6, v7, v8]))] sz)) 0 0 (va_A [(h0, .inr (6, [v0, v1, v2, v3, v4, v5, .int 0, v6, v7, v8]))] sz) := by
  refine kMet (y := y_La_countPutIn) (bytes := prog_3_method_7_code) (maxL := 1) (ret := (some .int)) (av := [.ref h0]) (ws := [(h0, .inr (6, [v0, v1, v2, v3, v4, v5, .int 0, v6, v7, v8]))]) (Qc := fun A => va_Qi (fun (r : Int32) (_ : Unit) => r = 0) (fun u => kB D A ((fun (_ : Unit) => ([(h0, .inr (6, [v0, v1, v2, v3, v4, v5, .int 0, v6, v7, v8]))] : va_W)) u)) A) "LayoutTokens$Laid" "countPutIn" (by decide) rfl rfl (Nat.le_of_ble_eq_true rfl) ?_
  intro p e s m below meth c A ls X hr hlocks hin hA hP hD hl
  have hx := X.1.1
  have hb := X.1.2.1
  have hown := X.1.2.2.2.1
  have hk := X.1.2.2.2.2
  have hS : va_S A s.heap s.heap [] := va_S.rf
  have hl : lv_has ls 1 [(0, .ref h0)] := hl
  refine lv_aload_n hx hb d_La_countPutIn_0 rfl (lv_at hl 0 rfl) ?_
  refine kget X hP 0 rfl rfl i_La 6 (by decide) t_261 rfl (v := .int 0) rfl d_La_countPutIn_1 ?_
  exact kri X hr hlocks hS () rfl (hP.sub [0] rfl) (hD.sub [0] (by decide) rfl) d_La_countPutIn_4
set_option maxHeartbeats 4000000 in
set_option maxRecDepth 100000 in
theorem c99_La_countAsked (l : Launch) (D : va_G) (aI aJ aZ : ClassId) (sz : Nat) (h0 : Nat) (v0 : Value) (v1 : Value) (v2 : Value) (v3 : Value) (v4 : Value) (v5 : Value) (v6 : Value) (v7 : Value) (v8 : Value) : Met l y_La_countAsked (kq y_La_countAsked prog_3_method_8_code 1 (some .int)) { frames := 0, cells := 0, slots := 0, locals := 0 } (va_Pc [.ref h0] (kPre D (kT aI aJ aZ) [(h0, .inr (6, [v0, v1, v2, v3, v4, v5, v6, .int 0, v7, v8]))] sz)) (va_Qi (fun (r : Int32) (_ : Unit) => r = 0) (fun u => kB D (va_A [(h0, .inr (6, [v0, v1, v2, v3, v4, v5, v6, .int 0, v7, v8]))] sz) ((fun (_ : Unit) => ([(h0, .inr (6, [v0, v1, v2, v3, v4, v5, v6, .int 0, v7, v8]))] : va_W)) u)) (va_A [(h0, .inr (6, [v0, v1, v2, v3, v4, v5, v6, .int 0, v7, v8]))] sz)) 0 0 (va_A [(h0, .inr (6, [v0, v1, v2, v3, v4, v5, v6, .int 0, v7, v8]))] sz) := by
  refine kMet (y := y_La_countAsked) (bytes := prog_3_method_8_code) (maxL := 1) (ret := (some .int)) (av := [.ref h0]) (ws := [(h0, .inr (6, [v0, v1, v2, v3, v4, v5, v6, .int 0, v7, v8]))]) (Qc := fun A => va_Qi (fun (r : Int32) (_ : Unit) => r = 0) (fun u => kB D A ((fun (_ : Unit) => ([(h0, .inr (6, [v0, v1, v2, v3, v4, v5, v6, .int 0, v7, v8]))] : va_W)) u)) A) "LayoutTokens$Laid" "countAsked" (by decide) rfl rfl (Nat.le_of_ble_eq_true rfl) ?_
  intro p e s m below meth c A ls X hr hlocks hin hA hP hD hl
  have hx := X.1.1
  have hb := X.1.2.1
  have hown := X.1.2.2.2.1
  have hk := X.1.2.2.2.2
  have hS : va_S A s.heap s.heap [] := va_S.rf
  have hl : lv_has ls 1 [(0, .ref h0)] := hl
  refine lv_aload_n hx hb d_La_countAsked_0 rfl (lv_at hl 0 rfl) ?_
  refine kget X hP 0 rfl rfl i_La 7 (by decide) t_262 rfl (v := .int 0) rfl d_La_countAsked_1 ?_
  exact kri X hr hlocks hS () rfl (hP.sub [0] rfl) (hD.sub [0] (by decide) rfl) d_La_countAsked_4
set_option maxHeartbeats 4000000 in
set_option maxRecDepth 100000 in
theorem c100_Co_count (l : Launch) (D : va_G) (aI aJ aZ : ClassId) (sz : Nat) (h0 : Nat) (v0 : Value) (v1 : Value) (v2 : Value) (v3 : Value) : Met l y_Co_count (kq y_Co_count prog_2_method_3_code 1 (some .int)) { frames := 0, cells := 0, slots := 0, locals := 0 } (va_Pc [.ref h0] (kPre D (kT aI aJ aZ) [(h0, .inr (3, [v0, v1, v2, .int 0, v3]))] sz)) (va_Qi (fun (r : Int32) (_ : Unit) => r = 0) (fun u => kB D (va_A [(h0, .inr (3, [v0, v1, v2, .int 0, v3]))] sz) ((fun (_ : Unit) => ([(h0, .inr (3, [v0, v1, v2, .int 0, v3]))] : va_W)) u)) (va_A [(h0, .inr (3, [v0, v1, v2, .int 0, v3]))] sz)) 0 0 (va_A [(h0, .inr (3, [v0, v1, v2, .int 0, v3]))] sz) := by
  refine kMet (y := y_Co_count) (bytes := prog_2_method_3_code) (maxL := 1) (ret := (some .int)) (av := [.ref h0]) (ws := [(h0, .inr (3, [v0, v1, v2, .int 0, v3]))]) (Qc := fun A => va_Qi (fun (r : Int32) (_ : Unit) => r = 0) (fun u => kB D A ((fun (_ : Unit) => ([(h0, .inr (3, [v0, v1, v2, .int 0, v3]))] : va_W)) u)) A) "LayoutTokens$Comments" "count" (by decide) rfl rfl (Nat.le_of_ble_eq_true rfl) ?_
  intro p e s m below meth c A ls X hr hlocks hin hA hP hD hl
  have hx := X.1.1
  have hb := X.1.2.1
  have hown := X.1.2.2.2.1
  have hk := X.1.2.2.2.2
  have hS : va_S A s.heap s.heap [] := va_S.rf
  have hl : lv_has ls 1 [(0, .ref h0)] := hl
  refine lv_aload_n hx hb d_Co_count_0 rfl (lv_at hl 0 rfl) ?_
  refine kget X hP 0 rfl rfl i_Co 3 (by decide) t_204 rfl (v := .int 0) rfl d_Co_count_1 ?_
  exact kri X hr hlocks hS () rfl (hP.sub [0] rfl) (hD.sub [0] (by decide) rfl) d_Co_count_4
set_option maxHeartbeats 4000000 in
set_option maxRecDepth 100000 in
theorem c101_Co_deepest (l : Launch) (D : va_G) (aI aJ aZ : ClassId) (sz : Nat) (h0 : Nat) (v0 : Value) (v1 : Value) (v2 : Value) (v3 : Value) : Met l y_Co_deepest (kq y_Co_deepest prog_2_method_4_code 1 (some .int)) { frames := 0, cells := 0, slots := 0, locals := 0 } (va_Pc [.ref h0] (kPre D (kT aI aJ aZ) [(h0, .inr (3, [v0, v1, v2, v3, .int 0]))] sz)) (va_Qi (fun (r : Int32) (_ : Unit) => r = 0) (fun u => kB D (va_A [(h0, .inr (3, [v0, v1, v2, v3, .int 0]))] sz) ((fun (_ : Unit) => ([(h0, .inr (3, [v0, v1, v2, v3, .int 0]))] : va_W)) u)) (va_A [(h0, .inr (3, [v0, v1, v2, v3, .int 0]))] sz)) 0 0 (va_A [(h0, .inr (3, [v0, v1, v2, v3, .int 0]))] sz) := by
  refine kMet (y := y_Co_deepest) (bytes := prog_2_method_4_code) (maxL := 1) (ret := (some .int)) (av := [.ref h0]) (ws := [(h0, .inr (3, [v0, v1, v2, v3, .int 0]))]) (Qc := fun A => va_Qi (fun (r : Int32) (_ : Unit) => r = 0) (fun u => kB D A ((fun (_ : Unit) => ([(h0, .inr (3, [v0, v1, v2, v3, .int 0]))] : va_W)) u)) A) "LayoutTokens$Comments" "deepest" (by decide) rfl rfl (Nat.le_of_ble_eq_true rfl) ?_
  intro p e s m below meth c A ls X hr hlocks hin hA hP hD hl
  have hx := X.1.1
  have hb := X.1.2.1
  have hown := X.1.2.2.2.1
  have hk := X.1.2.2.2.2
  have hS : va_S A s.heap s.heap [] := va_S.rf
  have hl : lv_has ls 1 [(0, .ref h0)] := hl
  refine lv_aload_n hx hb d_Co_deepest_0 rfl (lv_at hl 0 rfl) ?_
  refine kget X hP 0 rfl rfl i_Co 4 (by decide) t_205 rfl (v := .int 0) rfl d_Co_deepest_1 ?_
  exact kri X hr hlocks hS () rfl (hP.sub [0] rfl) (hD.sub [0] (by decide) rfl) d_Co_deepest_4
set_option maxHeartbeats 4000000 in
set_option maxRecDepth 100000 in
theorem c102_Lt_told (l : Launch) (D : va_G) (aI aJ aZ : ClassId) (sz : Nat) (h0 : Nat) (h1 : Nat) (h2 : Nat) (h3 : Nat) (p0 : Int32) (v1 : Value) (v2 : Value) (v3 : Value) (v4 : Value) (v5 : Value) (v6 : Value) (v7 : Value) (v8 : Value) (v9 : Value) (v10 : Value) (v11 : Value) (v12 : Value) (v13 : Value) (v14 : Value) (v15 : Value) (v16 : Value) (v17 : Value) (v18 : Value) (v19 : Value) : Met l y_Lt_told (kq y_Lt_told prog_1_method_13_code 2 (some .int)) { frames := 1, cells := 0, slots := 0, locals := 20 } (va_Pc [.ref h0, .int p0] (kPre D (kT aI aJ aZ) [(h0, .inr (9, [.ref h1, v1, v2, .ref h3, v3, .ref h2, v4, v5, .int 0])), (h1, .inr (0, [v6, v7, v8, v9, .int 0])), (h2, .inr (6, [v10, v11, v12, v13, v14, .int 0, .int 0, .int 0, v15, v16])), (h3, .inr (3, [v17, v18, v19, .int 0, .int 0]))] sz)) (va_Qi (fun (r : Int32) (_ : Unit) => r = ktold p0) (fun u => kB D (va_A [(h0, .inr (9, [.ref h1, v1, v2, .ref h3, v3, .ref h2, v4, v5, .int 0])), (h1, .inr (0, [v6, v7, v8, v9, .int 0])), (h2, .inr (6, [v10, v11, v12, v13, v14, .int 0, .int 0, .int 0, v15, v16])), (h3, .inr (3, [v17, v18, v19, .int 0, .int 0]))] sz) ((fun (_ : Unit) => ([] : va_W)) u)) (va_A [(h0, .inr (9, [.ref h1, v1, v2, .ref h3, v3, .ref h2, v4, v5, .int 0])), (h1, .inr (0, [v6, v7, v8, v9, .int 0])), (h2, .inr (6, [v10, v11, v12, v13, v14, .int 0, .int 0, .int 0, v15, v16])), (h3, .inr (3, [v17, v18, v19, .int 0, .int 0]))] sz)) 0 0 (va_A [(h0, .inr (9, [.ref h1, v1, v2, .ref h3, v3, .ref h2, v4, v5, .int 0])), (h1, .inr (0, [v6, v7, v8, v9, .int 0])), (h2, .inr (6, [v10, v11, v12, v13, v14, .int 0, .int 0, .int 0, v15, v16])), (h3, .inr (3, [v17, v18, v19, .int 0, .int 0]))] sz) := by
  refine kMet (y := y_Lt_told) (bytes := prog_1_method_13_code) (maxL := 2) (ret := (some .int)) (av := [.ref h0, .int p0]) (ws := [(h0, .inr (9, [.ref h1, v1, v2, .ref h3, v3, .ref h2, v4, v5, .int 0])), (h1, .inr (0, [v6, v7, v8, v9, .int 0])), (h2, .inr (6, [v10, v11, v12, v13, v14, .int 0, .int 0, .int 0, v15, v16])), (h3, .inr (3, [v17, v18, v19, .int 0, .int 0]))]) (Qc := fun A => va_Qi (fun (r : Int32) (_ : Unit) => r = ktold p0) (fun u => kB D A ((fun (_ : Unit) => ([] : va_W)) u)) A) "LayoutTokens" "told" (by decide) rfl rfl (Nat.le_of_ble_eq_true rfl) ?_
  intro p e s m below meth c A ls X hr hlocks hin hA hP hD hl
  have hx := X.1.1
  have hb := X.1.2.1
  have hown := X.1.2.2.2.1
  have hk := X.1.2.2.2.2
  have hS : va_S A s.heap s.heap [] := va_S.rf
  have hl : lv_has ls 2 [(0, .ref h0), (1, .int p0)] := hl
  refine lv_iload_n hx hb d_Lt_told_0 rfl (lv_at hl 1 rfl) ?_
  by_cases o_1 : p0.toInt < 0 ∨ 6 < p0.toInt
  · refine lv_tableOut (tgt := 105) hx hb d_Lt_told_1 o_1 (by decide) ?_
    refine lv_iconst (v := (-1)) hx hb d_Lt_told_105 (by decide) ?_
    exact kri X hr hlocks hS () (ktold_out o_1) (hP.sub [] rfl) (hD.sub [] (by decide) rfl) d_Lt_told_106
  · obtain rfl | rfl | rfl | rfl | rfl | rfl | rfl := ksw_7 o_1
    · refine lv_tableIn (off := 43) (tgt := 44) hx hb d_Lt_told_1 (by decide) (by decide) (by decide) (by decide) ?_
      refine lv_aload_n hx hb d_Lt_told_44 rfl (lv_at hl 0 rfl) ?_
      refine kget X hP 0 rfl rfl i_Lt 0 (by decide) t_358 rfl (v := .ref h1) rfl d_Lt_told_45 ?_
      refine kVi (n := 0) (As := []) (rest := []) (wr := [(h0, .inr (9, [.ref h1, v1, v2, .ref h3, v3, .ref h2, v4, v5, .int 0])), (h2, .inr (6, [v10, v11, v12, v13, v14, .int 0, .int 0, .int 0, v15, v16])), (h3, .inr (3, [v17, v18, v19, .int 0, .int 0]))]) X hP hD hS hA (c11_So_size l D aI aJ aZ _ (h1) (v6) (v7) (v8) (v9)) (kV_good t_393 t_390 t_391 t_392 t_98) rfl rfl (by decide +kernel) ⟨Nat.le_of_ble_eq_true rfl, Nat.le_of_ble_eq_true rfl⟩ hl.1 rfl rfl (Nat.le_of_ble_eq_true rfl) d_Lt_told_48 ⟨Nat.le_of_ble_eq_true rfl, Nat.le_of_ble_eq_true rfl⟩ [1] [0, 2, 3] rfl rfl (by decide) (by decide) (by decide) 0 rfl rfl (fun r_3 u H locs w_2 hP hD hS => ?_)
      have hP : va_P D classes [(h0, .inr (9, [.ref h1, v1, v2, .ref h3, v3, .ref h2, v4, v5, .int 0])), (h2, .inr (6, [v10, v11, v12, v13, v14, .int 0, .int 0, .int 0, v15, v16])), (h3, .inr (3, [v17, v18, v19, .int 0, .int 0])), (h1, .inr (0, [v6, v7, v8, v9, .int 0]))] H := hP
      have hD : va_D A [(h0, .inr (9, [.ref h1, v1, v2, .ref h3, v3, .ref h2, v4, v5, .int 0])), (h2, .inr (6, [v10, v11, v12, v13, v14, .int 0, .int 0, .int 0, v15, v16])), (h3, .inr (3, [v17, v18, v19, .int 0, .int 0])), (h1, .inr (0, [v6, v7, v8, v9, .int 0]))] := hD
      obtain rfl : r_3 = 0 := w_2
      exact kri X hr hlocks hS () (by decide) (hP.sub [] rfl) (hD.sub [] (by decide) rfl) d_Lt_told_51
    · refine lv_tableIn (off := 51) (tgt := 52) hx hb d_Lt_told_1 (by decide) (by decide) (by decide) (by decide) ?_
      refine lv_aload_n hx hb d_Lt_told_52 rfl (lv_at hl 0 rfl) ?_
      refine kget X hP 0 rfl rfl i_Lt 5 (by decide) t_363 rfl (v := .ref h2) rfl d_Lt_told_53 ?_
      refine kVi (n := 0) (As := []) (rest := []) (wr := [(h0, .inr (9, [.ref h1, v1, v2, .ref h3, v3, .ref h2, v4, v5, .int 0])), (h1, .inr (0, [v6, v7, v8, v9, .int 0])), (h3, .inr (3, [v17, v18, v19, .int 0, .int 0]))]) X hP hD hS hA (c97_La_count l D aI aJ aZ _ (h2) (v10) (v11) (v12) (v13) (v14) (.int 0) (.int 0) (v15) (v16)) (kV_good t_820 t_961 t_818 t_819 t_104) rfl rfl (by decide +kernel) ⟨Nat.le_of_ble_eq_true rfl, Nat.le_of_ble_eq_true rfl⟩ hl.1 rfl rfl (Nat.le_of_ble_eq_true rfl) d_Lt_told_56 ⟨Nat.le_of_ble_eq_true rfl, Nat.le_of_ble_eq_true rfl⟩ [2] [0, 1, 3] rfl rfl (by decide) (by decide) (by decide) 0 rfl rfl (fun r_5 u H locs w_4 hP hD hS => ?_)
      have hP : va_P D classes [(h0, .inr (9, [.ref h1, v1, v2, .ref h3, v3, .ref h2, v4, v5, .int 0])), (h1, .inr (0, [v6, v7, v8, v9, .int 0])), (h3, .inr (3, [v17, v18, v19, .int 0, .int 0])), (h2, .inr (6, [v10, v11, v12, v13, v14, .int 0, .int 0, .int 0, v15, v16]))] H := hP
      have hD : va_D A [(h0, .inr (9, [.ref h1, v1, v2, .ref h3, v3, .ref h2, v4, v5, .int 0])), (h1, .inr (0, [v6, v7, v8, v9, .int 0])), (h3, .inr (3, [v17, v18, v19, .int 0, .int 0])), (h2, .inr (6, [v10, v11, v12, v13, v14, .int 0, .int 0, .int 0, v15, v16]))] := hD
      obtain rfl : r_5 = 0 := w_4
      exact kri X hr hlocks hS () (by decide) (hP.sub [] rfl) (hD.sub [] (by decide) rfl) d_Lt_told_59
    · refine lv_tableIn (off := 59) (tgt := 60) hx hb d_Lt_told_1 (by decide) (by decide) (by decide) (by decide) ?_
      refine lv_aload_n hx hb d_Lt_told_60 rfl (lv_at hl 0 rfl) ?_
      refine kget X hP 0 rfl rfl i_Lt 5 (by decide) t_363 rfl (v := .ref h2) rfl d_Lt_told_61 ?_
      refine kVi (n := 0) (As := []) (rest := []) (wr := [(h0, .inr (9, [.ref h1, v1, v2, .ref h3, v3, .ref h2, v4, v5, .int 0])), (h1, .inr (0, [v6, v7, v8, v9, .int 0])), (h3, .inr (3, [v17, v18, v19, .int 0, .int 0]))]) X hP hD hS hA (c98_La_countPutIn l D aI aJ aZ _ (h2) (v10) (v11) (v12) (v13) (v14) (.int 0) (.int 0) (v15) (v16)) (kV_good t_965 t_962 t_963 t_964 t_104) rfl rfl (by decide +kernel) ⟨Nat.le_of_ble_eq_true rfl, Nat.le_of_ble_eq_true rfl⟩ hl.1 rfl rfl (Nat.le_of_ble_eq_true rfl) d_Lt_told_64 ⟨Nat.le_of_ble_eq_true rfl, Nat.le_of_ble_eq_true rfl⟩ [2] [0, 1, 3] rfl rfl (by decide) (by decide) (by decide) 0 rfl rfl (fun r_7 u H locs w_6 hP hD hS => ?_)
      have hP : va_P D classes [(h0, .inr (9, [.ref h1, v1, v2, .ref h3, v3, .ref h2, v4, v5, .int 0])), (h1, .inr (0, [v6, v7, v8, v9, .int 0])), (h3, .inr (3, [v17, v18, v19, .int 0, .int 0])), (h2, .inr (6, [v10, v11, v12, v13, v14, .int 0, .int 0, .int 0, v15, v16]))] H := hP
      have hD : va_D A [(h0, .inr (9, [.ref h1, v1, v2, .ref h3, v3, .ref h2, v4, v5, .int 0])), (h1, .inr (0, [v6, v7, v8, v9, .int 0])), (h3, .inr (3, [v17, v18, v19, .int 0, .int 0])), (h2, .inr (6, [v10, v11, v12, v13, v14, .int 0, .int 0, .int 0, v15, v16]))] := hD
      obtain rfl : r_7 = 0 := w_6
      exact kri X hr hlocks hS () (by decide) (hP.sub [] rfl) (hD.sub [] (by decide) rfl) d_Lt_told_67
    · refine lv_tableIn (off := 67) (tgt := 68) hx hb d_Lt_told_1 (by decide) (by decide) (by decide) (by decide) ?_
      refine lv_aload_n hx hb d_Lt_told_68 rfl (lv_at hl 0 rfl) ?_
      refine kget X hP 0 rfl rfl i_Lt 5 (by decide) t_363 rfl (v := .ref h2) rfl d_Lt_told_69 ?_
      refine kVi (n := 0) (As := []) (rest := []) (wr := [(h0, .inr (9, [.ref h1, v1, v2, .ref h3, v3, .ref h2, v4, v5, .int 0])), (h1, .inr (0, [v6, v7, v8, v9, .int 0])), (h3, .inr (3, [v17, v18, v19, .int 0, .int 0]))]) X hP hD hS hA (c99_La_countAsked l D aI aJ aZ _ (h2) (v10) (v11) (v12) (v13) (v14) (.int 0) (.int 0) (v15) (v16)) (kV_good t_969 t_966 t_967 t_968 t_104) rfl rfl (by decide +kernel) ⟨Nat.le_of_ble_eq_true rfl, Nat.le_of_ble_eq_true rfl⟩ hl.1 rfl rfl (Nat.le_of_ble_eq_true rfl) d_Lt_told_72 ⟨Nat.le_of_ble_eq_true rfl, Nat.le_of_ble_eq_true rfl⟩ [2] [0, 1, 3] rfl rfl (by decide) (by decide) (by decide) 0 rfl rfl (fun r_9 u H locs w_8 hP hD hS => ?_)
      have hP : va_P D classes [(h0, .inr (9, [.ref h1, v1, v2, .ref h3, v3, .ref h2, v4, v5, .int 0])), (h1, .inr (0, [v6, v7, v8, v9, .int 0])), (h3, .inr (3, [v17, v18, v19, .int 0, .int 0])), (h2, .inr (6, [v10, v11, v12, v13, v14, .int 0, .int 0, .int 0, v15, v16]))] H := hP
      have hD : va_D A [(h0, .inr (9, [.ref h1, v1, v2, .ref h3, v3, .ref h2, v4, v5, .int 0])), (h1, .inr (0, [v6, v7, v8, v9, .int 0])), (h3, .inr (3, [v17, v18, v19, .int 0, .int 0])), (h2, .inr (6, [v10, v11, v12, v13, v14, .int 0, .int 0, .int 0, v15, v16]))] := hD
      obtain rfl : r_9 = 0 := w_8
      exact kri X hr hlocks hS () (by decide) (hP.sub [] rfl) (hD.sub [] (by decide) rfl) d_Lt_told_75
    · refine lv_tableIn (off := 75) (tgt := 76) hx hb d_Lt_told_1 (by decide) (by decide) (by decide) (by decide) ?_
      refine lv_aload_n hx hb d_Lt_told_76 rfl (lv_at hl 0 rfl) ?_
      refine kget X hP 0 rfl rfl i_Lt 3 (by decide) t_361 rfl (v := .ref h3) rfl d_Lt_told_77 ?_
      refine kVi (n := 0) (As := []) (rest := []) (wr := [(h0, .inr (9, [.ref h1, v1, v2, .ref h3, v3, .ref h2, v4, v5, .int 0])), (h1, .inr (0, [v6, v7, v8, v9, .int 0])), (h2, .inr (6, [v10, v11, v12, v13, v14, .int 0, .int 0, .int 0, v15, v16]))]) X hP hD hS hA (c100_Co_count l D aI aJ aZ _ (h3) (v17) (v18) (v19) (.int 0)) (kV_good t_973 t_970 t_971 t_972 t_101) rfl rfl (by decide +kernel) ⟨Nat.le_of_ble_eq_true rfl, Nat.le_of_ble_eq_true rfl⟩ hl.1 rfl rfl (Nat.le_of_ble_eq_true rfl) d_Lt_told_80 ⟨Nat.le_of_ble_eq_true rfl, Nat.le_of_ble_eq_true rfl⟩ [3] [0, 1, 2] rfl rfl (by decide) (by decide) (by decide) 0 rfl rfl (fun r_11 u H locs w_10 hP hD hS => ?_)
      have hP : va_P D classes [(h0, .inr (9, [.ref h1, v1, v2, .ref h3, v3, .ref h2, v4, v5, .int 0])), (h1, .inr (0, [v6, v7, v8, v9, .int 0])), (h2, .inr (6, [v10, v11, v12, v13, v14, .int 0, .int 0, .int 0, v15, v16])), (h3, .inr (3, [v17, v18, v19, .int 0, .int 0]))] H := hP
      have hD : va_D A [(h0, .inr (9, [.ref h1, v1, v2, .ref h3, v3, .ref h2, v4, v5, .int 0])), (h1, .inr (0, [v6, v7, v8, v9, .int 0])), (h2, .inr (6, [v10, v11, v12, v13, v14, .int 0, .int 0, .int 0, v15, v16])), (h3, .inr (3, [v17, v18, v19, .int 0, .int 0]))] := hD
      obtain rfl : r_11 = 0 := w_10
      exact kri X hr hlocks hS () (by decide) (hP.sub [] rfl) (hD.sub [] (by decide) rfl) d_Lt_told_83
    · refine lv_tableIn (off := 83) (tgt := 84) hx hb d_Lt_told_1 (by decide) (by decide) (by decide) (by decide) ?_
      refine lv_aload_n hx hb d_Lt_told_84 rfl (lv_at hl 0 rfl) ?_
      refine kget X hP 0 rfl rfl i_Lt 3 (by decide) t_361 rfl (v := .ref h3) rfl d_Lt_told_85 ?_
      refine kVi (n := 0) (As := []) (rest := []) (wr := [(h0, .inr (9, [.ref h1, v1, v2, .ref h3, v3, .ref h2, v4, v5, .int 0])), (h1, .inr (0, [v6, v7, v8, v9, .int 0])), (h2, .inr (6, [v10, v11, v12, v13, v14, .int 0, .int 0, .int 0, v15, v16]))]) X hP hD hS hA (c101_Co_deepest l D aI aJ aZ _ (h3) (v17) (v18) (v19) (.int 0)) (kV_good t_977 t_974 t_975 t_976 t_101) rfl rfl (by decide +kernel) ⟨Nat.le_of_ble_eq_true rfl, Nat.le_of_ble_eq_true rfl⟩ hl.1 rfl rfl (Nat.le_of_ble_eq_true rfl) d_Lt_told_88 ⟨Nat.le_of_ble_eq_true rfl, Nat.le_of_ble_eq_true rfl⟩ [3] [0, 1, 2] rfl rfl (by decide) (by decide) (by decide) 0 rfl rfl (fun r_13 u H locs w_12 hP hD hS => ?_)
      have hP : va_P D classes [(h0, .inr (9, [.ref h1, v1, v2, .ref h3, v3, .ref h2, v4, v5, .int 0])), (h1, .inr (0, [v6, v7, v8, v9, .int 0])), (h2, .inr (6, [v10, v11, v12, v13, v14, .int 0, .int 0, .int 0, v15, v16])), (h3, .inr (3, [v17, v18, v19, .int 0, .int 0]))] H := hP
      have hD : va_D A [(h0, .inr (9, [.ref h1, v1, v2, .ref h3, v3, .ref h2, v4, v5, .int 0])), (h1, .inr (0, [v6, v7, v8, v9, .int 0])), (h2, .inr (6, [v10, v11, v12, v13, v14, .int 0, .int 0, .int 0, v15, v16])), (h3, .inr (3, [v17, v18, v19, .int 0, .int 0]))] := hD
      obtain rfl : r_13 = 0 := w_12
      exact kri X hr hlocks hS () (by decide) (hP.sub [] rfl) (hD.sub [] (by decide) rfl) d_Lt_told_91
    · refine lv_tableIn (off := 91) (tgt := 92) hx hb d_Lt_told_1 (by decide) (by decide) (by decide) (by decide) ?_
      refine lv_aload_n hx hb d_Lt_told_92 rfl (lv_at hl 0 rfl) ?_
      refine kget X hP 0 rfl rfl i_Lt 8 (by decide) t_366 rfl (v := .int 0) rfl d_Lt_told_93 ?_
      refine lv_if_eq (tgt := 103) hx hb d_Lt_told_96 (by decide) (fun c_14 => ?_) (fun c_14 => absurd (by decide) c_14)
      refine lv_iconst (v := 0) hx hb d_Lt_told_103 (by decide) ?_
      exact kri X hr hlocks hS () (by decide) (hP.sub [] rfl) (hD.sub [] (by decide) rfl) d_Lt_told_104
set_option maxHeartbeats 4000000 in
set_option maxRecDepth 100000 in
theorem c103_Mo_told (l : Launch) (D : va_G) (aI aJ aZ : ClassId) (sz : Nat) (h0 : Nat) (p0 : Int32) (v1 : Value) (v2 : Value) (v3 : Value) (v4 : Value) (v5 : Value) (v6 : Value) (v7 : Value) (v8 : Value) (v9 : Value) (v10 : Value) (v11 : Value) (v12 : Value) (v13 : Value) (v14 : Value) (v15 : Value) (v16 : Value) (v17 : Value) (v18 : Value) (v19 : Value) (v20 : Value) (v21 : Value) (v22 : Value) (v23 : Value) (v24 : Value) (v25 : Value) (v26 : Value) (v27 : Value) (v28 : Value) (v29 : Value) (v30 : Value) (v31 : Value) (v32 : Value) (v33 : Value) (v34 : Value) (v35 : Value) (v36 : Value) (v37 : Value) (v38 : Value) (v39 : Value) (v40 : Value) (v41 : Value) (v42 : Value) : Met l y_Mo_told (kq y_Mo_told prog_12_method_73_code 5 (some .int)) { frames := 0, cells := 0, slots := 0, locals := 0 } (va_Pc [.ref h0, .int p0] (kPre D (kT aI aJ aZ) [(h0, .inr (10, [.int 0, v1, .int 0, v2, v3, v4, .int 0, v5, v6, v7, v8, v9, v10, v11, v12, v13, v14, .int 0, v15, v16, v17, .int 0, .int 0, v18, v19, v20, v21, v22, v23, v24, v25, v26, v27, v28, v29, v30, v31, v32, v33, v34, v35, v36, v37, v38, v39, v40, v41, v42]))] sz)) (va_Qi (fun (r : Int32) (_ : Unit) => r = ktold p0) (fun u => kB D (va_A [(h0, .inr (10, [.int 0, v1, .int 0, v2, v3, v4, .int 0, v5, v6, v7, v8, v9, v10, v11, v12, v13, v14, .int 0, v15, v16, v17, .int 0, .int 0, v18, v19, v20, v21, v22, v23, v24, v25, v26, v27, v28, v29, v30, v31, v32, v33, v34, v35, v36, v37, v38, v39, v40, v41, v42]))] sz) ((fun (_ : Unit) => ([] : va_W)) u)) (va_A [(h0, .inr (10, [.int 0, v1, .int 0, v2, v3, v4, .int 0, v5, v6, v7, v8, v9, v10, v11, v12, v13, v14, .int 0, v15, v16, v17, .int 0, .int 0, v18, v19, v20, v21, v22, v23, v24, v25, v26, v27, v28, v29, v30, v31, v32, v33, v34, v35, v36, v37, v38, v39, v40, v41, v42]))] sz)) 0 0 (va_A [(h0, .inr (10, [.int 0, v1, .int 0, v2, v3, v4, .int 0, v5, v6, v7, v8, v9, v10, v11, v12, v13, v14, .int 0, v15, v16, v17, .int 0, .int 0, v18, v19, v20, v21, v22, v23, v24, v25, v26, v27, v28, v29, v30, v31, v32, v33, v34, v35, v36, v37, v38, v39, v40, v41, v42]))] sz) := by
  refine kMet (y := y_Mo_told) (bytes := prog_12_method_73_code) (maxL := 5) (ret := (some .int)) (av := [.ref h0, .int p0]) (ws := [(h0, .inr (10, [.int 0, v1, .int 0, v2, v3, v4, .int 0, v5, v6, v7, v8, v9, v10, v11, v12, v13, v14, .int 0, v15, v16, v17, .int 0, .int 0, v18, v19, v20, v21, v22, v23, v24, v25, v26, v27, v28, v29, v30, v31, v32, v33, v34, v35, v36, v37, v38, v39, v40, v41, v42]))]) (Qc := fun A => va_Qi (fun (r : Int32) (_ : Unit) => r = ktold p0) (fun u => kB D A ((fun (_ : Unit) => ([] : va_W)) u)) A) "LayoutTokensModel" "told" (by decide) rfl rfl (Nat.le_of_ble_eq_true rfl) ?_
  intro p e s m below meth c A ls X hr hlocks hin hA hP hD hl
  have hx := X.1.1
  have hb := X.1.2.1
  have hown := X.1.2.2.2.1
  have hk := X.1.2.2.2.2
  have hS : va_S A s.heap s.heap [] := va_S.rf
  have hl : lv_has ls 5 [(0, .ref h0), (1, .int p0)] := hl
  refine lv_aload_n hx hb d_Mo_told_0 rfl (lv_at hl 0 rfl) ?_
  refine lv_iconst (v := 0) hx hb d_Mo_told_1 (by decide) ?_
  refine kput X hP hD hS 0 rfl rfl i_Mo ty_Mo ty_Mo_ok nm_Mo 0 (by decide) t_988 rfl (v := .int 0) rfl rfl (Nat.le_of_ble_eq_true rfl) d_Mo_told_2 (fun H locs hP hD hS => ?_)
  have hP : va_P D classes [(h0, .inr (10, [.int 0, v1, .int 0, v2, v3, v4, .int 0, v5, v6, v7, v8, v9, v10, v11, v12, v13, v14, .int 0, v15, v16, v17, .int 0, .int 0, v18, v19, v20, v21, v22, v23, v24, v25, v26, v27, v28, v29, v30, v31, v32, v33, v34, v35, v36, v37, v38, v39, v40, v41, v42]))] H := hP
  have hD : va_D A [(h0, .inr (10, [.int 0, v1, .int 0, v2, v3, v4, .int 0, v5, v6, v7, v8, v9, v10, v11, v12, v13, v14, .int 0, v15, v16, v17, .int 0, .int 0, v18, v19, v20, v21, v22, v23, v24, v25, v26, v27, v28, v29, v30, v31, v32, v33, v34, v35, v36, v37, v38, v39, v40, v41, v42]))] := hD
  refine lv_iconst (v := 0) hx hb d_Mo_told_5 (by decide) ?_
  refine lv_istore_n (lv' := [(2, .int 0), (0, .ref h0), (1, .int p0)]) hx hb d_Mo_told_6 rfl hl (by decide) rfl (fun ls hl => ?_)
  refine lv_iconst (v := 0) hx hb d_Mo_told_7 (by decide) ?_
  refine lv_istore_n (lv' := [(3, .int 0), (2, .int 0), (0, .ref h0), (1, .int p0)]) hx hb d_Mo_told_8 rfl hl (by decide) rfl (fun ls hl => ?_)
  refine lv_iconst (v := 0) hx hb d_Mo_told_9 (by decide) ?_
  refine lv_istore (lv' := [(4, .int 0), (3, .int 0), (2, .int 0), (0, .ref h0), (1, .int p0)]) hx hb d_Mo_told_10 hl (by decide) rfl (fun ls hl => ?_)
  refine lv_iload hx hb d_Mo_told_12 (lv_at hl 0 rfl) ?_
  refine lv_aload_n hx hb d_Mo_told_14 rfl (lv_at hl 3 rfl) ?_
  refine kget X hP 0 rfl rfl i_Mo 22 (by decide) t_1010 rfl (v := .int 0) rfl d_Mo_told_15 ?_
  refine lv_icmp_ge (tgt := 63) hx hb d_Mo_told_18 (by decide) (fun c_1 => ?_) (fun c_1 => absurd (by decide) c_1)
  refine lv_iload_n hx hb d_Mo_told_63 rfl (lv_at hl 4 rfl) ?_
  by_cases o_2 : p0.toInt < 0 ∨ 6 < p0.toInt
  · refine lv_tableOut (tgt := 145) hx hb d_Mo_told_64 o_2 (by decide) ?_
    refine lv_iconst (v := (-1)) hx hb d_Mo_told_145 (by decide) ?_
    exact kri X hr hlocks hS () (ktold_out o_2) (hP.sub [] rfl) (hD.sub [] (by decide) rfl) d_Mo_told_146
  · obtain rfl | rfl | rfl | rfl | rfl | rfl | rfl := ksw_7 o_2
    · refine lv_tableIn (off := 44) (tgt := 108) hx hb d_Mo_told_64 (by decide) (by decide) (by decide) (by decide) ?_
      refine lv_aload_n hx hb d_Mo_told_108 rfl (lv_at hl 3 rfl) ?_
      refine kget X hP 0 rfl rfl i_Mo 2 (by decide) t_990 rfl (v := .int 0) rfl d_Mo_told_109 ?_
      exact kri X hr hlocks hS () (by decide) (hP.sub [] rfl) (hD.sub [] (by decide) rfl) d_Mo_told_112
    · refine lv_tableIn (off := 49) (tgt := 113) hx hb d_Mo_told_64 (by decide) (by decide) (by decide) (by decide) ?_
      refine lv_aload_n hx hb d_Mo_told_113 rfl (lv_at hl 3 rfl) ?_
      refine kget X hP 0 rfl rfl i_Mo 22 (by decide) t_1010 rfl (v := .int 0) rfl d_Mo_told_114 ?_
      exact kri X hr hlocks hS () (by decide) (hP.sub [] rfl) (hD.sub [] (by decide) rfl) d_Mo_told_117
    · refine lv_tableIn (off := 54) (tgt := 118) hx hb d_Mo_told_64 (by decide) (by decide) (by decide) (by decide) ?_
      refine lv_iload_n hx hb d_Mo_told_118 rfl (lv_at hl 2 rfl) ?_
      exact kri X hr hlocks hS () (by decide) (hP.sub [] rfl) (hD.sub [] (by decide) rfl) d_Mo_told_119
    · refine lv_tableIn (off := 56) (tgt := 120) hx hb d_Mo_told_64 (by decide) (by decide) (by decide) (by decide) ?_
      refine lv_iload_n hx hb d_Mo_told_120 rfl (lv_at hl 1 rfl) ?_
      exact kri X hr hlocks hS () (by decide) (hP.sub [] rfl) (hD.sub [] (by decide) rfl) d_Mo_told_121
    · refine lv_tableIn (off := 58) (tgt := 122) hx hb d_Mo_told_64 (by decide) (by decide) (by decide) (by decide) ?_
      refine lv_aload_n hx hb d_Mo_told_122 rfl (lv_at hl 3 rfl) ?_
      refine kget X hP 0 rfl rfl i_Mo 17 (by decide) t_1005 rfl (v := .int 0) rfl d_Mo_told_123 ?_
      exact kri X hr hlocks hS () (by decide) (hP.sub [] rfl) (hD.sub [] (by decide) rfl) d_Mo_told_126
    · refine lv_tableIn (off := 63) (tgt := 127) hx hb d_Mo_told_64 (by decide) (by decide) (by decide) (by decide) ?_
      refine lv_aload_n hx hb d_Mo_told_127 rfl (lv_at hl 3 rfl) ?_
      refine kget X hP 0 rfl rfl i_Mo 21 (by decide) t_1009 rfl (v := .int 0) rfl d_Mo_told_128 ?_
      exact kri X hr hlocks hS () (by decide) (hP.sub [] rfl) (hD.sub [] (by decide) rfl) d_Mo_told_131
    · refine lv_tableIn (off := 68) (tgt := 132) hx hb d_Mo_told_64 (by decide) (by decide) (by decide) (by decide) ?_
      refine lv_aload_n hx hb d_Mo_told_132 rfl (lv_at hl 3 rfl) ?_
      refine kget X hP 0 rfl rfl i_Mo 6 (by decide) t_994 rfl (v := .int 0) rfl d_Mo_told_133 ?_
      refine lv_if_eq (tgt := 143) hx hb d_Mo_told_136 (by decide) (fun c_3 => ?_) (fun c_3 => absurd (by decide) c_3)
      refine lv_iconst (v := 0) hx hb d_Mo_told_143 (by decide) ?_
      exact kri X hr hlocks hS () (by decide) (hP.sub [] rfl) (hD.sub [] (by decide) rfl) d_Mo_told_144
set_option maxHeartbeats 4000000 in
set_option maxRecDepth 100000 in
theorem c104_So_empty (l : Launch) (D : va_G) (aI aJ aZ : ClassId) (sz : Nat) (h0 : Nat) (v0 : Value) (v1 : Value) (v2 : Value) (v3 : Value) : Met l y_So_empty (kq y_So_empty prog_10_method_4_code 1 none) { frames := 0, cells := 0, slots := 0, locals := 0 } (va_Pc [.ref h0] (kPre D (kT aI aJ aZ) [(h0, .inr (0, [v0, v1, v2, v3, .int 0]))] sz)) (va_Qv (fun (_ : Unit) => True) (fun u => kB D (va_A [(h0, .inr (0, [v0, v1, v2, v3, .int 0]))] sz) ((fun (_ : Unit) => ([(h0, .inr (0, [v0, v1, v2, v3, .int 0]))] : va_W)) u)) (va_A [(h0, .inr (0, [v0, v1, v2, v3, .int 0]))] sz)) 0 0 (va_A [(h0, .inr (0, [v0, v1, v2, v3, .int 0]))] sz) := by
  refine kMet (y := y_So_empty) (bytes := prog_10_method_4_code) (maxL := 1) (ret := none) (av := [.ref h0]) (ws := [(h0, .inr (0, [v0, v1, v2, v3, .int 0]))]) (Qc := fun A => va_Qv (fun (_ : Unit) => True) (fun u => kB D A ((fun (_ : Unit) => ([(h0, .inr (0, [v0, v1, v2, v3, .int 0]))] : va_W)) u)) A) "LayoutTokens$Source" "empty" (by decide) rfl rfl (Nat.le_of_ble_eq_true rfl) ?_
  intro p e s m below meth c A ls X hr hlocks hin hA hP hD hl
  have hx := X.1.1
  have hb := X.1.2.1
  have hown := X.1.2.2.2.1
  have hk := X.1.2.2.2.2
  have hS : va_S A s.heap s.heap [] := va_S.rf
  have hl : lv_has ls 1 [(0, .ref h0)] := hl
  refine lv_aload_n hx hb d_So_empty_0 rfl (lv_at hl 0 rfl) ?_
  refine lv_iconst (v := 0) hx hb d_So_empty_1 (by decide) ?_
  refine kput X hP hD hS 0 rfl rfl i_So ty_So ty_So_ok nm_So 4 (by decide) t_131 rfl (v := .int 0) rfl rfl (Nat.le_of_ble_eq_true rfl) d_So_empty_2 (fun H locs hP hD hS => ?_)
  have hP : va_P D classes [(h0, .inr (0, [v0, v1, v2, v3, .int 0]))] H := hP
  have hD : va_D A [(h0, .inr (0, [v0, v1, v2, v3, .int 0]))] := hD
  exact krv X hr hlocks hS () trivial (hP.sub [0] rfl) (hD.sub [0] (by decide) rfl) d_So_empty_5
set_option maxHeartbeats 4000000 in
set_option maxRecDepth 100000 in
theorem c105_Lt_clear (l : Launch) (D : va_G) (aI aJ aZ : ClassId) (sz : Nat) (h0 : Nat) (h1 : Nat) (h2 : Nat) (h3 : Nat) (h4 : Nat) (v0 : Value) (v1 : Value) (v2 : Value) (v3 : Value) (v4 : Value) (v5 : Value) (v6 : Value) (v7 : Value) (v8 : Value) (v9 : Value) (v10 : Value) (v11 : Value) (v12 : Value) (v13 : Value) (v14 : Value) (v15 : Value) (v16 : Value) (v17 : Value) (v18 : Value) (v19 : Value) (v20 : Value) (v21 : Value) (v22 : Value) (v23 : Value) (v24 : Value) (v25 : Value) (v26 : Value) : Met l y_Lt_clear (kq y_Lt_clear prog_1_method_14_code 2 (some .int)) { frames := 2, cells := 0, slots := 0, locals := 40 } (va_Pc [.ref h0] (kPre D (kT aI aJ aZ) [(h0, .inr (9, [.ref h1, v0, .ref h3, .ref h4, v1, .ref h2, v2, v3, .int 0])), (h1, .inr (0, [v4, v5, v6, v7, .int 0])), (h2, .inr (6, [v8, v9, v10, v11, v12, .int 0, .int 0, .int 0, v13, v14])), (h3, .inr (2, [v15, v16, v17, v18, v19, v20, v21, v22, v23, .int 0, .int 0])), (h4, .inr (3, [v24, v25, v26, .int 0, .int 0]))] sz)) (va_Qi (fun (r : Int32) (_ : Unit) => r = 0) (fun u => kB D (va_A [(h0, .inr (9, [.ref h1, v0, .ref h3, .ref h4, v1, .ref h2, v2, v3, .int 0])), (h1, .inr (0, [v4, v5, v6, v7, .int 0])), (h2, .inr (6, [v8, v9, v10, v11, v12, .int 0, .int 0, .int 0, v13, v14])), (h3, .inr (2, [v15, v16, v17, v18, v19, v20, v21, v22, v23, .int 0, .int 0])), (h4, .inr (3, [v24, v25, v26, .int 0, .int 0]))] sz) ((fun (_ : Unit) => ([] : va_W)) u)) (va_A [(h0, .inr (9, [.ref h1, v0, .ref h3, .ref h4, v1, .ref h2, v2, v3, .int 0])), (h1, .inr (0, [v4, v5, v6, v7, .int 0])), (h2, .inr (6, [v8, v9, v10, v11, v12, .int 0, .int 0, .int 0, v13, v14])), (h3, .inr (2, [v15, v16, v17, v18, v19, v20, v21, v22, v23, .int 0, .int 0])), (h4, .inr (3, [v24, v25, v26, .int 0, .int 0]))] sz)) 0 0 (va_A [(h0, .inr (9, [.ref h1, v0, .ref h3, .ref h4, v1, .ref h2, v2, v3, .int 0])), (h1, .inr (0, [v4, v5, v6, v7, .int 0])), (h2, .inr (6, [v8, v9, v10, v11, v12, .int 0, .int 0, .int 0, v13, v14])), (h3, .inr (2, [v15, v16, v17, v18, v19, v20, v21, v22, v23, .int 0, .int 0])), (h4, .inr (3, [v24, v25, v26, .int 0, .int 0]))] sz) := by
  refine kMet (y := y_Lt_clear) (bytes := prog_1_method_14_code) (maxL := 2) (ret := (some .int)) (av := [.ref h0]) (ws := [(h0, .inr (9, [.ref h1, v0, .ref h3, .ref h4, v1, .ref h2, v2, v3, .int 0])), (h1, .inr (0, [v4, v5, v6, v7, .int 0])), (h2, .inr (6, [v8, v9, v10, v11, v12, .int 0, .int 0, .int 0, v13, v14])), (h3, .inr (2, [v15, v16, v17, v18, v19, v20, v21, v22, v23, .int 0, .int 0])), (h4, .inr (3, [v24, v25, v26, .int 0, .int 0]))]) (Qc := fun A => va_Qi (fun (r : Int32) (_ : Unit) => r = 0) (fun u => kB D A ((fun (_ : Unit) => ([] : va_W)) u)) A) "LayoutTokens" "clear" (by decide) rfl rfl (Nat.le_of_ble_eq_true rfl) ?_
  intro p e s m below meth c A ls X hr hlocks hin hA hP hD hl
  have hx := X.1.1
  have hb := X.1.2.1
  have hown := X.1.2.2.2.1
  have hk := X.1.2.2.2.2
  have hS : va_S A s.heap s.heap [] := va_S.rf
  have hl : lv_has ls 2 [(0, .ref h0)] := hl
  refine lv_aload_n hx hb d_Lt_clear_0 rfl (lv_at hl 0 rfl) ?_
  refine kget X hP 0 rfl rfl i_Lt 0 (by decide) t_358 rfl (v := .ref h1) rfl d_Lt_clear_1 ?_
  refine kVi (n := 0) (As := []) (rest := []) (wr := [(h0, .inr (9, [.ref h1, v0, .ref h3, .ref h4, v1, .ref h2, v2, v3, .int 0])), (h2, .inr (6, [v8, v9, v10, v11, v12, .int 0, .int 0, .int 0, v13, v14])), (h3, .inr (2, [v15, v16, v17, v18, v19, v20, v21, v22, v23, .int 0, .int 0])), (h4, .inr (3, [v24, v25, v26, .int 0, .int 0]))]) X hP hD hS hA (c11_So_size l D aI aJ aZ _ (h1) (v4) (v5) (v6) (v7)) (kV_good t_393 t_390 t_391 t_392 t_98) rfl rfl (by decide +kernel) ⟨Nat.le_of_ble_eq_true rfl, Nat.le_of_ble_eq_true rfl⟩ hl.1 rfl rfl (Nat.le_of_ble_eq_true rfl) d_Lt_clear_4 ⟨Nat.le_of_ble_eq_true rfl, Nat.le_of_ble_eq_true rfl⟩ [1] [0, 2, 3, 4] rfl rfl (by decide) (by decide) (by decide) 0 rfl rfl (fun r_2 u H locs w_1 hP hD hS => ?_)
  have hP : va_P D classes [(h0, .inr (9, [.ref h1, v0, .ref h3, .ref h4, v1, .ref h2, v2, v3, .int 0])), (h2, .inr (6, [v8, v9, v10, v11, v12, .int 0, .int 0, .int 0, v13, v14])), (h3, .inr (2, [v15, v16, v17, v18, v19, v20, v21, v22, v23, .int 0, .int 0])), (h4, .inr (3, [v24, v25, v26, .int 0, .int 0])), (h1, .inr (0, [v4, v5, v6, v7, .int 0]))] H := hP
  have hD : va_D A [(h0, .inr (9, [.ref h1, v0, .ref h3, .ref h4, v1, .ref h2, v2, v3, .int 0])), (h2, .inr (6, [v8, v9, v10, v11, v12, .int 0, .int 0, .int 0, v13, v14])), (h3, .inr (2, [v15, v16, v17, v18, v19, v20, v21, v22, v23, .int 0, .int 0])), (h4, .inr (3, [v24, v25, v26, .int 0, .int 0])), (h1, .inr (0, [v4, v5, v6, v7, .int 0]))] := hD
  obtain rfl : r_2 = 0 := w_1
  refine lv_istore_n (lv' := [(1, .int 0), (0, .ref h0)]) hx hb d_Lt_clear_7 rfl hl (by decide) rfl (fun ls hl => ?_)
  refine lv_aload_n hx hb d_Lt_clear_8 rfl (lv_at hl 1 rfl) ?_
  refine kget X hP 0 rfl rfl i_Lt 0 (by decide) t_358 rfl (v := .ref h1) rfl d_Lt_clear_9 ?_
  refine kVv (n := 0) (As := []) (rest := []) (wr := [(h0, .inr (9, [.ref h1, v0, .ref h3, .ref h4, v1, .ref h2, v2, v3, .int 0])), (h2, .inr (6, [v8, v9, v10, v11, v12, .int 0, .int 0, .int 0, v13, v14])), (h3, .inr (2, [v15, v16, v17, v18, v19, v20, v21, v22, v23, .int 0, .int 0])), (h4, .inr (3, [v24, v25, v26, .int 0, .int 0]))]) X hP hD hS hA (c104_So_empty l D aI aJ aZ _ (h1) (v4) (v5) (v6) (v7)) (kV_good t_956 t_953 t_954 t_955 t_98) rfl rfl (by decide +kernel) ⟨Nat.le_of_ble_eq_true rfl, Nat.le_of_ble_eq_true rfl⟩ hl.1 rfl rfl (Nat.le_of_ble_eq_true rfl) d_Lt_clear_12 ⟨Nat.le_of_ble_eq_true rfl, Nat.le_of_ble_eq_true rfl⟩ [4] [0, 1, 2, 3] rfl rfl (by decide) (by decide) (by decide) 0 rfl rfl (fun u H locs w_3 hP hD hS => ?_)
  have hP : va_P D classes [(h0, .inr (9, [.ref h1, v0, .ref h3, .ref h4, v1, .ref h2, v2, v3, .int 0])), (h2, .inr (6, [v8, v9, v10, v11, v12, .int 0, .int 0, .int 0, v13, v14])), (h3, .inr (2, [v15, v16, v17, v18, v19, v20, v21, v22, v23, .int 0, .int 0])), (h4, .inr (3, [v24, v25, v26, .int 0, .int 0])), (h1, .inr (0, [v4, v5, v6, v7, .int 0]))] H := hP
  have hD : va_D A [(h0, .inr (9, [.ref h1, v0, .ref h3, .ref h4, v1, .ref h2, v2, v3, .int 0])), (h2, .inr (6, [v8, v9, v10, v11, v12, .int 0, .int 0, .int 0, v13, v14])), (h3, .inr (2, [v15, v16, v17, v18, v19, v20, v21, v22, v23, .int 0, .int 0])), (h4, .inr (3, [v24, v25, v26, .int 0, .int 0])), (h1, .inr (0, [v4, v5, v6, v7, .int 0]))] := hD
  refine lv_aload_n hx hb d_Lt_clear_15 rfl (lv_at hl 1 rfl) ?_
  refine kVv (n := 0) (As := []) (rest := []) (wr := [(h1, .inr (0, [v4, v5, v6, v7, .int 0]))]) X hP hD hS hA (c35_Lt_forget l D aI aJ aZ _ (h0) (h2) (h3) (h4) (.ref h1) (v0) (v1) (v2) (v3) (v8) (v9) (v10) (v11) (v12) (v13) (v14) (v15) (v16) (v17) (v18) (v19) (v20) (v21) (v22) (v23) (v24) (v25) (v26)) (kV_good t_409 t_406 t_408 t_1 t_97) rfl rfl (by decide +kernel) ⟨Nat.le_of_ble_eq_true rfl, Nat.le_of_ble_eq_true rfl⟩ hl.1 rfl rfl (Nat.le_of_ble_eq_true rfl) d_Lt_clear_16 ⟨Nat.le_of_ble_eq_true rfl, Nat.le_of_ble_eq_true rfl⟩ [0, 1, 2, 3] [4] rfl rfl (by decide) (by decide) (by decide) 0 rfl rfl (fun u H locs w_4 hP hD hS => ?_)
  have hP : va_P D classes [(h1, .inr (0, [v4, v5, v6, v7, .int 0])), (h0, .inr (9, [.ref h1, v0, .ref h3, .ref h4, v1, .ref h2, v2, v3, .int 0])), (h2, .inr (6, [v8, v9, v10, v11, v12, .int 0, .int 0, .int 0, v13, v14])), (h3, .inr (2, [v15, v16, v17, v18, v19, v20, v21, v22, v23, .int 0, .int 0])), (h4, .inr (3, [v24, v25, v26, .int 0, .int 0]))] H := hP
  have hD : va_D A [(h1, .inr (0, [v4, v5, v6, v7, .int 0])), (h0, .inr (9, [.ref h1, v0, .ref h3, .ref h4, v1, .ref h2, v2, v3, .int 0])), (h2, .inr (6, [v8, v9, v10, v11, v12, .int 0, .int 0, .int 0, v13, v14])), (h3, .inr (2, [v15, v16, v17, v18, v19, v20, v21, v22, v23, .int 0, .int 0])), (h4, .inr (3, [v24, v25, v26, .int 0, .int 0]))] := hD
  refine lv_iload_n hx hb d_Lt_clear_19 rfl (lv_at hl 0 rfl) ?_
  exact kri X hr hlocks hS () rfl (hP.sub [] rfl) (hD.sub [] (by decide) rfl) d_Lt_clear_20
set_option maxHeartbeats 4000000 in
set_option maxRecDepth 100000 in
theorem c106_Mo_clear (l : Launch) (D : va_G) (aI aJ aZ : ClassId) (sz : Nat) (h0 : Nat) (v0 : Value) (v1 : Value) (v2 : Value) (v3 : Value) (v4 : Value) (v5 : Value) (v6 : Value) (v7 : Value) (v8 : Value) (v9 : Value) (v10 : Value) (v11 : Value) (v12 : Value) (v13 : Value) (v14 : Value) (v15 : Value) (v16 : Value) (v17 : Value) (v18 : Value) (v19 : Value) (v20 : Value) (v21 : Value) (v22 : Value) (v23 : Value) (v24 : Value) (v25 : Value) (v26 : Value) (v27 : Value) (v28 : Value) (v29 : Value) (v30 : Value) (v31 : Value) (v32 : Value) (v33 : Value) (v34 : Value) (v35 : Value) (v36 : Value) (v37 : Value) (v38 : Value) (v39 : Value) (v40 : Value) : Met l y_Mo_clear (kq y_Mo_clear prog_12_method_74_code 2 (some .int)) { frames := 1, cells := 0, slots := 0, locals := 20 } (va_Pc [.ref h0] (kPre D (kT aI aJ aZ) [(h0, .inr (10, [.int 0, v0, .int 0, v1, v2, v3, .int 0, v4, .int 0, v5, v6, v7, v8, v9, v10, v11, v12, .int 0, v13, v14, v15, .int 0, .int 0, v16, v17, v18, v19, v20, v21, v22, v23, v24, v25, v26, v27, v28, v29, v30, v31, v32, v33, v34, v35, v36, v37, v38, v39, v40]))] sz)) (va_Qi (fun (r : Int32) (_ : Unit) => r = 0) (fun u => kB D (va_A [(h0, .inr (10, [.int 0, v0, .int 0, v1, v2, v3, .int 0, v4, .int 0, v5, v6, v7, v8, v9, v10, v11, v12, .int 0, v13, v14, v15, .int 0, .int 0, v16, v17, v18, v19, v20, v21, v22, v23, v24, v25, v26, v27, v28, v29, v30, v31, v32, v33, v34, v35, v36, v37, v38, v39, v40]))] sz) ((fun (_ : Unit) => ([] : va_W)) u)) (va_A [(h0, .inr (10, [.int 0, v0, .int 0, v1, v2, v3, .int 0, v4, .int 0, v5, v6, v7, v8, v9, v10, v11, v12, .int 0, v13, v14, v15, .int 0, .int 0, v16, v17, v18, v19, v20, v21, v22, v23, v24, v25, v26, v27, v28, v29, v30, v31, v32, v33, v34, v35, v36, v37, v38, v39, v40]))] sz)) 0 0 (va_A [(h0, .inr (10, [.int 0, v0, .int 0, v1, v2, v3, .int 0, v4, .int 0, v5, v6, v7, v8, v9, v10, v11, v12, .int 0, v13, v14, v15, .int 0, .int 0, v16, v17, v18, v19, v20, v21, v22, v23, v24, v25, v26, v27, v28, v29, v30, v31, v32, v33, v34, v35, v36, v37, v38, v39, v40]))] sz) := by
  refine kMet (y := y_Mo_clear) (bytes := prog_12_method_74_code) (maxL := 2) (ret := (some .int)) (av := [.ref h0]) (ws := [(h0, .inr (10, [.int 0, v0, .int 0, v1, v2, v3, .int 0, v4, .int 0, v5, v6, v7, v8, v9, v10, v11, v12, .int 0, v13, v14, v15, .int 0, .int 0, v16, v17, v18, v19, v20, v21, v22, v23, v24, v25, v26, v27, v28, v29, v30, v31, v32, v33, v34, v35, v36, v37, v38, v39, v40]))]) (Qc := fun A => va_Qi (fun (r : Int32) (_ : Unit) => r = 0) (fun u => kB D A ((fun (_ : Unit) => ([] : va_W)) u)) A) "LayoutTokensModel" "clear" (by decide) rfl rfl (Nat.le_of_ble_eq_true rfl) ?_
  intro p e s m below meth c A ls X hr hlocks hin hA hP hD hl
  have hx := X.1.1
  have hb := X.1.2.1
  have hown := X.1.2.2.2.1
  have hk := X.1.2.2.2.2
  have hS : va_S A s.heap s.heap [] := va_S.rf
  have hl : lv_has ls 2 [(0, .ref h0)] := hl
  refine lv_aload_n hx hb d_Mo_clear_0 rfl (lv_at hl 0 rfl) ?_
  refine lv_iconst (v := 0) hx hb d_Mo_clear_1 (by decide) ?_
  refine kput X hP hD hS 0 rfl rfl i_Mo ty_Mo ty_Mo_ok nm_Mo 0 (by decide) t_988 rfl (v := .int 0) rfl rfl (Nat.le_of_ble_eq_true rfl) d_Mo_clear_2 (fun H locs hP hD hS => ?_)
  have hP : va_P D classes [(h0, .inr (10, [.int 0, v0, .int 0, v1, v2, v3, .int 0, v4, .int 0, v5, v6, v7, v8, v9, v10, v11, v12, .int 0, v13, v14, v15, .int 0, .int 0, v16, v17, v18, v19, v20, v21, v22, v23, v24, v25, v26, v27, v28, v29, v30, v31, v32, v33, v34, v35, v36, v37, v38, v39, v40]))] H := hP
  have hD : va_D A [(h0, .inr (10, [.int 0, v0, .int 0, v1, v2, v3, .int 0, v4, .int 0, v5, v6, v7, v8, v9, v10, v11, v12, .int 0, v13, v14, v15, .int 0, .int 0, v16, v17, v18, v19, v20, v21, v22, v23, v24, v25, v26, v27, v28, v29, v30, v31, v32, v33, v34, v35, v36, v37, v38, v39, v40]))] := hD
  refine lv_aload_n hx hb d_Mo_clear_5 rfl (lv_at hl 0 rfl) ?_
  refine kget X hP 0 rfl rfl i_Mo 2 (by decide) t_990 rfl (v := .int 0) rfl d_Mo_clear_6 ?_
  refine lv_istore_n (lv' := [(1, .int 0), (0, .ref h0)]) hx hb d_Mo_clear_9 rfl hl (by decide) rfl (fun ls hl => ?_)
  refine lv_aload_n hx hb d_Mo_clear_10 rfl (lv_at hl 1 rfl) ?_
  refine lv_iconst (v := 0) hx hb d_Mo_clear_11 (by decide) ?_
  refine kput X hP hD hS 0 rfl rfl i_Mo ty_Mo ty_Mo_ok nm_Mo 2 (by decide) t_990 rfl (v := .int 0) rfl rfl (Nat.le_of_ble_eq_true rfl) d_Mo_clear_12 (fun H locs hP hD hS => ?_)
  have hP : va_P D classes [(h0, .inr (10, [.int 0, v0, .int 0, v1, v2, v3, .int 0, v4, .int 0, v5, v6, v7, v8, v9, v10, v11, v12, .int 0, v13, v14, v15, .int 0, .int 0, v16, v17, v18, v19, v20, v21, v22, v23, v24, v25, v26, v27, v28, v29, v30, v31, v32, v33, v34, v35, v36, v37, v38, v39, v40]))] H := hP
  have hD : va_D A [(h0, .inr (10, [.int 0, v0, .int 0, v1, v2, v3, .int 0, v4, .int 0, v5, v6, v7, v8, v9, v10, v11, v12, .int 0, v13, v14, v15, .int 0, .int 0, v16, v17, v18, v19, v20, v21, v22, v23, v24, v25, v26, v27, v28, v29, v30, v31, v32, v33, v34, v35, v36, v37, v38, v39, v40]))] := hD
  refine lv_aload_n hx hb d_Mo_clear_15 rfl (lv_at hl 1 rfl) ?_
  refine kVv (n := 0) (As := []) (rest := []) (wr := []) X hP hD hS hA (c30_Mo_unread l D aI aJ aZ _ (h0) (.int 0) (v0) (.int 0) (v1) (v2) (v3) (v4) (v5) (v6) (v7) (v8) (v9) (v10) (v11) (v12) (v13) (v14) (v15) (v16) (v17) (v18) (v19) (v20) (v21) (v22) (v23) (v24) (v25) (v26) (v27) (v28) (v29) (v30) (v31) (v32) (v33) (v34) (v35) (v36) (v37) (v38) (v39) (v40)) (kV_good t_1141 t_1138 t_1140 t_53 t_107) rfl rfl (by decide +kernel) ⟨Nat.le_of_ble_eq_true rfl, Nat.le_of_ble_eq_true rfl⟩ hl.1 rfl rfl (Nat.le_of_ble_eq_true rfl) d_Mo_clear_16 ⟨Nat.le_of_ble_eq_true rfl, Nat.le_of_ble_eq_true rfl⟩ [0] [] rfl rfl (by decide) (by decide) (by decide) 0 rfl rfl (fun u H locs w_1 hP hD hS => ?_)
  have hP : va_P D classes [(h0, .inr (10, [.int 0, v0, .int 0, v1, v2, v3, .int 0, v4, .int 0, v5, v6, v7, v8, v9, v10, v11, v12, .int 0, v13, v14, v15, .int 0, .int 0, v16, v17, v18, v19, v20, v21, v22, v23, v24, v25, v26, v27, v28, v29, v30, v31, v32, v33, v34, v35, v36, v37, v38, v39, v40]))] H := hP
  have hD : va_D A [(h0, .inr (10, [.int 0, v0, .int 0, v1, v2, v3, .int 0, v4, .int 0, v5, v6, v7, v8, v9, v10, v11, v12, .int 0, v13, v14, v15, .int 0, .int 0, v16, v17, v18, v19, v20, v21, v22, v23, v24, v25, v26, v27, v28, v29, v30, v31, v32, v33, v34, v35, v36, v37, v38, v39, v40]))] := hD
  refine lv_iload_n hx hb d_Mo_clear_19 rfl (lv_at hl 0 rfl) ?_
  exact kri X hr hlocks hS () rfl (hP.sub [] rfl) (hD.sub [] (by decide) rfl) d_Mo_clear_20
