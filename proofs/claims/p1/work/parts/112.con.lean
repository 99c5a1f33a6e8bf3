set_option maxHeartbeats 4000000 in
set_option maxRecDepth 100000 in
theorem c32_La_empty (l : Launch) (D : va_G) (aI aJ aZ : ClassId) (sz : Nat) (h0 : Nat) (v0 : Value) (v1 : Value) (v2 : Value) (v3 : Value) (v4 : Value) (v5 : Value) (v6 : Value) : Met l y_La_empty (kq y_La_empty prog_3_method_2_code 1 none) { frames := 0, cells := 0, slots := 0, locals := 0 } (va_Pc [.ref h0] (kPre D (kT aI aJ aZ) [(h0, .inr (6, [v0, v1, v2, v3, v4, .int 0, .int 0, .int 0, v5, v6]))] sz)) (va_Qv (fun (_ : Unit) => True) (fun u => kB D (va_A [(h0, .inr (6, [v0, v1, v2, v3, v4, .int 0, .int 0, .int 0, v5, v6]))] sz) ((fun (_ : Unit) => ([(h0, .inr (6, [v0, v1, v2, v3, v4, .int 0, .int 0, .int 0, v5, v6]))] : va_W)) u)) (va_A [(h0, .inr (6, [v0, v1, v2, v3, v4, .int 0, .int 0, .int 0, v5, v6]))] sz)) 0 0 (va_A [(h0, .inr (6, [v0, v1, v2, v3, v4, .int 0, .int 0, .int 0, v5, v6]))] sz) := by
  refine kMet (y := y_La_empty) (bytes := prog_3_method_2_code) (maxL := 1) (ret := none) (av := [.ref h0]) (ws := [(h0, .inr (6, [v0, v1, v2, v3, v4, .int 0, .int 0, .int 0, v5, v6]))]) (Qc := fun A => va_Qv (fun (_ : Unit) => True) (fun u => kB D A ((fun (_ : Unit) => ([(h0, .inr (6, [v0, v1, v2, v3, v4, .int 0, .int 0, .int 0, v5, v6]))] : va_W)) u)) A) "LayoutTokens$Laid" "empty" (by decide) rfl rfl (Nat.le_of_ble_eq_true rfl) ?_
  intro p e s m below meth c A ls X hr hlocks hin hA hP hD hl
  have hx := X.1.1
  have hb := X.1.2.1
  have hown := X.1.2.2.2.1
  have hk := X.1.2.2.2.2
  have hS : va_S A s.heap s.heap [] := va_S.rf
  have hl : lv_has ls 1 [(0, .ref h0)] := hl
  refine lv_aload_n hx hb d_La_empty_0 rfl (lv_at hl 0 rfl) ?_
  refine lv_iconst (v := 0) hx hb d_La_empty_1 (by decide) ?_
  refine kput X hP hD hS 0 rfl rfl i_La ty_La ty_La_ok nm_La 5 (by decide) t_260 rfl (v := .int 0) rfl rfl (Nat.le_of_ble_eq_true rfl) d_La_empty_2 (fun H locs hP hD hS => ?_)
  have hP : va_P D classes [(h0, .inr (6, [v0, v1, v2, v3, v4, .int 0, .int 0, .int 0, v5, v6]))] H := hP
  have hD : va_D A [(h0, .inr (6, [v0, v1, v2, v3, v4, .int 0, .int 0, .int 0, v5, v6]))] := hD
  refine lv_aload_n hx hb d_La_empty_5 rfl (lv_at hl 0 rfl) ?_
  refine lv_iconst (v := 0) hx hb d_La_empty_6 (by decide) ?_
  refine kput X hP hD hS 0 rfl rfl i_La ty_La ty_La_ok nm_La 6 (by decide) t_261 rfl (v := .int 0) rfl rfl (Nat.le_of_ble_eq_true rfl) d_La_empty_7 (fun H locs hP hD hS => ?_)
  have hP : va_P D classes [(h0, .inr (6, [v0, v1, v2, v3, v4, .int 0, .int 0, .int 0, v5, v6]))] H := hP
  have hD : va_D A [(h0, .inr (6, [v0, v1, v2, v3, v4, .int 0, .int 0, .int 0, v5, v6]))] := hD
  refine lv_aload_n hx hb d_La_empty_10 rfl (lv_at hl 0 rfl) ?_
  refine lv_iconst (v := 0) hx hb d_La_empty_11 (by decide) ?_
  refine kput X hP hD hS 0 rfl rfl i_La ty_La ty_La_ok nm_La 7 (by decide) t_262 rfl (v := .int 0) rfl rfl (Nat.le_of_ble_eq_true rfl) d_La_empty_12 (fun H locs hP hD hS => ?_)
  have hP : va_P D classes [(h0, .inr (6, [v0, v1, v2, v3, v4, .int 0, .int 0, .int 0, v5, v6]))] H := hP
  have hD : va_D A [(h0, .inr (6, [v0, v1, v2, v3, v4, .int 0, .int 0, .int 0, v5, v6]))] := hD
  exact krv X hr hlocks hS () trivial (hP.sub [0] rfl) (hD.sub [0] (by decide) rfl) d_La_empty_15
set_option maxHeartbeats 4000000 in
set_option maxRecDepth 100000 in
theorem c33_Le_empty (l : Launch) (D : va_G) (aI aJ aZ : ClassId) (sz : Nat) (h0 : Nat) (v0 : Value) (v1 : Value) (v2 : Value) (v3 : Value) (v4 : Value) (v5 : Value) (v6 : Value) (v7 : Value) (v8 : Value) : Met l y_Le_empty (kq y_Le_empty prog_5_method_2_code 1 none) { frames := 0, cells := 0, slots := 0, locals := 0 } (va_Pc [.ref h0] (kPre D (kT aI aJ aZ) [(h0, .inr (2, [v0, v1, v2, v3, v4, v5, v6, v7, v8, .int 0, .int 0]))] sz)) (va_Qv (fun (_ : Unit) => True) (fun u => kB D (va_A [(h0, .inr (2, [v0, v1, v2, v3, v4, v5, v6, v7, v8, .int 0, .int 0]))] sz) ((fun (_ : Unit) => ([(h0, .inr (2, [v0, v1, v2, v3, v4, v5, v6, v7, v8, .int 0, .int 0]))] : va_W)) u)) (va_A [(h0, .inr (2, [v0, v1, v2, v3, v4, v5, v6, v7, v8, .int 0, .int 0]))] sz)) 0 0 (va_A [(h0, .inr (2, [v0, v1, v2, v3, v4, v5, v6, v7, v8, .int 0, .int 0]))] sz) := by
  refine kMet (y := y_Le_empty) (bytes := prog_5_method_2_code) (maxL := 1) (ret := none) (av := [.ref h0]) (ws := [(h0, .inr (2, [v0, v1, v2, v3, v4, v5, v6, v7, v8, .int 0, .int 0]))]) (Qc := fun A => va_Qv (fun (_ : Unit) => True) (fun u => kB D A ((fun (_ : Unit) => ([(h0, .inr (2, [v0, v1, v2, v3, v4, v5, v6, v7, v8, .int 0, .int 0]))] : va_W)) u)) A) "LayoutTokens$Lexemes" "empty" (by decide) rfl rfl (Nat.le_of_ble_eq_true rfl) ?_
  intro p e s m below meth c A ls X hr hlocks hin hA hP hD hl
  have hx := X.1.1
  have hb := X.1.2.1
  have hown := X.1.2.2.2.1
  have hk := X.1.2.2.2.2
  have hS : va_S A s.heap s.heap [] := va_S.rf
  have hl : lv_has ls 1 [(0, .ref h0)] := hl
  refine lv_aload_n hx hb d_Le_empty_0 rfl (lv_at hl 0 rfl) ?_
  refine lv_iconst (v := 0) hx hb d_Le_empty_1 (by decide) ?_
  refine kput X hP hD hS 0 rfl rfl i_Le ty_Le ty_Le_ok nm_Le 9 (by decide) t_169 rfl (v := .int 0) rfl rfl (Nat.le_of_ble_eq_true rfl) d_Le_empty_2 (fun H locs hP hD hS => ?_)
  have hP : va_P D classes [(h0, .inr (2, [v0, v1, v2, v3, v4, v5, v6, v7, v8, .int 0, .int 0]))] H := hP
  have hD : va_D A [(h0, .inr (2, [v0, v1, v2, v3, v4, v5, v6, v7, v8, .int 0, .int 0]))] := hD
  refine lv_aload_n hx hb d_Le_empty_5 rfl (lv_at hl 0 rfl) ?_
  refine lv_iconst (v := 0) hx hb d_Le_empty_6 (by decide) ?_
  refine kput X hP hD hS 0 rfl rfl i_Le ty_Le ty_Le_ok nm_Le 10 (by decide) t_170 rfl (v := .int 0) rfl rfl (Nat.le_of_ble_eq_true rfl) d_Le_empty_7 (fun H locs hP hD hS => ?_)
  have hP : va_P D classes [(h0, .inr (2, [v0, v1, v2, v3, v4, v5, v6, v7, v8, .int 0, .int 0]))] H := hP
  have hD : va_D A [(h0, .inr (2, [v0, v1, v2, v3, v4, v5, v6, v7, v8, .int 0, .int 0]))] := hD
  exact krv X hr hlocks hS () trivial (hP.sub [0] rfl) (hD.sub [0] (by decide) rfl) d_Le_empty_10
set_option maxHeartbeats 4000000 in
set_option maxRecDepth 100000 in
theorem c34_Co_empty (l : Launch) (D : va_G) (aI aJ aZ : ClassId) (sz : Nat) (h0 : Nat) (v0 : Value) (v1 : Value) (v2 : Value) : Met l y_Co_empty (kq y_Co_empty prog_2_method_2_code 1 none) { frames := 0, cells := 0, slots := 0, locals := 0 } (va_Pc [.ref h0] (kPre D (kT aI aJ aZ) [(h0, .inr (3, [v0, v1, v2, .int 0, .int 0]))] sz)) (va_Qv (fun (_ : Unit) => True) (fun u => kB D (va_A [(h0, .inr (3, [v0, v1, v2, .int 0, .int 0]))] sz) ((fun (_ : Unit) => ([(h0, .inr (3, [v0, v1, v2, .int 0, .int 0]))] : va_W)) u)) (va_A [(h0, .inr (3, [v0, v1, v2, .int 0, .int 0]))] sz)) 0 0 (va_A [(h0, .inr (3, [v0, v1, v2, .int 0, .int 0]))] sz) := by
  refine kMet (y := y_Co_empty) (bytes := prog_2_method_2_code) (maxL := 1) (ret := none) (av := [.ref h0]) (ws := [(h0, .inr (3, [v0, v1, v2, .int 0, .int 0]))]) (Qc := fun A => va_Qv (fun (_ : Unit) => True) (fun u => kB D A ((fun (_ : Unit) => ([(h0, .inr (3, [v0, v1, v2, .int 0, .int 0]))] : va_W)) u)) A) "LayoutTokens$Comments" "empty" (by decide) rfl rfl (Nat.le_of_ble_eq_true rfl) ?_
  intro p e s m below meth c A ls X hr hlocks hin hA hP hD hl
  have hx := X.1.1
  have hb := X.1.2.1
  have hown := X.1.2.2.2.1
  have hk := X.1.2.2.2.2
  have hS : va_S A s.heap s.heap [] := va_S.rf
  have hl : lv_has ls 1 [(0, .ref h0)] := hl
  refine lv_aload_n hx hb d_Co_empty_0 rfl (lv_at hl 0 rfl) ?_
  refine lv_iconst (v := 0) hx hb d_Co_empty_1 (by decide) ?_
  refine kput X hP hD hS 0 rfl rfl i_Co ty_Co ty_Co_ok nm_Co 3 (by decide) t_204 rfl (v := .int 0) rfl rfl (Nat.le_of_ble_eq_true rfl) d_Co_empty_2 (fun H locs hP hD hS => ?_)
  have hP : va_P D classes [(h0, .inr (3, [v0, v1, v2, .int 0, .int 0]))] H := hP
  have hD : va_D A [(h0, .inr (3, [v0, v1, v2, .int 0, .int 0]))] := hD
  refine lv_aload_n hx hb d_Co_empty_5 rfl (lv_at hl 0 rfl) ?_
  refine lv_iconst (v := 0) hx hb d_Co_empty_6 (by decide) ?_
  refine kput X hP hD hS 0 rfl rfl i_Co ty_Co ty_Co_ok nm_Co 4 (by decide) t_205 rfl (v := .int 0) rfl rfl (Nat.le_of_ble_eq_true rfl) d_Co_empty_7 (fun H locs hP hD hS => ?_)
  have hP : va_P D classes [(h0, .inr (3, [v0, v1, v2, .int 0, .int 0]))] H := hP
  have hD : va_D A [(h0, .inr (3, [v0, v1, v2, .int 0, .int 0]))] := hD
  exact krv X hr hlocks hS () trivial (hP.sub [0] rfl) (hD.sub [0] (by decide) rfl) d_Co_empty_10
set_option maxHeartbeats 4000000 in
set_option maxRecDepth 100000 in
theorem c35_Lt_forget (l : Launch) (D : va_G) (aI aJ aZ : ClassId) (sz : Nat) (h0 : Nat) (h1 : Nat) (h2 : Nat) (h3 : Nat) (v0 : Value) (v1 : Value) (v2 : Value) (v3 : Value) (v4 : Value) (v5 : Value) (v6 : Value) (v7 : Value) (v8 : Value) (v9 : Value) (v10 : Value) (v11 : Value) (v12 : Value) (v13 : Value) (v14 : Value) (v15 : Value) (v16 : Value) (v17 : Value) (v18 : Value) (v19 : Value) (v20 : Value) (v21 : Value) (v22 : Value) (v23 : Value) : Met l y_Lt_forget (kq y_Lt_forget prog_1_method_15_code 1 none) { frames := 1, cells := 0, slots := 0, locals := 20 } (va_Pc [.ref h0] (kPre D (kT aI aJ aZ) [(h0, .inr (9, [v0, v1, .ref h2, .ref h3, v2, .ref h1, v3, v4, .int 0])), (h1, .inr (6, [v5, v6, v7, v8, v9, .int 0, .int 0, .int 0, v10, v11])), (h2, .inr (2, [v12, v13, v14, v15, v16, v17, v18, v19, v20, .int 0, .int 0])), (h3, .inr (3, [v21, v22, v23, .int 0, .int 0]))] sz)) (va_Qv (fun (_ : Unit) => True) (fun u => kB D (va_A [(h0, .inr (9, [v0, v1, .ref h2, .ref h3, v2, .ref h1, v3, v4, .int 0])), (h1, .inr (6, [v5, v6, v7, v8, v9, .int 0, .int 0, .int 0, v10, v11])), (h2, .inr (2, [v12, v13, v14, v15, v16, v17, v18, v19, v20, .int 0, .int 0])), (h3, .inr (3, [v21, v22, v23, .int 0, .int 0]))] sz) ((fun (_ : Unit) => ([(h0, .inr (9, [v0, v1, .ref h2, .ref h3, v2, .ref h1, v3, v4, .int 0])), (h1, .inr (6, [v5, v6, v7, v8, v9, .int 0, .int 0, .int 0, v10, v11])), (h2, .inr (2, [v12, v13, v14, v15, v16, v17, v18, v19, v20, .int 0, .int 0])), (h3, .inr (3, [v21, v22, v23, .int 0, .int 0]))] : va_W)) u)) (va_A [(h0, .inr (9, [v0, v1, .ref h2, .ref h3, v2, .ref h1, v3, v4, .int 0])), (h1, .inr (6, [v5, v6, v7, v8, v9, .int 0, .int 0, .int 0, v10, v11])), (h2, .inr (2, [v12, v13, v14, v15, v16, v17, v18, v19, v20, .int 0, .int 0])), (h3, .inr (3, [v21, v22, v23, .int 0, .int 0]))] sz)) 0 0 (va_A [(h0, .inr (9, [v0, v1, .ref h2, .ref h3, v2, .ref h1, v3, v4, .int 0])), (h1, .inr (6, [v5, v6, v7, v8, v9, .int 0, .int 0, .int 0, v10, v11])), (h2, .inr (2, [v12, v13, v14, v15, v16, v17, v18, v19, v20, .int 0, .int 0])), (h3, .inr (3, [v21, v22, v23, .int 0, .int 0]))] sz) := by
  refine kMet (y := y_Lt_forget) (bytes := prog_1_method_15_code) (maxL := 1) (ret := none) (av := [.ref h0]) (ws := [(h0, .inr (9, [v0, v1, .ref h2, .ref h3, v2, .ref h1, v3, v4, .int 0])), (h1, .inr (6, [v5, v6, v7, v8, v9, .int 0, .int 0, .int 0, v10, v11])), (h2, .inr (2, [v12, v13, v14, v15, v16, v17, v18, v19, v20, .int 0, .int 0])), (h3, .inr (3, [v21, v22, v23, .int 0, .int 0]))]) (Qc := fun A => va_Qv (fun (_ : Unit) => True) (fun u => kB D A ((fun (_ : Unit) => ([(h0, .inr (9, [v0, v1, .ref h2, .ref h3, v2, .ref h1, v3, v4, .int 0])), (h1, .inr (6, [v5, v6, v7, v8, v9, .int 0, .int 0, .int 0, v10, v11])), (h2, .inr (2, [v12, v13, v14, v15, v16, v17, v18, v19, v20, .int 0, .int 0])), (h3, .inr (3, [v21, v22, v23, .int 0, .int 0]))] : va_W)) u)) A) "LayoutTokens" "forget" (by decide) rfl rfl (Nat.le_of_ble_eq_true rfl) ?_
  intro p e s m below meth c A ls X hr hlocks hin hA hP hD hl
  have hx := X.1.1
  have hb := X.1.2.1
  have hown := X.1.2.2.2.1
  have hk := X.1.2.2.2.2
  have hS : va_S A s.heap s.heap [] := va_S.rf
  have hl : lv_has ls 1 [(0, .ref h0)] := hl
  refine lv_aload_n hx hb d_Lt_forget_0 rfl (lv_at hl 0 rfl) ?_
  refine lv_iconst (v := 0) hx hb d_Lt_forget_1 (by decide) ?_
  refine kput X hP hD hS 0 rfl rfl i_Lt ty_Lt ty_Lt_ok nm_Lt 8 (by decide) t_366 rfl (v := .int 0) rfl rfl (Nat.le_of_ble_eq_true rfl) d_Lt_forget_2 (fun H locs hP hD hS => ?_)
  have hP : va_P D classes [(h0, .inr (9, [v0, v1, .ref h2, .ref h3, v2, .ref h1, v3, v4, .int 0])), (h1, .inr (6, [v5, v6, v7, v8, v9, .int 0, .int 0, .int 0, v10, v11])), (h2, .inr (2, [v12, v13, v14, v15, v16, v17, v18, v19, v20, .int 0, .int 0])), (h3, .inr (3, [v21, v22, v23, .int 0, .int 0]))] H := hP
  have hD : va_D A [(h0, .inr (9, [v0, v1, .ref h2, .ref h3, v2, .ref h1, v3, v4, .int 0])), (h1, .inr (6, [v5, v6, v7, v8, v9, .int 0, .int 0, .int 0, v10, v11])), (h2, .inr (2, [v12, v13, v14, v15, v16, v17, v18, v19, v20, .int 0, .int 0])), (h3, .inr (3, [v21, v22, v23, .int 0, .int 0]))] := hD
  refine lv_aload_n hx hb d_Lt_forget_5 rfl (lv_at hl 0 rfl) ?_
  refine kget X hP 0 rfl rfl i_Lt 5 (by decide) t_363 rfl (v := .ref h1) rfl d_Lt_forget_6 ?_
  refine kVv (n := 0) (As := []) (rest := []) (wr := [(h0, .inr (9, [v0, v1, .ref h2, .ref h3, v2, .ref h1, v3, v4, .int 0])), (h2, .inr (2, [v12, v13, v14, v15, v16, v17, v18, v19, v20, .int 0, .int 0])), (h3, .inr (3, [v21, v22, v23, .int 0, .int 0]))]) X hP hD hS hA (c32_La_empty l D aI aJ aZ _ (h1) (v5) (v6) (v7) (v8) (v9) (v10) (v11)) (kV_good t_413 t_410 t_411 t_412 t_104) rfl rfl (by decide +kernel) ⟨Nat.le_of_ble_eq_true rfl, Nat.le_of_ble_eq_true rfl⟩ hl.1 rfl rfl (Nat.le_of_ble_eq_true rfl) d_Lt_forget_9 ⟨Nat.le_of_ble_eq_true rfl, Nat.le_of_ble_eq_true rfl⟩ [1] [0, 2, 3] rfl rfl (by decide) (by decide) (by decide) 0 rfl rfl (fun u H locs w_1 hP hD hS => ?_)
  have hP : va_P D classes [(h0, .inr (9, [v0, v1, .ref h2, .ref h3, v2, .ref h1, v3, v4, .int 0])), (h2, .inr (2, [v12, v13, v14, v15, v16, v17, v18, v19, v20, .int 0, .int 0])), (h3, .inr (3, [v21, v22, v23, .int 0, .int 0])), (h1, .inr (6, [v5, v6, v7, v8, v9, .int 0, .int 0, .int 0, v10, v11]))] H := hP
  have hD : va_D A [(h0, .inr (9, [v0, v1, .ref h2, .ref h3, v2, .ref h1, v3, v4, .int 0])), (h2, .inr (2, [v12, v13, v14, v15, v16, v17, v18, v19, v20, .int 0, .int 0])), (h3, .inr (3, [v21, v22, v23, .int 0, .int 0])), (h1, .inr (6, [v5, v6, v7, v8, v9, .int 0, .int 0, .int 0, v10, v11]))] := hD
  refine lv_aload_n hx hb d_Lt_forget_12 rfl (lv_at hl 0 rfl) ?_
  refine kget X hP 0 rfl rfl i_Lt 2 (by decide) t_360 rfl (v := .ref h2) rfl d_Lt_forget_13 ?_
  refine kVv (n := 0) (As := []) (rest := []) (wr := [(h0, .inr (9, [v0, v1, .ref h2, .ref h3, v2, .ref h1, v3, v4, .int 0])), (h3, .inr (3, [v21, v22, v23, .int 0, .int 0])), (h1, .inr (6, [v5, v6, v7, v8, v9, .int 0, .int 0, .int 0, v10, v11]))]) X hP hD hS hA (c33_Le_empty l D aI aJ aZ _ (h2) (v12) (v13) (v14) (v15) (v16) (v17) (v18) (v19) (v20)) (kV_good t_417 t_414 t_415 t_416 t_100) rfl rfl (by decide +kernel) ⟨Nat.le_of_ble_eq_true rfl, Nat.le_of_ble_eq_true rfl⟩ hl.1 rfl rfl (Nat.le_of_ble_eq_true rfl) d_Lt_forget_16 ⟨Nat.le_of_ble_eq_true rfl, Nat.le_of_ble_eq_true rfl⟩ [1] [0, 2, 3] rfl rfl (by decide) (by decide) (by decide) 0 rfl rfl (fun u H locs w_2 hP hD hS => ?_)
  have hP : va_P D classes [(h0, .inr (9, [v0, v1, .ref h2, .ref h3, v2, .ref h1, v3, v4, .int 0])), (h3, .inr (3, [v21, v22, v23, .int 0, .int 0])), (h1, .inr (6, [v5, v6, v7, v8, v9, .int 0, .int 0, .int 0, v10, v11])), (h2, .inr (2, [v12, v13, v14, v15, v16, v17, v18, v19, v20, .int 0, .int 0]))] H := hP
  have hD : va_D A [(h0, .inr (9, [v0, v1, .ref h2, .ref h3, v2, .ref h1, v3, v4, .int 0])), (h3, .inr (3, [v21, v22, v23, .int 0, .int 0])), (h1, .inr (6, [v5, v6, v7, v8, v9, .int 0, .int 0, .int 0, v10, v11])), (h2, .inr (2, [v12, v13, v14, v15, v16, v17, v18, v19, v20, .int 0, .int 0]))] := hD
  refine lv_aload_n hx hb d_Lt_forget_19 rfl (lv_at hl 0 rfl) ?_
  refine kget X hP 0 rfl rfl i_Lt 3 (by decide) t_361 rfl (v := .ref h3) rfl d_Lt_forget_20 ?_
  refine kVv (n := 0) (As := []) (rest := []) (wr := [(h0, .inr (9, [v0, v1, .ref h2, .ref h3, v2, .ref h1, v3, v4, .int 0])), (h1, .inr (6, [v5, v6, v7, v8, v9, .int 0, .int 0, .int 0, v10, v11])), (h2, .inr (2, [v12, v13, v14, v15, v16, v17, v18, v19, v20, .int 0, .int 0]))]) X hP hD hS hA (c34_Co_empty l D aI aJ aZ _ (h3) (v21) (v22) (v23)) (kV_good t_421 t_418 t_419 t_420 t_101) rfl rfl (by decide +kernel) ⟨Nat.le_of_ble_eq_true rfl, Nat.le_of_ble_eq_true rfl⟩ hl.1 rfl rfl (Nat.le_of_ble_eq_true rfl) d_Lt_forget_23 ⟨Nat.le_of_ble_eq_true rfl, Nat.le_of_ble_eq_true rfl⟩ [1] [0, 2, 3] rfl rfl (by decide) (by decide) (by decide) 0 rfl rfl (fun u H locs w_3 hP hD hS => ?_)
  have hP : va_P D classes [(h0, .inr (9, [v0, v1, .ref h2, .ref h3, v2, .ref h1, v3, v4, .int 0])), (h1, .inr (6, [v5, v6, v7, v8, v9, .int 0, .int 0, .int 0, v10, v11])), (h2, .inr (2, [v12, v13, v14, v15, v16, v17, v18, v19, v20, .int 0, .int 0])), (h3, .inr (3, [v21, v22, v23, .int 0, .int 0]))] H := hP
  have hD : va_D A [(h0, .inr (9, [v0, v1, .ref h2, .ref h3, v2, .ref h1, v3, v4, .int 0])), (h1, .inr (6, [v5, v6, v7, v8, v9, .int 0, .int 0, .int 0, v10, v11])), (h2, .inr (2, [v12, v13, v14, v15, v16, v17, v18, v19, v20, .int 0, .int 0])), (h3, .inr (3, [v21, v22, v23, .int 0, .int 0]))] := hD
  exact krv X hr hlocks hS () trivial (hP.sub [0, 1, 2, 3] rfl) (hD.sub [0, 1, 2, 3] (by decide) rfl) d_Lt_forget_26
set_option maxHeartbeats 4000000 in
set_option maxRecDepth 100000 in
theorem c36_So_countAll (l : Launch) (D : va_G) (aI aJ aZ : ClassId) (sz : Nat) (h0 : Nat) (v0 : Value) (v1 : Value) (v2 : Value) (v3 : Value) : Met l y_So_countAll (kq y_So_countAll prog_10_method_13_code 2 (some .int)) { frames := 0, cells := 0, slots := 0, locals := 0 } (va_Pc [.ref h0] (kPre D (kT aI aJ aZ) [(h0, .inr (0, [v0, v1, v2, v3, .int 0]))] sz)) (va_Qi (fun (r : Int32) (_ : Unit) => r = 0) (fun u => kB D (va_A [(h0, .inr (0, [v0, v1, v2, v3, .int 0]))] sz) ((fun (_ : Unit) => ([(h0, .inr (0, [v0, v1, v2, v3, .int 0]))] : va_W)) u)) (va_A [(h0, .inr (0, [v0, v1, v2, v3, .int 0]))] sz)) 0 0 (va_A [(h0, .inr (0, [v0, v1, v2, v3, .int 0]))] sz) := by
  refine kMet (y := y_So_countAll) (bytes := prog_10_method_13_code) (maxL := 2) (ret := (some .int)) (av := [.ref h0]) (ws := [(h0, .inr (0, [v0, v1, v2, v3, .int 0]))]) (Qc := fun A => va_Qi (fun (r : Int32) (_ : Unit) => r = 0) (fun u => kB D A ((fun (_ : Unit) => ([(h0, .inr (0, [v0, v1, v2, v3, .int 0]))] : va_W)) u)) A) "LayoutTokens$Source" "countAll" (by decide) rfl rfl (Nat.le_of_ble_eq_true rfl) ?_
  intro p e s m below meth c A ls X hr hlocks hin hA hP hD hl
  have hx := X.1.1
  have hb := X.1.2.1
  have hown := X.1.2.2.2.1
  have hk := X.1.2.2.2.2
  have hS : va_S A s.heap s.heap [] := va_S.rf
  have hl : lv_has ls 2 [(0, .ref h0)] := hl
  refine lv_iconst (v := 0) hx hb d_So_countAll_0 (by decide) ?_
  refine lv_istore_n (lv' := [(1, .int 0), (0, .ref h0)]) hx hb d_So_countAll_1 rfl hl (by decide) rfl (fun ls hl => ?_)
  refine lv_iload_n hx hb d_So_countAll_2 rfl (lv_at hl 0 rfl) ?_
  refine lv_aload_n hx hb d_So_countAll_3 rfl (lv_at hl 1 rfl) ?_
  refine kget X hP 0 rfl rfl i_So 4 (by decide) t_131 rfl (v := .int 0) rfl d_So_countAll_4 ?_
  refine lv_icmp_ge (tgt := 35) hx hb d_So_countAll_7 (by decide) (fun c_1 => ?_) (fun c_1 => absurd (by decide) c_1)
  refine lv_aload_n hx hb d_So_countAll_35 rfl (lv_at hl 1 rfl) ?_
  refine kget X hP 0 rfl rfl i_So 4 (by decide) t_131 rfl (v := .int 0) rfl d_So_countAll_36 ?_
  exact kri X hr hlocks hS () rfl (hP.sub [0] rfl) (hD.sub [0] (by decide) rfl) d_So_countAll_39
set_option maxHeartbeats 4000000 in
set_option maxRecDepth 100000 in
theorem c37_Re_readAll (l : Launch) (D : va_G) (aI aJ aZ : ClassId) (sz : Nat) (h0 : Nat) (h1 : Nat) (v0 : Value) (v1 : Value) (v2 : Value) (v3 : Value) (v4 : Value) (v5 : Value) (v6 : Value) : Met l y_Re_readAll (kq y_Re_readAll prog_9_method_2_code 3 (some .int)) { frames := 1, cells := 0, slots := 0, locals := 20 } (va_Pc [.ref h0] (kPre D (kT aI aJ aZ) [(h0, .inr (5, [.ref h1, v0, v1, v2])), (h1, .inr (0, [v3, v4, v5, v6, .int 0]))] sz)) (va_Qi (fun (r : Int32) (_ : Unit) => r = 0) (fun u => kB D (va_A [(h0, .inr (5, [.ref h1, v0, v1, v2])), (h1, .inr (0, [v3, v4, v5, v6, .int 0]))] sz) ((fun (_ : Unit) => ([(h0, .inr (5, [.ref h1, v0, v1, v2])), (h1, .inr (0, [v3, v4, v5, v6, .int 0]))] : va_W)) u)) (va_A [(h0, .inr (5, [.ref h1, v0, v1, v2])), (h1, .inr (0, [v3, v4, v5, v6, .int 0]))] sz)) 0 0 (va_A [(h0, .inr (5, [.ref h1, v0, v1, v2])), (h1, .inr (0, [v3, v4, v5, v6, .int 0]))] sz) := by
  refine kMet (y := y_Re_readAll) (bytes := prog_9_method_2_code) (maxL := 3) (ret := (some .int)) (av := [.ref h0]) (ws := [(h0, .inr (5, [.ref h1, v0, v1, v2])), (h1, .inr (0, [v3, v4, v5, v6, .int 0]))]) (Qc := fun A => va_Qi (fun (r : Int32) (_ : Unit) => r = 0) (fun u => kB D A ((fun (_ : Unit) => ([(h0, .inr (5, [.ref h1, v0, v1, v2])), (h1, .inr (0, [v3, v4, v5, v6, .int 0]))] : va_W)) u)) A) "LayoutTokens$Reader" "readAll" (by decide) rfl rfl (Nat.le_of_ble_eq_true rfl) ?_
  intro p e s m below meth c A ls X hr hlocks hin hA hP hD hl
  have hx := X.1.1
  have hb := X.1.2.1
  have hown := X.1.2.2.2.1
  have hk := X.1.2.2.2.2
  have hS : va_S A s.heap s.heap [] := va_S.rf
  have hl : lv_has ls 3 [(0, .ref h0)] := hl
  refine lv_iconst (v := 0) hx hb d_Re_readAll_0 (by decide) ?_
  refine lv_istore_n (lv' := [(1, .int 0), (0, .ref h0)]) hx hb d_Re_readAll_1 rfl hl (by decide) rfl (fun ls hl => ?_)
  refine lv_iconst (v := 0) hx hb d_Re_readAll_2 (by decide) ?_
  refine lv_istore_n (lv' := [(2, .int 0), (1, .int 0), (0, .ref h0)]) hx hb d_Re_readAll_3 rfl hl (by decide) rfl (fun ls hl => ?_)
  refine lv_iload_n hx hb d_Re_readAll_4 rfl (lv_at hl 0 rfl) ?_
  refine lv_sipush (v := 600) hx hb d_Re_readAll_5 (by decide) ?_
  refine lv_icmp_ge (tgt := 38) hx hb d_Re_readAll_8 (by decide) (fun c_1 => absurd c_1 (by decide)) (fun c_1 => ?_)
  refine lv_iload_n hx hb d_Re_readAll_11 rfl (lv_at hl 1 rfl) ?_
  refine lv_if_lt (tgt := 38) hx hb d_Re_readAll_12 (by decide) (fun c_2 => absurd c_2 (by decide)) (fun c_2 => ?_)
  refine lv_iload_n hx hb d_Re_readAll_15 rfl (lv_at hl 1 rfl) ?_
  refine lv_aload_n hx hb d_Re_readAll_16 rfl (lv_at hl 2 rfl) ?_
  refine kget X hP 0 rfl rfl i_Re 0 (by decide) t_236 rfl (v := .ref h1) rfl d_Re_readAll_17 ?_
  refine kVi (n := 0) (As := []) (rest := [.int 0]) (wr := [(h0, .inr (5, [.ref h1, v0, v1, v2]))]) X hP hD hS hA (c11_So_size l D aI aJ aZ _ (h1) (v3) (v4) (v5) (v6)) (kV_good t_393 t_472 t_391 t_392 t_98) rfl rfl (by decide +kernel) ⟨Nat.le_of_ble_eq_true rfl, Nat.le_of_ble_eq_true rfl⟩ hl.1 rfl rfl (Nat.le_of_ble_eq_true rfl) d_Re_readAll_20 ⟨Nat.le_of_ble_eq_true rfl, Nat.le_of_ble_eq_true rfl⟩ [1] [0] rfl rfl (by decide) (by decide) (by decide) 0 rfl rfl (fun r_4 u H locs w_3 hP hD hS => ?_)
  have hP : va_P D classes [(h0, .inr (5, [.ref h1, v0, v1, v2])), (h1, .inr (0, [v3, v4, v5, v6, .int 0]))] H := hP
  have hD : va_D A [(h0, .inr (5, [.ref h1, v0, v1, v2])), (h1, .inr (0, [v3, v4, v5, v6, .int 0]))] := hD
  obtain rfl : r_4 = 0 := w_3
  refine lv_icmp_ge (tgt := 38) hx hb d_Re_readAll_23 (by decide) (fun c_5 => ?_) (fun c_5 => absurd (by decide) c_5)
  refine lv_iload_n hx hb d_Re_readAll_38 rfl (lv_at hl 1 rfl) ?_
  exact kri X hr hlocks hS () rfl (hP.sub [0, 1] rfl) (hD.sub [0, 1] (by decide) rfl) d_Re_readAll_39
set_option maxHeartbeats 4000000 in
set_option maxRecDepth 100000 in
theorem c38_Le_count (l : Launch) (D : va_G) (aI aJ aZ : ClassId) (sz : Nat) (h0 : Nat) (v0 : Value) (v1 : Value) (v2 : Value) (v3 : Value) (v4 : Value) (v5 : Value) (v6 : Value) (v7 : Value) (v8 : Value) (v9 : Value) : Met l y_Le_count (kq y_Le_count prog_5_method_3_code 1 (some .int)) { frames := 0, cells := 0, slots := 0, locals := 0 } (va_Pc [.ref h0] (kPre D (kT aI aJ aZ) [(h0, .inr (2, [v0, v1, v2, v3, v4, v5, v6, v7, v8, .int 0, v9]))] sz)) (va_Qi (fun (r : Int32) (_ : Unit) => r = 0) (fun u => kB D (va_A [(h0, .inr (2, [v0, v1, v2, v3, v4, v5, v6, v7, v8, .int 0, v9]))] sz) ((fun (_ : Unit) => ([(h0, .inr (2, [v0, v1, v2, v3, v4, v5, v6, v7, v8, .int 0, v9]))] : va_W)) u)) (va_A [(h0, .inr (2, [v0, v1, v2, v3, v4, v5, v6, v7, v8, .int 0, v9]))] sz)) 0 0 (va_A [(h0, .inr (2, [v0, v1, v2, v3, v4, v5, v6, v7, v8, .int 0, v9]))] sz) := by
  refine kMet (y := y_Le_count) (bytes := prog_5_method_3_code) (maxL := 1) (ret := (some .int)) (av := [.ref h0]) (ws := [(h0, .inr (2, [v0, v1, v2, v3, v4, v5, v6, v7, v8, .int 0, v9]))]) (Qc := fun A => va_Qi (fun (r : Int32) (_ : Unit) => r = 0) (fun u => kB D A ((fun (_ : Unit) => ([(h0, .inr (2, [v0, v1, v2, v3, v4, v5, v6, v7, v8, .int 0, v9]))] : va_W)) u)) A) "LayoutTokens$Lexemes" "count" (by decide) rfl rfl (Nat.le_of_ble_eq_true rfl) ?_
  intro p e s m below meth c A ls X hr hlocks hin hA hP hD hl
  have hx := X.1.1
  have hb := X.1.2.1
  have hown := X.1.2.2.2.1
  have hk := X.1.2.2.2.2
  have hS : va_S A s.heap s.heap [] := va_S.rf
  have hl : lv_has ls 1 [(0, .ref h0)] := hl
  refine lv_aload_n hx hb d_Le_count_0 rfl (lv_at hl 0 rfl) ?_
  refine kget X hP 0 rfl rfl i_Le 9 (by decide) t_169 rfl (v := .int 0) rfl d_Le_count_1 ?_
  exact kri X hr hlocks hS () rfl (hP.sub [0] rfl) (hD.sub [0] (by decide) rfl) d_Le_count_4
set_option maxHeartbeats 4000000 in
set_option maxRecDepth 100000 in
theorem c39_So_lastLine (l : Launch) (D : va_G) (aI aJ aZ : ClassId) (sz : Nat) (h0 : Nat) (v0 : Value) (v1 : Value) (v2 : Value) (v3 : Value) : Met l y_So_lastLine (kq y_So_lastLine prog_10_method_10_code 1 (some .int)) { frames := 0, cells := 0, slots := 0, locals := 0 } (va_Pc [.ref h0] (kPre D (kT aI aJ aZ) [(h0, .inr (0, [v0, v1, v2, v3, .int 0]))] sz)) (va_Qi (fun (r : Int32) (_ : Unit) => r = 1) (fun u => kB D (va_A [(h0, .inr (0, [v0, v1, v2, v3, .int 0]))] sz) ((fun (_ : Unit) => ([(h0, .inr (0, [v0, v1, v2, v3, .int 0]))] : va_W)) u)) (va_A [(h0, .inr (0, [v0, v1, v2, v3, .int 0]))] sz)) 0 0 (va_A [(h0, .inr (0, [v0, v1, v2, v3, .int 0]))] sz) := by
  refine kMet (y := y_So_lastLine) (bytes := prog_10_method_10_code) (maxL := 1) (ret := (some .int)) (av := [.ref h0]) (ws := [(h0, .inr (0, [v0, v1, v2, v3, .int 0]))]) (Qc := fun A => va_Qi (fun (r : Int32) (_ : Unit) => r = 1) (fun u => kB D A ((fun (_ : Unit) => ([(h0, .inr (0, [v0, v1, v2, v3, .int 0]))] : va_W)) u)) A) "LayoutTokens$Source" "lastLine" (by decide) rfl rfl (Nat.le_of_ble_eq_true rfl) ?_
  intro p e s m below meth c A ls X hr hlocks hin hA hP hD hl
  have hx := X.1.1
  have hb := X.1.2.1
  have hown := X.1.2.2.2.1
  have hk := X.1.2.2.2.2
  have hS : va_S A s.heap s.heap [] := va_S.rf
  have hl : lv_has ls 1 [(0, .ref h0)] := hl
  refine lv_aload_n hx hb d_So_lastLine_0 rfl (lv_at hl 0 rfl) ?_
  refine kget X hP 0 rfl rfl i_So 4 (by decide) t_131 rfl (v := .int 0) rfl d_So_lastLine_1 ?_
  refine lv_if_le (tgt := 20) hx hb d_So_lastLine_4 (by decide) (fun c_1 => ?_) (fun c_1 => absurd (by decide) c_1)
  refine lv_iconst (v := 1) hx hb d_So_lastLine_20 (by decide) ?_
  exact kri X hr hlocks hS () rfl (hP.sub [0] rfl) (hD.sub [0] (by decide) rfl) d_So_lastLine_21
set_option maxHeartbeats 4000000 in
set_option maxRecDepth 100000 in
theorem c40_La_keepEnd (l : Launch) (D : va_G) (aI aJ aZ : ClassId) (sz : Nat) (h0 : Nat) (h1 : Nat) (v0 : Value) (v1 : Value) (v2 : Value) (v3 : Value) (v4 : Value) (v5 : Value) (v6 : Value) (v7 : Value) (v8 : Value) (v9 : Value) (v10 : Value) : Met l y_La_keepEnd (kq y_La_keepEnd prog_3_method_3_code 1 none) { frames := 1, cells := 0, slots := 0, locals := 20 } (va_Pc [.ref h0] (kPre D (kT aI aJ aZ) [(h0, .inr (6, [.ref h1, v0, v1, v2, v3, v4, v5, v6, .int (-1), .int (-1)])), (h1, .inr (0, [v7, v8, v9, v10, .int 0]))] sz)) (va_Qv (fun (_ : Unit) => True) (fun u => kB D (va_A [(h0, .inr (6, [.ref h1, v0, v1, v2, v3, v4, v5, v6, .int (-1), .int (-1)])), (h1, .inr (0, [v7, v8, v9, v10, .int 0]))] sz) ((fun (_ : Unit) => ([(h0, .inr (6, [.ref h1, v0, v1, v2, v3, v4, v5, v6, .int 0, .int 1])), (h1, .inr (0, [v7, v8, v9, v10, .int 0]))] : va_W)) u)) (va_A [(h0, .inr (6, [.ref h1, v0, v1, v2, v3, v4, v5, v6, .int (-1), .int (-1)])), (h1, .inr (0, [v7, v8, v9, v10, .int 0]))] sz)) 0 0 (va_A [(h0, .inr (6, [.ref h1, v0, v1, v2, v3, v4, v5, v6, .int (-1), .int (-1)])), (h1, .inr (0, [v7, v8, v9, v10, .int 0]))] sz) := by
  refine kMet (y := y_La_keepEnd) (bytes := prog_3_method_3_code) (maxL := 1) (ret := none) (av := [.ref h0]) (ws := [(h0, .inr (6, [.ref h1, v0, v1, v2, v3, v4, v5, v6, .int (-1), .int (-1)])), (h1, .inr (0, [v7, v8, v9, v10, .int 0]))]) (Qc := fun A => va_Qv (fun (_ : Unit) => True) (fun u => kB D A ((fun (_ : Unit) => ([(h0, .inr (6, [.ref h1, v0, v1, v2, v3, v4, v5, v6, .int 0, .int 1])), (h1, .inr (0, [v7, v8, v9, v10, .int 0]))] : va_W)) u)) A) "LayoutTokens$Laid" "keepEnd" (by decide) rfl rfl (Nat.le_of_ble_eq_true rfl) ?_
  intro p e s m below meth c A ls X hr hlocks hin hA hP hD hl
  have hx := X.1.1
  have hb := X.1.2.1
  have hown := X.1.2.2.2.1
  have hk := X.1.2.2.2.2
  have hS : va_S A s.heap s.heap [] := va_S.rf
  have hl : lv_has ls 1 [(0, .ref h0)] := hl
  refine lv_aload_n hx hb d_La_keepEnd_0 rfl (lv_at hl 0 rfl) ?_
  refine lv_aload_n hx hb d_La_keepEnd_1 rfl (lv_at hl 0 rfl) ?_
  refine kget X hP 0 rfl rfl i_La 0 (by decide) t_255 rfl (v := .ref h1) rfl d_La_keepEnd_2 ?_
  refine kVi (n := 0) (As := []) (rest := [.ref h0]) (wr := [(h0, .inr (6, [.ref h1, v0, v1, v2, v3, v4, v5, v6, .int (-1), .int (-1)]))]) X hP hD hS hA (c11_So_size l D aI aJ aZ _ (h1) (v7) (v8) (v9) (v10)) (kV_good t_393 t_811 t_391 t_392 t_98) rfl rfl (by decide +kernel) ⟨Nat.le_of_ble_eq_true rfl, Nat.le_of_ble_eq_true rfl⟩ hl.1 rfl rfl (Nat.le_of_ble_eq_true rfl) d_La_keepEnd_5 ⟨Nat.le_of_ble_eq_true rfl, Nat.le_of_ble_eq_true rfl⟩ [1] [0] rfl rfl (by decide) (by decide) (by decide) 0 rfl rfl (fun r_2 u H locs w_1 hP hD hS => ?_)
  have hP : va_P D classes [(h0, .inr (6, [.ref h1, v0, v1, v2, v3, v4, v5, v6, .int (-1), .int (-1)])), (h1, .inr (0, [v7, v8, v9, v10, .int 0]))] H := hP
  have hD : va_D A [(h0, .inr (6, [.ref h1, v0, v1, v2, v3, v4, v5, v6, .int (-1), .int (-1)])), (h1, .inr (0, [v7, v8, v9, v10, .int 0]))] := hD
  obtain rfl : r_2 = 0 := w_1
  refine kput X hP hD hS 0 rfl rfl i_La ty_La ty_La_ok nm_La 8 (by decide) t_263 rfl (v := .int 0) rfl rfl (Nat.le_of_ble_eq_true rfl) d_La_keepEnd_8 (fun H locs hP hD hS => ?_)
  have hP : va_P D classes [(h0, .inr (6, [.ref h1, v0, v1, v2, v3, v4, v5, v6, .int 0, .int (-1)])), (h1, .inr (0, [v7, v8, v9, v10, .int 0]))] H := hP
  have hD : va_D A [(h0, .inr (6, [.ref h1, v0, v1, v2, v3, v4, v5, v6, .int 0, .int (-1)])), (h1, .inr (0, [v7, v8, v9, v10, .int 0]))] := hD
  refine lv_aload_n hx hb d_La_keepEnd_11 rfl (lv_at hl 0 rfl) ?_
  refine lv_aload_n hx hb d_La_keepEnd_12 rfl (lv_at hl 0 rfl) ?_
  refine kget X hP 0 rfl rfl i_La 0 (by decide) t_255 rfl (v := .ref h1) rfl d_La_keepEnd_13 ?_
  refine kVi (n := 0) (As := []) (rest := [.ref h0]) (wr := [(h0, .inr (6, [.ref h1, v0, v1, v2, v3, v4, v5, v6, .int 0, .int (-1)]))]) X hP hD hS hA (c39_So_lastLine l D aI aJ aZ _ (h1) (v7) (v8) (v9) (v10)) (kV_good t_815 t_812 t_813 t_814 t_98) rfl rfl (by decide +kernel) ⟨Nat.le_of_ble_eq_true rfl, Nat.le_of_ble_eq_true rfl⟩ hl.1 rfl rfl (Nat.le_of_ble_eq_true rfl) d_La_keepEnd_16 ⟨Nat.le_of_ble_eq_true rfl, Nat.le_of_ble_eq_true rfl⟩ [1] [0] rfl rfl (by decide) (by decide) (by decide) 0 rfl rfl (fun r_4 u H locs w_3 hP hD hS => ?_)
  have hP : va_P D classes [(h0, .inr (6, [.ref h1, v0, v1, v2, v3, v4, v5, v6, .int 0, .int (-1)])), (h1, .inr (0, [v7, v8, v9, v10, .int 0]))] H := hP
  have hD : va_D A [(h0, .inr (6, [.ref h1, v0, v1, v2, v3, v4, v5, v6, .int 0, .int (-1)])), (h1, .inr (0, [v7, v8, v9, v10, .int 0]))] := hD
  obtain rfl : r_4 = 1 := w_3
  refine kput X hP hD hS 0 rfl rfl i_La ty_La ty_La_ok nm_La 9 (by decide) t_264 rfl (v := .int 1) rfl rfl (Nat.le_of_ble_eq_true rfl) d_La_keepEnd_19 (fun H locs hP hD hS => ?_)
  have hP : va_P D classes [(h0, .inr (6, [.ref h1, v0, v1, v2, v3, v4, v5, v6, .int 0, .int 1])), (h1, .inr (0, [v7, v8, v9, v10, .int 0]))] H := hP
  have hD : va_D A [(h0, .inr (6, [.ref h1, v0, v1, v2, v3, v4, v5, v6, .int 0, .int 1])), (h1, .inr (0, [v7, v8, v9, v10, .int 0]))] := hD
  exact krv X hr hlocks hS () trivial (hP.sub [0, 1] rfl) (hD.sub [0, 1] (by decide) rfl) d_La_keepEnd_22
set_option maxHeartbeats 4000000 in
set_option maxRecDepth 100000 in
theorem c41_La_add (l : Launch) (D : va_G) (aI aJ aZ : ClassId) (sz : Nat) (h0 : Nat) (h1 : Nat) (h2 : Nat) (h3 : Nat) (h4 : Nat) (v0 : Value) (v1 : Value) (v2 : Value) (g3 : Nat → Int32) (g4 : Nat → Int32) (g5 : Nat → Int32) (g6 : Nat → Int32) : Met l y_La_add (kq y_La_add prog_3_method_4_code 5 (some .boolean)) { frames := 0, cells := 0, slots := 0, locals := 0 } (va_Pc [.ref h0, .int (-1), .int 14, .int 0, .int 0] (kPre D (kT aI aJ aZ) [(h0, .inr (6, [v0, .ref h1, .ref h2, .ref h3, .ref h4, .int 0, .int 0, .int 0, v1, v2])), (h1, .inl (aI, 500, .inl g3)), (h2, .inl (aI, 500, .inl g4)), (h3, .inl (aI, 500, .inl g5)), (h4, .inl (aZ, 500, .inl g6))] sz)) (va_Qi (fun (r : Int32) (_ : (Nat → Int32) × (Nat → Int32) × (Nat → Int32) × (Nat → Int32)) => r = 1) (fun u => kB D (va_A [(h0, .inr (6, [v0, .ref h1, .ref h2, .ref h3, .ref h4, .int 0, .int 0, .int 0, v1, v2])), (h1, .inl (aI, 500, .inl g3)), (h2, .inl (aI, 500, .inl g4)), (h3, .inl (aI, 500, .inl g5)), (h4, .inl (aZ, 500, .inl g6))] sz) ((fun (u : (Nat → Int32) × (Nat → Int32) × (Nat → Int32) × (Nat → Int32)) => ([(h0, .inr (6, [v0, .ref h1, .ref h2, .ref h3, .ref h4, .int 1, .int 1, .int 0, v1, v2])), (h1, .inl (aI, 500, .inl u.1)), (h2, .inl (aI, 500, .inl u.2.1)), (h3, .inl (aI, 500, .inl u.2.2.1)), (h4, .inl (aZ, 500, .inl u.2.2.2))] : va_W)) u)) (va_A [(h0, .inr (6, [v0, .ref h1, .ref h2, .ref h3, .ref h4, .int 0, .int 0, .int 0, v1, v2])), (h1, .inl (aI, 500, .inl g3)), (h2, .inl (aI, 500, .inl g4)), (h3, .inl (aI, 500, .inl g5)), (h4, .inl (aZ, 500, .inl g6))] sz)) 0 0 (va_A [(h0, .inr (6, [v0, .ref h1, .ref h2, .ref h3, .ref h4, .int 0, .int 0, .int 0, v1, v2])), (h1, .inl (aI, 500, .inl g3)), (h2, .inl (aI, 500, .inl g4)), (h3, .inl (aI, 500, .inl g5)), (h4, .inl (aZ, 500, .inl g6))] sz) := by
  refine kMet (y := y_La_add) (bytes := prog_3_method_4_code) (maxL := 5) (ret := (some .boolean)) (av := [.ref h0, .int (-1), .int 14, .int 0, .int 0]) (ws := [(h0, .inr (6, [v0, .ref h1, .ref h2, .ref h3, .ref h4, .int 0, .int 0, .int 0, v1, v2])), (h1, .inl (aI, 500, .inl g3)), (h2, .inl (aI, 500, .inl g4)), (h3, .inl (aI, 500, .inl g5)), (h4, .inl (aZ, 500, .inl g6))]) (Qc := fun A => va_Qi (fun (r : Int32) (_ : (Nat → Int32) × (Nat → Int32) × (Nat → Int32) × (Nat → Int32)) => r = 1) (fun u => kB D A ((fun (u : (Nat → Int32) × (Nat → Int32) × (Nat → Int32) × (Nat → Int32)) => ([(h0, .inr (6, [v0, .ref h1, .ref h2, .ref h3, .ref h4, .int 1, .int 1, .int 0, v1, v2])), (h1, .inl (aI, 500, .inl u.1)), (h2, .inl (aI, 500, .inl u.2.1)), (h3, .inl (aI, 500, .inl u.2.2.1)), (h4, .inl (aZ, 500, .inl u.2.2.2))] : va_W)) u)) A) "LayoutTokens$Laid" "add" (by decide) rfl rfl (Nat.le_of_ble_eq_true rfl) ?_
  intro p e s m below meth c A ls X hr hlocks hin hA hP hD hl
  have hx := X.1.1
  have hb := X.1.2.1
  have hown := X.1.2.2.2.1
  have hk := X.1.2.2.2.2
  have hS : va_S A s.heap s.heap [] := va_S.rf
  have hl : lv_has ls 5 [(0, .ref h0), (1, .int (-1)), (2, .int 14), (3, .int 0), (4, .int 0)] := hl
  refine lv_aload_n hx hb d_La_add_0 rfl (lv_at hl 0 rfl) ?_
  refine kget X hP 0 rfl rfl i_La 5 (by decide) t_260 rfl (v := .int 0) rfl d_La_add_1 ?_
  refine lv_if_lt (tgt := 17) hx hb d_La_add_4 (by decide) (fun c_1 => absurd c_1 (by decide)) (fun c_1 => ?_)
  refine lv_aload_n hx hb d_La_add_7 rfl (lv_at hl 0 rfl) ?_
  refine kget X hP 0 rfl rfl i_La 5 (by decide) t_260 rfl (v := .int 0) rfl d_La_add_8 ?_
  refine lv_sipush (v := 500) hx hb d_La_add_11 (by decide) ?_
  refine lv_icmp_lt (tgt := 19) hx hb d_La_add_14 (by decide) (fun c_2 => ?_) (fun c_2 => absurd (by decide) c_2)
  refine lv_aload_n hx hb d_La_add_19 rfl (lv_at hl 0 rfl) ?_
  refine kget X hP 0 rfl rfl i_La 1 (by decide) t_256 rfl (v := .ref h1) rfl d_La_add_20 ?_
  refine lv_aload_n hx hb d_La_add_23 rfl (lv_at hl 0 rfl) ?_
  refine kget X hP 0 rfl rfl i_La 5 (by decide) t_260 rfl (v := .int 0) rfl d_La_add_24 ?_
  refine lv_iload_n hx hb d_La_add_27 rfl (lv_at hl 1 rfl) ?_
  refine kiast X hP hD hS 1 0 rfl rfl (by unfold vp_in; decide) d_La_add_28 (fun f_3 H locs hP hD hS => ?_)
  have hP : va_P D classes [(h0, .inr (6, [v0, .ref h1, .ref h2, .ref h3, .ref h4, .int 0, .int 0, .int 0, v1, v2])), (h1, .inl (aI, 500, .inl f_3)), (h2, .inl (aI, 500, .inl g4)), (h3, .inl (aI, 500, .inl g5)), (h4, .inl (aZ, 500, .inl g6))] H := hP
  have hD : va_D A [(h0, .inr (6, [v0, .ref h1, .ref h2, .ref h3, .ref h4, .int 0, .int 0, .int 0, v1, v2])), (h1, .inl (aI, 500, .inl f_3)), (h2, .inl (aI, 500, .inl g4)), (h3, .inl (aI, 500, .inl g5)), (h4, .inl (aZ, 500, .inl g6))] := hD
  refine lv_aload_n hx hb d_La_add_29 rfl (lv_at hl 0 rfl) ?_
  refine kget X hP 0 rfl rfl i_La 2 (by decide) t_257 rfl (v := .ref h2) rfl d_La_add_30 ?_
  refine lv_aload_n hx hb d_La_add_33 rfl (lv_at hl 0 rfl) ?_
  refine kget X hP 0 rfl rfl i_La 5 (by decide) t_260 rfl (v := .int 0) rfl d_La_add_34 ?_
  refine lv_iload_n hx hb d_La_add_37 rfl (lv_at hl 2 rfl) ?_
  refine kiast X hP hD hS 2 0 rfl rfl (by unfold vp_in; decide) d_La_add_38 (fun f_4 H locs hP hD hS => ?_)
  have hP : va_P D classes [(h0, .inr (6, [v0, .ref h1, .ref h2, .ref h3, .ref h4, .int 0, .int 0, .int 0, v1, v2])), (h1, .inl (aI, 500, .inl f_3)), (h2, .inl (aI, 500, .inl f_4)), (h3, .inl (aI, 500, .inl g5)), (h4, .inl (aZ, 500, .inl g6))] H := hP
  have hD : va_D A [(h0, .inr (6, [v0, .ref h1, .ref h2, .ref h3, .ref h4, .int 0, .int 0, .int 0, v1, v2])), (h1, .inl (aI, 500, .inl f_3)), (h2, .inl (aI, 500, .inl f_4)), (h3, .inl (aI, 500, .inl g5)), (h4, .inl (aZ, 500, .inl g6))] := hD
  refine lv_aload_n hx hb d_La_add_39 rfl (lv_at hl 0 rfl) ?_
  refine kget X hP 0 rfl rfl i_La 3 (by decide) t_258 rfl (v := .ref h3) rfl d_La_add_40 ?_
  refine lv_aload_n hx hb d_La_add_43 rfl (lv_at hl 0 rfl) ?_
  refine kget X hP 0 rfl rfl i_La 5 (by decide) t_260 rfl (v := .int 0) rfl d_La_add_44 ?_
  refine lv_iload_n hx hb d_La_add_47 rfl (lv_at hl 3 rfl) ?_
  refine kiast X hP hD hS 3 0 rfl rfl (by unfold vp_in; decide) d_La_add_48 (fun f_5 H locs hP hD hS => ?_)
  have hP : va_P D classes [(h0, .inr (6, [v0, .ref h1, .ref h2, .ref h3, .ref h4, .int 0, .int 0, .int 0, v1, v2])), (h1, .inl (aI, 500, .inl f_3)), (h2, .inl (aI, 500, .inl f_4)), (h3, .inl (aI, 500, .inl f_5)), (h4, .inl (aZ, 500, .inl g6))] H := hP
  have hD : va_D A [(h0, .inr (6, [v0, .ref h1, .ref h2, .ref h3, .ref h4, .int 0, .int 0, .int 0, v1, v2])), (h1, .inl (aI, 500, .inl f_3)), (h2, .inl (aI, 500, .inl f_4)), (h3, .inl (aI, 500, .inl f_5)), (h4, .inl (aZ, 500, .inl g6))] := hD
  refine lv_aload_n hx hb d_La_add_49 rfl (lv_at hl 0 rfl) ?_
  refine kget X hP 0 rfl rfl i_La 4 (by decide) t_259 rfl (v := .ref h4) rfl d_La_add_50 ?_
  refine lv_aload_n hx hb d_La_add_53 rfl (lv_at hl 0 rfl) ?_
  refine kget X hP 0 rfl rfl i_La 5 (by decide) t_260 rfl (v := .int 0) rfl d_La_add_54 ?_
  refine lv_iload hx hb d_La_add_57 (lv_at hl 4 rfl) ?_
  refine kzast X hP hD hS 4 2 rfl rfl (by unfold vp_in; decide) d_La_add_59 (fun f_6 H locs hP hD hS => ?_)
  have hP : va_P D classes [(h0, .inr (6, [v0, .ref h1, .ref h2, .ref h3, .ref h4, .int 0, .int 0, .int 0, v1, v2])), (h1, .inl (aI, 500, .inl f_3)), (h2, .inl (aI, 500, .inl f_4)), (h3, .inl (aI, 500, .inl f_5)), (h4, .inl (aZ, 500, .inl f_6))] H := hP
  have hD : va_D A [(h0, .inr (6, [v0, .ref h1, .ref h2, .ref h3, .ref h4, .int 0, .int 0, .int 0, v1, v2])), (h1, .inl (aI, 500, .inl f_3)), (h2, .inl (aI, 500, .inl f_4)), (h3, .inl (aI, 500, .inl f_5)), (h4, .inl (aZ, 500, .inl f_6))] := hD
  refine lv_aload_n hx hb d_La_add_60 rfl (lv_at hl 0 rfl) ?_
  refine lv_dup hx hb d_La_add_61 rfl ?_
  refine kget X hP 0 rfl rfl i_La 5 (by decide) t_260 rfl (v := .int 0) rfl d_La_add_62 ?_
  refine lv_iconst (v := 1) hx hb d_La_add_65 (by decide) ?_
  refine lv_iadd hx hb d_La_add_66 ?_
  refine lv_topi (fun z_7 ez_7 => ?_)
  obtain rfl : z_7 = 1 := ez_7.trans (by decide)
  refine kput X hP hD hS 0 rfl rfl i_La ty_La ty_La_ok nm_La 5 (by decide) t_260 rfl (v := .int 1) rfl rfl (Nat.le_of_ble_eq_true rfl) d_La_add_67 (fun H locs hP hD hS => ?_)
  have hP : va_P D classes [(h0, .inr (6, [v0, .ref h1, .ref h2, .ref h3, .ref h4, .int 1, .int 0, .int 0, v1, v2])), (h1, .inl (aI, 500, .inl f_3)), (h2, .inl (aI, 500, .inl f_4)), (h3, .inl (aI, 500, .inl f_5)), (h4, .inl (aZ, 500, .inl f_6))] H := hP
  have hD : va_D A [(h0, .inr (6, [v0, .ref h1, .ref h2, .ref h3, .ref h4, .int 1, .int 0, .int 0, v1, v2])), (h1, .inl (aI, 500, .inl f_3)), (h2, .inl (aI, 500, .inl f_4)), (h3, .inl (aI, 500, .inl f_5)), (h4, .inl (aZ, 500, .inl f_6))] := hD
  refine lv_aload_n hx hb d_La_add_70 rfl (lv_at hl 0 rfl) ?_
  refine lv_dup hx hb d_La_add_71 rfl ?_
  refine kget X hP 0 rfl rfl i_La 6 (by decide) t_261 rfl (v := .int 0) rfl d_La_add_72 ?_
  refine lv_iload_n hx hb d_La_add_75 rfl (lv_at hl 1 rfl) ?_
  refine lv_iconst (v := (-1)) hx hb d_La_add_76 (by decide) ?_
  refine lv_icmp_ne (tgt := 84) hx hb d_La_add_77 (by decide) (fun c_8 => absurd (by decide) c_8) (fun c_8 => ?_)
  refine lv_iconst (v := 1) hx hb d_La_add_80 (by decide) ?_
  refine lv_goto (tgt := 85) hx hb d_La_add_81 (by decide) ?_
  refine lv_iadd hx hb d_La_add_85 ?_
  refine lv_topi (fun z_9 ez_9 => ?_)
  obtain rfl : z_9 = 1 := ez_9.trans (by decide)
  refine kput X hP hD hS 0 rfl rfl i_La ty_La ty_La_ok nm_La 6 (by decide) t_261 rfl (v := .int 1) rfl rfl (Nat.le_of_ble_eq_true rfl) d_La_add_86 (fun H locs hP hD hS => ?_)
  have hP : va_P D classes [(h0, .inr (6, [v0, .ref h1, .ref h2, .ref h3, .ref h4, .int 1, .int 1, .int 0, v1, v2])), (h1, .inl (aI, 500, .inl f_3)), (h2, .inl (aI, 500, .inl f_4)), (h3, .inl (aI, 500, .inl f_5)), (h4, .inl (aZ, 500, .inl f_6))] H := hP
  have hD : va_D A [(h0, .inr (6, [v0, .ref h1, .ref h2, .ref h3, .ref h4, .int 1, .int 1, .int 0, v1, v2])), (h1, .inl (aI, 500, .inl f_3)), (h2, .inl (aI, 500, .inl f_4)), (h3, .inl (aI, 500, .inl f_5)), (h4, .inl (aZ, 500, .inl f_6))] := hD
  refine lv_aload_n hx hb d_La_add_89 rfl (lv_at hl 0 rfl) ?_
  refine lv_dup hx hb d_La_add_90 rfl ?_
  refine kget X hP 0 rfl rfl i_La 7 (by decide) t_262 rfl (v := .int 0) rfl d_La_add_91 ?_
  refine lv_iload hx hb d_La_add_94 (lv_at hl 4 rfl) ?_
  refine lv_if_eq (tgt := 103) hx hb d_La_add_96 (by decide) (fun c_10 => ?_) (fun c_10 => absurd (by decide) c_10)
  refine lv_iconst (v := 0) hx hb d_La_add_103 (by decide) ?_
  refine lv_iadd hx hb d_La_add_104 ?_
  refine lv_topi (fun z_11 ez_11 => ?_)
  obtain rfl : z_11 = 0 := ez_11.trans (by decide)
  refine kput X hP hD hS 0 rfl rfl i_La ty_La ty_La_ok nm_La 7 (by decide) t_262 rfl (v := .int 0) rfl rfl (Nat.le_of_ble_eq_true rfl) d_La_add_105 (fun H locs hP hD hS => ?_)
  have hP : va_P D classes [(h0, .inr (6, [v0, .ref h1, .ref h2, .ref h3, .ref h4, .int 1, .int 1, .int 0, v1, v2])), (h1, .inl (aI, 500, .inl f_3)), (h2, .inl (aI, 500, .inl f_4)), (h3, .inl (aI, 500, .inl f_5)), (h4, .inl (aZ, 500, .inl f_6))] H := hP
  have hD : va_D A [(h0, .inr (6, [v0, .ref h1, .ref h2, .ref h3, .ref h4, .int 1, .int 1, .int 0, v1, v2])), (h1, .inl (aI, 500, .inl f_3)), (h2, .inl (aI, 500, .inl f_4)), (h3, .inl (aI, 500, .inl f_5)), (h4, .inl (aZ, 500, .inl f_6))] := hD
  refine lv_iconst (v := 1) hx hb d_La_add_108 (by decide) ?_
  exact krz X hr hlocks rfl hS (f_3, f_4, f_5, f_6) rfl (hP.sub [0, 1, 2, 3, 4] rfl) (hD.sub [0, 1, 2, 3, 4] (by decide) rfl) d_La_add_109
set_option maxHeartbeats 4000000 in
set_option maxRecDepth 100000 in
theorem c42_Ly_putIn (l : Launch) (D : va_G) (aI aJ aZ : ClassId) (sz : Nat) (h0 : Nat) (h1 : Nat) (h2 : Nat) (h3 : Nat) (h4 : Nat) (h5 : Nat) (v0 : Value) (v1 : Value) (v2 : Value) (v3 : Value) (v4 : Value) (v5 : Value) (v6 : Value) (v7 : Value) (v8 : Value) (v9 : Value) (v10 : Value) (v11 : Value) (v12 : Value) (g13 : Nat → Int32) (g14 : Nat → Int32) (g15 : Nat → Int32) (g16 : Nat → Int32) : Met l y_Ly_putIn (kq y_Ly_putIn prog_4_method_19_code 4 none) { frames := 1, cells := 0, slots := 0, locals := 24 } (va_Pc [.ref h0, .int 14, .int 0] (kPre D (kT aI aJ aZ) [(h0, .inr (7, [v0, v1, .ref h1, v2, v3, v4, v5, .int 0, v6, v7, v8, v9, .int 0])), (h1, .inr (6, [v10, .ref h2, .ref h3, .ref h4, .ref h5, .int 0, .int 0, .int 0, v11, v12])), (h2, .inl (aI, 500, .inl g13)), (h3, .inl (aI, 500, .inl g14)), (h4, .inl (aI, 500, .inl g15)), (h5, .inl (aZ, 500, .inl g16))] sz)) (va_Qv (fun (_ : (Nat → Int32) × (Nat → Int32) × (Nat → Int32) × (Nat → Int32)) => True) (fun u => kB D (va_A [(h0, .inr (7, [v0, v1, .ref h1, v2, v3, v4, v5, .int 0, v6, v7, v8, v9, .int 0])), (h1, .inr (6, [v10, .ref h2, .ref h3, .ref h4, .ref h5, .int 0, .int 0, .int 0, v11, v12])), (h2, .inl (aI, 500, .inl g13)), (h3, .inl (aI, 500, .inl g14)), (h4, .inl (aI, 500, .inl g15)), (h5, .inl (aZ, 500, .inl g16))] sz) ((fun (u : (Nat → Int32) × (Nat → Int32) × (Nat → Int32) × (Nat → Int32)) => ([(h0, .inr (7, [v0, v1, .ref h1, v2, v3, v4, v5, .int 0, v6, v7, v8, v9, .int 0])), (h1, .inr (6, [v10, .ref h2, .ref h3, .ref h4, .ref h5, .int 1, .int 1, .int 0, v11, v12])), (h2, .inl (aI, 500, .inl u.1)), (h3, .inl (aI, 500, .inl u.2.1)), (h4, .inl (aI, 500, .inl u.2.2.1)), (h5, .inl (aZ, 500, .inl u.2.2.2))] : va_W)) u)) (va_A [(h0, .inr (7, [v0, v1, .ref h1, v2, v3, v4, v5, .int 0, v6, v7, v8, v9, .int 0])), (h1, .inr (6, [v10, .ref h2, .ref h3, .ref h4, .ref h5, .int 0, .int 0, .int 0, v11, v12])), (h2, .inl (aI, 500, .inl g13)), (h3, .inl (aI, 500, .inl g14)), (h4, .inl (aI, 500, .inl g15)), (h5, .inl (aZ, 500, .inl g16))] sz)) 0 0 (va_A [(h0, .inr (7, [v0, v1, .ref h1, v2, v3, v4, v5, .int 0, v6, v7, v8, v9, .int 0])), (h1, .inr (6, [v10, .ref h2, .ref h3, .ref h4, .ref h5, .int 0, .int 0, .int 0, v11, v12])), (h2, .inl (aI, 500, .inl g13)), (h3, .inl (aI, 500, .inl g14)), (h4, .inl (aI, 500, .inl g15)), (h5, .inl (aZ, 500, .inl g16))] sz) := by
  refine kMet (y := y_Ly_putIn) (bytes := prog_4_method_19_code) (maxL := 4) (ret := none) (av := [.ref h0, .int 14, .int 0]) (ws := [(h0, .inr (7, [v0, v1, .ref h1, v2, v3, v4, v5, .int 0, v6, v7, v8, v9, .int 0])), (h1, .inr (6, [v10, .ref h2, .ref h3, .ref h4, .ref h5, .int 0, .int 0, .int 0, v11, v12])), (h2, .inl (aI, 500, .inl g13)), (h3, .inl (aI, 500, .inl g14)), (h4, .inl (aI, 500, .inl g15)), (h5, .inl (aZ, 500, .inl g16))]) (Qc := fun A => va_Qv (fun (_ : (Nat → Int32) × (Nat → Int32) × (Nat → Int32) × (Nat → Int32)) => True) (fun u => kB D A ((fun (u : (Nat → Int32) × (Nat → Int32) × (Nat → Int32) × (Nat → Int32)) => ([(h0, .inr (7, [v0, v1, .ref h1, v2, v3, v4, v5, .int 0, v6, v7, v8, v9, .int 0])), (h1, .inr (6, [v10, .ref h2, .ref h3, .ref h4, .ref h5, .int 1, .int 1, .int 0, v11, v12])), (h2, .inl (aI, 500, .inl u.1)), (h3, .inl (aI, 500, .inl u.2.1)), (h4, .inl (aI, 500, .inl u.2.2.1)), (h5, .inl (aZ, 500, .inl u.2.2.2))] : va_W)) u)) A) "LayoutTokens$Layout" "putIn" (by decide) rfl rfl (Nat.le_of_ble_eq_true rfl) ?_
  intro p e s m below meth c A ls X hr hlocks hin hA hP hD hl
  have hx := X.1.1
  have hb := X.1.2.1
  have hown := X.1.2.2.2.1
  have hk := X.1.2.2.2.2
  have hS : va_S A s.heap s.heap [] := va_S.rf
  have hl : lv_has ls 4 [(0, .ref h0), (1, .int 14), (2, .int 0)] := hl
  refine lv_aload_n hx hb d_Ly_putIn_0 rfl (lv_at hl 0 rfl) ?_
  refine kget X hP 0 rfl rfl i_Ly 2 (by decide) t_295 rfl (v := .ref h1) rfl d_Ly_putIn_1 ?_
  refine lv_iconst (v := (-1)) hx hb d_Ly_putIn_4 (by decide) ?_
  refine lv_iload_n hx hb d_Ly_putIn_5 rfl (lv_at hl 1 rfl) ?_
  refine lv_aload_n hx hb d_Ly_putIn_6 rfl (lv_at hl 0 rfl) ?_
  refine kget X hP 0 rfl rfl i_Ly 7 (by decide) t_300 rfl (v := .int 0) rfl d_Ly_putIn_7 ?_
  refine lv_iload_n hx hb d_Ly_putIn_10 rfl (lv_at hl 2 rfl) ?_
  refine kVi (n := 4) (As := [.int (-1), .int 14, .int 0, .int 0]) (rest := []) (wr := [(h0, .inr (7, [v0, v1, .ref h1, v2, v3, v4, v5, .int 0, v6, v7, v8, v9, .int 0]))]) X hP hD hS hA (c41_La_add l D aI aJ aZ _ (h1) (h2) (h3) (h4) (h5) (v10) (v11) (v12) (g13) (g14) (g15) (g16)) (kV_good t_742 t_739 t_740 t_741 t_104) rfl rfl (by decide +kernel) ⟨Nat.le_of_ble_eq_true rfl, Nat.le_of_ble_eq_true rfl⟩ hl.1 rfl rfl (Nat.le_of_ble_eq_true rfl) d_Ly_putIn_11 ⟨Nat.le_of_ble_eq_true rfl, Nat.le_of_ble_eq_true rfl⟩ [1, 2, 3, 4, 5] [0] rfl rfl (by decide) (by decide) (by decide) 0 rfl rfl (fun r_6 u H locs w_5 hP hD hS => ?_)
  obtain ⟨f_1, f_2, f_3, f_4⟩ := u
  have hP : va_P D classes [(h0, .inr (7, [v0, v1, .ref h1, v2, v3, v4, v5, .int 0, v6, v7, v8, v9, .int 0])), (h1, .inr (6, [v10, .ref h2, .ref h3, .ref h4, .ref h5, .int 1, .int 1, .int 0, v11, v12])), (h2, .inl (aI, 500, .inl f_1)), (h3, .inl (aI, 500, .inl f_2)), (h4, .inl (aI, 500, .inl f_3)), (h5, .inl (aZ, 500, .inl f_4))] H := hP
  have hD : va_D A [(h0, .inr (7, [v0, v1, .ref h1, v2, v3, v4, v5, .int 0, v6, v7, v8, v9, .int 0])), (h1, .inr (6, [v10, .ref h2, .ref h3, .ref h4, .ref h5, .int 1, .int 1, .int 0, v11, v12])), (h2, .inl (aI, 500, .inl f_1)), (h3, .inl (aI, 500, .inl f_2)), (h4, .inl (aI, 500, .inl f_3)), (h5, .inl (aZ, 500, .inl f_4))] := hD
  obtain rfl : r_6 = 1 := w_5
  refine lv_istore_n (lv' := [(3, .int 1), (0, .ref h0), (1, .int 14), (2, .int 0)]) hx hb d_Ly_putIn_14 rfl hl (by decide) rfl (fun ls hl => ?_)
  refine lv_aload_n hx hb d_Ly_putIn_15 rfl (lv_at hl 1 rfl) ?_
  refine lv_aload_n hx hb d_Ly_putIn_16 rfl (lv_at hl 1 rfl) ?_
  refine kget X hP 0 rfl rfl i_Ly 12 (by decide) t_305 rfl (v := .int 0) rfl d_Ly_putIn_17 ?_
  refine lv_if_ne (tgt := 27) hx hb d_Ly_putIn_20 (by decide) (fun c_7 => absurd (by decide) c_7) (fun c_7 => ?_)
  refine lv_iload_n hx hb d_Ly_putIn_23 rfl (lv_at hl 0 rfl) ?_
  refine lv_if_ne (tgt := 31) hx hb d_Ly_putIn_24 (by decide) (fun c_8 => ?_) (fun c_8 => absurd c_8 (by decide))
  refine lv_iconst (v := 0) hx hb d_Ly_putIn_31 (by decide) ?_
  refine kput X hP hD hS 0 rfl rfl i_Ly ty_Ly ty_Ly_ok nm_Ly 12 (by decide) t_305 rfl (v := .int 0) rfl rfl (Nat.le_of_ble_eq_true rfl) d_Ly_putIn_32 (fun H locs hP hD hS => ?_)
  have hP : va_P D classes [(h0, .inr (7, [v0, v1, .ref h1, v2, v3, v4, v5, .int 0, v6, v7, v8, v9, .int 0])), (h1, .inr (6, [v10, .ref h2, .ref h3, .ref h4, .ref h5, .int 1, .int 1, .int 0, v11, v12])), (h2, .inl (aI, 500, .inl f_1)), (h3, .inl (aI, 500, .inl f_2)), (h4, .inl (aI, 500, .inl f_3)), (h5, .inl (aZ, 500, .inl f_4))] H := hP
  have hD : va_D A [(h0, .inr (7, [v0, v1, .ref h1, v2, v3, v4, v5, .int 0, v6, v7, v8, v9, .int 0])), (h1, .inr (6, [v10, .ref h2, .ref h3, .ref h4, .ref h5, .int 1, .int 1, .int 0, v11, v12])), (h2, .inl (aI, 500, .inl f_1)), (h3, .inl (aI, 500, .inl f_2)), (h4, .inl (aI, 500, .inl f_3)), (h5, .inl (aZ, 500, .inl f_4))] := hD
  exact krv X hr hlocks hS (f_1, f_2, f_3, f_4) trivial (hP.sub [0, 1, 2, 3, 4, 5] rfl) (hD.sub [0, 1, 2, 3, 4, 5] (by decide) rfl) d_Ly_putIn_35
