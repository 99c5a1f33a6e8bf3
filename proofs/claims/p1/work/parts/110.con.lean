set_option maxHeartbeats 4000000 in
set_option maxRecDepth 100000 in
theorem c29_Lt_octets (l : Launch) (D : va_G) (aI aJ aZ : ClassId) (sz : Nat) (h0 : Nat) (h1 : Nat) (h2 : Nat) (h3 : Nat) (h4 : Nat) (p0 : Int32) (p1 : Int64) (v2 : Value) (v3 : Value) (v4 : Value) (v5 : Value) (v6 : Value) (v7 : Value) (v8 : Value) (v9 : Value) (v10 : Value) (g11 : Nat → Int32) (g12 : Nat → Int32) (g13 : Nat → Int32) : Met l y_Lt_octets (kq y_Lt_octets prog_1_method_2_code 5 (some .int)) { frames := 2, cells := 0, slots := 0, locals := 47 } (va_Pc [.ref h0, .int p0, .long p1] (kPre D (kT aI aJ aZ) [(h0, .inr (9, [.ref h1, v2, v3, v4, v5, v6, v7, v8, v9])), (h1, .inr (0, [.ref h2, .ref h3, .ref h4, v10, .int 0])), (h2, .inl (aI, 600, .inl g11)), (h3, .inl (aI, 600, .inl g12)), (h4, .inl (aI, 600, .inl g13))] sz)) (va_Qi (fun (r : Int32) (_ : Unit) => r = koct p0) (fun u => kB D (va_A [(h0, .inr (9, [.ref h1, v2, v3, v4, v5, v6, v7, v8, v9])), (h1, .inr (0, [.ref h2, .ref h3, .ref h4, v10, .int 0])), (h2, .inl (aI, 600, .inl g11)), (h3, .inl (aI, 600, .inl g12)), (h4, .inl (aI, 600, .inl g13))] sz) ((fun (_ : Unit) => ([] : va_W)) u)) (va_A [(h0, .inr (9, [.ref h1, v2, v3, v4, v5, v6, v7, v8, v9])), (h1, .inr (0, [.ref h2, .ref h3, .ref h4, v10, .int 0])), (h2, .inl (aI, 600, .inl g11)), (h3, .inl (aI, 600, .inl g12)), (h4, .inl (aI, 600, .inl g13))] sz)) 0 0 (va_A [(h0, .inr (9, [.ref h1, v2, v3, v4, v5, v6, v7, v8, v9])), (h1, .inr (0, [.ref h2, .ref h3, .ref h4, v10, .int 0])), (h2, .inl (aI, 600, .inl g11)), (h3, .inl (aI, 600, .inl g12)), (h4, .inl (aI, 600, .inl g13))] sz) := by
  refine kMet (y := y_Lt_octets) (bytes := prog_1_method_2_code) (maxL := 5) (ret := (some .int)) (av := [.ref h0, .int p0, .long p1]) (ws := [(h0, .inr (9, [.ref h1, v2, v3, v4, v5, v6, v7, v8, v9])), (h1, .inr (0, [.ref h2, .ref h3, .ref h4, v10, .int 0])), (h2, .inl (aI, 600, .inl g11)), (h3, .inl (aI, 600, .inl g12)), (h4, .inl (aI, 600, .inl g13))]) (Qc := fun A => va_Qi (fun (r : Int32) (_ : Unit) => r = koct p0) (fun u => kB D A ((fun (_ : Unit) => ([] : va_W)) u)) A) "LayoutTokens" "octets" (by decide) rfl rfl (Nat.le_of_ble_eq_true rfl) ?_
  intro p e s m below meth c A ls X hr hlocks hin hA hP hD hl
  have hx := X.1.1
  have hb := X.1.2.1
  have hown := X.1.2.2.2.1
  have hk := X.1.2.2.2.2
  have hS : va_S A s.heap s.heap [] := va_S.rf
  have hl : lv_has ls 5 [(0, .ref h0), (1, .int p0), (2, .long p1)] := hl
  refine lv_iload_n hx hb d_Lt_octets_0 rfl (lv_at hl 1 rfl) ?_
  refine lv_iconst (v := 1) hx hb d_Lt_octets_1 (by decide) ?_
  refine lv_icmp_lt (tgt := 26) hx hb d_Lt_octets_2 (by decide) (fun c_1 => ?_) (fun c_1 => ?_)
  · refine lv_iconst (v := (-1)) hx hb d_Lt_octets_26 (by decide) ?_
    exact kri X hr hlocks hS () (koct_lo c_1) (hP.sub [] rfl) (hD.sub [] (by decide) rfl) d_Lt_octets_27
  · refine lv_iload_n hx hb d_Lt_octets_5 rfl (lv_at hl 1 rfl) ?_
    refine lv_bipush (v := 8) hx hb d_Lt_octets_6 (by decide) ?_
    refine lv_icmp_gt (tgt := 26) hx hb d_Lt_octets_8 (by decide) (fun c_2 => ?_) (fun c_2 => ?_)
    · refine lv_iconst (v := (-1)) hx hb d_Lt_octets_26 (by decide) ?_
      exact kri X hr hlocks hS () (koct_hi c_2) (hP.sub [] rfl) (hD.sub [] (by decide) rfl) d_Lt_octets_27
    · refine lv_aload_n hx hb d_Lt_octets_11 rfl (lv_at hl 0 rfl) ?_
      refine kget X hP 0 rfl rfl i_Lt 0 (by decide) t_358 rfl (v := .ref h1) rfl d_Lt_octets_12 ?_
      refine kVi (n := 0) (As := []) (rest := []) (wr := [(h0, .inr (9, [.ref h1, v2, v3, v4, v5, v6, v7, v8, v9])), (h2, .inl (aI, 600, .inl g11)), (h3, .inl (aI, 600, .inl g12)), (h4, .inl (aI, 600, .inl g13))]) X hP hD hS hA (c11_So_size l D aI aJ aZ _ (h1) (.ref h2) (.ref h3) (.ref h4) (v10)) (kV_good t_393 t_390 t_391 t_392 t_98) rfl rfl (by decide +kernel) ⟨Nat.le_of_ble_eq_true rfl, Nat.le_of_ble_eq_true rfl⟩ hl.1 rfl rfl (Nat.le_of_ble_eq_true rfl) d_Lt_octets_15 ⟨Nat.le_of_ble_eq_true rfl, Nat.le_of_ble_eq_true rfl⟩ [1] [0, 2, 3, 4] rfl rfl (by decide) (by decide) (by decide) 0 rfl rfl (fun r_4 u H locs w_3 hP hD hS => ?_)
      have hP : va_P D classes [(h0, .inr (9, [.ref h1, v2, v3, v4, v5, v6, v7, v8, v9])), (h2, .inl (aI, 600, .inl g11)), (h3, .inl (aI, 600, .inl g12)), (h4, .inl (aI, 600, .inl g13)), (h1, .inr (0, [.ref h2, .ref h3, .ref h4, v10, .int 0]))] H := hP
      have hD : va_D A [(h0, .inr (9, [.ref h1, v2, v3, v4, v5, v6, v7, v8, v9])), (h2, .inl (aI, 600, .inl g11)), (h3, .inl (aI, 600, .inl g12)), (h4, .inl (aI, 600, .inl g13)), (h1, .inr (0, [.ref h2, .ref h3, .ref h4, v10, .int 0]))] := hD
      obtain rfl : r_4 = 0 := w_3
      refine lv_iload_n hx hb d_Lt_octets_18 rfl (lv_at hl 1 rfl) ?_
      refine lv_iadd hx hb d_Lt_octets_19 ?_
      refine W.eq (g2 := F0 m 20 ls [.int p0]) (by rw [Int32.zero_add]) ?_
      refine lv_sipush (v := 600) hx hb d_Lt_octets_20 (by decide) ?_
      refine lv_icmp_le (tgt := 28) hx hb d_Lt_octets_23 (by decide) (fun c_5 => ?_) (fun c_5 => ?_)
      · refine lv_iconst (v := 0) hx hb d_Lt_octets_28 (by decide) ?_
        refine lv_istore (lv' := [(4, .int 0), (0, .ref h0), (1, .int p0), (2, .long p1)]) hx hb d_Lt_octets_29 hl (by decide) rfl (fun ls hl => ?_)
        refine lv_iload hx hb d_Lt_octets_31 (lv_at hl 0 rfl) ?_
        refine lv_iload_n hx hb d_Lt_octets_33 rfl (lv_at hl 2 rfl) ?_
        refine lv_icmp_ge (tgt := 62) hx hb d_Lt_octets_34 (by decide) (fun c_6 => ?_) (fun c_6 => ?_)
        · exfalso
          first
            | contradiction
            | (simp only [Int32.lt_iff_toInt_lt, Int32.le_iff_toInt_le, kz_m1, kz_0, kz_1, kz_2, kz_3, kz_4, kz_5, kz_6, kz_7, kz_8, kz_600] at c_1 c_2 c_5 c_6; omega)
        · refine lv_aload_n hx hb d_Lt_octets_37 rfl (lv_at hl 1 rfl) ?_
          refine kget X hP 0 rfl rfl i_Lt 0 (by decide) t_358 rfl (v := .ref h1) rfl d_Lt_octets_38 ?_
          refine lv_lload_n hx hb d_Lt_octets_41 rfl (lv_at hl 3 rfl) ?_
          refine lv_bipush (v := 8) hx hb d_Lt_octets_42 (by decide) ?_
          refine lv_iload hx hb d_Lt_octets_44 (lv_at hl 0 rfl) ?_
          refine lv_imul hx hb d_Lt_octets_46 ?_
          refine lv_topi (fun z_7 ez_7 => ?_)
          obtain rfl : z_7 = 0 := ez_7.trans (by decide)
          refine lv_lushr hx hb d_Lt_octets_47 rfl ?_
          refine lv_topl (fun x_8 ex_8 => ?_)
          refine lv_l2i hx hb d_Lt_octets_48 rfl ?_
          refine lv_topi (fun x_9 ex_9 => ?_)
          refine lv_sipush (v := 255) hx hb d_Lt_octets_49 (by decide) ?_
          refine lv_iand hx hb d_Lt_octets_52 ?_
          refine lv_topi (fun x_10 ex_10 => ?_)
          refine kVv (n := 1) (As := [.int x_10]) (rest := []) (wr := [(h0, .inr (9, [.ref h1, v2, v3, v4, v5, v6, v7, v8, v9]))]) X hP hD hS hA (c12_So_append l D aI aJ aZ _ (h1) (h2) (h3) (h4) (x_10) (v10) (g11) (g12) (g13)) (kV_good t_397 t_394 t_395 t_396 t_98) rfl rfl (by decide +kernel) ⟨Nat.le_of_ble_eq_true rfl, Nat.le_of_ble_eq_true rfl⟩ hl.1 rfl rfl (Nat.le_of_ble_eq_true rfl) d_Lt_octets_53 ⟨Nat.le_of_ble_eq_true rfl, Nat.le_of_ble_eq_true rfl⟩ [4, 1, 2, 3] [0] rfl rfl (by decide) (by decide) (by decide) 0 rfl rfl (fun u H locs w_14 hP hD hS => ?_)
          obtain ⟨f_11, f_12, f_13⟩ := u
          have hP : va_P D classes [(h0, .inr (9, [.ref h1, v2, v3, v4, v5, v6, v7, v8, v9])), (h1, .inr (0, [.ref h2, .ref h3, .ref h4, v10, .int 1])), (h2, .inl (aI, 600, .inl f_11)), (h3, .inl (aI, 600, .inl f_12)), (h4, .inl (aI, 600, .inl f_13))] H := hP
          have hD : va_D A [(h0, .inr (9, [.ref h1, v2, v3, v4, v5, v6, v7, v8, v9])), (h1, .inr (0, [.ref h2, .ref h3, .ref h4, v10, .int 1])), (h2, .inl (aI, 600, .inl f_11)), (h3, .inl (aI, 600, .inl f_12)), (h4, .inl (aI, 600, .inl f_13))] := hD
          refine lv_iinc (v := 1) (lv' := [(4, .int 1), (0, .ref h0), (1, .int p0), (2, .long p1)]) hx hb d_Lt_octets_56 hl (k := 0) rfl (by decide) (by decide) rfl (fun ls hl => ?_)
          refine lv_goto (tgt := 31) hx hb d_Lt_octets_59 (by decide) ?_
          refine lv_iload hx hb d_Lt_octets_31 (lv_at hl 0 rfl) ?_
          refine lv_iload_n hx hb d_Lt_octets_33 rfl (lv_at hl 2 rfl) ?_
          refine lv_icmp_ge (tgt := 62) hx hb d_Lt_octets_34 (by decide) (fun c_15 => ?_) (fun c_15 => ?_)
          · refine lv_aload_n hx hb d_Lt_octets_62 rfl (lv_at hl 1 rfl) ?_
            refine kget X hP 0 rfl rfl i_Lt 0 (by decide) t_358 rfl (v := .ref h1) rfl d_Lt_octets_63 ?_
            refine kVi (n := 0) (As := []) (rest := []) (wr := [(h0, .inr (9, [.ref h1, v2, v3, v4, v5, v6, v7, v8, v9])), (h2, .inl (aI, 600, .inl f_11)), (h3, .inl (aI, 600, .inl f_12)), (h4, .inl (aI, 600, .inl f_13))]) X hP hD hS hA (c13_So_size l D aI aJ aZ _ (h1) (.ref h2) (.ref h3) (.ref h4) (v10)) (kV_good t_393 t_390 t_391 t_392 t_98) rfl rfl (by decide +kernel) ⟨Nat.le_of_ble_eq_true rfl, Nat.le_of_ble_eq_true rfl⟩ hl.1 rfl rfl (Nat.le_of_ble_eq_true rfl) d_Lt_octets_66 ⟨Nat.le_of_ble_eq_true rfl, Nat.le_of_ble_eq_true rfl⟩ [1] [0, 2, 3, 4] rfl rfl (by decide) (by decide) (by decide) 0 rfl rfl (fun r_17 u H locs w_16 hP hD hS => ?_)
            have hP : va_P D classes [(h0, .inr (9, [.ref h1, v2, v3, v4, v5, v6, v7, v8, v9])), (h2, .inl (aI, 600, .inl f_11)), (h3, .inl (aI, 600, .inl f_12)), (h4, .inl (aI, 600, .inl f_13)), (h1, .inr (0, [.ref h2, .ref h3, .ref h4, v10, .int 1]))] H := hP
            have hD : va_D A [(h0, .inr (9, [.ref h1, v2, v3, v4, v5, v6, v7, v8, v9])), (h2, .inl (aI, 600, .inl f_11)), (h3, .inl (aI, 600, .inl f_12)), (h4, .inl (aI, 600, .inl f_13)), (h1, .inr (0, [.ref h2, .ref h3, .ref h4, v10, .int 1]))] := hD
            obtain rfl : r_17 = 1 := w_16
            exact kri X hr hlocks hS () (koct_in c_1 c_2 (Int32.toInt_inj.mp (by simp only [Int32.lt_iff_toInt_lt, Int32.le_iff_toInt_le, kz_m1, kz_0, kz_1, kz_2, kz_3, kz_4, kz_5, kz_6, kz_7, kz_8, kz_600] at c_1 c_2 c_5 c_6 c_15; simp only [kz_m1, kz_0, kz_1, kz_2, kz_3, kz_4, kz_5, kz_6, kz_7, kz_8, kz_600]; omega))) (hP.sub [] rfl) (hD.sub [] (by decide) rfl) d_Lt_octets_69
          · refine lv_aload_n hx hb d_Lt_octets_37 rfl (lv_at hl 1 rfl) ?_
            refine kget X hP 0 rfl rfl i_Lt 0 (by decide) t_358 rfl (v := .ref h1) rfl d_Lt_octets_38 ?_
            refine lv_lload_n hx hb d_Lt_octets_41 rfl (lv_at hl 3 rfl) ?_
            refine lv_bipush (v := 8) hx hb d_Lt_octets_42 (by decide) ?_
            refine lv_iload hx hb d_Lt_octets_44 (lv_at hl 0 rfl) ?_
            refine lv_imul hx hb d_Lt_octets_46 ?_
            refine lv_topi (fun z_18 ez_18 => ?_)
            obtain rfl : z_18 = 8 := ez_18.trans (by decide)
            refine lv_lushr hx hb d_Lt_octets_47 rfl ?_
            refine lv_topl (fun x_19 ex_19 => ?_)
            refine lv_l2i hx hb d_Lt_octets_48 rfl ?_
            refine lv_topi (fun x_20 ex_20 => ?_)
            refine lv_sipush (v := 255) hx hb d_Lt_octets_49 (by decide) ?_
            refine lv_iand hx hb d_Lt_octets_52 ?_
            refine lv_topi (fun x_21 ex_21 => ?_)
            refine kVv (n := 1) (As := [.int x_21]) (rest := []) (wr := [(h0, .inr (9, [.ref h1, v2, v3, v4, v5, v6, v7, v8, v9]))]) X hP hD hS hA (c15_So_append l D aI aJ aZ _ (h1) (h2) (h3) (h4) (x_21) (v10) (f_11) (f_12) (f_13)) (kV_good t_397 t_394 t_395 t_396 t_98) rfl rfl (by decide +kernel) ⟨Nat.le_of_ble_eq_true rfl, Nat.le_of_ble_eq_true rfl⟩ hl.1 rfl rfl (Nat.le_of_ble_eq_true rfl) d_Lt_octets_53 ⟨Nat.le_of_ble_eq_true rfl, Nat.le_of_ble_eq_true rfl⟩ [1, 2, 3, 4] [0] rfl rfl (by decide) (by decide) (by decide) 0 rfl rfl (fun u H locs w_25 hP hD hS => ?_)
            obtain ⟨f_22, f_23, f_24⟩ := u
            have hP : va_P D classes [(h0, .inr (9, [.ref h1, v2, v3, v4, v5, v6, v7, v8, v9])), (h1, .inr (0, [.ref h2, .ref h3, .ref h4, v10, .int 2])), (h2, .inl (aI, 600, .inl f_22)), (h3, .inl (aI, 600, .inl f_23)), (h4, .inl (aI, 600, .inl f_24))] H := hP
            have hD : va_D A [(h0, .inr (9, [.ref h1, v2, v3, v4, v5, v6, v7, v8, v9])), (h1, .inr (0, [.ref h2, .ref h3, .ref h4, v10, .int 2])), (h2, .inl (aI, 600, .inl f_22)), (h3, .inl (aI, 600, .inl f_23)), (h4, .inl (aI, 600, .inl f_24))] := hD
            refine lv_iinc (v := 2) (lv' := [(4, .int 2), (0, .ref h0), (1, .int p0), (2, .long p1)]) hx hb d_Lt_octets_56 hl (k := 0) rfl (by decide) (by decide) rfl (fun ls hl => ?_)
            refine lv_goto (tgt := 31) hx hb d_Lt_octets_59 (by decide) ?_
            refine lv_iload hx hb d_Lt_octets_31 (lv_at hl 0 rfl) ?_
            refine lv_iload_n hx hb d_Lt_octets_33 rfl (lv_at hl 2 rfl) ?_
            refine lv_icmp_ge (tgt := 62) hx hb d_Lt_octets_34 (by decide) (fun c_26 => ?_) (fun c_26 => ?_)
            · refine lv_aload_n hx hb d_Lt_octets_62 rfl (lv_at hl 1 rfl) ?_
              refine kget X hP 0 rfl rfl i_Lt 0 (by decide) t_358 rfl (v := .ref h1) rfl d_Lt_octets_63 ?_
              refine kVi (n := 0) (As := []) (rest := []) (wr := [(h0, .inr (9, [.ref h1, v2, v3, v4, v5, v6, v7, v8, v9])), (h2, .inl (aI, 600, .inl f_22)), (h3, .inl (aI, 600, .inl f_23)), (h4, .inl (aI, 600, .inl f_24))]) X hP hD hS hA (c16_So_size l D aI aJ aZ _ (h1) (.ref h2) (.ref h3) (.ref h4) (v10)) (kV_good t_393 t_390 t_391 t_392 t_98) rfl rfl (by decide +kernel) ⟨Nat.le_of_ble_eq_true rfl, Nat.le_of_ble_eq_true rfl⟩ hl.1 rfl rfl (Nat.le_of_ble_eq_true rfl) d_Lt_octets_66 ⟨Nat.le_of_ble_eq_true rfl, Nat.le_of_ble_eq_true rfl⟩ [1] [0, 2, 3, 4] rfl rfl (by decide) (by decide) (by decide) 0 rfl rfl (fun r_28 u H locs w_27 hP hD hS => ?_)
              have hP : va_P D classes [(h0, .inr (9, [.ref h1, v2, v3, v4, v5, v6, v7, v8, v9])), (h2, .inl (aI, 600, .inl f_22)), (h3, .inl (aI, 600, .inl f_23)), (h4, .inl (aI, 600, .inl f_24)), (h1, .inr (0, [.ref h2, .ref h3, .ref h4, v10, .int 2]))] H := hP
              have hD : va_D A [(h0, .inr (9, [.ref h1, v2, v3, v4, v5, v6, v7, v8, v9])), (h2, .inl (aI, 600, .inl f_22)), (h3, .inl (aI, 600, .inl f_23)), (h4, .inl (aI, 600, .inl f_24)), (h1, .inr (0, [.ref h2, .ref h3, .ref h4, v10, .int 2]))] := hD
              obtain rfl : r_28 = 2 := w_27
              exact kri X hr hlocks hS () (koct_in c_1 c_2 (Int32.toInt_inj.mp (by simp only [Int32.lt_iff_toInt_lt, Int32.le_iff_toInt_le, kz_m1, kz_0, kz_1, kz_2, kz_3, kz_4, kz_5, kz_6, kz_7, kz_8, kz_600] at c_1 c_2 c_5 c_6 c_15 c_26; simp only [kz_m1, kz_0, kz_1, kz_2, kz_3, kz_4, kz_5, kz_6, kz_7, kz_8, kz_600]; omega))) (hP.sub [] rfl) (hD.sub [] (by decide) rfl) d_Lt_octets_69
            · refine lv_aload_n hx hb d_Lt_octets_37 rfl (lv_at hl 1 rfl) ?_
              refine kget X hP 0 rfl rfl i_Lt 0 (by decide) t_358 rfl (v := .ref h1) rfl d_Lt_octets_38 ?_
              refine lv_lload_n hx hb d_Lt_octets_41 rfl (lv_at hl 3 rfl) ?_
              refine lv_bipush (v := 8) hx hb d_Lt_octets_42 (by decide) ?_
              refine lv_iload hx hb d_Lt_octets_44 (lv_at hl 0 rfl) ?_
              refine lv_imul hx hb d_Lt_octets_46 ?_
              refine lv_topi (fun z_29 ez_29 => ?_)
              obtain rfl : z_29 = 16 := ez_29.trans (by decide)
              refine lv_lushr hx hb d_Lt_octets_47 rfl ?_
              refine lv_topl (fun x_30 ex_30 => ?_)
              refine lv_l2i hx hb d_Lt_octets_48 rfl ?_
              refine lv_topi (fun x_31 ex_31 => ?_)
              refine lv_sipush (v := 255) hx hb d_Lt_octets_49 (by decide) ?_
              refine lv_iand hx hb d_Lt_octets_52 ?_
              refine lv_topi (fun x_32 ex_32 => ?_)
              refine kVv (n := 1) (As := [.int x_32]) (rest := []) (wr := [(h0, .inr (9, [.ref h1, v2, v3, v4, v5, v6, v7, v8, v9]))]) X hP hD hS hA (c17_So_append l D aI aJ aZ _ (h1) (h2) (h3) (h4) (x_32) (v10) (f_22) (f_23) (f_24)) (kV_good t_397 t_394 t_395 t_396 t_98) rfl rfl (by decide +kernel) ⟨Nat.le_of_ble_eq_true rfl, Nat.le_of_ble_eq_true rfl⟩ hl.1 rfl rfl (Nat.le_of_ble_eq_true rfl) d_Lt_octets_53 ⟨Nat.le_of_ble_eq_true rfl, Nat.le_of_ble_eq_true rfl⟩ [1, 2, 3, 4] [0] rfl rfl (by decide) (by decide) (by decide) 0 rfl rfl (fun u H locs w_36 hP hD hS => ?_)
              obtain ⟨f_33, f_34, f_35⟩ := u
              have hP : va_P D classes [(h0, .inr (9, [.ref h1, v2, v3, v4, v5, v6, v7, v8, v9])), (h1, .inr (0, [.ref h2, .ref h3, .ref h4, v10, .int 3])), (h2, .inl (aI, 600, .inl f_33)), (h3, .inl (aI, 600, .inl f_34)), (h4, .inl (aI, 600, .inl f_35))] H := hP
              have hD : va_D A [(h0, .inr (9, [.ref h1, v2, v3, v4, v5, v6, v7, v8, v9])), (h1, .inr (0, [.ref h2, .ref h3, .ref h4, v10, .int 3])), (h2, .inl (aI, 600, .inl f_33)), (h3, .inl (aI, 600, .inl f_34)), (h4, .inl (aI, 600, .inl f_35))] := hD
              refine lv_iinc (v := 3) (lv' := [(4, .int 3), (0, .ref h0), (1, .int p0), (2, .long p1)]) hx hb d_Lt_octets_56 hl (k := 0) rfl (by decide) (by decide) rfl (fun ls hl => ?_)
              refine lv_goto (tgt := 31) hx hb d_Lt_octets_59 (by decide) ?_
              refine lv_iload hx hb d_Lt_octets_31 (lv_at hl 0 rfl) ?_
              refine lv_iload_n hx hb d_Lt_octets_33 rfl (lv_at hl 2 rfl) ?_
              refine lv_icmp_ge (tgt := 62) hx hb d_Lt_octets_34 (by decide) (fun c_37 => ?_) (fun c_37 => ?_)
              · refine lv_aload_n hx hb d_Lt_octets_62 rfl (lv_at hl 1 rfl) ?_
                refine kget X hP 0 rfl rfl i_Lt 0 (by decide) t_358 rfl (v := .ref h1) rfl d_Lt_octets_63 ?_
                refine kVi (n := 0) (As := []) (rest := []) (wr := [(h0, .inr (9, [.ref h1, v2, v3, v4, v5, v6, v7, v8, v9])), (h2, .inl (aI, 600, .inl f_33)), (h3, .inl (aI, 600, .inl f_34)), (h4, .inl (aI, 600, .inl f_35))]) X hP hD hS hA (c18_So_size l D aI aJ aZ _ (h1) (.ref h2) (.ref h3) (.ref h4) (v10)) (kV_good t_393 t_390 t_391 t_392 t_98) rfl rfl (by decide +kernel) ⟨Nat.le_of_ble_eq_true rfl, Nat.le_of_ble_eq_true rfl⟩ hl.1 rfl rfl (Nat.le_of_ble_eq_true rfl) d_Lt_octets_66 ⟨Nat.le_of_ble_eq_true rfl, Nat.le_of_ble_eq_true rfl⟩ [1] [0, 2, 3, 4] rfl rfl (by decide) (by decide) (by decide) 0 rfl rfl (fun r_39 u H locs w_38 hP hD hS => ?_)
                have hP : va_P D classes [(h0, .inr (9, [.ref h1, v2, v3, v4, v5, v6, v7, v8, v9])), (h2, .inl (aI, 600, .inl f_33)), (h3, .inl (aI, 600, .inl f_34)), (h4, .inl (aI, 600, .inl f_35)), (h1, .inr (0, [.ref h2, .ref h3, .ref h4, v10, .int 3]))] H := hP
                have hD : va_D A [(h0, .inr (9, [.ref h1, v2, v3, v4, v5, v6, v7, v8, v9])), (h2, .inl (aI, 600, .inl f_33)), (h3, .inl (aI, 600, .inl f_34)), (h4, .inl (aI, 600, .inl f_35)), (h1, .inr (0, [.ref h2, .ref h3, .ref h4, v10, .int 3]))] := hD
                obtain rfl : r_39 = 3 := w_38
                exact kri X hr hlocks hS () (koct_in c_1 c_2 (Int32.toInt_inj.mp (by simp only [Int32.lt_iff_toInt_lt, Int32.le_iff_toInt_le, kz_m1, kz_0, kz_1, kz_2, kz_3, kz_4, kz_5, kz_6, kz_7, kz_8, kz_600] at c_1 c_2 c_5 c_6 c_15 c_26 c_37; simp only [kz_m1, kz_0, kz_1, kz_2, kz_3, kz_4, kz_5, kz_6, kz_7, kz_8, kz_600]; omega))) (hP.sub [] rfl) (hD.sub [] (by decide) rfl) d_Lt_octets_69
              · refine lv_aload_n hx hb d_Lt_octets_37 rfl (lv_at hl 1 rfl) ?_
                refine kget X hP 0 rfl rfl i_Lt 0 (by decide) t_358 rfl (v := .ref h1) rfl d_Lt_octets_38 ?_
                refine lv_lload_n hx hb d_Lt_octets_41 rfl (lv_at hl 3 rfl) ?_
                refine lv_bipush (v := 8) hx hb d_Lt_octets_42 (by decide) ?_
                refine lv_iload hx hb d_Lt_octets_44 (lv_at hl 0 rfl) ?_
                refine lv_imul hx hb d_Lt_octets_46 ?_
                refine lv_topi (fun z_40 ez_40 => ?_)
                obtain rfl : z_40 = 24 := ez_40.trans (by decide)
                refine lv_lushr hx hb d_Lt_octets_47 rfl ?_
                refine lv_topl (fun x_41 ex_41 => ?_)
                refine lv_l2i hx hb d_Lt_octets_48 rfl ?_
                refine lv_topi (fun x_42 ex_42 => ?_)
                refine lv_sipush (v := 255) hx hb d_Lt_octets_49 (by decide) ?_
                refine lv_iand hx hb d_Lt_octets_52 ?_
                refine lv_topi (fun x_43 ex_43 => ?_)
                refine kVv (n := 1) (As := [.int x_43]) (rest := []) (wr := [(h0, .inr (9, [.ref h1, v2, v3, v4, v5, v6, v7, v8, v9]))]) X hP hD hS hA (c19_So_append l D aI aJ aZ _ (h1) (h2) (h3) (h4) (x_43) (v10) (f_33) (f_34) (f_35)) (kV_good t_397 t_394 t_395 t_396 t_98) rfl rfl (by decide +kernel) ⟨Nat.le_of_ble_eq_true rfl, Nat.le_of_ble_eq_true rfl⟩ hl.1 rfl rfl (Nat.le_of_ble_eq_true rfl) d_Lt_octets_53 ⟨Nat.le_of_ble_eq_true rfl, Nat.le_of_ble_eq_true rfl⟩ [1, 2, 3, 4] [0] rfl rfl (by decide) (by decide) (by decide) 0 rfl rfl (fun u H locs w_47 hP hD hS => ?_)
                obtain ⟨f_44, f_45, f_46⟩ := u
                have hP : va_P D classes [(h0, .inr (9, [.ref h1, v2, v3, v4, v5, v6, v7, v8, v9])), (h1, .inr (0, [.ref h2, .ref h3, .ref h4, v10, .int 4])), (h2, .inl (aI, 600, .inl f_44)), (h3, .inl (aI, 600, .inl f_45)), (h4, .inl (aI, 600, .inl f_46))] H := hP
                have hD : va_D A [(h0, .inr (9, [.ref h1, v2, v3, v4, v5, v6, v7, v8, v9])), (h1, .inr (0, [.ref h2, .ref h3, .ref h4, v10, .int 4])), (h2, .inl (aI, 600, .inl f_44)), (h3, .inl (aI, 600, .inl f_45)), (h4, .inl (aI, 600, .inl f_46))] := hD
                refine lv_iinc (v := 4) (lv' := [(4, .int 4), (0, .ref h0), (1, .int p0), (2, .long p1)]) hx hb d_Lt_octets_56 hl (k := 0) rfl (by decide) (by decide) rfl (fun ls hl => ?_)
                refine lv_goto (tgt := 31) hx hb d_Lt_octets_59 (by decide) ?_
                refine lv_iload hx hb d_Lt_octets_31 (lv_at hl 0 rfl) ?_
                refine lv_iload_n hx hb d_Lt_octets_33 rfl (lv_at hl 2 rfl) ?_
                refine lv_icmp_ge (tgt := 62) hx hb d_Lt_octets_34 (by decide) (fun c_48 => ?_) (fun c_48 => ?_)
                · refine lv_aload_n hx hb d_Lt_octets_62 rfl (lv_at hl 1 rfl) ?_
                  refine kget X hP 0 rfl rfl i_Lt 0 (by decide) t_358 rfl (v := .ref h1) rfl d_Lt_octets_63 ?_
                  refine kVi (n := 0) (As := []) (rest := []) (wr := [(h0, .inr (9, [.ref h1, v2, v3, v4, v5, v6, v7, v8, v9])), (h2, .inl (aI, 600, .inl f_44)), (h3, .inl (aI, 600, .inl f_45)), (h4, .inl (aI, 600, .inl f_46))]) X hP hD hS hA (c20_So_size l D aI aJ aZ _ (h1) (.ref h2) (.ref h3) (.ref h4) (v10)) (kV_good t_393 t_390 t_391 t_392 t_98) rfl rfl (by decide +kernel) ⟨Nat.le_of_ble_eq_true rfl, Nat.le_of_ble_eq_true rfl⟩ hl.1 rfl rfl (Nat.le_of_ble_eq_true rfl) d_Lt_octets_66 ⟨Nat.le_of_ble_eq_true rfl, Nat.le_of_ble_eq_true rfl⟩ [1] [0, 2, 3, 4] rfl rfl (by decide) (by decide) (by decide) 0 rfl rfl (fun r_50 u H locs w_49 hP hD hS => ?_)
                  have hP : va_P D classes [(h0, .inr (9, [.ref h1, v2, v3, v4, v5, v6, v7, v8, v9])), (h2, .inl (aI, 600, .inl f_44)), (h3, .inl (aI, 600, .inl f_45)), (h4, .inl (aI, 600, .inl f_46)), (h1, .inr (0, [.ref h2, .ref h3, .ref h4, v10, .int 4]))] H := hP
                  have hD : va_D A [(h0, .inr (9, [.ref h1, v2, v3, v4, v5, v6, v7, v8, v9])), (h2, .inl (aI, 600, .inl f_44)), (h3, .inl (aI, 600, .inl f_45)), (h4, .inl (aI, 600, .inl f_46)), (h1, .inr (0, [.ref h2, .ref h3, .ref h4, v10, .int 4]))] := hD
                  obtain rfl : r_50 = 4 := w_49
                  exact kri X hr hlocks hS () (koct_in c_1 c_2 (Int32.toInt_inj.mp (by simp only [Int32.lt_iff_toInt_lt, Int32.le_iff_toInt_le, kz_m1, kz_0, kz_1, kz_2, kz_3, kz_4, kz_5, kz_6, kz_7, kz_8, kz_600] at c_1 c_2 c_5 c_6 c_15 c_26 c_37 c_48; simp only [kz_m1, kz_0, kz_1, kz_2, kz_3, kz_4, kz_5, kz_6, kz_7, kz_8, kz_600]; omega))) (hP.sub [] rfl) (hD.sub [] (by decide) rfl) d_Lt_octets_69
                · refine lv_aload_n hx hb d_Lt_octets_37 rfl (lv_at hl 1 rfl) ?_
                  refine kget X hP 0 rfl rfl i_Lt 0 (by decide) t_358 rfl (v := .ref h1) rfl d_Lt_octets_38 ?_
                  refine lv_lload_n hx hb d_Lt_octets_41 rfl (lv_at hl 3 rfl) ?_
                  refine lv_bipush (v := 8) hx hb d_Lt_octets_42 (by decide) ?_
                  refine lv_iload hx hb d_Lt_octets_44 (lv_at hl 0 rfl) ?_
                  refine lv_imul hx hb d_Lt_octets_46 ?_
                  refine lv_topi (fun z_51 ez_51 => ?_)
                  obtain rfl : z_51 = 32 := ez_51.trans (by decide)
                  refine lv_lushr hx hb d_Lt_octets_47 rfl ?_
                  refine lv_topl (fun x_52 ex_52 => ?_)
                  refine lv_l2i hx hb d_Lt_octets_48 rfl ?_
                  refine lv_topi (fun x_53 ex_53 => ?_)
                  refine lv_sipush (v := 255) hx hb d_Lt_octets_49 (by decide) ?_
                  refine lv_iand hx hb d_Lt_octets_52 ?_
                  refine lv_topi (fun x_54 ex_54 => ?_)
                  refine kVv (n := 1) (As := [.int x_54]) (rest := []) (wr := [(h0, .inr (9, [.ref h1, v2, v3, v4, v5, v6, v7, v8, v9]))]) X hP hD hS hA (c21_So_append l D aI aJ aZ _ (h1) (h2) (h3) (h4) (x_54) (v10) (f_44) (f_45) (f_46)) (kV_good t_397 t_394 t_395 t_396 t_98) rfl rfl (by decide +kernel) ⟨Nat.le_of_ble_eq_true rfl, Nat.le_of_ble_eq_true rfl⟩ hl.1 rfl rfl (Nat.le_of_ble_eq_true rfl) d_Lt_octets_53 ⟨Nat.le_of_ble_eq_true rfl, Nat.le_of_ble_eq_true rfl⟩ [1, 2, 3, 4] [0] rfl rfl (by decide) (by decide) (by decide) 0 rfl rfl (fun u H locs w_58 hP hD hS => ?_)
                  obtain ⟨f_55, f_56, f_57⟩ := u
                  have hP : va_P D classes [(h0, .inr (9, [.ref h1, v2, v3, v4, v5, v6, v7, v8, v9])), (h1, .inr (0, [.ref h2, .ref h3, .ref h4, v10, .int 5])), (h2, .inl (aI, 600, .inl f_55)), (h3, .inl (aI, 600, .inl f_56)), (h4, .inl (aI, 600, .inl f_57))] H := hP
                  have hD : va_D A [(h0, .inr (9, [.ref h1, v2, v3, v4, v5, v6, v7, v8, v9])), (h1, .inr (0, [.ref h2, .ref h3, .ref h4, v10, .int 5])), (h2, .inl (aI, 600, .inl f_55)), (h3, .inl (aI, 600, .inl f_56)), (h4, .inl (aI, 600, .inl f_57))] := hD
                  refine lv_iinc (v := 5) (lv' := [(4, .int 5), (0, .ref h0), (1, .int p0), (2, .long p1)]) hx hb d_Lt_octets_56 hl (k := 0) rfl (by decide) (by decide) rfl (fun ls hl => ?_)
                  refine lv_goto (tgt := 31) hx hb d_Lt_octets_59 (by decide) ?_
                  refine lv_iload hx hb d_Lt_octets_31 (lv_at hl 0 rfl) ?_
                  refine lv_iload_n hx hb d_Lt_octets_33 rfl (lv_at hl 2 rfl) ?_
                  refine lv_icmp_ge (tgt := 62) hx hb d_Lt_octets_34 (by decide) (fun c_59 => ?_) (fun c_59 => ?_)
                  · refine lv_aload_n hx hb d_Lt_octets_62 rfl (lv_at hl 1 rfl) ?_
                    refine kget X hP 0 rfl rfl i_Lt 0 (by decide) t_358 rfl (v := .ref h1) rfl d_Lt_octets_63 ?_
                    refine kVi (n := 0) (As := []) (rest := []) (wr := [(h0, .inr (9, [.ref h1, v2, v3, v4, v5, v6, v7, v8, v9])), (h2, .inl (aI, 600, .inl f_55)), (h3, .inl (aI, 600, .inl f_56)), (h4, .inl (aI, 600, .inl f_57))]) X hP hD hS hA (c22_So_size l D aI aJ aZ _ (h1) (.ref h2) (.ref h3) (.ref h4) (v10)) (kV_good t_393 t_390 t_391 t_392 t_98) rfl rfl (by decide +kernel) ⟨Nat.le_of_ble_eq_true rfl, Nat.le_of_ble_eq_true rfl⟩ hl.1 rfl rfl (Nat.le_of_ble_eq_true rfl) d_Lt_octets_66 ⟨Nat.le_of_ble_eq_true rfl, Nat.le_of_ble_eq_true rfl⟩ [1] [0, 2, 3, 4] rfl rfl (by decide) (by decide) (by decide) 0 rfl rfl (fun r_61 u H locs w_60 hP hD hS => ?_)
                    have hP : va_P D classes [(h0, .inr (9, [.ref h1, v2, v3, v4, v5, v6, v7, v8, v9])), (h2, .inl (aI, 600, .inl f_55)), (h3, .inl (aI, 600, .inl f_56)), (h4, .inl (aI, 600, .inl f_57)), (h1, .inr (0, [.ref h2, .ref h3, .ref h4, v10, .int 5]))] H := hP
                    have hD : va_D A [(h0, .inr (9, [.ref h1, v2, v3, v4, v5, v6, v7, v8, v9])), (h2, .inl (aI, 600, .inl f_55)), (h3, .inl (aI, 600, .inl f_56)), (h4, .inl (aI, 600, .inl f_57)), (h1, .inr (0, [.ref h2, .ref h3, .ref h4, v10, .int 5]))] := hD
                    obtain rfl : r_61 = 5 := w_60
                    exact kri X hr hlocks hS () (koct_in c_1 c_2 (Int32.toInt_inj.mp (by simp only [Int32.lt_iff_toInt_lt, Int32.le_iff_toInt_le, kz_m1, kz_0, kz_1, kz_2, kz_3, kz_4, kz_5, kz_6, kz_7, kz_8, kz_600] at c_1 c_2 c_5 c_6 c_15 c_26 c_37 c_48 c_59; simp only [kz_m1, kz_0, kz_1, kz_2, kz_3, kz_4, kz_5, kz_6, kz_7, kz_8, kz_600]; omega))) (hP.sub [] rfl) (hD.sub [] (by decide) rfl) d_Lt_octets_69
                  · refine lv_aload_n hx hb d_Lt_octets_37 rfl (lv_at hl 1 rfl) ?_
                    refine kget X hP 0 rfl rfl i_Lt 0 (by decide) t_358 rfl (v := .ref h1) rfl d_Lt_octets_38 ?_
                    refine lv_lload_n hx hb d_Lt_octets_41 rfl (lv_at hl 3 rfl) ?_
                    refine lv_bipush (v := 8) hx hb d_Lt_octets_42 (by decide) ?_
                    refine lv_iload hx hb d_Lt_octets_44 (lv_at hl 0 rfl) ?_
                    refine lv_imul hx hb d_Lt_octets_46 ?_
                    refine lv_topi (fun z_62 ez_62 => ?_)
                    obtain rfl : z_62 = 40 := ez_62.trans (by decide)
                    refine lv_lushr hx hb d_Lt_octets_47 rfl ?_
                    refine lv_topl (fun x_63 ex_63 => ?_)
                    refine lv_l2i hx hb d_Lt_octets_48 rfl ?_
                    refine lv_topi (fun x_64 ex_64 => ?_)
                    refine lv_sipush (v := 255) hx hb d_Lt_octets_49 (by decide) ?_
                    refine lv_iand hx hb d_Lt_octets_52 ?_
                    refine lv_topi (fun x_65 ex_65 => ?_)
                    refine kVv (n := 1) (As := [.int x_65]) (rest := []) (wr := [(h0, .inr (9, [.ref h1, v2, v3, v4, v5, v6, v7, v8, v9]))]) X hP hD hS hA (c23_So_append l D aI aJ aZ _ (h1) (h2) (h3) (h4) (x_65) (v10) (f_55) (f_56) (f_57)) (kV_good t_397 t_394 t_395 t_396 t_98) rfl rfl (by decide +kernel) ⟨Nat.le_of_ble_eq_true rfl, Nat.le_of_ble_eq_true rfl⟩ hl.1 rfl rfl (Nat.le_of_ble_eq_true rfl) d_Lt_octets_53 ⟨Nat.le_of_ble_eq_true rfl, Nat.le_of_ble_eq_true rfl⟩ [1, 2, 3, 4] [0] rfl rfl (by decide) (by decide) (by decide) 0 rfl rfl (fun u H locs w_69 hP hD hS => ?_)
                    obtain ⟨f_66, f_67, f_68⟩ := u
                    have hP : va_P D classes [(h0, .inr (9, [.ref h1, v2, v3, v4, v5, v6, v7, v8, v9])), (h1, .inr (0, [.ref h2, .ref h3, .ref h4, v10, .int 6])), (h2, .inl (aI, 600, .inl f_66)), (h3, .inl (aI, 600, .inl f_67)), (h4, .inl (aI, 600, .inl f_68))] H := hP
                    have hD : va_D A [(h0, .inr (9, [.ref h1, v2, v3, v4, v5, v6, v7, v8, v9])), (h1, .inr (0, [.ref h2, .ref h3, .ref h4, v10, .int 6])), (h2, .inl (aI, 600, .inl f_66)), (h3, .inl (aI, 600, .inl f_67)), (h4, .inl (aI, 600, .inl f_68))] := hD
                    refine lv_iinc (v := 6) (lv' := [(4, .int 6), (0, .ref h0), (1, .int p0), (2, .long p1)]) hx hb d_Lt_octets_56 hl (k := 0) rfl (by decide) (by decide) rfl (fun ls hl => ?_)
                    refine lv_goto (tgt := 31) hx hb d_Lt_octets_59 (by decide) ?_
                    refine lv_iload hx hb d_Lt_octets_31 (lv_at hl 0 rfl) ?_
                    refine lv_iload_n hx hb d_Lt_octets_33 rfl (lv_at hl 2 rfl) ?_
                    refine lv_icmp_ge (tgt := 62) hx hb d_Lt_octets_34 (by decide) (fun c_70 => ?_) (fun c_70 => ?_)
                    · refine lv_aload_n hx hb d_Lt_octets_62 rfl (lv_at hl 1 rfl) ?_
                      refine kget X hP 0 rfl rfl i_Lt 0 (by decide) t_358 rfl (v := .ref h1) rfl d_Lt_octets_63 ?_
                      refine kVi (n := 0) (As := []) (rest := []) (wr := [(h0, .inr (9, [.ref h1, v2, v3, v4, v5, v6, v7, v8, v9])), (h2, .inl (aI, 600, .inl f_66)), (h3, .inl (aI, 600, .inl f_67)), (h4, .inl (aI, 600, .inl f_68))]) X hP hD hS hA (c24_So_size l D aI aJ aZ _ (h1) (.ref h2) (.ref h3) (.ref h4) (v10)) (kV_good t_393 t_390 t_391 t_392 t_98) rfl rfl (by decide +kernel) ⟨Nat.le_of_ble_eq_true rfl, Nat.le_of_ble_eq_true rfl⟩ hl.1 rfl rfl (Nat.le_of_ble_eq_true rfl) d_Lt_octets_66 ⟨Nat.le_of_ble_eq_true rfl, Nat.le_of_ble_eq_true rfl⟩ [1] [0, 2, 3, 4] rfl rfl (by decide) (by decide) (by decide) 0 rfl rfl (fun r_72 u H locs w_71 hP hD hS => ?_)
                      have hP : va_P D classes [(h0, .inr (9, [.ref h1, v2, v3, v4, v5, v6, v7, v8, v9])), (h2, .inl (aI, 600, .inl f_66)), (h3, .inl (aI, 600, .inl f_67)), (h4, .inl (aI, 600, .inl f_68)), (h1, .inr (0, [.ref h2, .ref h3, .ref h4, v10, .int 6]))] H := hP
                      have hD : va_D A [(h0, .inr (9, [.ref h1, v2, v3, v4, v5, v6, v7, v8, v9])), (h2, .inl (aI, 600, .inl f_66)), (h3, .inl (aI, 600, .inl f_67)), (h4, .inl (aI, 600, .inl f_68)), (h1, .inr (0, [.ref h2, .ref h3, .ref h4, v10, .int 6]))] := hD
                      obtain rfl : r_72 = 6 := w_71
                      exact kri X hr hlocks hS () (koct_in c_1 c_2 (Int32.toInt_inj.mp (by simp only [Int32.lt_iff_toInt_lt, Int32.le_iff_toInt_le, kz_m1, kz_0, kz_1, kz_2, kz_3, kz_4, kz_5, kz_6, kz_7, kz_8, kz_600] at c_1 c_2 c_5 c_6 c_15 c_26 c_37 c_48 c_59 c_70; simp only [kz_m1, kz_0, kz_1, kz_2, kz_3, kz_4, kz_5, kz_6, kz_7, kz_8, kz_600]; omega))) (hP.sub [] rfl) (hD.sub [] (by decide) rfl) d_Lt_octets_69
                    · refine lv_aload_n hx hb d_Lt_octets_37 rfl (lv_at hl 1 rfl) ?_
                      refine kget X hP 0 rfl rfl i_Lt 0 (by decide) t_358 rfl (v := .ref h1) rfl d_Lt_octets_38 ?_
                      refine lv_lload_n hx hb d_Lt_octets_41 rfl (lv_at hl 3 rfl) ?_
                      refine lv_bipush (v := 8) hx hb d_Lt_octets_42 (by decide) ?_
                      refine lv_iload hx hb d_Lt_octets_44 (lv_at hl 0 rfl) ?_
                      refine lv_imul hx hb d_Lt_octets_46 ?_
                      refine lv_topi (fun z_73 ez_73 => ?_)
                      obtain rfl : z_73 = 48 := ez_73.trans (by decide)
                      refine lv_lushr hx hb d_Lt_octets_47 rfl ?_
                      refine lv_topl (fun x_74 ex_74 => ?_)
                      refine lv_l2i hx hb d_Lt_octets_48 rfl ?_
                      refine lv_topi (fun x_75 ex_75 => ?_)
                      refine lv_sipush (v := 255) hx hb d_Lt_octets_49 (by decide) ?_
                      refine lv_iand hx hb d_Lt_octets_52 ?_
                      refine lv_topi (fun x_76 ex_76 => ?_)
                      refine kVv (n := 1) (As := [.int x_76]) (rest := []) (wr := [(h0, .inr (9, [.ref h1, v2, v3, v4, v5, v6, v7, v8, v9]))]) X hP hD hS hA (c25_So_append l D aI aJ aZ _ (h1) (h2) (h3) (h4) (x_76) (v10) (f_66) (f_67) (f_68)) (kV_good t_397 t_394 t_395 t_396 t_98) rfl rfl (by decide +kernel) ⟨Nat.le_of_ble_eq_true rfl, Nat.le_of_ble_eq_true rfl⟩ hl.1 rfl rfl (Nat.le_of_ble_eq_true rfl) d_Lt_octets_53 ⟨Nat.le_of_ble_eq_true rfl, Nat.le_of_ble_eq_true rfl⟩ [1, 2, 3, 4] [0] rfl rfl (by decide) (by decide) (by decide) 0 rfl rfl (fun u H locs w_80 hP hD hS => ?_)
                      obtain ⟨f_77, f_78, f_79⟩ := u
                      have hP : va_P D classes [(h0, .inr (9, [.ref h1, v2, v3, v4, v5, v6, v7, v8, v9])), (h1, .inr (0, [.ref h2, .ref h3, .ref h4, v10, .int 7])), (h2, .inl (aI, 600, .inl f_77)), (h3, .inl (aI, 600, .inl f_78)), (h4, .inl (aI, 600, .inl f_79))] H := hP
                      have hD : va_D A [(h0, .inr (9, [.ref h1, v2, v3, v4, v5, v6, v7, v8, v9])), (h1, .inr (0, [.ref h2, .ref h3, .ref h4, v10, .int 7])), (h2, .inl (aI, 600, .inl f_77)), (h3, .inl (aI, 600, .inl f_78)), (h4, .inl (aI, 600, .inl f_79))] := hD
                      refine lv_iinc (v := 7) (lv' := [(4, .int 7), (0, .ref h0), (1, .int p0), (2, .long p1)]) hx hb d_Lt_octets_56 hl (k := 0) rfl (by decide) (by decide) rfl (fun ls hl => ?_)
                      refine lv_goto (tgt := 31) hx hb d_Lt_octets_59 (by decide) ?_
                      refine lv_iload hx hb d_Lt_octets_31 (lv_at hl 0 rfl) ?_
                      refine lv_iload_n hx hb d_Lt_octets_33 rfl (lv_at hl 2 rfl) ?_
                      refine lv_icmp_ge (tgt := 62) hx hb d_Lt_octets_34 (by decide) (fun c_81 => ?_) (fun c_81 => ?_)
                      · refine lv_aload_n hx hb d_Lt_octets_62 rfl (lv_at hl 1 rfl) ?_
                        refine kget X hP 0 rfl rfl i_Lt 0 (by decide) t_358 rfl (v := .ref h1) rfl d_Lt_octets_63 ?_
                        refine kVi (n := 0) (As := []) (rest := []) (wr := [(h0, .inr (9, [.ref h1, v2, v3, v4, v5, v6, v7, v8, v9])), (h2, .inl (aI, 600, .inl f_77)), (h3, .inl (aI, 600, .inl f_78)), (h4, .inl (aI, 600, .inl f_79))]) X hP hD hS hA (c26_So_size l D aI aJ aZ _ (h1) (.ref h2) (.ref h3) (.ref h4) (v10)) (kV_good t_393 t_390 t_391 t_392 t_98) rfl rfl (by decide +kernel) ⟨Nat.le_of_ble_eq_true rfl, Nat.le_of_ble_eq_true rfl⟩ hl.1 rfl rfl (Nat.le_of_ble_eq_true rfl) d_Lt_octets_66 ⟨Nat.le_of_ble_eq_true rfl, Nat.le_of_ble_eq_true rfl⟩ [1] [0, 2, 3, 4] rfl rfl (by decide) (by decide) (by decide) 0 rfl rfl (fun r_83 u H locs w_82 hP hD hS => ?_)
                        have hP : va_P D classes [(h0, .inr (9, [.ref h1, v2, v3, v4, v5, v6, v7, v8, v9])), (h2, .inl (aI, 600, .inl f_77)), (h3, .inl (aI, 600, .inl f_78)), (h4, .inl (aI, 600, .inl f_79)), (h1, .inr (0, [.ref h2, .ref h3, .ref h4, v10, .int 7]))] H := hP
                        have hD : va_D A [(h0, .inr (9, [.ref h1, v2, v3, v4, v5, v6, v7, v8, v9])), (h2, .inl (aI, 600, .inl f_77)), (h3, .inl (aI, 600, .inl f_78)), (h4, .inl (aI, 600, .inl f_79)), (h1, .inr (0, [.ref h2, .ref h3, .ref h4, v10, .int 7]))] := hD
                        obtain rfl : r_83 = 7 := w_82
                        exact kri X hr hlocks hS () (koct_in c_1 c_2 (Int32.toInt_inj.mp (by simp only [Int32.lt_iff_toInt_lt, Int32.le_iff_toInt_le, kz_m1, kz_0, kz_1, kz_2, kz_3, kz_4, kz_5, kz_6, kz_7, kz_8, kz_600] at c_1 c_2 c_5 c_6 c_15 c_26 c_37 c_48 c_59 c_70 c_81; simp only [kz_m1, kz_0, kz_1, kz_2, kz_3, kz_4, kz_5, kz_6, kz_7, kz_8, kz_600]; omega))) (hP.sub [] rfl) (hD.sub [] (by decide) rfl) d_Lt_octets_69
                      · refine lv_aload_n hx hb d_Lt_octets_37 rfl (lv_at hl 1 rfl) ?_
                        refine kget X hP 0 rfl rfl i_Lt 0 (by decide) t_358 rfl (v := .ref h1) rfl d_Lt_octets_38 ?_
                        refine lv_lload_n hx hb d_Lt_octets_41 rfl (lv_at hl 3 rfl) ?_
                        refine lv_bipush (v := 8) hx hb d_Lt_octets_42 (by decide) ?_
                        refine lv_iload hx hb d_Lt_octets_44 (lv_at hl 0 rfl) ?_
                        refine lv_imul hx hb d_Lt_octets_46 ?_
                        refine lv_topi (fun z_84 ez_84 => ?_)
                        obtain rfl : z_84 = 56 := ez_84.trans (by decide)
                        refine lv_lushr hx hb d_Lt_octets_47 rfl ?_
                        refine lv_topl (fun x_85 ex_85 => ?_)
                        refine lv_l2i hx hb d_Lt_octets_48 rfl ?_
                        refine lv_topi (fun x_86 ex_86 => ?_)
                        refine lv_sipush (v := 255) hx hb d_Lt_octets_49 (by decide) ?_
                        refine lv_iand hx hb d_Lt_octets_52 ?_
                        refine lv_topi (fun x_87 ex_87 => ?_)
                        refine kVv (n := 1) (As := [.int x_87]) (rest := []) (wr := [(h0, .inr (9, [.ref h1, v2, v3, v4, v5, v6, v7, v8, v9]))]) X hP hD hS hA (c27_So_append l D aI aJ aZ _ (h1) (h2) (h3) (h4) (x_87) (v10) (f_77) (f_78) (f_79)) (kV_good t_397 t_394 t_395 t_396 t_98) rfl rfl (by decide +kernel) ⟨Nat.le_of_ble_eq_true rfl, Nat.le_of_ble_eq_true rfl⟩ hl.1 rfl rfl (Nat.le_of_ble_eq_true rfl) d_Lt_octets_53 ⟨Nat.le_of_ble_eq_true rfl, Nat.le_of_ble_eq_true rfl⟩ [1, 2, 3, 4] [0] rfl rfl (by decide) (by decide) (by decide) 0 rfl rfl (fun u H locs w_91 hP hD hS => ?_)
                        obtain ⟨f_88, f_89, f_90⟩ := u
                        have hP : va_P D classes [(h0, .inr (9, [.ref h1, v2, v3, v4, v5, v6, v7, v8, v9])), (h1, .inr (0, [.ref h2, .ref h3, .ref h4, v10, .int 8])), (h2, .inl (aI, 600, .inl f_88)), (h3, .inl (aI, 600, .inl f_89)), (h4, .inl (aI, 600, .inl f_90))] H := hP
                        have hD : va_D A [(h0, .inr (9, [.ref h1, v2, v3, v4, v5, v6, v7, v8, v9])), (h1, .inr (0, [.ref h2, .ref h3, .ref h4, v10, .int 8])), (h2, .inl (aI, 600, .inl f_88)), (h3, .inl (aI, 600, .inl f_89)), (h4, .inl (aI, 600, .inl f_90))] := hD
                        refine lv_iinc (v := 8) (lv' := [(4, .int 8), (0, .ref h0), (1, .int p0), (2, .long p1)]) hx hb d_Lt_octets_56 hl (k := 0) rfl (by decide) (by decide) rfl (fun ls hl => ?_)
                        refine lv_goto (tgt := 31) hx hb d_Lt_octets_59 (by decide) ?_
                        refine lv_iload hx hb d_Lt_octets_31 (lv_at hl 0 rfl) ?_
                        refine lv_iload_n hx hb d_Lt_octets_33 rfl (lv_at hl 2 rfl) ?_
                        refine lv_icmp_ge (tgt := 62) hx hb d_Lt_octets_34 (by decide) (fun c_92 => ?_) (fun c_92 => ?_)
                        · refine lv_aload_n hx hb d_Lt_octets_62 rfl (lv_at hl 1 rfl) ?_
                          refine kget X hP 0 rfl rfl i_Lt 0 (by decide) t_358 rfl (v := .ref h1) rfl d_Lt_octets_63 ?_
                          refine kVi (n := 0) (As := []) (rest := []) (wr := [(h0, .inr (9, [.ref h1, v2, v3, v4, v5, v6, v7, v8, v9])), (h2, .inl (aI, 600, .inl f_88)), (h3, .inl (aI, 600, .inl f_89)), (h4, .inl (aI, 600, .inl f_90))]) X hP hD hS hA (c28_So_size l D aI aJ aZ _ (h1) (.ref h2) (.ref h3) (.ref h4) (v10)) (kV_good t_393 t_390 t_391 t_392 t_98) rfl rfl (by decide +kernel) ⟨Nat.le_of_ble_eq_true rfl, Nat.le_of_ble_eq_true rfl⟩ hl.1 rfl rfl (Nat.le_of_ble_eq_true rfl) d_Lt_octets_66 ⟨Nat.le_of_ble_eq_true rfl, Nat.le_of_ble_eq_true rfl⟩ [1] [0, 2, 3, 4] rfl rfl (by decide) (by decide) (by decide) 0 rfl rfl (fun r_94 u H locs w_93 hP hD hS => ?_)
                          have hP : va_P D classes [(h0, .inr (9, [.ref h1, v2, v3, v4, v5, v6, v7, v8, v9])), (h2, .inl (aI, 600, .inl f_88)), (h3, .inl (aI, 600, .inl f_89)), (h4, .inl (aI, 600, .inl f_90)), (h1, .inr (0, [.ref h2, .ref h3, .ref h4, v10, .int 8]))] H := hP
                          have hD : va_D A [(h0, .inr (9, [.ref h1, v2, v3, v4, v5, v6, v7, v8, v9])), (h2, .inl (aI, 600, .inl f_88)), (h3, .inl (aI, 600, .inl f_89)), (h4, .inl (aI, 600, .inl f_90)), (h1, .inr (0, [.ref h2, .ref h3, .ref h4, v10, .int 8]))] := hD
                          obtain rfl : r_94 = 8 := w_93
                          exact kri X hr hlocks hS () (koct_in c_1 c_2 (Int32.toInt_inj.mp (by simp only [Int32.lt_iff_toInt_lt, Int32.le_iff_toInt_le, kz_m1, kz_0, kz_1, kz_2, kz_3, kz_4, kz_5, kz_6, kz_7, kz_8, kz_600] at c_1 c_2 c_5 c_6 c_15 c_26 c_37 c_48 c_59 c_70 c_81 c_92; simp only [kz_m1, kz_0, kz_1, kz_2, kz_3, kz_4, kz_5, kz_6, kz_7, kz_8, kz_600]; omega))) (hP.sub [] rfl) (hD.sub [] (by decide) rfl) d_Lt_octets_69
                        · exfalso
                          first
                            | contradiction
                            | (simp only [Int32.lt_iff_toInt_lt, Int32.le_iff_toInt_le, kz_m1, kz_0, kz_1, kz_2, kz_3, kz_4, kz_5, kz_6, kz_7, kz_8, kz_600] at c_1 c_2 c_5 c_6 c_15 c_26 c_37 c_48 c_59 c_70 c_81 c_92; omega)
      · exfalso
        first
          | contradiction
          | (simp only [Int32.lt_iff_toInt_lt, Int32.le_iff_toInt_le, kz_m1, kz_0, kz_1, kz_2, kz_3, kz_4, kz_5, kz_6, kz_7, kz_8, kz_600] at c_1 c_2 c_5; omega)
set_option maxHeartbeats 4000000 in
set_option maxRecDepth 100000 in
theorem c30_Mo_unread (l : Launch) (D : va_G) (aI aJ aZ : ClassId) (sz : Nat) (h0 : Nat) (v0 : Value) (v1 : Value) (v2 : Value) (v3 : Value) (v4 : Value) (v5 : Value) (v6 : Value) (v7 : Value) (v8 : Value) (v9 : Value) (v10 : Value) (v11 : Value) (v12 : Value) (v13 : Value) (v14 : Value) (v15 : Value) (v16 : Value) (v17 : Value) (v18 : Value) (v19 : Value) (v20 : Value) (v21 : Value) (v22 : Value) (v23 : Value) (v24 : Value) (v25 : Value) (v26 : Value) (v27 : Value) (v28 : Value) (v29 : Value) (v30 : Value) (v31 : Value) (v32 : Value) (v33 : Value) (v34 : Value) (v35 : Value) (v36 : Value) (v37 : Value) (v38 : Value) (v39 : Value) (v40 : Value) (v41 : Value) (v42 : Value) : Met l y_Mo_unread (kq y_Mo_unread prog_12_method_3_code 1 none) { frames := 0, cells := 0, slots := 0, locals := 0 } (va_Pc [.ref h0] (kPre D (kT aI aJ aZ) [(h0, .inr (10, [v0, v1, v2, v3, v4, v5, .int 0, v6, .int 0, v7, v8, v9, v10, v11, v12, v13, v14, .int 0, v15, v16, v17, .int 0, .int 0, v18, v19, v20, v21, v22, v23, v24, v25, v26, v27, v28, v29, v30, v31, v32, v33, v34, v35, v36, v37, v38, v39, v40, v41, v42]))] sz)) (va_Qv (fun (_ : Unit) => True) (fun u => kB D (va_A [(h0, .inr (10, [v0, v1, v2, v3, v4, v5, .int 0, v6, .int 0, v7, v8, v9, v10, v11, v12, v13, v14, .int 0, v15, v16, v17, .int 0, .int 0, v18, v19, v20, v21, v22, v23, v24, v25, v26, v27, v28, v29, v30, v31, v32, v33, v34, v35, v36, v37, v38, v39, v40, v41, v42]))] sz) ((fun (_ : Unit) => ([(h0, .inr (10, [v0, v1, v2, v3, v4, v5, .int 0, v6, .int 0, v7, v8, v9, v10, v11, v12, v13, v14, .int 0, v15, v16, v17, .int 0, .int 0, v18, v19, v20, v21, v22, v23, v24, v25, v26, v27, v28, v29, v30, v31, v32, v33, v34, v35, v36, v37, v38, v39, v40, v41, v42]))] : va_W)) u)) (va_A [(h0, .inr (10, [v0, v1, v2, v3, v4, v5, .int 0, v6, .int 0, v7, v8, v9, v10, v11, v12, v13, v14, .int 0, v15, v16, v17, .int 0, .int 0, v18, v19, v20, v21, v22, v23, v24, v25, v26, v27, v28, v29, v30, v31, v32, v33, v34, v35, v36, v37, v38, v39, v40, v41, v42]))] sz)) 0 0 (va_A [(h0, .inr (10, [v0, v1, v2, v3, v4, v5, .int 0, v6, .int 0, v7, v8, v9, v10, v11, v12, v13, v14, .int 0, v15, v16, v17, .int 0, .int 0, v18, v19, v20, v21, v22, v23, v24, v25, v26, v27, v28, v29, v30, v31, v32, v33, v34, v35, v36, v37, v38, v39, v40, v41, v42]))] sz) := by
  refine kMet (y := y_Mo_unread) (bytes := prog_12_method_3_code) (maxL := 1) (ret := none) (av := [.ref h0]) (ws := [(h0, .inr (10, [v0, v1, v2, v3, v4, v5, .int 0, v6, .int 0, v7, v8, v9, v10, v11, v12, v13, v14, .int 0, v15, v16, v17, .int 0, .int 0, v18, v19, v20, v21, v22, v23, v24, v25, v26, v27, v28, v29, v30, v31, v32, v33, v34, v35, v36, v37, v38, v39, v40, v41, v42]))]) (Qc := fun A => va_Qv (fun (_ : Unit) => True) (fun u => kB D A ((fun (_ : Unit) => ([(h0, .inr (10, [v0, v1, v2, v3, v4, v5, .int 0, v6, .int 0, v7, v8, v9, v10, v11, v12, v13, v14, .int 0, v15, v16, v17, .int 0, .int 0, v18, v19, v20, v21, v22, v23, v24, v25, v26, v27, v28, v29, v30, v31, v32, v33, v34, v35, v36, v37, v38, v39, v40, v41, v42]))] : va_W)) u)) A) "LayoutTokensModel" "unread" (by decide) rfl rfl (Nat.le_of_ble_eq_true rfl) ?_
  intro p e s m below meth c A ls X hr hlocks hin hA hP hD hl
  have hx := X.1.1
  have hb := X.1.2.1
  have hown := X.1.2.2.2.1
  have hk := X.1.2.2.2.2
  have hS : va_S A s.heap s.heap [] := va_S.rf
  have hl : lv_has ls 1 [(0, .ref h0)] := hl
  refine lv_aload_n hx hb d_Mo_unread_0 rfl (lv_at hl 0 rfl) ?_
  refine lv_iconst (v := 0) hx hb d_Mo_unread_1 (by decide) ?_
  refine kput X hP hD hS 0 rfl rfl i_Mo ty_Mo ty_Mo_ok nm_Mo 6 (by decide) t_994 rfl (v := .int 0) rfl rfl (Nat.le_of_ble_eq_true rfl) d_Mo_unread_2 (fun H locs hP hD hS => ?_)
  have hP : va_P D classes [(h0, .inr (10, [v0, v1, v2, v3, v4, v5, .int 0, v6, .int 0, v7, v8, v9, v10, v11, v12, v13, v14, .int 0, v15, v16, v17, .int 0, .int 0, v18, v19, v20, v21, v22, v23, v24, v25, v26, v27, v28, v29, v30, v31, v32, v33, v34, v35, v36, v37, v38, v39, v40, v41, v42]))] H := hP
  have hD : va_D A [(h0, .inr (10, [v0, v1, v2, v3, v4, v5, .int 0, v6, .int 0, v7, v8, v9, v10, v11, v12, v13, v14, .int 0, v15, v16, v17, .int 0, .int 0, v18, v19, v20, v21, v22, v23, v24, v25, v26, v27, v28, v29, v30, v31, v32, v33, v34, v35, v36, v37, v38, v39, v40, v41, v42]))] := hD
  refine lv_aload_n hx hb d_Mo_unread_5 rfl (lv_at hl 0 rfl) ?_
  refine lv_iconst (v := 0) hx hb d_Mo_unread_6 (by decide) ?_
  refine kput X hP hD hS 0 rfl rfl i_Mo ty_Mo ty_Mo_ok nm_Mo 8 (by decide) t_996 rfl (v := .int 0) rfl rfl (Nat.le_of_ble_eq_true rfl) d_Mo_unread_7 (fun H locs hP hD hS => ?_)
  have hP : va_P D classes [(h0, .inr (10, [v0, v1, v2, v3, v4, v5, .int 0, v6, .int 0, v7, v8, v9, v10, v11, v12, v13, v14, .int 0, v15, v16, v17, .int 0, .int 0, v18, v19, v20, v21, v22, v23, v24, v25, v26, v27, v28, v29, v30, v31, v32, v33, v34, v35, v36, v37, v38, v39, v40, v41, v42]))] H := hP
  have hD : va_D A [(h0, .inr (10, [v0, v1, v2, v3, v4, v5, .int 0, v6, .int 0, v7, v8, v9, v10, v11, v12, v13, v14, .int 0, v15, v16, v17, .int 0, .int 0, v18, v19, v20, v21, v22, v23, v24, v25, v26, v27, v28, v29, v30, v31, v32, v33, v34, v35, v36, v37, v38, v39, v40, v41, v42]))] := hD
  refine lv_aload_n hx hb d_Mo_unread_10 rfl (lv_at hl 0 rfl) ?_
  refine lv_iconst (v := 0) hx hb d_Mo_unread_11 (by decide) ?_
  refine kput X hP hD hS 0 rfl rfl i_Mo ty_Mo ty_Mo_ok nm_Mo 22 (by decide) t_1010 rfl (v := .int 0) rfl rfl (Nat.le_of_ble_eq_true rfl) d_Mo_unread_12 (fun H locs hP hD hS => ?_)
  have hP : va_P D classes [(h0, .inr (10, [v0, v1, v2, v3, v4, v5, .int 0, v6, .int 0, v7, v8, v9, v10, v11, v12, v13, v14, .int 0, v15, v16, v17, .int 0, .int 0, v18, v19, v20, v21, v22, v23, v24, v25, v26, v27, v28, v29, v30, v31, v32, v33, v34, v35, v36, v37, v38, v39, v40, v41, v42]))] H := hP
  have hD : va_D A [(h0, .inr (10, [v0, v1, v2, v3, v4, v5, .int 0, v6, .int 0, v7, v8, v9, v10, v11, v12, v13, v14, .int 0, v15, v16, v17, .int 0, .int 0, v18, v19, v20, v21, v22, v23, v24, v25, v26, v27, v28, v29, v30, v31, v32, v33, v34, v35, v36, v37, v38, v39, v40, v41, v42]))] := hD
  refine lv_aload_n hx hb d_Mo_unread_15 rfl (lv_at hl 0 rfl) ?_
  refine lv_iconst (v := 0) hx hb d_Mo_unread_16 (by decide) ?_
  refine kput X hP hD hS 0 rfl rfl i_Mo ty_Mo ty_Mo_ok nm_Mo 17 (by decide) t_1005 rfl (v := .int 0) rfl rfl (Nat.le_of_ble_eq_true rfl) d_Mo_unread_17 (fun H locs hP hD hS => ?_)
  have hP : va_P D classes [(h0, .inr (10, [v0, v1, v2, v3, v4, v5, .int 0, v6, .int 0, v7, v8, v9, v10, v11, v12, v13, v14, .int 0, v15, v16, v17, .int 0, .int 0, v18, v19, v20, v21, v22, v23, v24, v25, v26, v27, v28, v29, v30, v31, v32, v33, v34, v35, v36, v37, v38, v39, v40, v41, v42]))] H := hP
  have hD : va_D A [(h0, .inr (10, [v0, v1, v2, v3, v4, v5, .int 0, v6, .int 0, v7, v8, v9, v10, v11, v12, v13, v14, .int 0, v15, v16, v17, .int 0, .int 0, v18, v19, v20, v21, v22, v23, v24, v25, v26, v27, v28, v29, v30, v31, v32, v33, v34, v35, v36, v37, v38, v39, v40, v41, v42]))] := hD
  refine lv_aload_n hx hb d_Mo_unread_20 rfl (lv_at hl 0 rfl) ?_
  refine lv_iconst (v := 0) hx hb d_Mo_unread_21 (by decide) ?_
  refine kput X hP hD hS 0 rfl rfl i_Mo ty_Mo ty_Mo_ok nm_Mo 21 (by decide) t_1009 rfl (v := .int 0) rfl rfl (Nat.le_of_ble_eq_true rfl) d_Mo_unread_22 (fun H locs hP hD hS => ?_)
  have hP : va_P D classes [(h0, .inr (10, [v0, v1, v2, v3, v4, v5, .int 0, v6, .int 0, v7, v8, v9, v10, v11, v12, v13, v14, .int 0, v15, v16, v17, .int 0, .int 0, v18, v19, v20, v21, v22, v23, v24, v25, v26, v27, v28, v29, v30, v31, v32, v33, v34, v35, v36, v37, v38, v39, v40, v41, v42]))] H := hP
  have hD : va_D A [(h0, .inr (10, [v0, v1, v2, v3, v4, v5, .int 0, v6, .int 0, v7, v8, v9, v10, v11, v12, v13, v14, .int 0, v15, v16, v17, .int 0, .int 0, v18, v19, v20, v21, v22, v23, v24, v25, v26, v27, v28, v29, v30, v31, v32, v33, v34, v35, v36, v37, v38, v39, v40, v41, v42]))] := hD
  exact krv X hr hlocks hS () trivial (hP.sub [0] rfl) (hD.sub [0] (by decide) rfl) d_Mo_unread_25
