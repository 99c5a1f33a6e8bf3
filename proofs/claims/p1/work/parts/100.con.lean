set_option maxHeartbeats 4000000 in
set_option maxRecDepth 100000 in
theorem c0_So_init (l : Launch) (D : va_G) (aI aJ aZ : ClassId) (sz : Nat) (h0 : Nat) : Met l y_So_init (kq y_So_init prog_10_method_1_code 1 none) { frames := 1, cells := 4, slots := 2400, locals := 12 } (va_Pc [.ref h0] (kPre D (kT aI aJ aZ) [(h0, .inr (0, [.null, .null, .null, .null, .int 0]))] sz)) (va_Qv (fun (_ : Nat × Nat × Nat × Nat) => True) (fun u => kB D (va_A [(h0, .inr (0, [.null, .null, .null, .null, .int 0]))] sz) ((fun (u : Nat × Nat × Nat × Nat) => ([(h0, .inr (0, [.ref u.1, .ref u.2.1, .ref u.2.2.1, .ref u.2.2.2, .int 0])), (u.1, .inl (aI, 600, .inl (fun _ => 0))), (u.2.1, .inl (aI, 600, .inl (fun _ => 0))), (u.2.2.1, .inl (aI, 600, .inl (fun _ => 0))), (u.2.2.2, .inl (aI, 600, .inl (fun _ => 0)))] : va_W)) u)) (va_A [(h0, .inr (0, [.null, .null, .null, .null, .int 0]))] sz)) 4 2400 (va_A [(h0, .inr (0, [.null, .null, .null, .null, .int 0]))] sz) := by
  refine kMet (y := y_So_init) (bytes := prog_10_method_1_code) (maxL := 1) (ret := none) (av := [.ref h0]) (ws := [(h0, .inr (0, [.null, .null, .null, .null, .int 0]))]) (Qc := fun A => va_Qv (fun (_ : Nat × Nat × Nat × Nat) => True) (fun u => kB D A ((fun (u : Nat × Nat × Nat × Nat) => ([(h0, .inr (0, [.ref u.1, .ref u.2.1, .ref u.2.2.1, .ref u.2.2.2, .int 0])), (u.1, .inl (aI, 600, .inl (fun _ => 0))), (u.2.1, .inl (aI, 600, .inl (fun _ => 0))), (u.2.2.1, .inl (aI, 600, .inl (fun _ => 0))), (u.2.2.2, .inl (aI, 600, .inl (fun _ => 0)))] : va_W)) u)) A) "LayoutTokens$Source" "<init>" (by decide) rfl rfl (Nat.le_of_ble_eq_true rfl) ?_
  intro p e s m below meth c A ls X hr hlocks hin hA hP hD hl
  have hx := X.1.1
  have hb := X.1.2.1
  have hown := X.1.2.2.2.1
  have hk := X.1.2.2.2.2
  have hS : va_S A s.heap s.heap [] := va_S.rf
  have hl : lv_has ls 1 [(0, .ref h0)] := hl
  refine lv_aload_n hx hb d_So_init_0 rfl (lv_at hl 0 rfl) ?_
  refine kobj X t_126 t_119 t_120 hl.1 d_So_init_1 (Nat.le_of_ble_eq_true rfl) (Nat.le_of_ble_eq_true rfl) ?_
  refine lv_aload_n hx hb d_So_init_4 rfl (lv_at hl 0 rfl) ?_
  refine lv_sipush (v := 600) hx hb d_So_init_5 (by decide) ?_
  refine knewa X hP hD hS hA t_143 rfl 0 rfl (a0 := (600, .inl (fun _ => 0))) (fun _ => rfl) (by decide) (N' := 600) (by decide) (by decide) (Nat.le_of_ble_eq_true rfl) (Nat.le_of_ble_eq_true rfl) d_So_init_8 (fun q_1 H hP hD hS => ?_)
  have hP : va_P D classes [(h0, .inr (0, [.null, .null, .null, .null, .int 0])), (q_1, .inl (aI, 600, .inl (fun _ => 0)))] H := hP
  have hD : va_D A [(h0, .inr (0, [.null, .null, .null, .null, .int 0])), (q_1, .inl (aI, 600, .inl (fun _ => 0)))] := hD
  refine W.widen (k := 1) (n := 600) (Nat.le_of_ble_eq_true rfl) (Nat.le_of_ble_eq_true rfl) ?_
  refine kputF X hP hD hS 0 rfl rfl i_So ty_So ty_So_ok nm_So hin 0 (by decide) t_127 rfl (v := .ref q_1) rfl rfl (Nat.le_of_ble_eq_true rfl) d_So_init_10 (fun H locs hP hD hS => ?_)
  have hP : va_P D classes [(h0, .inr (0, [.ref q_1, .null, .null, .null, .int 0])), (q_1, .inl (aI, 600, .inl (fun _ => 0)))] H := hP
  have hD : va_D A [(h0, .inr (0, [.ref q_1, .null, .null, .null, .int 0])), (q_1, .inl (aI, 600, .inl (fun _ => 0)))] := hD
  refine lv_aload_n hx hb d_So_init_13 rfl (lv_at hl 0 rfl) ?_
  refine lv_sipush (v := 600) hx hb d_So_init_14 (by decide) ?_
  refine knewa X hP hD hS hA t_143 rfl 0 rfl (a0 := (600, .inl (fun _ => 0))) (fun _ => rfl) (by decide) (N' := 600) (by decide) (by decide) (Nat.le_of_ble_eq_true rfl) (Nat.le_of_ble_eq_true rfl) d_So_init_17 (fun q_2 H hP hD hS => ?_)
  have hP : va_P D classes [(h0, .inr (0, [.ref q_1, .null, .null, .null, .int 0])), (q_1, .inl (aI, 600, .inl (fun _ => 0))), (q_2, .inl (aI, 600, .inl (fun _ => 0)))] H := hP
  have hD : va_D A [(h0, .inr (0, [.ref q_1, .null, .null, .null, .int 0])), (q_1, .inl (aI, 600, .inl (fun _ => 0))), (q_2, .inl (aI, 600, .inl (fun _ => 0)))] := hD
  refine W.widen (k := 2) (n := 1200) (Nat.le_of_ble_eq_true rfl) (Nat.le_of_ble_eq_true rfl) ?_
  refine kputF X hP hD hS 0 rfl rfl i_So ty_So ty_So_ok nm_So hin 1 (by decide) t_128 rfl (v := .ref q_2) rfl rfl (Nat.le_of_ble_eq_true rfl) d_So_init_19 (fun H locs hP hD hS => ?_)
  have hP : va_P D classes [(h0, .inr (0, [.ref q_1, .ref q_2, .null, .null, .int 0])), (q_1, .inl (aI, 600, .inl (fun _ => 0))), (q_2, .inl (aI, 600, .inl (fun _ => 0)))] H := hP
  have hD : va_D A [(h0, .inr (0, [.ref q_1, .ref q_2, .null, .null, .int 0])), (q_1, .inl (aI, 600, .inl (fun _ => 0))), (q_2, .inl (aI, 600, .inl (fun _ => 0)))] := hD
  refine lv_aload_n hx hb d_So_init_22 rfl (lv_at hl 0 rfl) ?_
  refine lv_sipush (v := 600) hx hb d_So_init_23 (by decide) ?_
  refine knewa X hP hD hS hA t_143 rfl 0 rfl (a0 := (600, .inl (fun _ => 0))) (fun _ => rfl) (by decide) (N' := 600) (by decide) (by decide) (Nat.le_of_ble_eq_true rfl) (Nat.le_of_ble_eq_true rfl) d_So_init_26 (fun q_3 H hP hD hS => ?_)
  have hP : va_P D classes [(h0, .inr (0, [.ref q_1, .ref q_2, .null, .null, .int 0])), (q_1, .inl (aI, 600, .inl (fun _ => 0))), (q_2, .inl (aI, 600, .inl (fun _ => 0))), (q_3, .inl (aI, 600, .inl (fun _ => 0)))] H := hP
  have hD : va_D A [(h0, .inr (0, [.ref q_1, .ref q_2, .null, .null, .int 0])), (q_1, .inl (aI, 600, .inl (fun _ => 0))), (q_2, .inl (aI, 600, .inl (fun _ => 0))), (q_3, .inl (aI, 600, .inl (fun _ => 0)))] := hD
  refine W.widen (k := 3) (n := 1800) (Nat.le_of_ble_eq_true rfl) (Nat.le_of_ble_eq_true rfl) ?_
  refine kputF X hP hD hS 0 rfl rfl i_So ty_So ty_So_ok nm_So hin 2 (by decide) t_129 rfl (v := .ref q_3) rfl rfl (Nat.le_of_ble_eq_true rfl) d_So_init_28 (fun H locs hP hD hS => ?_)
  have hP : va_P D classes [(h0, .inr (0, [.ref q_1, .ref q_2, .ref q_3, .null, .int 0])), (q_1, .inl (aI, 600, .inl (fun _ => 0))), (q_2, .inl (aI, 600, .inl (fun _ => 0))), (q_3, .inl (aI, 600, .inl (fun _ => 0)))] H := hP
  have hD : va_D A [(h0, .inr (0, [.ref q_1, .ref q_2, .ref q_3, .null, .int 0])), (q_1, .inl (aI, 600, .inl (fun _ => 0))), (q_2, .inl (aI, 600, .inl (fun _ => 0))), (q_3, .inl (aI, 600, .inl (fun _ => 0)))] := hD
  refine lv_aload_n hx hb d_So_init_31 rfl (lv_at hl 0 rfl) ?_
  refine lv_sipush (v := 600) hx hb d_So_init_32 (by decide) ?_
  refine knewa X hP hD hS hA t_143 rfl 0 rfl (a0 := (600, .inl (fun _ => 0))) (fun _ => rfl) (by decide) (N' := 600) (by decide) (by decide) (Nat.le_of_ble_eq_true rfl) (Nat.le_of_ble_eq_true rfl) d_So_init_35 (fun q_4 H hP hD hS => ?_)
  have hP : va_P D classes [(h0, .inr (0, [.ref q_1, .ref q_2, .ref q_3, .null, .int 0])), (q_1, .inl (aI, 600, .inl (fun _ => 0))), (q_2, .inl (aI, 600, .inl (fun _ => 0))), (q_3, .inl (aI, 600, .inl (fun _ => 0))), (q_4, .inl (aI, 600, .inl (fun _ => 0)))] H := hP
  have hD : va_D A [(h0, .inr (0, [.ref q_1, .ref q_2, .ref q_3, .null, .int 0])), (q_1, .inl (aI, 600, .inl (fun _ => 0))), (q_2, .inl (aI, 600, .inl (fun _ => 0))), (q_3, .inl (aI, 600, .inl (fun _ => 0))), (q_4, .inl (aI, 600, .inl (fun _ => 0)))] := hD
  refine W.widen (k := 4) (n := 2400) (Nat.le_of_ble_eq_true rfl) (Nat.le_of_ble_eq_true rfl) ?_
  refine kputF X hP hD hS 0 rfl rfl i_So ty_So ty_So_ok nm_So hin 3 (by decide) t_130 rfl (v := .ref q_4) rfl rfl (Nat.le_of_ble_eq_true rfl) d_So_init_37 (fun H locs hP hD hS => ?_)
  have hP : va_P D classes [(h0, .inr (0, [.ref q_1, .ref q_2, .ref q_3, .ref q_4, .int 0])), (q_1, .inl (aI, 600, .inl (fun _ => 0))), (q_2, .inl (aI, 600, .inl (fun _ => 0))), (q_3, .inl (aI, 600, .inl (fun _ => 0))), (q_4, .inl (aI, 600, .inl (fun _ => 0)))] H := hP
  have hD : va_D A [(h0, .inr (0, [.ref q_1, .ref q_2, .ref q_3, .ref q_4, .int 0])), (q_1, .inl (aI, 600, .inl (fun _ => 0))), (q_2, .inl (aI, 600, .inl (fun _ => 0))), (q_3, .inl (aI, 600, .inl (fun _ => 0))), (q_4, .inl (aI, 600, .inl (fun _ => 0)))] := hD
  refine lv_aload_n hx hb d_So_init_40 rfl (lv_at hl 0 rfl) ?_
  refine lv_iconst (v := 0) hx hb d_So_init_41 (by decide) ?_
  refine kput X hP hD hS 0 rfl rfl i_So ty_So ty_So_ok nm_So 4 (by decide) t_131 rfl (v := .int 0) rfl rfl (Nat.le_of_ble_eq_true rfl) d_So_init_42 (fun H locs hP hD hS => ?_)
  have hP : va_P D classes [(h0, .inr (0, [.ref q_1, .ref q_2, .ref q_3, .ref q_4, .int 0])), (q_1, .inl (aI, 600, .inl (fun _ => 0))), (q_2, .inl (aI, 600, .inl (fun _ => 0))), (q_3, .inl (aI, 600, .inl (fun _ => 0))), (q_4, .inl (aI, 600, .inl (fun _ => 0)))] H := hP
  have hD : va_D A [(h0, .inr (0, [.ref q_1, .ref q_2, .ref q_3, .ref q_4, .int 0])), (q_1, .inl (aI, 600, .inl (fun _ => 0))), (q_2, .inl (aI, 600, .inl (fun _ => 0))), (q_3, .inl (aI, 600, .inl (fun _ => 0))), (q_4, .inl (aI, 600, .inl (fun _ => 0)))] := hD
  exact krv X hr hlocks hS (q_1, q_2, q_3, q_4) trivial (hP.sub [0, 1, 2, 3, 4] rfl) (hD.sub [0, 1, 2, 3, 4] (by decide) rfl) d_So_init_45
set_option maxHeartbeats 4000000 in
set_option maxRecDepth 100000 in
theorem c1_Li_init (l : Launch) (D : va_G) (aI aJ aZ : ClassId) (sz : Nat) (h0 : Nat) (r0 : Nat) : Met l y_Li_init (kq y_Li_init prog_6_method_1_code 2 none) { frames := 1, cells := 0, slots := 0, locals := 12 } (va_Pc [.ref h0, .ref r0] (kPre D (kT aI aJ aZ) [(h0, .inr (1, [.null]))] sz)) (va_Qv (fun (_ : Unit) => True) (fun u => kB D (va_A [(h0, .inr (1, [.null]))] sz) ((fun (_ : Unit) => ([(h0, .inr (1, [.ref r0]))] : va_W)) u)) (va_A [(h0, .inr (1, [.null]))] sz)) 0 0 (va_A [(h0, .inr (1, [.null]))] sz) := by
  refine kMet (y := y_Li_init) (bytes := prog_6_method_1_code) (maxL := 2) (ret := none) (av := [.ref h0, .ref r0]) (ws := [(h0, .inr (1, [.null]))]) (Qc := fun A => va_Qv (fun (_ : Unit) => True) (fun u => kB D A ((fun (_ : Unit) => ([(h0, .inr (1, [.ref r0]))] : va_W)) u)) A) "LayoutTokens$LiterateLines" "<init>" (by decide) rfl rfl (Nat.le_of_ble_eq_true rfl) ?_
  intro p e s m below meth c A ls X hr hlocks hin hA hP hD hl
  have hx := X.1.1
  have hb := X.1.2.1
  have hown := X.1.2.2.2.1
  have hk := X.1.2.2.2.2
  have hS : va_S A s.heap s.heap [] := va_S.rf
  have hl : lv_has ls 2 [(0, .ref h0), (1, .ref r0)] := hl
  refine lv_aload_n hx hb d_Li_init_0 rfl (lv_at hl 0 rfl) ?_
  refine kobj X t_149 t_119 t_120 hl.1 d_Li_init_1 (Nat.le_of_ble_eq_true rfl) (Nat.le_of_ble_eq_true rfl) ?_
  refine lv_aload_n hx hb d_Li_init_4 rfl (lv_at hl 0 rfl) ?_
  refine lv_aload_n hx hb d_Li_init_5 rfl (lv_at hl 1 rfl) ?_
  refine kputF X hP hD hS 0 rfl rfl i_Li ty_Li ty_Li_ok nm_Li hin 0 (by decide) t_150 rfl (v := .ref r0) rfl rfl (Nat.le_of_ble_eq_true rfl) d_Li_init_6 (fun H locs hP hD hS => ?_)
  have hP : va_P D classes [(h0, .inr (1, [.ref r0]))] H := hP
  have hD : va_D A [(h0, .inr (1, [.ref r0]))] := hD
  exact krv X hr hlocks hS () trivial (hP.sub [0] rfl) (hD.sub [0] (by decide) rfl) d_Li_init_9
set_option maxHeartbeats 4000000 in
set_option maxRecDepth 100000 in
theorem c2_Le_init (l : Launch) (D : va_G) (aI aJ aZ : ClassId) (sz : Nat) (h0 : Nat) (r0 : Nat) : Met l y_Le_init (kq y_Le_init prog_5_method_1_code 2 none) { frames := 1, cells := 8, slots := 4800, locals := 12 } (va_Pc [.ref h0, .ref r0] (kPre D (kT aI aJ aZ) [(h0, .inr (2, [.null, .null, .null, .null, .null, .null, .null, .null, .null, .int 0, .int 0]))] sz)) (va_Qv (fun (_ : Nat × Nat × Nat × Nat × Nat × Nat × Nat × Nat) => True) (fun u => kB D (va_A [(h0, .inr (2, [.null, .null, .null, .null, .null, .null, .null, .null, .null, .int 0, .int 0]))] sz) ((fun (u : Nat × Nat × Nat × Nat × Nat × Nat × Nat × Nat) => ([(h0, .inr (2, [.ref r0, .ref u.1, .ref u.2.1, .ref u.2.2.1, .ref u.2.2.2.1, .ref u.2.2.2.2.1, .ref u.2.2.2.2.2.1, .ref u.2.2.2.2.2.2.1, .ref u.2.2.2.2.2.2.2, .int 0, .int 0])), (u.1, .inl (aI, 600, .inl (fun _ => 0))), (u.2.1, .inl (aI, 600, .inl (fun _ => 0))), (u.2.2.1, .inl (aI, 600, .inl (fun _ => 0))), (u.2.2.2.1, .inl (aI, 600, .inl (fun _ => 0))), (u.2.2.2.2.1, .inl (aJ, 600, .inr (.inl (fun _ => 0)))), (u.2.2.2.2.2.1, .inl (aI, 600, .inl (fun _ => 0))), (u.2.2.2.2.2.2.1, .inl (aI, 600, .inl (fun _ => 0))), (u.2.2.2.2.2.2.2, .inl (aI, 600, .inl (fun _ => 0)))] : va_W)) u)) (va_A [(h0, .inr (2, [.null, .null, .null, .null, .null, .null, .null, .null, .null, .int 0, .int 0]))] sz)) 8 4800 (va_A [(h0, .inr (2, [.null, .null, .null, .null, .null, .null, .null, .null, .null, .int 0, .int 0]))] sz) := by
  refine kMet (y := y_Le_init) (bytes := prog_5_method_1_code) (maxL := 2) (ret := none) (av := [.ref h0, .ref r0]) (ws := [(h0, .inr (2, [.null, .null, .null, .null, .null, .null, .null, .null, .null, .int 0, .int 0]))]) (Qc := fun A => va_Qv (fun (_ : Nat × Nat × Nat × Nat × Nat × Nat × Nat × Nat) => True) (fun u => kB D A ((fun (u : Nat × Nat × Nat × Nat × Nat × Nat × Nat × Nat) => ([(h0, .inr (2, [.ref r0, .ref u.1, .ref u.2.1, .ref u.2.2.1, .ref u.2.2.2.1, .ref u.2.2.2.2.1, .ref u.2.2.2.2.2.1, .ref u.2.2.2.2.2.2.1, .ref u.2.2.2.2.2.2.2, .int 0, .int 0])), (u.1, .inl (aI, 600, .inl (fun _ => 0))), (u.2.1, .inl (aI, 600, .inl (fun _ => 0))), (u.2.2.1, .inl (aI, 600, .inl (fun _ => 0))), (u.2.2.2.1, .inl (aI, 600, .inl (fun _ => 0))), (u.2.2.2.2.1, .inl (aJ, 600, .inr (.inl (fun _ => 0)))), (u.2.2.2.2.2.1, .inl (aI, 600, .inl (fun _ => 0))), (u.2.2.2.2.2.2.1, .inl (aI, 600, .inl (fun _ => 0))), (u.2.2.2.2.2.2.2, .inl (aI, 600, .inl (fun _ => 0)))] : va_W)) u)) A) "LayoutTokens$Lexemes" "<init>" (by decide) rfl rfl (Nat.le_of_ble_eq_true rfl) ?_
  intro p e s m below meth c A ls X hr hlocks hin hA hP hD hl
  have hx := X.1.1
  have hb := X.1.2.1
  have hown := X.1.2.2.2.1
  have hk := X.1.2.2.2.2
  have hS : va_S A s.heap s.heap [] := va_S.rf
  have hl : lv_has ls 2 [(0, .ref h0), (1, .ref r0)] := hl
  refine lv_aload_n hx hb d_Le_init_0 rfl (lv_at hl 0 rfl) ?_
  refine kobj X t_159 t_119 t_120 hl.1 d_Le_init_1 (Nat.le_of_ble_eq_true rfl) (Nat.le_of_ble_eq_true rfl) ?_
  refine lv_aload_n hx hb d_Le_init_4 rfl (lv_at hl 0 rfl) ?_
  refine lv_aload_n hx hb d_Le_init_5 rfl (lv_at hl 1 rfl) ?_
  refine kputF X hP hD hS 0 rfl rfl i_Le ty_Le ty_Le_ok nm_Le hin 0 (by decide) t_160 rfl (v := .ref r0) rfl rfl (Nat.le_of_ble_eq_true rfl) d_Le_init_6 (fun H locs hP hD hS => ?_)
  have hP : va_P D classes [(h0, .inr (2, [.ref r0, .null, .null, .null, .null, .null, .null, .null, .null, .int 0, .int 0]))] H := hP
  have hD : va_D A [(h0, .inr (2, [.ref r0, .null, .null, .null, .null, .null, .null, .null, .null, .int 0, .int 0]))] := hD
  refine lv_aload_n hx hb d_Le_init_9 rfl (lv_at hl 0 rfl) ?_
  refine lv_sipush (v := 600) hx hb d_Le_init_10 (by decide) ?_
  refine knewa X hP hD hS hA t_143 rfl 0 rfl (a0 := (600, .inl (fun _ => 0))) (fun _ => rfl) (by decide) (N' := 600) (by decide) (by decide) (Nat.le_of_ble_eq_true rfl) (Nat.le_of_ble_eq_true rfl) d_Le_init_13 (fun q_1 H hP hD hS => ?_)
  have hP : va_P D classes [(h0, .inr (2, [.ref r0, .null, .null, .null, .null, .null, .null, .null, .null, .int 0, .int 0])), (q_1, .inl (aI, 600, .inl (fun _ => 0)))] H := hP
  have hD : va_D A [(h0, .inr (2, [.ref r0, .null, .null, .null, .null, .null, .null, .null, .null, .int 0, .int 0])), (q_1, .inl (aI, 600, .inl (fun _ => 0)))] := hD
  refine W.widen (k := 1) (n := 600) (Nat.le_of_ble_eq_true rfl) (Nat.le_of_ble_eq_true rfl) ?_
  refine kputF X hP hD hS 0 rfl rfl i_Le ty_Le ty_Le_ok nm_Le hin 1 (by decide) t_161 rfl (v := .ref q_1) rfl rfl (Nat.le_of_ble_eq_true rfl) d_Le_init_15 (fun H locs hP hD hS => ?_)
  have hP : va_P D classes [(h0, .inr (2, [.ref r0, .ref q_1, .null, .null, .null, .null, .null, .null, .null, .int 0, .int 0])), (q_1, .inl (aI, 600, .inl (fun _ => 0)))] H := hP
  have hD : va_D A [(h0, .inr (2, [.ref r0, .ref q_1, .null, .null, .null, .null, .null, .null, .null, .int 0, .int 0])), (q_1, .inl (aI, 600, .inl (fun _ => 0)))] := hD
  refine lv_aload_n hx hb d_Le_init_18 rfl (lv_at hl 0 rfl) ?_
  refine lv_sipush (v := 600) hx hb d_Le_init_19 (by decide) ?_
  refine knewa X hP hD hS hA t_143 rfl 0 rfl (a0 := (600, .inl (fun _ => 0))) (fun _ => rfl) (by decide) (N' := 600) (by decide) (by decide) (Nat.le_of_ble_eq_true rfl) (Nat.le_of_ble_eq_true rfl) d_Le_init_22 (fun q_2 H hP hD hS => ?_)
  have hP : va_P D classes [(h0, .inr (2, [.ref r0, .ref q_1, .null, .null, .null, .null, .null, .null, .null, .int 0, .int 0])), (q_1, .inl (aI, 600, .inl (fun _ => 0))), (q_2, .inl (aI, 600, .inl (fun _ => 0)))] H := hP
  have hD : va_D A [(h0, .inr (2, [.ref r0, .ref q_1, .null, .null, .null, .null, .null, .null, .null, .int 0, .int 0])), (q_1, .inl (aI, 600, .inl (fun _ => 0))), (q_2, .inl (aI, 600, .inl (fun _ => 0)))] := hD
  refine W.widen (k := 2) (n := 1200) (Nat.le_of_ble_eq_true rfl) (Nat.le_of_ble_eq_true rfl) ?_
  refine kputF X hP hD hS 0 rfl rfl i_Le ty_Le ty_Le_ok nm_Le hin 2 (by decide) t_162 rfl (v := .ref q_2) rfl rfl (Nat.le_of_ble_eq_true rfl) d_Le_init_24 (fun H locs hP hD hS => ?_)
  have hP : va_P D classes [(h0, .inr (2, [.ref r0, .ref q_1, .ref q_2, .null, .null, .null, .null, .null, .null, .int 0, .int 0])), (q_1, .inl (aI, 600, .inl (fun _ => 0))), (q_2, .inl (aI, 600, .inl (fun _ => 0)))] H := hP
  have hD : va_D A [(h0, .inr (2, [.ref r0, .ref q_1, .ref q_2, .null, .null, .null, .null, .null, .null, .int 0, .int 0])), (q_1, .inl (aI, 600, .inl (fun _ => 0))), (q_2, .inl (aI, 600, .inl (fun _ => 0)))] := hD
  refine lv_aload_n hx hb d_Le_init_27 rfl (lv_at hl 0 rfl) ?_
  refine lv_sipush (v := 600) hx hb d_Le_init_28 (by decide) ?_
  refine knewa X hP hD hS hA t_143 rfl 0 rfl (a0 := (600, .inl (fun _ => 0))) (fun _ => rfl) (by decide) (N' := 600) (by decide) (by decide) (Nat.le_of_ble_eq_true rfl) (Nat.le_of_ble_eq_true rfl) d_Le_init_31 (fun q_3 H hP hD hS => ?_)
  have hP : va_P D classes [(h0, .inr (2, [.ref r0, .ref q_1, .ref q_2, .null, .null, .null, .null, .null, .null, .int 0, .int 0])), (q_1, .inl (aI, 600, .inl (fun _ => 0))), (q_2, .inl (aI, 600, .inl (fun _ => 0))), (q_3, .inl (aI, 600, .inl (fun _ => 0)))] H := hP
  have hD : va_D A [(h0, .inr (2, [.ref r0, .ref q_1, .ref q_2, .null, .null, .null, .null, .null, .null, .int 0, .int 0])), (q_1, .inl (aI, 600, .inl (fun _ => 0))), (q_2, .inl (aI, 600, .inl (fun _ => 0))), (q_3, .inl (aI, 600, .inl (fun _ => 0)))] := hD
  refine W.widen (k := 3) (n := 1800) (Nat.le_of_ble_eq_true rfl) (Nat.le_of_ble_eq_true rfl) ?_
  refine kputF X hP hD hS 0 rfl rfl i_Le ty_Le ty_Le_ok nm_Le hin 3 (by decide) t_163 rfl (v := .ref q_3) rfl rfl (Nat.le_of_ble_eq_true rfl) d_Le_init_33 (fun H locs hP hD hS => ?_)
  have hP : va_P D classes [(h0, .inr (2, [.ref r0, .ref q_1, .ref q_2, .ref q_3, .null, .null, .null, .null, .null, .int 0, .int 0])), (q_1, .inl (aI, 600, .inl (fun _ => 0))), (q_2, .inl (aI, 600, .inl (fun _ => 0))), (q_3, .inl (aI, 600, .inl (fun _ => 0)))] H := hP
  have hD : va_D A [(h0, .inr (2, [.ref r0, .ref q_1, .ref q_2, .ref q_3, .null, .null, .null, .null, .null, .int 0, .int 0])), (q_1, .inl (aI, 600, .inl (fun _ => 0))), (q_2, .inl (aI, 600, .inl (fun _ => 0))), (q_3, .inl (aI, 600, .inl (fun _ => 0)))] := hD
  refine lv_aload_n hx hb d_Le_init_36 rfl (lv_at hl 0 rfl) ?_
  refine lv_sipush (v := 600) hx hb d_Le_init_37 (by decide) ?_
  refine knewa X hP hD hS hA t_143 rfl 0 rfl (a0 := (600, .inl (fun _ => 0))) (fun _ => rfl) (by decide) (N' := 600) (by decide) (by decide) (Nat.le_of_ble_eq_true rfl) (Nat.le_of_ble_eq_true rfl) d_Le_init_40 (fun q_4 H hP hD hS => ?_)
  have hP : va_P D classes [(h0, .inr (2, [.ref r0, .ref q_1, .ref q_2, .ref q_3, .null, .null, .null, .null, .null, .int 0, .int 0])), (q_1, .inl (aI, 600, .inl (fun _ => 0))), (q_2, .inl (aI, 600, .inl (fun _ => 0))), (q_3, .inl (aI, 600, .inl (fun _ => 0))), (q_4, .inl (aI, 600, .inl (fun _ => 0)))] H := hP
  have hD : va_D A [(h0, .inr (2, [.ref r0, .ref q_1, .ref q_2, .ref q_3, .null, .null, .null, .null, .null, .int 0, .int 0])), (q_1, .inl (aI, 600, .inl (fun _ => 0))), (q_2, .inl (aI, 600, .inl (fun _ => 0))), (q_3, .inl (aI, 600, .inl (fun _ => 0))), (q_4, .inl (aI, 600, .inl (fun _ => 0)))] := hD
  refine W.widen (k := 4) (n := 2400) (Nat.le_of_ble_eq_true rfl) (Nat.le_of_ble_eq_true rfl) ?_
  refine kputF X hP hD hS 0 rfl rfl i_Le ty_Le ty_Le_ok nm_Le hin 4 (by decide) t_164 rfl (v := .ref q_4) rfl rfl (Nat.le_of_ble_eq_true rfl) d_Le_init_42 (fun H locs hP hD hS => ?_)
  have hP : va_P D classes [(h0, .inr (2, [.ref r0, .ref q_1, .ref q_2, .ref q_3, .ref q_4, .null, .null, .null, .null, .int 0, .int 0])), (q_1, .inl (aI, 600, .inl (fun _ => 0))), (q_2, .inl (aI, 600, .inl (fun _ => 0))), (q_3, .inl (aI, 600, .inl (fun _ => 0))), (q_4, .inl (aI, 600, .inl (fun _ => 0)))] H := hP
  have hD : va_D A [(h0, .inr (2, [.ref r0, .ref q_1, .ref q_2, .ref q_3, .ref q_4, .null, .null, .null, .null, .int 0, .int 0])), (q_1, .inl (aI, 600, .inl (fun _ => 0))), (q_2, .inl (aI, 600, .inl (fun _ => 0))), (q_3, .inl (aI, 600, .inl (fun _ => 0))), (q_4, .inl (aI, 600, .inl (fun _ => 0)))] := hD
  refine lv_aload_n hx hb d_Le_init_45 rfl (lv_at hl 0 rfl) ?_
  refine lv_sipush (v := 600) hx hb d_Le_init_46 (by decide) ?_
  refine knewa X hP hD hS hA t_194 rfl 1 rfl (a0 := (600, .inr (.inl (fun _ => 0)))) (fun _ => rfl) (by decide) (N' := 600) (by decide) (by decide) (Nat.le_of_ble_eq_true rfl) (Nat.le_of_ble_eq_true rfl) d_Le_init_49 (fun q_5 H hP hD hS => ?_)
  have hP : va_P D classes [(h0, .inr (2, [.ref r0, .ref q_1, .ref q_2, .ref q_3, .ref q_4, .null, .null, .null, .null, .int 0, .int 0])), (q_1, .inl (aI, 600, .inl (fun _ => 0))), (q_2, .inl (aI, 600, .inl (fun _ => 0))), (q_3, .inl (aI, 600, .inl (fun _ => 0))), (q_4, .inl (aI, 600, .inl (fun _ => 0))), (q_5, .inl (aJ, 600, .inr (.inl (fun _ => 0))))] H := hP
  have hD : va_D A [(h0, .inr (2, [.ref r0, .ref q_1, .ref q_2, .ref q_3, .ref q_4, .null, .null, .null, .null, .int 0, .int 0])), (q_1, .inl (aI, 600, .inl (fun _ => 0))), (q_2, .inl (aI, 600, .inl (fun _ => 0))), (q_3, .inl (aI, 600, .inl (fun _ => 0))), (q_4, .inl (aI, 600, .inl (fun _ => 0))), (q_5, .inl (aJ, 600, .inr (.inl (fun _ => 0))))] := hD
  refine W.widen (k := 5) (n := 3000) (Nat.le_of_ble_eq_true rfl) (Nat.le_of_ble_eq_true rfl) ?_
  refine kputF X hP hD hS 0 rfl rfl i_Le ty_Le ty_Le_ok nm_Le hin 5 (by decide) t_165 rfl (v := .ref q_5) rfl rfl (Nat.le_of_ble_eq_true rfl) d_Le_init_51 (fun H locs hP hD hS => ?_)
  have hP : va_P D classes [(h0, .inr (2, [.ref r0, .ref q_1, .ref q_2, .ref q_3, .ref q_4, .ref q_5, .null, .null, .null, .int 0, .int 0])), (q_1, .inl (aI, 600, .inl (fun _ => 0))), (q_2, .inl (aI, 600, .inl (fun _ => 0))), (q_3, .inl (aI, 600, .inl (fun _ => 0))), (q_4, .inl (aI, 600, .inl (fun _ => 0))), (q_5, .inl (aJ, 600, .inr (.inl (fun _ => 0))))] H := hP
  have hD : va_D A [(h0, .inr (2, [.ref r0, .ref q_1, .ref q_2, .ref q_3, .ref q_4, .ref q_5, .null, .null, .null, .int 0, .int 0])), (q_1, .inl (aI, 600, .inl (fun _ => 0))), (q_2, .inl (aI, 600, .inl (fun _ => 0))), (q_3, .inl (aI, 600, .inl (fun _ => 0))), (q_4, .inl (aI, 600, .inl (fun _ => 0))), (q_5, .inl (aJ, 600, .inr (.inl (fun _ => 0))))] := hD
  refine lv_aload_n hx hb d_Le_init_54 rfl (lv_at hl 0 rfl) ?_
  refine lv_sipush (v := 600) hx hb d_Le_init_55 (by decide) ?_
  refine knewa X hP hD hS hA t_143 rfl 0 rfl (a0 := (600, .inl (fun _ => 0))) (fun _ => rfl) (by decide) (N' := 600) (by decide) (by decide) (Nat.le_of_ble_eq_true rfl) (Nat.le_of_ble_eq_true rfl) d_Le_init_58 (fun q_6 H hP hD hS => ?_)
  have hP : va_P D classes [(h0, .inr (2, [.ref r0, .ref q_1, .ref q_2, .ref q_3, .ref q_4, .ref q_5, .null, .null, .null, .int 0, .int 0])), (q_1, .inl (aI, 600, .inl (fun _ => 0))), (q_2, .inl (aI, 600, .inl (fun _ => 0))), (q_3, .inl (aI, 600, .inl (fun _ => 0))), (q_4, .inl (aI, 600, .inl (fun _ => 0))), (q_5, .inl (aJ, 600, .inr (.inl (fun _ => 0)))), (q_6, .inl (aI, 600, .inl (fun _ => 0)))] H := hP
  have hD : va_D A [(h0, .inr (2, [.ref r0, .ref q_1, .ref q_2, .ref q_3, .ref q_4, .ref q_5, .null, .null, .null, .int 0, .int 0])), (q_1, .inl (aI, 600, .inl (fun _ => 0))), (q_2, .inl (aI, 600, .inl (fun _ => 0))), (q_3, .inl (aI, 600, .inl (fun _ => 0))), (q_4, .inl (aI, 600, .inl (fun _ => 0))), (q_5, .inl (aJ, 600, .inr (.inl (fun _ => 0)))), (q_6, .inl (aI, 600, .inl (fun _ => 0)))] := hD
  refine W.widen (k := 6) (n := 3600) (Nat.le_of_ble_eq_true rfl) (Nat.le_of_ble_eq_true rfl) ?_
  refine kputF X hP hD hS 0 rfl rfl i_Le ty_Le ty_Le_ok nm_Le hin 6 (by decide) t_166 rfl (v := .ref q_6) rfl rfl (Nat.le_of_ble_eq_true rfl) d_Le_init_60 (fun H locs hP hD hS => ?_)
  have hP : va_P D classes [(h0, .inr (2, [.ref r0, .ref q_1, .ref q_2, .ref q_3, .ref q_4, .ref q_5, .ref q_6, .null, .null, .int 0, .int 0])), (q_1, .inl (aI, 600, .inl (fun _ => 0))), (q_2, .inl (aI, 600, .inl (fun _ => 0))), (q_3, .inl (aI, 600, .inl (fun _ => 0))), (q_4, .inl (aI, 600, .inl (fun _ => 0))), (q_5, .inl (aJ, 600, .inr (.inl (fun _ => 0)))), (q_6, .inl (aI, 600, .inl (fun _ => 0)))] H := hP
  have hD : va_D A [(h0, .inr (2, [.ref r0, .ref q_1, .ref q_2, .ref q_3, .ref q_4, .ref q_5, .ref q_6, .null, .null, .int 0, .int 0])), (q_1, .inl (aI, 600, .inl (fun _ => 0))), (q_2, .inl (aI, 600, .inl (fun _ => 0))), (q_3, .inl (aI, 600, .inl (fun _ => 0))), (q_4, .inl (aI, 600, .inl (fun _ => 0))), (q_5, .inl (aJ, 600, .inr (.inl (fun _ => 0)))), (q_6, .inl (aI, 600, .inl (fun _ => 0)))] := hD
  refine lv_aload_n hx hb d_Le_init_63 rfl (lv_at hl 0 rfl) ?_
  refine lv_sipush (v := 600) hx hb d_Le_init_64 (by decide) ?_
  refine knewa X hP hD hS hA t_143 rfl 0 rfl (a0 := (600, .inl (fun _ => 0))) (fun _ => rfl) (by decide) (N' := 600) (by decide) (by decide) (Nat.le_of_ble_eq_true rfl) (Nat.le_of_ble_eq_true rfl) d_Le_init_67 (fun q_7 H hP hD hS => ?_)
  have hP : va_P D classes [(h0, .inr (2, [.ref r0, .ref q_1, .ref q_2, .ref q_3, .ref q_4, .ref q_5, .ref q_6, .null, .null, .int 0, .int 0])), (q_1, .inl (aI, 600, .inl (fun _ => 0))), (q_2, .inl (aI, 600, .inl (fun _ => 0))), (q_3, .inl (aI, 600, .inl (fun _ => 0))), (q_4, .inl (aI, 600, .inl (fun _ => 0))), (q_5, .inl (aJ, 600, .inr (.inl (fun _ => 0)))), (q_6, .inl (aI, 600, .inl (fun _ => 0))), (q_7, .inl (aI, 600, .inl (fun _ => 0)))] H := hP
  have hD : va_D A [(h0, .inr (2, [.ref r0, .ref q_1, .ref q_2, .ref q_3, .ref q_4, .ref q_5, .ref q_6, .null, .null, .int 0, .int 0])), (q_1, .inl (aI, 600, .inl (fun _ => 0))), (q_2, .inl (aI, 600, .inl (fun _ => 0))), (q_3, .inl (aI, 600, .inl (fun _ => 0))), (q_4, .inl (aI, 600, .inl (fun _ => 0))), (q_5, .inl (aJ, 600, .inr (.inl (fun _ => 0)))), (q_6, .inl (aI, 600, .inl (fun _ => 0))), (q_7, .inl (aI, 600, .inl (fun _ => 0)))] := hD
  refine W.widen (k := 7) (n := 4200) (Nat.le_of_ble_eq_true rfl) (Nat.le_of_ble_eq_true rfl) ?_
  refine kputF X hP hD hS 0 rfl rfl i_Le ty_Le ty_Le_ok nm_Le hin 7 (by decide) t_167 rfl (v := .ref q_7) rfl rfl (Nat.le_of_ble_eq_true rfl) d_Le_init_69 (fun H locs hP hD hS => ?_)
  have hP : va_P D classes [(h0, .inr (2, [.ref r0, .ref q_1, .ref q_2, .ref q_3, .ref q_4, .ref q_5, .ref q_6, .ref q_7, .null, .int 0, .int 0])), (q_1, .inl (aI, 600, .inl (fun _ => 0))), (q_2, .inl (aI, 600, .inl (fun _ => 0))), (q_3, .inl (aI, 600, .inl (fun _ => 0))), (q_4, .inl (aI, 600, .inl (fun _ => 0))), (q_5, .inl (aJ, 600, .inr (.inl (fun _ => 0)))), (q_6, .inl (aI, 600, .inl (fun _ => 0))), (q_7, .inl (aI, 600, .inl (fun _ => 0)))] H := hP
  have hD : va_D A [(h0, .inr (2, [.ref r0, .ref q_1, .ref q_2, .ref q_3, .ref q_4, .ref q_5, .ref q_6, .ref q_7, .null, .int 0, .int 0])), (q_1, .inl (aI, 600, .inl (fun _ => 0))), (q_2, .inl (aI, 600, .inl (fun _ => 0))), (q_3, .inl (aI, 600, .inl (fun _ => 0))), (q_4, .inl (aI, 600, .inl (fun _ => 0))), (q_5, .inl (aJ, 600, .inr (.inl (fun _ => 0)))), (q_6, .inl (aI, 600, .inl (fun _ => 0))), (q_7, .inl (aI, 600, .inl (fun _ => 0)))] := hD
  refine lv_aload_n hx hb d_Le_init_72 rfl (lv_at hl 0 rfl) ?_
  refine lv_sipush (v := 600) hx hb d_Le_init_73 (by decide) ?_
  refine knewa X hP hD hS hA t_143 rfl 0 rfl (a0 := (600, .inl (fun _ => 0))) (fun _ => rfl) (by decide) (N' := 600) (by decide) (by decide) (Nat.le_of_ble_eq_true rfl) (Nat.le_of_ble_eq_true rfl) d_Le_init_76 (fun q_8 H hP hD hS => ?_)
  have hP : va_P D classes [(h0, .inr (2, [.ref r0, .ref q_1, .ref q_2, .ref q_3, .ref q_4, .ref q_5, .ref q_6, .ref q_7, .null, .int 0, .int 0])), (q_1, .inl (aI, 600, .inl (fun _ => 0))), (q_2, .inl (aI, 600, .inl (fun _ => 0))), (q_3, .inl (aI, 600, .inl (fun _ => 0))), (q_4, .inl (aI, 600, .inl (fun _ => 0))), (q_5, .inl (aJ, 600, .inr (.inl (fun _ => 0)))), (q_6, .inl (aI, 600, .inl (fun _ => 0))), (q_7, .inl (aI, 600, .inl (fun _ => 0))), (q_8, .inl (aI, 600, .inl (fun _ => 0)))] H := hP
  have hD : va_D A [(h0, .inr (2, [.ref r0, .ref q_1, .ref q_2, .ref q_3, .ref q_4, .ref q_5, .ref q_6, .ref q_7, .null, .int 0, .int 0])), (q_1, .inl (aI, 600, .inl (fun _ => 0))), (q_2, .inl (aI, 600, .inl (fun _ => 0))), (q_3, .inl (aI, 600, .inl (fun _ => 0))), (q_4, .inl (aI, 600, .inl (fun _ => 0))), (q_5, .inl (aJ, 600, .inr (.inl (fun _ => 0)))), (q_6, .inl (aI, 600, .inl (fun _ => 0))), (q_7, .inl (aI, 600, .inl (fun _ => 0))), (q_8, .inl (aI, 600, .inl (fun _ => 0)))] := hD
  refine W.widen (k := 8) (n := 4800) (Nat.le_of_ble_eq_true rfl) (Nat.le_of_ble_eq_true rfl) ?_
  refine kputF X hP hD hS 0 rfl rfl i_Le ty_Le ty_Le_ok nm_Le hin 8 (by decide) t_168 rfl (v := .ref q_8) rfl rfl (Nat.le_of_ble_eq_true rfl) d_Le_init_78 (fun H locs hP hD hS => ?_)
  have hP : va_P D classes [(h0, .inr (2, [.ref r0, .ref q_1, .ref q_2, .ref q_3, .ref q_4, .ref q_5, .ref q_6, .ref q_7, .ref q_8, .int 0, .int 0])), (q_1, .inl (aI, 600, .inl (fun _ => 0))), (q_2, .inl (aI, 600, .inl (fun _ => 0))), (q_3, .inl (aI, 600, .inl (fun _ => 0))), (q_4, .inl (aI, 600, .inl (fun _ => 0))), (q_5, .inl (aJ, 600, .inr (.inl (fun _ => 0)))), (q_6, .inl (aI, 600, .inl (fun _ => 0))), (q_7, .inl (aI, 600, .inl (fun _ => 0))), (q_8, .inl (aI, 600, .inl (fun _ => 0)))] H := hP
  have hD : va_D A [(h0, .inr (2, [.ref r0, .ref q_1, .ref q_2, .ref q_3, .ref q_4, .ref q_5, .ref q_6, .ref q_7, .ref q_8, .int 0, .int 0])), (q_1, .inl (aI, 600, .inl (fun _ => 0))), (q_2, .inl (aI, 600, .inl (fun _ => 0))), (q_3, .inl (aI, 600, .inl (fun _ => 0))), (q_4, .inl (aI, 600, .inl (fun _ => 0))), (q_5, .inl (aJ, 600, .inr (.inl (fun _ => 0)))), (q_6, .inl (aI, 600, .inl (fun _ => 0))), (q_7, .inl (aI, 600, .inl (fun _ => 0))), (q_8, .inl (aI, 600, .inl (fun _ => 0)))] := hD
  refine lv_aload_n hx hb d_Le_init_81 rfl (lv_at hl 0 rfl) ?_
  refine lv_iconst (v := 0) hx hb d_Le_init_82 (by decide) ?_
  refine kput X hP hD hS 0 rfl rfl i_Le ty_Le ty_Le_ok nm_Le 9 (by decide) t_169 rfl (v := .int 0) rfl rfl (Nat.le_of_ble_eq_true rfl) d_Le_init_83 (fun H locs hP hD hS => ?_)
  have hP : va_P D classes [(h0, .inr (2, [.ref r0, .ref q_1, .ref q_2, .ref q_3, .ref q_4, .ref q_5, .ref q_6, .ref q_7, .ref q_8, .int 0, .int 0])), (q_1, .inl (aI, 600, .inl (fun _ => 0))), (q_2, .inl (aI, 600, .inl (fun _ => 0))), (q_3, .inl (aI, 600, .inl (fun _ => 0))), (q_4, .inl (aI, 600, .inl (fun _ => 0))), (q_5, .inl (aJ, 600, .inr (.inl (fun _ => 0)))), (q_6, .inl (aI, 600, .inl (fun _ => 0))), (q_7, .inl (aI, 600, .inl (fun _ => 0))), (q_8, .inl (aI, 600, .inl (fun _ => 0)))] H := hP
  have hD : va_D A [(h0, .inr (2, [.ref r0, .ref q_1, .ref q_2, .ref q_3, .ref q_4, .ref q_5, .ref q_6, .ref q_7, .ref q_8, .int 0, .int 0])), (q_1, .inl (aI, 600, .inl (fun _ => 0))), (q_2, .inl (aI, 600, .inl (fun _ => 0))), (q_3, .inl (aI, 600, .inl (fun _ => 0))), (q_4, .inl (aI, 600, .inl (fun _ => 0))), (q_5, .inl (aJ, 600, .inr (.inl (fun _ => 0)))), (q_6, .inl (aI, 600, .inl (fun _ => 0))), (q_7, .inl (aI, 600, .inl (fun _ => 0))), (q_8, .inl (aI, 600, .inl (fun _ => 0)))] := hD
  refine lv_aload_n hx hb d_Le_init_86 rfl (lv_at hl 0 rfl) ?_
  refine lv_iconst (v := 0) hx hb d_Le_init_87 (by decide) ?_
  refine kput X hP hD hS 0 rfl rfl i_Le ty_Le ty_Le_ok nm_Le 10 (by decide) t_170 rfl (v := .int 0) rfl rfl (Nat.le_of_ble_eq_true rfl) d_Le_init_88 (fun H locs hP hD hS => ?_)
  have hP : va_P D classes [(h0, .inr (2, [.ref r0, .ref q_1, .ref q_2, .ref q_3, .ref q_4, .ref q_5, .ref q_6, .ref q_7, .ref q_8, .int 0, .int 0])), (q_1, .inl (aI, 600, .inl (fun _ => 0))), (q_2, .inl (aI, 600, .inl (fun _ => 0))), (q_3, .inl (aI, 600, .inl (fun _ => 0))), (q_4, .inl (aI, 600, .inl (fun _ => 0))), (q_5, .inl (aJ, 600, .inr (.inl (fun _ => 0)))), (q_6, .inl (aI, 600, .inl (fun _ => 0))), (q_7, .inl (aI, 600, .inl (fun _ => 0))), (q_8, .inl (aI, 600, .inl (fun _ => 0)))] H := hP
  have hD : va_D A [(h0, .inr (2, [.ref r0, .ref q_1, .ref q_2, .ref q_3, .ref q_4, .ref q_5, .ref q_6, .ref q_7, .ref q_8, .int 0, .int 0])), (q_1, .inl (aI, 600, .inl (fun _ => 0))), (q_2, .inl (aI, 600, .inl (fun _ => 0))), (q_3, .inl (aI, 600, .inl (fun _ => 0))), (q_4, .inl (aI, 600, .inl (fun _ => 0))), (q_5, .inl (aJ, 600, .inr (.inl (fun _ => 0)))), (q_6, .inl (aI, 600, .inl (fun _ => 0))), (q_7, .inl (aI, 600, .inl (fun _ => 0))), (q_8, .inl (aI, 600, .inl (fun _ => 0)))] := hD
  exact krv X hr hlocks hS (q_1, q_2, q_3, q_4, q_5, q_6, q_7, q_8) trivial (hP.sub [0, 1, 2, 3, 4, 5, 6, 7, 8] rfl) (hD.sub [0, 1, 2, 3, 4, 5, 6, 7, 8] (by decide) rfl) d_Le_init_91
set_option maxHeartbeats 4000000 in
set_option maxRecDepth 100000 in
theorem c3_Co_init (l : Launch) (D : va_G) (aI aJ aZ : ClassId) (sz : Nat) (h0 : Nat) : Met l y_Co_init (kq y_Co_init prog_2_method_1_code 1 none) { frames := 1, cells := 3, slots := 600, locals := 12 } (va_Pc [.ref h0] (kPre D (kT aI aJ aZ) [(h0, .inr (3, [.null, .null, .null, .int 0, .int 0]))] sz)) (va_Qv (fun (_ : Nat × Nat × Nat) => True) (fun u => kB D (va_A [(h0, .inr (3, [.null, .null, .null, .int 0, .int 0]))] sz) ((fun (u : Nat × Nat × Nat) => ([(h0, .inr (3, [.ref u.1, .ref u.2.1, .ref u.2.2, .int 0, .int 0])), (u.1, .inl (aI, 200, .inl (fun _ => 0))), (u.2.1, .inl (aI, 200, .inl (fun _ => 0))), (u.2.2, .inl (aI, 200, .inl (fun _ => 0)))] : va_W)) u)) (va_A [(h0, .inr (3, [.null, .null, .null, .int 0, .int 0]))] sz)) 3 600 (va_A [(h0, .inr (3, [.null, .null, .null, .int 0, .int 0]))] sz) := by
  refine kMet (y := y_Co_init) (bytes := prog_2_method_1_code) (maxL := 1) (ret := none) (av := [.ref h0]) (ws := [(h0, .inr (3, [.null, .null, .null, .int 0, .int 0]))]) (Qc := fun A => va_Qv (fun (_ : Nat × Nat × Nat) => True) (fun u => kB D A ((fun (u : Nat × Nat × Nat) => ([(h0, .inr (3, [.ref u.1, .ref u.2.1, .ref u.2.2, .int 0, .int 0])), (u.1, .inl (aI, 200, .inl (fun _ => 0))), (u.2.1, .inl (aI, 200, .inl (fun _ => 0))), (u.2.2, .inl (aI, 200, .inl (fun _ => 0)))] : va_W)) u)) A) "LayoutTokens$Comments" "<init>" (by decide) rfl rfl (Nat.le_of_ble_eq_true rfl) ?_
  intro p e s m below meth c A ls X hr hlocks hin hA hP hD hl
  have hx := X.1.1
  have hb := X.1.2.1
  have hown := X.1.2.2.2.1
  have hk := X.1.2.2.2.2
  have hS : va_S A s.heap s.heap [] := va_S.rf
  have hl : lv_has ls 1 [(0, .ref h0)] := hl
  refine lv_aload_n hx hb d_Co_init_0 rfl (lv_at hl 0 rfl) ?_
  refine kobj X t_200 t_119 t_120 hl.1 d_Co_init_1 (Nat.le_of_ble_eq_true rfl) (Nat.le_of_ble_eq_true rfl) ?_
  refine lv_aload_n hx hb d_Co_init_4 rfl (lv_at hl 0 rfl) ?_
  refine lv_sipush (v := 200) hx hb d_Co_init_5 (by decide) ?_
  refine knewa X hP hD hS hA t_143 rfl 0 rfl (a0 := (200, .inl (fun _ => 0))) (fun _ => rfl) (by decide) (N' := 200) (by decide) (by decide) (Nat.le_of_ble_eq_true rfl) (Nat.le_of_ble_eq_true rfl) d_Co_init_8 (fun q_1 H hP hD hS => ?_)
  have hP : va_P D classes [(h0, .inr (3, [.null, .null, .null, .int 0, .int 0])), (q_1, .inl (aI, 200, .inl (fun _ => 0)))] H := hP
  have hD : va_D A [(h0, .inr (3, [.null, .null, .null, .int 0, .int 0])), (q_1, .inl (aI, 200, .inl (fun _ => 0)))] := hD
  refine W.widen (k := 1) (n := 200) (Nat.le_of_ble_eq_true rfl) (Nat.le_of_ble_eq_true rfl) ?_
  refine kputF X hP hD hS 0 rfl rfl i_Co ty_Co ty_Co_ok nm_Co hin 0 (by decide) t_201 rfl (v := .ref q_1) rfl rfl (Nat.le_of_ble_eq_true rfl) d_Co_init_10 (fun H locs hP hD hS => ?_)
  have hP : va_P D classes [(h0, .inr (3, [.ref q_1, .null, .null, .int 0, .int 0])), (q_1, .inl (aI, 200, .inl (fun _ => 0)))] H := hP
  have hD : va_D A [(h0, .inr (3, [.ref q_1, .null, .null, .int 0, .int 0])), (q_1, .inl (aI, 200, .inl (fun _ => 0)))] := hD
  refine lv_aload_n hx hb d_Co_init_13 rfl (lv_at hl 0 rfl) ?_
  refine lv_sipush (v := 200) hx hb d_Co_init_14 (by decide) ?_
  refine knewa X hP hD hS hA t_143 rfl 0 rfl (a0 := (200, .inl (fun _ => 0))) (fun _ => rfl) (by decide) (N' := 200) (by decide) (by decide) (Nat.le_of_ble_eq_true rfl) (Nat.le_of_ble_eq_true rfl) d_Co_init_17 (fun q_2 H hP hD hS => ?_)
  have hP : va_P D classes [(h0, .inr (3, [.ref q_1, .null, .null, .int 0, .int 0])), (q_1, .inl (aI, 200, .inl (fun _ => 0))), (q_2, .inl (aI, 200, .inl (fun _ => 0)))] H := hP
  have hD : va_D A [(h0, .inr (3, [.ref q_1, .null, .null, .int 0, .int 0])), (q_1, .inl (aI, 200, .inl (fun _ => 0))), (q_2, .inl (aI, 200, .inl (fun _ => 0)))] := hD
  refine W.widen (k := 2) (n := 400) (Nat.le_of_ble_eq_true rfl) (Nat.le_of_ble_eq_true rfl) ?_
  refine kputF X hP hD hS 0 rfl rfl i_Co ty_Co ty_Co_ok nm_Co hin 1 (by decide) t_202 rfl (v := .ref q_2) rfl rfl (Nat.le_of_ble_eq_true rfl) d_Co_init_19 (fun H locs hP hD hS => ?_)
  have hP : va_P D classes [(h0, .inr (3, [.ref q_1, .ref q_2, .null, .int 0, .int 0])), (q_1, .inl (aI, 200, .inl (fun _ => 0))), (q_2, .inl (aI, 200, .inl (fun _ => 0)))] H := hP
  have hD : va_D A [(h0, .inr (3, [.ref q_1, .ref q_2, .null, .int 0, .int 0])), (q_1, .inl (aI, 200, .inl (fun _ => 0))), (q_2, .inl (aI, 200, .inl (fun _ => 0)))] := hD
  refine lv_aload_n hx hb d_Co_init_22 rfl (lv_at hl 0 rfl) ?_
  refine lv_sipush (v := 200) hx hb d_Co_init_23 (by decide) ?_
  refine knewa X hP hD hS hA t_143 rfl 0 rfl (a0 := (200, .inl (fun _ => 0))) (fun _ => rfl) (by decide) (N' := 200) (by decide) (by decide) (Nat.le_of_ble_eq_true rfl) (Nat.le_of_ble_eq_true rfl) d_Co_init_26 (fun q_3 H hP hD hS => ?_)
  have hP : va_P D classes [(h0, .inr (3, [.ref q_1, .ref q_2, .null, .int 0, .int 0])), (q_1, .inl (aI, 200, .inl (fun _ => 0))), (q_2, .inl (aI, 200, .inl (fun _ => 0))), (q_3, .inl (aI, 200, .inl (fun _ => 0)))] H := hP
  have hD : va_D A [(h0, .inr (3, [.ref q_1, .ref q_2, .null, .int 0, .int 0])), (q_1, .inl (aI, 200, .inl (fun _ => 0))), (q_2, .inl (aI, 200, .inl (fun _ => 0))), (q_3, .inl (aI, 200, .inl (fun _ => 0)))] := hD
  refine W.widen (k := 3) (n := 600) (Nat.le_of_ble_eq_true rfl) (Nat.le_of_ble_eq_true rfl) ?_
  refine kputF X hP hD hS 0 rfl rfl i_Co ty_Co ty_Co_ok nm_Co hin 2 (by decide) t_203 rfl (v := .ref q_3) rfl rfl (Nat.le_of_ble_eq_true rfl) d_Co_init_28 (fun H locs hP hD hS => ?_)
  have hP : va_P D classes [(h0, .inr (3, [.ref q_1, .ref q_2, .ref q_3, .int 0, .int 0])), (q_1, .inl (aI, 200, .inl (fun _ => 0))), (q_2, .inl (aI, 200, .inl (fun _ => 0))), (q_3, .inl (aI, 200, .inl (fun _ => 0)))] H := hP
  have hD : va_D A [(h0, .inr (3, [.ref q_1, .ref q_2, .ref q_3, .int 0, .int 0])), (q_1, .inl (aI, 200, .inl (fun _ => 0))), (q_2, .inl (aI, 200, .inl (fun _ => 0))), (q_3, .inl (aI, 200, .inl (fun _ => 0)))] := hD
  refine lv_aload_n hx hb d_Co_init_31 rfl (lv_at hl 0 rfl) ?_
  refine lv_iconst (v := 0) hx hb d_Co_init_32 (by decide) ?_
  refine kput X hP hD hS 0 rfl rfl i_Co ty_Co ty_Co_ok nm_Co 3 (by decide) t_204 rfl (v := .int 0) rfl rfl (Nat.le_of_ble_eq_true rfl) d_Co_init_33 (fun H locs hP hD hS => ?_)
  have hP : va_P D classes [(h0, .inr (3, [.ref q_1, .ref q_2, .ref q_3, .int 0, .int 0])), (q_1, .inl (aI, 200, .inl (fun _ => 0))), (q_2, .inl (aI, 200, .inl (fun _ => 0))), (q_3, .inl (aI, 200, .inl (fun _ => 0)))] H := hP
  have hD : va_D A [(h0, .inr (3, [.ref q_1, .ref q_2, .ref q_3, .int 0, .int 0])), (q_1, .inl (aI, 200, .inl (fun _ => 0))), (q_2, .inl (aI, 200, .inl (fun _ => 0))), (q_3, .inl (aI, 200, .inl (fun _ => 0)))] := hD
  refine lv_aload_n hx hb d_Co_init_36 rfl (lv_at hl 0 rfl) ?_
  refine lv_iconst (v := 0) hx hb d_Co_init_37 (by decide) ?_
  refine kput X hP hD hS 0 rfl rfl i_Co ty_Co ty_Co_ok nm_Co 4 (by decide) t_205 rfl (v := .int 0) rfl rfl (Nat.le_of_ble_eq_true rfl) d_Co_init_38 (fun H locs hP hD hS => ?_)
  have hP : va_P D classes [(h0, .inr (3, [.ref q_1, .ref q_2, .ref q_3, .int 0, .int 0])), (q_1, .inl (aI, 200, .inl (fun _ => 0))), (q_2, .inl (aI, 200, .inl (fun _ => 0))), (q_3, .inl (aI, 200, .inl (fun _ => 0)))] H := hP
  have hD : va_D A [(h0, .inr (3, [.ref q_1, .ref q_2, .ref q_3, .int 0, .int 0])), (q_1, .inl (aI, 200, .inl (fun _ => 0))), (q_2, .inl (aI, 200, .inl (fun _ => 0))), (q_3, .inl (aI, 200, .inl (fun _ => 0)))] := hD
  exact krv X hr hlocks hS (q_1, q_2, q_3) trivial (hP.sub [0, 1, 2, 3] rfl) (hD.sub [0, 1, 2, 3] (by decide) rfl) d_Co_init_41
set_option maxHeartbeats 4000000 in
set_option maxRecDepth 100000 in
theorem c4_Qu_init (l : Launch) (D : va_G) (aI aJ aZ : ClassId) (sz : Nat) (h0 : Nat) (r0 : Nat) (r1 : Nat) : Met l y_Qu_init (kq y_Qu_init prog_8_method_1_code 3 none) { frames := 1, cells := 0, slots := 0, locals := 12 } (va_Pc [.ref h0, .ref r0, .ref r1] (kPre D (kT aI aJ aZ) [(h0, .inr (4, [.null, .null]))] sz)) (va_Qv (fun (_ : Unit) => True) (fun u => kB D (va_A [(h0, .inr (4, [.null, .null]))] sz) ((fun (_ : Unit) => ([(h0, .inr (4, [.ref r0, .ref r1]))] : va_W)) u)) (va_A [(h0, .inr (4, [.null, .null]))] sz)) 0 0 (va_A [(h0, .inr (4, [.null, .null]))] sz) := by
  refine kMet (y := y_Qu_init) (bytes := prog_8_method_1_code) (maxL := 3) (ret := none) (av := [.ref h0, .ref r0, .ref r1]) (ws := [(h0, .inr (4, [.null, .null]))]) (Qc := fun A => va_Qv (fun (_ : Unit) => True) (fun u => kB D A ((fun (_ : Unit) => ([(h0, .inr (4, [.ref r0, .ref r1]))] : va_W)) u)) A) "LayoutTokens$Quotes" "<init>" (by decide) rfl rfl (Nat.le_of_ble_eq_true rfl) ?_
  intro p e s m below meth c A ls X hr hlocks hin hA hP hD hl
  have hx := X.1.1
  have hb := X.1.2.1
  have hown := X.1.2.2.2.1
  have hk := X.1.2.2.2.2
  have hS : va_S A s.heap s.heap [] := va_S.rf
  have hl : lv_has ls 3 [(0, .ref h0), (1, .ref r0), (2, .ref r1)] := hl
  refine lv_aload_n hx hb d_Qu_init_0 rfl (lv_at hl 0 rfl) ?_
  refine kobj X t_228 t_119 t_120 hl.1 d_Qu_init_1 (Nat.le_of_ble_eq_true rfl) (Nat.le_of_ble_eq_true rfl) ?_
  refine lv_aload_n hx hb d_Qu_init_4 rfl (lv_at hl 0 rfl) ?_
  refine lv_aload_n hx hb d_Qu_init_5 rfl (lv_at hl 1 rfl) ?_
  refine kputF X hP hD hS 0 rfl rfl i_Qu ty_Qu ty_Qu_ok nm_Qu hin 0 (by decide) t_229 rfl (v := .ref r0) rfl rfl (Nat.le_of_ble_eq_true rfl) d_Qu_init_6 (fun H locs hP hD hS => ?_)
  have hP : va_P D classes [(h0, .inr (4, [.ref r0, .null]))] H := hP
  have hD : va_D A [(h0, .inr (4, [.ref r0, .null]))] := hD
  refine lv_aload_n hx hb d_Qu_init_9 rfl (lv_at hl 0 rfl) ?_
  refine lv_aload_n hx hb d_Qu_init_10 rfl (lv_at hl 2 rfl) ?_
  refine kputF X hP hD hS 0 rfl rfl i_Qu ty_Qu ty_Qu_ok nm_Qu hin 1 (by decide) t_230 rfl (v := .ref r1) rfl rfl (Nat.le_of_ble_eq_true rfl) d_Qu_init_11 (fun H locs hP hD hS => ?_)
  have hP : va_P D classes [(h0, .inr (4, [.ref r0, .ref r1]))] H := hP
  have hD : va_D A [(h0, .inr (4, [.ref r0, .ref r1]))] := hD
  exact krv X hr hlocks hS () trivial (hP.sub [0] rfl) (hD.sub [0] (by decide) rfl) d_Qu_init_14
set_option maxHeartbeats 4000000 in
set_option maxRecDepth 100000 in
theorem c5_Re_init (l : Launch) (D : va_G) (aI aJ aZ : ClassId) (sz : Nat) (h0 : Nat) (r0 : Nat) (r1 : Nat) (r2 : Nat) : Met l y_Re_init (kq y_Re_init prog_9_method_1_code 4 none) { frames := 2, cells := 1, slots := 2, locals := 34 } (va_Pc [.ref h0, .ref r0, .ref r1, .ref r2] (kPre D (kT aI aJ aZ) [(h0, .inr (5, [.null, .null, .null, .null]))] sz)) (va_Qv (fun (_ : Nat) => True) (fun u => kB D (va_A [(h0, .inr (5, [.null, .null, .null, .null]))] sz) ((fun (u0 : Nat) => ([(h0, .inr (5, [.ref r0, .ref r1, .ref r2, .ref u0])), (u0, .inr (4, [.ref r0, .ref r1]))] : va_W)) u)) (va_A [(h0, .inr (5, [.null, .null, .null, .null]))] sz)) 1 2 (va_A [(h0, .inr (5, [.null, .null, .null, .null]))] sz) := by
  refine kMet (y := y_Re_init) (bytes := prog_9_method_1_code) (maxL := 4) (ret := none) (av := [.ref h0, .ref r0, .ref r1, .ref r2]) (ws := [(h0, .inr (5, [.null, .null, .null, .null]))]) (Qc := fun A => va_Qv (fun (_ : Nat) => True) (fun u => kB D A ((fun (u0 : Nat) => ([(h0, .inr (5, [.ref r0, .ref r1, .ref r2, .ref u0])), (u0, .inr (4, [.ref r0, .ref r1]))] : va_W)) u)) A) "LayoutTokens$Reader" "<init>" (by decide) rfl rfl (Nat.le_of_ble_eq_true rfl) ?_
  intro p e s m below meth c A ls X hr hlocks hin hA hP hD hl
  have hx := X.1.1
  have hb := X.1.2.1
  have hown := X.1.2.2.2.1
  have hk := X.1.2.2.2.2
  have hS : va_S A s.heap s.heap [] := va_S.rf
  have hl : lv_has ls 4 [(0, .ref h0), (1, .ref r0), (2, .ref r1), (3, .ref r2)] := hl
  refine lv_aload_n hx hb d_Re_init_0 rfl (lv_at hl 0 rfl) ?_
  refine kobj X t_222 t_119 t_120 hl.1 d_Re_init_1 (Nat.le_of_ble_eq_true rfl) (Nat.le_of_ble_eq_true rfl) ?_
  refine lv_aload_n hx hb d_Re_init_4 rfl (lv_at hl 0 rfl) ?_
  refine lv_aload_n hx hb d_Re_init_5 rfl (lv_at hl 1 rfl) ?_
  refine kputF X hP hD hS 0 rfl rfl i_Re ty_Re ty_Re_ok nm_Re hin 0 (by decide) t_236 rfl (v := .ref r0) rfl rfl (Nat.le_of_ble_eq_true rfl) d_Re_init_6 (fun H locs hP hD hS => ?_)
  have hP : va_P D classes [(h0, .inr (5, [.ref r0, .null, .null, .null]))] H := hP
  have hD : va_D A [(h0, .inr (5, [.ref r0, .null, .null, .null]))] := hD
  refine lv_aload_n hx hb d_Re_init_9 rfl (lv_at hl 0 rfl) ?_
  refine lv_aload_n hx hb d_Re_init_10 rfl (lv_at hl 2 rfl) ?_
  refine kputF X hP hD hS 0 rfl rfl i_Re ty_Re ty_Re_ok nm_Re hin 1 (by decide) t_237 rfl (v := .ref r1) rfl rfl (Nat.le_of_ble_eq_true rfl) d_Re_init_11 (fun H locs hP hD hS => ?_)
  have hP : va_P D classes [(h0, .inr (5, [.ref r0, .ref r1, .null, .null]))] H := hP
  have hD : va_D A [(h0, .inr (5, [.ref r0, .ref r1, .null, .null]))] := hD
  refine lv_aload_n hx hb d_Re_init_14 rfl (lv_at hl 0 rfl) ?_
  refine lv_aload_n hx hb d_Re_init_15 rfl (lv_at hl 3 rfl) ?_
  refine kputF X hP hD hS 0 rfl rfl i_Re ty_Re ty_Re_ok nm_Re hin 2 (by decide) t_238 rfl (v := .ref r2) rfl rfl (Nat.le_of_ble_eq_true rfl) d_Re_init_16 (fun H locs hP hD hS => ?_)
  have hP : va_P D classes [(h0, .inr (5, [.ref r0, .ref r1, .ref r2, .null]))] H := hP
  have hD : va_D A [(h0, .inr (5, [.ref r0, .ref r1, .ref r2, .null]))] := hD
  refine lv_aload_n hx hb d_Re_init_19 rfl (lv_at hl 0 rfl) ?_
  refine knew X hP hD hS hA (ci := 4) rfl i_Qu ty_Qu ty_Qu_ok t_223 t_224 t_103 (fs := [.null, .null]) rfl (Nat.le_of_ble_eq_true rfl) (Nat.le_of_ble_eq_true rfl) d_Re_init_20 (fun q_1 H hP hD hS => ?_)
  have hP : va_P D classes [(h0, .inr (5, [.ref r0, .ref r1, .ref r2, .null])), (q_1, .inr (4, [.null, .null]))] H := hP
  have hD : va_D A [(h0, .inr (5, [.ref r0, .ref r1, .ref r2, .null])), (q_1, .inr (4, [.null, .null]))] := hD
  refine W.widen (k := 1) (n := 2) (Nat.le_of_ble_eq_true rfl) (Nat.le_of_ble_eq_true rfl) ?_
  refine lv_dup hx hb d_Re_init_23 rfl ?_
  refine lv_aload_n hx hb d_Re_init_24 rfl (lv_at hl 1 rfl) ?_
  refine lv_aload_n hx hb d_Re_init_25 rfl (lv_at hl 2 rfl) ?_
  refine kIv (n := 2) (As := [.ref r0, .ref r1]) (rest := [.ref q_1, .ref h0]) (wr := [(h0, .inr (5, [.ref r0, .ref r1, .ref r2, .null]))]) X hP hD hS hA (c4_Qu_init l D aI aJ aZ _ (q_1) (r0) (r1)) t_227 t_225 t_226 t_103 rfl rfl rfl (by decide +kernel) ⟨Nat.le_of_ble_eq_true rfl, Nat.le_of_ble_eq_true rfl⟩ hl.1 rfl rfl (Nat.le_of_ble_eq_true rfl) d_Re_init_26 ⟨Nat.le_of_ble_eq_true rfl, Nat.le_of_ble_eq_true rfl⟩ [1] [0] rfl rfl (by decide) (by decide) (by decide) (fun u H locs w_2 hP hD hS => ?_)
  have hP : va_P D classes [(h0, .inr (5, [.ref r0, .ref r1, .ref r2, .null])), (q_1, .inr (4, [.ref r0, .ref r1]))] H := hP
  have hD : va_D A [(h0, .inr (5, [.ref r0, .ref r1, .ref r2, .null])), (q_1, .inr (4, [.ref r0, .ref r1]))] := hD
  refine kputF X hP hD hS 0 rfl rfl i_Re ty_Re ty_Re_ok nm_Re hin 3 (by decide) t_239 rfl (v := .ref q_1) rfl rfl (Nat.le_of_ble_eq_true rfl) d_Re_init_29 (fun H locs hP hD hS => ?_)
  have hP : va_P D classes [(h0, .inr (5, [.ref r0, .ref r1, .ref r2, .ref q_1])), (q_1, .inr (4, [.ref r0, .ref r1]))] H := hP
  have hD : va_D A [(h0, .inr (5, [.ref r0, .ref r1, .ref r2, .ref q_1])), (q_1, .inr (4, [.ref r0, .ref r1]))] := hD
  exact krv X hr hlocks hS q_1 trivial (hP.sub [0, 1] rfl) (hD.sub [0, 1] (by decide) rfl) d_Re_init_32
set_option maxHeartbeats 4000000 in
set_option maxRecDepth 100000 in
theorem c6_La_init (l : Launch) (D : va_G) (aI aJ aZ : ClassId) (sz : Nat) (h0 : Nat) (r0 : Nat) : Met l y_La_init (kq y_La_init prog_3_method_1_code 2 none) { frames := 1, cells := 4, slots := 2000, locals := 12 } (va_Pc [.ref h0, .ref r0] (kPre D (kT aI aJ aZ) [(h0, .inr (6, [.null, .null, .null, .null, .null, .int 0, .int 0, .int 0, .int 0, .int 0]))] sz)) (va_Qv (fun (_ : Nat × Nat × Nat × Nat) => True) (fun u => kB D (va_A [(h0, .inr (6, [.null, .null, .null, .null, .null, .int 0, .int 0, .int 0, .int 0, .int 0]))] sz) ((fun (u : Nat × Nat × Nat × Nat) => ([(h0, .inr (6, [.ref r0, .ref u.1, .ref u.2.1, .ref u.2.2.1, .ref u.2.2.2, .int 0, .int 0, .int 0, .int (-1), .int (-1)])), (u.1, .inl (aI, 500, .inl (fun _ => 0))), (u.2.1, .inl (aI, 500, .inl (fun _ => 0))), (u.2.2.1, .inl (aI, 500, .inl (fun _ => 0))), (u.2.2.2, .inl (aZ, 500, .inl (fun _ => 0)))] : va_W)) u)) (va_A [(h0, .inr (6, [.null, .null, .null, .null, .null, .int 0, .int 0, .int 0, .int 0, .int 0]))] sz)) 4 2000 (va_A [(h0, .inr (6, [.null, .null, .null, .null, .null, .int 0, .int 0, .int 0, .int 0, .int 0]))] sz) := by
  refine kMet (y := y_La_init) (bytes := prog_3_method_1_code) (maxL := 2) (ret := none) (av := [.ref h0, .ref r0]) (ws := [(h0, .inr (6, [.null, .null, .null, .null, .null, .int 0, .int 0, .int 0, .int 0, .int 0]))]) (Qc := fun A => va_Qv (fun (_ : Nat × Nat × Nat × Nat) => True) (fun u => kB D A ((fun (u : Nat × Nat × Nat × Nat) => ([(h0, .inr (6, [.ref r0, .ref u.1, .ref u.2.1, .ref u.2.2.1, .ref u.2.2.2, .int 0, .int 0, .int 0, .int (-1), .int (-1)])), (u.1, .inl (aI, 500, .inl (fun _ => 0))), (u.2.1, .inl (aI, 500, .inl (fun _ => 0))), (u.2.2.1, .inl (aI, 500, .inl (fun _ => 0))), (u.2.2.2, .inl (aZ, 500, .inl (fun _ => 0)))] : va_W)) u)) A) "LayoutTokens$Laid" "<init>" (by decide) rfl rfl (Nat.le_of_ble_eq_true rfl) ?_
  intro p e s m below meth c A ls X hr hlocks hin hA hP hD hl
  have hx := X.1.1
  have hb := X.1.2.1
  have hown := X.1.2.2.2.1
  have hk := X.1.2.2.2.2
  have hS : va_S A s.heap s.heap [] := va_S.rf
  have hl : lv_has ls 2 [(0, .ref h0), (1, .ref r0)] := hl
  refine lv_aload_n hx hb d_La_init_0 rfl (lv_at hl 0 rfl) ?_
  refine kobj X t_254 t_119 t_120 hl.1 d_La_init_1 (Nat.le_of_ble_eq_true rfl) (Nat.le_of_ble_eq_true rfl) ?_
  refine lv_aload_n hx hb d_La_init_4 rfl (lv_at hl 0 rfl) ?_
  refine lv_aload_n hx hb d_La_init_5 rfl (lv_at hl 1 rfl) ?_
  refine kputF X hP hD hS 0 rfl rfl i_La ty_La ty_La_ok nm_La hin 0 (by decide) t_255 rfl (v := .ref r0) rfl rfl (Nat.le_of_ble_eq_true rfl) d_La_init_6 (fun H locs hP hD hS => ?_)
  have hP : va_P D classes [(h0, .inr (6, [.ref r0, .null, .null, .null, .null, .int 0, .int 0, .int 0, .int 0, .int 0]))] H := hP
  have hD : va_D A [(h0, .inr (6, [.ref r0, .null, .null, .null, .null, .int 0, .int 0, .int 0, .int 0, .int 0]))] := hD
  refine lv_aload_n hx hb d_La_init_9 rfl (lv_at hl 0 rfl) ?_
  refine lv_sipush (v := 500) hx hb d_La_init_10 (by decide) ?_
  refine knewa X hP hD hS hA t_143 rfl 0 rfl (a0 := (500, .inl (fun _ => 0))) (fun _ => rfl) (by decide) (N' := 500) (by decide) (by decide) (Nat.le_of_ble_eq_true rfl) (Nat.le_of_ble_eq_true rfl) d_La_init_13 (fun q_1 H hP hD hS => ?_)
  have hP : va_P D classes [(h0, .inr (6, [.ref r0, .null, .null, .null, .null, .int 0, .int 0, .int 0, .int 0, .int 0])), (q_1, .inl (aI, 500, .inl (fun _ => 0)))] H := hP
  have hD : va_D A [(h0, .inr (6, [.ref r0, .null, .null, .null, .null, .int 0, .int 0, .int 0, .int 0, .int 0])), (q_1, .inl (aI, 500, .inl (fun _ => 0)))] := hD
  refine W.widen (k := 1) (n := 500) (Nat.le_of_ble_eq_true rfl) (Nat.le_of_ble_eq_true rfl) ?_
  refine kputF X hP hD hS 0 rfl rfl i_La ty_La ty_La_ok nm_La hin 1 (by decide) t_256 rfl (v := .ref q_1) rfl rfl (Nat.le_of_ble_eq_true rfl) d_La_init_15 (fun H locs hP hD hS => ?_)
  have hP : va_P D classes [(h0, .inr (6, [.ref r0, .ref q_1, .null, .null, .null, .int 0, .int 0, .int 0, .int 0, .int 0])), (q_1, .inl (aI, 500, .inl (fun _ => 0)))] H := hP
  have hD : va_D A [(h0, .inr (6, [.ref r0, .ref q_1, .null, .null, .null, .int 0, .int 0, .int 0, .int 0, .int 0])), (q_1, .inl (aI, 500, .inl (fun _ => 0)))] := hD
  refine lv_aload_n hx hb d_La_init_18 rfl (lv_at hl 0 rfl) ?_
  refine lv_sipush (v := 500) hx hb d_La_init_19 (by decide) ?_
  refine knewa X hP hD hS hA t_143 rfl 0 rfl (a0 := (500, .inl (fun _ => 0))) (fun _ => rfl) (by decide) (N' := 500) (by decide) (by decide) (Nat.le_of_ble_eq_true rfl) (Nat.le_of_ble_eq_true rfl) d_La_init_22 (fun q_2 H hP hD hS => ?_)
  have hP : va_P D classes [(h0, .inr (6, [.ref r0, .ref q_1, .null, .null, .null, .int 0, .int 0, .int 0, .int 0, .int 0])), (q_1, .inl (aI, 500, .inl (fun _ => 0))), (q_2, .inl (aI, 500, .inl (fun _ => 0)))] H := hP
  have hD : va_D A [(h0, .inr (6, [.ref r0, .ref q_1, .null, .null, .null, .int 0, .int 0, .int 0, .int 0, .int 0])), (q_1, .inl (aI, 500, .inl (fun _ => 0))), (q_2, .inl (aI, 500, .inl (fun _ => 0)))] := hD
  refine W.widen (k := 2) (n := 1000) (Nat.le_of_ble_eq_true rfl) (Nat.le_of_ble_eq_true rfl) ?_
  refine kputF X hP hD hS 0 rfl rfl i_La ty_La ty_La_ok nm_La hin 2 (by decide) t_257 rfl (v := .ref q_2) rfl rfl (Nat.le_of_ble_eq_true rfl) d_La_init_24 (fun H locs hP hD hS => ?_)
  have hP : va_P D classes [(h0, .inr (6, [.ref r0, .ref q_1, .ref q_2, .null, .null, .int 0, .int 0, .int 0, .int 0, .int 0])), (q_1, .inl (aI, 500, .inl (fun _ => 0))), (q_2, .inl (aI, 500, .inl (fun _ => 0)))] H := hP
  have hD : va_D A [(h0, .inr (6, [.ref r0, .ref q_1, .ref q_2, .null, .null, .int 0, .int 0, .int 0, .int 0, .int 0])), (q_1, .inl (aI, 500, .inl (fun _ => 0))), (q_2, .inl (aI, 500, .inl (fun _ => 0)))] := hD
  refine lv_aload_n hx hb d_La_init_27 rfl (lv_at hl 0 rfl) ?_
  refine lv_sipush (v := 500) hx hb d_La_init_28 (by decide) ?_
  refine knewa X hP hD hS hA t_143 rfl 0 rfl (a0 := (500, .inl (fun _ => 0))) (fun _ => rfl) (by decide) (N' := 500) (by decide) (by decide) (Nat.le_of_ble_eq_true rfl) (Nat.le_of_ble_eq_true rfl) d_La_init_31 (fun q_3 H hP hD hS => ?_)
  have hP : va_P D classes [(h0, .inr (6, [.ref r0, .ref q_1, .ref q_2, .null, .null, .int 0, .int 0, .int 0, .int 0, .int 0])), (q_1, .inl (aI, 500, .inl (fun _ => 0))), (q_2, .inl (aI, 500, .inl (fun _ => 0))), (q_3, .inl (aI, 500, .inl (fun _ => 0)))] H := hP
  have hD : va_D A [(h0, .inr (6, [.ref r0, .ref q_1, .ref q_2, .null, .null, .int 0, .int 0, .int 0, .int 0, .int 0])), (q_1, .inl (aI, 500, .inl (fun _ => 0))), (q_2, .inl (aI, 500, .inl (fun _ => 0))), (q_3, .inl (aI, 500, .inl (fun _ => 0)))] := hD
  refine W.widen (k := 3) (n := 1500) (Nat.le_of_ble_eq_true rfl) (Nat.le_of_ble_eq_true rfl) ?_
  refine kputF X hP hD hS 0 rfl rfl i_La ty_La ty_La_ok nm_La hin 3 (by decide) t_258 rfl (v := .ref q_3) rfl rfl (Nat.le_of_ble_eq_true rfl) d_La_init_33 (fun H locs hP hD hS => ?_)
  have hP : va_P D classes [(h0, .inr (6, [.ref r0, .ref q_1, .ref q_2, .ref q_3, .null, .int 0, .int 0, .int 0, .int 0, .int 0])), (q_1, .inl (aI, 500, .inl (fun _ => 0))), (q_2, .inl (aI, 500, .inl (fun _ => 0))), (q_3, .inl (aI, 500, .inl (fun _ => 0)))] H := hP
  have hD : va_D A [(h0, .inr (6, [.ref r0, .ref q_1, .ref q_2, .ref q_3, .null, .int 0, .int 0, .int 0, .int 0, .int 0])), (q_1, .inl (aI, 500, .inl (fun _ => 0))), (q_2, .inl (aI, 500, .inl (fun _ => 0))), (q_3, .inl (aI, 500, .inl (fun _ => 0)))] := hD
  refine lv_aload_n hx hb d_La_init_36 rfl (lv_at hl 0 rfl) ?_
  refine lv_sipush (v := 500) hx hb d_La_init_37 (by decide) ?_
  refine knewa X hP hD hS hA t_286 rfl 2 rfl (a0 := (500, .inl (fun _ => 0))) (fun _ => rfl) (by decide) (N' := 500) (by decide) (by decide) (Nat.le_of_ble_eq_true rfl) (Nat.le_of_ble_eq_true rfl) d_La_init_40 (fun q_4 H hP hD hS => ?_)
  have hP : va_P D classes [(h0, .inr (6, [.ref r0, .ref q_1, .ref q_2, .ref q_3, .null, .int 0, .int 0, .int 0, .int 0, .int 0])), (q_1, .inl (aI, 500, .inl (fun _ => 0))), (q_2, .inl (aI, 500, .inl (fun _ => 0))), (q_3, .inl (aI, 500, .inl (fun _ => 0))), (q_4, .inl (aZ, 500, .inl (fun _ => 0)))] H := hP
  have hD : va_D A [(h0, .inr (6, [.ref r0, .ref q_1, .ref q_2, .ref q_3, .null, .int 0, .int 0, .int 0, .int 0, .int 0])), (q_1, .inl (aI, 500, .inl (fun _ => 0))), (q_2, .inl (aI, 500, .inl (fun _ => 0))), (q_3, .inl (aI, 500, .inl (fun _ => 0))), (q_4, .inl (aZ, 500, .inl (fun _ => 0)))] := hD
  refine W.widen (k := 4) (n := 2000) (Nat.le_of_ble_eq_true rfl) (Nat.le_of_ble_eq_true rfl) ?_
  refine kputF X hP hD hS 0 rfl rfl i_La ty_La ty_La_ok nm_La hin 4 (by decide) t_259 rfl (v := .ref q_4) rfl rfl (Nat.le_of_ble_eq_true rfl) d_La_init_42 (fun H locs hP hD hS => ?_)
  have hP : va_P D classes [(h0, .inr (6, [.ref r0, .ref q_1, .ref q_2, .ref q_3, .ref q_4, .int 0, .int 0, .int 0, .int 0, .int 0])), (q_1, .inl (aI, 500, .inl (fun _ => 0))), (q_2, .inl (aI, 500, .inl (fun _ => 0))), (q_3, .inl (aI, 500, .inl (fun _ => 0))), (q_4, .inl (aZ, 500, .inl (fun _ => 0)))] H := hP
  have hD : va_D A [(h0, .inr (6, [.ref r0, .ref q_1, .ref q_2, .ref q_3, .ref q_4, .int 0, .int 0, .int 0, .int 0, .int 0])), (q_1, .inl (aI, 500, .inl (fun _ => 0))), (q_2, .inl (aI, 500, .inl (fun _ => 0))), (q_3, .inl (aI, 500, .inl (fun _ => 0))), (q_4, .inl (aZ, 500, .inl (fun _ => 0)))] := hD
  refine lv_aload_n hx hb d_La_init_45 rfl (lv_at hl 0 rfl) ?_
  refine lv_iconst (v := 0) hx hb d_La_init_46 (by decide) ?_
  refine kput X hP hD hS 0 rfl rfl i_La ty_La ty_La_ok nm_La 5 (by decide) t_260 rfl (v := .int 0) rfl rfl (Nat.le_of_ble_eq_true rfl) d_La_init_47 (fun H locs hP hD hS => ?_)
  have hP : va_P D classes [(h0, .inr (6, [.ref r0, .ref q_1, .ref q_2, .ref q_3, .ref q_4, .int 0, .int 0, .int 0, .int 0, .int 0])), (q_1, .inl (aI, 500, .inl (fun _ => 0))), (q_2, .inl (aI, 500, .inl (fun _ => 0))), (q_3, .inl (aI, 500, .inl (fun _ => 0))), (q_4, .inl (aZ, 500, .inl (fun _ => 0)))] H := hP
  have hD : va_D A [(h0, .inr (6, [.ref r0, .ref q_1, .ref q_2, .ref q_3, .ref q_4, .int 0, .int 0, .int 0, .int 0, .int 0])), (q_1, .inl (aI, 500, .inl (fun _ => 0))), (q_2, .inl (aI, 500, .inl (fun _ => 0))), (q_3, .inl (aI, 500, .inl (fun _ => 0))), (q_4, .inl (aZ, 500, .inl (fun _ => 0)))] := hD
  refine lv_aload_n hx hb d_La_init_50 rfl (lv_at hl 0 rfl) ?_
  refine lv_iconst (v := 0) hx hb d_La_init_51 (by decide) ?_
  refine kput X hP hD hS 0 rfl rfl i_La ty_La ty_La_ok nm_La 6 (by decide) t_261 rfl (v := .int 0) rfl rfl (Nat.le_of_ble_eq_true rfl) d_La_init_52 (fun H locs hP hD hS => ?_)
  have hP : va_P D classes [(h0, .inr (6, [.ref r0, .ref q_1, .ref q_2, .ref q_3, .ref q_4, .int 0, .int 0, .int 0, .int 0, .int 0])), (q_1, .inl (aI, 500, .inl (fun _ => 0))), (q_2, .inl (aI, 500, .inl (fun _ => 0))), (q_3, .inl (aI, 500, .inl (fun _ => 0))), (q_4, .inl (aZ, 500, .inl (fun _ => 0)))] H := hP
  have hD : va_D A [(h0, .inr (6, [.ref r0, .ref q_1, .ref q_2, .ref q_3, .ref q_4, .int 0, .int 0, .int 0, .int 0, .int 0])), (q_1, .inl (aI, 500, .inl (fun _ => 0))), (q_2, .inl (aI, 500, .inl (fun _ => 0))), (q_3, .inl (aI, 500, .inl (fun _ => 0))), (q_4, .inl (aZ, 500, .inl (fun _ => 0)))] := hD
  refine lv_aload_n hx hb d_La_init_55 rfl (lv_at hl 0 rfl) ?_
  refine lv_iconst (v := 0) hx hb d_La_init_56 (by decide) ?_
  refine kput X hP hD hS 0 rfl rfl i_La ty_La ty_La_ok nm_La 7 (by decide) t_262 rfl (v := .int 0) rfl rfl (Nat.le_of_ble_eq_true rfl) d_La_init_57 (fun H locs hP hD hS => ?_)
  have hP : va_P D classes [(h0, .inr (6, [.ref r0, .ref q_1, .ref q_2, .ref q_3, .ref q_4, .int 0, .int 0, .int 0, .int 0, .int 0])), (q_1, .inl (aI, 500, .inl (fun _ => 0))), (q_2, .inl (aI, 500, .inl (fun _ => 0))), (q_3, .inl (aI, 500, .inl (fun _ => 0))), (q_4, .inl (aZ, 500, .inl (fun _ => 0)))] H := hP
  have hD : va_D A [(h0, .inr (6, [.ref r0, .ref q_1, .ref q_2, .ref q_3, .ref q_4, .int 0, .int 0, .int 0, .int 0, .int 0])), (q_1, .inl (aI, 500, .inl (fun _ => 0))), (q_2, .inl (aI, 500, .inl (fun _ => 0))), (q_3, .inl (aI, 500, .inl (fun _ => 0))), (q_4, .inl (aZ, 500, .inl (fun _ => 0)))] := hD
  refine lv_aload_n hx hb d_La_init_60 rfl (lv_at hl 0 rfl) ?_
  refine lv_iconst (v := (-1)) hx hb d_La_init_61 (by decide) ?_
  refine kput X hP hD hS 0 rfl rfl i_La ty_La ty_La_ok nm_La 8 (by decide) t_263 rfl (v := .int (-1)) rfl rfl (Nat.le_of_ble_eq_true rfl) d_La_init_62 (fun H locs hP hD hS => ?_)
  have hP : va_P D classes [(h0, .inr (6, [.ref r0, .ref q_1, .ref q_2, .ref q_3, .ref q_4, .int 0, .int 0, .int 0, .int (-1), .int 0])), (q_1, .inl (aI, 500, .inl (fun _ => 0))), (q_2, .inl (aI, 500, .inl (fun _ => 0))), (q_3, .inl (aI, 500, .inl (fun _ => 0))), (q_4, .inl (aZ, 500, .inl (fun _ => 0)))] H := hP
  have hD : va_D A [(h0, .inr (6, [.ref r0, .ref q_1, .ref q_2, .ref q_3, .ref q_4, .int 0, .int 0, .int 0, .int (-1), .int 0])), (q_1, .inl (aI, 500, .inl (fun _ => 0))), (q_2, .inl (aI, 500, .inl (fun _ => 0))), (q_3, .inl (aI, 500, .inl (fun _ => 0))), (q_4, .inl (aZ, 500, .inl (fun _ => 0)))] := hD
  refine lv_aload_n hx hb d_La_init_65 rfl (lv_at hl 0 rfl) ?_
  refine lv_iconst (v := (-1)) hx hb d_La_init_66 (by decide) ?_
  refine kput X hP hD hS 0 rfl rfl i_La ty_La ty_La_ok nm_La 9 (by decide) t_264 rfl (v := .int (-1)) rfl rfl (Nat.le_of_ble_eq_true rfl) d_La_init_67 (fun H locs hP hD hS => ?_)
  have hP : va_P D classes [(h0, .inr (6, [.ref r0, .ref q_1, .ref q_2, .ref q_3, .ref q_4, .int 0, .int 0, .int 0, .int (-1), .int (-1)])), (q_1, .inl (aI, 500, .inl (fun _ => 0))), (q_2, .inl (aI, 500, .inl (fun _ => 0))), (q_3, .inl (aI, 500, .inl (fun _ => 0))), (q_4, .inl (aZ, 500, .inl (fun _ => 0)))] H := hP
  have hD : va_D A [(h0, .inr (6, [.ref r0, .ref q_1, .ref q_2, .ref q_3, .ref q_4, .int 0, .int 0, .int 0, .int (-1), .int (-1)])), (q_1, .inl (aI, 500, .inl (fun _ => 0))), (q_2, .inl (aI, 500, .inl (fun _ => 0))), (q_3, .inl (aI, 500, .inl (fun _ => 0))), (q_4, .inl (aZ, 500, .inl (fun _ => 0)))] := hD
  exact krv X hr hlocks hS (q_1, q_2, q_3, q_4) trivial (hP.sub [0, 1, 2, 3, 4] rfl) (hD.sub [0, 1, 2, 3, 4] (by decide) rfl) d_La_init_70
