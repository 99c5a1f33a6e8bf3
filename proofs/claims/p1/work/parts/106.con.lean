set_option maxHeartbeats 4000000 in
set_option maxRecDepth 100000 in
theorem c21_So_append (l : Launch) (D : va_G) (aI aJ aZ : ClassId) (sz : Nat) (h0 : Nat) (h1 : Nat) (h2 : Nat) (h3 : Nat) (p0 : Int32) (v1 : Value) (g2 : Nat → Int32) (g3 : Nat → Int32) (g4 : Nat → Int32) : Met l y_So_append (kq y_So_append prog_10_method_5_code 6 none) { frames := 1, cells := 0, slots := 0, locals := 22 } (va_Pc [.ref h0, .int p0] (kPre D (kT aI aJ aZ) [(h0, .inr (0, [.ref h1, .ref h2, .ref h3, v1, .int 4])), (h1, .inl (aI, 600, .inl g2)), (h2, .inl (aI, 600, .inl g3)), (h3, .inl (aI, 600, .inl g4))] sz)) (va_Qv (fun (_ : (Nat → Int32) × (Nat → Int32) × (Nat → Int32)) => True) (fun u => kB D (va_A [(h0, .inr (0, [.ref h1, .ref h2, .ref h3, v1, .int 4])), (h1, .inl (aI, 600, .inl g2)), (h2, .inl (aI, 600, .inl g3)), (h3, .inl (aI, 600, .inl g4))] sz) ((fun (u : (Nat → Int32) × (Nat → Int32) × (Nat → Int32)) => ([(h0, .inr (0, [.ref h1, .ref h2, .ref h3, v1, .int 5])), (h1, .inl (aI, 600, .inl u.1)), (h2, .inl (aI, 600, .inl u.2.1)), (h3, .inl (aI, 600, .inl u.2.2))] : va_W)) u)) (va_A [(h0, .inr (0, [.ref h1, .ref h2, .ref h3, v1, .int 4])), (h1, .inl (aI, 600, .inl g2)), (h2, .inl (aI, 600, .inl g3)), (h3, .inl (aI, 600, .inl g4))] sz)) 0 0 (va_A [(h0, .inr (0, [.ref h1, .ref h2, .ref h3, v1, .int 4])), (h1, .inl (aI, 600, .inl g2)), (h2, .inl (aI, 600, .inl g3)), (h3, .inl (aI, 600, .inl g4))] sz) := by
  refine kMet (y := y_So_append) (bytes := prog_10_method_5_code) (maxL := 6) (ret := none) (av := [.ref h0, .int p0]) (ws := [(h0, .inr (0, [.ref h1, .ref h2, .ref h3, v1, .int 4])), (h1, .inl (aI, 600, .inl g2)), (h2, .inl (aI, 600, .inl g3)), (h3, .inl (aI, 600, .inl g4))]) (Qc := fun A => va_Qv (fun (_ : (Nat → Int32) × (Nat → Int32) × (Nat → Int32)) => True) (fun u => kB D A ((fun (u : (Nat → Int32) × (Nat → Int32) × (Nat → Int32)) => ([(h0, .inr (0, [.ref h1, .ref h2, .ref h3, v1, .int 5])), (h1, .inl (aI, 600, .inl u.1)), (h2, .inl (aI, 600, .inl u.2.1)), (h3, .inl (aI, 600, .inl u.2.2))] : va_W)) u)) A) "LayoutTokens$Source" "append" (by decide) rfl rfl (Nat.le_of_ble_eq_true rfl) ?_
  intro p e s m below meth c A ls X hr hlocks hin hA hP hD hl
  have hx := X.1.1
  have hb := X.1.2.1
  have hown := X.1.2.2.2.1
  have hk := X.1.2.2.2.2
  have hS : va_S A s.heap s.heap [] := va_S.rf
  have hl : lv_has ls 6 [(0, .ref h0), (1, .int p0)] := hl
  refine lv_aload_n hx hb d_So_append_0 rfl (lv_at hl 0 rfl) ?_
  refine kget X hP 0 rfl rfl i_So 4 (by decide) t_131 rfl (v := .int 4) rfl d_So_append_1 ?_
  refine lv_if_lt (tgt := 17) hx hb d_So_append_4 (by decide) (fun c_1 => absurd c_1 (by decide)) (fun c_1 => ?_)
  refine lv_aload_n hx hb d_So_append_7 rfl (lv_at hl 0 rfl) ?_
  refine kget X hP 0 rfl rfl i_So 4 (by decide) t_131 rfl (v := .int 4) rfl d_So_append_8 ?_
  refine lv_sipush (v := 600) hx hb d_So_append_11 (by decide) ?_
  refine lv_icmp_lt (tgt := 18) hx hb d_So_append_14 (by decide) (fun c_2 => ?_) (fun c_2 => absurd (by decide) c_2)
  refine lv_iconst (v := 1) hx hb d_So_append_18 (by decide) ?_
  refine lv_istore_n (lv' := [(2, .int 1), (0, .ref h0), (1, .int p0)]) hx hb d_So_append_19 rfl hl (by decide) rfl (fun ls hl => ?_)
  refine lv_iconst (v := 1) hx hb d_So_append_20 (by decide) ?_
  refine lv_istore_n (lv' := [(3, .int 1), (2, .int 1), (0, .ref h0), (1, .int p0)]) hx hb d_So_append_21 rfl hl (by decide) rfl (fun ls hl => ?_)
  refine lv_aload_n hx hb d_So_append_22 rfl (lv_at hl 2 rfl) ?_
  refine kget X hP 0 rfl rfl i_So 4 (by decide) t_131 rfl (v := .int 4) rfl d_So_append_23 ?_
  refine lv_if_le (tgt := 129) hx hb d_So_append_26 (by decide) (fun c_3 => absurd c_3 (by decide)) (fun c_3 => ?_)
  refine lv_aload_n hx hb d_So_append_29 rfl (lv_at hl 2 rfl) ?_
  refine kget X hP 0 rfl rfl i_So 0 (by decide) t_127 rfl (v := .ref h1) rfl d_So_append_30 ?_
  refine lv_aload_n hx hb d_So_append_33 rfl (lv_at hl 2 rfl) ?_
  refine kget X hP 0 rfl rfl i_So 4 (by decide) t_131 rfl (v := .int 4) rfl d_So_append_34 ?_
  refine lv_iconst (v := 1) hx hb d_So_append_37 (by decide) ?_
  refine lv_isub hx hb d_So_append_38 ?_
  refine lv_topi (fun z_4 ez_4 => ?_)
  obtain rfl : z_4 = 3 := ez_4.trans (by decide)
  refine kiald X hP 1 0 rfl rfl (by unfold vp_in; decide) d_So_append_39 (fun x_5 => ?_)
  refine lv_istore (lv' := [(4, .int x_5), (3, .int 1), (2, .int 1), (0, .ref h0), (1, .int p0)]) hx hb d_So_append_40 hl (by decide) rfl (fun ls hl => ?_)
  refine lv_iload hx hb d_So_append_42 (lv_at hl 0 rfl) ?_
  refine lv_bipush (v := 10) hx hb d_So_append_44 (by decide) ?_
  refine lv_icmp_eq (tgt := 62) hx hb d_So_append_46 (by decide) (fun c_6 => ?_) (fun c_6 => ?_)
  · refine lv_iconst (v := 1) hx hb d_So_append_62 (by decide) ?_
    refine lv_goto (tgt := 67) hx hb d_So_append_63 (by decide) ?_
    refine lv_istore (lv' := [(5, .int 1), (4, .int x_5), (3, .int 1), (2, .int 1), (0, .ref h0), (1, .int p0)]) hx hb d_So_append_67 hl (by decide) rfl (fun ls hl => ?_)
    refine lv_iload hx hb d_So_append_69 (lv_at hl 0 rfl) ?_
    refine lv_if_eq (tgt := 90) hx hb d_So_append_71 (by decide) (fun c_7 => absurd c_7 (by decide)) (fun c_7 => ?_)
    refine lv_aload_n hx hb d_So_append_74 rfl (lv_at hl 4 rfl) ?_
    refine kget X hP 0 rfl rfl i_So 1 (by decide) t_128 rfl (v := .ref h2) rfl d_So_append_75 ?_
    refine lv_aload_n hx hb d_So_append_78 rfl (lv_at hl 4 rfl) ?_
    refine kget X hP 0 rfl rfl i_So 4 (by decide) t_131 rfl (v := .int 4) rfl d_So_append_79 ?_
    refine lv_iconst (v := 1) hx hb d_So_append_82 (by decide) ?_
    refine lv_isub hx hb d_So_append_83 ?_
    refine lv_topi (fun z_8 ez_8 => ?_)
    obtain rfl : z_8 = 3 := ez_8.trans (by decide)
    refine kiald X hP 2 0 rfl rfl (by unfold vp_in; decide) d_So_append_84 (fun x_9 => ?_)
    refine lv_iconst (v := 1) hx hb d_So_append_85 (by decide) ?_
    refine lv_iadd hx hb d_So_append_86 ?_
    refine lv_topi (fun x_10 ex_10 => ?_)
    refine lv_goto (tgt := 101) hx hb d_So_append_87 (by decide) ?_
    refine lv_istore_n (lv' := [(2, .int x_10), (5, .int 1), (4, .int x_5), (3, .int 1), (0, .ref h0), (1, .int p0)]) hx hb d_So_append_101 rfl hl (by decide) rfl (fun ls hl => ?_)
    refine lv_iload hx hb d_So_append_102 (lv_at hl 1 rfl) ?_
    refine lv_if_eq (tgt := 111) hx hb d_So_append_104 (by decide) (fun c_11 => absurd c_11 (by decide)) (fun c_11 => ?_)
    refine lv_iconst (v := 1) hx hb d_So_append_107 (by decide) ?_
    refine lv_goto (tgt := 128) hx hb d_So_append_108 (by decide) ?_
    refine lv_istore_n (lv' := [(3, .int 1), (2, .int x_10), (5, .int 1), (4, .int x_5), (0, .ref h0), (1, .int p0)]) hx hb d_So_append_128 rfl hl (by decide) rfl (fun ls hl => ?_)
    refine lv_aload_n hx hb d_So_append_129 rfl (lv_at hl 4 rfl) ?_
    refine kget X hP 0 rfl rfl i_So 0 (by decide) t_127 rfl (v := .ref h1) rfl d_So_append_130 ?_
    refine lv_aload_n hx hb d_So_append_133 rfl (lv_at hl 4 rfl) ?_
    refine kget X hP 0 rfl rfl i_So 4 (by decide) t_131 rfl (v := .int 4) rfl d_So_append_134 ?_
    refine lv_iload_n hx hb d_So_append_137 rfl (lv_at hl 5 rfl) ?_
    refine kiast X hP hD hS 1 0 rfl rfl (by unfold vp_in; decide) d_So_append_138 (fun f_12 H locs hP hD hS => ?_)
    have hP : va_P D classes [(h0, .inr (0, [.ref h1, .ref h2, .ref h3, v1, .int 4])), (h1, .inl (aI, 600, .inl f_12)), (h2, .inl (aI, 600, .inl g3)), (h3, .inl (aI, 600, .inl g4))] H := hP
    have hD : va_D A [(h0, .inr (0, [.ref h1, .ref h2, .ref h3, v1, .int 4])), (h1, .inl (aI, 600, .inl f_12)), (h2, .inl (aI, 600, .inl g3)), (h3, .inl (aI, 600, .inl g4))] := hD
    refine lv_aload_n hx hb d_So_append_139 rfl (lv_at hl 4 rfl) ?_
    refine kget X hP 0 rfl rfl i_So 1 (by decide) t_128 rfl (v := .ref h2) rfl d_So_append_140 ?_
    refine lv_aload_n hx hb d_So_append_143 rfl (lv_at hl 4 rfl) ?_
    refine kget X hP 0 rfl rfl i_So 4 (by decide) t_131 rfl (v := .int 4) rfl d_So_append_144 ?_
    refine lv_iload_n hx hb d_So_append_147 rfl (lv_at hl 1 rfl) ?_
    refine kiast X hP hD hS 2 0 rfl rfl (by unfold vp_in; decide) d_So_append_148 (fun f_13 H locs hP hD hS => ?_)
    have hP : va_P D classes [(h0, .inr (0, [.ref h1, .ref h2, .ref h3, v1, .int 4])), (h1, .inl (aI, 600, .inl f_12)), (h2, .inl (aI, 600, .inl f_13)), (h3, .inl (aI, 600, .inl g4))] H := hP
    have hD : va_D A [(h0, .inr (0, [.ref h1, .ref h2, .ref h3, v1, .int 4])), (h1, .inl (aI, 600, .inl f_12)), (h2, .inl (aI, 600, .inl f_13)), (h3, .inl (aI, 600, .inl g4))] := hD
    refine lv_aload_n hx hb d_So_append_149 rfl (lv_at hl 4 rfl) ?_
    refine kget X hP 0 rfl rfl i_So 2 (by decide) t_129 rfl (v := .ref h3) rfl d_So_append_150 ?_
    refine lv_aload_n hx hb d_So_append_153 rfl (lv_at hl 4 rfl) ?_
    refine kget X hP 0 rfl rfl i_So 4 (by decide) t_131 rfl (v := .int 4) rfl d_So_append_154 ?_
    refine lv_iload_n hx hb d_So_append_157 rfl (lv_at hl 0 rfl) ?_
    refine kiast X hP hD hS 3 0 rfl rfl (by unfold vp_in; decide) d_So_append_158 (fun f_14 H locs hP hD hS => ?_)
    have hP : va_P D classes [(h0, .inr (0, [.ref h1, .ref h2, .ref h3, v1, .int 4])), (h1, .inl (aI, 600, .inl f_12)), (h2, .inl (aI, 600, .inl f_13)), (h3, .inl (aI, 600, .inl f_14))] H := hP
    have hD : va_D A [(h0, .inr (0, [.ref h1, .ref h2, .ref h3, v1, .int 4])), (h1, .inl (aI, 600, .inl f_12)), (h2, .inl (aI, 600, .inl f_13)), (h3, .inl (aI, 600, .inl f_14))] := hD
    refine lv_aload_n hx hb d_So_append_159 rfl (lv_at hl 4 rfl) ?_
    refine lv_dup hx hb d_So_append_160 rfl ?_
    refine kget X hP 0 rfl rfl i_So 4 (by decide) t_131 rfl (v := .int 4) rfl d_So_append_161 ?_
    refine lv_iconst (v := 1) hx hb d_So_append_164 (by decide) ?_
    refine lv_iadd hx hb d_So_append_165 ?_
    refine lv_topi (fun z_15 ez_15 => ?_)
    obtain rfl : z_15 = 5 := ez_15.trans (by decide)
    refine kput X hP hD hS 0 rfl rfl i_So ty_So ty_So_ok nm_So 4 (by decide) t_131 rfl (v := .int 5) rfl rfl (Nat.le_of_ble_eq_true rfl) d_So_append_166 (fun H locs hP hD hS => ?_)
    have hP : va_P D classes [(h0, .inr (0, [.ref h1, .ref h2, .ref h3, v1, .int 5])), (h1, .inl (aI, 600, .inl f_12)), (h2, .inl (aI, 600, .inl f_13)), (h3, .inl (aI, 600, .inl f_14))] H := hP
    have hD : va_D A [(h0, .inr (0, [.ref h1, .ref h2, .ref h3, v1, .int 5])), (h1, .inl (aI, 600, .inl f_12)), (h2, .inl (aI, 600, .inl f_13)), (h3, .inl (aI, 600, .inl f_14))] := hD
    exact krv X hr hlocks hS (f_12, f_13, f_14) trivial (hP.sub [0, 1, 2, 3] rfl) (hD.sub [0, 1, 2, 3] (by decide) rfl) d_So_append_169
  · refine lv_iload hx hb d_So_append_49 (lv_at hl 0 rfl) ?_
    refine lv_bipush (v := 13) hx hb d_So_append_51 (by decide) ?_
    refine lv_icmp_ne (tgt := 66) hx hb d_So_append_53 (by decide) (fun c_16 => ?_) (fun c_16 => ?_)
    · refine lv_iconst (v := 0) hx hb d_So_append_66 (by decide) ?_
      refine lv_istore (lv' := [(5, .int 0), (4, .int x_5), (3, .int 1), (2, .int 1), (0, .ref h0), (1, .int p0)]) hx hb d_So_append_67 hl (by decide) rfl (fun ls hl => ?_)
      refine lv_iload hx hb d_So_append_69 (lv_at hl 0 rfl) ?_
      refine lv_if_eq (tgt := 90) hx hb d_So_append_71 (by decide) (fun c_17 => ?_) (fun c_17 => absurd (by decide) c_17)
      refine lv_aload_n hx hb d_So_append_90 rfl (lv_at hl 4 rfl) ?_
      refine kget X hP 0 rfl rfl i_So 1 (by decide) t_128 rfl (v := .ref h2) rfl d_So_append_91 ?_
      refine lv_aload_n hx hb d_So_append_94 rfl (lv_at hl 4 rfl) ?_
      refine kget X hP 0 rfl rfl i_So 4 (by decide) t_131 rfl (v := .int 4) rfl d_So_append_95 ?_
      refine lv_iconst (v := 1) hx hb d_So_append_98 (by decide) ?_
      refine lv_isub hx hb d_So_append_99 ?_
      refine lv_topi (fun z_18 ez_18 => ?_)
      obtain rfl : z_18 = 3 := ez_18.trans (by decide)
      refine kiald X hP 2 0 rfl rfl (by unfold vp_in; decide) d_So_append_100 (fun x_19 => ?_)
      refine lv_istore_n (lv' := [(2, .int x_19), (5, .int 0), (4, .int x_5), (3, .int 1), (0, .ref h0), (1, .int p0)]) hx hb d_So_append_101 rfl hl (by decide) rfl (fun ls hl => ?_)
      refine lv_iload hx hb d_So_append_102 (lv_at hl 1 rfl) ?_
      refine lv_if_eq (tgt := 111) hx hb d_So_append_104 (by decide) (fun c_20 => ?_) (fun c_20 => absurd (by decide) c_20)
      refine lv_aload_n hx hb d_So_append_111 rfl (lv_at hl 4 rfl) ?_
      refine lv_iload hx hb d_So_append_112 (lv_at hl 2 rfl) ?_
      refine lv_aload_n hx hb d_So_append_114 rfl (lv_at hl 4 rfl) ?_
      refine kget X hP 0 rfl rfl i_So 2 (by decide) t_129 rfl (v := .ref h3) rfl d_So_append_115 ?_
      refine lv_aload_n hx hb d_So_append_118 rfl (lv_at hl 4 rfl) ?_
      refine kget X hP 0 rfl rfl i_So 4 (by decide) t_131 rfl (v := .int 4) rfl d_So_append_119 ?_
      refine lv_iconst (v := 1) hx hb d_So_append_122 (by decide) ?_
      refine lv_isub hx hb d_So_append_123 ?_
      refine lv_topi (fun z_21 ez_21 => ?_)
      obtain rfl : z_21 = 3 := ez_21.trans (by decide)
      refine kiald X hP 3 0 rfl rfl (by unfold vp_in; decide) d_So_append_124 (fun x_22 => ?_)
      refine kVi (n := 2) (As := [.int x_5, .int x_22]) (rest := []) (wr := [(h1, .inl (aI, 600, .inl g2)), (h2, .inl (aI, 600, .inl g3)), (h3, .inl (aI, 600, .inl g4))]) X hP hD hS hA (c14_So_columnBehind l D aI aJ aZ _ (h0) (x_5) (x_22) (.ref h1) (.ref h2) (.ref h3) (v1) (.int 4)) (kV_good t_401 t_398 t_400 t_0 t_98) rfl rfl (by decide +kernel) ⟨Nat.le_of_ble_eq_true rfl, Nat.le_of_ble_eq_true rfl⟩ hl.1 rfl rfl (Nat.le_of_ble_eq_true rfl) d_So_append_125 ⟨Nat.le_of_ble_eq_true rfl, Nat.le_of_ble_eq_true rfl⟩ [0] [1, 2, 3] rfl rfl (by decide) (by decide) (by decide) 0 rfl rfl (fun r_24 u H locs w_23 hP hD hS => ?_)
      have hP : va_P D classes [(h1, .inl (aI, 600, .inl g2)), (h2, .inl (aI, 600, .inl g3)), (h3, .inl (aI, 600, .inl g4)), (h0, .inr (0, [.ref h1, .ref h2, .ref h3, v1, .int 4]))] H := hP
      have hD : va_D A [(h1, .inl (aI, 600, .inl g2)), (h2, .inl (aI, 600, .inl g3)), (h3, .inl (aI, 600, .inl g4)), (h0, .inr (0, [.ref h1, .ref h2, .ref h3, v1, .int 4]))] := hD
      refine lv_istore_n (lv' := [(3, .int r_24), (2, .int x_19), (5, .int 0), (4, .int x_5), (0, .ref h0), (1, .int p0)]) hx hb d_So_append_128 rfl hl (by decide) rfl (fun ls hl => ?_)
      refine lv_aload_n hx hb d_So_append_129 rfl (lv_at hl 4 rfl) ?_
      refine kget X hP 3 rfl rfl i_So 0 (by decide) t_127 rfl (v := .ref h1) rfl d_So_append_130 ?_
      refine lv_aload_n hx hb d_So_append_133 rfl (lv_at hl 4 rfl) ?_
      refine kget X hP 3 rfl rfl i_So 4 (by decide) t_131 rfl (v := .int 4) rfl d_So_append_134 ?_
      refine lv_iload_n hx hb d_So_append_137 rfl (lv_at hl 5 rfl) ?_
      refine kiast X hP hD hS 0 0 rfl rfl (by unfold vp_in; decide) d_So_append_138 (fun f_25 H locs hP hD hS => ?_)
      have hP : va_P D classes [(h1, .inl (aI, 600, .inl f_25)), (h2, .inl (aI, 600, .inl g3)), (h3, .inl (aI, 600, .inl g4)), (h0, .inr (0, [.ref h1, .ref h2, .ref h3, v1, .int 4]))] H := hP
      have hD : va_D A [(h1, .inl (aI, 600, .inl f_25)), (h2, .inl (aI, 600, .inl g3)), (h3, .inl (aI, 600, .inl g4)), (h0, .inr (0, [.ref h1, .ref h2, .ref h3, v1, .int 4]))] := hD
      refine lv_aload_n hx hb d_So_append_139 rfl (lv_at hl 4 rfl) ?_
      refine kget X hP 3 rfl rfl i_So 1 (by decide) t_128 rfl (v := .ref h2) rfl d_So_append_140 ?_
      refine lv_aload_n hx hb d_So_append_143 rfl (lv_at hl 4 rfl) ?_
      refine kget X hP 3 rfl rfl i_So 4 (by decide) t_131 rfl (v := .int 4) rfl d_So_append_144 ?_
      refine lv_iload_n hx hb d_So_append_147 rfl (lv_at hl 1 rfl) ?_
      refine kiast X hP hD hS 1 0 rfl rfl (by unfold vp_in; decide) d_So_append_148 (fun f_26 H locs hP hD hS => ?_)
      have hP : va_P D classes [(h1, .inl (aI, 600, .inl f_25)), (h2, .inl (aI, 600, .inl f_26)), (h3, .inl (aI, 600, .inl g4)), (h0, .inr (0, [.ref h1, .ref h2, .ref h3, v1, .int 4]))] H := hP
      have hD : va_D A [(h1, .inl (aI, 600, .inl f_25)), (h2, .inl (aI, 600, .inl f_26)), (h3, .inl (aI, 600, .inl g4)), (h0, .inr (0, [.ref h1, .ref h2, .ref h3, v1, .int 4]))] := hD
      refine lv_aload_n hx hb d_So_append_149 rfl (lv_at hl 4 rfl) ?_
      refine kget X hP 3 rfl rfl i_So 2 (by decide) t_129 rfl (v := .ref h3) rfl d_So_append_150 ?_
      refine lv_aload_n hx hb d_So_append_153 rfl (lv_at hl 4 rfl) ?_
      refine kget X hP 3 rfl rfl i_So 4 (by decide) t_131 rfl (v := .int 4) rfl d_So_append_154 ?_
      refine lv_iload_n hx hb d_So_append_157 rfl (lv_at hl 0 rfl) ?_
      refine kiast X hP hD hS 2 0 rfl rfl (by unfold vp_in; decide) d_So_append_158 (fun f_27 H locs hP hD hS => ?_)
      have hP : va_P D classes [(h1, .inl (aI, 600, .inl f_25)), (h2, .inl (aI, 600, .inl f_26)), (h3, .inl (aI, 600, .inl f_27)), (h0, .inr (0, [.ref h1, .ref h2, .ref h3, v1, .int 4]))] H := hP
      have hD : va_D A [(h1, .inl (aI, 600, .inl f_25)), (h2, .inl (aI, 600, .inl f_26)), (h3, .inl (aI, 600, .inl f_27)), (h0, .inr (0, [.ref h1, .ref h2, .ref h3, v1, .int 4]))] := hD
      refine lv_aload_n hx hb d_So_append_159 rfl (lv_at hl 4 rfl) ?_
      refine lv_dup hx hb d_So_append_160 rfl ?_
      refine kget X hP 3 rfl rfl i_So 4 (by decide) t_131 rfl (v := .int 4) rfl d_So_append_161 ?_
      refine lv_iconst (v := 1) hx hb d_So_append_164 (by decide) ?_
      refine lv_iadd hx hb d_So_append_165 ?_
      refine lv_topi (fun z_28 ez_28 => ?_)
      obtain rfl : z_28 = 5 := ez_28.trans (by decide)
      refine kput X hP hD hS 3 rfl rfl i_So ty_So ty_So_ok nm_So 4 (by decide) t_131 rfl (v := .int 5) rfl rfl (Nat.le_of_ble_eq_true rfl) d_So_append_166 (fun H locs hP hD hS => ?_)
      have hP : va_P D classes [(h1, .inl (aI, 600, .inl f_25)), (h2, .inl (aI, 600, .inl f_26)), (h3, .inl (aI, 600, .inl f_27)), (h0, .inr (0, [.ref h1, .ref h2, .ref h3, v1, .int 5]))] H := hP
      have hD : va_D A [(h1, .inl (aI, 600, .inl f_25)), (h2, .inl (aI, 600, .inl f_26)), (h3, .inl (aI, 600, .inl f_27)), (h0, .inr (0, [.ref h1, .ref h2, .ref h3, v1, .int 5]))] := hD
      exact krv X hr hlocks hS (f_25, f_26, f_27) trivial (hP.sub [3, 0, 1, 2] rfl) (hD.sub [3, 0, 1, 2] (by decide) rfl) d_So_append_169
    · refine lv_iload_n hx hb d_So_append_56 rfl (lv_at hl 4 rfl) ?_
      refine lv_bipush (v := 10) hx hb d_So_append_57 (by decide) ?_
      refine lv_icmp_eq (tgt := 66) hx hb d_So_append_59 (by decide) (fun c_29 => ?_) (fun c_29 => ?_)
      · refine lv_iconst (v := 0) hx hb d_So_append_66 (by decide) ?_
        refine lv_istore (lv' := [(5, .int 0), (4, .int x_5), (3, .int 1), (2, .int 1), (0, .ref h0), (1, .int p0)]) hx hb d_So_append_67 hl (by decide) rfl (fun ls hl => ?_)
        refine lv_iload hx hb d_So_append_69 (lv_at hl 0 rfl) ?_
        refine lv_if_eq (tgt := 90) hx hb d_So_append_71 (by decide) (fun c_30 => ?_) (fun c_30 => absurd (by decide) c_30)
        refine lv_aload_n hx hb d_So_append_90 rfl (lv_at hl 4 rfl) ?_
        refine kget X hP 0 rfl rfl i_So 1 (by decide) t_128 rfl (v := .ref h2) rfl d_So_append_91 ?_
        refine lv_aload_n hx hb d_So_append_94 rfl (lv_at hl 4 rfl) ?_
        refine kget X hP 0 rfl rfl i_So 4 (by decide) t_131 rfl (v := .int 4) rfl d_So_append_95 ?_
        refine lv_iconst (v := 1) hx hb d_So_append_98 (by decide) ?_
        refine lv_isub hx hb d_So_append_99 ?_
        refine lv_topi (fun z_31 ez_31 => ?_)
        obtain rfl : z_31 = 3 := ez_31.trans (by decide)
        refine kiald X hP 2 0 rfl rfl (by unfold vp_in; decide) d_So_append_100 (fun x_32 => ?_)
        refine lv_istore_n (lv' := [(2, .int x_32), (5, .int 0), (4, .int x_5), (3, .int 1), (0, .ref h0), (1, .int p0)]) hx hb d_So_append_101 rfl hl (by decide) rfl (fun ls hl => ?_)
        refine lv_iload hx hb d_So_append_102 (lv_at hl 1 rfl) ?_
        refine lv_if_eq (tgt := 111) hx hb d_So_append_104 (by decide) (fun c_33 => ?_) (fun c_33 => absurd (by decide) c_33)
        refine lv_aload_n hx hb d_So_append_111 rfl (lv_at hl 4 rfl) ?_
        refine lv_iload hx hb d_So_append_112 (lv_at hl 2 rfl) ?_
        refine lv_aload_n hx hb d_So_append_114 rfl (lv_at hl 4 rfl) ?_
        refine kget X hP 0 rfl rfl i_So 2 (by decide) t_129 rfl (v := .ref h3) rfl d_So_append_115 ?_
        refine lv_aload_n hx hb d_So_append_118 rfl (lv_at hl 4 rfl) ?_
        refine kget X hP 0 rfl rfl i_So 4 (by decide) t_131 rfl (v := .int 4) rfl d_So_append_119 ?_
        refine lv_iconst (v := 1) hx hb d_So_append_122 (by decide) ?_
        refine lv_isub hx hb d_So_append_123 ?_
        refine lv_topi (fun z_34 ez_34 => ?_)
        obtain rfl : z_34 = 3 := ez_34.trans (by decide)
        refine kiald X hP 3 0 rfl rfl (by unfold vp_in; decide) d_So_append_124 (fun x_35 => ?_)
        refine kVi (n := 2) (As := [.int x_5, .int x_35]) (rest := []) (wr := [(h1, .inl (aI, 600, .inl g2)), (h2, .inl (aI, 600, .inl g3)), (h3, .inl (aI, 600, .inl g4))]) X hP hD hS hA (c14_So_columnBehind l D aI aJ aZ _ (h0) (x_5) (x_35) (.ref h1) (.ref h2) (.ref h3) (v1) (.int 4)) (kV_good t_401 t_398 t_400 t_0 t_98) rfl rfl (by decide +kernel) ⟨Nat.le_of_ble_eq_true rfl, Nat.le_of_ble_eq_true rfl⟩ hl.1 rfl rfl (Nat.le_of_ble_eq_true rfl) d_So_append_125 ⟨Nat.le_of_ble_eq_true rfl, Nat.le_of_ble_eq_true rfl⟩ [0] [1, 2, 3] rfl rfl (by decide) (by decide) (by decide) 0 rfl rfl (fun r_37 u H locs w_36 hP hD hS => ?_)
        have hP : va_P D classes [(h1, .inl (aI, 600, .inl g2)), (h2, .inl (aI, 600, .inl g3)), (h3, .inl (aI, 600, .inl g4)), (h0, .inr (0, [.ref h1, .ref h2, .ref h3, v1, .int 4]))] H := hP
        have hD : va_D A [(h1, .inl (aI, 600, .inl g2)), (h2, .inl (aI, 600, .inl g3)), (h3, .inl (aI, 600, .inl g4)), (h0, .inr (0, [.ref h1, .ref h2, .ref h3, v1, .int 4]))] := hD
        refine lv_istore_n (lv' := [(3, .int r_37), (2, .int x_32), (5, .int 0), (4, .int x_5), (0, .ref h0), (1, .int p0)]) hx hb d_So_append_128 rfl hl (by decide) rfl (fun ls hl => ?_)
        refine lv_aload_n hx hb d_So_append_129 rfl (lv_at hl 4 rfl) ?_
        refine kget X hP 3 rfl rfl i_So 0 (by decide) t_127 rfl (v := .ref h1) rfl d_So_append_130 ?_
        refine lv_aload_n hx hb d_So_append_133 rfl (lv_at hl 4 rfl) ?_
        refine kget X hP 3 rfl rfl i_So 4 (by decide) t_131 rfl (v := .int 4) rfl d_So_append_134 ?_
        refine lv_iload_n hx hb d_So_append_137 rfl (lv_at hl 5 rfl) ?_
        refine kiast X hP hD hS 0 0 rfl rfl (by unfold vp_in; decide) d_So_append_138 (fun f_38 H locs hP hD hS => ?_)
        have hP : va_P D classes [(h1, .inl (aI, 600, .inl f_38)), (h2, .inl (aI, 600, .inl g3)), (h3, .inl (aI, 600, .inl g4)), (h0, .inr (0, [.ref h1, .ref h2, .ref h3, v1, .int 4]))] H := hP
        have hD : va_D A [(h1, .inl (aI, 600, .inl f_38)), (h2, .inl (aI, 600, .inl g3)), (h3, .inl (aI, 600, .inl g4)), (h0, .inr (0, [.ref h1, .ref h2, .ref h3, v1, .int 4]))] := hD
        refine lv_aload_n hx hb d_So_append_139 rfl (lv_at hl 4 rfl) ?_
        refine kget X hP 3 rfl rfl i_So 1 (by decide) t_128 rfl (v := .ref h2) rfl d_So_append_140 ?_
        refine lv_aload_n hx hb d_So_append_143 rfl (lv_at hl 4 rfl) ?_
        refine kget X hP 3 rfl rfl i_So 4 (by decide) t_131 rfl (v := .int 4) rfl d_So_append_144 ?_
        refine lv_iload_n hx hb d_So_append_147 rfl (lv_at hl 1 rfl) ?_
        refine kiast X hP hD hS 1 0 rfl rfl (by unfold vp_in; decide) d_So_append_148 (fun f_39 H locs hP hD hS => ?_)
        have hP : va_P D classes [(h1, .inl (aI, 600, .inl f_38)), (h2, .inl (aI, 600, .inl f_39)), (h3, .inl (aI, 600, .inl g4)), (h0, .inr (0, [.ref h1, .ref h2, .ref h3, v1, .int 4]))] H := hP
        have hD : va_D A [(h1, .inl (aI, 600, .inl f_38)), (h2, .inl (aI, 600, .inl f_39)), (h3, .inl (aI, 600, .inl g4)), (h0, .inr (0, [.ref h1, .ref h2, .ref h3, v1, .int 4]))] := hD
        refine lv_aload_n hx hb d_So_append_149 rfl (lv_at hl 4 rfl) ?_
        refine kget X hP 3 rfl rfl i_So 2 (by decide) t_129 rfl (v := .ref h3) rfl d_So_append_150 ?_
        refine lv_aload_n hx hb d_So_append_153 rfl (lv_at hl 4 rfl) ?_
        refine kget X hP 3 rfl rfl i_So 4 (by decide) t_131 rfl (v := .int 4) rfl d_So_append_154 ?_
        refine lv_iload_n hx hb d_So_append_157 rfl (lv_at hl 0 rfl) ?_
        refine kiast X hP hD hS 2 0 rfl rfl (by unfold vp_in; decide) d_So_append_158 (fun f_40 H locs hP hD hS => ?_)
        have hP : va_P D classes [(h1, .inl (aI, 600, .inl f_38)), (h2, .inl (aI, 600, .inl f_39)), (h3, .inl (aI, 600, .inl f_40)), (h0, .inr (0, [.ref h1, .ref h2, .ref h3, v1, .int 4]))] H := hP
        have hD : va_D A [(h1, .inl (aI, 600, .inl f_38)), (h2, .inl (aI, 600, .inl f_39)), (h3, .inl (aI, 600, .inl f_40)), (h0, .inr (0, [.ref h1, .ref h2, .ref h3, v1, .int 4]))] := hD
        refine lv_aload_n hx hb d_So_append_159 rfl (lv_at hl 4 rfl) ?_
        refine lv_dup hx hb d_So_append_160 rfl ?_
        refine kget X hP 3 rfl rfl i_So 4 (by decide) t_131 rfl (v := .int 4) rfl d_So_append_161 ?_
        refine lv_iconst (v := 1) hx hb d_So_append_164 (by decide) ?_
        refine lv_iadd hx hb d_So_append_165 ?_
        refine lv_topi (fun z_41 ez_41 => ?_)
        obtain rfl : z_41 = 5 := ez_41.trans (by decide)
        refine kput X hP hD hS 3 rfl rfl i_So ty_So ty_So_ok nm_So 4 (by decide) t_131 rfl (v := .int 5) rfl rfl (Nat.le_of_ble_eq_true rfl) d_So_append_166 (fun H locs hP hD hS => ?_)
        have hP : va_P D classes [(h1, .inl (aI, 600, .inl f_38)), (h2, .inl (aI, 600, .inl f_39)), (h3, .inl (aI, 600, .inl f_40)), (h0, .inr (0, [.ref h1, .ref h2, .ref h3, v1, .int 5]))] H := hP
        have hD : va_D A [(h1, .inl (aI, 600, .inl f_38)), (h2, .inl (aI, 600, .inl f_39)), (h3, .inl (aI, 600, .inl f_40)), (h0, .inr (0, [.ref h1, .ref h2, .ref h3, v1, .int 5]))] := hD
        exact krv X hr hlocks hS (f_38, f_39, f_40) trivial (hP.sub [3, 0, 1, 2] rfl) (hD.sub [3, 0, 1, 2] (by decide) rfl) d_So_append_169
      · refine lv_iconst (v := 1) hx hb d_So_append_62 (by decide) ?_
        refine lv_goto (tgt := 67) hx hb d_So_append_63 (by decide) ?_
        refine lv_istore (lv' := [(5, .int 1), (4, .int x_5), (3, .int 1), (2, .int 1), (0, .ref h0), (1, .int p0)]) hx hb d_So_append_67 hl (by decide) rfl (fun ls hl => ?_)
        refine lv_iload hx hb d_So_append_69 (lv_at hl 0 rfl) ?_
        refine lv_if_eq (tgt := 90) hx hb d_So_append_71 (by decide) (fun c_42 => absurd c_42 (by decide)) (fun c_42 => ?_)
        refine lv_aload_n hx hb d_So_append_74 rfl (lv_at hl 4 rfl) ?_
        refine kget X hP 0 rfl rfl i_So 1 (by decide) t_128 rfl (v := .ref h2) rfl d_So_append_75 ?_
        refine lv_aload_n hx hb d_So_append_78 rfl (lv_at hl 4 rfl) ?_
        refine kget X hP 0 rfl rfl i_So 4 (by decide) t_131 rfl (v := .int 4) rfl d_So_append_79 ?_
        refine lv_iconst (v := 1) hx hb d_So_append_82 (by decide) ?_
        refine lv_isub hx hb d_So_append_83 ?_
        refine lv_topi (fun z_43 ez_43 => ?_)
        obtain rfl : z_43 = 3 := ez_43.trans (by decide)
        refine kiald X hP 2 0 rfl rfl (by unfold vp_in; decide) d_So_append_84 (fun x_44 => ?_)
        refine lv_iconst (v := 1) hx hb d_So_append_85 (by decide) ?_
        refine lv_iadd hx hb d_So_append_86 ?_
        refine lv_topi (fun x_45 ex_45 => ?_)
        refine lv_goto (tgt := 101) hx hb d_So_append_87 (by decide) ?_
        refine lv_istore_n (lv' := [(2, .int x_45), (5, .int 1), (4, .int x_5), (3, .int 1), (0, .ref h0), (1, .int p0)]) hx hb d_So_append_101 rfl hl (by decide) rfl (fun ls hl => ?_)
        refine lv_iload hx hb d_So_append_102 (lv_at hl 1 rfl) ?_
        refine lv_if_eq (tgt := 111) hx hb d_So_append_104 (by decide) (fun c_46 => absurd c_46 (by decide)) (fun c_46 => ?_)
        refine lv_iconst (v := 1) hx hb d_So_append_107 (by decide) ?_
        refine lv_goto (tgt := 128) hx hb d_So_append_108 (by decide) ?_
        refine lv_istore_n (lv' := [(3, .int 1), (2, .int x_45), (5, .int 1), (4, .int x_5), (0, .ref h0), (1, .int p0)]) hx hb d_So_append_128 rfl hl (by decide) rfl (fun ls hl => ?_)
        refine lv_aload_n hx hb d_So_append_129 rfl (lv_at hl 4 rfl) ?_
        refine kget X hP 0 rfl rfl i_So 0 (by decide) t_127 rfl (v := .ref h1) rfl d_So_append_130 ?_
        refine lv_aload_n hx hb d_So_append_133 rfl (lv_at hl 4 rfl) ?_
        refine kget X hP 0 rfl rfl i_So 4 (by decide) t_131 rfl (v := .int 4) rfl d_So_append_134 ?_
        refine lv_iload_n hx hb d_So_append_137 rfl (lv_at hl 5 rfl) ?_
        refine kiast X hP hD hS 1 0 rfl rfl (by unfold vp_in; decide) d_So_append_138 (fun f_47 H locs hP hD hS => ?_)
        have hP : va_P D classes [(h0, .inr (0, [.ref h1, .ref h2, .ref h3, v1, .int 4])), (h1, .inl (aI, 600, .inl f_47)), (h2, .inl (aI, 600, .inl g3)), (h3, .inl (aI, 600, .inl g4))] H := hP
        have hD : va_D A [(h0, .inr (0, [.ref h1, .ref h2, .ref h3, v1, .int 4])), (h1, .inl (aI, 600, .inl f_47)), (h2, .inl (aI, 600, .inl g3)), (h3, .inl (aI, 600, .inl g4))] := hD
        refine lv_aload_n hx hb d_So_append_139 rfl (lv_at hl 4 rfl) ?_
        refine kget X hP 0 rfl rfl i_So 1 (by decide) t_128 rfl (v := .ref h2) rfl d_So_append_140 ?_
        refine lv_aload_n hx hb d_So_append_143 rfl (lv_at hl 4 rfl) ?_
        refine kget X hP 0 rfl rfl i_So 4 (by decide) t_131 rfl (v := .int 4) rfl d_So_append_144 ?_
        refine lv_iload_n hx hb d_So_append_147 rfl (lv_at hl 1 rfl) ?_
        refine kiast X hP hD hS 2 0 rfl rfl (by unfold vp_in; decide) d_So_append_148 (fun f_48 H locs hP hD hS => ?_)
        have hP : va_P D classes [(h0, .inr (0, [.ref h1, .ref h2, .ref h3, v1, .int 4])), (h1, .inl (aI, 600, .inl f_47)), (h2, .inl (aI, 600, .inl f_48)), (h3, .inl (aI, 600, .inl g4))] H := hP
        have hD : va_D A [(h0, .inr (0, [.ref h1, .ref h2, .ref h3, v1, .int 4])), (h1, .inl (aI, 600, .inl f_47)), (h2, .inl (aI, 600, .inl f_48)), (h3, .inl (aI, 600, .inl g4))] := hD
        refine lv_aload_n hx hb d_So_append_149 rfl (lv_at hl 4 rfl) ?_
        refine kget X hP 0 rfl rfl i_So 2 (by decide) t_129 rfl (v := .ref h3) rfl d_So_append_150 ?_
        refine lv_aload_n hx hb d_So_append_153 rfl (lv_at hl 4 rfl) ?_
        refine kget X hP 0 rfl rfl i_So 4 (by decide) t_131 rfl (v := .int 4) rfl d_So_append_154 ?_
        refine lv_iload_n hx hb d_So_append_157 rfl (lv_at hl 0 rfl) ?_
        refine kiast X hP hD hS 3 0 rfl rfl (by unfold vp_in; decide) d_So_append_158 (fun f_49 H locs hP hD hS => ?_)
        have hP : va_P D classes [(h0, .inr (0, [.ref h1, .ref h2, .ref h3, v1, .int 4])), (h1, .inl (aI, 600, .inl f_47)), (h2, .inl (aI, 600, .inl f_48)), (h3, .inl (aI, 600, .inl f_49))] H := hP
        have hD : va_D A [(h0, .inr (0, [.ref h1, .ref h2, .ref h3, v1, .int 4])), (h1, .inl (aI, 600, .inl f_47)), (h2, .inl (aI, 600, .inl f_48)), (h3, .inl (aI, 600, .inl f_49))] := hD
        refine lv_aload_n hx hb d_So_append_159 rfl (lv_at hl 4 rfl) ?_
        refine lv_dup hx hb d_So_append_160 rfl ?_
        refine kget X hP 0 rfl rfl i_So 4 (by decide) t_131 rfl (v := .int 4) rfl d_So_append_161 ?_
        refine lv_iconst (v := 1) hx hb d_So_append_164 (by decide) ?_
        refine lv_iadd hx hb d_So_append_165 ?_
        refine lv_topi (fun z_50 ez_50 => ?_)
        obtain rfl : z_50 = 5 := ez_50.trans (by decide)
        refine kput X hP hD hS 0 rfl rfl i_So ty_So ty_So_ok nm_So 4 (by decide) t_131 rfl (v := .int 5) rfl rfl (Nat.le_of_ble_eq_true rfl) d_So_append_166 (fun H locs hP hD hS => ?_)
        have hP : va_P D classes [(h0, .inr (0, [.ref h1, .ref h2, .ref h3, v1, .int 5])), (h1, .inl (aI, 600, .inl f_47)), (h2, .inl (aI, 600, .inl f_48)), (h3, .inl (aI, 600, .inl f_49))] H := hP
        have hD : va_D A [(h0, .inr (0, [.ref h1, .ref h2, .ref h3, v1, .int 5])), (h1, .inl (aI, 600, .inl f_47)), (h2, .inl (aI, 600, .inl f_48)), (h3, .inl (aI, 600, .inl f_49))] := hD
        exact krv X hr hlocks hS (f_47, f_48, f_49) trivial (hP.sub [0, 1, 2, 3] rfl) (hD.sub [0, 1, 2, 3] (by decide) rfl) d_So_append_169
set_option maxHeartbeats 4000000 in
set_option maxRecDepth 100000 in
theorem c22_So_size (l : Launch) (D : va_G) (aI aJ aZ : ClassId) (sz : Nat) (h0 : Nat) (v0 : Value) (v1 : Value) (v2 : Value) (v3 : Value) : Met l y_So_size (kq y_So_size prog_10_method_2_code 1 (some .int)) { frames := 0, cells := 0, slots := 0, locals := 0 } (va_Pc [.ref h0] (kPre D (kT aI aJ aZ) [(h0, .inr (0, [v0, v1, v2, v3, .int 5]))] sz)) (va_Qi (fun (r : Int32) (_ : Unit) => r = 5) (fun u => kB D (va_A [(h0, .inr (0, [v0, v1, v2, v3, .int 5]))] sz) ((fun (_ : Unit) => ([(h0, .inr (0, [v0, v1, v2, v3, .int 5]))] : va_W)) u)) (va_A [(h0, .inr (0, [v0, v1, v2, v3, .int 5]))] sz)) 0 0 (va_A [(h0, .inr (0, [v0, v1, v2, v3, .int 5]))] sz) := by
  refine kMet (y := y_So_size) (bytes := prog_10_method_2_code) (maxL := 1) (ret := (some .int)) (av := [.ref h0]) (ws := [(h0, .inr (0, [v0, v1, v2, v3, .int 5]))]) (Qc := fun A => va_Qi (fun (r : Int32) (_ : Unit) => r = 5) (fun u => kB D A ((fun (_ : Unit) => ([(h0, .inr (0, [v0, v1, v2, v3, .int 5]))] : va_W)) u)) A) "LayoutTokens$Source" "size" (by decide) rfl rfl (Nat.le_of_ble_eq_true rfl) ?_
  intro p e s m below meth c A ls X hr hlocks hin hA hP hD hl
  have hx := X.1.1
  have hb := X.1.2.1
  have hown := X.1.2.2.2.1
  have hk := X.1.2.2.2.2
  have hS : va_S A s.heap s.heap [] := va_S.rf
  have hl : lv_has ls 1 [(0, .ref h0)] := hl
  refine lv_aload_n hx hb d_So_size_0 rfl (lv_at hl 0 rfl) ?_
  refine kget X hP 0 rfl rfl i_So 4 (by decide) t_131 rfl (v := .int 5) rfl d_So_size_1 ?_
  exact kri X hr hlocks hS () rfl (hP.sub [0] rfl) (hD.sub [0] (by decide) rfl) d_So_size_4
