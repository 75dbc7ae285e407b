/-! laid by program (wip/gen) -/
set_option maxRecDepth 100000 in
set_option maxHeartbeats 4000000 in
theorem c_Big_trim0_72 (l : Launch) (D : va_G) (a : Nat → ClassId) (h0 : Nat) (h1 : Nat) (f0 : Nat → Int32) : ∀ sz : Nat, Met l y_Big_trim (Cond.code y_Big_trim b_Big_trim 1 none :: wA) ({ frames := 0, cells := 0, slots := 0, locals := 0 } : Room) (va_Pc [.ref h0] (kP D a [(h0, .inr (1, [.ref h1, .int 0, .int 0])), (h1, .inl (a 0, 72, .inl f0))] sz)) (va_Qv (fun u : va_W => u = [(h0, .inr (1, [.ref h1, .int 0, .int 0])), (h1, .inl (a 0, 72, .inl f0))]) (kB D a (va_A [(h0, .inr (1, [.ref h1, .int 0, .int 0])), (h1, .inl (a 0, 72, .inl f0))] sz)) (va_A [(h0, .inr (1, [.ref h1, .int 0, .int 0])), (h1, .inl (a 0, 72, .inl f0))] sz)) 0 0 (va_A [(h0, .inr (1, [.ref h1, .int 0, .int 0])), (h1, .inl (a 0, 72, .inl f0))] sz) :=
  kM (Qc := fun A => va_Qv (fun u : va_W => u = [(h0, .inr (1, [.ref h1, .int 0, .int 0])), (h1, .inl (a 0, 72, .inl f0))]) (kB D a A) A) (by decide) (Nat.le_of_ble_eq_true rfl) (by
    intro p e s m below meth c A ls H locs E hr hlk hnm w hl
    have hx := E.1.1
    have hb := E.1.2.1
    have E : kE p m c b_Big_trim 1 s [.ref h0].toArray "RootAlgebra$Big" D a A := E
    have hl : lv_has ls 1 [(0, .ref h0)] := hl
    refine lv_aload_n hx hb d_Big_trim_0 rfl (lv_at hl 0 rfl) ?_
    refine kx_get E w zC_Big 0 rfl 1 (by decide) mw_15 rfl d_Big_trim_1 ?_
    refine lv_if_le (tgt := 34) hx hb d_Big_trim_4 (by decide) (fun _ => ?_) (fun h => absurd (by decide) h)
    refine lv_aload_n hx hb d_Big_trim_34 rfl (lv_at hl 0 rfl) ?_
    refine kx_get E w zC_Big 0 rfl 1 (by decide) mw_15 rfl d_Big_trim_35 ?_
    refine lv_if_ne (tgt := 46) hx hb d_Big_trim_38 (by decide) (fun h => absurd (by decide) h) (fun _ => ?_)
    refine lv_aload_n hx hb d_Big_trim_41 rfl (lv_at hl 0 rfl) ?_
    refine lv_iconst (v := 0) hx hb d_Big_trim_42 (by decide) ?_
    refine kx_put E w zC_Big 0 rfl 2 (by decide) mw_14 rfl rfl rfl (Nat.le_of_ble_eq_true rfl) d_Big_trim_43 (ws' := [(h0, .inr (1, [.ref h1, .int 0, .int 0])), (h1, .inl (a 0, 72, .inl f0))]) rfl (fun H locs w => ?_)
    refine W.widen (k := 0) (n := 0) (Nat.le_of_ble_eq_true rfl) (Nat.le_of_ble_eq_true rfl) ?_
    exact kx_vret E w hr hlk d_Big_trim_46 rfl)
set_option maxRecDepth 100000 in
set_option maxHeartbeats 4000000 in
theorem c_Big_divide0_72 (l : Launch) (D : va_G) (a : Nat → ClassId) (h0 : Nat) (h1 : Nat) (f0 : Nat → Int32) (dd : Int32) (hd : 0 < dd) : ∀ sz : Nat, Met l y_Big_divide (Cond.code y_Big_divide b_Big_divide 7 (some .int) :: wA) ({ frames := 1, cells := 0, slots := 0, locals := 20 } : Room) (va_Pc [.ref h0, .int dd] (kP D a [(h0, .inr (1, [.ref h1, .int 0, .int 0])), (h1, .inl (a 0, 72, .inl f0))] sz)) (va_Qi (fun (rr : Int32) (u : va_W) => rr = 0 ∧ u = [(h0, .inr (1, [.ref h1, .int 0, .int 0])), (h1, .inl (a 0, 72, .inl f0))]) (kB D a (va_A [(h0, .inr (1, [.ref h1, .int 0, .int 0])), (h1, .inl (a 0, 72, .inl f0))] sz)) (va_A [(h0, .inr (1, [.ref h1, .int 0, .int 0])), (h1, .inl (a 0, 72, .inl f0))] sz)) 0 0 (va_A [(h0, .inr (1, [.ref h1, .int 0, .int 0])), (h1, .inl (a 0, 72, .inl f0))] sz) :=
  kM (Qc := fun A => va_Qi (fun (rr : Int32) (u : va_W) => rr = 0 ∧ u = [(h0, .inr (1, [.ref h1, .int 0, .int 0])), (h1, .inl (a 0, 72, .inl f0))]) (kB D a A) A) (by decide) (Nat.le_of_ble_eq_true rfl) (by
    intro p e s m below meth c A ls H locs E hr hlk hnm w hl
    have hx := E.1.1
    have hb := E.1.2.1
    have E : kE p m c b_Big_divide 7 s [.ref h0, .int dd].toArray "RootAlgebra$Big" D a A := E
    have hl : lv_has ls 7 [(0, .ref h0), (1, .int dd)] := hl
    refine lv_iload_n hx hb d_Big_divide_0 rfl (lv_at hl 1 rfl) ?_
    refine lv_if_gt (tgt := 6) hx hb d_Big_divide_1 (by decide) (fun _ => ?_) (fun h => absurd hd h)
    refine lv_lconst (v := 0) hx hb d_Big_divide_6 (by decide) ?_
    refine lv_lstore_n (lv' := [(2, .long 0), (0, .ref h0), (1, .int dd)]) hx hb d_Big_divide_7 rfl hl (by decide) rfl (fun ls hl => ?_)
    refine lv_aload_n hx hb d_Big_divide_8 rfl (lv_at hl 1 rfl) ?_
    refine kx_get E w zC_Big 0 rfl 1 (by decide) mw_15 rfl d_Big_divide_9 ?_
    refine lv_iconst (v := 1) hx hb d_Big_divide_12 (by decide) ?_
    refine kx_isub (v := (-1)) hx hb d_Big_divide_13 (by decide) ?_
    refine lv_istore (lv' := [(4, .int (-1)), (2, .long 0), (0, .ref h0), (1, .int dd)]) hx hb d_Big_divide_14 hl (by decide) rfl (fun ls hl => ?_)
    refine lv_iload hx hb d_Big_divide_16 (lv_at hl 0 rfl) ?_
    refine lv_if_lt (tgt := 65) hx hb d_Big_divide_18 (by decide) (fun _ => ?_) (fun h => absurd (by decide) h)
    refine lv_aload_n hx hb d_Big_divide_65 rfl (lv_at hl 2 rfl) ?_
    refine kx_v E w (wc := [(h0, .inr (1, [.ref h1, .int 0, .int 0])), (h1, .inl (a 0, 72, .inl f0))]) (wr := []) [0, 1] [] rfl rfl ⟨rfl, rfl, by decide⟩ (kx_rV E w hl.1 (As := []) (wc := [(h0, .inr (1, [.ref h1, .int 0, .int 0])), (h1, .inl (a 0, 72, .inl f0))]) (c_Big_trim0_72 l D a h0 h1 f0 H.size) gc_30 gv_Big_trim (kRecv E w 1 0 rfl rfl) [0, 1] rfl rfl rfl rfl rfl ⟨(Nat.le_of_ble_eq_true rfl), (Nat.le_of_ble_eq_true rfl)⟩ rfl (Nat.le_of_ble_eq_true rfl) d_Big_divide_66 ⟨(Nat.le_of_ble_eq_true rfl), (Nat.le_of_ble_eq_true rfl)⟩) (fun u H locs hu w => ?_)
    obtain ⟨rfl⟩ := hu
    have w : kW D A s [(h0, .inr (1, [.ref h1, .int 0, .int 0])), (h1, .inl (a 0, 72, .inl f0))] H locs := w
    refine lv_lload_n hx hb d_Big_divide_69 rfl (lv_at hl 1 rfl) ?_
    refine lv_l2i (v := 0) hx hb d_Big_divide_70 (by decide) ?_
    refine W.widen (k := 0) (n := 0) (Nat.le_of_ble_eq_true rfl) (Nat.le_of_ble_eq_true rfl) ?_
    exact kx_iret E w hr hlk d_Big_divide_71 (v := 0) ⟨rfl, rfl⟩)
set_option maxRecDepth 100000 in
set_option maxHeartbeats 4000000 in
theorem c_Big_scale0 (l : Launch) (D : va_G) (a : Nat → ClassId) (h0 : Nat) (h1 : Nat) (f0 : Nat → Int32) : ∀ sz : Nat, Met l y_Big_scale (Cond.code y_Big_scale b_Big_scale 10 none :: wA) ({ frames := 0, cells := 0, slots := 0, locals := 0 } : Room) (va_Pc [.ref h0, .int 10] (kP D a [(h0, .inr (1, [.ref h1, .int 0, .int 0])), (h1, .inl (a 0, 72, .inl f0))] sz)) (va_Qv (fun u : va_W => u = [(h0, .inr (1, [.ref h1, .int 0, .int 0])), (h1, .inl (a 0, 72, .inl f0))]) (kB D a (va_A [(h0, .inr (1, [.ref h1, .int 0, .int 0])), (h1, .inl (a 0, 72, .inl f0))] sz)) (va_A [(h0, .inr (1, [.ref h1, .int 0, .int 0])), (h1, .inl (a 0, 72, .inl f0))] sz)) 0 0 (va_A [(h0, .inr (1, [.ref h1, .int 0, .int 0])), (h1, .inl (a 0, 72, .inl f0))] sz) :=
  kM (Qc := fun A => va_Qv (fun u : va_W => u = [(h0, .inr (1, [.ref h1, .int 0, .int 0])), (h1, .inl (a 0, 72, .inl f0))]) (kB D a A) A) (by decide) (Nat.le_of_ble_eq_true rfl) (by
    intro p e s m below meth c A ls H locs E hr hlk hnm w hl
    have hx := E.1.1
    have hb := E.1.2.1
    have E : kE p m c b_Big_scale 10 s [.ref h0, .int 10].toArray "RootAlgebra$Big" D a A := E
    have hl : lv_has ls 10 [(0, .ref h0), (1, .int 10)] := hl
    refine lv_iload_n hx hb d_Big_scale_0 rfl (lv_at hl 1 rfl) ?_
    refine lv_iconst (v := 1) hx hb d_Big_scale_1 (by decide) ?_
    refine lv_icmp_eq (tgt := 12) hx hb d_Big_scale_2 (by decide) (fun h => absurd h (by decide)) (fun _ => ?_)
    refine lv_aload_n hx hb d_Big_scale_5 rfl (lv_at hl 0 rfl) ?_
    refine kx_get E w zC_Big 0 rfl 2 (by decide) mw_14 rfl d_Big_scale_6 ?_
    refine lv_if_ne (tgt := 13) hx hb d_Big_scale_9 (by decide) (fun h => absurd (by decide) h) (fun _ => ?_)
    refine W.widen (k := 0) (n := 0) (Nat.le_of_ble_eq_true rfl) (Nat.le_of_ble_eq_true rfl) ?_
    exact kx_vret E w hr hlk d_Big_scale_12 rfl)
set_option maxRecDepth 100000 in
set_option maxHeartbeats 4000000 in
theorem c_Big_divideDown0 (l : Launch) (D : va_G) (a : Nat → ClassId) (h0 : Nat) (h1 : Nat) (f0 : Nat → Int32) : ∀ sz : Nat, Met l y_Big_divideDown (Cond.code y_Big_divideDown b_Big_divideDown 3 none :: wA) ({ frames := 2, cells := 0, slots := 0, locals := 46 } : Room) (va_Pc [.ref h0, .int 1] (kP D a [(h0, .inr (1, [.ref h1, .int 0, .int 0])), (h1, .inl (a 0, 72, .inl f0))] sz)) (va_Qv (fun u : va_W => u = [(h0, .inr (1, [.ref h1, .int 0, .int 0])), (h1, .inl (a 0, 72, .inl f0))]) (kB D a (va_A [(h0, .inr (1, [.ref h1, .int 0, .int 0])), (h1, .inl (a 0, 72, .inl f0))] sz)) (va_A [(h0, .inr (1, [.ref h1, .int 0, .int 0])), (h1, .inl (a 0, 72, .inl f0))] sz)) 0 0 (va_A [(h0, .inr (1, [.ref h1, .int 0, .int 0])), (h1, .inl (a 0, 72, .inl f0))] sz) :=
  kM (Qc := fun A => va_Qv (fun u : va_W => u = [(h0, .inr (1, [.ref h1, .int 0, .int 0])), (h1, .inl (a 0, 72, .inl f0))]) (kB D a A) A) (by decide) (Nat.le_of_ble_eq_true rfl) (by
    intro p e s m below meth c A ls H locs E hr hlk hnm w hl
    have hx := E.1.1
    have hb := E.1.2.1
    have E : kE p m c b_Big_divideDown 3 s [.ref h0, .int 1].toArray "RootAlgebra$Big" D a A := E
    have hl : lv_has ls 3 [(0, .ref h0), (1, .int 1)] := hl
    refine lv_aload_n hx hb d_Big_divideDown_0 rfl (lv_at hl 0 rfl) ?_
    refine kx_get E w zC_Big 0 rfl 2 (by decide) mw_14 rfl d_Big_divideDown_1 ?_
    refine lv_if_ge (tgt := 11) hx hb d_Big_divideDown_4 (by decide) (fun _ => ?_) (fun h => absurd (by decide) h)
    refine lv_iconst (v := 0) hx hb d_Big_divideDown_11 (by decide) ?_
    refine lv_istore_n (lv' := [(2, .int 0), (0, .ref h0), (1, .int 1)]) hx hb d_Big_divideDown_12 rfl hl (by decide) rfl (fun ls hl => ?_)
    refine lv_aload_n hx hb d_Big_divideDown_13 rfl (lv_at hl 1 rfl) ?_
    refine lv_iload_n hx hb d_Big_divideDown_14 rfl (lv_at hl 2 rfl) ?_
    refine kx_i E w (wc := [(h0, .inr (1, [.ref h1, .int 0, .int 0])), (h1, .inl (a 0, 72, .inl f0))]) (wr := []) [0, 1] [] rfl rfl ⟨rfl, rfl, by decide⟩ (kx_rV E w hl.1 (As := [.int 1]) (wc := [(h0, .inr (1, [.ref h1, .int 0, .int 0])), (h1, .inl (a 0, 72, .inl f0))]) (c_Big_divide0_72 l D a h0 h1 f0 1 (by decide) H.size) gc_31 gv_Big_divide (kRecv E w 1 0 rfl rfl) [0, 1] rfl rfl rfl rfl rfl ⟨(Nat.le_of_ble_eq_true rfl), (Nat.le_of_ble_eq_true rfl)⟩ rfl (Nat.le_of_ble_eq_true rfl) d_Big_divideDown_15 ⟨(Nat.le_of_ble_eq_true rfl), (Nat.le_of_ble_eq_true rfl)⟩) (fun rr u H locs hu w => ?_)
    obtain ⟨rfl, rfl⟩ := hu
    have w : kW D A s [(h0, .inr (1, [.ref h1, .int 0, .int 0])), (h1, .inl (a 0, 72, .inl f0))] H locs := w
    refine lv_if_eq (tgt := 29) hx hb d_Big_divideDown_18 (by decide) (fun _ => ?_) (fun h => absurd (by decide) h)
    refine W.widen (k := 0) (n := 0) (Nat.le_of_ble_eq_true rfl) (Nat.le_of_ble_eq_true rfl) ?_
    exact kx_vret E w hr hlk d_Big_divideDown_29 rfl)
set_option maxRecDepth 100000 in
set_option maxHeartbeats 4000000 in
theorem c_Big_set0 (l : Launch) (D : va_G) (a : Nat → ClassId) (h0 : Nat) (h1 : Nat) (f0 : Nat → Int32) (g0 : Nat) (g1 : Nat) (f1 : Nat → Int32) (x0 : Int32) (x1 : Int32) : ∀ sz : Nat, Met l y_Big_set (Cond.code y_Big_set b_Big_set 2 none :: wA) ({ frames := 1, cells := 0, slots := 0, locals := 60 } : Room) (va_Pc [.ref h0, .ref g0] (kP D a [(h0, .inr (1, [.ref h1, .int x0, .int x1])), (h1, .inl (a 0, 8, .inl f0)), (g0, .inr (1, [.ref g1, .int 0, .int 0])), (g1, .inl (a 0, 72, .inl f1))] sz)) (va_Qv (fun u : va_W => u = [(g0, .inr (1, [.ref g1, .int 0, .int 0])), (g1, .inl (a 0, 72, .inl f1)), (h0, .inr (1, [.ref h1, .int 0, .int 0])), (h1, .inl (a 0, 8, .inl (va_cpy f1 f0 0 0 0)))]) (kB D a (va_A [(h0, .inr (1, [.ref h1, .int x0, .int x1])), (h1, .inl (a 0, 8, .inl f0)), (g0, .inr (1, [.ref g1, .int 0, .int 0])), (g1, .inl (a 0, 72, .inl f1))] sz)) (va_A [(h0, .inr (1, [.ref h1, .int x0, .int x1])), (h1, .inl (a 0, 8, .inl f0)), (g0, .inr (1, [.ref g1, .int 0, .int 0])), (g1, .inl (a 0, 72, .inl f1))] sz)) 0 0 (va_A [(h0, .inr (1, [.ref h1, .int x0, .int x1])), (h1, .inl (a 0, 8, .inl f0)), (g0, .inr (1, [.ref g1, .int 0, .int 0])), (g1, .inl (a 0, 72, .inl f1))] sz) :=
  kM (Qc := fun A => va_Qv (fun u : va_W => u = [(g0, .inr (1, [.ref g1, .int 0, .int 0])), (g1, .inl (a 0, 72, .inl f1)), (h0, .inr (1, [.ref h1, .int 0, .int 0])), (h1, .inl (a 0, 8, .inl (va_cpy f1 f0 0 0 0)))]) (kB D a A) A) (by decide) (Nat.le_of_ble_eq_true rfl) (by
    intro p e s m below meth c A ls H locs E hr hlk hnm w hl
    have hx := E.1.1
    have hb := E.1.2.1
    have E : kE p m c b_Big_set 2 s [.ref h0, .ref g0].toArray "RootAlgebra$Big" D a A := E
    have hl : lv_has ls 2 [(0, .ref h0), (1, .ref g0)] := hl
    refine lv_aload_n hx hb d_Big_set_0 rfl (lv_at hl 0 rfl) ?_
    refine lv_aload_n hx hb d_Big_set_1 rfl (lv_at hl 1 rfl) ?_
    refine kx_get E w zC_Big 2 rfl 1 (by decide) mw_15 rfl d_Big_set_2 ?_
    refine lv_aload_n hx hb d_Big_set_5 rfl (lv_at hl 0 rfl) ?_
    refine kx_get E w zC_Big 0 rfl 0 (by decide) mw_4 rfl d_Big_set_6 ?_
    refine kx_alen E w 1 0 rfl rfl (v := 8) rfl d_Big_set_9 ?_
    refine kx_mmin E hl.1 (v := 0) mw_246 mw_221 mw_222 mw_223 (Nat.le_of_ble_eq_true rfl) (Nat.le_of_ble_eq_true rfl) ⟨(Nat.le_of_ble_eq_true rfl), (Nat.le_of_ble_eq_true rfl)⟩ d_Big_set_10 (by decide) ?_
    refine kx_put E w zC_Big 0 rfl 1 (by decide) mw_15 rfl rfl rfl (Nat.le_of_ble_eq_true rfl) d_Big_set_13 (ws' := [(h0, .inr (1, [.ref h1, .int 0, .int x1])), (h1, .inl (a 0, 8, .inl f0)), (g0, .inr (1, [.ref g1, .int 0, .int 0])), (g1, .inl (a 0, 72, .inl f1))]) rfl (fun H locs w => ?_)
    refine lv_aload_n hx hb d_Big_set_16 rfl (lv_at hl 1 rfl) ?_
    refine kx_get E w zC_Big 2 rfl 0 (by decide) mw_4 rfl d_Big_set_17 ?_
    refine lv_iconst (v := 0) hx hb d_Big_set_20 (by decide) ?_
    refine lv_aload_n hx hb d_Big_set_21 rfl (lv_at hl 0 rfl) ?_
    refine kx_get E w zC_Big 0 rfl 0 (by decide) mw_4 rfl d_Big_set_22 ?_
    refine lv_iconst (v := 0) hx hb d_Big_set_25 (by decide) ?_
    refine lv_aload_n hx hb d_Big_set_26 rfl (lv_at hl 0 rfl) ?_
    refine kx_get E w zC_Big 0 rfl 1 (by decide) mw_15 rfl d_Big_set_27 ?_
    refine kx_copy0 E w hl.1 mw_247 mw_248 mw_249 mw_250 3 1 rfl rfl (Nat.le_of_ble_eq_true rfl) (by decide) d_Big_set_30 (ws' := [(h0, .inr (1, [.ref h1, .int 0, .int x1])), (h1, .inl (a 0, 8, .inl (va_cpy f1 f0 0 0 0))), (g0, .inr (1, [.ref g1, .int 0, .int 0])), (g1, .inl (a 0, 72, .inl f1))]) rfl (fun H locs w => ?_)
    refine lv_aload_n hx hb d_Big_set_33 rfl (lv_at hl 0 rfl) ?_
    refine lv_aload_n hx hb d_Big_set_34 rfl (lv_at hl 1 rfl) ?_
    refine kx_get E w zC_Big 2 rfl 2 (by decide) mw_14 rfl d_Big_set_35 ?_
    refine kx_put E w zC_Big 0 rfl 2 (by decide) mw_14 rfl rfl rfl (Nat.le_of_ble_eq_true rfl) d_Big_set_38 (ws' := [(h0, .inr (1, [.ref h1, .int 0, .int 0])), (h1, .inl (a 0, 8, .inl (va_cpy f1 f0 0 0 0))), (g0, .inr (1, [.ref g1, .int 0, .int 0])), (g1, .inl (a 0, 72, .inl f1))]) rfl (fun H locs w => ?_)
    refine lv_aload_n hx hb d_Big_set_41 rfl (lv_at hl 0 rfl) ?_
    refine kx_v E w (wc := [(h0, .inr (1, [.ref h1, .int 0, .int 0])), (h1, .inl (a 0, 8, .inl (va_cpy f1 f0 0 0 0)))]) (wr := [(g0, .inr (1, [.ref g1, .int 0, .int 0])), (g1, .inl (a 0, 72, .inl f1))]) [0, 1] [2, 3] rfl rfl ⟨rfl, rfl, by decide⟩ (kx_rV E w hl.1 (As := []) (wc := [(h0, .inr (1, [.ref h1, .int 0, .int 0])), (h1, .inl (a 0, 8, .inl (va_cpy f1 f0 0 0 0)))]) (c_Big_trim0_8 l D a h0 h1 (va_cpy f1 f0 0 0 0) H.size) gc_30 gv_Big_trim (kRecv E w 1 0 rfl rfl) [0, 1] rfl rfl rfl rfl rfl ⟨(Nat.le_of_ble_eq_true rfl), (Nat.le_of_ble_eq_true rfl)⟩ rfl (Nat.le_of_ble_eq_true rfl) d_Big_set_42 ⟨(Nat.le_of_ble_eq_true rfl), (Nat.le_of_ble_eq_true rfl)⟩) (fun u H locs hu w => ?_)
    obtain ⟨rfl⟩ := hu
    have w : kW D A s [(g0, .inr (1, [.ref g1, .int 0, .int 0])), (g1, .inl (a 0, 72, .inl f1)), (h0, .inr (1, [.ref h1, .int 0, .int 0])), (h1, .inl (a 0, 8, .inl (va_cpy f1 f0 0 0 0)))] H locs := w
    refine W.widen (k := 0) (n := 0) (Nat.le_of_ble_eq_true rfl) (Nat.le_of_ble_eq_true rfl) ?_
    exact kx_vret E w hr hlk d_Big_set_45 rfl)
set_option maxRecDepth 100000 in
set_option maxHeartbeats 4000000 in
theorem c_Big_trim1 (l : Launch) (D : va_G) (a : Nat → ClassId) (h0 : Nat) (h1 : Nat) (f0 : Nat → Int32) (hf : f0 0 = 0) : ∀ sz : Nat, Met l y_Big_trim (Cond.code y_Big_trim b_Big_trim 1 none :: wA) ({ frames := 0, cells := 0, slots := 0, locals := 0 } : Room) (va_Pc [.ref h0] (kP D a [(h0, .inr (1, [.ref h1, .int 1, .int 1])), (h1, .inl (a 0, 8, .inl f0))] sz)) (va_Qv (fun u : va_W => u = [(h0, .inr (1, [.ref h1, .int 0, .int 0])), (h1, .inl (a 0, 8, .inl f0))]) (kB D a (va_A [(h0, .inr (1, [.ref h1, .int 1, .int 1])), (h1, .inl (a 0, 8, .inl f0))] sz)) (va_A [(h0, .inr (1, [.ref h1, .int 1, .int 1])), (h1, .inl (a 0, 8, .inl f0))] sz)) 0 0 (va_A [(h0, .inr (1, [.ref h1, .int 1, .int 1])), (h1, .inl (a 0, 8, .inl f0))] sz) :=
  kM (Qc := fun A => va_Qv (fun u : va_W => u = [(h0, .inr (1, [.ref h1, .int 0, .int 0])), (h1, .inl (a 0, 8, .inl f0))]) (kB D a A) A) (by decide) (Nat.le_of_ble_eq_true rfl) (by
    intro p e s m below meth c A ls H locs E hr hlk hnm w hl
    have hx := E.1.1
    have hb := E.1.2.1
    have E : kE p m c b_Big_trim 1 s [.ref h0].toArray "RootAlgebra$Big" D a A := E
    have hl : lv_has ls 1 [(0, .ref h0)] := hl
    refine lv_aload_n hx hb d_Big_trim_0 rfl (lv_at hl 0 rfl) ?_
    refine kx_get E w zC_Big 0 rfl 1 (by decide) mw_15 rfl d_Big_trim_1 ?_
    refine lv_if_le (tgt := 34) hx hb d_Big_trim_4 (by decide) (fun h => absurd h (by decide)) (fun _ => ?_)
    refine lv_aload_n hx hb d_Big_trim_7 rfl (lv_at hl 0 rfl) ?_
    refine kx_get E w zC_Big 0 rfl 0 (by decide) mw_4 rfl d_Big_trim_8 ?_
    refine lv_aload_n hx hb d_Big_trim_11 rfl (lv_at hl 0 rfl) ?_
    refine kx_get E w zC_Big 0 rfl 1 (by decide) mw_15 rfl d_Big_trim_12 ?_
    refine lv_iconst (v := 1) hx hb d_Big_trim_15 (by decide) ?_
    refine kx_isub (v := 0) hx hb d_Big_trim_16 (by decide) ?_
    refine kx_iald E w 1 rfl (by unfold vp_in; decide) (v := 0) hf d_Big_trim_17 ?_
    refine lv_if_ne (tgt := 34) hx hb d_Big_trim_18 (by decide) (fun h => absurd (by decide) h) (fun _ => ?_)
    refine lv_aload_n hx hb d_Big_trim_21 rfl (lv_at hl 0 rfl) ?_
    refine lv_dup hx hb d_Big_trim_22 rfl ?_
    refine kx_get E w zC_Big 0 rfl 1 (by decide) mw_15 rfl d_Big_trim_23 ?_
    refine lv_iconst (v := 1) hx hb d_Big_trim_26 (by decide) ?_
    refine kx_isub (v := 0) hx hb d_Big_trim_27 (by decide) ?_
    refine kx_put E w zC_Big 0 rfl 1 (by decide) mw_15 rfl rfl rfl (Nat.le_of_ble_eq_true rfl) d_Big_trim_28 (ws' := [(h0, .inr (1, [.ref h1, .int 0, .int 1])), (h1, .inl (a 0, 8, .inl f0))]) rfl (fun H locs w => ?_)
    refine lv_goto (tgt := 0) hx hb d_Big_trim_31 (by decide) ?_
    refine lv_aload_n hx hb d_Big_trim_0 rfl (lv_at hl 0 rfl) ?_
    refine kx_get E w zC_Big 0 rfl 1 (by decide) mw_15 rfl d_Big_trim_1 ?_
    refine lv_if_le (tgt := 34) hx hb d_Big_trim_4 (by decide) (fun _ => ?_) (fun h => absurd (by decide) h)
    refine lv_aload_n hx hb d_Big_trim_34 rfl (lv_at hl 0 rfl) ?_
    refine kx_get E w zC_Big 0 rfl 1 (by decide) mw_15 rfl d_Big_trim_35 ?_
    refine lv_if_ne (tgt := 46) hx hb d_Big_trim_38 (by decide) (fun h => absurd (by decide) h) (fun _ => ?_)
    refine lv_aload_n hx hb d_Big_trim_41 rfl (lv_at hl 0 rfl) ?_
    refine lv_iconst (v := 0) hx hb d_Big_trim_42 (by decide) ?_
    refine kx_put E w zC_Big 0 rfl 2 (by decide) mw_14 rfl rfl rfl (Nat.le_of_ble_eq_true rfl) d_Big_trim_43 (ws' := [(h0, .inr (1, [.ref h1, .int 0, .int 0])), (h1, .inl (a 0, 8, .inl f0))]) rfl (fun H locs w => ?_)
    refine W.widen (k := 0) (n := 0) (Nat.le_of_ble_eq_true rfl) (Nat.le_of_ble_eq_true rfl) ?_
    exact kx_vret E w hr hlk d_Big_trim_46 rfl)
