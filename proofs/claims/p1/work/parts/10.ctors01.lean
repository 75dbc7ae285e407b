/-! laid by program (wip/gen) -/
set_option maxRecDepth 100000 in
set_option maxHeartbeats 4000000 in
theorem c_Big_setLong0_8 (l : Launch) (D : va_G) (a : Nat → ClassId) (h0 : Nat) (h1 : Nat) (x0 : Int32) (x1 : Int32) (f0 : Nat → Int32) : ∀ sz : Nat, Met l y_Big_setLong (Cond.code y_Big_setLong b_Big_setLong 6 none :: wA) ({ frames := 0, cells := 0, slots := 0, locals := 0 } : Room) (va_Pc [.ref h0, .long 0] (kP D a [(h0, .inr (1, [.ref h1, .int x0, .int x1])), (h1, .inl (a 0, 8, .inl f0))] sz)) (va_Qv (fun u : va_W => u = [(h0, .inr (1, [.ref h1, .int 0, .int 0])), (h1, .inl (a 0, 8, .inl f0))]) (kB D a (va_A [(h0, .inr (1, [.ref h1, .int x0, .int x1])), (h1, .inl (a 0, 8, .inl f0))] sz)) (va_A [(h0, .inr (1, [.ref h1, .int x0, .int x1])), (h1, .inl (a 0, 8, .inl f0))] sz)) 0 0 (va_A [(h0, .inr (1, [.ref h1, .int x0, .int x1])), (h1, .inl (a 0, 8, .inl f0))] sz) :=
  kM (Qc := fun A => va_Qv (fun u : va_W => u = [(h0, .inr (1, [.ref h1, .int 0, .int 0])), (h1, .inl (a 0, 8, .inl f0))]) (kB D a A) A) (by decide) (Nat.le_of_ble_eq_true rfl) (by
    intro p e s m below meth c A ls H locs E hr hlk hnm w hl
    have hx := E.1.1
    have hb := E.1.2.1
    have E : kE p m c b_Big_setLong 6 s [.ref h0, .long 0].toArray "RootAlgebra$Big" D a A := E
    have hl : lv_has ls 6 [(0, .ref h0), (1, .long 0)] := hl
    refine lv_aload_n hx hb d_Big_setLong_0 rfl (lv_at hl 0 rfl) ?_
    refine lv_lload_n hx hb d_Big_setLong_1 rfl (lv_at hl 1 rfl) ?_
    refine lv_lconst (v := 0) hx hb d_Big_setLong_2 (by decide) ?_
    refine kx_lcmp (v := 0) hx hb d_Big_setLong_3 (by decide) ?_
    refine lv_if_ge (tgt := 11) hx hb d_Big_setLong_4 (by decide) (fun _ => ?_) (fun h => absurd (by decide) h)
    refine lv_lload_n hx hb d_Big_setLong_11 rfl (lv_at hl 1 rfl) ?_
    refine lv_lconst (v := 0) hx hb d_Big_setLong_12 (by decide) ?_
    refine kx_lcmp (v := 0) hx hb d_Big_setLong_13 (by decide) ?_
    refine lv_if_le (tgt := 21) hx hb d_Big_setLong_14 (by decide) (fun _ => ?_) (fun h => absurd (by decide) h)
    refine lv_iconst (v := 0) hx hb d_Big_setLong_21 (by decide) ?_
    refine kx_put E w zC_Big 0 rfl 2 (by decide) mw_14 rfl rfl rfl (Nat.le_of_ble_eq_true rfl) d_Big_setLong_22 (ws' := [(h0, .inr (1, [.ref h1, .int x0, .int 0])), (h1, .inl (a 0, 8, .inl f0))]) rfl (fun H locs w => ?_)
    refine lv_lload_n hx hb d_Big_setLong_25 rfl (lv_at hl 1 rfl) ?_
    refine lv_lconst (v := 0) hx hb d_Big_setLong_26 (by decide) ?_
    refine kx_lcmp (v := 0) hx hb d_Big_setLong_27 (by decide) ?_
    refine lv_if_ge (tgt := 36) hx hb d_Big_setLong_28 (by decide) (fun _ => ?_) (fun h => absurd (by decide) h)
    refine lv_lload_n hx hb d_Big_setLong_36 rfl (lv_at hl 1 rfl) ?_
    refine lv_lstore_n (lv' := [(3, .long 0), (0, .ref h0), (1, .long 0)]) hx hb d_Big_setLong_37 rfl hl (by decide) rfl (fun ls hl => ?_)
    refine lv_aload_n hx hb d_Big_setLong_38 rfl (lv_at hl 1 rfl) ?_
    refine lv_iconst (v := 0) hx hb d_Big_setLong_39 (by decide) ?_
    refine kx_put E w zC_Big 0 rfl 1 (by decide) mw_15 rfl rfl rfl (Nat.le_of_ble_eq_true rfl) d_Big_setLong_40 (ws' := [(h0, .inr (1, [.ref h1, .int 0, .int 0])), (h1, .inl (a 0, 8, .inl f0))]) rfl (fun H locs w => ?_)
    refine lv_iconst (v := 0) hx hb d_Big_setLong_43 (by decide) ?_
    refine lv_istore (lv' := [(5, .int 0), (3, .long 0), (0, .ref h0), (1, .long 0)]) hx hb d_Big_setLong_44 hl (by decide) rfl (fun ls hl => ?_)
    refine lv_iload hx hb d_Big_setLong_46 (lv_at hl 0 rfl) ?_
    refine lv_iconst (v := 2) hx hb d_Big_setLong_48 (by decide) ?_
    refine lv_icmp_ge (tgt := 96) hx hb d_Big_setLong_49 (by decide) (fun h => absurd h (by decide)) (fun _ => ?_)
    refine lv_iload hx hb d_Big_setLong_52 (lv_at hl 0 rfl) ?_
    refine lv_aload_n hx hb d_Big_setLong_54 rfl (lv_at hl 2 rfl) ?_
    refine kx_get E w zC_Big 0 rfl 0 (by decide) mw_4 rfl d_Big_setLong_55 ?_
    refine kx_alen E w 1 0 rfl rfl (v := 8) rfl d_Big_setLong_58 ?_
    refine lv_icmp_ge (tgt := 96) hx hb d_Big_setLong_59 (by decide) (fun h => absurd h (by decide)) (fun _ => ?_)
    refine lv_lload_n hx hb d_Big_setLong_62 rfl (lv_at hl 1 rfl) ?_
    refine lv_lconst (v := 0) hx hb d_Big_setLong_63 (by decide) ?_
    refine kx_lcmp (v := 0) hx hb d_Big_setLong_64 (by decide) ?_
    refine lv_if_eq (tgt := 96) hx hb d_Big_setLong_65 (by decide) (fun _ => ?_) (fun h => absurd (by decide) h)
    refine W.widen (k := 0) (n := 0) (Nat.le_of_ble_eq_true rfl) (Nat.le_of_ble_eq_true rfl) ?_
    exact kx_vret E w hr hlk d_Big_setLong_96 rfl)
set_option maxRecDepth 100000 in
set_option maxHeartbeats 4000000 in
theorem c_Big_setLong0_12 (l : Launch) (D : va_G) (a : Nat → ClassId) (h0 : Nat) (h1 : Nat) (x0 : Int32) (x1 : Int32) (f0 : Nat → Int32) : ∀ sz : Nat, Met l y_Big_setLong (Cond.code y_Big_setLong b_Big_setLong 6 none :: wA) ({ frames := 0, cells := 0, slots := 0, locals := 0 } : Room) (va_Pc [.ref h0, .long 0] (kP D a [(h0, .inr (1, [.ref h1, .int x0, .int x1])), (h1, .inl (a 0, 12, .inl f0))] sz)) (va_Qv (fun u : va_W => u = [(h0, .inr (1, [.ref h1, .int 0, .int 0])), (h1, .inl (a 0, 12, .inl f0))]) (kB D a (va_A [(h0, .inr (1, [.ref h1, .int x0, .int x1])), (h1, .inl (a 0, 12, .inl f0))] sz)) (va_A [(h0, .inr (1, [.ref h1, .int x0, .int x1])), (h1, .inl (a 0, 12, .inl f0))] sz)) 0 0 (va_A [(h0, .inr (1, [.ref h1, .int x0, .int x1])), (h1, .inl (a 0, 12, .inl f0))] sz) :=
  kM (Qc := fun A => va_Qv (fun u : va_W => u = [(h0, .inr (1, [.ref h1, .int 0, .int 0])), (h1, .inl (a 0, 12, .inl f0))]) (kB D a A) A) (by decide) (Nat.le_of_ble_eq_true rfl) (by
    intro p e s m below meth c A ls H locs E hr hlk hnm w hl
    have hx := E.1.1
    have hb := E.1.2.1
    have E : kE p m c b_Big_setLong 6 s [.ref h0, .long 0].toArray "RootAlgebra$Big" D a A := E
    have hl : lv_has ls 6 [(0, .ref h0), (1, .long 0)] := hl
    refine lv_aload_n hx hb d_Big_setLong_0 rfl (lv_at hl 0 rfl) ?_
    refine lv_lload_n hx hb d_Big_setLong_1 rfl (lv_at hl 1 rfl) ?_
    refine lv_lconst (v := 0) hx hb d_Big_setLong_2 (by decide) ?_
    refine kx_lcmp (v := 0) hx hb d_Big_setLong_3 (by decide) ?_
    refine lv_if_ge (tgt := 11) hx hb d_Big_setLong_4 (by decide) (fun _ => ?_) (fun h => absurd (by decide) h)
    refine lv_lload_n hx hb d_Big_setLong_11 rfl (lv_at hl 1 rfl) ?_
    refine lv_lconst (v := 0) hx hb d_Big_setLong_12 (by decide) ?_
    refine kx_lcmp (v := 0) hx hb d_Big_setLong_13 (by decide) ?_
    refine lv_if_le (tgt := 21) hx hb d_Big_setLong_14 (by decide) (fun _ => ?_) (fun h => absurd (by decide) h)
    refine lv_iconst (v := 0) hx hb d_Big_setLong_21 (by decide) ?_
    refine kx_put E w zC_Big 0 rfl 2 (by decide) mw_14 rfl rfl rfl (Nat.le_of_ble_eq_true rfl) d_Big_setLong_22 (ws' := [(h0, .inr (1, [.ref h1, .int x0, .int 0])), (h1, .inl (a 0, 12, .inl f0))]) rfl (fun H locs w => ?_)
    refine lv_lload_n hx hb d_Big_setLong_25 rfl (lv_at hl 1 rfl) ?_
    refine lv_lconst (v := 0) hx hb d_Big_setLong_26 (by decide) ?_
    refine kx_lcmp (v := 0) hx hb d_Big_setLong_27 (by decide) ?_
    refine lv_if_ge (tgt := 36) hx hb d_Big_setLong_28 (by decide) (fun _ => ?_) (fun h => absurd (by decide) h)
    refine lv_lload_n hx hb d_Big_setLong_36 rfl (lv_at hl 1 rfl) ?_
    refine lv_lstore_n (lv' := [(3, .long 0), (0, .ref h0), (1, .long 0)]) hx hb d_Big_setLong_37 rfl hl (by decide) rfl (fun ls hl => ?_)
    refine lv_aload_n hx hb d_Big_setLong_38 rfl (lv_at hl 1 rfl) ?_
    refine lv_iconst (v := 0) hx hb d_Big_setLong_39 (by decide) ?_
    refine kx_put E w zC_Big 0 rfl 1 (by decide) mw_15 rfl rfl rfl (Nat.le_of_ble_eq_true rfl) d_Big_setLong_40 (ws' := [(h0, .inr (1, [.ref h1, .int 0, .int 0])), (h1, .inl (a 0, 12, .inl f0))]) rfl (fun H locs w => ?_)
    refine lv_iconst (v := 0) hx hb d_Big_setLong_43 (by decide) ?_
    refine lv_istore (lv' := [(5, .int 0), (3, .long 0), (0, .ref h0), (1, .long 0)]) hx hb d_Big_setLong_44 hl (by decide) rfl (fun ls hl => ?_)
    refine lv_iload hx hb d_Big_setLong_46 (lv_at hl 0 rfl) ?_
    refine lv_iconst (v := 2) hx hb d_Big_setLong_48 (by decide) ?_
    refine lv_icmp_ge (tgt := 96) hx hb d_Big_setLong_49 (by decide) (fun h => absurd h (by decide)) (fun _ => ?_)
    refine lv_iload hx hb d_Big_setLong_52 (lv_at hl 0 rfl) ?_
    refine lv_aload_n hx hb d_Big_setLong_54 rfl (lv_at hl 2 rfl) ?_
    refine kx_get E w zC_Big 0 rfl 0 (by decide) mw_4 rfl d_Big_setLong_55 ?_
    refine kx_alen E w 1 0 rfl rfl (v := 12) rfl d_Big_setLong_58 ?_
    refine lv_icmp_ge (tgt := 96) hx hb d_Big_setLong_59 (by decide) (fun h => absurd h (by decide)) (fun _ => ?_)
    refine lv_lload_n hx hb d_Big_setLong_62 rfl (lv_at hl 1 rfl) ?_
    refine lv_lconst (v := 0) hx hb d_Big_setLong_63 (by decide) ?_
    refine kx_lcmp (v := 0) hx hb d_Big_setLong_64 (by decide) ?_
    refine lv_if_eq (tgt := 96) hx hb d_Big_setLong_65 (by decide) (fun _ => ?_) (fun h => absurd (by decide) h)
    refine W.widen (k := 0) (n := 0) (Nat.le_of_ble_eq_true rfl) (Nat.le_of_ble_eq_true rfl) ?_
    exact kx_vret E w hr hlk d_Big_setLong_96 rfl)
set_option maxRecDepth 100000 in
set_option maxHeartbeats 4000000 in
theorem c_Big_setLong0_72 (l : Launch) (D : va_G) (a : Nat → ClassId) (h0 : Nat) (h1 : Nat) (x0 : Int32) (x1 : Int32) (f0 : Nat → Int32) : ∀ sz : Nat, Met l y_Big_setLong (Cond.code y_Big_setLong b_Big_setLong 6 none :: wA) ({ frames := 0, cells := 0, slots := 0, locals := 0 } : Room) (va_Pc [.ref h0, .long 0] (kP D a [(h0, .inr (1, [.ref h1, .int x0, .int x1])), (h1, .inl (a 0, 72, .inl f0))] sz)) (va_Qv (fun u : va_W => u = [(h0, .inr (1, [.ref h1, .int 0, .int 0])), (h1, .inl (a 0, 72, .inl f0))]) (kB D a (va_A [(h0, .inr (1, [.ref h1, .int x0, .int x1])), (h1, .inl (a 0, 72, .inl f0))] sz)) (va_A [(h0, .inr (1, [.ref h1, .int x0, .int x1])), (h1, .inl (a 0, 72, .inl f0))] sz)) 0 0 (va_A [(h0, .inr (1, [.ref h1, .int x0, .int x1])), (h1, .inl (a 0, 72, .inl f0))] sz) :=
  kM (Qc := fun A => va_Qv (fun u : va_W => u = [(h0, .inr (1, [.ref h1, .int 0, .int 0])), (h1, .inl (a 0, 72, .inl f0))]) (kB D a A) A) (by decide) (Nat.le_of_ble_eq_true rfl) (by
    intro p e s m below meth c A ls H locs E hr hlk hnm w hl
    have hx := E.1.1
    have hb := E.1.2.1
    have E : kE p m c b_Big_setLong 6 s [.ref h0, .long 0].toArray "RootAlgebra$Big" D a A := E
    have hl : lv_has ls 6 [(0, .ref h0), (1, .long 0)] := hl
    refine lv_aload_n hx hb d_Big_setLong_0 rfl (lv_at hl 0 rfl) ?_
    refine lv_lload_n hx hb d_Big_setLong_1 rfl (lv_at hl 1 rfl) ?_
    refine lv_lconst (v := 0) hx hb d_Big_setLong_2 (by decide) ?_
    refine kx_lcmp (v := 0) hx hb d_Big_setLong_3 (by decide) ?_
    refine lv_if_ge (tgt := 11) hx hb d_Big_setLong_4 (by decide) (fun _ => ?_) (fun h => absurd (by decide) h)
    refine lv_lload_n hx hb d_Big_setLong_11 rfl (lv_at hl 1 rfl) ?_
    refine lv_lconst (v := 0) hx hb d_Big_setLong_12 (by decide) ?_
    refine kx_lcmp (v := 0) hx hb d_Big_setLong_13 (by decide) ?_
    refine lv_if_le (tgt := 21) hx hb d_Big_setLong_14 (by decide) (fun _ => ?_) (fun h => absurd (by decide) h)
    refine lv_iconst (v := 0) hx hb d_Big_setLong_21 (by decide) ?_
    refine kx_put E w zC_Big 0 rfl 2 (by decide) mw_14 rfl rfl rfl (Nat.le_of_ble_eq_true rfl) d_Big_setLong_22 (ws' := [(h0, .inr (1, [.ref h1, .int x0, .int 0])), (h1, .inl (a 0, 72, .inl f0))]) rfl (fun H locs w => ?_)
    refine lv_lload_n hx hb d_Big_setLong_25 rfl (lv_at hl 1 rfl) ?_
    refine lv_lconst (v := 0) hx hb d_Big_setLong_26 (by decide) ?_
    refine kx_lcmp (v := 0) hx hb d_Big_setLong_27 (by decide) ?_
    refine lv_if_ge (tgt := 36) hx hb d_Big_setLong_28 (by decide) (fun _ => ?_) (fun h => absurd (by decide) h)
    refine lv_lload_n hx hb d_Big_setLong_36 rfl (lv_at hl 1 rfl) ?_
    refine lv_lstore_n (lv' := [(3, .long 0), (0, .ref h0), (1, .long 0)]) hx hb d_Big_setLong_37 rfl hl (by decide) rfl (fun ls hl => ?_)
    refine lv_aload_n hx hb d_Big_setLong_38 rfl (lv_at hl 1 rfl) ?_
    refine lv_iconst (v := 0) hx hb d_Big_setLong_39 (by decide) ?_
    refine kx_put E w zC_Big 0 rfl 1 (by decide) mw_15 rfl rfl rfl (Nat.le_of_ble_eq_true rfl) d_Big_setLong_40 (ws' := [(h0, .inr (1, [.ref h1, .int 0, .int 0])), (h1, .inl (a 0, 72, .inl f0))]) rfl (fun H locs w => ?_)
    refine lv_iconst (v := 0) hx hb d_Big_setLong_43 (by decide) ?_
    refine lv_istore (lv' := [(5, .int 0), (3, .long 0), (0, .ref h0), (1, .long 0)]) hx hb d_Big_setLong_44 hl (by decide) rfl (fun ls hl => ?_)
    refine lv_iload hx hb d_Big_setLong_46 (lv_at hl 0 rfl) ?_
    refine lv_iconst (v := 2) hx hb d_Big_setLong_48 (by decide) ?_
    refine lv_icmp_ge (tgt := 96) hx hb d_Big_setLong_49 (by decide) (fun h => absurd h (by decide)) (fun _ => ?_)
    refine lv_iload hx hb d_Big_setLong_52 (lv_at hl 0 rfl) ?_
    refine lv_aload_n hx hb d_Big_setLong_54 rfl (lv_at hl 2 rfl) ?_
    refine kx_get E w zC_Big 0 rfl 0 (by decide) mw_4 rfl d_Big_setLong_55 ?_
    refine kx_alen E w 1 0 rfl rfl (v := 72) rfl d_Big_setLong_58 ?_
    refine lv_icmp_ge (tgt := 96) hx hb d_Big_setLong_59 (by decide) (fun h => absurd h (by decide)) (fun _ => ?_)
    refine lv_lload_n hx hb d_Big_setLong_62 rfl (lv_at hl 1 rfl) ?_
    refine lv_lconst (v := 0) hx hb d_Big_setLong_63 (by decide) ?_
    refine kx_lcmp (v := 0) hx hb d_Big_setLong_64 (by decide) ?_
    refine lv_if_eq (tgt := 96) hx hb d_Big_setLong_65 (by decide) (fun _ => ?_) (fun h => absurd (by decide) h)
    refine W.widen (k := 0) (n := 0) (Nat.le_of_ble_eq_true rfl) (Nat.le_of_ble_eq_true rfl) ?_
    exact kx_vret E w hr hlk d_Big_setLong_96 rfl)
set_option maxRecDepth 100000 in
set_option maxHeartbeats 4000000 in
theorem c_Value_finish0 (l : Launch) (D : va_G) (a : Nat → ClassId) (h0 : Nat) (h1 : Nat) (h2 : Nat) (h3 : Nat) : ∀ sz : Nat, Met l y_Value_finishFraction (Cond.code y_Value_finishFraction b_Value_finishFraction 1 none :: wA) ({ frames := 1, cells := 0, slots := 0, locals := 25 } : Room) (va_Pc [.ref h0] (kP D a [(h0, .inr (11, [.ref h1, .ref h2, .int 1, .int 0, .int 0, .int 0, .int 0])), (h1, .inl (a 0, 7, .inl (upd (upd (fun _ => 0) 0 0) 1 1))), (h2, .inr (1, [.ref h3, .int 0, .int 0])), (h3, .inl (a 0, 12, .inl (fun _ => 0)))] sz)) (va_Qv (fun u : va_W => u = [(h0, .inr (11, [.ref h1, .ref h2, .int 1, .int 0, .int 1, .int 0, .int 0])), (h1, .inl (a 0, 7, .inl (upd (upd (fun _ => 0) 0 0) 1 1))), (h2, .inr (1, [.ref h3, .int 0, .int 0])), (h3, .inl (a 0, 12, .inl (fun _ => 0)))]) (kB D a (va_A [(h0, .inr (11, [.ref h1, .ref h2, .int 1, .int 0, .int 0, .int 0, .int 0])), (h1, .inl (a 0, 7, .inl (upd (upd (fun _ => 0) 0 0) 1 1))), (h2, .inr (1, [.ref h3, .int 0, .int 0])), (h3, .inl (a 0, 12, .inl (fun _ => 0)))] sz)) (va_A [(h0, .inr (11, [.ref h1, .ref h2, .int 1, .int 0, .int 0, .int 0, .int 0])), (h1, .inl (a 0, 7, .inl (upd (upd (fun _ => 0) 0 0) 1 1))), (h2, .inr (1, [.ref h3, .int 0, .int 0])), (h3, .inl (a 0, 12, .inl (fun _ => 0)))] sz)) 0 0 (va_A [(h0, .inr (11, [.ref h1, .ref h2, .int 1, .int 0, .int 0, .int 0, .int 0])), (h1, .inl (a 0, 7, .inl (upd (upd (fun _ => 0) 0 0) 1 1))), (h2, .inr (1, [.ref h3, .int 0, .int 0])), (h3, .inl (a 0, 12, .inl (fun _ => 0)))] sz) :=
  kM (Qc := fun A => va_Qv (fun u : va_W => u = [(h0, .inr (11, [.ref h1, .ref h2, .int 1, .int 0, .int 1, .int 0, .int 0])), (h1, .inl (a 0, 7, .inl (upd (upd (fun _ => 0) 0 0) 1 1))), (h2, .inr (1, [.ref h3, .int 0, .int 0])), (h3, .inl (a 0, 12, .inl (fun _ => 0)))]) (kB D a A) A) (by decide) (Nat.le_of_ble_eq_true rfl) (by
    intro p e s m below meth c A ls H locs E hr hlk hnm w hl
    have hx := E.1.1
    have hb := E.1.2.1
    have E : kE p m c b_Value_finishFraction 1 s [.ref h0].toArray "RootAlgebra$Value" D a A := E
    have hl : lv_has ls 1 [(0, .ref h0)] := hl
    refine lv_aload_n hx hb d_Value_finishFraction_0 rfl (lv_at hl 0 rfl) ?_
    refine lv_iconst (v := 0) hx hb d_Value_finishFraction_1 (by decide) ?_
    refine kx_put E w zC_Value 0 rfl 3 (by decide) mw_16 rfl rfl rfl (Nat.le_of_ble_eq_true rfl) d_Value_finishFraction_2 (ws' := [(h0, .inr (11, [.ref h1, .ref h2, .int 1, .int 0, .int 0, .int 0, .int 0])), (h1, .inl (a 0, 7, .inl (upd (upd (fun _ => 0) 0 0) 1 1))), (h2, .inr (1, [.ref h3, .int 0, .int 0])), (h3, .inl (a 0, 12, .inl (fun _ => 0)))]) rfl (fun H locs w => ?_)
    refine lv_aload_n hx hb d_Value_finishFraction_5 rfl (lv_at hl 0 rfl) ?_
    refine lv_iconst (v := 1) hx hb d_Value_finishFraction_6 (by decide) ?_
    refine kx_put E w zC_Value 0 rfl 4 (by decide) mw_17 rfl rfl rfl (Nat.le_of_ble_eq_true rfl) d_Value_finishFraction_7 (ws' := [(h0, .inr (11, [.ref h1, .ref h2, .int 1, .int 0, .int 1, .int 0, .int 0])), (h1, .inl (a 0, 7, .inl (upd (upd (fun _ => 0) 0 0) 1 1))), (h2, .inr (1, [.ref h3, .int 0, .int 0])), (h3, .inl (a 0, 12, .inl (fun _ => 0)))]) rfl (fun H locs w => ?_)
    refine lv_aload_n hx hb d_Value_finishFraction_10 rfl (lv_at hl 0 rfl) ?_
    refine lv_aload_n hx hb d_Value_finishFraction_11 rfl (lv_at hl 0 rfl) ?_
    refine kx_get E w zC_Value 0 rfl 0 (by decide) mw_6 rfl d_Value_finishFraction_12 ?_
    refine lv_iconst (v := 0) hx hb d_Value_finishFraction_15 (by decide) ?_
    refine kx_iald E w 1 rfl (by unfold vp_in; decide) (v := 0) rfl d_Value_finishFraction_16 ?_
    refine lv_if_le (tgt := 24) hx hb d_Value_finishFraction_17 (by decide) (fun _ => ?_) (fun h => absurd (by decide) h)
    refine lv_iconst (v := 0) hx hb d_Value_finishFraction_24 (by decide) ?_
    refine kx_put E w zC_Value 0 rfl 5 (by decide) mw_18 rfl rfl rfl (Nat.le_of_ble_eq_true rfl) d_Value_finishFraction_25 (ws' := [(h0, .inr (11, [.ref h1, .ref h2, .int 1, .int 0, .int 1, .int 0, .int 0])), (h1, .inl (a 0, 7, .inl (upd (upd (fun _ => 0) 0 0) 1 1))), (h2, .inr (1, [.ref h3, .int 0, .int 0])), (h3, .inl (a 0, 12, .inl (fun _ => 0)))]) rfl (fun H locs w => ?_)
    refine lv_aload_n hx hb d_Value_finishFraction_28 rfl (lv_at hl 0 rfl) ?_
    refine lv_iconst (v := 0) hx hb d_Value_finishFraction_29 (by decide) ?_
    refine kx_put E w zC_Value 0 rfl 6 (by decide) mw_19 rfl rfl rfl (Nat.le_of_ble_eq_true rfl) d_Value_finishFraction_30 (ws' := [(h0, .inr (11, [.ref h1, .ref h2, .int 1, .int 0, .int 1, .int 0, .int 0])), (h1, .inl (a 0, 7, .inl (upd (upd (fun _ => 0) 0 0) 1 1))), (h2, .inr (1, [.ref h3, .int 0, .int 0])), (h3, .inl (a 0, 12, .inl (fun _ => 0)))]) rfl (fun H locs w => ?_)
    refine lv_aload_n hx hb d_Value_finishFraction_33 rfl (lv_at hl 0 rfl) ?_
    refine kx_get E w zC_Value 0 rfl 1 (by decide) mw_13 rfl d_Value_finishFraction_34 ?_
    refine lv_lconst (v := 0) hx hb d_Value_finishFraction_37 (by decide) ?_
    refine kx_v E w (wc := [(h2, .inr (1, [.ref h3, .int 0, .int 0])), (h3, .inl (a 0, 12, .inl (fun _ => 0)))]) (wr := [(h0, .inr (11, [.ref h1, .ref h2, .int 1, .int 0, .int 1, .int 0, .int 0])), (h1, .inl (a 0, 7, .inl (upd (upd (fun _ => 0) 0 0) 1 1)))]) [2, 3] [0, 1] rfl rfl ⟨rfl, rfl, by decide⟩ (kx_rV E w hl.1 (As := [.long 0]) (wc := [(h2, .inr (1, [.ref h3, .int 0, .int 0])), (h3, .inl (a 0, 12, .inl (fun _ => 0)))]) (c_Big_setLong0_12 l D a h2 h3 0 0 (fun _ => 0) H.size) gc_1 gv_Big_setLong (kRecv E w 1 2 rfl rfl) [2, 3] rfl rfl rfl rfl rfl ⟨(Nat.le_of_ble_eq_true rfl), (Nat.le_of_ble_eq_true rfl)⟩ rfl (Nat.le_of_ble_eq_true rfl) d_Value_finishFraction_38 ⟨(Nat.le_of_ble_eq_true rfl), (Nat.le_of_ble_eq_true rfl)⟩) (fun u H locs hu w => ?_)
    obtain ⟨rfl⟩ := hu
    have w : kW D A s [(h0, .inr (11, [.ref h1, .ref h2, .int 1, .int 0, .int 1, .int 0, .int 0])), (h1, .inl (a 0, 7, .inl (upd (upd (fun _ => 0) 0 0) 1 1))), (h2, .inr (1, [.ref h3, .int 0, .int 0])), (h3, .inl (a 0, 12, .inl (fun _ => 0)))] H locs := w
    refine W.widen (k := 0) (n := 0) (Nat.le_of_ble_eq_true rfl) (Nat.le_of_ble_eq_true rfl) ?_
    exact kx_vret E w hr hlk d_Value_finishFraction_41 rfl)
