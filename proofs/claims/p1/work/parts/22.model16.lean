/-! laid by program (wip/gen) -/
set_option maxRecDepth 100000 in
set_option maxHeartbeats 4000000 in
theorem c_Md_fix_2_1_1 (l : Launch) (D : va_G) (a : Nat → ClassId) (h0 : Nat) (r : Nat → Nat) (t0 : Int32) (t1 : Int32) (t2 : Int32) (t3 : Int32) (t4 : Int32) (t5 : Int32) (t6 : Int32) (t7 : Int32) (t8 : Int32) (t9 : Int32) (f0 : Nat → Int64) (f1 : Nat → Int32) (f2 : Nat → Int32) (hf : f1 2 = 1 ∧ f2 2 = 1 ∧ f0 1320 = 1) : ∀ sz : Nat, Met l y_Md_fix (Cond.code y_Md_fix b_Md_fix 2 none :: wA) ({ frames := 0, cells := 0, slots := 0, locals := 0 } : Room) (va_Pc [.ref h0, .int 2] (kP D a [(h0, .inr (12, (mF r t0 t1 t2 t3 t4 t5 t6 t7 t8 t9))), ((r 12), .inl (a 1, 81840, .inr (.inl f0))), ((r 13), .inl (a 0, 124, .inl f1)), ((r 14), .inl (a 0, 124, .inl f2))] sz)) (va_Qv (fun u : va_W => u = [(h0, .inr (12, (mF r t0 t1 t2 t3 t4 t5 t6 t7 t8 t9))), ((r 12), .inl (a 1, 81840, .inr (.inl f0))), ((r 13), .inl (a 0, 124, .inl f1)), ((r 14), .inl (a 0, 124, .inl f2))]) (kB D a (va_A [(h0, .inr (12, (mF r t0 t1 t2 t3 t4 t5 t6 t7 t8 t9))), ((r 12), .inl (a 1, 81840, .inr (.inl f0))), ((r 13), .inl (a 0, 124, .inl f1)), ((r 14), .inl (a 0, 124, .inl f2))] sz)) (va_A [(h0, .inr (12, (mF r t0 t1 t2 t3 t4 t5 t6 t7 t8 t9))), ((r 12), .inl (a 1, 81840, .inr (.inl f0))), ((r 13), .inl (a 0, 124, .inl f1)), ((r 14), .inl (a 0, 124, .inl f2))] sz)) 0 0 (va_A [(h0, .inr (12, (mF r t0 t1 t2 t3 t4 t5 t6 t7 t8 t9))), ((r 12), .inl (a 1, 81840, .inr (.inl f0))), ((r 13), .inl (a 0, 124, .inl f1)), ((r 14), .inl (a 0, 124, .inl f2))] sz) :=
  kM (Qc := fun A => va_Qv (fun u : va_W => u = [(h0, .inr (12, (mF r t0 t1 t2 t3 t4 t5 t6 t7 t8 t9))), ((r 12), .inl (a 1, 81840, .inr (.inl f0))), ((r 13), .inl (a 0, 124, .inl f1)), ((r 14), .inl (a 0, 124, .inl f2))]) (kB D a A) A) (by decide) (Nat.le_of_ble_eq_true rfl) (by
    intro p e s m below meth c A ls H locs E hr hlk hnm w hl
    have hx := E.1.1
    have hb := E.1.2.1
    have E : kE p m c b_Md_fix 2 s [.ref h0, .int 2].toArray "RootAlgebraModel" D a A := E
    have hl : lv_has ls 2 [(0, .ref h0), (1, .int 2)] := hl
    refine lv_aload_n hx hb d_Md_fix_0 rfl (lv_at hl 0 rfl) ?_
    refine kx_get E w zC_Md 0 rfl 13 (by decide) mw_314 rfl d_Md_fix_1 ?_
    refine lv_iload_n hx hb d_Md_fix_4 rfl (lv_at hl 1 rfl) ?_
    refine kx_iald E w 2 rfl (by unfold vp_in; decide) (v := 1) hf.1 d_Md_fix_5 ?_
    refine lv_if_le (tgt := 46) hx hb d_Md_fix_6 (by decide) (fun h => absurd h (by decide)) (fun _ => ?_)
    refine lv_aload_n hx hb d_Md_fix_9 rfl (lv_at hl 0 rfl) ?_
    refine kx_get E w zC_Md 0 rfl 12 (by decide) mw_313 rfl d_Md_fix_10 ?_
    refine lv_sipush (v := 660) hx hb d_Md_fix_13 (by decide) ?_
    refine lv_iload_n hx hb d_Md_fix_16 rfl (lv_at hl 1 rfl) ?_
    refine kx_imul (v := 1320) hx hb d_Md_fix_17 (by decide) ?_
    refine lv_aload_n hx hb d_Md_fix_18 rfl (lv_at hl 0 rfl) ?_
    refine kx_get E w zC_Md 0 rfl 13 (by decide) mw_314 rfl d_Md_fix_19 ?_
    refine lv_iload_n hx hb d_Md_fix_22 rfl (lv_at hl 1 rfl) ?_
    refine kx_iald E w 2 rfl (by unfold vp_in; decide) (v := 1) hf.1 d_Md_fix_23 ?_
    refine kx_iadd (v := 1321) hx hb d_Md_fix_24 (by decide) ?_
    refine lv_iconst (v := 1) hx hb d_Md_fix_25 (by decide) ?_
    refine kx_isub (v := 1320) hx hb d_Md_fix_26 (by decide) ?_
    refine kx_lald E w 1 rfl (by unfold vp_in; decide) (v := 1) hf.2.2 d_Md_fix_27 ?_
    refine lv_lconst (v := 0) hx hb d_Md_fix_28 (by decide) ?_
    refine kx_lcmp (v := 1) hx hb d_Md_fix_29 (by decide) ?_
    refine lv_if_ne (tgt := 46) hx hb d_Md_fix_30 (by decide) (fun _ => ?_) (fun h => absurd h (by decide))
    refine lv_aload_n hx hb d_Md_fix_46 rfl (lv_at hl 0 rfl) ?_
    refine kx_get E w zC_Md 0 rfl 13 (by decide) mw_314 rfl d_Md_fix_47 ?_
    refine lv_iload_n hx hb d_Md_fix_50 rfl (lv_at hl 1 rfl) ?_
    refine kx_iald E w 2 rfl (by unfold vp_in; decide) (v := 1) hf.1 d_Md_fix_51 ?_
    refine lv_if_ne (tgt := 62) hx hb d_Md_fix_52 (by decide) (fun _ => ?_) (fun h => absurd h (by decide))
    refine W.widen (k := 0) (n := 0) (Nat.le_of_ble_eq_true rfl) (Nat.le_of_ble_eq_true rfl) ?_
    exact kx_vret E w hr hlk d_Md_fix_62 rfl)
set_option maxRecDepth 100000 in
set_option maxHeartbeats 4000000 in
theorem c_Md_put_19_0 (l : Launch) (D : va_G) (a : Nat → ClassId) (h0 : Nat) (r : Nat → Nat) (t0 : Int32) (t1 : Int32) (t2 : Int32) (t3 : Int32) (t4 : Int32) (t5 : Int32) (t6 : Int32) (t7 : Int32) (t8 : Int32) (t9 : Int32) (f0 : Nat → Int64) (f1 : Nat → Int32) (f2 : Nat → Int32) : ∀ sz : Nat, Met l y_Md_put (Cond.code y_Md_put b_Md_put 7 none :: wA) ({ frames := 1, cells := 0, slots := 0, locals := 21 } : Room) (va_Pc [.ref h0, .int 19, .long 0] (kP D a [(h0, .inr (12, (mF r t0 t1 t2 t3 t4 t5 t6 t7 t8 t9))), ((r 12), .inl (a 1, 81840, .inr (.inl f0))), ((r 13), .inl (a 0, 124, .inl f1)), ((r 14), .inl (a 0, 124, .inl f2))] sz)) (va_Qv (fun u : va_W => ∃ fx0 : Nat → Int64, ∃ fx1 : Nat → Int32, ∃ fx2 : Nat → Int32, u = [(h0, .inr (12, (mF r t0 t1 t2 t3 t4 t5 t6 t7 t8 t9))), ((r 12), .inl (a 1, 81840, .inr (.inl fx0))), ((r 13), .inl (a 0, 124, .inl fx1)), ((r 14), .inl (a 0, 124, .inl fx2))] ∧ fx0 12540 = 0 ∧ fx0 12541 = 0 ∧ fx0 12542 = 0 ∧ fx1 19 = 0 ∧ fx2 19 = 0) (kB D a (va_A [(h0, .inr (12, (mF r t0 t1 t2 t3 t4 t5 t6 t7 t8 t9))), ((r 12), .inl (a 1, 81840, .inr (.inl f0))), ((r 13), .inl (a 0, 124, .inl f1)), ((r 14), .inl (a 0, 124, .inl f2))] sz)) (va_A [(h0, .inr (12, (mF r t0 t1 t2 t3 t4 t5 t6 t7 t8 t9))), ((r 12), .inl (a 1, 81840, .inr (.inl f0))), ((r 13), .inl (a 0, 124, .inl f1)), ((r 14), .inl (a 0, 124, .inl f2))] sz)) 0 0 (va_A [(h0, .inr (12, (mF r t0 t1 t2 t3 t4 t5 t6 t7 t8 t9))), ((r 12), .inl (a 1, 81840, .inr (.inl f0))), ((r 13), .inl (a 0, 124, .inl f1)), ((r 14), .inl (a 0, 124, .inl f2))] sz) :=
  kM (Qc := fun A => va_Qv (fun u : va_W => ∃ fx0 : Nat → Int64, ∃ fx1 : Nat → Int32, ∃ fx2 : Nat → Int32, u = [(h0, .inr (12, (mF r t0 t1 t2 t3 t4 t5 t6 t7 t8 t9))), ((r 12), .inl (a 1, 81840, .inr (.inl fx0))), ((r 13), .inl (a 0, 124, .inl fx1)), ((r 14), .inl (a 0, 124, .inl fx2))] ∧ fx0 12540 = 0 ∧ fx0 12541 = 0 ∧ fx0 12542 = 0 ∧ fx1 19 = 0 ∧ fx2 19 = 0) (kB D a A) A) (by decide) (Nat.le_of_ble_eq_true rfl) (by
    intro p e s m below meth c A ls H locs E hr hlk hnm w hl
    have hx := E.1.1
    have hb := E.1.2.1
    have E : kE p m c b_Md_put 7 s [.ref h0, .int 19, .long 0].toArray "RootAlgebraModel" D a A := E
    have hl : lv_has ls 7 [(0, .ref h0), (1, .int 19), (2, .long 0)] := hl
    refine lv_lload_n hx hb d_Md_put_0 rfl (lv_at hl 2 rfl) ?_
    refine lv_lconst (v := 0) hx hb d_Md_put_1 (by decide) ?_
    refine kx_lcmp (v := 0) hx hb d_Md_put_2 (by decide) ?_
    refine lv_if_ge (tgt := 11) hx hb d_Md_put_3 (by decide) (fun _ => ?_) (fun h => absurd (by decide) h)
    refine lv_lload_n hx hb d_Md_put_11 rfl (lv_at hl 2 rfl) ?_
    refine lv_lstore (lv' := [(4, .long 0), (0, .ref h0), (1, .int 19), (2, .long 0)]) hx hb d_Md_put_12 hl (by decide) rfl (fun ls hl => ?_)
    refine lv_aload_n hx hb d_Md_put_14 rfl (lv_at hl 1 rfl) ?_
    refine kx_get E w zC_Md 0 rfl 13 (by decide) mw_314 rfl d_Md_put_15 ?_
    refine lv_iload_n hx hb d_Md_put_18 rfl (lv_at hl 2 rfl) ?_
    refine lv_iconst (v := 3) hx hb d_Md_put_19 (by decide) ?_
    refine kx_iast E w 2 rfl (by unfold vp_in; decide) 19 (by decide) d_Md_put_20 (ws' := [(h0, .inr (12, (mF r t0 t1 t2 t3 t4 t5 t6 t7 t8 t9))), ((r 12), .inl (a 1, 81840, .inr (.inl f0))), ((r 13), .inl (a 0, 124, .inl (upd f1 19 3))), ((r 14), .inl (a 0, 124, .inl f2))]) rfl (fun H locs w => ?_)
    refine lv_aload_n hx hb d_Md_put_21 rfl (lv_at hl 1 rfl) ?_
    refine kx_get E w zC_Md 0 rfl 14 (by decide) mw_315 rfl d_Md_put_22 ?_
    refine lv_iload_n hx hb d_Md_put_25 rfl (lv_at hl 2 rfl) ?_
    refine lv_lload_n hx hb d_Md_put_26 rfl (lv_at hl 3 rfl) ?_
    refine lv_lconst (v := 0) hx hb d_Md_put_27 (by decide) ?_
    refine kx_lcmp (v := 0) hx hb d_Md_put_28 (by decide) ?_
    refine lv_if_ge (tgt := 36) hx hb d_Md_put_29 (by decide) (fun _ => ?_) (fun h => absurd (by decide) h)
    refine lv_iconst (v := 1) hx hb d_Md_put_36 (by decide) ?_
    refine kx_iast E w 3 rfl (by unfold vp_in; decide) 19 (by decide) d_Md_put_37 (ws' := [(h0, .inr (12, (mF r t0 t1 t2 t3 t4 t5 t6 t7 t8 t9))), ((r 12), .inl (a 1, 81840, .inr (.inl f0))), ((r 13), .inl (a 0, 124, .inl (upd f1 19 3))), ((r 14), .inl (a 0, 124, .inl (upd f2 19 1)))]) rfl (fun H locs w => ?_)
    refine lv_iconst (v := 0) hx hb d_Md_put_38 (by decide) ?_
    refine lv_istore (lv' := [(6, .int 0), (4, .long 0), (0, .ref h0), (1, .int 19), (2, .long 0)]) hx hb d_Md_put_39 hl (by decide) rfl (fun ls hl => ?_)
    refine lv_iload hx hb d_Md_put_41 (lv_at hl 0 rfl) ?_
    refine lv_iconst (v := 3) hx hb d_Md_put_43 (by decide) ?_
    refine lv_icmp_ge (tgt := 78) hx hb d_Md_put_44 (by decide) (fun h => absurd h (by decide)) (fun _ => ?_)
    refine lv_aload_n hx hb d_Md_put_47 rfl (lv_at hl 2 rfl) ?_
    refine kx_get E w zC_Md 0 rfl 12 (by decide) mw_313 rfl d_Md_put_48 ?_
    refine lv_sipush (v := 660) hx hb d_Md_put_51 (by decide) ?_
    refine lv_iload_n hx hb d_Md_put_54 rfl (lv_at hl 3 rfl) ?_
    refine kx_imul (v := 12540) hx hb d_Md_put_55 (by decide) ?_
    refine lv_iload hx hb d_Md_put_56 (lv_at hl 0 rfl) ?_
    refine kx_iadd (v := 12540) hx hb d_Md_put_58 (by decide) ?_
    refine lv_lload hx hb d_Md_put_59 (lv_at hl 1 rfl) ?_
    refine lv_bipush (v := 28) hx hb d_Md_put_61 (by decide) ?_
    refine lv_iload hx hb d_Md_put_63 (lv_at hl 0 rfl) ?_
    refine kx_imul (v := 0) hx hb d_Md_put_65 (by decide) ?_
    refine lv_lushr (v := 0) hx hb d_Md_put_66 (by decide) ?_
    refine lv_ldc2 (v := 268435455) hx hb E.1.2.2.2.1 (E.1.2.2.2.2 _ mw_404) d_Md_put_67 ?_
    refine kx_land (v := 0) hx hb d_Md_put_70 (by decide) ?_
    refine kx_last E w 1 rfl (by unfold vp_in; decide) 12540 (by decide) d_Md_put_71 (ws' := [(h0, .inr (12, (mF r t0 t1 t2 t3 t4 t5 t6 t7 t8 t9))), ((r 12), .inl (a 1, 81840, .inr (.inl (vp_updL f0 12540 0)))), ((r 13), .inl (a 0, 124, .inl (upd f1 19 3))), ((r 14), .inl (a 0, 124, .inl (upd f2 19 1)))]) rfl (fun H locs w => ?_)
    refine lv_iinc (v := 1) (lv' := [(6, .int 1), (4, .long 0), (0, .ref h0), (1, .int 19), (2, .long 0)]) hx hb d_Md_put_72 hl (k := 0) rfl (by decide) (by decide) rfl (fun ls hl => ?_)
    refine lv_goto (tgt := 41) hx hb d_Md_put_75 (by decide) ?_
    refine lv_iload hx hb d_Md_put_41 (lv_at hl 0 rfl) ?_
    refine lv_iconst (v := 3) hx hb d_Md_put_43 (by decide) ?_
    refine lv_icmp_ge (tgt := 78) hx hb d_Md_put_44 (by decide) (fun h => absurd h (by decide)) (fun _ => ?_)
    refine lv_aload_n hx hb d_Md_put_47 rfl (lv_at hl 2 rfl) ?_
    refine kx_get E w zC_Md 0 rfl 12 (by decide) mw_313 rfl d_Md_put_48 ?_
    refine lv_sipush (v := 660) hx hb d_Md_put_51 (by decide) ?_
    refine lv_iload_n hx hb d_Md_put_54 rfl (lv_at hl 3 rfl) ?_
    refine kx_imul (v := 12540) hx hb d_Md_put_55 (by decide) ?_
    refine lv_iload hx hb d_Md_put_56 (lv_at hl 0 rfl) ?_
    refine kx_iadd (v := 12541) hx hb d_Md_put_58 (by decide) ?_
    refine lv_lload hx hb d_Md_put_59 (lv_at hl 1 rfl) ?_
    refine lv_bipush (v := 28) hx hb d_Md_put_61 (by decide) ?_
    refine lv_iload hx hb d_Md_put_63 (lv_at hl 0 rfl) ?_
    refine kx_imul (v := 28) hx hb d_Md_put_65 (by decide) ?_
    refine lv_lushr (v := 0) hx hb d_Md_put_66 (by decide) ?_
    refine lv_ldc2 (v := 268435455) hx hb E.1.2.2.2.1 (E.1.2.2.2.2 _ mw_404) d_Md_put_67 ?_
    refine kx_land (v := 0) hx hb d_Md_put_70 (by decide) ?_
    refine kx_last E w 1 rfl (by unfold vp_in; decide) 12541 (by decide) d_Md_put_71 (ws' := [(h0, .inr (12, (mF r t0 t1 t2 t3 t4 t5 t6 t7 t8 t9))), ((r 12), .inl (a 1, 81840, .inr (.inl (vp_updL (vp_updL f0 12540 0) 12541 0)))), ((r 13), .inl (a 0, 124, .inl (upd f1 19 3))), ((r 14), .inl (a 0, 124, .inl (upd f2 19 1)))]) rfl (fun H locs w => ?_)
    refine lv_iinc (v := 2) (lv' := [(6, .int 2), (4, .long 0), (0, .ref h0), (1, .int 19), (2, .long 0)]) hx hb d_Md_put_72 hl (k := 0) rfl (by decide) (by decide) rfl (fun ls hl => ?_)
    refine lv_goto (tgt := 41) hx hb d_Md_put_75 (by decide) ?_
    refine lv_iload hx hb d_Md_put_41 (lv_at hl 0 rfl) ?_
    refine lv_iconst (v := 3) hx hb d_Md_put_43 (by decide) ?_
    refine lv_icmp_ge (tgt := 78) hx hb d_Md_put_44 (by decide) (fun h => absurd h (by decide)) (fun _ => ?_)
    refine lv_aload_n hx hb d_Md_put_47 rfl (lv_at hl 2 rfl) ?_
    refine kx_get E w zC_Md 0 rfl 12 (by decide) mw_313 rfl d_Md_put_48 ?_
    refine lv_sipush (v := 660) hx hb d_Md_put_51 (by decide) ?_
    refine lv_iload_n hx hb d_Md_put_54 rfl (lv_at hl 3 rfl) ?_
    refine kx_imul (v := 12540) hx hb d_Md_put_55 (by decide) ?_
    refine lv_iload hx hb d_Md_put_56 (lv_at hl 0 rfl) ?_
    refine kx_iadd (v := 12542) hx hb d_Md_put_58 (by decide) ?_
    refine lv_lload hx hb d_Md_put_59 (lv_at hl 1 rfl) ?_
    refine lv_bipush (v := 28) hx hb d_Md_put_61 (by decide) ?_
    refine lv_iload hx hb d_Md_put_63 (lv_at hl 0 rfl) ?_
    refine kx_imul (v := 56) hx hb d_Md_put_65 (by decide) ?_
    refine lv_lushr (v := 0) hx hb d_Md_put_66 (by decide) ?_
    refine lv_ldc2 (v := 268435455) hx hb E.1.2.2.2.1 (E.1.2.2.2.2 _ mw_404) d_Md_put_67 ?_
    refine kx_land (v := 0) hx hb d_Md_put_70 (by decide) ?_
    refine kx_last E w 1 rfl (by unfold vp_in; decide) 12542 (by decide) d_Md_put_71 (ws' := [(h0, .inr (12, (mF r t0 t1 t2 t3 t4 t5 t6 t7 t8 t9))), ((r 12), .inl (a 1, 81840, .inr (.inl (vp_updL (vp_updL (vp_updL f0 12540 0) 12541 0) 12542 0)))), ((r 13), .inl (a 0, 124, .inl (upd f1 19 3))), ((r 14), .inl (a 0, 124, .inl (upd f2 19 1)))]) rfl (fun H locs w => ?_)
    refine lv_iinc (v := 3) (lv' := [(6, .int 3), (4, .long 0), (0, .ref h0), (1, .int 19), (2, .long 0)]) hx hb d_Md_put_72 hl (k := 0) rfl (by decide) (by decide) rfl (fun ls hl => ?_)
    refine lv_goto (tgt := 41) hx hb d_Md_put_75 (by decide) ?_
    refine lv_iload hx hb d_Md_put_41 (lv_at hl 0 rfl) ?_
    refine lv_iconst (v := 3) hx hb d_Md_put_43 (by decide) ?_
    refine lv_icmp_ge (tgt := 78) hx hb d_Md_put_44 (by decide) (fun _ => ?_) (fun h => absurd (by decide) h)
    refine lv_aload_n hx hb d_Md_put_78 rfl (lv_at hl 2 rfl) ?_
    refine lv_iload_n hx hb d_Md_put_79 rfl (lv_at hl 3 rfl) ?_
    refine kx_v E w (wc := [(h0, .inr (12, (mF r t0 t1 t2 t3 t4 t5 t6 t7 t8 t9))), ((r 12), .inl (a 1, 81840, .inr (.inl (vp_updL (vp_updL (vp_updL f0 12540 0) 12541 0) 12542 0)))), ((r 13), .inl (a 0, 124, .inl (upd f1 19 3))), ((r 14), .inl (a 0, 124, .inl (upd f2 19 1)))]) (wr := []) [0, 1, 2, 3] [] rfl rfl ⟨rfl, rfl, by decide⟩ (kx_rV E w hl.1 (As := [.int 19]) (wc := [(h0, .inr (12, (mF r t0 t1 t2 t3 t4 t5 t6 t7 t8 t9))), ((r 12), .inl (a 1, 81840, .inr (.inl (vp_updL (vp_updL (vp_updL f0 12540 0) 12541 0) 12542 0)))), ((r 13), .inl (a 0, 124, .inl (upd f1 19 3))), ((r 14), .inl (a 0, 124, .inl (upd f2 19 1)))]) (c_Md_fix_19_000_1 l D a h0 r t0 t1 t2 t3 t4 t5 t6 t7 t8 t9 (vp_updL (vp_updL (vp_updL f0 12540 0) 12541 0) 12542 0) (upd f1 19 3) (upd f2 19 1) ⟨rfl, rfl, rfl, rfl, rfl⟩ H.size) gc_55 gv_Md_fix (kRecv E w 12 0 rfl rfl) [0, 1, 2, 3] rfl rfl rfl rfl rfl ⟨(Nat.le_of_ble_eq_true rfl), (Nat.le_of_ble_eq_true rfl)⟩ rfl (Nat.le_of_ble_eq_true rfl) d_Md_put_80 ⟨(Nat.le_of_ble_eq_true rfl), (Nat.le_of_ble_eq_true rfl)⟩) (fun u H locs hu w => ?_)
    obtain ⟨rfl⟩ := hu
    have w : kW D A s [(h0, .inr (12, (mF r t0 t1 t2 t3 t4 t5 t6 t7 t8 t9))), ((r 12), .inl (a 1, 81840, .inr (.inl (vp_updL (vp_updL (vp_updL f0 12540 0) 12541 0) 12542 0)))), ((r 13), .inl (a 0, 124, .inl (upd (upd (upd (upd f1 19 3) 19 2) 19 1) 19 0))), ((r 14), .inl (a 0, 124, .inl (upd (upd f2 19 1) 19 0)))] H locs := w
    refine W.widen (k := 0) (n := 0) (Nat.le_of_ble_eq_true rfl) (Nat.le_of_ble_eq_true rfl) ?_
    exact kx_vret E w hr hlk d_Md_put_83 ⟨(vp_updL (vp_updL (vp_updL f0 12540 0) 12541 0) 12542 0), (upd (upd (upd (upd f1 19 3) 19 2) 19 1) 19 0), (upd (upd f2 19 1) 19 0), rfl, rfl, rfl, rfl, rfl, rfl⟩)
set_option maxRecDepth 100000 in
set_option maxHeartbeats 4000000 in
theorem c_Md_put_19_1 (l : Launch) (D : va_G) (a : Nat → ClassId) (h0 : Nat) (r : Nat → Nat) (t0 : Int32) (t1 : Int32) (t2 : Int32) (t3 : Int32) (t4 : Int32) (t5 : Int32) (t6 : Int32) (t7 : Int32) (t8 : Int32) (t9 : Int32) (f0 : Nat → Int64) (f1 : Nat → Int32) (f2 : Nat → Int32) : ∀ sz : Nat, Met l y_Md_put (Cond.code y_Md_put b_Md_put 7 none :: wA) ({ frames := 1, cells := 0, slots := 0, locals := 21 } : Room) (va_Pc [.ref h0, .int 19, .long 1] (kP D a [(h0, .inr (12, (mF r t0 t1 t2 t3 t4 t5 t6 t7 t8 t9))), ((r 12), .inl (a 1, 81840, .inr (.inl f0))), ((r 13), .inl (a 0, 124, .inl f1)), ((r 14), .inl (a 0, 124, .inl f2))] sz)) (va_Qv (fun u : va_W => ∃ fx0 : Nat → Int64, ∃ fx1 : Nat → Int32, ∃ fx2 : Nat → Int32, u = [(h0, .inr (12, (mF r t0 t1 t2 t3 t4 t5 t6 t7 t8 t9))), ((r 12), .inl (a 1, 81840, .inr (.inl fx0))), ((r 13), .inl (a 0, 124, .inl fx1)), ((r 14), .inl (a 0, 124, .inl fx2))] ∧ fx0 12540 = 1 ∧ fx0 12541 = 0 ∧ fx0 12542 = 0 ∧ fx1 19 = 1 ∧ fx2 19 = 1) (kB D a (va_A [(h0, .inr (12, (mF r t0 t1 t2 t3 t4 t5 t6 t7 t8 t9))), ((r 12), .inl (a 1, 81840, .inr (.inl f0))), ((r 13), .inl (a 0, 124, .inl f1)), ((r 14), .inl (a 0, 124, .inl f2))] sz)) (va_A [(h0, .inr (12, (mF r t0 t1 t2 t3 t4 t5 t6 t7 t8 t9))), ((r 12), .inl (a 1, 81840, .inr (.inl f0))), ((r 13), .inl (a 0, 124, .inl f1)), ((r 14), .inl (a 0, 124, .inl f2))] sz)) 0 0 (va_A [(h0, .inr (12, (mF r t0 t1 t2 t3 t4 t5 t6 t7 t8 t9))), ((r 12), .inl (a 1, 81840, .inr (.inl f0))), ((r 13), .inl (a 0, 124, .inl f1)), ((r 14), .inl (a 0, 124, .inl f2))] sz) :=
  kM (Qc := fun A => va_Qv (fun u : va_W => ∃ fx0 : Nat → Int64, ∃ fx1 : Nat → Int32, ∃ fx2 : Nat → Int32, u = [(h0, .inr (12, (mF r t0 t1 t2 t3 t4 t5 t6 t7 t8 t9))), ((r 12), .inl (a 1, 81840, .inr (.inl fx0))), ((r 13), .inl (a 0, 124, .inl fx1)), ((r 14), .inl (a 0, 124, .inl fx2))] ∧ fx0 12540 = 1 ∧ fx0 12541 = 0 ∧ fx0 12542 = 0 ∧ fx1 19 = 1 ∧ fx2 19 = 1) (kB D a A) A) (by decide) (Nat.le_of_ble_eq_true rfl) (by
    intro p e s m below meth c A ls H locs E hr hlk hnm w hl
    have hx := E.1.1
    have hb := E.1.2.1
    have E : kE p m c b_Md_put 7 s [.ref h0, .int 19, .long 1].toArray "RootAlgebraModel" D a A := E
    have hl : lv_has ls 7 [(0, .ref h0), (1, .int 19), (2, .long 1)] := hl
    refine lv_lload_n hx hb d_Md_put_0 rfl (lv_at hl 2 rfl) ?_
    refine lv_lconst (v := 0) hx hb d_Md_put_1 (by decide) ?_
    refine kx_lcmp (v := 1) hx hb d_Md_put_2 (by decide) ?_
    refine lv_if_ge (tgt := 11) hx hb d_Md_put_3 (by decide) (fun _ => ?_) (fun h => absurd (by decide) h)
    refine lv_lload_n hx hb d_Md_put_11 rfl (lv_at hl 2 rfl) ?_
    refine lv_lstore (lv' := [(4, .long 1), (0, .ref h0), (1, .int 19), (2, .long 1)]) hx hb d_Md_put_12 hl (by decide) rfl (fun ls hl => ?_)
    refine lv_aload_n hx hb d_Md_put_14 rfl (lv_at hl 1 rfl) ?_
    refine kx_get E w zC_Md 0 rfl 13 (by decide) mw_314 rfl d_Md_put_15 ?_
    refine lv_iload_n hx hb d_Md_put_18 rfl (lv_at hl 2 rfl) ?_
    refine lv_iconst (v := 3) hx hb d_Md_put_19 (by decide) ?_
    refine kx_iast E w 2 rfl (by unfold vp_in; decide) 19 (by decide) d_Md_put_20 (ws' := [(h0, .inr (12, (mF r t0 t1 t2 t3 t4 t5 t6 t7 t8 t9))), ((r 12), .inl (a 1, 81840, .inr (.inl f0))), ((r 13), .inl (a 0, 124, .inl (upd f1 19 3))), ((r 14), .inl (a 0, 124, .inl f2))]) rfl (fun H locs w => ?_)
    refine lv_aload_n hx hb d_Md_put_21 rfl (lv_at hl 1 rfl) ?_
    refine kx_get E w zC_Md 0 rfl 14 (by decide) mw_315 rfl d_Md_put_22 ?_
    refine lv_iload_n hx hb d_Md_put_25 rfl (lv_at hl 2 rfl) ?_
    refine lv_lload_n hx hb d_Md_put_26 rfl (lv_at hl 3 rfl) ?_
    refine lv_lconst (v := 0) hx hb d_Md_put_27 (by decide) ?_
    refine kx_lcmp (v := 1) hx hb d_Md_put_28 (by decide) ?_
    refine lv_if_ge (tgt := 36) hx hb d_Md_put_29 (by decide) (fun _ => ?_) (fun h => absurd (by decide) h)
    refine lv_iconst (v := 1) hx hb d_Md_put_36 (by decide) ?_
    refine kx_iast E w 3 rfl (by unfold vp_in; decide) 19 (by decide) d_Md_put_37 (ws' := [(h0, .inr (12, (mF r t0 t1 t2 t3 t4 t5 t6 t7 t8 t9))), ((r 12), .inl (a 1, 81840, .inr (.inl f0))), ((r 13), .inl (a 0, 124, .inl (upd f1 19 3))), ((r 14), .inl (a 0, 124, .inl (upd f2 19 1)))]) rfl (fun H locs w => ?_)
    refine lv_iconst (v := 0) hx hb d_Md_put_38 (by decide) ?_
    refine lv_istore (lv' := [(6, .int 0), (4, .long 1), (0, .ref h0), (1, .int 19), (2, .long 1)]) hx hb d_Md_put_39 hl (by decide) rfl (fun ls hl => ?_)
    refine lv_iload hx hb d_Md_put_41 (lv_at hl 0 rfl) ?_
    refine lv_iconst (v := 3) hx hb d_Md_put_43 (by decide) ?_
    refine lv_icmp_ge (tgt := 78) hx hb d_Md_put_44 (by decide) (fun h => absurd h (by decide)) (fun _ => ?_)
    refine lv_aload_n hx hb d_Md_put_47 rfl (lv_at hl 2 rfl) ?_
    refine kx_get E w zC_Md 0 rfl 12 (by decide) mw_313 rfl d_Md_put_48 ?_
    refine lv_sipush (v := 660) hx hb d_Md_put_51 (by decide) ?_
    refine lv_iload_n hx hb d_Md_put_54 rfl (lv_at hl 3 rfl) ?_
    refine kx_imul (v := 12540) hx hb d_Md_put_55 (by decide) ?_
    refine lv_iload hx hb d_Md_put_56 (lv_at hl 0 rfl) ?_
    refine kx_iadd (v := 12540) hx hb d_Md_put_58 (by decide) ?_
    refine lv_lload hx hb d_Md_put_59 (lv_at hl 1 rfl) ?_
    refine lv_bipush (v := 28) hx hb d_Md_put_61 (by decide) ?_
    refine lv_iload hx hb d_Md_put_63 (lv_at hl 0 rfl) ?_
    refine kx_imul (v := 0) hx hb d_Md_put_65 (by decide) ?_
    refine lv_lushr (v := 1) hx hb d_Md_put_66 (by decide) ?_
    refine lv_ldc2 (v := 268435455) hx hb E.1.2.2.2.1 (E.1.2.2.2.2 _ mw_404) d_Md_put_67 ?_
    refine kx_land (v := 1) hx hb d_Md_put_70 (by decide) ?_
    refine kx_last E w 1 rfl (by unfold vp_in; decide) 12540 (by decide) d_Md_put_71 (ws' := [(h0, .inr (12, (mF r t0 t1 t2 t3 t4 t5 t6 t7 t8 t9))), ((r 12), .inl (a 1, 81840, .inr (.inl (vp_updL f0 12540 1)))), ((r 13), .inl (a 0, 124, .inl (upd f1 19 3))), ((r 14), .inl (a 0, 124, .inl (upd f2 19 1)))]) rfl (fun H locs w => ?_)
    refine lv_iinc (v := 1) (lv' := [(6, .int 1), (4, .long 1), (0, .ref h0), (1, .int 19), (2, .long 1)]) hx hb d_Md_put_72 hl (k := 0) rfl (by decide) (by decide) rfl (fun ls hl => ?_)
    refine lv_goto (tgt := 41) hx hb d_Md_put_75 (by decide) ?_
    refine lv_iload hx hb d_Md_put_41 (lv_at hl 0 rfl) ?_
    refine lv_iconst (v := 3) hx hb d_Md_put_43 (by decide) ?_
    refine lv_icmp_ge (tgt := 78) hx hb d_Md_put_44 (by decide) (fun h => absurd h (by decide)) (fun _ => ?_)
    refine lv_aload_n hx hb d_Md_put_47 rfl (lv_at hl 2 rfl) ?_
    refine kx_get E w zC_Md 0 rfl 12 (by decide) mw_313 rfl d_Md_put_48 ?_
    refine lv_sipush (v := 660) hx hb d_Md_put_51 (by decide) ?_
    refine lv_iload_n hx hb d_Md_put_54 rfl (lv_at hl 3 rfl) ?_
    refine kx_imul (v := 12540) hx hb d_Md_put_55 (by decide) ?_
    refine lv_iload hx hb d_Md_put_56 (lv_at hl 0 rfl) ?_
    refine kx_iadd (v := 12541) hx hb d_Md_put_58 (by decide) ?_
    refine lv_lload hx hb d_Md_put_59 (lv_at hl 1 rfl) ?_
    refine lv_bipush (v := 28) hx hb d_Md_put_61 (by decide) ?_
    refine lv_iload hx hb d_Md_put_63 (lv_at hl 0 rfl) ?_
    refine kx_imul (v := 28) hx hb d_Md_put_65 (by decide) ?_
    refine lv_lushr (v := 0) hx hb d_Md_put_66 (by decide) ?_
    refine lv_ldc2 (v := 268435455) hx hb E.1.2.2.2.1 (E.1.2.2.2.2 _ mw_404) d_Md_put_67 ?_
    refine kx_land (v := 0) hx hb d_Md_put_70 (by decide) ?_
    refine kx_last E w 1 rfl (by unfold vp_in; decide) 12541 (by decide) d_Md_put_71 (ws' := [(h0, .inr (12, (mF r t0 t1 t2 t3 t4 t5 t6 t7 t8 t9))), ((r 12), .inl (a 1, 81840, .inr (.inl (vp_updL (vp_updL f0 12540 1) 12541 0)))), ((r 13), .inl (a 0, 124, .inl (upd f1 19 3))), ((r 14), .inl (a 0, 124, .inl (upd f2 19 1)))]) rfl (fun H locs w => ?_)
    refine lv_iinc (v := 2) (lv' := [(6, .int 2), (4, .long 1), (0, .ref h0), (1, .int 19), (2, .long 1)]) hx hb d_Md_put_72 hl (k := 0) rfl (by decide) (by decide) rfl (fun ls hl => ?_)
    refine lv_goto (tgt := 41) hx hb d_Md_put_75 (by decide) ?_
    refine lv_iload hx hb d_Md_put_41 (lv_at hl 0 rfl) ?_
    refine lv_iconst (v := 3) hx hb d_Md_put_43 (by decide) ?_
    refine lv_icmp_ge (tgt := 78) hx hb d_Md_put_44 (by decide) (fun h => absurd h (by decide)) (fun _ => ?_)
    refine lv_aload_n hx hb d_Md_put_47 rfl (lv_at hl 2 rfl) ?_
    refine kx_get E w zC_Md 0 rfl 12 (by decide) mw_313 rfl d_Md_put_48 ?_
    refine lv_sipush (v := 660) hx hb d_Md_put_51 (by decide) ?_
    refine lv_iload_n hx hb d_Md_put_54 rfl (lv_at hl 3 rfl) ?_
    refine kx_imul (v := 12540) hx hb d_Md_put_55 (by decide) ?_
    refine lv_iload hx hb d_Md_put_56 (lv_at hl 0 rfl) ?_
    refine kx_iadd (v := 12542) hx hb d_Md_put_58 (by decide) ?_
    refine lv_lload hx hb d_Md_put_59 (lv_at hl 1 rfl) ?_
    refine lv_bipush (v := 28) hx hb d_Md_put_61 (by decide) ?_
    refine lv_iload hx hb d_Md_put_63 (lv_at hl 0 rfl) ?_
    refine kx_imul (v := 56) hx hb d_Md_put_65 (by decide) ?_
    refine lv_lushr (v := 0) hx hb d_Md_put_66 (by decide) ?_
    refine lv_ldc2 (v := 268435455) hx hb E.1.2.2.2.1 (E.1.2.2.2.2 _ mw_404) d_Md_put_67 ?_
    refine kx_land (v := 0) hx hb d_Md_put_70 (by decide) ?_
    refine kx_last E w 1 rfl (by unfold vp_in; decide) 12542 (by decide) d_Md_put_71 (ws' := [(h0, .inr (12, (mF r t0 t1 t2 t3 t4 t5 t6 t7 t8 t9))), ((r 12), .inl (a 1, 81840, .inr (.inl (vp_updL (vp_updL (vp_updL f0 12540 1) 12541 0) 12542 0)))), ((r 13), .inl (a 0, 124, .inl (upd f1 19 3))), ((r 14), .inl (a 0, 124, .inl (upd f2 19 1)))]) rfl (fun H locs w => ?_)
    refine lv_iinc (v := 3) (lv' := [(6, .int 3), (4, .long 1), (0, .ref h0), (1, .int 19), (2, .long 1)]) hx hb d_Md_put_72 hl (k := 0) rfl (by decide) (by decide) rfl (fun ls hl => ?_)
    refine lv_goto (tgt := 41) hx hb d_Md_put_75 (by decide) ?_
    refine lv_iload hx hb d_Md_put_41 (lv_at hl 0 rfl) ?_
    refine lv_iconst (v := 3) hx hb d_Md_put_43 (by decide) ?_
    refine lv_icmp_ge (tgt := 78) hx hb d_Md_put_44 (by decide) (fun _ => ?_) (fun h => absurd (by decide) h)
    refine lv_aload_n hx hb d_Md_put_78 rfl (lv_at hl 2 rfl) ?_
    refine lv_iload_n hx hb d_Md_put_79 rfl (lv_at hl 3 rfl) ?_
    refine kx_v E w (wc := [(h0, .inr (12, (mF r t0 t1 t2 t3 t4 t5 t6 t7 t8 t9))), ((r 12), .inl (a 1, 81840, .inr (.inl (vp_updL (vp_updL (vp_updL f0 12540 1) 12541 0) 12542 0)))), ((r 13), .inl (a 0, 124, .inl (upd f1 19 3))), ((r 14), .inl (a 0, 124, .inl (upd f2 19 1)))]) (wr := []) [0, 1, 2, 3] [] rfl rfl ⟨rfl, rfl, by decide⟩ (kx_rV E w hl.1 (As := [.int 19]) (wc := [(h0, .inr (12, (mF r t0 t1 t2 t3 t4 t5 t6 t7 t8 t9))), ((r 12), .inl (a 1, 81840, .inr (.inl (vp_updL (vp_updL (vp_updL f0 12540 1) 12541 0) 12542 0)))), ((r 13), .inl (a 0, 124, .inl (upd f1 19 3))), ((r 14), .inl (a 0, 124, .inl (upd f2 19 1)))]) (c_Md_fix_19_100_1 l D a h0 r t0 t1 t2 t3 t4 t5 t6 t7 t8 t9 (vp_updL (vp_updL (vp_updL f0 12540 1) 12541 0) 12542 0) (upd f1 19 3) (upd f2 19 1) ⟨rfl, rfl, rfl, rfl, rfl⟩ H.size) gc_55 gv_Md_fix (kRecv E w 12 0 rfl rfl) [0, 1, 2, 3] rfl rfl rfl rfl rfl ⟨(Nat.le_of_ble_eq_true rfl), (Nat.le_of_ble_eq_true rfl)⟩ rfl (Nat.le_of_ble_eq_true rfl) d_Md_put_80 ⟨(Nat.le_of_ble_eq_true rfl), (Nat.le_of_ble_eq_true rfl)⟩) (fun u H locs hu w => ?_)
    obtain ⟨rfl⟩ := hu
    have w : kW D A s [(h0, .inr (12, (mF r t0 t1 t2 t3 t4 t5 t6 t7 t8 t9))), ((r 12), .inl (a 1, 81840, .inr (.inl (vp_updL (vp_updL (vp_updL f0 12540 1) 12541 0) 12542 0)))), ((r 13), .inl (a 0, 124, .inl (upd (upd (upd f1 19 3) 19 2) 19 1))), ((r 14), .inl (a 0, 124, .inl (upd f2 19 1)))] H locs := w
    refine W.widen (k := 0) (n := 0) (Nat.le_of_ble_eq_true rfl) (Nat.le_of_ble_eq_true rfl) ?_
    exact kx_vret E w hr hlk d_Md_put_83 ⟨(vp_updL (vp_updL (vp_updL f0 12540 1) 12541 0) 12542 0), (upd (upd (upd f1 19 3) 19 2) 19 1), (upd f2 19 1), rfl, rfl, rfl, rfl, rfl, rfl⟩)
