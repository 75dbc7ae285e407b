/-! laid by program (wip/gen) -/
set_option maxRecDepth 100000 in
set_option maxHeartbeats 4000000 in
theorem c_Md_fix_1_1000_1 (l : Launch) (D : va_G) (a : Nat → ClassId) (h0 : Nat) (r : Nat → Nat) (t0 : Int32) (t1 : Int32) (t2 : Int32) (t3 : Int32) (t4 : Int32) (t5 : Int32) (t6 : Int32) (t7 : Int32) (t8 : Int32) (t9 : Int32) (f0 : Nat → Int64) (f1 : Nat → Int32) (f2 : Nat → Int32) (hf : f1 1 = 3 ∧ f2 1 = 1 ∧ f0 660 = 10 ∧ f0 661 = 0 ∧ f0 662 = 0) : ∀ sz : Nat, Met l y_Md_fix (Cond.code y_Md_fix b_Md_fix 2 none :: wA) ({ frames := 0, cells := 0, slots := 0, locals := 0 } : Room) (va_Pc [.ref h0, .int 1] (kP D a [(h0, .inr (12, (mF r t0 t1 t2 t3 t4 t5 t6 t7 t8 t9))), ((r 12), .inl (a 1, 81840, .inr (.inl f0))), ((r 13), .inl (a 0, 124, .inl f1)), ((r 14), .inl (a 0, 124, .inl f2))] sz)) (va_Qv (fun u : va_W => u = [(h0, .inr (12, (mF r t0 t1 t2 t3 t4 t5 t6 t7 t8 t9))), ((r 12), .inl (a 1, 81840, .inr (.inl f0))), ((r 13), .inl (a 0, 124, .inl (upd (upd f1 1 2) 1 1))), ((r 14), .inl (a 0, 124, .inl f2))]) (kB D a (va_A [(h0, .inr (12, (mF r t0 t1 t2 t3 t4 t5 t6 t7 t8 t9))), ((r 12), .inl (a 1, 81840, .inr (.inl f0))), ((r 13), .inl (a 0, 124, .inl f1)), ((r 14), .inl (a 0, 124, .inl f2))] sz)) (va_A [(h0, .inr (12, (mF r t0 t1 t2 t3 t4 t5 t6 t7 t8 t9))), ((r 12), .inl (a 1, 81840, .inr (.inl f0))), ((r 13), .inl (a 0, 124, .inl f1)), ((r 14), .inl (a 0, 124, .inl f2))] sz)) 0 0 (va_A [(h0, .inr (12, (mF r t0 t1 t2 t3 t4 t5 t6 t7 t8 t9))), ((r 12), .inl (a 1, 81840, .inr (.inl f0))), ((r 13), .inl (a 0, 124, .inl f1)), ((r 14), .inl (a 0, 124, .inl f2))] sz) :=
  kM (Qc := fun A => va_Qv (fun u : va_W => u = [(h0, .inr (12, (mF r t0 t1 t2 t3 t4 t5 t6 t7 t8 t9))), ((r 12), .inl (a 1, 81840, .inr (.inl f0))), ((r 13), .inl (a 0, 124, .inl (upd (upd f1 1 2) 1 1))), ((r 14), .inl (a 0, 124, .inl f2))]) (kB D a A) A) (by decide) (Nat.le_of_ble_eq_true rfl) (by
    intro p e s m below meth c A ls H locs E hr hlk hnm w hl
    have hx := E.1.1
    have hb := E.1.2.1
    have E : kE p m c b_Md_fix 2 s [.ref h0, .int 1].toArray "RootAlgebraModel" D a A := E
    have hl : lv_has ls 2 [(0, .ref h0), (1, .int 1)] := hl
    refine lv_aload_n hx hb d_Md_fix_0 rfl (lv_at hl 0 rfl) ?_
    refine kx_get E w zC_Md 0 rfl 13 (by decide) mw_314 rfl d_Md_fix_1 ?_
    refine lv_iload_n hx hb d_Md_fix_4 rfl (lv_at hl 1 rfl) ?_
    refine kx_iald E w 2 rfl (by unfold vp_in; decide) (v := 3) hf.1 d_Md_fix_5 ?_
    refine lv_if_le (tgt := 46) hx hb d_Md_fix_6 (by decide) (fun h => absurd h (by decide)) (fun _ => ?_)
    refine lv_aload_n hx hb d_Md_fix_9 rfl (lv_at hl 0 rfl) ?_
    refine kx_get E w zC_Md 0 rfl 12 (by decide) mw_313 rfl d_Md_fix_10 ?_
    refine lv_sipush (v := 660) hx hb d_Md_fix_13 (by decide) ?_
    refine lv_iload_n hx hb d_Md_fix_16 rfl (lv_at hl 1 rfl) ?_
    refine kx_imul (v := 660) hx hb d_Md_fix_17 (by decide) ?_
    refine lv_aload_n hx hb d_Md_fix_18 rfl (lv_at hl 0 rfl) ?_
    refine kx_get E w zC_Md 0 rfl 13 (by decide) mw_314 rfl d_Md_fix_19 ?_
    refine lv_iload_n hx hb d_Md_fix_22 rfl (lv_at hl 1 rfl) ?_
    refine kx_iald E w 2 rfl (by unfold vp_in; decide) (v := 3) hf.1 d_Md_fix_23 ?_
    refine kx_iadd (v := 663) hx hb d_Md_fix_24 (by decide) ?_
    refine lv_iconst (v := 1) hx hb d_Md_fix_25 (by decide) ?_
    refine kx_isub (v := 662) hx hb d_Md_fix_26 (by decide) ?_
    refine kx_lald E w 1 rfl (by unfold vp_in; decide) (v := 0) hf.2.2.2.2 d_Md_fix_27 ?_
    refine lv_lconst (v := 0) hx hb d_Md_fix_28 (by decide) ?_
    refine kx_lcmp (v := 0) hx hb d_Md_fix_29 (by decide) ?_
    refine lv_if_ne (tgt := 46) hx hb d_Md_fix_30 (by decide) (fun h => absurd (by decide) h) (fun _ => ?_)
    refine lv_aload_n hx hb d_Md_fix_33 rfl (lv_at hl 0 rfl) ?_
    refine kx_get E w zC_Md 0 rfl 13 (by decide) mw_314 rfl d_Md_fix_34 ?_
    refine lv_iload_n hx hb d_Md_fix_37 rfl (lv_at hl 1 rfl) ?_
    refine lv_dup2_11 hx hb d_Md_fix_38 rfl rfl ?_
    refine kx_iald E w 2 rfl (by unfold vp_in; decide) (v := 3) hf.1 d_Md_fix_39 ?_
    refine lv_iconst (v := 1) hx hb d_Md_fix_40 (by decide) ?_
    refine kx_isub (v := 2) hx hb d_Md_fix_41 (by decide) ?_
    refine kx_iast E w 2 rfl (by unfold vp_in; decide) 1 (by decide) d_Md_fix_42 (ws' := [(h0, .inr (12, (mF r t0 t1 t2 t3 t4 t5 t6 t7 t8 t9))), ((r 12), .inl (a 1, 81840, .inr (.inl f0))), ((r 13), .inl (a 0, 124, .inl (upd f1 1 2))), ((r 14), .inl (a 0, 124, .inl f2))]) rfl (fun H locs w => ?_)
    refine lv_goto (tgt := 0) hx hb d_Md_fix_43 (by decide) ?_
    refine lv_aload_n hx hb d_Md_fix_0 rfl (lv_at hl 0 rfl) ?_
    refine kx_get E w zC_Md 0 rfl 13 (by decide) mw_314 rfl d_Md_fix_1 ?_
    refine lv_iload_n hx hb d_Md_fix_4 rfl (lv_at hl 1 rfl) ?_
    refine kx_iald E w 2 rfl (by unfold vp_in; decide) (v := 2) rfl d_Md_fix_5 ?_
    refine lv_if_le (tgt := 46) hx hb d_Md_fix_6 (by decide) (fun h => absurd h (by decide)) (fun _ => ?_)
    refine lv_aload_n hx hb d_Md_fix_9 rfl (lv_at hl 0 rfl) ?_
    refine kx_get E w zC_Md 0 rfl 12 (by decide) mw_313 rfl d_Md_fix_10 ?_
    refine lv_sipush (v := 660) hx hb d_Md_fix_13 (by decide) ?_
    refine lv_iload_n hx hb d_Md_fix_16 rfl (lv_at hl 1 rfl) ?_
    refine kx_imul (v := 660) hx hb d_Md_fix_17 (by decide) ?_
    refine lv_aload_n hx hb d_Md_fix_18 rfl (lv_at hl 0 rfl) ?_
    refine kx_get E w zC_Md 0 rfl 13 (by decide) mw_314 rfl d_Md_fix_19 ?_
    refine lv_iload_n hx hb d_Md_fix_22 rfl (lv_at hl 1 rfl) ?_
    refine kx_iald E w 2 rfl (by unfold vp_in; decide) (v := 2) rfl d_Md_fix_23 ?_
    refine kx_iadd (v := 662) hx hb d_Md_fix_24 (by decide) ?_
    refine lv_iconst (v := 1) hx hb d_Md_fix_25 (by decide) ?_
    refine kx_isub (v := 661) hx hb d_Md_fix_26 (by decide) ?_
    refine kx_lald E w 1 rfl (by unfold vp_in; decide) (v := 0) hf.2.2.2.1 d_Md_fix_27 ?_
    refine lv_lconst (v := 0) hx hb d_Md_fix_28 (by decide) ?_
    refine kx_lcmp (v := 0) hx hb d_Md_fix_29 (by decide) ?_
    refine lv_if_ne (tgt := 46) hx hb d_Md_fix_30 (by decide) (fun h => absurd (by decide) h) (fun _ => ?_)
    refine lv_aload_n hx hb d_Md_fix_33 rfl (lv_at hl 0 rfl) ?_
    refine kx_get E w zC_Md 0 rfl 13 (by decide) mw_314 rfl d_Md_fix_34 ?_
    refine lv_iload_n hx hb d_Md_fix_37 rfl (lv_at hl 1 rfl) ?_
    refine lv_dup2_11 hx hb d_Md_fix_38 rfl rfl ?_
    refine kx_iald E w 2 rfl (by unfold vp_in; decide) (v := 2) rfl d_Md_fix_39 ?_
    refine lv_iconst (v := 1) hx hb d_Md_fix_40 (by decide) ?_
    refine kx_isub (v := 1) hx hb d_Md_fix_41 (by decide) ?_
    refine kx_iast E w 2 rfl (by unfold vp_in; decide) 1 (by decide) d_Md_fix_42 (ws' := [(h0, .inr (12, (mF r t0 t1 t2 t3 t4 t5 t6 t7 t8 t9))), ((r 12), .inl (a 1, 81840, .inr (.inl f0))), ((r 13), .inl (a 0, 124, .inl (upd (upd f1 1 2) 1 1))), ((r 14), .inl (a 0, 124, .inl f2))]) rfl (fun H locs w => ?_)
    refine lv_goto (tgt := 0) hx hb d_Md_fix_43 (by decide) ?_
    refine lv_aload_n hx hb d_Md_fix_0 rfl (lv_at hl 0 rfl) ?_
    refine kx_get E w zC_Md 0 rfl 13 (by decide) mw_314 rfl d_Md_fix_1 ?_
    refine lv_iload_n hx hb d_Md_fix_4 rfl (lv_at hl 1 rfl) ?_
    refine kx_iald E w 2 rfl (by unfold vp_in; decide) (v := 1) rfl d_Md_fix_5 ?_
    refine lv_if_le (tgt := 46) hx hb d_Md_fix_6 (by decide) (fun h => absurd h (by decide)) (fun _ => ?_)
    refine lv_aload_n hx hb d_Md_fix_9 rfl (lv_at hl 0 rfl) ?_
    refine kx_get E w zC_Md 0 rfl 12 (by decide) mw_313 rfl d_Md_fix_10 ?_
    refine lv_sipush (v := 660) hx hb d_Md_fix_13 (by decide) ?_
    refine lv_iload_n hx hb d_Md_fix_16 rfl (lv_at hl 1 rfl) ?_
    refine kx_imul (v := 660) hx hb d_Md_fix_17 (by decide) ?_
    refine lv_aload_n hx hb d_Md_fix_18 rfl (lv_at hl 0 rfl) ?_
    refine kx_get E w zC_Md 0 rfl 13 (by decide) mw_314 rfl d_Md_fix_19 ?_
    refine lv_iload_n hx hb d_Md_fix_22 rfl (lv_at hl 1 rfl) ?_
    refine kx_iald E w 2 rfl (by unfold vp_in; decide) (v := 1) rfl d_Md_fix_23 ?_
    refine kx_iadd (v := 661) hx hb d_Md_fix_24 (by decide) ?_
    refine lv_iconst (v := 1) hx hb d_Md_fix_25 (by decide) ?_
    refine kx_isub (v := 660) hx hb d_Md_fix_26 (by decide) ?_
    refine kx_lald E w 1 rfl (by unfold vp_in; decide) (v := 10) hf.2.2.1 d_Md_fix_27 ?_
    refine lv_lconst (v := 0) hx hb d_Md_fix_28 (by decide) ?_
    refine kx_lcmp (v := 1) hx hb d_Md_fix_29 (by decide) ?_
    refine lv_if_ne (tgt := 46) hx hb d_Md_fix_30 (by decide) (fun _ => ?_) (fun h => absurd h (by decide))
    refine lv_aload_n hx hb d_Md_fix_46 rfl (lv_at hl 0 rfl) ?_
    refine kx_get E w zC_Md 0 rfl 13 (by decide) mw_314 rfl d_Md_fix_47 ?_
    refine lv_iload_n hx hb d_Md_fix_50 rfl (lv_at hl 1 rfl) ?_
    refine kx_iald E w 2 rfl (by unfold vp_in; decide) (v := 1) rfl d_Md_fix_51 ?_
    refine lv_if_ne (tgt := 62) hx hb d_Md_fix_52 (by decide) (fun _ => ?_) (fun h => absurd h (by decide))
    refine W.widen (k := 0) (n := 0) (Nat.le_of_ble_eq_true rfl) (Nat.le_of_ble_eq_true rfl) ?_
    exact kx_vret E w hr hlk d_Md_fix_62 rfl)
set_option maxRecDepth 100000 in
set_option maxHeartbeats 4000000 in
theorem c_Md_fix_1_100_1 (l : Launch) (D : va_G) (a : Nat → ClassId) (h0 : Nat) (r : Nat → Nat) (t0 : Int32) (t1 : Int32) (t2 : Int32) (t3 : Int32) (t4 : Int32) (t5 : Int32) (t6 : Int32) (t7 : Int32) (t8 : Int32) (t9 : Int32) (f0 : Nat → Int64) (f1 : Nat → Int32) (f2 : Nat → Int32) (hf : f1 1 = 3 ∧ f2 1 = 1 ∧ f0 660 = 1 ∧ f0 661 = 0 ∧ f0 662 = 0) : ∀ sz : Nat, Met l y_Md_fix (Cond.code y_Md_fix b_Md_fix 2 none :: wA) ({ frames := 0, cells := 0, slots := 0, locals := 0 } : Room) (va_Pc [.ref h0, .int 1] (kP D a [(h0, .inr (12, (mF r t0 t1 t2 t3 t4 t5 t6 t7 t8 t9))), ((r 12), .inl (a 1, 81840, .inr (.inl f0))), ((r 13), .inl (a 0, 124, .inl f1)), ((r 14), .inl (a 0, 124, .inl f2))] sz)) (va_Qv (fun u : va_W => u = [(h0, .inr (12, (mF r t0 t1 t2 t3 t4 t5 t6 t7 t8 t9))), ((r 12), .inl (a 1, 81840, .inr (.inl f0))), ((r 13), .inl (a 0, 124, .inl (upd (upd f1 1 2) 1 1))), ((r 14), .inl (a 0, 124, .inl f2))]) (kB D a (va_A [(h0, .inr (12, (mF r t0 t1 t2 t3 t4 t5 t6 t7 t8 t9))), ((r 12), .inl (a 1, 81840, .inr (.inl f0))), ((r 13), .inl (a 0, 124, .inl f1)), ((r 14), .inl (a 0, 124, .inl f2))] sz)) (va_A [(h0, .inr (12, (mF r t0 t1 t2 t3 t4 t5 t6 t7 t8 t9))), ((r 12), .inl (a 1, 81840, .inr (.inl f0))), ((r 13), .inl (a 0, 124, .inl f1)), ((r 14), .inl (a 0, 124, .inl f2))] sz)) 0 0 (va_A [(h0, .inr (12, (mF r t0 t1 t2 t3 t4 t5 t6 t7 t8 t9))), ((r 12), .inl (a 1, 81840, .inr (.inl f0))), ((r 13), .inl (a 0, 124, .inl f1)), ((r 14), .inl (a 0, 124, .inl f2))] sz) :=
  kM (Qc := fun A => va_Qv (fun u : va_W => u = [(h0, .inr (12, (mF r t0 t1 t2 t3 t4 t5 t6 t7 t8 t9))), ((r 12), .inl (a 1, 81840, .inr (.inl f0))), ((r 13), .inl (a 0, 124, .inl (upd (upd f1 1 2) 1 1))), ((r 14), .inl (a 0, 124, .inl f2))]) (kB D a A) A) (by decide) (Nat.le_of_ble_eq_true rfl) (by
    intro p e s m below meth c A ls H locs E hr hlk hnm w hl
    have hx := E.1.1
    have hb := E.1.2.1
    have E : kE p m c b_Md_fix 2 s [.ref h0, .int 1].toArray "RootAlgebraModel" D a A := E
    have hl : lv_has ls 2 [(0, .ref h0), (1, .int 1)] := hl
    refine lv_aload_n hx hb d_Md_fix_0 rfl (lv_at hl 0 rfl) ?_
    refine kx_get E w zC_Md 0 rfl 13 (by decide) mw_314 rfl d_Md_fix_1 ?_
    refine lv_iload_n hx hb d_Md_fix_4 rfl (lv_at hl 1 rfl) ?_
    refine kx_iald E w 2 rfl (by unfold vp_in; decide) (v := 3) hf.1 d_Md_fix_5 ?_
    refine lv_if_le (tgt := 46) hx hb d_Md_fix_6 (by decide) (fun h => absurd h (by decide)) (fun _ => ?_)
    refine lv_aload_n hx hb d_Md_fix_9 rfl (lv_at hl 0 rfl) ?_
    refine kx_get E w zC_Md 0 rfl 12 (by decide) mw_313 rfl d_Md_fix_10 ?_
    refine lv_sipush (v := 660) hx hb d_Md_fix_13 (by decide) ?_
    refine lv_iload_n hx hb d_Md_fix_16 rfl (lv_at hl 1 rfl) ?_
    refine kx_imul (v := 660) hx hb d_Md_fix_17 (by decide) ?_
    refine lv_aload_n hx hb d_Md_fix_18 rfl (lv_at hl 0 rfl) ?_
    refine kx_get E w zC_Md 0 rfl 13 (by decide) mw_314 rfl d_Md_fix_19 ?_
    refine lv_iload_n hx hb d_Md_fix_22 rfl (lv_at hl 1 rfl) ?_
    refine kx_iald E w 2 rfl (by unfold vp_in; decide) (v := 3) hf.1 d_Md_fix_23 ?_
    refine kx_iadd (v := 663) hx hb d_Md_fix_24 (by decide) ?_
    refine lv_iconst (v := 1) hx hb d_Md_fix_25 (by decide) ?_
    refine kx_isub (v := 662) hx hb d_Md_fix_26 (by decide) ?_
    refine kx_lald E w 1 rfl (by unfold vp_in; decide) (v := 0) hf.2.2.2.2 d_Md_fix_27 ?_
    refine lv_lconst (v := 0) hx hb d_Md_fix_28 (by decide) ?_
    refine kx_lcmp (v := 0) hx hb d_Md_fix_29 (by decide) ?_
    refine lv_if_ne (tgt := 46) hx hb d_Md_fix_30 (by decide) (fun h => absurd (by decide) h) (fun _ => ?_)
    refine lv_aload_n hx hb d_Md_fix_33 rfl (lv_at hl 0 rfl) ?_
    refine kx_get E w zC_Md 0 rfl 13 (by decide) mw_314 rfl d_Md_fix_34 ?_
    refine lv_iload_n hx hb d_Md_fix_37 rfl (lv_at hl 1 rfl) ?_
    refine lv_dup2_11 hx hb d_Md_fix_38 rfl rfl ?_
    refine kx_iald E w 2 rfl (by unfold vp_in; decide) (v := 3) hf.1 d_Md_fix_39 ?_
    refine lv_iconst (v := 1) hx hb d_Md_fix_40 (by decide) ?_
    refine kx_isub (v := 2) hx hb d_Md_fix_41 (by decide) ?_
    refine kx_iast E w 2 rfl (by unfold vp_in; decide) 1 (by decide) d_Md_fix_42 (ws' := [(h0, .inr (12, (mF r t0 t1 t2 t3 t4 t5 t6 t7 t8 t9))), ((r 12), .inl (a 1, 81840, .inr (.inl f0))), ((r 13), .inl (a 0, 124, .inl (upd f1 1 2))), ((r 14), .inl (a 0, 124, .inl f2))]) rfl (fun H locs w => ?_)
    refine lv_goto (tgt := 0) hx hb d_Md_fix_43 (by decide) ?_
    refine lv_aload_n hx hb d_Md_fix_0 rfl (lv_at hl 0 rfl) ?_
    refine kx_get E w zC_Md 0 rfl 13 (by decide) mw_314 rfl d_Md_fix_1 ?_
    refine lv_iload_n hx hb d_Md_fix_4 rfl (lv_at hl 1 rfl) ?_
    refine kx_iald E w 2 rfl (by unfold vp_in; decide) (v := 2) rfl d_Md_fix_5 ?_
    refine lv_if_le (tgt := 46) hx hb d_Md_fix_6 (by decide) (fun h => absurd h (by decide)) (fun _ => ?_)
    refine lv_aload_n hx hb d_Md_fix_9 rfl (lv_at hl 0 rfl) ?_
    refine kx_get E w zC_Md 0 rfl 12 (by decide) mw_313 rfl d_Md_fix_10 ?_
    refine lv_sipush (v := 660) hx hb d_Md_fix_13 (by decide) ?_
    refine lv_iload_n hx hb d_Md_fix_16 rfl (lv_at hl 1 rfl) ?_
    refine kx_imul (v := 660) hx hb d_Md_fix_17 (by decide) ?_
    refine lv_aload_n hx hb d_Md_fix_18 rfl (lv_at hl 0 rfl) ?_
    refine kx_get E w zC_Md 0 rfl 13 (by decide) mw_314 rfl d_Md_fix_19 ?_
    refine lv_iload_n hx hb d_Md_fix_22 rfl (lv_at hl 1 rfl) ?_
    refine kx_iald E w 2 rfl (by unfold vp_in; decide) (v := 2) rfl d_Md_fix_23 ?_
    refine kx_iadd (v := 662) hx hb d_Md_fix_24 (by decide) ?_
    refine lv_iconst (v := 1) hx hb d_Md_fix_25 (by decide) ?_
    refine kx_isub (v := 661) hx hb d_Md_fix_26 (by decide) ?_
    refine kx_lald E w 1 rfl (by unfold vp_in; decide) (v := 0) hf.2.2.2.1 d_Md_fix_27 ?_
    refine lv_lconst (v := 0) hx hb d_Md_fix_28 (by decide) ?_
    refine kx_lcmp (v := 0) hx hb d_Md_fix_29 (by decide) ?_
    refine lv_if_ne (tgt := 46) hx hb d_Md_fix_30 (by decide) (fun h => absurd (by decide) h) (fun _ => ?_)
    refine lv_aload_n hx hb d_Md_fix_33 rfl (lv_at hl 0 rfl) ?_
    refine kx_get E w zC_Md 0 rfl 13 (by decide) mw_314 rfl d_Md_fix_34 ?_
    refine lv_iload_n hx hb d_Md_fix_37 rfl (lv_at hl 1 rfl) ?_
    refine lv_dup2_11 hx hb d_Md_fix_38 rfl rfl ?_
    refine kx_iald E w 2 rfl (by unfold vp_in; decide) (v := 2) rfl d_Md_fix_39 ?_
    refine lv_iconst (v := 1) hx hb d_Md_fix_40 (by decide) ?_
    refine kx_isub (v := 1) hx hb d_Md_fix_41 (by decide) ?_
    refine kx_iast E w 2 rfl (by unfold vp_in; decide) 1 (by decide) d_Md_fix_42 (ws' := [(h0, .inr (12, (mF r t0 t1 t2 t3 t4 t5 t6 t7 t8 t9))), ((r 12), .inl (a 1, 81840, .inr (.inl f0))), ((r 13), .inl (a 0, 124, .inl (upd (upd f1 1 2) 1 1))), ((r 14), .inl (a 0, 124, .inl f2))]) rfl (fun H locs w => ?_)
    refine lv_goto (tgt := 0) hx hb d_Md_fix_43 (by decide) ?_
    refine lv_aload_n hx hb d_Md_fix_0 rfl (lv_at hl 0 rfl) ?_
    refine kx_get E w zC_Md 0 rfl 13 (by decide) mw_314 rfl d_Md_fix_1 ?_
    refine lv_iload_n hx hb d_Md_fix_4 rfl (lv_at hl 1 rfl) ?_
    refine kx_iald E w 2 rfl (by unfold vp_in; decide) (v := 1) rfl d_Md_fix_5 ?_
    refine lv_if_le (tgt := 46) hx hb d_Md_fix_6 (by decide) (fun h => absurd h (by decide)) (fun _ => ?_)
    refine lv_aload_n hx hb d_Md_fix_9 rfl (lv_at hl 0 rfl) ?_
    refine kx_get E w zC_Md 0 rfl 12 (by decide) mw_313 rfl d_Md_fix_10 ?_
    refine lv_sipush (v := 660) hx hb d_Md_fix_13 (by decide) ?_
    refine lv_iload_n hx hb d_Md_fix_16 rfl (lv_at hl 1 rfl) ?_
    refine kx_imul (v := 660) hx hb d_Md_fix_17 (by decide) ?_
    refine lv_aload_n hx hb d_Md_fix_18 rfl (lv_at hl 0 rfl) ?_
    refine kx_get E w zC_Md 0 rfl 13 (by decide) mw_314 rfl d_Md_fix_19 ?_
    refine lv_iload_n hx hb d_Md_fix_22 rfl (lv_at hl 1 rfl) ?_
    refine kx_iald E w 2 rfl (by unfold vp_in; decide) (v := 1) rfl d_Md_fix_23 ?_
    refine kx_iadd (v := 661) hx hb d_Md_fix_24 (by decide) ?_
    refine lv_iconst (v := 1) hx hb d_Md_fix_25 (by decide) ?_
    refine kx_isub (v := 660) hx hb d_Md_fix_26 (by decide) ?_
    refine kx_lald E w 1 rfl (by unfold vp_in; decide) (v := 1) hf.2.2.1 d_Md_fix_27 ?_
    refine lv_lconst (v := 0) hx hb d_Md_fix_28 (by decide) ?_
    refine kx_lcmp (v := 1) hx hb d_Md_fix_29 (by decide) ?_
    refine lv_if_ne (tgt := 46) hx hb d_Md_fix_30 (by decide) (fun _ => ?_) (fun h => absurd h (by decide))
    refine lv_aload_n hx hb d_Md_fix_46 rfl (lv_at hl 0 rfl) ?_
    refine kx_get E w zC_Md 0 rfl 13 (by decide) mw_314 rfl d_Md_fix_47 ?_
    refine lv_iload_n hx hb d_Md_fix_50 rfl (lv_at hl 1 rfl) ?_
    refine kx_iald E w 2 rfl (by unfold vp_in; decide) (v := 1) rfl d_Md_fix_51 ?_
    refine lv_if_ne (tgt := 62) hx hb d_Md_fix_52 (by decide) (fun _ => ?_) (fun h => absurd h (by decide))
    refine W.widen (k := 0) (n := 0) (Nat.le_of_ble_eq_true rfl) (Nat.le_of_ble_eq_true rfl) ?_
    exact kx_vret E w hr hlk d_Md_fix_62 rfl)
set_option maxRecDepth 100000 in
set_option maxHeartbeats 4000000 in
theorem c_Md_fix_2_0_0 (l : Launch) (D : va_G) (a : Nat → ClassId) (h0 : Nat) (r : Nat → Nat) (t0 : Int32) (t1 : Int32) (t2 : Int32) (t3 : Int32) (t4 : Int32) (t5 : Int32) (t6 : Int32) (t7 : Int32) (t8 : Int32) (t9 : Int32) (f0 : Nat → Int64) (f1 : Nat → Int32) (f2 : Nat → Int32) (hf : f1 2 = 1 ∧ f2 2 = 0 ∧ f0 1320 = 0) : ∀ sz : Nat, Met l y_Md_fix (Cond.code y_Md_fix b_Md_fix 2 none :: wA) ({ frames := 0, cells := 0, slots := 0, locals := 0 } : Room) (va_Pc [.ref h0, .int 2] (kP D a [(h0, .inr (12, (mF r t0 t1 t2 t3 t4 t5 t6 t7 t8 t9))), ((r 12), .inl (a 1, 81840, .inr (.inl f0))), ((r 13), .inl (a 0, 124, .inl f1)), ((r 14), .inl (a 0, 124, .inl f2))] sz)) (va_Qv (fun u : va_W => u = [(h0, .inr (12, (mF r t0 t1 t2 t3 t4 t5 t6 t7 t8 t9))), ((r 12), .inl (a 1, 81840, .inr (.inl f0))), ((r 13), .inl (a 0, 124, .inl (upd f1 2 0))), ((r 14), .inl (a 0, 124, .inl (upd f2 2 0)))]) (kB D a (va_A [(h0, .inr (12, (mF r t0 t1 t2 t3 t4 t5 t6 t7 t8 t9))), ((r 12), .inl (a 1, 81840, .inr (.inl f0))), ((r 13), .inl (a 0, 124, .inl f1)), ((r 14), .inl (a 0, 124, .inl f2))] sz)) (va_A [(h0, .inr (12, (mF r t0 t1 t2 t3 t4 t5 t6 t7 t8 t9))), ((r 12), .inl (a 1, 81840, .inr (.inl f0))), ((r 13), .inl (a 0, 124, .inl f1)), ((r 14), .inl (a 0, 124, .inl f2))] sz)) 0 0 (va_A [(h0, .inr (12, (mF r t0 t1 t2 t3 t4 t5 t6 t7 t8 t9))), ((r 12), .inl (a 1, 81840, .inr (.inl f0))), ((r 13), .inl (a 0, 124, .inl f1)), ((r 14), .inl (a 0, 124, .inl f2))] sz) :=
  kM (Qc := fun A => va_Qv (fun u : va_W => u = [(h0, .inr (12, (mF r t0 t1 t2 t3 t4 t5 t6 t7 t8 t9))), ((r 12), .inl (a 1, 81840, .inr (.inl f0))), ((r 13), .inl (a 0, 124, .inl (upd f1 2 0))), ((r 14), .inl (a 0, 124, .inl (upd f2 2 0)))]) (kB D a A) A) (by decide) (Nat.le_of_ble_eq_true rfl) (by
    intro p e s m below meth c A ls H locs E hr hlk hnm w hl
    have hx := E.1.1
    have hb := E.1.2.1
    have E : kE p m c b_Md_fix 2 s [.ref h0, .int 2].toArray "RootAlgebraModel" D a A := E
    have hl : lv_has ls 2 [(0, .ref h0), (1, .int 2)] := hl
    refine lv_aload_n hx hb d_Md_fix_0 rfl (lv_at hl 0 rfl) ?_
    refine kx_get E w zC_Md 0 rfl 13 (by decide) mw_314 rfl d_Md_fix_1 ?_
    refine lv_iload_n hx hb d_Md_fix_4 rfl (lv_at hl 1 rfl) ?_
    refine kx_iald E w 2 rfl (by unfold vp_in; decide) (v := 1) hf.1 d_Md_fix_5 ?_
    refine lv_if_le (tgt := 46) hx hb d_Md_fix_6 (by decide) (fun h => absurd h (by decide)) (fun _ => ?_)
    refine lv_aload_n hx hb d_Md_fix_9 rfl (lv_at hl 0 rfl) ?_
    refine kx_get E w zC_Md 0 rfl 12 (by decide) mw_313 rfl d_Md_fix_10 ?_
    refine lv_sipush (v := 660) hx hb d_Md_fix_13 (by decide) ?_
    refine lv_iload_n hx hb d_Md_fix_16 rfl (lv_at hl 1 rfl) ?_
    refine kx_imul (v := 1320) hx hb d_Md_fix_17 (by decide) ?_
    refine lv_aload_n hx hb d_Md_fix_18 rfl (lv_at hl 0 rfl) ?_
    refine kx_get E w zC_Md 0 rfl 13 (by decide) mw_314 rfl d_Md_fix_19 ?_
    refine lv_iload_n hx hb d_Md_fix_22 rfl (lv_at hl 1 rfl) ?_
    refine kx_iald E w 2 rfl (by unfold vp_in; decide) (v := 1) hf.1 d_Md_fix_23 ?_
    refine kx_iadd (v := 1321) hx hb d_Md_fix_24 (by decide) ?_
    refine lv_iconst (v := 1) hx hb d_Md_fix_25 (by decide) ?_
    refine kx_isub (v := 1320) hx hb d_Md_fix_26 (by decide) ?_
    refine kx_lald E w 1 rfl (by unfold vp_in; decide) (v := 0) hf.2.2 d_Md_fix_27 ?_
    refine lv_lconst (v := 0) hx hb d_Md_fix_28 (by decide) ?_
    refine kx_lcmp (v := 0) hx hb d_Md_fix_29 (by decide) ?_
    refine lv_if_ne (tgt := 46) hx hb d_Md_fix_30 (by decide) (fun h => absurd (by decide) h) (fun _ => ?_)
    refine lv_aload_n hx hb d_Md_fix_33 rfl (lv_at hl 0 rfl) ?_
    refine kx_get E w zC_Md 0 rfl 13 (by decide) mw_314 rfl d_Md_fix_34 ?_
    refine lv_iload_n hx hb d_Md_fix_37 rfl (lv_at hl 1 rfl) ?_
    refine lv_dup2_11 hx hb d_Md_fix_38 rfl rfl ?_
    refine kx_iald E w 2 rfl (by unfold vp_in; decide) (v := 1) hf.1 d_Md_fix_39 ?_
    refine lv_iconst (v := 1) hx hb d_Md_fix_40 (by decide) ?_
    refine kx_isub (v := 0) hx hb d_Md_fix_41 (by decide) ?_
    refine kx_iast E w 2 rfl (by unfold vp_in; decide) 2 (by decide) d_Md_fix_42 (ws' := [(h0, .inr (12, (mF r t0 t1 t2 t3 t4 t5 t6 t7 t8 t9))), ((r 12), .inl (a 1, 81840, .inr (.inl f0))), ((r 13), .inl (a 0, 124, .inl (upd f1 2 0))), ((r 14), .inl (a 0, 124, .inl f2))]) rfl (fun H locs w => ?_)
    refine lv_goto (tgt := 0) hx hb d_Md_fix_43 (by decide) ?_
    refine lv_aload_n hx hb d_Md_fix_0 rfl (lv_at hl 0 rfl) ?_
    refine kx_get E w zC_Md 0 rfl 13 (by decide) mw_314 rfl d_Md_fix_1 ?_
    refine lv_iload_n hx hb d_Md_fix_4 rfl (lv_at hl 1 rfl) ?_
    refine kx_iald E w 2 rfl (by unfold vp_in; decide) (v := 0) rfl d_Md_fix_5 ?_
    refine lv_if_le (tgt := 46) hx hb d_Md_fix_6 (by decide) (fun _ => ?_) (fun h => absurd (by decide) h)
    refine lv_aload_n hx hb d_Md_fix_46 rfl (lv_at hl 0 rfl) ?_
    refine kx_get E w zC_Md 0 rfl 13 (by decide) mw_314 rfl d_Md_fix_47 ?_
    refine lv_iload_n hx hb d_Md_fix_50 rfl (lv_at hl 1 rfl) ?_
    refine kx_iald E w 2 rfl (by unfold vp_in; decide) (v := 0) rfl d_Md_fix_51 ?_
    refine lv_if_ne (tgt := 62) hx hb d_Md_fix_52 (by decide) (fun h => absurd (by decide) h) (fun _ => ?_)
    refine lv_aload_n hx hb d_Md_fix_55 rfl (lv_at hl 0 rfl) ?_
    refine kx_get E w zC_Md 0 rfl 14 (by decide) mw_315 rfl d_Md_fix_56 ?_
    refine lv_iload_n hx hb d_Md_fix_59 rfl (lv_at hl 1 rfl) ?_
    refine lv_iconst (v := 0) hx hb d_Md_fix_60 (by decide) ?_
    refine kx_iast E w 3 rfl (by unfold vp_in; decide) 2 (by decide) d_Md_fix_61 (ws' := [(h0, .inr (12, (mF r t0 t1 t2 t3 t4 t5 t6 t7 t8 t9))), ((r 12), .inl (a 1, 81840, .inr (.inl f0))), ((r 13), .inl (a 0, 124, .inl (upd f1 2 0))), ((r 14), .inl (a 0, 124, .inl (upd f2 2 0)))]) rfl (fun H locs w => ?_)
    refine W.widen (k := 0) (n := 0) (Nat.le_of_ble_eq_true rfl) (Nat.le_of_ble_eq_true rfl) ?_
    exact kx_vret E w hr hlk d_Md_fix_62 rfl)
