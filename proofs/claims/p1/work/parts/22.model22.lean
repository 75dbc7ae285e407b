/-! laid by program (wip/gen) -/
set_option maxRecDepth 100000 in
set_option maxHeartbeats 4000000 in
theorem c_Md_divided0_10 (l : Launch) (D : va_G) (a : Nat → ClassId) (h0 : Nat) (r : Nat → Nat) (t0 : Int32) (t1 : Int32) (t2 : Int32) (t3 : Int32) (t4 : Int32) (t5 : Int32) (t6 : Int32) (t7 : Int32) (t8 : Int32) (t9 : Int32) (f0 : Nat → Int64) (f1 : Nat → Int32) (f2 : Nat → Int32) (f3 : Nat → Int64) (f4 : Nat → Int64) (f5 : Nat → Int64) (wd : Int64) (hf : f1 19 = 0 ∧ f2 19 = 0 ∧ f0 12540 = wd ∧ f1 1 = 1 ∧ f2 1 = 1 ∧ f0 660 = 10) : ∀ sz : Nat, Met l y_Md_divided (Cond.code y_Md_divided b_Md_divided 19 none :: wA) ({ frames := 2, cells := 0, slots := 0, locals := 45 } : Room) (va_Pc [.ref h0, .int 19, .int 2, .int 19, .int 1] (kP D a [(h0, .inr (12, (mF r t0 t1 t2 t3 t4 t5 t6 t7 t8 t9))), ((r 12), .inl (a 1, 81840, .inr (.inl f0))), ((r 13), .inl (a 0, 124, .inl f1)), ((r 14), .inl (a 0, 124, .inl f2)), ((r 15), .inl (a 1, 1400, .inr (.inl f3))), ((r 16), .inl (a 1, 700, .inr (.inl f4))), ((r 17), .inl (a 1, 1400, .inr (.inl f5)))] sz)) (va_Qv (fun u : va_W => ∃ fx0 : Nat → Int64, ∃ fx1 : Nat → Int64, ∃ fx2 : Nat → Int64, ∃ fx3 : Nat → Int64, ∃ fx4 : Nat → Int32, ∃ fx5 : Nat → Int32, u = [((r 16), .inl (a 1, 700, .inr (.inl fx0))), ((r 17), .inl (a 1, 1400, .inr (.inl fx1))), ((r 15), .inl (a 1, 1400, .inr (.inl fx2))), (h0, .inr (12, (mF r t0 t1 t2 t3 t4 t5 t6 t7 t8 t9))), ((r 12), .inl (a 1, 81840, .inr (.inl fx3))), ((r 13), .inl (a 0, 124, .inl fx4)), ((r 14), .inl (a 0, 124, .inl fx5))] ∧ fx0 0 = 167772160 ∧ fx1 0 = 0 ∧ fx2 0 = 0 ∧ fx3 660 = 10 ∧ fx3 1320 = 0 ∧ fx3 12540 = wd ∧ fx4 1 = 1 ∧ fx4 2 = 0 ∧ fx4 19 = 0 ∧ fx5 1 = 1 ∧ fx5 2 = 0 ∧ fx5 19 = 0) (kB D a (va_A [(h0, .inr (12, (mF r t0 t1 t2 t3 t4 t5 t6 t7 t8 t9))), ((r 12), .inl (a 1, 81840, .inr (.inl f0))), ((r 13), .inl (a 0, 124, .inl f1)), ((r 14), .inl (a 0, 124, .inl f2)), ((r 15), .inl (a 1, 1400, .inr (.inl f3))), ((r 16), .inl (a 1, 700, .inr (.inl f4))), ((r 17), .inl (a 1, 1400, .inr (.inl f5)))] sz)) (va_A [(h0, .inr (12, (mF r t0 t1 t2 t3 t4 t5 t6 t7 t8 t9))), ((r 12), .inl (a 1, 81840, .inr (.inl f0))), ((r 13), .inl (a 0, 124, .inl f1)), ((r 14), .inl (a 0, 124, .inl f2)), ((r 15), .inl (a 1, 1400, .inr (.inl f3))), ((r 16), .inl (a 1, 700, .inr (.inl f4))), ((r 17), .inl (a 1, 1400, .inr (.inl f5)))] sz)) 0 0 (va_A [(h0, .inr (12, (mF r t0 t1 t2 t3 t4 t5 t6 t7 t8 t9))), ((r 12), .inl (a 1, 81840, .inr (.inl f0))), ((r 13), .inl (a 0, 124, .inl f1)), ((r 14), .inl (a 0, 124, .inl f2)), ((r 15), .inl (a 1, 1400, .inr (.inl f3))), ((r 16), .inl (a 1, 700, .inr (.inl f4))), ((r 17), .inl (a 1, 1400, .inr (.inl f5)))] sz) :=
  kM (Qc := fun A => va_Qv (fun u : va_W => ∃ fx0 : Nat → Int64, ∃ fx1 : Nat → Int64, ∃ fx2 : Nat → Int64, ∃ fx3 : Nat → Int64, ∃ fx4 : Nat → Int32, ∃ fx5 : Nat → Int32, u = [((r 16), .inl (a 1, 700, .inr (.inl fx0))), ((r 17), .inl (a 1, 1400, .inr (.inl fx1))), ((r 15), .inl (a 1, 1400, .inr (.inl fx2))), (h0, .inr (12, (mF r t0 t1 t2 t3 t4 t5 t6 t7 t8 t9))), ((r 12), .inl (a 1, 81840, .inr (.inl fx3))), ((r 13), .inl (a 0, 124, .inl fx4)), ((r 14), .inl (a 0, 124, .inl fx5))] ∧ fx0 0 = 167772160 ∧ fx1 0 = 0 ∧ fx2 0 = 0 ∧ fx3 660 = 10 ∧ fx3 1320 = 0 ∧ fx3 12540 = wd ∧ fx4 1 = 1 ∧ fx4 2 = 0 ∧ fx4 19 = 0 ∧ fx5 1 = 1 ∧ fx5 2 = 0 ∧ fx5 19 = 0) (kB D a A) A) (by decide) (Nat.le_of_ble_eq_true rfl) (by
    intro p e s m below meth c A ls H locs E hr hlk hnm w hl
    have hx := E.1.1
    have hb := E.1.2.1
    have E : kE p m c b_Md_divided 19 s [.ref h0, .int 19, .int 2, .int 19, .int 1].toArray "RootAlgebraModel" D a A := E
    have hl : lv_has ls 19 [(0, .ref h0), (1, .int 19), (2, .int 2), (3, .int 19), (4, .int 1)] := hl
    refine lv_aload_n hx hb d_Md_divided_0 rfl (lv_at hl 0 rfl) ?_
    refine kx_get E w zC_Md 0 rfl 14 (by decide) mw_315 rfl d_Md_divided_1 ?_
    refine lv_iload_n hx hb d_Md_divided_4 rfl (lv_at hl 3 rfl) ?_
    refine kx_iald E w 3 rfl (by unfold vp_in; decide) (v := 0) hf.2.1 d_Md_divided_5 ?_
    refine lv_istore (lv' := [(5, .int 0), (0, .ref h0), (1, .int 19), (2, .int 2), (3, .int 19), (4, .int 1)]) hx hb d_Md_divided_6 hl (by decide) rfl (fun ls hl => ?_)
    refine lv_aload_n hx hb d_Md_divided_8 rfl (lv_at hl 1 rfl) ?_
    refine kx_get E w zC_Md 0 rfl 14 (by decide) mw_315 rfl d_Md_divided_9 ?_
    refine lv_iload hx hb d_Md_divided_12 (lv_at hl 5 rfl) ?_
    refine kx_iald E w 3 rfl (by unfold vp_in; decide) (v := 1) hf.2.2.2.2.1 d_Md_divided_14 ?_
    refine lv_istore (lv' := [(6, .int 1), (5, .int 0), (0, .ref h0), (1, .int 19), (2, .int 2), (3, .int 19), (4, .int 1)]) hx hb d_Md_divided_15 hl (by decide) rfl (fun ls hl => ?_)
    refine lv_aload_n hx hb d_Md_divided_17 rfl (lv_at hl 2 rfl) ?_
    refine kx_get E w zC_Md 0 rfl 13 (by decide) mw_314 rfl d_Md_divided_18 ?_
    refine lv_iload hx hb d_Md_divided_21 (lv_at hl 6 rfl) ?_
    refine kx_iald E w 2 rfl (by unfold vp_in; decide) (v := 1) hf.2.2.2.1 d_Md_divided_23 ?_
    refine lv_istore (lv' := [(7, .int 1), (6, .int 1), (5, .int 0), (0, .ref h0), (1, .int 19), (2, .int 2), (3, .int 19), (4, .int 1)]) hx hb d_Md_divided_24 hl (by decide) rfl (fun ls hl => ?_)
    refine lv_aload_n hx hb d_Md_divided_26 rfl (lv_at hl 3 rfl) ?_
    refine kx_get E w zC_Md 0 rfl 13 (by decide) mw_314 rfl d_Md_divided_27 ?_
    refine lv_iload_n hx hb d_Md_divided_30 rfl (lv_at hl 6 rfl) ?_
    refine kx_iald E w 2 rfl (by unfold vp_in; decide) (v := 0) hf.1 d_Md_divided_31 ?_
    refine lv_istore (lv' := [(8, .int 0), (7, .int 1), (6, .int 1), (5, .int 0), (0, .ref h0), (1, .int 19), (2, .int 2), (3, .int 19), (4, .int 1)]) hx hb d_Md_divided_32 hl (by decide) rfl (fun ls hl => ?_)
    refine lv_iconst (v := 0) hx hb d_Md_divided_34 (by decide) ?_
    refine lv_istore (lv' := [(9, .int 0), (8, .int 0), (7, .int 1), (6, .int 1), (5, .int 0), (0, .ref h0), (1, .int 19), (2, .int 2), (3, .int 19), (4, .int 1)]) hx hb d_Md_divided_35 hl (by decide) rfl (fun ls hl => ?_)
    refine lv_aload_n hx hb d_Md_divided_37 rfl (lv_at hl 5 rfl) ?_
    refine kx_get E w zC_Md 0 rfl 12 (by decide) mw_313 rfl d_Md_divided_38 ?_
    refine lv_sipush (v := 660) hx hb d_Md_divided_41 (by decide) ?_
    refine lv_iload hx hb d_Md_divided_44 (lv_at hl 9 rfl) ?_
    refine kx_imul (v := 660) hx hb d_Md_divided_46 (by decide) ?_
    refine lv_iload hx hb d_Md_divided_47 (lv_at hl 2 rfl) ?_
    refine kx_iadd (v := 661) hx hb d_Md_divided_49 (by decide) ?_
    refine lv_iconst (v := 1) hx hb d_Md_divided_50 (by decide) ?_
    refine kx_isub (v := 660) hx hb d_Md_divided_51 (by decide) ?_
    refine kx_lald E w 1 rfl (by unfold vp_in; decide) (v := 10) hf.2.2.2.2.2 d_Md_divided_52 ?_
    refine lv_iload hx hb d_Md_divided_53 (lv_at hl 0 rfl) ?_
    refine lv_lshl (v := 10) hx hb d_Md_divided_55 (by decide) ?_
    refine lv_ldc2 (v := 134217728) hx hb E.1.2.2.2.1 (E.1.2.2.2.2 _ mw_413) d_Md_divided_56 ?_
    refine kx_lcmp (v := (-1)) hx hb d_Md_divided_59 (by decide) ?_
    refine lv_if_ge (tgt := 69) hx hb d_Md_divided_60 (by decide) (fun h => absurd h (by decide)) (fun _ => ?_)
    refine lv_iinc (v := 1) (lv' := [(9, .int 1), (8, .int 0), (7, .int 1), (6, .int 1), (5, .int 0), (0, .ref h0), (1, .int 19), (2, .int 2), (3, .int 19), (4, .int 1)]) hx hb d_Md_divided_63 hl (k := 0) rfl (by decide) (by decide) rfl (fun ls hl => ?_)
    refine lv_goto (tgt := 37) hx hb d_Md_divided_66 (by decide) ?_
    refine lv_aload_n hx hb d_Md_divided_37 rfl (lv_at hl 5 rfl) ?_
    refine kx_get E w zC_Md 0 rfl 12 (by decide) mw_313 rfl d_Md_divided_38 ?_
    refine lv_sipush (v := 660) hx hb d_Md_divided_41 (by decide) ?_
    refine lv_iload hx hb d_Md_divided_44 (lv_at hl 9 rfl) ?_
    refine kx_imul (v := 660) hx hb d_Md_divided_46 (by decide) ?_
    refine lv_iload hx hb d_Md_divided_47 (lv_at hl 2 rfl) ?_
    refine kx_iadd (v := 661) hx hb d_Md_divided_49 (by decide) ?_
    refine lv_iconst (v := 1) hx hb d_Md_divided_50 (by decide) ?_
    refine kx_isub (v := 660) hx hb d_Md_divided_51 (by decide) ?_
    refine kx_lald E w 1 rfl (by unfold vp_in; decide) (v := 10) hf.2.2.2.2.2 d_Md_divided_52 ?_
    refine lv_iload hx hb d_Md_divided_53 (lv_at hl 0 rfl) ?_
    refine lv_lshl (v := 20) hx hb d_Md_divided_55 (by decide) ?_
    refine lv_ldc2 (v := 134217728) hx hb E.1.2.2.2.1 (E.1.2.2.2.2 _ mw_413) d_Md_divided_56 ?_
    refine kx_lcmp (v := (-1)) hx hb d_Md_divided_59 (by decide) ?_
    refine lv_if_ge (tgt := 69) hx hb d_Md_divided_60 (by decide) (fun h => absurd h (by decide)) (fun _ => ?_)
    refine lv_iinc (v := 2) (lv' := [(9, .int 2), (8, .int 0), (7, .int 1), (6, .int 1), (5, .int 0), (0, .ref h0), (1, .int 19), (2, .int 2), (3, .int 19), (4, .int 1)]) hx hb d_Md_divided_63 hl (k := 0) rfl (by decide) (by decide) rfl (fun ls hl => ?_)
    refine lv_goto (tgt := 37) hx hb d_Md_divided_66 (by decide) ?_
    refine lv_aload_n hx hb d_Md_divided_37 rfl (lv_at hl 5 rfl) ?_
    refine kx_get E w zC_Md 0 rfl 12 (by decide) mw_313 rfl d_Md_divided_38 ?_
    refine lv_sipush (v := 660) hx hb d_Md_divided_41 (by decide) ?_
    refine lv_iload hx hb d_Md_divided_44 (lv_at hl 9 rfl) ?_
    refine kx_imul (v := 660) hx hb d_Md_divided_46 (by decide) ?_
    refine lv_iload hx hb d_Md_divided_47 (lv_at hl 2 rfl) ?_
    refine kx_iadd (v := 661) hx hb d_Md_divided_49 (by decide) ?_
    refine lv_iconst (v := 1) hx hb d_Md_divided_50 (by decide) ?_
    refine kx_isub (v := 660) hx hb d_Md_divided_51 (by decide) ?_
    refine kx_lald E w 1 rfl (by unfold vp_in; decide) (v := 10) hf.2.2.2.2.2 d_Md_divided_52 ?_
    refine lv_iload hx hb d_Md_divided_53 (lv_at hl 0 rfl) ?_
    refine lv_lshl (v := 40) hx hb d_Md_divided_55 (by decide) ?_
    refine lv_ldc2 (v := 134217728) hx hb E.1.2.2.2.1 (E.1.2.2.2.2 _ mw_413) d_Md_divided_56 ?_
    refine kx_lcmp (v := (-1)) hx hb d_Md_divided_59 (by decide) ?_
    refine lv_if_ge (tgt := 69) hx hb d_Md_divided_60 (by decide) (fun h => absurd h (by decide)) (fun _ => ?_)
    refine lv_iinc (v := 3) (lv' := [(9, .int 3), (8, .int 0), (7, .int 1), (6, .int 1), (5, .int 0), (0, .ref h0), (1, .int 19), (2, .int 2), (3, .int 19), (4, .int 1)]) hx hb d_Md_divided_63 hl (k := 0) rfl (by decide) (by decide) rfl (fun ls hl => ?_)
    refine lv_goto (tgt := 37) hx hb d_Md_divided_66 (by decide) ?_
    refine lv_aload_n hx hb d_Md_divided_37 rfl (lv_at hl 5 rfl) ?_
    refine kx_get E w zC_Md 0 rfl 12 (by decide) mw_313 rfl d_Md_divided_38 ?_
    refine lv_sipush (v := 660) hx hb d_Md_divided_41 (by decide) ?_
    refine lv_iload hx hb d_Md_divided_44 (lv_at hl 9 rfl) ?_
    refine kx_imul (v := 660) hx hb d_Md_divided_46 (by decide) ?_
    refine lv_iload hx hb d_Md_divided_47 (lv_at hl 2 rfl) ?_
    refine kx_iadd (v := 661) hx hb d_Md_divided_49 (by decide) ?_
    refine lv_iconst (v := 1) hx hb d_Md_divided_50 (by decide) ?_
    refine kx_isub (v := 660) hx hb d_Md_divided_51 (by decide) ?_
    refine kx_lald E w 1 rfl (by unfold vp_in; decide) (v := 10) hf.2.2.2.2.2 d_Md_divided_52 ?_
    refine lv_iload hx hb d_Md_divided_53 (lv_at hl 0 rfl) ?_
    refine lv_lshl (v := 80) hx hb d_Md_divided_55 (by decide) ?_
    refine lv_ldc2 (v := 134217728) hx hb E.1.2.2.2.1 (E.1.2.2.2.2 _ mw_413) d_Md_divided_56 ?_
    refine kx_lcmp (v := (-1)) hx hb d_Md_divided_59 (by decide) ?_
    refine lv_if_ge (tgt := 69) hx hb d_Md_divided_60 (by decide) (fun h => absurd h (by decide)) (fun _ => ?_)
    refine lv_iinc (v := 4) (lv' := [(9, .int 4), (8, .int 0), (7, .int 1), (6, .int 1), (5, .int 0), (0, .ref h0), (1, .int 19), (2, .int 2), (3, .int 19), (4, .int 1)]) hx hb d_Md_divided_63 hl (k := 0) rfl (by decide) (by decide) rfl (fun ls hl => ?_)
    refine lv_goto (tgt := 37) hx hb d_Md_divided_66 (by decide) ?_
    refine lv_aload_n hx hb d_Md_divided_37 rfl (lv_at hl 5 rfl) ?_
    refine kx_get E w zC_Md 0 rfl 12 (by decide) mw_313 rfl d_Md_divided_38 ?_
    refine lv_sipush (v := 660) hx hb d_Md_divided_41 (by decide) ?_
    refine lv_iload hx hb d_Md_divided_44 (lv_at hl 9 rfl) ?_
    refine kx_imul (v := 660) hx hb d_Md_divided_46 (by decide) ?_
    refine lv_iload hx hb d_Md_divided_47 (lv_at hl 2 rfl) ?_
    refine kx_iadd (v := 661) hx hb d_Md_divided_49 (by decide) ?_
    refine lv_iconst (v := 1) hx hb d_Md_divided_50 (by decide) ?_
    refine kx_isub (v := 660) hx hb d_Md_divided_51 (by decide) ?_
    refine kx_lald E w 1 rfl (by unfold vp_in; decide) (v := 10) hf.2.2.2.2.2 d_Md_divided_52 ?_
    refine lv_iload hx hb d_Md_divided_53 (lv_at hl 0 rfl) ?_
    refine lv_lshl (v := 160) hx hb d_Md_divided_55 (by decide) ?_
    refine lv_ldc2 (v := 134217728) hx hb E.1.2.2.2.1 (E.1.2.2.2.2 _ mw_413) d_Md_divided_56 ?_
    refine kx_lcmp (v := (-1)) hx hb d_Md_divided_59 (by decide) ?_
    refine lv_if_ge (tgt := 69) hx hb d_Md_divided_60 (by decide) (fun h => absurd h (by decide)) (fun _ => ?_)
    refine lv_iinc (v := 5) (lv' := [(9, .int 5), (8, .int 0), (7, .int 1), (6, .int 1), (5, .int 0), (0, .ref h0), (1, .int 19), (2, .int 2), (3, .int 19), (4, .int 1)]) hx hb d_Md_divided_63 hl (k := 0) rfl (by decide) (by decide) rfl (fun ls hl => ?_)
    refine lv_goto (tgt := 37) hx hb d_Md_divided_66 (by decide) ?_
    refine lv_aload_n hx hb d_Md_divided_37 rfl (lv_at hl 5 rfl) ?_
    refine kx_get E w zC_Md 0 rfl 12 (by decide) mw_313 rfl d_Md_divided_38 ?_
    refine lv_sipush (v := 660) hx hb d_Md_divided_41 (by decide) ?_
    refine lv_iload hx hb d_Md_divided_44 (lv_at hl 9 rfl) ?_
    refine kx_imul (v := 660) hx hb d_Md_divided_46 (by decide) ?_
    refine lv_iload hx hb d_Md_divided_47 (lv_at hl 2 rfl) ?_
    refine kx_iadd (v := 661) hx hb d_Md_divided_49 (by decide) ?_
    refine lv_iconst (v := 1) hx hb d_Md_divided_50 (by decide) ?_
    refine kx_isub (v := 660) hx hb d_Md_divided_51 (by decide) ?_
    refine kx_lald E w 1 rfl (by unfold vp_in; decide) (v := 10) hf.2.2.2.2.2 d_Md_divided_52 ?_
    refine lv_iload hx hb d_Md_divided_53 (lv_at hl 0 rfl) ?_
    refine lv_lshl (v := 320) hx hb d_Md_divided_55 (by decide) ?_
    refine lv_ldc2 (v := 134217728) hx hb E.1.2.2.2.1 (E.1.2.2.2.2 _ mw_413) d_Md_divided_56 ?_
    refine kx_lcmp (v := (-1)) hx hb d_Md_divided_59 (by decide) ?_
    refine lv_if_ge (tgt := 69) hx hb d_Md_divided_60 (by decide) (fun h => absurd h (by decide)) (fun _ => ?_)
    refine lv_iinc (v := 6) (lv' := [(9, .int 6), (8, .int 0), (7, .int 1), (6, .int 1), (5, .int 0), (0, .ref h0), (1, .int 19), (2, .int 2), (3, .int 19), (4, .int 1)]) hx hb d_Md_divided_63 hl (k := 0) rfl (by decide) (by decide) rfl (fun ls hl => ?_)
    refine lv_goto (tgt := 37) hx hb d_Md_divided_66 (by decide) ?_
    refine lv_aload_n hx hb d_Md_divided_37 rfl (lv_at hl 5 rfl) ?_
    refine kx_get E w zC_Md 0 rfl 12 (by decide) mw_313 rfl d_Md_divided_38 ?_
    refine lv_sipush (v := 660) hx hb d_Md_divided_41 (by decide) ?_
    refine lv_iload hx hb d_Md_divided_44 (lv_at hl 9 rfl) ?_
    refine kx_imul (v := 660) hx hb d_Md_divided_46 (by decide) ?_
    refine lv_iload hx hb d_Md_divided_47 (lv_at hl 2 rfl) ?_
    refine kx_iadd (v := 661) hx hb d_Md_divided_49 (by decide) ?_
    refine lv_iconst (v := 1) hx hb d_Md_divided_50 (by decide) ?_
    refine kx_isub (v := 660) hx hb d_Md_divided_51 (by decide) ?_
    refine kx_lald E w 1 rfl (by unfold vp_in; decide) (v := 10) hf.2.2.2.2.2 d_Md_divided_52 ?_
    refine lv_iload hx hb d_Md_divided_53 (lv_at hl 0 rfl) ?_
    refine lv_lshl (v := 640) hx hb d_Md_divided_55 (by decide) ?_
    refine lv_ldc2 (v := 134217728) hx hb E.1.2.2.2.1 (E.1.2.2.2.2 _ mw_413) d_Md_divided_56 ?_
    refine kx_lcmp (v := (-1)) hx hb d_Md_divided_59 (by decide) ?_
    refine lv_if_ge (tgt := 69) hx hb d_Md_divided_60 (by decide) (fun h => absurd h (by decide)) (fun _ => ?_)
    refine lv_iinc (v := 7) (lv' := [(9, .int 7), (8, .int 0), (7, .int 1), (6, .int 1), (5, .int 0), (0, .ref h0), (1, .int 19), (2, .int 2), (3, .int 19), (4, .int 1)]) hx hb d_Md_divided_63 hl (k := 0) rfl (by decide) (by decide) rfl (fun ls hl => ?_)
    refine lv_goto (tgt := 37) hx hb d_Md_divided_66 (by decide) ?_
    refine lv_aload_n hx hb d_Md_divided_37 rfl (lv_at hl 5 rfl) ?_
    refine kx_get E w zC_Md 0 rfl 12 (by decide) mw_313 rfl d_Md_divided_38 ?_
    refine lv_sipush (v := 660) hx hb d_Md_divided_41 (by decide) ?_
    refine lv_iload hx hb d_Md_divided_44 (lv_at hl 9 rfl) ?_
    refine kx_imul (v := 660) hx hb d_Md_divided_46 (by decide) ?_
    refine lv_iload hx hb d_Md_divided_47 (lv_at hl 2 rfl) ?_
    refine kx_iadd (v := 661) hx hb d_Md_divided_49 (by decide) ?_
    refine lv_iconst (v := 1) hx hb d_Md_divided_50 (by decide) ?_
    refine kx_isub (v := 660) hx hb d_Md_divided_51 (by decide) ?_
    refine kx_lald E w 1 rfl (by unfold vp_in; decide) (v := 10) hf.2.2.2.2.2 d_Md_divided_52 ?_
    refine lv_iload hx hb d_Md_divided_53 (lv_at hl 0 rfl) ?_
    refine lv_lshl (v := 1280) hx hb d_Md_divided_55 (by decide) ?_
    refine lv_ldc2 (v := 134217728) hx hb E.1.2.2.2.1 (E.1.2.2.2.2 _ mw_413) d_Md_divided_56 ?_
    refine kx_lcmp (v := (-1)) hx hb d_Md_divided_59 (by decide) ?_
    refine lv_if_ge (tgt := 69) hx hb d_Md_divided_60 (by decide) (fun h => absurd h (by decide)) (fun _ => ?_)
    refine lv_iinc (v := 8) (lv' := [(9, .int 8), (8, .int 0), (7, .int 1), (6, .int 1), (5, .int 0), (0, .ref h0), (1, .int 19), (2, .int 2), (3, .int 19), (4, .int 1)]) hx hb d_Md_divided_63 hl (k := 0) rfl (by decide) (by decide) rfl (fun ls hl => ?_)
    refine lv_goto (tgt := 37) hx hb d_Md_divided_66 (by decide) ?_
    refine lv_aload_n hx hb d_Md_divided_37 rfl (lv_at hl 5 rfl) ?_
    refine kx_get E w zC_Md 0 rfl 12 (by decide) mw_313 rfl d_Md_divided_38 ?_
    refine lv_sipush (v := 660) hx hb d_Md_divided_41 (by decide) ?_
    refine lv_iload hx hb d_Md_divided_44 (lv_at hl 9 rfl) ?_
    refine kx_imul (v := 660) hx hb d_Md_divided_46 (by decide) ?_
    refine lv_iload hx hb d_Md_divided_47 (lv_at hl 2 rfl) ?_
    refine kx_iadd (v := 661) hx hb d_Md_divided_49 (by decide) ?_
    refine lv_iconst (v := 1) hx hb d_Md_divided_50 (by decide) ?_
    refine kx_isub (v := 660) hx hb d_Md_divided_51 (by decide) ?_
    refine kx_lald E w 1 rfl (by unfold vp_in; decide) (v := 10) hf.2.2.2.2.2 d_Md_divided_52 ?_
    refine lv_iload hx hb d_Md_divided_53 (lv_at hl 0 rfl) ?_
    refine lv_lshl (v := 2560) hx hb d_Md_divided_55 (by decide) ?_
    refine lv_ldc2 (v := 134217728) hx hb E.1.2.2.2.1 (E.1.2.2.2.2 _ mw_413) d_Md_divided_56 ?_
    refine kx_lcmp (v := (-1)) hx hb d_Md_divided_59 (by decide) ?_
    refine lv_if_ge (tgt := 69) hx hb d_Md_divided_60 (by decide) (fun h => absurd h (by decide)) (fun _ => ?_)
    refine lv_iinc (v := 9) (lv' := [(9, .int 9), (8, .int 0), (7, .int 1), (6, .int 1), (5, .int 0), (0, .ref h0), (1, .int 19), (2, .int 2), (3, .int 19), (4, .int 1)]) hx hb d_Md_divided_63 hl (k := 0) rfl (by decide) (by decide) rfl (fun ls hl => ?_)
    refine lv_goto (tgt := 37) hx hb d_Md_divided_66 (by decide) ?_
    refine lv_aload_n hx hb d_Md_divided_37 rfl (lv_at hl 5 rfl) ?_
    refine kx_get E w zC_Md 0 rfl 12 (by decide) mw_313 rfl d_Md_divided_38 ?_
    refine lv_sipush (v := 660) hx hb d_Md_divided_41 (by decide) ?_
    refine lv_iload hx hb d_Md_divided_44 (lv_at hl 9 rfl) ?_
    refine kx_imul (v := 660) hx hb d_Md_divided_46 (by decide) ?_
    refine lv_iload hx hb d_Md_divided_47 (lv_at hl 2 rfl) ?_
    refine kx_iadd (v := 661) hx hb d_Md_divided_49 (by decide) ?_
    refine lv_iconst (v := 1) hx hb d_Md_divided_50 (by decide) ?_
    refine kx_isub (v := 660) hx hb d_Md_divided_51 (by decide) ?_
    refine kx_lald E w 1 rfl (by unfold vp_in; decide) (v := 10) hf.2.2.2.2.2 d_Md_divided_52 ?_
    refine lv_iload hx hb d_Md_divided_53 (lv_at hl 0 rfl) ?_
    refine lv_lshl (v := 5120) hx hb d_Md_divided_55 (by decide) ?_
    refine lv_ldc2 (v := 134217728) hx hb E.1.2.2.2.1 (E.1.2.2.2.2 _ mw_413) d_Md_divided_56 ?_
    refine kx_lcmp (v := (-1)) hx hb d_Md_divided_59 (by decide) ?_
    refine lv_if_ge (tgt := 69) hx hb d_Md_divided_60 (by decide) (fun h => absurd h (by decide)) (fun _ => ?_)
    refine lv_iinc (v := 10) (lv' := [(9, .int 10), (8, .int 0), (7, .int 1), (6, .int 1), (5, .int 0), (0, .ref h0), (1, .int 19), (2, .int 2), (3, .int 19), (4, .int 1)]) hx hb d_Md_divided_63 hl (k := 0) rfl (by decide) (by decide) rfl (fun ls hl => ?_)
    refine lv_goto (tgt := 37) hx hb d_Md_divided_66 (by decide) ?_
    refine lv_aload_n hx hb d_Md_divided_37 rfl (lv_at hl 5 rfl) ?_
    refine kx_get E w zC_Md 0 rfl 12 (by decide) mw_313 rfl d_Md_divided_38 ?_
    refine lv_sipush (v := 660) hx hb d_Md_divided_41 (by decide) ?_
    refine lv_iload hx hb d_Md_divided_44 (lv_at hl 9 rfl) ?_
    refine kx_imul (v := 660) hx hb d_Md_divided_46 (by decide) ?_
    refine lv_iload hx hb d_Md_divided_47 (lv_at hl 2 rfl) ?_
    refine kx_iadd (v := 661) hx hb d_Md_divided_49 (by decide) ?_
    refine lv_iconst (v := 1) hx hb d_Md_divided_50 (by decide) ?_
    refine kx_isub (v := 660) hx hb d_Md_divided_51 (by decide) ?_
    refine kx_lald E w 1 rfl (by unfold vp_in; decide) (v := 10) hf.2.2.2.2.2 d_Md_divided_52 ?_
    refine lv_iload hx hb d_Md_divided_53 (lv_at hl 0 rfl) ?_
    refine lv_lshl (v := 10240) hx hb d_Md_divided_55 (by decide) ?_
    refine lv_ldc2 (v := 134217728) hx hb E.1.2.2.2.1 (E.1.2.2.2.2 _ mw_413) d_Md_divided_56 ?_
    refine kx_lcmp (v := (-1)) hx hb d_Md_divided_59 (by decide) ?_
    refine lv_if_ge (tgt := 69) hx hb d_Md_divided_60 (by decide) (fun h => absurd h (by decide)) (fun _ => ?_)
    refine lv_iinc (v := 11) (lv' := [(9, .int 11), (8, .int 0), (7, .int 1), (6, .int 1), (5, .int 0), (0, .ref h0), (1, .int 19), (2, .int 2), (3, .int 19), (4, .int 1)]) hx hb d_Md_divided_63 hl (k := 0) rfl (by decide) (by decide) rfl (fun ls hl => ?_)
    refine lv_goto (tgt := 37) hx hb d_Md_divided_66 (by decide) ?_
    refine lv_aload_n hx hb d_Md_divided_37 rfl (lv_at hl 5 rfl) ?_
    refine kx_get E w zC_Md 0 rfl 12 (by decide) mw_313 rfl d_Md_divided_38 ?_
    refine lv_sipush (v := 660) hx hb d_Md_divided_41 (by decide) ?_
    refine lv_iload hx hb d_Md_divided_44 (lv_at hl 9 rfl) ?_
    refine kx_imul (v := 660) hx hb d_Md_divided_46 (by decide) ?_
    refine lv_iload hx hb d_Md_divided_47 (lv_at hl 2 rfl) ?_
    refine kx_iadd (v := 661) hx hb d_Md_divided_49 (by decide) ?_
    refine lv_iconst (v := 1) hx hb d_Md_divided_50 (by decide) ?_
    refine kx_isub (v := 660) hx hb d_Md_divided_51 (by decide) ?_
    refine kx_lald E w 1 rfl (by unfold vp_in; decide) (v := 10) hf.2.2.2.2.2 d_Md_divided_52 ?_
    refine lv_iload hx hb d_Md_divided_53 (lv_at hl 0 rfl) ?_
    refine lv_lshl (v := 20480) hx hb d_Md_divided_55 (by decide) ?_
    refine lv_ldc2 (v := 134217728) hx hb E.1.2.2.2.1 (E.1.2.2.2.2 _ mw_413) d_Md_divided_56 ?_
    refine kx_lcmp (v := (-1)) hx hb d_Md_divided_59 (by decide) ?_
    refine lv_if_ge (tgt := 69) hx hb d_Md_divided_60 (by decide) (fun h => absurd h (by decide)) (fun _ => ?_)
    refine lv_iinc (v := 12) (lv' := [(9, .int 12), (8, .int 0), (7, .int 1), (6, .int 1), (5, .int 0), (0, .ref h0), (1, .int 19), (2, .int 2), (3, .int 19), (4, .int 1)]) hx hb d_Md_divided_63 hl (k := 0) rfl (by decide) (by decide) rfl (fun ls hl => ?_)
    refine lv_goto (tgt := 37) hx hb d_Md_divided_66 (by decide) ?_
    refine lv_aload_n hx hb d_Md_divided_37 rfl (lv_at hl 5 rfl) ?_
    refine kx_get E w zC_Md 0 rfl 12 (by decide) mw_313 rfl d_Md_divided_38 ?_
    refine lv_sipush (v := 660) hx hb d_Md_divided_41 (by decide) ?_
    refine lv_iload hx hb d_Md_divided_44 (lv_at hl 9 rfl) ?_
    refine kx_imul (v := 660) hx hb d_Md_divided_46 (by decide) ?_
    refine lv_iload hx hb d_Md_divided_47 (lv_at hl 2 rfl) ?_
    refine kx_iadd (v := 661) hx hb d_Md_divided_49 (by decide) ?_
    refine lv_iconst (v := 1) hx hb d_Md_divided_50 (by decide) ?_
    refine kx_isub (v := 660) hx hb d_Md_divided_51 (by decide) ?_
    refine kx_lald E w 1 rfl (by unfold vp_in; decide) (v := 10) hf.2.2.2.2.2 d_Md_divided_52 ?_
    refine lv_iload hx hb d_Md_divided_53 (lv_at hl 0 rfl) ?_
    refine lv_lshl (v := 40960) hx hb d_Md_divided_55 (by decide) ?_
    refine lv_ldc2 (v := 134217728) hx hb E.1.2.2.2.1 (E.1.2.2.2.2 _ mw_413) d_Md_divided_56 ?_
    refine kx_lcmp (v := (-1)) hx hb d_Md_divided_59 (by decide) ?_
    refine lv_if_ge (tgt := 69) hx hb d_Md_divided_60 (by decide) (fun h => absurd h (by decide)) (fun _ => ?_)
    refine lv_iinc (v := 13) (lv' := [(9, .int 13), (8, .int 0), (7, .int 1), (6, .int 1), (5, .int 0), (0, .ref h0), (1, .int 19), (2, .int 2), (3, .int 19), (4, .int 1)]) hx hb d_Md_divided_63 hl (k := 0) rfl (by decide) (by decide) rfl (fun ls hl => ?_)
    refine lv_goto (tgt := 37) hx hb d_Md_divided_66 (by decide) ?_
    refine lv_aload_n hx hb d_Md_divided_37 rfl (lv_at hl 5 rfl) ?_
    refine kx_get E w zC_Md 0 rfl 12 (by decide) mw_313 rfl d_Md_divided_38 ?_
    refine lv_sipush (v := 660) hx hb d_Md_divided_41 (by decide) ?_
    refine lv_iload hx hb d_Md_divided_44 (lv_at hl 9 rfl) ?_
    refine kx_imul (v := 660) hx hb d_Md_divided_46 (by decide) ?_
    refine lv_iload hx hb d_Md_divided_47 (lv_at hl 2 rfl) ?_
    refine kx_iadd (v := 661) hx hb d_Md_divided_49 (by decide) ?_
    refine lv_iconst (v := 1) hx hb d_Md_divided_50 (by decide) ?_
    refine kx_isub (v := 660) hx hb d_Md_divided_51 (by decide) ?_
    refine kx_lald E w 1 rfl (by unfold vp_in; decide) (v := 10) hf.2.2.2.2.2 d_Md_divided_52 ?_
    refine lv_iload hx hb d_Md_divided_53 (lv_at hl 0 rfl) ?_
    refine lv_lshl (v := 81920) hx hb d_Md_divided_55 (by decide) ?_
    refine lv_ldc2 (v := 134217728) hx hb E.1.2.2.2.1 (E.1.2.2.2.2 _ mw_413) d_Md_divided_56 ?_
    refine kx_lcmp (v := (-1)) hx hb d_Md_divided_59 (by decide) ?_
    refine lv_if_ge (tgt := 69) hx hb d_Md_divided_60 (by decide) (fun h => absurd h (by decide)) (fun _ => ?_)
    refine lv_iinc (v := 14) (lv' := [(9, .int 14), (8, .int 0), (7, .int 1), (6, .int 1), (5, .int 0), (0, .ref h0), (1, .int 19), (2, .int 2), (3, .int 19), (4, .int 1)]) hx hb d_Md_divided_63 hl (k := 0) rfl (by decide) (by decide) rfl (fun ls hl => ?_)
    refine lv_goto (tgt := 37) hx hb d_Md_divided_66 (by decide) ?_
    refine lv_aload_n hx hb d_Md_divided_37 rfl (lv_at hl 5 rfl) ?_
    refine kx_get E w zC_Md 0 rfl 12 (by decide) mw_313 rfl d_Md_divided_38 ?_
    refine lv_sipush (v := 660) hx hb d_Md_divided_41 (by decide) ?_
    refine lv_iload hx hb d_Md_divided_44 (lv_at hl 9 rfl) ?_
    refine kx_imul (v := 660) hx hb d_Md_divided_46 (by decide) ?_
    refine lv_iload hx hb d_Md_divided_47 (lv_at hl 2 rfl) ?_
    refine kx_iadd (v := 661) hx hb d_Md_divided_49 (by decide) ?_
    refine lv_iconst (v := 1) hx hb d_Md_divided_50 (by decide) ?_
    refine kx_isub (v := 660) hx hb d_Md_divided_51 (by decide) ?_
    refine kx_lald E w 1 rfl (by unfold vp_in; decide) (v := 10) hf.2.2.2.2.2 d_Md_divided_52 ?_
    refine lv_iload hx hb d_Md_divided_53 (lv_at hl 0 rfl) ?_
    refine lv_lshl (v := 163840) hx hb d_Md_divided_55 (by decide) ?_
    refine lv_ldc2 (v := 134217728) hx hb E.1.2.2.2.1 (E.1.2.2.2.2 _ mw_413) d_Md_divided_56 ?_
    refine kx_lcmp (v := (-1)) hx hb d_Md_divided_59 (by decide) ?_
    refine lv_if_ge (tgt := 69) hx hb d_Md_divided_60 (by decide) (fun h => absurd h (by decide)) (fun _ => ?_)
    refine lv_iinc (v := 15) (lv' := [(9, .int 15), (8, .int 0), (7, .int 1), (6, .int 1), (5, .int 0), (0, .ref h0), (1, .int 19), (2, .int 2), (3, .int 19), (4, .int 1)]) hx hb d_Md_divided_63 hl (k := 0) rfl (by decide) (by decide) rfl (fun ls hl => ?_)
    refine lv_goto (tgt := 37) hx hb d_Md_divided_66 (by decide) ?_
    refine lv_aload_n hx hb d_Md_divided_37 rfl (lv_at hl 5 rfl) ?_
    refine kx_get E w zC_Md 0 rfl 12 (by decide) mw_313 rfl d_Md_divided_38 ?_
    refine lv_sipush (v := 660) hx hb d_Md_divided_41 (by decide) ?_
    refine lv_iload hx hb d_Md_divided_44 (lv_at hl 9 rfl) ?_
    refine kx_imul (v := 660) hx hb d_Md_divided_46 (by decide) ?_
    refine lv_iload hx hb d_Md_divided_47 (lv_at hl 2 rfl) ?_
    refine kx_iadd (v := 661) hx hb d_Md_divided_49 (by decide) ?_
    refine lv_iconst (v := 1) hx hb d_Md_divided_50 (by decide) ?_
    refine kx_isub (v := 660) hx hb d_Md_divided_51 (by decide) ?_
    refine kx_lald E w 1 rfl (by unfold vp_in; decide) (v := 10) hf.2.2.2.2.2 d_Md_divided_52 ?_
    refine lv_iload hx hb d_Md_divided_53 (lv_at hl 0 rfl) ?_
    refine lv_lshl (v := 327680) hx hb d_Md_divided_55 (by decide) ?_
    refine lv_ldc2 (v := 134217728) hx hb E.1.2.2.2.1 (E.1.2.2.2.2 _ mw_413) d_Md_divided_56 ?_
    refine kx_lcmp (v := (-1)) hx hb d_Md_divided_59 (by decide) ?_
    refine lv_if_ge (tgt := 69) hx hb d_Md_divided_60 (by decide) (fun h => absurd h (by decide)) (fun _ => ?_)
    refine lv_iinc (v := 16) (lv' := [(9, .int 16), (8, .int 0), (7, .int 1), (6, .int 1), (5, .int 0), (0, .ref h0), (1, .int 19), (2, .int 2), (3, .int 19), (4, .int 1)]) hx hb d_Md_divided_63 hl (k := 0) rfl (by decide) (by decide) rfl (fun ls hl => ?_)
    refine lv_goto (tgt := 37) hx hb d_Md_divided_66 (by decide) ?_
    refine lv_aload_n hx hb d_Md_divided_37 rfl (lv_at hl 5 rfl) ?_
    refine kx_get E w zC_Md 0 rfl 12 (by decide) mw_313 rfl d_Md_divided_38 ?_
    refine lv_sipush (v := 660) hx hb d_Md_divided_41 (by decide) ?_
    refine lv_iload hx hb d_Md_divided_44 (lv_at hl 9 rfl) ?_
    refine kx_imul (v := 660) hx hb d_Md_divided_46 (by decide) ?_
    refine lv_iload hx hb d_Md_divided_47 (lv_at hl 2 rfl) ?_
    refine kx_iadd (v := 661) hx hb d_Md_divided_49 (by decide) ?_
    refine lv_iconst (v := 1) hx hb d_Md_divided_50 (by decide) ?_
    refine kx_isub (v := 660) hx hb d_Md_divided_51 (by decide) ?_
    refine kx_lald E w 1 rfl (by unfold vp_in; decide) (v := 10) hf.2.2.2.2.2 d_Md_divided_52 ?_
    refine lv_iload hx hb d_Md_divided_53 (lv_at hl 0 rfl) ?_
    refine lv_lshl (v := 655360) hx hb d_Md_divided_55 (by decide) ?_
    refine lv_ldc2 (v := 134217728) hx hb E.1.2.2.2.1 (E.1.2.2.2.2 _ mw_413) d_Md_divided_56 ?_
    refine kx_lcmp (v := (-1)) hx hb d_Md_divided_59 (by decide) ?_
    refine lv_if_ge (tgt := 69) hx hb d_Md_divided_60 (by decide) (fun h => absurd h (by decide)) (fun _ => ?_)
    refine lv_iinc (v := 17) (lv' := [(9, .int 17), (8, .int 0), (7, .int 1), (6, .int 1), (5, .int 0), (0, .ref h0), (1, .int 19), (2, .int 2), (3, .int 19), (4, .int 1)]) hx hb d_Md_divided_63 hl (k := 0) rfl (by decide) (by decide) rfl (fun ls hl => ?_)
    refine lv_goto (tgt := 37) hx hb d_Md_divided_66 (by decide) ?_
    refine lv_aload_n hx hb d_Md_divided_37 rfl (lv_at hl 5 rfl) ?_
    refine kx_get E w zC_Md 0 rfl 12 (by decide) mw_313 rfl d_Md_divided_38 ?_
    refine lv_sipush (v := 660) hx hb d_Md_divided_41 (by decide) ?_
    refine lv_iload hx hb d_Md_divided_44 (lv_at hl 9 rfl) ?_
    refine kx_imul (v := 660) hx hb d_Md_divided_46 (by decide) ?_
    refine lv_iload hx hb d_Md_divided_47 (lv_at hl 2 rfl) ?_
    refine kx_iadd (v := 661) hx hb d_Md_divided_49 (by decide) ?_
    refine lv_iconst (v := 1) hx hb d_Md_divided_50 (by decide) ?_
    refine kx_isub (v := 660) hx hb d_Md_divided_51 (by decide) ?_
    refine kx_lald E w 1 rfl (by unfold vp_in; decide) (v := 10) hf.2.2.2.2.2 d_Md_divided_52 ?_
    refine lv_iload hx hb d_Md_divided_53 (lv_at hl 0 rfl) ?_
    refine lv_lshl (v := 1310720) hx hb d_Md_divided_55 (by decide) ?_
    refine lv_ldc2 (v := 134217728) hx hb E.1.2.2.2.1 (E.1.2.2.2.2 _ mw_413) d_Md_divided_56 ?_
    refine kx_lcmp (v := (-1)) hx hb d_Md_divided_59 (by decide) ?_
    refine lv_if_ge (tgt := 69) hx hb d_Md_divided_60 (by decide) (fun h => absurd h (by decide)) (fun _ => ?_)
    refine lv_iinc (v := 18) (lv' := [(9, .int 18), (8, .int 0), (7, .int 1), (6, .int 1), (5, .int 0), (0, .ref h0), (1, .int 19), (2, .int 2), (3, .int 19), (4, .int 1)]) hx hb d_Md_divided_63 hl (k := 0) rfl (by decide) (by decide) rfl (fun ls hl => ?_)
    refine lv_goto (tgt := 37) hx hb d_Md_divided_66 (by decide) ?_
    refine lv_aload_n hx hb d_Md_divided_37 rfl (lv_at hl 5 rfl) ?_
    refine kx_get E w zC_Md 0 rfl 12 (by decide) mw_313 rfl d_Md_divided_38 ?_
    refine lv_sipush (v := 660) hx hb d_Md_divided_41 (by decide) ?_
    refine lv_iload hx hb d_Md_divided_44 (lv_at hl 9 rfl) ?_
    refine kx_imul (v := 660) hx hb d_Md_divided_46 (by decide) ?_
    refine lv_iload hx hb d_Md_divided_47 (lv_at hl 2 rfl) ?_
    refine kx_iadd (v := 661) hx hb d_Md_divided_49 (by decide) ?_
    refine lv_iconst (v := 1) hx hb d_Md_divided_50 (by decide) ?_
    refine kx_isub (v := 660) hx hb d_Md_divided_51 (by decide) ?_
    refine kx_lald E w 1 rfl (by unfold vp_in; decide) (v := 10) hf.2.2.2.2.2 d_Md_divided_52 ?_
    refine lv_iload hx hb d_Md_divided_53 (lv_at hl 0 rfl) ?_
    refine lv_lshl (v := 2621440) hx hb d_Md_divided_55 (by decide) ?_
    refine lv_ldc2 (v := 134217728) hx hb E.1.2.2.2.1 (E.1.2.2.2.2 _ mw_413) d_Md_divided_56 ?_
    refine kx_lcmp (v := (-1)) hx hb d_Md_divided_59 (by decide) ?_
    refine lv_if_ge (tgt := 69) hx hb d_Md_divided_60 (by decide) (fun h => absurd h (by decide)) (fun _ => ?_)
    refine lv_iinc (v := 19) (lv' := [(9, .int 19), (8, .int 0), (7, .int 1), (6, .int 1), (5, .int 0), (0, .ref h0), (1, .int 19), (2, .int 2), (3, .int 19), (4, .int 1)]) hx hb d_Md_divided_63 hl (k := 0) rfl (by decide) (by decide) rfl (fun ls hl => ?_)
    refine lv_goto (tgt := 37) hx hb d_Md_divided_66 (by decide) ?_
    refine lv_aload_n hx hb d_Md_divided_37 rfl (lv_at hl 5 rfl) ?_
    refine kx_get E w zC_Md 0 rfl 12 (by decide) mw_313 rfl d_Md_divided_38 ?_
    refine lv_sipush (v := 660) hx hb d_Md_divided_41 (by decide) ?_
    refine lv_iload hx hb d_Md_divided_44 (lv_at hl 9 rfl) ?_
    refine kx_imul (v := 660) hx hb d_Md_divided_46 (by decide) ?_
    refine lv_iload hx hb d_Md_divided_47 (lv_at hl 2 rfl) ?_
    refine kx_iadd (v := 661) hx hb d_Md_divided_49 (by decide) ?_
    refine lv_iconst (v := 1) hx hb d_Md_divided_50 (by decide) ?_
    refine kx_isub (v := 660) hx hb d_Md_divided_51 (by decide) ?_
    refine kx_lald E w 1 rfl (by unfold vp_in; decide) (v := 10) hf.2.2.2.2.2 d_Md_divided_52 ?_
    refine lv_iload hx hb d_Md_divided_53 (lv_at hl 0 rfl) ?_
    refine lv_lshl (v := 5242880) hx hb d_Md_divided_55 (by decide) ?_
    refine lv_ldc2 (v := 134217728) hx hb E.1.2.2.2.1 (E.1.2.2.2.2 _ mw_413) d_Md_divided_56 ?_
    refine kx_lcmp (v := (-1)) hx hb d_Md_divided_59 (by decide) ?_
    refine lv_if_ge (tgt := 69) hx hb d_Md_divided_60 (by decide) (fun h => absurd h (by decide)) (fun _ => ?_)
    refine lv_iinc (v := 20) (lv' := [(9, .int 20), (8, .int 0), (7, .int 1), (6, .int 1), (5, .int 0), (0, .ref h0), (1, .int 19), (2, .int 2), (3, .int 19), (4, .int 1)]) hx hb d_Md_divided_63 hl (k := 0) rfl (by decide) (by decide) rfl (fun ls hl => ?_)
    refine lv_goto (tgt := 37) hx hb d_Md_divided_66 (by decide) ?_
    refine lv_aload_n hx hb d_Md_divided_37 rfl (lv_at hl 5 rfl) ?_
    refine kx_get E w zC_Md 0 rfl 12 (by decide) mw_313 rfl d_Md_divided_38 ?_
    refine lv_sipush (v := 660) hx hb d_Md_divided_41 (by decide) ?_
    refine lv_iload hx hb d_Md_divided_44 (lv_at hl 9 rfl) ?_
    refine kx_imul (v := 660) hx hb d_Md_divided_46 (by decide) ?_
    refine lv_iload hx hb d_Md_divided_47 (lv_at hl 2 rfl) ?_
    refine kx_iadd (v := 661) hx hb d_Md_divided_49 (by decide) ?_
    refine lv_iconst (v := 1) hx hb d_Md_divided_50 (by decide) ?_
    refine kx_isub (v := 660) hx hb d_Md_divided_51 (by decide) ?_
    refine kx_lald E w 1 rfl (by unfold vp_in; decide) (v := 10) hf.2.2.2.2.2 d_Md_divided_52 ?_
    refine lv_iload hx hb d_Md_divided_53 (lv_at hl 0 rfl) ?_
    refine lv_lshl (v := 10485760) hx hb d_Md_divided_55 (by decide) ?_
    refine lv_ldc2 (v := 134217728) hx hb E.1.2.2.2.1 (E.1.2.2.2.2 _ mw_413) d_Md_divided_56 ?_
    refine kx_lcmp (v := (-1)) hx hb d_Md_divided_59 (by decide) ?_
    refine lv_if_ge (tgt := 69) hx hb d_Md_divided_60 (by decide) (fun h => absurd h (by decide)) (fun _ => ?_)
    refine lv_iinc (v := 21) (lv' := [(9, .int 21), (8, .int 0), (7, .int 1), (6, .int 1), (5, .int 0), (0, .ref h0), (1, .int 19), (2, .int 2), (3, .int 19), (4, .int 1)]) hx hb d_Md_divided_63 hl (k := 0) rfl (by decide) (by decide) rfl (fun ls hl => ?_)
    refine lv_goto (tgt := 37) hx hb d_Md_divided_66 (by decide) ?_
    refine lv_aload_n hx hb d_Md_divided_37 rfl (lv_at hl 5 rfl) ?_
    refine kx_get E w zC_Md 0 rfl 12 (by decide) mw_313 rfl d_Md_divided_38 ?_
    refine lv_sipush (v := 660) hx hb d_Md_divided_41 (by decide) ?_
    refine lv_iload hx hb d_Md_divided_44 (lv_at hl 9 rfl) ?_
    refine kx_imul (v := 660) hx hb d_Md_divided_46 (by decide) ?_
    refine lv_iload hx hb d_Md_divided_47 (lv_at hl 2 rfl) ?_
    refine kx_iadd (v := 661) hx hb d_Md_divided_49 (by decide) ?_
    refine lv_iconst (v := 1) hx hb d_Md_divided_50 (by decide) ?_
    refine kx_isub (v := 660) hx hb d_Md_divided_51 (by decide) ?_
    refine kx_lald E w 1 rfl (by unfold vp_in; decide) (v := 10) hf.2.2.2.2.2 d_Md_divided_52 ?_
    refine lv_iload hx hb d_Md_divided_53 (lv_at hl 0 rfl) ?_
    refine lv_lshl (v := 20971520) hx hb d_Md_divided_55 (by decide) ?_
    refine lv_ldc2 (v := 134217728) hx hb E.1.2.2.2.1 (E.1.2.2.2.2 _ mw_413) d_Md_divided_56 ?_
    refine kx_lcmp (v := (-1)) hx hb d_Md_divided_59 (by decide) ?_
    refine lv_if_ge (tgt := 69) hx hb d_Md_divided_60 (by decide) (fun h => absurd h (by decide)) (fun _ => ?_)
    refine lv_iinc (v := 22) (lv' := [(9, .int 22), (8, .int 0), (7, .int 1), (6, .int 1), (5, .int 0), (0, .ref h0), (1, .int 19), (2, .int 2), (3, .int 19), (4, .int 1)]) hx hb d_Md_divided_63 hl (k := 0) rfl (by decide) (by decide) rfl (fun ls hl => ?_)
    refine lv_goto (tgt := 37) hx hb d_Md_divided_66 (by decide) ?_
    refine lv_aload_n hx hb d_Md_divided_37 rfl (lv_at hl 5 rfl) ?_
    refine kx_get E w zC_Md 0 rfl 12 (by decide) mw_313 rfl d_Md_divided_38 ?_
    refine lv_sipush (v := 660) hx hb d_Md_divided_41 (by decide) ?_
    refine lv_iload hx hb d_Md_divided_44 (lv_at hl 9 rfl) ?_
    refine kx_imul (v := 660) hx hb d_Md_divided_46 (by decide) ?_
    refine lv_iload hx hb d_Md_divided_47 (lv_at hl 2 rfl) ?_
    refine kx_iadd (v := 661) hx hb d_Md_divided_49 (by decide) ?_
    refine lv_iconst (v := 1) hx hb d_Md_divided_50 (by decide) ?_
    refine kx_isub (v := 660) hx hb d_Md_divided_51 (by decide) ?_
    refine kx_lald E w 1 rfl (by unfold vp_in; decide) (v := 10) hf.2.2.2.2.2 d_Md_divided_52 ?_
    refine lv_iload hx hb d_Md_divided_53 (lv_at hl 0 rfl) ?_
    refine lv_lshl (v := 41943040) hx hb d_Md_divided_55 (by decide) ?_
    refine lv_ldc2 (v := 134217728) hx hb E.1.2.2.2.1 (E.1.2.2.2.2 _ mw_413) d_Md_divided_56 ?_
    refine kx_lcmp (v := (-1)) hx hb d_Md_divided_59 (by decide) ?_
    refine lv_if_ge (tgt := 69) hx hb d_Md_divided_60 (by decide) (fun h => absurd h (by decide)) (fun _ => ?_)
    refine lv_iinc (v := 23) (lv' := [(9, .int 23), (8, .int 0), (7, .int 1), (6, .int 1), (5, .int 0), (0, .ref h0), (1, .int 19), (2, .int 2), (3, .int 19), (4, .int 1)]) hx hb d_Md_divided_63 hl (k := 0) rfl (by decide) (by decide) rfl (fun ls hl => ?_)
    refine lv_goto (tgt := 37) hx hb d_Md_divided_66 (by decide) ?_
    refine lv_aload_n hx hb d_Md_divided_37 rfl (lv_at hl 5 rfl) ?_
    refine kx_get E w zC_Md 0 rfl 12 (by decide) mw_313 rfl d_Md_divided_38 ?_
    refine lv_sipush (v := 660) hx hb d_Md_divided_41 (by decide) ?_
    refine lv_iload hx hb d_Md_divided_44 (lv_at hl 9 rfl) ?_
    refine kx_imul (v := 660) hx hb d_Md_divided_46 (by decide) ?_
    refine lv_iload hx hb d_Md_divided_47 (lv_at hl 2 rfl) ?_
    refine kx_iadd (v := 661) hx hb d_Md_divided_49 (by decide) ?_
    refine lv_iconst (v := 1) hx hb d_Md_divided_50 (by decide) ?_
    refine kx_isub (v := 660) hx hb d_Md_divided_51 (by decide) ?_
    refine kx_lald E w 1 rfl (by unfold vp_in; decide) (v := 10) hf.2.2.2.2.2 d_Md_divided_52 ?_
    refine lv_iload hx hb d_Md_divided_53 (lv_at hl 0 rfl) ?_
    refine lv_lshl (v := 83886080) hx hb d_Md_divided_55 (by decide) ?_
    refine lv_ldc2 (v := 134217728) hx hb E.1.2.2.2.1 (E.1.2.2.2.2 _ mw_413) d_Md_divided_56 ?_
    refine kx_lcmp (v := (-1)) hx hb d_Md_divided_59 (by decide) ?_
    refine lv_if_ge (tgt := 69) hx hb d_Md_divided_60 (by decide) (fun h => absurd h (by decide)) (fun _ => ?_)
    refine lv_iinc (v := 24) (lv' := [(9, .int 24), (8, .int 0), (7, .int 1), (6, .int 1), (5, .int 0), (0, .ref h0), (1, .int 19), (2, .int 2), (3, .int 19), (4, .int 1)]) hx hb d_Md_divided_63 hl (k := 0) rfl (by decide) (by decide) rfl (fun ls hl => ?_)
    refine lv_goto (tgt := 37) hx hb d_Md_divided_66 (by decide) ?_
    refine lv_aload_n hx hb d_Md_divided_37 rfl (lv_at hl 5 rfl) ?_
    refine kx_get E w zC_Md 0 rfl 12 (by decide) mw_313 rfl d_Md_divided_38 ?_
    refine lv_sipush (v := 660) hx hb d_Md_divided_41 (by decide) ?_
    refine lv_iload hx hb d_Md_divided_44 (lv_at hl 9 rfl) ?_
    refine kx_imul (v := 660) hx hb d_Md_divided_46 (by decide) ?_
    refine lv_iload hx hb d_Md_divided_47 (lv_at hl 2 rfl) ?_
    refine kx_iadd (v := 661) hx hb d_Md_divided_49 (by decide) ?_
    refine lv_iconst (v := 1) hx hb d_Md_divided_50 (by decide) ?_
    refine kx_isub (v := 660) hx hb d_Md_divided_51 (by decide) ?_
    refine kx_lald E w 1 rfl (by unfold vp_in; decide) (v := 10) hf.2.2.2.2.2 d_Md_divided_52 ?_
    refine lv_iload hx hb d_Md_divided_53 (lv_at hl 0 rfl) ?_
    refine lv_lshl (v := 167772160) hx hb d_Md_divided_55 (by decide) ?_
    refine lv_ldc2 (v := 134217728) hx hb E.1.2.2.2.1 (E.1.2.2.2.2 _ mw_413) d_Md_divided_56 ?_
    refine kx_lcmp (v := 1) hx hb d_Md_divided_59 (by decide) ?_
    refine lv_if_ge (tgt := 69) hx hb d_Md_divided_60 (by decide) (fun _ => ?_) (fun h => absurd (by decide) h)
    refine lv_iconst (v := 0) hx hb d_Md_divided_69 (by decide) ?_
    refine lv_istore (lv' := [(10, .int 0), (9, .int 24), (8, .int 0), (7, .int 1), (6, .int 1), (5, .int 0), (0, .ref h0), (1, .int 19), (2, .int 2), (3, .int 19), (4, .int 1)]) hx hb d_Md_divided_70 hl (by decide) rfl (fun ls hl => ?_)
    refine lv_iload hx hb d_Md_divided_72 (lv_at hl 0 rfl) ?_
    refine lv_iload hx hb d_Md_divided_74 (lv_at hl 3 rfl) ?_
    refine lv_icmp_ge (tgt := 124) hx hb d_Md_divided_76 (by decide) (fun h => absurd h (by decide)) (fun _ => ?_)
    refine lv_aload_n hx hb d_Md_divided_79 rfl (lv_at hl 6 rfl) ?_
    refine kx_get E w zC_Md 0 rfl 16 (by decide) mw_317 rfl d_Md_divided_80 ?_
    refine lv_iload hx hb d_Md_divided_83 (lv_at hl 0 rfl) ?_
    refine lv_aload_n hx hb d_Md_divided_85 rfl (lv_at hl 6 rfl) ?_
    refine lv_iload hx hb d_Md_divided_86 (lv_at hl 10 rfl) ?_
    refine lv_iload hx hb d_Md_divided_88 (lv_at hl 0 rfl) ?_
    refine kx_l E w (wc := [(h0, .inr (12, (mF r t0 t1 t2 t3 t4 t5 t6 t7 t8 t9))), ((r 12), .inl (a 1, 81840, .inr (.inl f0))), ((r 13), .inl (a 0, 124, .inl f1))]) (wr := [((r 14), .inl (a 0, 124, .inl f2)), ((r 15), .inl (a 1, 1400, .inr (.inl f3))), ((r 16), .inl (a 1, 700, .inr (.inl f4))), ((r 17), .inl (a 1, 1400, .inr (.inl f5)))]) [0, 1, 2] [3, 4, 5, 6] rfl rfl ⟨rfl, rfl, by decide⟩ (kx_rV E w hl.1 (As := [.int 1, .int 0]) (wc := [(h0, .inr (12, (mF r t0 t1 t2 t3 t4 t5 t6 t7 t8 t9))), ((r 12), .inl (a 1, 81840, .inr (.inl f0))), ((r 13), .inl (a 0, 124, .inl f1))]) (c_Md_digit_1_1_0 l D a h0 r t0 t1 t2 t3 t4 t5 t6 t7 t8 t9 f0 f1 10 ⟨hf.2.2.2.1, hf.2.2.2.2.2⟩ H.size) gc_57 gv_Md_digit (kRecv E w 12 0 rfl rfl) [0, 1, 2] rfl rfl rfl rfl rfl ⟨(Nat.le_of_ble_eq_true rfl), (Nat.le_of_ble_eq_true rfl)⟩ rfl (Nat.le_of_ble_eq_true rfl) d_Md_divided_90 ⟨(Nat.le_of_ble_eq_true rfl), (Nat.le_of_ble_eq_true rfl)⟩) (fun rr u H locs hu w => ?_)
    obtain ⟨hrr, rfl⟩ := hu
    rw [hrr]
    clear hrr
    have w : kW D A s [((r 14), .inl (a 0, 124, .inl f2)), ((r 15), .inl (a 1, 1400, .inr (.inl f3))), ((r 16), .inl (a 1, 700, .inr (.inl f4))), ((r 17), .inl (a 1, 1400, .inr (.inl f5))), (h0, .inr (12, (mF r t0 t1 t2 t3 t4 t5 t6 t7 t8 t9))), ((r 12), .inl (a 1, 81840, .inr (.inl f0))), ((r 13), .inl (a 0, 124, .inl f1))] H locs := w
    refine lv_iload hx hb d_Md_divided_93 (lv_at hl 1 rfl) ?_
    refine lv_lshl (v := 167772160) hx hb d_Md_divided_95 (by decide) ?_
    refine lv_aload_n hx hb d_Md_divided_96 rfl (lv_at hl 6 rfl) ?_
    refine lv_iload hx hb d_Md_divided_97 (lv_at hl 10 rfl) ?_
    refine lv_iload hx hb d_Md_divided_99 (lv_at hl 0 rfl) ?_
    refine lv_iconst (v := 1) hx hb d_Md_divided_101 (by decide) ?_
    refine kx_isub (v := (-1)) hx hb d_Md_divided_102 (by decide) ?_
    refine kx_l E w (wc := [(h0, .inr (12, (mF r t0 t1 t2 t3 t4 t5 t6 t7 t8 t9))), ((r 12), .inl (a 1, 81840, .inr (.inl f0))), ((r 13), .inl (a 0, 124, .inl f1))]) (wr := [((r 14), .inl (a 0, 124, .inl f2)), ((r 15), .inl (a 1, 1400, .inr (.inl f3))), ((r 16), .inl (a 1, 700, .inr (.inl f4))), ((r 17), .inl (a 1, 1400, .inr (.inl f5)))]) [4, 5, 6] [0, 1, 2, 3] rfl rfl ⟨rfl, rfl, by decide⟩ (kx_rV E w hl.1 (As := [.int 1, .int (-1)]) (wc := [(h0, .inr (12, (mF r t0 t1 t2 t3 t4 t5 t6 t7 t8 t9))), ((r 12), .inl (a 1, 81840, .inr (.inl f0))), ((r 13), .inl (a 0, 124, .inl f1))]) (c_Md_digit_1_1_m1 l D a h0 r t0 t1 t2 t3 t4 t5 t6 t7 t8 t9 f0 f1 hf.2.2.2.1 H.size) gc_57 gv_Md_digit (kRecv E w 12 4 rfl rfl) [4, 5, 6] rfl rfl rfl rfl rfl ⟨(Nat.le_of_ble_eq_true rfl), (Nat.le_of_ble_eq_true rfl)⟩ rfl (Nat.le_of_ble_eq_true rfl) d_Md_divided_103 ⟨(Nat.le_of_ble_eq_true rfl), (Nat.le_of_ble_eq_true rfl)⟩) (fun rr u H locs hu w => ?_)
    obtain ⟨rfl, rfl⟩ := hu
    have w : kW D A s [((r 14), .inl (a 0, 124, .inl f2)), ((r 15), .inl (a 1, 1400, .inr (.inl f3))), ((r 16), .inl (a 1, 700, .inr (.inl f4))), ((r 17), .inl (a 1, 1400, .inr (.inl f5))), (h0, .inr (12, (mF r t0 t1 t2 t3 t4 t5 t6 t7 t8 t9))), ((r 12), .inl (a 1, 81840, .inr (.inl f0))), ((r 13), .inl (a 0, 124, .inl f1))] H locs := w
    refine lv_bipush (v := 28) hx hb d_Md_divided_106 (by decide) ?_
    refine lv_iload hx hb d_Md_divided_108 (lv_at hl 1 rfl) ?_
    refine kx_isub (v := 4) hx hb d_Md_divided_110 (by decide) ?_
    refine lv_lshr (v := 0) hx hb d_Md_divided_111 (by decide) ?_
    refine kx_lor (v := 167772160) hx hb d_Md_divided_112 (by decide) ?_
    refine lv_ldc2 (v := 268435455) hx hb E.1.2.2.2.1 (E.1.2.2.2.2 _ mw_404) d_Md_divided_113 ?_
    refine kx_land (v := 167772160) hx hb d_Md_divided_116 (by decide) ?_
    refine kx_last E w 2 rfl (by unfold vp_in; decide) 0 (by decide) d_Md_divided_117 (ws' := [((r 14), .inl (a 0, 124, .inl f2)), ((r 15), .inl (a 1, 1400, .inr (.inl f3))), ((r 16), .inl (a 1, 700, .inr (.inl (vp_updL f4 0 167772160)))), ((r 17), .inl (a 1, 1400, .inr (.inl f5))), (h0, .inr (12, (mF r t0 t1 t2 t3 t4 t5 t6 t7 t8 t9))), ((r 12), .inl (a 1, 81840, .inr (.inl f0))), ((r 13), .inl (a 0, 124, .inl f1))]) rfl (fun H locs w => ?_)
    refine lv_iinc (v := 1) (lv' := [(10, .int 1), (9, .int 24), (8, .int 0), (7, .int 1), (6, .int 1), (5, .int 0), (0, .ref h0), (1, .int 19), (2, .int 2), (3, .int 19), (4, .int 1)]) hx hb d_Md_divided_118 hl (k := 0) rfl (by decide) (by decide) rfl (fun ls hl => ?_)
    refine lv_goto (tgt := 72) hx hb d_Md_divided_121 (by decide) ?_
    refine lv_iload hx hb d_Md_divided_72 (lv_at hl 0 rfl) ?_
    refine lv_iload hx hb d_Md_divided_74 (lv_at hl 3 rfl) ?_
    refine lv_icmp_ge (tgt := 124) hx hb d_Md_divided_76 (by decide) (fun _ => ?_) (fun h => absurd (by decide) h)
    refine lv_iconst (v := 0) hx hb d_Md_divided_124 (by decide) ?_
    refine lv_istore (lv' := [(10, .int 0), (9, .int 24), (8, .int 0), (7, .int 1), (6, .int 1), (5, .int 0), (0, .ref h0), (1, .int 19), (2, .int 2), (3, .int 19), (4, .int 1)]) hx hb d_Md_divided_125 hl (by decide) rfl (fun ls hl => ?_)
    refine lv_iload hx hb d_Md_divided_127 (lv_at hl 0 rfl) ?_
    refine lv_iload hx hb d_Md_divided_129 (lv_at hl 2 rfl) ?_
    refine lv_icmp_gt (tgt := 177) hx hb d_Md_divided_131 (by decide) (fun h => absurd h (by decide)) (fun _ => ?_)
    refine lv_aload_n hx hb d_Md_divided_134 rfl (lv_at hl 6 rfl) ?_
    refine kx_get E w zC_Md 4 rfl 17 (by decide) mw_318 rfl d_Md_divided_135 ?_
    refine lv_iload hx hb d_Md_divided_138 (lv_at hl 0 rfl) ?_
    refine lv_aload_n hx hb d_Md_divided_140 rfl (lv_at hl 6 rfl) ?_
    refine lv_iload_n hx hb d_Md_divided_141 rfl (lv_at hl 9 rfl) ?_
    refine lv_iload hx hb d_Md_divided_142 (lv_at hl 0 rfl) ?_
    refine kx_l E w (wc := [(h0, .inr (12, (mF r t0 t1 t2 t3 t4 t5 t6 t7 t8 t9))), ((r 12), .inl (a 1, 81840, .inr (.inl f0))), ((r 13), .inl (a 0, 124, .inl f1))]) (wr := [((r 14), .inl (a 0, 124, .inl f2)), ((r 15), .inl (a 1, 1400, .inr (.inl f3))), ((r 16), .inl (a 1, 700, .inr (.inl (vp_updL f4 0 167772160)))), ((r 17), .inl (a 1, 1400, .inr (.inl f5)))]) [4, 5, 6] [0, 1, 2, 3] rfl rfl ⟨rfl, rfl, by decide⟩ (kx_rV E w hl.1 (As := [.int 19, .int 0]) (wc := [(h0, .inr (12, (mF r t0 t1 t2 t3 t4 t5 t6 t7 t8 t9))), ((r 12), .inl (a 1, 81840, .inr (.inl f0))), ((r 13), .inl (a 0, 124, .inl f1))]) (c_Md_digit_19_0_0 l D a h0 r t0 t1 t2 t3 t4 t5 t6 t7 t8 t9 f0 f1 hf.1 H.size) gc_57 gv_Md_digit (kRecv E w 12 4 rfl rfl) [4, 5, 6] rfl rfl rfl rfl rfl ⟨(Nat.le_of_ble_eq_true rfl), (Nat.le_of_ble_eq_true rfl)⟩ rfl (Nat.le_of_ble_eq_true rfl) d_Md_divided_144 ⟨(Nat.le_of_ble_eq_true rfl), (Nat.le_of_ble_eq_true rfl)⟩) (fun rr u H locs hu w => ?_)
    obtain ⟨rfl, rfl⟩ := hu
    have w : kW D A s [((r 14), .inl (a 0, 124, .inl f2)), ((r 15), .inl (a 1, 1400, .inr (.inl f3))), ((r 16), .inl (a 1, 700, .inr (.inl (vp_updL f4 0 167772160)))), ((r 17), .inl (a 1, 1400, .inr (.inl f5))), (h0, .inr (12, (mF r t0 t1 t2 t3 t4 t5 t6 t7 t8 t9))), ((r 12), .inl (a 1, 81840, .inr (.inl f0))), ((r 13), .inl (a 0, 124, .inl f1))] H locs := w
    refine lv_iload hx hb d_Md_divided_147 (lv_at hl 1 rfl) ?_
    refine lv_lshl (v := 0) hx hb d_Md_divided_149 (by decide) ?_
    refine lv_aload_n hx hb d_Md_divided_150 rfl (lv_at hl 6 rfl) ?_
    refine lv_iload_n hx hb d_Md_divided_151 rfl (lv_at hl 9 rfl) ?_
    refine lv_iload hx hb d_Md_divided_152 (lv_at hl 0 rfl) ?_
    refine lv_iconst (v := 1) hx hb d_Md_divided_154 (by decide) ?_
    refine kx_isub (v := (-1)) hx hb d_Md_divided_155 (by decide) ?_
    refine kx_l E w (wc := [(h0, .inr (12, (mF r t0 t1 t2 t3 t4 t5 t6 t7 t8 t9))), ((r 12), .inl (a 1, 81840, .inr (.inl f0))), ((r 13), .inl (a 0, 124, .inl f1))]) (wr := [((r 14), .inl (a 0, 124, .inl f2)), ((r 15), .inl (a 1, 1400, .inr (.inl f3))), ((r 16), .inl (a 1, 700, .inr (.inl (vp_updL f4 0 167772160)))), ((r 17), .inl (a 1, 1400, .inr (.inl f5)))]) [4, 5, 6] [0, 1, 2, 3] rfl rfl ⟨rfl, rfl, by decide⟩ (kx_rV E w hl.1 (As := [.int 19, .int (-1)]) (wc := [(h0, .inr (12, (mF r t0 t1 t2 t3 t4 t5 t6 t7 t8 t9))), ((r 12), .inl (a 1, 81840, .inr (.inl f0))), ((r 13), .inl (a 0, 124, .inl f1))]) (c_Md_digit_19_0_m1 l D a h0 r t0 t1 t2 t3 t4 t5 t6 t7 t8 t9 f0 f1 hf.1 H.size) gc_57 gv_Md_digit (kRecv E w 12 4 rfl rfl) [4, 5, 6] rfl rfl rfl rfl rfl ⟨(Nat.le_of_ble_eq_true rfl), (Nat.le_of_ble_eq_true rfl)⟩ rfl (Nat.le_of_ble_eq_true rfl) d_Md_divided_156 ⟨(Nat.le_of_ble_eq_true rfl), (Nat.le_of_ble_eq_true rfl)⟩) (fun rr u H locs hu w => ?_)
    obtain ⟨rfl, rfl⟩ := hu
    have w : kW D A s [((r 14), .inl (a 0, 124, .inl f2)), ((r 15), .inl (a 1, 1400, .inr (.inl f3))), ((r 16), .inl (a 1, 700, .inr (.inl (vp_updL f4 0 167772160)))), ((r 17), .inl (a 1, 1400, .inr (.inl f5))), (h0, .inr (12, (mF r t0 t1 t2 t3 t4 t5 t6 t7 t8 t9))), ((r 12), .inl (a 1, 81840, .inr (.inl f0))), ((r 13), .inl (a 0, 124, .inl f1))] H locs := w
    refine lv_bipush (v := 28) hx hb d_Md_divided_159 (by decide) ?_
    refine lv_iload hx hb d_Md_divided_161 (lv_at hl 1 rfl) ?_
    refine kx_isub (v := 4) hx hb d_Md_divided_163 (by decide) ?_
    refine lv_lshr (v := 0) hx hb d_Md_divided_164 (by decide) ?_
    refine kx_lor (v := 0) hx hb d_Md_divided_165 (by decide) ?_
    refine lv_ldc2 (v := 268435455) hx hb E.1.2.2.2.1 (E.1.2.2.2.2 _ mw_404) d_Md_divided_166 ?_
    refine kx_land (v := 0) hx hb d_Md_divided_169 (by decide) ?_
    refine kx_last E w 3 rfl (by unfold vp_in; decide) 0 (by decide) d_Md_divided_170 (ws' := [((r 14), .inl (a 0, 124, .inl f2)), ((r 15), .inl (a 1, 1400, .inr (.inl f3))), ((r 16), .inl (a 1, 700, .inr (.inl (vp_updL f4 0 167772160)))), ((r 17), .inl (a 1, 1400, .inr (.inl (vp_updL f5 0 0)))), (h0, .inr (12, (mF r t0 t1 t2 t3 t4 t5 t6 t7 t8 t9))), ((r 12), .inl (a 1, 81840, .inr (.inl f0))), ((r 13), .inl (a 0, 124, .inl f1))]) rfl (fun H locs w => ?_)
    refine lv_iinc (v := 1) (lv' := [(10, .int 1), (9, .int 24), (8, .int 0), (7, .int 1), (6, .int 1), (5, .int 0), (0, .ref h0), (1, .int 19), (2, .int 2), (3, .int 19), (4, .int 1)]) hx hb d_Md_divided_171 hl (k := 0) rfl (by decide) (by decide) rfl (fun ls hl => ?_)
    refine lv_goto (tgt := 127) hx hb d_Md_divided_174 (by decide) ?_
    refine lv_iload hx hb d_Md_divided_127 (lv_at hl 0 rfl) ?_
    refine lv_iload hx hb d_Md_divided_129 (lv_at hl 2 rfl) ?_
    refine lv_icmp_gt (tgt := 177) hx hb d_Md_divided_131 (by decide) (fun _ => ?_) (fun h => absurd (by decide) h)
    refine lv_iload hx hb d_Md_divided_177 (lv_at hl 2 rfl) ?_
    refine lv_iload hx hb d_Md_divided_179 (lv_at hl 3 rfl) ?_
    refine kx_isub (v := (-1)) hx hb d_Md_divided_181 (by decide) ?_
    refine lv_istore (lv' := [(10, .int (-1)), (9, .int 24), (8, .int 0), (7, .int 1), (6, .int 1), (5, .int 0), (0, .ref h0), (1, .int 19), (2, .int 2), (3, .int 19), (4, .int 1)]) hx hb d_Md_divided_182 hl (by decide) rfl (fun ls hl => ?_)
    refine lv_iload hx hb d_Md_divided_184 (lv_at hl 0 rfl) ?_
    refine lv_istore (lv' := [(11, .int (-1)), (10, .int (-1)), (9, .int 24), (8, .int 0), (7, .int 1), (6, .int 1), (5, .int 0), (0, .ref h0), (1, .int 19), (2, .int 2), (3, .int 19), (4, .int 1)]) hx hb d_Md_divided_186 hl (by decide) rfl (fun ls hl => ?_)
    refine lv_iload hx hb d_Md_divided_188 (lv_at hl 0 rfl) ?_
    refine lv_if_lt (tgt := 456) hx hb d_Md_divided_190 (by decide) (fun _ => ?_) (fun h => absurd (by decide) h)
    refine lv_aload_n hx hb d_Md_divided_456 rfl (lv_at hl 7 rfl) ?_
    refine lv_iload_n hx hb d_Md_divided_457 rfl (lv_at hl 8 rfl) ?_
    refine lv_iload hx hb d_Md_divided_458 (lv_at hl 1 rfl) ?_
    refine lv_if_ge (tgt := 467) hx hb d_Md_divided_460 (by decide) (fun h => absurd h (by decide)) (fun _ => ?_)
    refine lv_iconst (v := 0) hx hb d_Md_divided_463 (by decide) ?_
    refine lv_goto (tgt := 471) hx hb d_Md_divided_464 (by decide) ?_
    refine lv_iload hx hb d_Md_divided_471 (lv_at hl 6 rfl) ?_
    refine lv_iload hx hb d_Md_divided_473 (lv_at hl 5 rfl) ?_
    refine kx_imul (v := 0) hx hb d_Md_divided_475 (by decide) ?_
    refine kx_v E w (wc := [(h0, .inr (12, (mF r t0 t1 t2 t3 t4 t5 t6 t7 t8 t9))), ((r 12), .inl (a 1, 81840, .inr (.inl f0))), ((r 13), .inl (a 0, 124, .inl f1)), ((r 14), .inl (a 0, 124, .inl f2)), ((r 15), .inl (a 1, 1400, .inr (.inl f3)))]) (wr := [((r 16), .inl (a 1, 700, .inr (.inl (vp_updL f4 0 167772160)))), ((r 17), .inl (a 1, 1400, .inr (.inl (vp_updL f5 0 0))))]) [4, 5, 6, 0, 1] [2, 3] rfl rfl ⟨rfl, rfl, by decide⟩ (kx_rV E w hl.1 (As := [.int 19, .int 0, .int 0]) (wc := [(h0, .inr (12, (mF r t0 t1 t2 t3 t4 t5 t6 t7 t8 t9))), ((r 12), .inl (a 1, 81840, .inr (.inl f0))), ((r 13), .inl (a 0, 124, .inl f1)), ((r 14), .inl (a 0, 124, .inl f2)), ((r 15), .inl (a 1, 1400, .inr (.inl f3)))]) (c_Md_lands_19_0_0 l D a h0 r t0 t1 t2 t3 t4 t5 t6 t7 t8 t9 f0 f1 f2 f3 H.size) gc_56 gv_Md_lands (kRecv E w 12 4 rfl rfl) [4, 5, 6, 0, 1] rfl rfl rfl rfl rfl ⟨(Nat.le_of_ble_eq_true rfl), (Nat.le_of_ble_eq_true rfl)⟩ rfl (Nat.le_of_ble_eq_true rfl) d_Md_divided_476 ⟨(Nat.le_of_ble_eq_true rfl), (Nat.le_of_ble_eq_true rfl)⟩) (fun u H locs hu w => ?_)
    obtain ⟨rfl⟩ := hu
    have w : kW D A s [((r 16), .inl (a 1, 700, .inr (.inl (vp_updL f4 0 167772160)))), ((r 17), .inl (a 1, 1400, .inr (.inl (vp_updL f5 0 0)))), ((r 15), .inl (a 1, 1400, .inr (.inl f3))), (h0, .inr (12, (mF r t0 t1 t2 t3 t4 t5 t6 t7 t8 t9))), ((r 12), .inl (a 1, 81840, .inr (.inl f0))), ((r 13), .inl (a 0, 124, .inl (upd f1 19 0))), ((r 14), .inl (a 0, 124, .inl (upd (upd f2 19 0) 19 0)))] H locs := w
    refine lv_iload hx hb d_Md_divided_479 (lv_at hl 3 rfl) ?_
    refine lv_iload hx hb d_Md_divided_481 (lv_at hl 4 rfl) ?_
    refine lv_icmp_ge (tgt := 493) hx hb d_Md_divided_483 (by decide) (fun h => absurd h (by decide)) (fun _ => ?_)
    refine lv_iload hx hb d_Md_divided_486 (lv_at hl 3 rfl) ?_
    refine lv_iconst (v := 1) hx hb d_Md_divided_488 (by decide) ?_
    refine kx_iadd (v := 1) hx hb d_Md_divided_489 (by decide) ?_
    refine lv_goto (tgt := 495) hx hb d_Md_divided_490 (by decide) ?_
    refine lv_istore (lv' := [(11, .int 1), (10, .int (-1)), (9, .int 24), (8, .int 0), (7, .int 1), (6, .int 1), (5, .int 0), (0, .ref h0), (1, .int 19), (2, .int 2), (3, .int 19), (4, .int 1)]) hx hb d_Md_divided_495 hl (by decide) rfl (fun ls hl => ?_)
    refine lv_iconst (v := 0) hx hb d_Md_divided_497 (by decide) ?_
    refine lv_istore (lv' := [(12, .int 0), (11, .int 1), (10, .int (-1)), (9, .int 24), (8, .int 0), (7, .int 1), (6, .int 1), (5, .int 0), (0, .ref h0), (1, .int 19), (2, .int 2), (3, .int 19), (4, .int 1)]) hx hb d_Md_divided_498 hl (by decide) rfl (fun ls hl => ?_)
    refine lv_iload hx hb d_Md_divided_500 (lv_at hl 0 rfl) ?_
    refine lv_iload hx hb d_Md_divided_502 (lv_at hl 1 rfl) ?_
    refine lv_icmp_ge (tgt := 563) hx hb d_Md_divided_504 (by decide) (fun h => absurd h (by decide)) (fun _ => ?_)
    refine lv_aload_n hx hb d_Md_divided_507 rfl (lv_at hl 8 rfl) ?_
    refine kx_get E w zC_Md 3 rfl 15 (by decide) mw_316 rfl d_Md_divided_508 ?_
    refine lv_iload hx hb d_Md_divided_511 (lv_at hl 0 rfl) ?_
    refine lv_aload_n hx hb d_Md_divided_513 rfl (lv_at hl 8 rfl) ?_
    refine kx_get E w zC_Md 3 rfl 17 (by decide) mw_318 rfl d_Md_divided_514 ?_
    refine lv_iload hx hb d_Md_divided_517 (lv_at hl 0 rfl) ?_
    refine kx_lald E w 1 rfl (by unfold vp_in; decide) (v := 0) rfl d_Md_divided_519 ?_
    refine lv_iload hx hb d_Md_divided_520 (lv_at hl 3 rfl) ?_
    refine lv_lshr (v := 0) hx hb d_Md_divided_522 (by decide) ?_
    refine lv_iload hx hb d_Md_divided_523 (lv_at hl 0 rfl) ?_
    refine lv_iconst (v := 1) hx hb d_Md_divided_525 (by decide) ?_
    refine kx_iadd (v := 1) hx hb d_Md_divided_526 (by decide) ?_
    refine lv_iload hx hb d_Md_divided_527 (lv_at hl 1 rfl) ?_
    refine lv_icmp_ge (tgt := 544) hx hb d_Md_divided_529 (by decide) (fun _ => ?_) (fun h => absurd (by decide) h)
    refine lv_lconst (v := 0) hx hb d_Md_divided_544 (by decide) ?_
    refine lv_bipush (v := 28) hx hb d_Md_divided_545 (by decide) ?_
    refine lv_iload hx hb d_Md_divided_547 (lv_at hl 3 rfl) ?_
    refine kx_isub (v := 4) hx hb d_Md_divided_549 (by decide) ?_
    refine lv_lshl (v := 0) hx hb d_Md_divided_550 (by decide) ?_
    refine kx_lor (v := 0) hx hb d_Md_divided_551 (by decide) ?_
    refine lv_ldc2 (v := 268435455) hx hb E.1.2.2.2.1 (E.1.2.2.2.2 _ mw_404) d_Md_divided_552 ?_
    refine kx_land (v := 0) hx hb d_Md_divided_555 (by decide) ?_
    refine kx_last E w 2 rfl (by unfold vp_in; decide) 0 (by decide) d_Md_divided_556 (ws' := [((r 16), .inl (a 1, 700, .inr (.inl (vp_updL f4 0 167772160)))), ((r 17), .inl (a 1, 1400, .inr (.inl (vp_updL f5 0 0)))), ((r 15), .inl (a 1, 1400, .inr (.inl (vp_updL f3 0 0)))), (h0, .inr (12, (mF r t0 t1 t2 t3 t4 t5 t6 t7 t8 t9))), ((r 12), .inl (a 1, 81840, .inr (.inl f0))), ((r 13), .inl (a 0, 124, .inl (upd f1 19 0))), ((r 14), .inl (a 0, 124, .inl (upd (upd f2 19 0) 19 0)))]) rfl (fun H locs w => ?_)
    refine lv_iinc (v := 1) (lv' := [(12, .int 1), (11, .int 1), (10, .int (-1)), (9, .int 24), (8, .int 0), (7, .int 1), (6, .int 1), (5, .int 0), (0, .ref h0), (1, .int 19), (2, .int 2), (3, .int 19), (4, .int 1)]) hx hb d_Md_divided_557 hl (k := 0) rfl (by decide) (by decide) rfl (fun ls hl => ?_)
    refine lv_goto (tgt := 500) hx hb d_Md_divided_560 (by decide) ?_
    refine lv_iload hx hb d_Md_divided_500 (lv_at hl 0 rfl) ?_
    refine lv_iload hx hb d_Md_divided_502 (lv_at hl 1 rfl) ?_
    refine lv_icmp_ge (tgt := 563) hx hb d_Md_divided_504 (by decide) (fun _ => ?_) (fun h => absurd (by decide) h)
    refine lv_aload_n hx hb d_Md_divided_563 rfl (lv_at hl 8 rfl) ?_
    refine lv_iload_n hx hb d_Md_divided_564 rfl (lv_at hl 10 rfl) ?_
    refine lv_iload hx hb d_Md_divided_565 (lv_at hl 1 rfl) ?_
    refine lv_iload hx hb d_Md_divided_567 (lv_at hl 7 rfl) ?_
    refine kx_v E w (wc := [(h0, .inr (12, (mF r t0 t1 t2 t3 t4 t5 t6 t7 t8 t9))), ((r 12), .inl (a 1, 81840, .inr (.inl f0))), ((r 13), .inl (a 0, 124, .inl (upd f1 19 0))), ((r 14), .inl (a 0, 124, .inl (upd (upd f2 19 0) 19 0))), ((r 15), .inl (a 1, 1400, .inr (.inl (vp_updL f3 0 0))))]) (wr := [((r 16), .inl (a 1, 700, .inr (.inl (vp_updL f4 0 167772160)))), ((r 17), .inl (a 1, 1400, .inr (.inl (vp_updL f5 0 0))))]) [3, 4, 5, 6, 2] [0, 1] rfl rfl ⟨rfl, rfl, by decide⟩ (kx_rV E w hl.1 (As := [.int 2, .int 1, .int 0]) (wc := [(h0, .inr (12, (mF r t0 t1 t2 t3 t4 t5 t6 t7 t8 t9))), ((r 12), .inl (a 1, 81840, .inr (.inl f0))), ((r 13), .inl (a 0, 124, .inl (upd f1 19 0))), ((r 14), .inl (a 0, 124, .inl (upd (upd f2 19 0) 19 0))), ((r 15), .inl (a 1, 1400, .inr (.inl (vp_updL f3 0 0))))]) (c_Md_lands_2_1_0 l D a h0 r t0 t1 t2 t3 t4 t5 t6 t7 t8 t9 f0 (upd f1 19 0) (upd (upd f2 19 0) 19 0) (vp_updL f3 0 0) rfl H.size) gc_56 gv_Md_lands (kRecv E w 12 3 rfl rfl) [3, 4, 5, 6, 2] rfl rfl rfl rfl rfl ⟨(Nat.le_of_ble_eq_true rfl), (Nat.le_of_ble_eq_true rfl)⟩ rfl (Nat.le_of_ble_eq_true rfl) d_Md_divided_569 ⟨(Nat.le_of_ble_eq_true rfl), (Nat.le_of_ble_eq_true rfl)⟩) (fun u H locs hu w => ?_)
    obtain ⟨rfl⟩ := hu
    have w : kW D A s [((r 16), .inl (a 1, 700, .inr (.inl (vp_updL f4 0 167772160)))), ((r 17), .inl (a 1, 1400, .inr (.inl (vp_updL f5 0 0)))), ((r 15), .inl (a 1, 1400, .inr (.inl (vp_updL f3 0 0)))), (h0, .inr (12, (mF r t0 t1 t2 t3 t4 t5 t6 t7 t8 t9))), ((r 12), .inl (a 1, 81840, .inr (.inl (vp_updL f0 1320 0)))), ((r 13), .inl (a 0, 124, .inl (upd (upd (upd f1 19 0) 2 1) 2 0))), ((r 14), .inl (a 0, 124, .inl (upd (upd (upd (upd f2 19 0) 19 0) 2 0) 2 0)))] H locs := w
    refine lv_aload_n hx hb d_Md_divided_572 rfl (lv_at hl 8 rfl) ?_
    refine kx_get E w zC_Md 3 rfl 14 (by decide) mw_315 rfl d_Md_divided_573 ?_
    refine lv_iload_n hx hb d_Md_divided_576 rfl (lv_at hl 10 rfl) ?_
    refine kx_iald E w 6 rfl (by unfold vp_in; decide) (v := 0) rfl d_Md_divided_577 ?_
    refine lv_if_eq (tgt := 588) hx hb d_Md_divided_578 (by decide) (fun _ => ?_) (fun h => absurd (by decide) h)
    refine W.widen (k := 0) (n := 0) (Nat.le_of_ble_eq_true rfl) (Nat.le_of_ble_eq_true rfl) ?_
    exact kx_vret E w hr hlk d_Md_divided_588 ⟨(vp_updL f4 0 167772160), (vp_updL f5 0 0), (vp_updL f3 0 0), (vp_updL f0 1320 0), (upd (upd (upd f1 19 0) 2 1) 2 0), (upd (upd (upd (upd f2 19 0) 19 0) 2 0) 2 0), rfl, rfl, rfl, rfl, hf.2.2.2.2.2, rfl, hf.2.2.1, hf.2.2.2.1, rfl, rfl, hf.2.2.2.2.1, rfl, rfl⟩)
