/-! laid by program (wip/gen) -/
set_option maxRecDepth 100000 in
set_option maxHeartbeats 4000000 in
theorem c_Md_put_1_10 (l : Launch) (D : va_G) (a : Nat → ClassId) (h0 : Nat) (r : Nat → Nat) (t0 : Int32) (t1 : Int32) (t2 : Int32) (t3 : Int32) (t4 : Int32) (t5 : Int32) (t6 : Int32) (t7 : Int32) (t8 : Int32) (t9 : Int32) (f0 : Nat → Int64) (f1 : Nat → Int32) (f2 : Nat → Int32) (s19 : Int32) (u19 : Int32) (w19 : Int64) (hf : f1 19 = s19 ∧ f2 19 = u19 ∧ f0 12540 = w19) : ∀ sz : Nat, Met l y_Md_put (Cond.code y_Md_put b_Md_put 7 none :: wA) ({ frames := 1, cells := 0, slots := 0, locals := 21 } : Room) (va_Pc [.ref h0, .int 1, .long 10] (kP D a [(h0, .inr (12, (mF r t0 t1 t2 t3 t4 t5 t6 t7 t8 t9))), ((r 12), .inl (a 1, 81840, .inr (.inl f0))), ((r 13), .inl (a 0, 124, .inl f1)), ((r 14), .inl (a 0, 124, .inl f2))] sz)) (va_Qv (fun u : va_W => ∃ fx0 : Nat → Int64, ∃ fx1 : Nat → Int32, ∃ fx2 : Nat → Int32, u = [(h0, .inr (12, (mF r t0 t1 t2 t3 t4 t5 t6 t7 t8 t9))), ((r 12), .inl (a 1, 81840, .inr (.inl fx0))), ((r 13), .inl (a 0, 124, .inl fx1)), ((r 14), .inl (a 0, 124, .inl fx2))] ∧ fx0 660 = 10 ∧ fx0 661 = 0 ∧ fx0 662 = 0 ∧ fx0 12540 = w19 ∧ fx1 1 = 1 ∧ fx1 19 = s19 ∧ fx2 1 = 1 ∧ fx2 19 = u19) (kB D a (va_A [(h0, .inr (12, (mF r t0 t1 t2 t3 t4 t5 t6 t7 t8 t9))), ((r 12), .inl (a 1, 81840, .inr (.inl f0))), ((r 13), .inl (a 0, 124, .inl f1)), ((r 14), .inl (a 0, 124, .inl f2))] sz)) (va_A [(h0, .inr (12, (mF r t0 t1 t2 t3 t4 t5 t6 t7 t8 t9))), ((r 12), .inl (a 1, 81840, .inr (.inl f0))), ((r 13), .inl (a 0, 124, .inl f1)), ((r 14), .inl (a 0, 124, .inl f2))] sz)) 0 0 (va_A [(h0, .inr (12, (mF r t0 t1 t2 t3 t4 t5 t6 t7 t8 t9))), ((r 12), .inl (a 1, 81840, .inr (.inl f0))), ((r 13), .inl (a 0, 124, .inl f1)), ((r 14), .inl (a 0, 124, .inl f2))] sz) :=
  kM (Qc := fun A => va_Qv (fun u : va_W => ∃ fx0 : Nat → Int64, ∃ fx1 : Nat → Int32, ∃ fx2 : Nat → Int32, u = [(h0, .inr (12, (mF r t0 t1 t2 t3 t4 t5 t6 t7 t8 t9))), ((r 12), .inl (a 1, 81840, .inr (.inl fx0))), ((r 13), .inl (a 0, 124, .inl fx1)), ((r 14), .inl (a 0, 124, .inl fx2))] ∧ fx0 660 = 10 ∧ fx0 661 = 0 ∧ fx0 662 = 0 ∧ fx0 12540 = w19 ∧ fx1 1 = 1 ∧ fx1 19 = s19 ∧ fx2 1 = 1 ∧ fx2 19 = u19) (kB D a A) A) (by decide) (Nat.le_of_ble_eq_true rfl) (by
    intro p e s m below meth c A ls H locs E hr hlk hnm w hl
    have hx := E.1.1
    have hb := E.1.2.1
    have E : kE p m c b_Md_put 7 s [.ref h0, .int 1, .long 10].toArray "RootAlgebraModel" D a A := E
    have hl : lv_has ls 7 [(0, .ref h0), (1, .int 1), (2, .long 10)] := hl
    refine lv_lload_n hx hb d_Md_put_0 rfl (lv_at hl 2 rfl) ?_
    refine lv_lconst (v := 0) hx hb d_Md_put_1 (by decide) ?_
    refine kx_lcmp (v := 1) hx hb d_Md_put_2 (by decide) ?_
    refine lv_if_ge (tgt := 11) hx hb d_Md_put_3 (by decide) (fun _ => ?_) (fun h => absurd (by decide) h)
    refine lv_lload_n hx hb d_Md_put_11 rfl (lv_at hl 2 rfl) ?_
    refine lv_lstore (lv' := [(4, .long 10), (0, .ref h0), (1, .int 1), (2, .long 10)]) hx hb d_Md_put_12 hl (by decide) rfl (fun ls hl => ?_)
    refine lv_aload_n hx hb d_Md_put_14 rfl (lv_at hl 1 rfl) ?_
    refine kx_get E w zC_Md 0 rfl 13 (by decide) mw_314 rfl d_Md_put_15 ?_
    refine lv_iload_n hx hb d_Md_put_18 rfl (lv_at hl 2 rfl) ?_
    refine lv_iconst (v := 3) hx hb d_Md_put_19 (by decide) ?_
    refine kx_iast E w 2 rfl (by unfold vp_in; decide) 1 (by decide) d_Md_put_20 (ws' := [(h0, .inr (12, (mF r t0 t1 t2 t3 t4 t5 t6 t7 t8 t9))), ((r 12), .inl (a 1, 81840, .inr (.inl f0))), ((r 13), .inl (a 0, 124, .inl (upd f1 1 3))), ((r 14), .inl (a 0, 124, .inl f2))]) rfl (fun H locs w => ?_)
    refine lv_aload_n hx hb d_Md_put_21 rfl (lv_at hl 1 rfl) ?_
    refine kx_get E w zC_Md 0 rfl 14 (by decide) mw_315 rfl d_Md_put_22 ?_
    refine lv_iload_n hx hb d_Md_put_25 rfl (lv_at hl 2 rfl) ?_
    refine lv_lload_n hx hb d_Md_put_26 rfl (lv_at hl 3 rfl) ?_
    refine lv_lconst (v := 0) hx hb d_Md_put_27 (by decide) ?_
    refine kx_lcmp (v := 1) hx hb d_Md_put_28 (by decide) ?_
    refine lv_if_ge (tgt := 36) hx hb d_Md_put_29 (by decide) (fun _ => ?_) (fun h => absurd (by decide) h)
    refine lv_iconst (v := 1) hx hb d_Md_put_36 (by decide) ?_
    refine kx_iast E w 3 rfl (by unfold vp_in; decide) 1 (by decide) d_Md_put_37 (ws' := [(h0, .inr (12, (mF r t0 t1 t2 t3 t4 t5 t6 t7 t8 t9))), ((r 12), .inl (a 1, 81840, .inr (.inl f0))), ((r 13), .inl (a 0, 124, .inl (upd f1 1 3))), ((r 14), .inl (a 0, 124, .inl (upd f2 1 1)))]) rfl (fun H locs w => ?_)
    refine lv_iconst (v := 0) hx hb d_Md_put_38 (by decide) ?_
    refine lv_istore (lv' := [(6, .int 0), (4, .long 10), (0, .ref h0), (1, .int 1), (2, .long 10)]) hx hb d_Md_put_39 hl (by decide) rfl (fun ls hl => ?_)
    refine lv_iload hx hb d_Md_put_41 (lv_at hl 0 rfl) ?_
    refine lv_iconst (v := 3) hx hb d_Md_put_43 (by decide) ?_
    refine lv_icmp_ge (tgt := 78) hx hb d_Md_put_44 (by decide) (fun h => absurd h (by decide)) (fun _ => ?_)
    refine lv_aload_n hx hb d_Md_put_47 rfl (lv_at hl 2 rfl) ?_
    refine kx_get E w zC_Md 0 rfl 12 (by decide) mw_313 rfl d_Md_put_48 ?_
    refine lv_sipush (v := 660) hx hb d_Md_put_51 (by decide) ?_
    refine lv_iload_n hx hb d_Md_put_54 rfl (lv_at hl 3 rfl) ?_
    refine kx_imul (v := 660) hx hb d_Md_put_55 (by decide) ?_
    refine lv_iload hx hb d_Md_put_56 (lv_at hl 0 rfl) ?_
    refine kx_iadd (v := 660) hx hb d_Md_put_58 (by decide) ?_
    refine lv_lload hx hb d_Md_put_59 (lv_at hl 1 rfl) ?_
    refine lv_bipush (v := 28) hx hb d_Md_put_61 (by decide) ?_
    refine lv_iload hx hb d_Md_put_63 (lv_at hl 0 rfl) ?_
    refine kx_imul (v := 0) hx hb d_Md_put_65 (by decide) ?_
    refine lv_lushr (v := 10) hx hb d_Md_put_66 (by decide) ?_
    refine lv_ldc2 (v := 268435455) hx hb E.1.2.2.2.1 (E.1.2.2.2.2 _ mw_404) d_Md_put_67 ?_
    refine kx_land (v := 10) hx hb d_Md_put_70 (by decide) ?_
    refine kx_last E w 1 rfl (by unfold vp_in; decide) 660 (by decide) d_Md_put_71 (ws' := [(h0, .inr (12, (mF r t0 t1 t2 t3 t4 t5 t6 t7 t8 t9))), ((r 12), .inl (a 1, 81840, .inr (.inl (vp_updL f0 660 10)))), ((r 13), .inl (a 0, 124, .inl (upd f1 1 3))), ((r 14), .inl (a 0, 124, .inl (upd f2 1 1)))]) rfl (fun H locs w => ?_)
    refine lv_iinc (v := 1) (lv' := [(6, .int 1), (4, .long 10), (0, .ref h0), (1, .int 1), (2, .long 10)]) hx hb d_Md_put_72 hl (k := 0) rfl (by decide) (by decide) rfl (fun ls hl => ?_)
    refine lv_goto (tgt := 41) hx hb d_Md_put_75 (by decide) ?_
    refine lv_iload hx hb d_Md_put_41 (lv_at hl 0 rfl) ?_
    refine lv_iconst (v := 3) hx hb d_Md_put_43 (by decide) ?_
    refine lv_icmp_ge (tgt := 78) hx hb d_Md_put_44 (by decide) (fun h => absurd h (by decide)) (fun _ => ?_)
    refine lv_aload_n hx hb d_Md_put_47 rfl (lv_at hl 2 rfl) ?_
    refine kx_get E w zC_Md 0 rfl 12 (by decide) mw_313 rfl d_Md_put_48 ?_
    refine lv_sipush (v := 660) hx hb d_Md_put_51 (by decide) ?_
    refine lv_iload_n hx hb d_Md_put_54 rfl (lv_at hl 3 rfl) ?_
    refine kx_imul (v := 660) hx hb d_Md_put_55 (by decide) ?_
    refine lv_iload hx hb d_Md_put_56 (lv_at hl 0 rfl) ?_
    refine kx_iadd (v := 661) hx hb d_Md_put_58 (by decide) ?_
    refine lv_lload hx hb d_Md_put_59 (lv_at hl 1 rfl) ?_
    refine lv_bipush (v := 28) hx hb d_Md_put_61 (by decide) ?_
    refine lv_iload hx hb d_Md_put_63 (lv_at hl 0 rfl) ?_
    refine kx_imul (v := 28) hx hb d_Md_put_65 (by decide) ?_
    refine lv_lushr (v := 0) hx hb d_Md_put_66 (by decide) ?_
    refine lv_ldc2 (v := 268435455) hx hb E.1.2.2.2.1 (E.1.2.2.2.2 _ mw_404) d_Md_put_67 ?_
    refine kx_land (v := 0) hx hb d_Md_put_70 (by decide) ?_
    refine kx_last E w 1 rfl (by unfold vp_in; decide) 661 (by decide) d_Md_put_71 (ws' := [(h0, .inr (12, (mF r t0 t1 t2 t3 t4 t5 t6 t7 t8 t9))), ((r 12), .inl (a 1, 81840, .inr (.inl (vp_updL (vp_updL f0 660 10) 661 0)))), ((r 13), .inl (a 0, 124, .inl (upd f1 1 3))), ((r 14), .inl (a 0, 124, .inl (upd f2 1 1)))]) rfl (fun H locs w => ?_)
    refine lv_iinc (v := 2) (lv' := [(6, .int 2), (4, .long 10), (0, .ref h0), (1, .int 1), (2, .long 10)]) hx hb d_Md_put_72 hl (k := 0) rfl (by decide) (by decide) rfl (fun ls hl => ?_)
    refine lv_goto (tgt := 41) hx hb d_Md_put_75 (by decide) ?_
    refine lv_iload hx hb d_Md_put_41 (lv_at hl 0 rfl) ?_
    refine lv_iconst (v := 3) hx hb d_Md_put_43 (by decide) ?_
    refine lv_icmp_ge (tgt := 78) hx hb d_Md_put_44 (by decide) (fun h => absurd h (by decide)) (fun _ => ?_)
    refine lv_aload_n hx hb d_Md_put_47 rfl (lv_at hl 2 rfl) ?_
    refine kx_get E w zC_Md 0 rfl 12 (by decide) mw_313 rfl d_Md_put_48 ?_
    refine lv_sipush (v := 660) hx hb d_Md_put_51 (by decide) ?_
    refine lv_iload_n hx hb d_Md_put_54 rfl (lv_at hl 3 rfl) ?_
    refine kx_imul (v := 660) hx hb d_Md_put_55 (by decide) ?_
    refine lv_iload hx hb d_Md_put_56 (lv_at hl 0 rfl) ?_
    refine kx_iadd (v := 662) hx hb d_Md_put_58 (by decide) ?_
    refine lv_lload hx hb d_Md_put_59 (lv_at hl 1 rfl) ?_
    refine lv_bipush (v := 28) hx hb d_Md_put_61 (by decide) ?_
    refine lv_iload hx hb d_Md_put_63 (lv_at hl 0 rfl) ?_
    refine kx_imul (v := 56) hx hb d_Md_put_65 (by decide) ?_
    refine lv_lushr (v := 0) hx hb d_Md_put_66 (by decide) ?_
    refine lv_ldc2 (v := 268435455) hx hb E.1.2.2.2.1 (E.1.2.2.2.2 _ mw_404) d_Md_put_67 ?_
    refine kx_land (v := 0) hx hb d_Md_put_70 (by decide) ?_
    refine kx_last E w 1 rfl (by unfold vp_in; decide) 662 (by decide) d_Md_put_71 (ws' := [(h0, .inr (12, (mF r t0 t1 t2 t3 t4 t5 t6 t7 t8 t9))), ((r 12), .inl (a 1, 81840, .inr (.inl (vp_updL (vp_updL (vp_updL f0 660 10) 661 0) 662 0)))), ((r 13), .inl (a 0, 124, .inl (upd f1 1 3))), ((r 14), .inl (a 0, 124, .inl (upd f2 1 1)))]) rfl (fun H locs w => ?_)
    refine lv_iinc (v := 3) (lv' := [(6, .int 3), (4, .long 10), (0, .ref h0), (1, .int 1), (2, .long 10)]) hx hb d_Md_put_72 hl (k := 0) rfl (by decide) (by decide) rfl (fun ls hl => ?_)
    refine lv_goto (tgt := 41) hx hb d_Md_put_75 (by decide) ?_
    refine lv_iload hx hb d_Md_put_41 (lv_at hl 0 rfl) ?_
    refine lv_iconst (v := 3) hx hb d_Md_put_43 (by decide) ?_
    refine lv_icmp_ge (tgt := 78) hx hb d_Md_put_44 (by decide) (fun _ => ?_) (fun h => absurd (by decide) h)
    refine lv_aload_n hx hb d_Md_put_78 rfl (lv_at hl 2 rfl) ?_
    refine lv_iload_n hx hb d_Md_put_79 rfl (lv_at hl 3 rfl) ?_
    refine kx_v E w (wc := [(h0, .inr (12, (mF r t0 t1 t2 t3 t4 t5 t6 t7 t8 t9))), ((r 12), .inl (a 1, 81840, .inr (.inl (vp_updL (vp_updL (vp_updL f0 660 10) 661 0) 662 0)))), ((r 13), .inl (a 0, 124, .inl (upd f1 1 3))), ((r 14), .inl (a 0, 124, .inl (upd f2 1 1)))]) (wr := []) [0, 1, 2, 3] [] rfl rfl ⟨rfl, rfl, by decide⟩ (kx_rV E w hl.1 (As := [.int 1]) (wc := [(h0, .inr (12, (mF r t0 t1 t2 t3 t4 t5 t6 t7 t8 t9))), ((r 12), .inl (a 1, 81840, .inr (.inl (vp_updL (vp_updL (vp_updL f0 660 10) 661 0) 662 0)))), ((r 13), .inl (a 0, 124, .inl (upd f1 1 3))), ((r 14), .inl (a 0, 124, .inl (upd f2 1 1)))]) (c_Md_fix_1_1000_1 l D a h0 r t0 t1 t2 t3 t4 t5 t6 t7 t8 t9 (vp_updL (vp_updL (vp_updL f0 660 10) 661 0) 662 0) (upd f1 1 3) (upd f2 1 1) ⟨rfl, rfl, rfl, rfl, rfl⟩ H.size) gc_55 gv_Md_fix (kRecv E w 12 0 rfl rfl) [0, 1, 2, 3] rfl rfl rfl rfl rfl ⟨(Nat.le_of_ble_eq_true rfl), (Nat.le_of_ble_eq_true rfl)⟩ rfl (Nat.le_of_ble_eq_true rfl) d_Md_put_80 ⟨(Nat.le_of_ble_eq_true rfl), (Nat.le_of_ble_eq_true rfl)⟩) (fun u H locs hu w => ?_)
    obtain ⟨rfl⟩ := hu
    have w : kW D A s [(h0, .inr (12, (mF r t0 t1 t2 t3 t4 t5 t6 t7 t8 t9))), ((r 12), .inl (a 1, 81840, .inr (.inl (vp_updL (vp_updL (vp_updL f0 660 10) 661 0) 662 0)))), ((r 13), .inl (a 0, 124, .inl (upd (upd (upd f1 1 3) 1 2) 1 1))), ((r 14), .inl (a 0, 124, .inl (upd f2 1 1)))] H locs := w
    refine W.widen (k := 0) (n := 0) (Nat.le_of_ble_eq_true rfl) (Nat.le_of_ble_eq_true rfl) ?_
    exact kx_vret E w hr hlk d_Md_put_83 ⟨(vp_updL (vp_updL (vp_updL f0 660 10) 661 0) 662 0), (upd (upd (upd f1 1 3) 1 2) 1 1), (upd f2 1 1), rfl, rfl, rfl, rfl, hf.2.2, rfl, hf.1, rfl, hf.2.1⟩)
set_option maxRecDepth 100000 in
set_option maxHeartbeats 4000000 in
theorem c_Md_put_1_1 (l : Launch) (D : va_G) (a : Nat → ClassId) (h0 : Nat) (r : Nat → Nat) (t0 : Int32) (t1 : Int32) (t2 : Int32) (t3 : Int32) (t4 : Int32) (t5 : Int32) (t6 : Int32) (t7 : Int32) (t8 : Int32) (t9 : Int32) (f0 : Nat → Int64) (f1 : Nat → Int32) (f2 : Nat → Int32) (s19 : Int32) (u19 : Int32) (w19 : Int64) (hf : f1 19 = s19 ∧ f2 19 = u19 ∧ f0 12540 = w19) : ∀ sz : Nat, Met l y_Md_put (Cond.code y_Md_put b_Md_put 7 none :: wA) ({ frames := 1, cells := 0, slots := 0, locals := 21 } : Room) (va_Pc [.ref h0, .int 1, .long 1] (kP D a [(h0, .inr (12, (mF r t0 t1 t2 t3 t4 t5 t6 t7 t8 t9))), ((r 12), .inl (a 1, 81840, .inr (.inl f0))), ((r 13), .inl (a 0, 124, .inl f1)), ((r 14), .inl (a 0, 124, .inl f2))] sz)) (va_Qv (fun u : va_W => ∃ fx0 : Nat → Int64, ∃ fx1 : Nat → Int32, ∃ fx2 : Nat → Int32, u = [(h0, .inr (12, (mF r t0 t1 t2 t3 t4 t5 t6 t7 t8 t9))), ((r 12), .inl (a 1, 81840, .inr (.inl fx0))), ((r 13), .inl (a 0, 124, .inl fx1)), ((r 14), .inl (a 0, 124, .inl fx2))] ∧ fx0 660 = 1 ∧ fx0 661 = 0 ∧ fx0 662 = 0 ∧ fx0 12540 = w19 ∧ fx1 1 = 1 ∧ fx1 19 = s19 ∧ fx2 1 = 1 ∧ fx2 19 = u19) (kB D a (va_A [(h0, .inr (12, (mF r t0 t1 t2 t3 t4 t5 t6 t7 t8 t9))), ((r 12), .inl (a 1, 81840, .inr (.inl f0))), ((r 13), .inl (a 0, 124, .inl f1)), ((r 14), .inl (a 0, 124, .inl f2))] sz)) (va_A [(h0, .inr (12, (mF r t0 t1 t2 t3 t4 t5 t6 t7 t8 t9))), ((r 12), .inl (a 1, 81840, .inr (.inl f0))), ((r 13), .inl (a 0, 124, .inl f1)), ((r 14), .inl (a 0, 124, .inl f2))] sz)) 0 0 (va_A [(h0, .inr (12, (mF r t0 t1 t2 t3 t4 t5 t6 t7 t8 t9))), ((r 12), .inl (a 1, 81840, .inr (.inl f0))), ((r 13), .inl (a 0, 124, .inl f1)), ((r 14), .inl (a 0, 124, .inl f2))] sz) :=
  kM (Qc := fun A => va_Qv (fun u : va_W => ∃ fx0 : Nat → Int64, ∃ fx1 : Nat → Int32, ∃ fx2 : Nat → Int32, u = [(h0, .inr (12, (mF r t0 t1 t2 t3 t4 t5 t6 t7 t8 t9))), ((r 12), .inl (a 1, 81840, .inr (.inl fx0))), ((r 13), .inl (a 0, 124, .inl fx1)), ((r 14), .inl (a 0, 124, .inl fx2))] ∧ fx0 660 = 1 ∧ fx0 661 = 0 ∧ fx0 662 = 0 ∧ fx0 12540 = w19 ∧ fx1 1 = 1 ∧ fx1 19 = s19 ∧ fx2 1 = 1 ∧ fx2 19 = u19) (kB D a A) A) (by decide) (Nat.le_of_ble_eq_true rfl) (by
    intro p e s m below meth c A ls H locs E hr hlk hnm w hl
    have hx := E.1.1
    have hb := E.1.2.1
    have E : kE p m c b_Md_put 7 s [.ref h0, .int 1, .long 1].toArray "RootAlgebraModel" D a A := E
    have hl : lv_has ls 7 [(0, .ref h0), (1, .int 1), (2, .long 1)] := hl
    refine lv_lload_n hx hb d_Md_put_0 rfl (lv_at hl 2 rfl) ?_
    refine lv_lconst (v := 0) hx hb d_Md_put_1 (by decide) ?_
    refine kx_lcmp (v := 1) hx hb d_Md_put_2 (by decide) ?_
    refine lv_if_ge (tgt := 11) hx hb d_Md_put_3 (by decide) (fun _ => ?_) (fun h => absurd (by decide) h)
    refine lv_lload_n hx hb d_Md_put_11 rfl (lv_at hl 2 rfl) ?_
    refine lv_lstore (lv' := [(4, .long 1), (0, .ref h0), (1, .int 1), (2, .long 1)]) hx hb d_Md_put_12 hl (by decide) rfl (fun ls hl => ?_)
    refine lv_aload_n hx hb d_Md_put_14 rfl (lv_at hl 1 rfl) ?_
    refine kx_get E w zC_Md 0 rfl 13 (by decide) mw_314 rfl d_Md_put_15 ?_
    refine lv_iload_n hx hb d_Md_put_18 rfl (lv_at hl 2 rfl) ?_
    refine lv_iconst (v := 3) hx hb d_Md_put_19 (by decide) ?_
    refine kx_iast E w 2 rfl (by unfold vp_in; decide) 1 (by decide) d_Md_put_20 (ws' := [(h0, .inr (12, (mF r t0 t1 t2 t3 t4 t5 t6 t7 t8 t9))), ((r 12), .inl (a 1, 81840, .inr (.inl f0))), ((r 13), .inl (a 0, 124, .inl (upd f1 1 3))), ((r 14), .inl (a 0, 124, .inl f2))]) rfl (fun H locs w => ?_)
    refine lv_aload_n hx hb d_Md_put_21 rfl (lv_at hl 1 rfl) ?_
    refine kx_get E w zC_Md 0 rfl 14 (by decide) mw_315 rfl d_Md_put_22 ?_
    refine lv_iload_n hx hb d_Md_put_25 rfl (lv_at hl 2 rfl) ?_
    refine lv_lload_n hx hb d_Md_put_26 rfl (lv_at hl 3 rfl) ?_
    refine lv_lconst (v := 0) hx hb d_Md_put_27 (by decide) ?_
    refine kx_lcmp (v := 1) hx hb d_Md_put_28 (by decide) ?_
    refine lv_if_ge (tgt := 36) hx hb d_Md_put_29 (by decide) (fun _ => ?_) (fun h => absurd (by decide) h)
    refine lv_iconst (v := 1) hx hb d_Md_put_36 (by decide) ?_
    refine kx_iast E w 3 rfl (by unfold vp_in; decide) 1 (by decide) d_Md_put_37 (ws' := [(h0, .inr (12, (mF r t0 t1 t2 t3 t4 t5 t6 t7 t8 t9))), ((r 12), .inl (a 1, 81840, .inr (.inl f0))), ((r 13), .inl (a 0, 124, .inl (upd f1 1 3))), ((r 14), .inl (a 0, 124, .inl (upd f2 1 1)))]) rfl (fun H locs w => ?_)
    refine lv_iconst (v := 0) hx hb d_Md_put_38 (by decide) ?_
    refine lv_istore (lv' := [(6, .int 0), (4, .long 1), (0, .ref h0), (1, .int 1), (2, .long 1)]) hx hb d_Md_put_39 hl (by decide) rfl (fun ls hl => ?_)
    refine lv_iload hx hb d_Md_put_41 (lv_at hl 0 rfl) ?_
    refine lv_iconst (v := 3) hx hb d_Md_put_43 (by decide) ?_
    refine lv_icmp_ge (tgt := 78) hx hb d_Md_put_44 (by decide) (fun h => absurd h (by decide)) (fun _ => ?_)
    refine lv_aload_n hx hb d_Md_put_47 rfl (lv_at hl 2 rfl) ?_
    refine kx_get E w zC_Md 0 rfl 12 (by decide) mw_313 rfl d_Md_put_48 ?_
    refine lv_sipush (v := 660) hx hb d_Md_put_51 (by decide) ?_
    refine lv_iload_n hx hb d_Md_put_54 rfl (lv_at hl 3 rfl) ?_
    refine kx_imul (v := 660) hx hb d_Md_put_55 (by decide) ?_
    refine lv_iload hx hb d_Md_put_56 (lv_at hl 0 rfl) ?_
    refine kx_iadd (v := 660) hx hb d_Md_put_58 (by decide) ?_
    refine lv_lload hx hb d_Md_put_59 (lv_at hl 1 rfl) ?_
    refine lv_bipush (v := 28) hx hb d_Md_put_61 (by decide) ?_
    refine lv_iload hx hb d_Md_put_63 (lv_at hl 0 rfl) ?_
    refine kx_imul (v := 0) hx hb d_Md_put_65 (by decide) ?_
    refine lv_lushr (v := 1) hx hb d_Md_put_66 (by decide) ?_
    refine lv_ldc2 (v := 268435455) hx hb E.1.2.2.2.1 (E.1.2.2.2.2 _ mw_404) d_Md_put_67 ?_
    refine kx_land (v := 1) hx hb d_Md_put_70 (by decide) ?_
    refine kx_last E w 1 rfl (by unfold vp_in; decide) 660 (by decide) d_Md_put_71 (ws' := [(h0, .inr (12, (mF r t0 t1 t2 t3 t4 t5 t6 t7 t8 t9))), ((r 12), .inl (a 1, 81840, .inr (.inl (vp_updL f0 660 1)))), ((r 13), .inl (a 0, 124, .inl (upd f1 1 3))), ((r 14), .inl (a 0, 124, .inl (upd f2 1 1)))]) rfl (fun H locs w => ?_)
    refine lv_iinc (v := 1) (lv' := [(6, .int 1), (4, .long 1), (0, .ref h0), (1, .int 1), (2, .long 1)]) hx hb d_Md_put_72 hl (k := 0) rfl (by decide) (by decide) rfl (fun ls hl => ?_)
    refine lv_goto (tgt := 41) hx hb d_Md_put_75 (by decide) ?_
    refine lv_iload hx hb d_Md_put_41 (lv_at hl 0 rfl) ?_
    refine lv_iconst (v := 3) hx hb d_Md_put_43 (by decide) ?_
    refine lv_icmp_ge (tgt := 78) hx hb d_Md_put_44 (by decide) (fun h => absurd h (by decide)) (fun _ => ?_)
    refine lv_aload_n hx hb d_Md_put_47 rfl (lv_at hl 2 rfl) ?_
    refine kx_get E w zC_Md 0 rfl 12 (by decide) mw_313 rfl d_Md_put_48 ?_
    refine lv_sipush (v := 660) hx hb d_Md_put_51 (by decide) ?_
    refine lv_iload_n hx hb d_Md_put_54 rfl (lv_at hl 3 rfl) ?_
    refine kx_imul (v := 660) hx hb d_Md_put_55 (by decide) ?_
    refine lv_iload hx hb d_Md_put_56 (lv_at hl 0 rfl) ?_
    refine kx_iadd (v := 661) hx hb d_Md_put_58 (by decide) ?_
    refine lv_lload hx hb d_Md_put_59 (lv_at hl 1 rfl) ?_
    refine lv_bipush (v := 28) hx hb d_Md_put_61 (by decide) ?_
    refine lv_iload hx hb d_Md_put_63 (lv_at hl 0 rfl) ?_
    refine kx_imul (v := 28) hx hb d_Md_put_65 (by decide) ?_
    refine lv_lushr (v := 0) hx hb d_Md_put_66 (by decide) ?_
    refine lv_ldc2 (v := 268435455) hx hb E.1.2.2.2.1 (E.1.2.2.2.2 _ mw_404) d_Md_put_67 ?_
    refine kx_land (v := 0) hx hb d_Md_put_70 (by decide) ?_
    refine kx_last E w 1 rfl (by unfold vp_in; decide) 661 (by decide) d_Md_put_71 (ws' := [(h0, .inr (12, (mF r t0 t1 t2 t3 t4 t5 t6 t7 t8 t9))), ((r 12), .inl (a 1, 81840, .inr (.inl (vp_updL (vp_updL f0 660 1) 661 0)))), ((r 13), .inl (a 0, 124, .inl (upd f1 1 3))), ((r 14), .inl (a 0, 124, .inl (upd f2 1 1)))]) rfl (fun H locs w => ?_)
    refine lv_iinc (v := 2) (lv' := [(6, .int 2), (4, .long 1), (0, .ref h0), (1, .int 1), (2, .long 1)]) hx hb d_Md_put_72 hl (k := 0) rfl (by decide) (by decide) rfl (fun ls hl => ?_)
    refine lv_goto (tgt := 41) hx hb d_Md_put_75 (by decide) ?_
    refine lv_iload hx hb d_Md_put_41 (lv_at hl 0 rfl) ?_
    refine lv_iconst (v := 3) hx hb d_Md_put_43 (by decide) ?_
    refine lv_icmp_ge (tgt := 78) hx hb d_Md_put_44 (by decide) (fun h => absurd h (by decide)) (fun _ => ?_)
    refine lv_aload_n hx hb d_Md_put_47 rfl (lv_at hl 2 rfl) ?_
    refine kx_get E w zC_Md 0 rfl 12 (by decide) mw_313 rfl d_Md_put_48 ?_
    refine lv_sipush (v := 660) hx hb d_Md_put_51 (by decide) ?_
    refine lv_iload_n hx hb d_Md_put_54 rfl (lv_at hl 3 rfl) ?_
    refine kx_imul (v := 660) hx hb d_Md_put_55 (by decide) ?_
    refine lv_iload hx hb d_Md_put_56 (lv_at hl 0 rfl) ?_
    refine kx_iadd (v := 662) hx hb d_Md_put_58 (by decide) ?_
    refine lv_lload hx hb d_Md_put_59 (lv_at hl 1 rfl) ?_
    refine lv_bipush (v := 28) hx hb d_Md_put_61 (by decide) ?_
    refine lv_iload hx hb d_Md_put_63 (lv_at hl 0 rfl) ?_
    refine kx_imul (v := 56) hx hb d_Md_put_65 (by decide) ?_
    refine lv_lushr (v := 0) hx hb d_Md_put_66 (by decide) ?_
    refine lv_ldc2 (v := 268435455) hx hb E.1.2.2.2.1 (E.1.2.2.2.2 _ mw_404) d_Md_put_67 ?_
    refine kx_land (v := 0) hx hb d_Md_put_70 (by decide) ?_
    refine kx_last E w 1 rfl (by unfold vp_in; decide) 662 (by decide) d_Md_put_71 (ws' := [(h0, .inr (12, (mF r t0 t1 t2 t3 t4 t5 t6 t7 t8 t9))), ((r 12), .inl (a 1, 81840, .inr (.inl (vp_updL (vp_updL (vp_updL f0 660 1) 661 0) 662 0)))), ((r 13), .inl (a 0, 124, .inl (upd f1 1 3))), ((r 14), .inl (a 0, 124, .inl (upd f2 1 1)))]) rfl (fun H locs w => ?_)
    refine lv_iinc (v := 3) (lv' := [(6, .int 3), (4, .long 1), (0, .ref h0), (1, .int 1), (2, .long 1)]) hx hb d_Md_put_72 hl (k := 0) rfl (by decide) (by decide) rfl (fun ls hl => ?_)
    refine lv_goto (tgt := 41) hx hb d_Md_put_75 (by decide) ?_
    refine lv_iload hx hb d_Md_put_41 (lv_at hl 0 rfl) ?_
    refine lv_iconst (v := 3) hx hb d_Md_put_43 (by decide) ?_
    refine lv_icmp_ge (tgt := 78) hx hb d_Md_put_44 (by decide) (fun _ => ?_) (fun h => absurd (by decide) h)
    refine lv_aload_n hx hb d_Md_put_78 rfl (lv_at hl 2 rfl) ?_
    refine lv_iload_n hx hb d_Md_put_79 rfl (lv_at hl 3 rfl) ?_
    refine kx_v E w (wc := [(h0, .inr (12, (mF r t0 t1 t2 t3 t4 t5 t6 t7 t8 t9))), ((r 12), .inl (a 1, 81840, .inr (.inl (vp_updL (vp_updL (vp_updL f0 660 1) 661 0) 662 0)))), ((r 13), .inl (a 0, 124, .inl (upd f1 1 3))), ((r 14), .inl (a 0, 124, .inl (upd f2 1 1)))]) (wr := []) [0, 1, 2, 3] [] rfl rfl ⟨rfl, rfl, by decide⟩ (kx_rV E w hl.1 (As := [.int 1]) (wc := [(h0, .inr (12, (mF r t0 t1 t2 t3 t4 t5 t6 t7 t8 t9))), ((r 12), .inl (a 1, 81840, .inr (.inl (vp_updL (vp_updL (vp_updL f0 660 1) 661 0) 662 0)))), ((r 13), .inl (a 0, 124, .inl (upd f1 1 3))), ((r 14), .inl (a 0, 124, .inl (upd f2 1 1)))]) (c_Md_fix_1_100_1 l D a h0 r t0 t1 t2 t3 t4 t5 t6 t7 t8 t9 (vp_updL (vp_updL (vp_updL f0 660 1) 661 0) 662 0) (upd f1 1 3) (upd f2 1 1) ⟨rfl, rfl, rfl, rfl, rfl⟩ H.size) gc_55 gv_Md_fix (kRecv E w 12 0 rfl rfl) [0, 1, 2, 3] rfl rfl rfl rfl rfl ⟨(Nat.le_of_ble_eq_true rfl), (Nat.le_of_ble_eq_true rfl)⟩ rfl (Nat.le_of_ble_eq_true rfl) d_Md_put_80 ⟨(Nat.le_of_ble_eq_true rfl), (Nat.le_of_ble_eq_true rfl)⟩) (fun u H locs hu w => ?_)
    obtain ⟨rfl⟩ := hu
    have w : kW D A s [(h0, .inr (12, (mF r t0 t1 t2 t3 t4 t5 t6 t7 t8 t9))), ((r 12), .inl (a 1, 81840, .inr (.inl (vp_updL (vp_updL (vp_updL f0 660 1) 661 0) 662 0)))), ((r 13), .inl (a 0, 124, .inl (upd (upd (upd f1 1 3) 1 2) 1 1))), ((r 14), .inl (a 0, 124, .inl (upd f2 1 1)))] H locs := w
    refine W.widen (k := 0) (n := 0) (Nat.le_of_ble_eq_true rfl) (Nat.le_of_ble_eq_true rfl) ?_
    exact kx_vret E w hr hlk d_Md_put_83 ⟨(vp_updL (vp_updL (vp_updL f0 660 1) 661 0) 662 0), (upd (upd (upd f1 1 3) 1 2) 1 1), (upd f2 1 1), rfl, rfl, rfl, rfl, hf.2.2, rfl, hf.1, rfl, hf.2.1⟩)
