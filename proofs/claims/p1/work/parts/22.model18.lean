/-! laid by program (wip/gen) -/
set_option maxRecDepth 100000 in
set_option maxHeartbeats 4000000 in
theorem c_Md_lands_19_1_0 (l : Launch) (D : va_G) (a : Nat → ClassId) (h0 : Nat) (r : Nat → Nat) (t0 : Int32) (t1 : Int32) (t2 : Int32) (t3 : Int32) (t4 : Int32) (t5 : Int32) (t6 : Int32) (t7 : Int32) (t8 : Int32) (t9 : Int32) (f0 : Nat → Int64) (f1 : Nat → Int32) (f2 : Nat → Int32) (f3 : Nat → Int64) (hf : f3 0 = 0) : ∀ sz : Nat, Met l y_Md_lands (Cond.code y_Md_lands b_Md_lands 5 none :: wA) ({ frames := 1, cells := 0, slots := 0, locals := 21 } : Room) (va_Pc [.ref h0, .int 19, .int 1, .int 0] (kP D a [(h0, .inr (12, (mF r t0 t1 t2 t3 t4 t5 t6 t7 t8 t9))), ((r 12), .inl (a 1, 81840, .inr (.inl f0))), ((r 13), .inl (a 0, 124, .inl f1)), ((r 14), .inl (a 0, 124, .inl f2)), ((r 15), .inl (a 1, 1400, .inr (.inl f3)))] sz)) (va_Qv (fun u : va_W => u = [((r 15), .inl (a 1, 1400, .inr (.inl f3))), (h0, .inr (12, (mF r t0 t1 t2 t3 t4 t5 t6 t7 t8 t9))), ((r 12), .inl (a 1, 81840, .inr (.inl (vp_updL f0 12540 0)))), ((r 13), .inl (a 0, 124, .inl (upd (upd f1 19 1) 19 0))), ((r 14), .inl (a 0, 124, .inl (upd (upd f2 19 0) 19 0)))]) (kB D a (va_A [(h0, .inr (12, (mF r t0 t1 t2 t3 t4 t5 t6 t7 t8 t9))), ((r 12), .inl (a 1, 81840, .inr (.inl f0))), ((r 13), .inl (a 0, 124, .inl f1)), ((r 14), .inl (a 0, 124, .inl f2)), ((r 15), .inl (a 1, 1400, .inr (.inl f3)))] sz)) (va_A [(h0, .inr (12, (mF r t0 t1 t2 t3 t4 t5 t6 t7 t8 t9))), ((r 12), .inl (a 1, 81840, .inr (.inl f0))), ((r 13), .inl (a 0, 124, .inl f1)), ((r 14), .inl (a 0, 124, .inl f2)), ((r 15), .inl (a 1, 1400, .inr (.inl f3)))] sz)) 0 0 (va_A [(h0, .inr (12, (mF r t0 t1 t2 t3 t4 t5 t6 t7 t8 t9))), ((r 12), .inl (a 1, 81840, .inr (.inl f0))), ((r 13), .inl (a 0, 124, .inl f1)), ((r 14), .inl (a 0, 124, .inl f2)), ((r 15), .inl (a 1, 1400, .inr (.inl f3)))] sz) :=
  kM (Qc := fun A => va_Qv (fun u : va_W => u = [((r 15), .inl (a 1, 1400, .inr (.inl f3))), (h0, .inr (12, (mF r t0 t1 t2 t3 t4 t5 t6 t7 t8 t9))), ((r 12), .inl (a 1, 81840, .inr (.inl (vp_updL f0 12540 0)))), ((r 13), .inl (a 0, 124, .inl (upd (upd f1 19 1) 19 0))), ((r 14), .inl (a 0, 124, .inl (upd (upd f2 19 0) 19 0)))]) (kB D a A) A) (by decide) (Nat.le_of_ble_eq_true rfl) (by
    intro p e s m below meth c A ls H locs E hr hlk hnm w hl
    have hx := E.1.1
    have hb := E.1.2.1
    have E : kE p m c b_Md_lands 5 s [.ref h0, .int 19, .int 1, .int 0].toArray "RootAlgebraModel" D a A := E
    have hl : lv_has ls 5 [(0, .ref h0), (1, .int 19), (2, .int 1), (3, .int 0)] := hl
    refine lv_iconst (v := 0) hx hb d_Md_lands_0 (by decide) ?_
    refine lv_istore (lv' := [(4, .int 0), (0, .ref h0), (1, .int 19), (2, .int 1), (3, .int 0)]) hx hb d_Md_lands_1 hl (by decide) rfl (fun ls hl => ?_)
    refine lv_iload hx hb d_Md_lands_3 (lv_at hl 0 rfl) ?_
    refine lv_iload_n hx hb d_Md_lands_5 rfl (lv_at hl 3 rfl) ?_
    refine lv_icmp_ge (tgt := 43) hx hb d_Md_lands_6 (by decide) (fun h => absurd h (by decide)) (fun _ => ?_)
    refine lv_iload hx hb d_Md_lands_9 (lv_at hl 0 rfl) ?_
    refine lv_sipush (v := 660) hx hb d_Md_lands_11 (by decide) ?_
    refine lv_icmp_ge (tgt := 43) hx hb d_Md_lands_14 (by decide) (fun h => absurd h (by decide)) (fun _ => ?_)
    refine lv_aload_n hx hb d_Md_lands_17 rfl (lv_at hl 1 rfl) ?_
    refine kx_get E w zC_Md 0 rfl 12 (by decide) mw_313 rfl d_Md_lands_18 ?_
    refine lv_sipush (v := 660) hx hb d_Md_lands_21 (by decide) ?_
    refine lv_iload_n hx hb d_Md_lands_24 rfl (lv_at hl 2 rfl) ?_
    refine kx_imul (v := 12540) hx hb d_Md_lands_25 (by decide) ?_
    refine lv_iload hx hb d_Md_lands_26 (lv_at hl 0 rfl) ?_
    refine kx_iadd (v := 12540) hx hb d_Md_lands_28 (by decide) ?_
    refine lv_aload_n hx hb d_Md_lands_29 rfl (lv_at hl 1 rfl) ?_
    refine kx_get E w zC_Md 0 rfl 15 (by decide) mw_316 rfl d_Md_lands_30 ?_
    refine lv_iload hx hb d_Md_lands_33 (lv_at hl 0 rfl) ?_
    refine kx_lald E w 4 rfl (by unfold vp_in; decide) (v := 0) hf d_Md_lands_35 ?_
    refine kx_last E w 1 rfl (by unfold vp_in; decide) 12540 (by decide) d_Md_lands_36 (ws' := [(h0, .inr (12, (mF r t0 t1 t2 t3 t4 t5 t6 t7 t8 t9))), ((r 12), .inl (a 1, 81840, .inr (.inl (vp_updL f0 12540 0)))), ((r 13), .inl (a 0, 124, .inl f1)), ((r 14), .inl (a 0, 124, .inl f2)), ((r 15), .inl (a 1, 1400, .inr (.inl f3)))]) rfl (fun H locs w => ?_)
    refine lv_iinc (v := 1) (lv' := [(4, .int 1), (0, .ref h0), (1, .int 19), (2, .int 1), (3, .int 0)]) hx hb d_Md_lands_37 hl (k := 0) rfl (by decide) (by decide) rfl (fun ls hl => ?_)
    refine lv_goto (tgt := 3) hx hb d_Md_lands_40 (by decide) ?_
    refine lv_iload hx hb d_Md_lands_3 (lv_at hl 0 rfl) ?_
    refine lv_iload_n hx hb d_Md_lands_5 rfl (lv_at hl 3 rfl) ?_
    refine lv_icmp_ge (tgt := 43) hx hb d_Md_lands_6 (by decide) (fun _ => ?_) (fun h => absurd (by decide) h)
    refine lv_aload_n hx hb d_Md_lands_43 rfl (lv_at hl 1 rfl) ?_
    refine kx_get E w zC_Md 0 rfl 13 (by decide) mw_314 rfl d_Md_lands_44 ?_
    refine lv_iload_n hx hb d_Md_lands_47 rfl (lv_at hl 2 rfl) ?_
    refine lv_iload_n hx hb d_Md_lands_48 rfl (lv_at hl 3 rfl) ?_
    refine lv_sipush (v := 660) hx hb d_Md_lands_49 (by decide) ?_
    refine lv_icmp_ge (tgt := 59) hx hb d_Md_lands_52 (by decide) (fun h => absurd h (by decide)) (fun _ => ?_)
    refine lv_iload_n hx hb d_Md_lands_55 rfl (lv_at hl 3 rfl) ?_
    refine lv_goto (tgt := 62) hx hb d_Md_lands_56 (by decide) ?_
    refine kx_iast E w 2 rfl (by unfold vp_in; decide) 19 (by decide) d_Md_lands_62 (ws' := [(h0, .inr (12, (mF r t0 t1 t2 t3 t4 t5 t6 t7 t8 t9))), ((r 12), .inl (a 1, 81840, .inr (.inl (vp_updL f0 12540 0)))), ((r 13), .inl (a 0, 124, .inl (upd f1 19 1))), ((r 14), .inl (a 0, 124, .inl f2)), ((r 15), .inl (a 1, 1400, .inr (.inl f3)))]) rfl (fun H locs w => ?_)
    refine lv_aload_n hx hb d_Md_lands_63 rfl (lv_at hl 1 rfl) ?_
    refine kx_get E w zC_Md 0 rfl 14 (by decide) mw_315 rfl d_Md_lands_64 ?_
    refine lv_iload_n hx hb d_Md_lands_67 rfl (lv_at hl 2 rfl) ?_
    refine lv_iload_n hx hb d_Md_lands_68 rfl (lv_at hl 4 rfl) ?_
    refine kx_iast E w 3 rfl (by unfold vp_in; decide) 19 (by decide) d_Md_lands_69 (ws' := [(h0, .inr (12, (mF r t0 t1 t2 t3 t4 t5 t6 t7 t8 t9))), ((r 12), .inl (a 1, 81840, .inr (.inl (vp_updL f0 12540 0)))), ((r 13), .inl (a 0, 124, .inl (upd f1 19 1))), ((r 14), .inl (a 0, 124, .inl (upd f2 19 0))), ((r 15), .inl (a 1, 1400, .inr (.inl f3)))]) rfl (fun H locs w => ?_)
    refine lv_aload_n hx hb d_Md_lands_70 rfl (lv_at hl 1 rfl) ?_
    refine lv_iload_n hx hb d_Md_lands_71 rfl (lv_at hl 2 rfl) ?_
    refine kx_v E w (wc := [(h0, .inr (12, (mF r t0 t1 t2 t3 t4 t5 t6 t7 t8 t9))), ((r 12), .inl (a 1, 81840, .inr (.inl (vp_updL f0 12540 0)))), ((r 13), .inl (a 0, 124, .inl (upd f1 19 1))), ((r 14), .inl (a 0, 124, .inl (upd f2 19 0)))]) (wr := [((r 15), .inl (a 1, 1400, .inr (.inl f3)))]) [0, 1, 2, 3] [4] rfl rfl ⟨rfl, rfl, by decide⟩ (kx_rV E w hl.1 (As := [.int 19]) (wc := [(h0, .inr (12, (mF r t0 t1 t2 t3 t4 t5 t6 t7 t8 t9))), ((r 12), .inl (a 1, 81840, .inr (.inl (vp_updL f0 12540 0)))), ((r 13), .inl (a 0, 124, .inl (upd f1 19 1))), ((r 14), .inl (a 0, 124, .inl (upd f2 19 0)))]) (c_Md_fix_19_0_0 l D a h0 r t0 t1 t2 t3 t4 t5 t6 t7 t8 t9 (vp_updL f0 12540 0) (upd f1 19 1) (upd f2 19 0) ⟨rfl, rfl, rfl⟩ H.size) gc_55 gv_Md_fix (kRecv E w 12 0 rfl rfl) [0, 1, 2, 3] rfl rfl rfl rfl rfl ⟨(Nat.le_of_ble_eq_true rfl), (Nat.le_of_ble_eq_true rfl)⟩ rfl (Nat.le_of_ble_eq_true rfl) d_Md_lands_72 ⟨(Nat.le_of_ble_eq_true rfl), (Nat.le_of_ble_eq_true rfl)⟩) (fun u H locs hu w => ?_)
    obtain ⟨rfl⟩ := hu
    have w : kW D A s [((r 15), .inl (a 1, 1400, .inr (.inl f3))), (h0, .inr (12, (mF r t0 t1 t2 t3 t4 t5 t6 t7 t8 t9))), ((r 12), .inl (a 1, 81840, .inr (.inl (vp_updL f0 12540 0)))), ((r 13), .inl (a 0, 124, .inl (upd (upd f1 19 1) 19 0))), ((r 14), .inl (a 0, 124, .inl (upd (upd f2 19 0) 19 0)))] H locs := w
    refine W.widen (k := 0) (n := 0) (Nat.le_of_ble_eq_true rfl) (Nat.le_of_ble_eq_true rfl) ?_
    exact kx_vret E w hr hlk d_Md_lands_75 rfl)
set_option maxRecDepth 100000 in
set_option maxHeartbeats 4000000 in
theorem c_Md_lands_19_0_0 (l : Launch) (D : va_G) (a : Nat → ClassId) (h0 : Nat) (r : Nat → Nat) (t0 : Int32) (t1 : Int32) (t2 : Int32) (t3 : Int32) (t4 : Int32) (t5 : Int32) (t6 : Int32) (t7 : Int32) (t8 : Int32) (t9 : Int32) (f0 : Nat → Int64) (f1 : Nat → Int32) (f2 : Nat → Int32) (f3 : Nat → Int64) : ∀ sz : Nat, Met l y_Md_lands (Cond.code y_Md_lands b_Md_lands 5 none :: wA) ({ frames := 1, cells := 0, slots := 0, locals := 21 } : Room) (va_Pc [.ref h0, .int 19, .int 0, .int 0] (kP D a [(h0, .inr (12, (mF r t0 t1 t2 t3 t4 t5 t6 t7 t8 t9))), ((r 12), .inl (a 1, 81840, .inr (.inl f0))), ((r 13), .inl (a 0, 124, .inl f1)), ((r 14), .inl (a 0, 124, .inl f2)), ((r 15), .inl (a 1, 1400, .inr (.inl f3)))] sz)) (va_Qv (fun u : va_W => u = [((r 15), .inl (a 1, 1400, .inr (.inl f3))), (h0, .inr (12, (mF r t0 t1 t2 t3 t4 t5 t6 t7 t8 t9))), ((r 12), .inl (a 1, 81840, .inr (.inl f0))), ((r 13), .inl (a 0, 124, .inl (upd f1 19 0))), ((r 14), .inl (a 0, 124, .inl (upd (upd f2 19 0) 19 0)))]) (kB D a (va_A [(h0, .inr (12, (mF r t0 t1 t2 t3 t4 t5 t6 t7 t8 t9))), ((r 12), .inl (a 1, 81840, .inr (.inl f0))), ((r 13), .inl (a 0, 124, .inl f1)), ((r 14), .inl (a 0, 124, .inl f2)), ((r 15), .inl (a 1, 1400, .inr (.inl f3)))] sz)) (va_A [(h0, .inr (12, (mF r t0 t1 t2 t3 t4 t5 t6 t7 t8 t9))), ((r 12), .inl (a 1, 81840, .inr (.inl f0))), ((r 13), .inl (a 0, 124, .inl f1)), ((r 14), .inl (a 0, 124, .inl f2)), ((r 15), .inl (a 1, 1400, .inr (.inl f3)))] sz)) 0 0 (va_A [(h0, .inr (12, (mF r t0 t1 t2 t3 t4 t5 t6 t7 t8 t9))), ((r 12), .inl (a 1, 81840, .inr (.inl f0))), ((r 13), .inl (a 0, 124, .inl f1)), ((r 14), .inl (a 0, 124, .inl f2)), ((r 15), .inl (a 1, 1400, .inr (.inl f3)))] sz) :=
  kM (Qc := fun A => va_Qv (fun u : va_W => u = [((r 15), .inl (a 1, 1400, .inr (.inl f3))), (h0, .inr (12, (mF r t0 t1 t2 t3 t4 t5 t6 t7 t8 t9))), ((r 12), .inl (a 1, 81840, .inr (.inl f0))), ((r 13), .inl (a 0, 124, .inl (upd f1 19 0))), ((r 14), .inl (a 0, 124, .inl (upd (upd f2 19 0) 19 0)))]) (kB D a A) A) (by decide) (Nat.le_of_ble_eq_true rfl) (by
    intro p e s m below meth c A ls H locs E hr hlk hnm w hl
    have hx := E.1.1
    have hb := E.1.2.1
    have E : kE p m c b_Md_lands 5 s [.ref h0, .int 19, .int 0, .int 0].toArray "RootAlgebraModel" D a A := E
    have hl : lv_has ls 5 [(0, .ref h0), (1, .int 19), (2, .int 0), (3, .int 0)] := hl
    refine lv_iconst (v := 0) hx hb d_Md_lands_0 (by decide) ?_
    refine lv_istore (lv' := [(4, .int 0), (0, .ref h0), (1, .int 19), (2, .int 0), (3, .int 0)]) hx hb d_Md_lands_1 hl (by decide) rfl (fun ls hl => ?_)
    refine lv_iload hx hb d_Md_lands_3 (lv_at hl 0 rfl) ?_
    refine lv_iload_n hx hb d_Md_lands_5 rfl (lv_at hl 3 rfl) ?_
    refine lv_icmp_ge (tgt := 43) hx hb d_Md_lands_6 (by decide) (fun _ => ?_) (fun h => absurd (by decide) h)
    refine lv_aload_n hx hb d_Md_lands_43 rfl (lv_at hl 1 rfl) ?_
    refine kx_get E w zC_Md 0 rfl 13 (by decide) mw_314 rfl d_Md_lands_44 ?_
    refine lv_iload_n hx hb d_Md_lands_47 rfl (lv_at hl 2 rfl) ?_
    refine lv_iload_n hx hb d_Md_lands_48 rfl (lv_at hl 3 rfl) ?_
    refine lv_sipush (v := 660) hx hb d_Md_lands_49 (by decide) ?_
    refine lv_icmp_ge (tgt := 59) hx hb d_Md_lands_52 (by decide) (fun h => absurd h (by decide)) (fun _ => ?_)
    refine lv_iload_n hx hb d_Md_lands_55 rfl (lv_at hl 3 rfl) ?_
    refine lv_goto (tgt := 62) hx hb d_Md_lands_56 (by decide) ?_
    refine kx_iast E w 2 rfl (by unfold vp_in; decide) 19 (by decide) d_Md_lands_62 (ws' := [(h0, .inr (12, (mF r t0 t1 t2 t3 t4 t5 t6 t7 t8 t9))), ((r 12), .inl (a 1, 81840, .inr (.inl f0))), ((r 13), .inl (a 0, 124, .inl (upd f1 19 0))), ((r 14), .inl (a 0, 124, .inl f2)), ((r 15), .inl (a 1, 1400, .inr (.inl f3)))]) rfl (fun H locs w => ?_)
    refine lv_aload_n hx hb d_Md_lands_63 rfl (lv_at hl 1 rfl) ?_
    refine kx_get E w zC_Md 0 rfl 14 (by decide) mw_315 rfl d_Md_lands_64 ?_
    refine lv_iload_n hx hb d_Md_lands_67 rfl (lv_at hl 2 rfl) ?_
    refine lv_iload_n hx hb d_Md_lands_68 rfl (lv_at hl 4 rfl) ?_
    refine kx_iast E w 3 rfl (by unfold vp_in; decide) 19 (by decide) d_Md_lands_69 (ws' := [(h0, .inr (12, (mF r t0 t1 t2 t3 t4 t5 t6 t7 t8 t9))), ((r 12), .inl (a 1, 81840, .inr (.inl f0))), ((r 13), .inl (a 0, 124, .inl (upd f1 19 0))), ((r 14), .inl (a 0, 124, .inl (upd f2 19 0))), ((r 15), .inl (a 1, 1400, .inr (.inl f3)))]) rfl (fun H locs w => ?_)
    refine lv_aload_n hx hb d_Md_lands_70 rfl (lv_at hl 1 rfl) ?_
    refine lv_iload_n hx hb d_Md_lands_71 rfl (lv_at hl 2 rfl) ?_
    refine kx_v E w (wc := [(h0, .inr (12, (mF r t0 t1 t2 t3 t4 t5 t6 t7 t8 t9))), ((r 12), .inl (a 1, 81840, .inr (.inl f0))), ((r 13), .inl (a 0, 124, .inl (upd f1 19 0))), ((r 14), .inl (a 0, 124, .inl (upd f2 19 0)))]) (wr := [((r 15), .inl (a 1, 1400, .inr (.inl f3)))]) [0, 1, 2, 3] [4] rfl rfl ⟨rfl, rfl, by decide⟩ (kx_rV E w hl.1 (As := [.int 19]) (wc := [(h0, .inr (12, (mF r t0 t1 t2 t3 t4 t5 t6 t7 t8 t9))), ((r 12), .inl (a 1, 81840, .inr (.inl f0))), ((r 13), .inl (a 0, 124, .inl (upd f1 19 0))), ((r 14), .inl (a 0, 124, .inl (upd f2 19 0)))]) (c_Md_fix_19_e_0 l D a h0 r t0 t1 t2 t3 t4 t5 t6 t7 t8 t9 f0 (upd f1 19 0) (upd f2 19 0) ⟨rfl, rfl⟩ H.size) gc_55 gv_Md_fix (kRecv E w 12 0 rfl rfl) [0, 1, 2, 3] rfl rfl rfl rfl rfl ⟨(Nat.le_of_ble_eq_true rfl), (Nat.le_of_ble_eq_true rfl)⟩ rfl (Nat.le_of_ble_eq_true rfl) d_Md_lands_72 ⟨(Nat.le_of_ble_eq_true rfl), (Nat.le_of_ble_eq_true rfl)⟩) (fun u H locs hu w => ?_)
    obtain ⟨rfl⟩ := hu
    have w : kW D A s [((r 15), .inl (a 1, 1400, .inr (.inl f3))), (h0, .inr (12, (mF r t0 t1 t2 t3 t4 t5 t6 t7 t8 t9))), ((r 12), .inl (a 1, 81840, .inr (.inl f0))), ((r 13), .inl (a 0, 124, .inl (upd f1 19 0))), ((r 14), .inl (a 0, 124, .inl (upd (upd f2 19 0) 19 0)))] H locs := w
    refine W.widen (k := 0) (n := 0) (Nat.le_of_ble_eq_true rfl) (Nat.le_of_ble_eq_true rfl) ?_
    exact kx_vret E w hr hlk d_Md_lands_75 rfl)
set_option maxRecDepth 100000 in
set_option maxHeartbeats 4000000 in
theorem c_Md_lands_19_1_1 (l : Launch) (D : va_G) (a : Nat → ClassId) (h0 : Nat) (r : Nat → Nat) (t0 : Int32) (t1 : Int32) (t2 : Int32) (t3 : Int32) (t4 : Int32) (t5 : Int32) (t6 : Int32) (t7 : Int32) (t8 : Int32) (t9 : Int32) (f0 : Nat → Int64) (f1 : Nat → Int32) (f2 : Nat → Int32) (f3 : Nat → Int64) (hf : f3 0 = 0) : ∀ sz : Nat, Met l y_Md_lands (Cond.code y_Md_lands b_Md_lands 5 none :: wA) ({ frames := 1, cells := 0, slots := 0, locals := 21 } : Room) (va_Pc [.ref h0, .int 19, .int 1, .int 1] (kP D a [(h0, .inr (12, (mF r t0 t1 t2 t3 t4 t5 t6 t7 t8 t9))), ((r 12), .inl (a 1, 81840, .inr (.inl f0))), ((r 13), .inl (a 0, 124, .inl f1)), ((r 14), .inl (a 0, 124, .inl f2)), ((r 15), .inl (a 1, 1400, .inr (.inl f3)))] sz)) (va_Qv (fun u : va_W => u = [((r 15), .inl (a 1, 1400, .inr (.inl f3))), (h0, .inr (12, (mF r t0 t1 t2 t3 t4 t5 t6 t7 t8 t9))), ((r 12), .inl (a 1, 81840, .inr (.inl (vp_updL f0 12540 0)))), ((r 13), .inl (a 0, 124, .inl (upd (upd f1 19 1) 19 0))), ((r 14), .inl (a 0, 124, .inl (upd (upd f2 19 1) 19 0)))]) (kB D a (va_A [(h0, .inr (12, (mF r t0 t1 t2 t3 t4 t5 t6 t7 t8 t9))), ((r 12), .inl (a 1, 81840, .inr (.inl f0))), ((r 13), .inl (a 0, 124, .inl f1)), ((r 14), .inl (a 0, 124, .inl f2)), ((r 15), .inl (a 1, 1400, .inr (.inl f3)))] sz)) (va_A [(h0, .inr (12, (mF r t0 t1 t2 t3 t4 t5 t6 t7 t8 t9))), ((r 12), .inl (a 1, 81840, .inr (.inl f0))), ((r 13), .inl (a 0, 124, .inl f1)), ((r 14), .inl (a 0, 124, .inl f2)), ((r 15), .inl (a 1, 1400, .inr (.inl f3)))] sz)) 0 0 (va_A [(h0, .inr (12, (mF r t0 t1 t2 t3 t4 t5 t6 t7 t8 t9))), ((r 12), .inl (a 1, 81840, .inr (.inl f0))), ((r 13), .inl (a 0, 124, .inl f1)), ((r 14), .inl (a 0, 124, .inl f2)), ((r 15), .inl (a 1, 1400, .inr (.inl f3)))] sz) :=
  kM (Qc := fun A => va_Qv (fun u : va_W => u = [((r 15), .inl (a 1, 1400, .inr (.inl f3))), (h0, .inr (12, (mF r t0 t1 t2 t3 t4 t5 t6 t7 t8 t9))), ((r 12), .inl (a 1, 81840, .inr (.inl (vp_updL f0 12540 0)))), ((r 13), .inl (a 0, 124, .inl (upd (upd f1 19 1) 19 0))), ((r 14), .inl (a 0, 124, .inl (upd (upd f2 19 1) 19 0)))]) (kB D a A) A) (by decide) (Nat.le_of_ble_eq_true rfl) (by
    intro p e s m below meth c A ls H locs E hr hlk hnm w hl
    have hx := E.1.1
    have hb := E.1.2.1
    have E : kE p m c b_Md_lands 5 s [.ref h0, .int 19, .int 1, .int 1].toArray "RootAlgebraModel" D a A := E
    have hl : lv_has ls 5 [(0, .ref h0), (1, .int 19), (2, .int 1), (3, .int 1)] := hl
    refine lv_iconst (v := 0) hx hb d_Md_lands_0 (by decide) ?_
    refine lv_istore (lv' := [(4, .int 0), (0, .ref h0), (1, .int 19), (2, .int 1), (3, .int 1)]) hx hb d_Md_lands_1 hl (by decide) rfl (fun ls hl => ?_)
    refine lv_iload hx hb d_Md_lands_3 (lv_at hl 0 rfl) ?_
    refine lv_iload_n hx hb d_Md_lands_5 rfl (lv_at hl 3 rfl) ?_
    refine lv_icmp_ge (tgt := 43) hx hb d_Md_lands_6 (by decide) (fun h => absurd h (by decide)) (fun _ => ?_)
    refine lv_iload hx hb d_Md_lands_9 (lv_at hl 0 rfl) ?_
    refine lv_sipush (v := 660) hx hb d_Md_lands_11 (by decide) ?_
    refine lv_icmp_ge (tgt := 43) hx hb d_Md_lands_14 (by decide) (fun h => absurd h (by decide)) (fun _ => ?_)
    refine lv_aload_n hx hb d_Md_lands_17 rfl (lv_at hl 1 rfl) ?_
    refine kx_get E w zC_Md 0 rfl 12 (by decide) mw_313 rfl d_Md_lands_18 ?_
    refine lv_sipush (v := 660) hx hb d_Md_lands_21 (by decide) ?_
    refine lv_iload_n hx hb d_Md_lands_24 rfl (lv_at hl 2 rfl) ?_
    refine kx_imul (v := 12540) hx hb d_Md_lands_25 (by decide) ?_
    refine lv_iload hx hb d_Md_lands_26 (lv_at hl 0 rfl) ?_
    refine kx_iadd (v := 12540) hx hb d_Md_lands_28 (by decide) ?_
    refine lv_aload_n hx hb d_Md_lands_29 rfl (lv_at hl 1 rfl) ?_
    refine kx_get E w zC_Md 0 rfl 15 (by decide) mw_316 rfl d_Md_lands_30 ?_
    refine lv_iload hx hb d_Md_lands_33 (lv_at hl 0 rfl) ?_
    refine kx_lald E w 4 rfl (by unfold vp_in; decide) (v := 0) hf d_Md_lands_35 ?_
    refine kx_last E w 1 rfl (by unfold vp_in; decide) 12540 (by decide) d_Md_lands_36 (ws' := [(h0, .inr (12, (mF r t0 t1 t2 t3 t4 t5 t6 t7 t8 t9))), ((r 12), .inl (a 1, 81840, .inr (.inl (vp_updL f0 12540 0)))), ((r 13), .inl (a 0, 124, .inl f1)), ((r 14), .inl (a 0, 124, .inl f2)), ((r 15), .inl (a 1, 1400, .inr (.inl f3)))]) rfl (fun H locs w => ?_)
    refine lv_iinc (v := 1) (lv' := [(4, .int 1), (0, .ref h0), (1, .int 19), (2, .int 1), (3, .int 1)]) hx hb d_Md_lands_37 hl (k := 0) rfl (by decide) (by decide) rfl (fun ls hl => ?_)
    refine lv_goto (tgt := 3) hx hb d_Md_lands_40 (by decide) ?_
    refine lv_iload hx hb d_Md_lands_3 (lv_at hl 0 rfl) ?_
    refine lv_iload_n hx hb d_Md_lands_5 rfl (lv_at hl 3 rfl) ?_
    refine lv_icmp_ge (tgt := 43) hx hb d_Md_lands_6 (by decide) (fun _ => ?_) (fun h => absurd (by decide) h)
    refine lv_aload_n hx hb d_Md_lands_43 rfl (lv_at hl 1 rfl) ?_
    refine kx_get E w zC_Md 0 rfl 13 (by decide) mw_314 rfl d_Md_lands_44 ?_
    refine lv_iload_n hx hb d_Md_lands_47 rfl (lv_at hl 2 rfl) ?_
    refine lv_iload_n hx hb d_Md_lands_48 rfl (lv_at hl 3 rfl) ?_
    refine lv_sipush (v := 660) hx hb d_Md_lands_49 (by decide) ?_
    refine lv_icmp_ge (tgt := 59) hx hb d_Md_lands_52 (by decide) (fun h => absurd h (by decide)) (fun _ => ?_)
    refine lv_iload_n hx hb d_Md_lands_55 rfl (lv_at hl 3 rfl) ?_
    refine lv_goto (tgt := 62) hx hb d_Md_lands_56 (by decide) ?_
    refine kx_iast E w 2 rfl (by unfold vp_in; decide) 19 (by decide) d_Md_lands_62 (ws' := [(h0, .inr (12, (mF r t0 t1 t2 t3 t4 t5 t6 t7 t8 t9))), ((r 12), .inl (a 1, 81840, .inr (.inl (vp_updL f0 12540 0)))), ((r 13), .inl (a 0, 124, .inl (upd f1 19 1))), ((r 14), .inl (a 0, 124, .inl f2)), ((r 15), .inl (a 1, 1400, .inr (.inl f3)))]) rfl (fun H locs w => ?_)
    refine lv_aload_n hx hb d_Md_lands_63 rfl (lv_at hl 1 rfl) ?_
    refine kx_get E w zC_Md 0 rfl 14 (by decide) mw_315 rfl d_Md_lands_64 ?_
    refine lv_iload_n hx hb d_Md_lands_67 rfl (lv_at hl 2 rfl) ?_
    refine lv_iload_n hx hb d_Md_lands_68 rfl (lv_at hl 4 rfl) ?_
    refine kx_iast E w 3 rfl (by unfold vp_in; decide) 19 (by decide) d_Md_lands_69 (ws' := [(h0, .inr (12, (mF r t0 t1 t2 t3 t4 t5 t6 t7 t8 t9))), ((r 12), .inl (a 1, 81840, .inr (.inl (vp_updL f0 12540 0)))), ((r 13), .inl (a 0, 124, .inl (upd f1 19 1))), ((r 14), .inl (a 0, 124, .inl (upd f2 19 1))), ((r 15), .inl (a 1, 1400, .inr (.inl f3)))]) rfl (fun H locs w => ?_)
    refine lv_aload_n hx hb d_Md_lands_70 rfl (lv_at hl 1 rfl) ?_
    refine lv_iload_n hx hb d_Md_lands_71 rfl (lv_at hl 2 rfl) ?_
    refine kx_v E w (wc := [(h0, .inr (12, (mF r t0 t1 t2 t3 t4 t5 t6 t7 t8 t9))), ((r 12), .inl (a 1, 81840, .inr (.inl (vp_updL f0 12540 0)))), ((r 13), .inl (a 0, 124, .inl (upd f1 19 1))), ((r 14), .inl (a 0, 124, .inl (upd f2 19 1)))]) (wr := [((r 15), .inl (a 1, 1400, .inr (.inl f3)))]) [0, 1, 2, 3] [4] rfl rfl ⟨rfl, rfl, by decide⟩ (kx_rV E w hl.1 (As := [.int 19]) (wc := [(h0, .inr (12, (mF r t0 t1 t2 t3 t4 t5 t6 t7 t8 t9))), ((r 12), .inl (a 1, 81840, .inr (.inl (vp_updL f0 12540 0)))), ((r 13), .inl (a 0, 124, .inl (upd f1 19 1))), ((r 14), .inl (a 0, 124, .inl (upd f2 19 1)))]) (c_Md_fix_19_0_1 l D a h0 r t0 t1 t2 t3 t4 t5 t6 t7 t8 t9 (vp_updL f0 12540 0) (upd f1 19 1) (upd f2 19 1) ⟨rfl, rfl, rfl⟩ H.size) gc_55 gv_Md_fix (kRecv E w 12 0 rfl rfl) [0, 1, 2, 3] rfl rfl rfl rfl rfl ⟨(Nat.le_of_ble_eq_true rfl), (Nat.le_of_ble_eq_true rfl)⟩ rfl (Nat.le_of_ble_eq_true rfl) d_Md_lands_72 ⟨(Nat.le_of_ble_eq_true rfl), (Nat.le_of_ble_eq_true rfl)⟩) (fun u H locs hu w => ?_)
    obtain ⟨rfl⟩ := hu
    have w : kW D A s [((r 15), .inl (a 1, 1400, .inr (.inl f3))), (h0, .inr (12, (mF r t0 t1 t2 t3 t4 t5 t6 t7 t8 t9))), ((r 12), .inl (a 1, 81840, .inr (.inl (vp_updL f0 12540 0)))), ((r 13), .inl (a 0, 124, .inl (upd (upd f1 19 1) 19 0))), ((r 14), .inl (a 0, 124, .inl (upd (upd f2 19 1) 19 0)))] H locs := w
    refine W.widen (k := 0) (n := 0) (Nat.le_of_ble_eq_true rfl) (Nat.le_of_ble_eq_true rfl) ?_
    exact kx_vret E w hr hlk d_Md_lands_75 rfl)
