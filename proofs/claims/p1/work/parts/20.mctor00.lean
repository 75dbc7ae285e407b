/-! laid by program (wip/gen) -/
def mF (r : Nat → Nat) (t0 t1 t2 t3 t4 t5 t6 t7 t8 t9 : Int32) : List Value := [.int t0, .ref (r 1), .int t1, .ref (r 3), .int t2, .int t3, .int t4, .ref (r 7), .ref (r 8), .ref (r 9), .ref (r 10), .ref (r 11), .ref (r 12), .ref (r 13), .ref (r 14), .ref (r 15), .ref (r 16), .ref (r 17), .ref (r 18), .int 0, .ref (r 20), .ref (r 21), .ref (r 22), .ref (r 23), .ref (r 24), .ref (r 25), .ref (r 26), .ref (r 27), .ref (r 28), .ref (r 29), .long 1, .int 0, .ref (r 32), .ref (r 33), .ref (r 34), .ref (r 35), .ref (r 36), .ref (r 37), .ref (r 38), .ref (r 39), .ref (r 40), .ref (r 41), .int 0, .int 0, .ref (r 44), .int 0, .int 0, .int 0, .int 0, .int 0, .int 0, .ref (r 51), .int t5, .ref (r 53), .ref (r 54), .int t6, .ref (r 56), .ref (r 57), .int t7, .int t8, .int t9, .int 0, .int 0, .ref (r 63), .ref (r 64)]
set_option maxRecDepth 100000 in
set_option maxHeartbeats 4000000 in
theorem c_Md_number0 (l : Launch) (D : va_G) (a : Nat → ClassId) (h0 : Nat) (r : Nat → Nat) (t0 : Int32) (t1 : Int32) (t2 : Int32) (t3 : Int32) (t4 : Int32) (t5 : Int32) (t6 : Int32) (t7 : Int32) (t8 : Int32) (t9 : Int32) : ∀ sz : Nat, Met l y_Md_number (Cond.code y_Md_number b_Md_number 4 none :: wA) ({ frames := 0, cells := 0, slots := 0, locals := 0 } : Room) (va_Pc [.ref h0, .int 16, .long 0] (kP D a [(h0, .inr (12, (mF r t0 t1 t2 t3 t4 t5 t6 t7 t8 t9))), ((r 7), .inl (a 3, 80, .inl (fun _ => 0))), ((r 8), .inl (a 0, 80, .inl (fun _ => 0))), ((r 9), .inl (a 1, 560, .inr (.inl (fun _ => 0)))), ((r 10), .inl (a 0, 80, .inl (fun _ => 0))), ((r 11), .inl (a 0, 80, .inl (fun _ => 0)))] sz)) (va_Qv (fun u : va_W => u = [(h0, .inr (12, (mF r t0 t1 t2 t3 t4 t5 t6 t7 t8 t9))), ((r 7), .inl (a 3, 80, .inl (upd (fun _ => 0) 16 1))), ((r 8), .inl (a 0, 80, .inl (upd (fun _ => 0) 16 1))), ((r 9), .inl (a 1, 560, .inr (.inl (vp_updL (vp_updL (fun _ => 0) 112 0) 113 1)))), ((r 10), .inl (a 0, 80, .inl (upd (fun _ => 0) 16 0))), ((r 11), .inl (a 0, 80, .inl (upd (fun _ => 0) 16 1)))]) (kB D a (va_A [(h0, .inr (12, (mF r t0 t1 t2 t3 t4 t5 t6 t7 t8 t9))), ((r 7), .inl (a 3, 80, .inl (fun _ => 0))), ((r 8), .inl (a 0, 80, .inl (fun _ => 0))), ((r 9), .inl (a 1, 560, .inr (.inl (fun _ => 0)))), ((r 10), .inl (a 0, 80, .inl (fun _ => 0))), ((r 11), .inl (a 0, 80, .inl (fun _ => 0)))] sz)) (va_A [(h0, .inr (12, (mF r t0 t1 t2 t3 t4 t5 t6 t7 t8 t9))), ((r 7), .inl (a 3, 80, .inl (fun _ => 0))), ((r 8), .inl (a 0, 80, .inl (fun _ => 0))), ((r 9), .inl (a 1, 560, .inr (.inl (fun _ => 0)))), ((r 10), .inl (a 0, 80, .inl (fun _ => 0))), ((r 11), .inl (a 0, 80, .inl (fun _ => 0)))] sz)) 0 0 (va_A [(h0, .inr (12, (mF r t0 t1 t2 t3 t4 t5 t6 t7 t8 t9))), ((r 7), .inl (a 3, 80, .inl (fun _ => 0))), ((r 8), .inl (a 0, 80, .inl (fun _ => 0))), ((r 9), .inl (a 1, 560, .inr (.inl (fun _ => 0)))), ((r 10), .inl (a 0, 80, .inl (fun _ => 0))), ((r 11), .inl (a 0, 80, .inl (fun _ => 0)))] sz) :=
  kM (Qc := fun A => va_Qv (fun u : va_W => u = [(h0, .inr (12, (mF r t0 t1 t2 t3 t4 t5 t6 t7 t8 t9))), ((r 7), .inl (a 3, 80, .inl (upd (fun _ => 0) 16 1))), ((r 8), .inl (a 0, 80, .inl (upd (fun _ => 0) 16 1))), ((r 9), .inl (a 1, 560, .inr (.inl (vp_updL (vp_updL (fun _ => 0) 112 0) 113 1)))), ((r 10), .inl (a 0, 80, .inl (upd (fun _ => 0) 16 0))), ((r 11), .inl (a 0, 80, .inl (upd (fun _ => 0) 16 1)))]) (kB D a A) A) (by decide) (Nat.le_of_ble_eq_true rfl) (by
    intro p e s m below meth c A ls H locs E hr hlk hnm w hl
    have hx := E.1.1
    have hb := E.1.2.1
    have E : kE p m c b_Md_number 4 s [.ref h0, .int 16, .long 0].toArray "RootAlgebraModel" D a A := E
    have hl : lv_has ls 4 [(0, .ref h0), (1, .int 16), (2, .long 0)] := hl
    refine lv_aload_n hx hb d_Md_number_0 rfl (lv_at hl 0 rfl) ?_
    refine kx_get E w zC_Md 0 rfl 7 (by decide) mw_301 rfl d_Md_number_1 ?_
    refine lv_iload_n hx hb d_Md_number_4 rfl (lv_at hl 1 rfl) ?_
    refine lv_iconst (v := 1) hx hb d_Md_number_5 (by decide) ?_
    refine kx_zast E w 1 rfl (z' := 1) (by unfold vp_in; decide) 16 (by decide) (by decide) d_Md_number_6 (ws' := [(h0, .inr (12, (mF r t0 t1 t2 t3 t4 t5 t6 t7 t8 t9))), ((r 7), .inl (a 3, 80, .inl (upd (fun _ => 0) 16 1))), ((r 8), .inl (a 0, 80, .inl (fun _ => 0))), ((r 9), .inl (a 1, 560, .inr (.inl (fun _ => 0)))), ((r 10), .inl (a 0, 80, .inl (fun _ => 0))), ((r 11), .inl (a 0, 80, .inl (fun _ => 0)))]) rfl (fun H locs w => ?_)
    refine lv_aload_n hx hb d_Md_number_7 rfl (lv_at hl 0 rfl) ?_
    refine kx_get E w zC_Md 0 rfl 8 (by decide) mw_302 rfl d_Md_number_8 ?_
    refine lv_iload_n hx hb d_Md_number_11 rfl (lv_at hl 1 rfl) ?_
    refine lv_iconst (v := 1) hx hb d_Md_number_12 (by decide) ?_
    refine kx_iast E w 2 rfl (by unfold vp_in; decide) 16 (by decide) d_Md_number_13 (ws' := [(h0, .inr (12, (mF r t0 t1 t2 t3 t4 t5 t6 t7 t8 t9))), ((r 7), .inl (a 3, 80, .inl (upd (fun _ => 0) 16 1))), ((r 8), .inl (a 0, 80, .inl (upd (fun _ => 0) 16 1))), ((r 9), .inl (a 1, 560, .inr (.inl (fun _ => 0)))), ((r 10), .inl (a 0, 80, .inl (fun _ => 0))), ((r 11), .inl (a 0, 80, .inl (fun _ => 0)))]) rfl (fun H locs w => ?_)
    refine lv_aload_n hx hb d_Md_number_14 rfl (lv_at hl 0 rfl) ?_
    refine kx_get E w zC_Md 0 rfl 9 (by decide) mw_303 rfl d_Md_number_15 ?_
    refine lv_bipush (v := 7) hx hb d_Md_number_18 (by decide) ?_
    refine lv_iload_n hx hb d_Md_number_20 rfl (lv_at hl 1 rfl) ?_
    refine kx_imul (v := 112) hx hb d_Md_number_21 (by decide) ?_
    refine lv_lload_n hx hb d_Md_number_22 rfl (lv_at hl 2 rfl) ?_
    refine kx_lneg (v := 0) hx hb d_Md_number_23 (by decide) ?_
    refine kx_last E w 3 rfl (by unfold vp_in; decide) 112 (by decide) d_Md_number_24 (ws' := [(h0, .inr (12, (mF r t0 t1 t2 t3 t4 t5 t6 t7 t8 t9))), ((r 7), .inl (a 3, 80, .inl (upd (fun _ => 0) 16 1))), ((r 8), .inl (a 0, 80, .inl (upd (fun _ => 0) 16 1))), ((r 9), .inl (a 1, 560, .inr (.inl (vp_updL (fun _ => 0) 112 0)))), ((r 10), .inl (a 0, 80, .inl (fun _ => 0))), ((r 11), .inl (a 0, 80, .inl (fun _ => 0)))]) rfl (fun H locs w => ?_)
    refine lv_aload_n hx hb d_Md_number_25 rfl (lv_at hl 0 rfl) ?_
    refine kx_get E w zC_Md 0 rfl 9 (by decide) mw_303 rfl d_Md_number_26 ?_
    refine lv_bipush (v := 7) hx hb d_Md_number_29 (by decide) ?_
    refine lv_iload_n hx hb d_Md_number_31 rfl (lv_at hl 1 rfl) ?_
    refine kx_imul (v := 112) hx hb d_Md_number_32 (by decide) ?_
    refine lv_iconst (v := 1) hx hb d_Md_number_33 (by decide) ?_
    refine kx_iadd (v := 113) hx hb d_Md_number_34 (by decide) ?_
    refine lv_lconst (v := 1) hx hb d_Md_number_35 (by decide) ?_
    refine kx_last E w 3 rfl (by unfold vp_in; decide) 113 (by decide) d_Md_number_36 (ws' := [(h0, .inr (12, (mF r t0 t1 t2 t3 t4 t5 t6 t7 t8 t9))), ((r 7), .inl (a 3, 80, .inl (upd (fun _ => 0) 16 1))), ((r 8), .inl (a 0, 80, .inl (upd (fun _ => 0) 16 1))), ((r 9), .inl (a 1, 560, .inr (.inl (vp_updL (vp_updL (fun _ => 0) 112 0) 113 1)))), ((r 10), .inl (a 0, 80, .inl (fun _ => 0))), ((r 11), .inl (a 0, 80, .inl (fun _ => 0)))]) rfl (fun H locs w => ?_)
    refine lv_aload_n hx hb d_Md_number_37 rfl (lv_at hl 0 rfl) ?_
    refine kx_get E w zC_Md 0 rfl 10 (by decide) mw_304 rfl d_Md_number_38 ?_
    refine lv_iload_n hx hb d_Md_number_41 rfl (lv_at hl 1 rfl) ?_
    refine lv_iconst (v := 0) hx hb d_Md_number_42 (by decide) ?_
    refine kx_iast E w 4 rfl (by unfold vp_in; decide) 16 (by decide) d_Md_number_43 (ws' := [(h0, .inr (12, (mF r t0 t1 t2 t3 t4 t5 t6 t7 t8 t9))), ((r 7), .inl (a 3, 80, .inl (upd (fun _ => 0) 16 1))), ((r 8), .inl (a 0, 80, .inl (upd (fun _ => 0) 16 1))), ((r 9), .inl (a 1, 560, .inr (.inl (vp_updL (vp_updL (fun _ => 0) 112 0) 113 1)))), ((r 10), .inl (a 0, 80, .inl (upd (fun _ => 0) 16 0))), ((r 11), .inl (a 0, 80, .inl (fun _ => 0)))]) rfl (fun H locs w => ?_)
    refine lv_aload_n hx hb d_Md_number_44 rfl (lv_at hl 0 rfl) ?_
    refine kx_get E w zC_Md 0 rfl 11 (by decide) mw_305 rfl d_Md_number_45 ?_
    refine lv_iload_n hx hb d_Md_number_48 rfl (lv_at hl 1 rfl) ?_
    refine lv_iconst (v := 1) hx hb d_Md_number_49 (by decide) ?_
    refine kx_iast E w 5 rfl (by unfold vp_in; decide) 16 (by decide) d_Md_number_50 (ws' := [(h0, .inr (12, (mF r t0 t1 t2 t3 t4 t5 t6 t7 t8 t9))), ((r 7), .inl (a 3, 80, .inl (upd (fun _ => 0) 16 1))), ((r 8), .inl (a 0, 80, .inl (upd (fun _ => 0) 16 1))), ((r 9), .inl (a 1, 560, .inr (.inl (vp_updL (vp_updL (fun _ => 0) 112 0) 113 1)))), ((r 10), .inl (a 0, 80, .inl (upd (fun _ => 0) 16 0))), ((r 11), .inl (a 0, 80, .inl (upd (fun _ => 0) 16 1)))]) rfl (fun H locs w => ?_)
    refine W.widen (k := 0) (n := 0) (Nat.le_of_ble_eq_true rfl) (Nat.le_of_ble_eq_true rfl) ?_
    exact kx_vret E w hr hlk d_Md_number_51 rfl)
set_option maxRecDepth 100000 in
set_option maxHeartbeats 4000000 in
theorem c_Md_seats (l : Launch) (D : va_G) (a : Nat → ClassId) (h0 : Nat) (r : Nat → Nat) (t0 : Int32) (t1 : Int32) (t2 : Int32) (t3 : Int32) (t4 : Int32) (t5 : Int32) (t6 : Int32) (t7 : Int32) (t8 : Int32) (t9 : Int32) : ∀ sz : Nat, Met l y_Md_seats (Cond.code y_Md_seats b_Md_seats 1 none :: wA) ({ frames := 0, cells := 0, slots := 0, locals := 0 } : Room) (va_Pc [.ref h0] (kP D a [(h0, .inr (12, (mF r t0 t1 t2 t3 t4 t5 t6 t7 t8 t9))), ((r 20), .inl (a 0, 2, .inl (fun _ => 0))), ((r 22), .inl (a 0, 2, .inl (fun _ => 0)))] sz)) (va_Qv (fun u : va_W => u = [(h0, .inr (12, (mF r t0 t1 t2 t3 t4 t5 t6 t7 t8 t9))), ((r 20), .inl (a 0, 2, .inl (upd (upd (fun _ => 0) 0 101) 1 110))), ((r 22), .inl (a 0, 2, .inl (upd (upd (fun _ => 0) 0 119) 1 120)))]) (kB D a (va_A [(h0, .inr (12, (mF r t0 t1 t2 t3 t4 t5 t6 t7 t8 t9))), ((r 20), .inl (a 0, 2, .inl (fun _ => 0))), ((r 22), .inl (a 0, 2, .inl (fun _ => 0)))] sz)) (va_A [(h0, .inr (12, (mF r t0 t1 t2 t3 t4 t5 t6 t7 t8 t9))), ((r 20), .inl (a 0, 2, .inl (fun _ => 0))), ((r 22), .inl (a 0, 2, .inl (fun _ => 0)))] sz)) 0 0 (va_A [(h0, .inr (12, (mF r t0 t1 t2 t3 t4 t5 t6 t7 t8 t9))), ((r 20), .inl (a 0, 2, .inl (fun _ => 0))), ((r 22), .inl (a 0, 2, .inl (fun _ => 0)))] sz) :=
  kM (Qc := fun A => va_Qv (fun u : va_W => u = [(h0, .inr (12, (mF r t0 t1 t2 t3 t4 t5 t6 t7 t8 t9))), ((r 20), .inl (a 0, 2, .inl (upd (upd (fun _ => 0) 0 101) 1 110))), ((r 22), .inl (a 0, 2, .inl (upd (upd (fun _ => 0) 0 119) 1 120)))]) (kB D a A) A) (by decide) (Nat.le_of_ble_eq_true rfl) (by
    intro p e s m below meth c A ls H locs E hr hlk hnm w hl
    have hx := E.1.1
    have hb := E.1.2.1
    have E : kE p m c b_Md_seats 1 s [.ref h0].toArray "RootAlgebraModel" D a A := E
    have hl : lv_has ls 1 [(0, .ref h0)] := hl
    refine lv_aload_n hx hb d_Md_seats_0 rfl (lv_at hl 0 rfl) ?_
    refine kx_get E w zC_Md 0 rfl 20 (by decide) mw_306 rfl d_Md_seats_1 ?_
    refine lv_iconst (v := 0) hx hb d_Md_seats_4 (by decide) ?_
    refine lv_bipush (v := 101) hx hb d_Md_seats_5 (by decide) ?_
    refine kx_iast E w 1 rfl (by unfold vp_in; decide) 0 (by decide) d_Md_seats_7 (ws' := [(h0, .inr (12, (mF r t0 t1 t2 t3 t4 t5 t6 t7 t8 t9))), ((r 20), .inl (a 0, 2, .inl (upd (fun _ => 0) 0 101))), ((r 22), .inl (a 0, 2, .inl (fun _ => 0)))]) rfl (fun H locs w => ?_)
    refine lv_aload_n hx hb d_Md_seats_8 rfl (lv_at hl 0 rfl) ?_
    refine kx_get E w zC_Md 0 rfl 20 (by decide) mw_306 rfl d_Md_seats_9 ?_
    refine lv_iconst (v := 1) hx hb d_Md_seats_12 (by decide) ?_
    refine lv_bipush (v := 110) hx hb d_Md_seats_13 (by decide) ?_
    refine kx_iast E w 1 rfl (by unfold vp_in; decide) 1 (by decide) d_Md_seats_15 (ws' := [(h0, .inr (12, (mF r t0 t1 t2 t3 t4 t5 t6 t7 t8 t9))), ((r 20), .inl (a 0, 2, .inl (upd (upd (fun _ => 0) 0 101) 1 110))), ((r 22), .inl (a 0, 2, .inl (fun _ => 0)))]) rfl (fun H locs w => ?_)
    refine lv_aload_n hx hb d_Md_seats_16 rfl (lv_at hl 0 rfl) ?_
    refine kx_get E w zC_Md 0 rfl 22 (by decide) mw_307 rfl d_Md_seats_17 ?_
    refine lv_iconst (v := 0) hx hb d_Md_seats_20 (by decide) ?_
    refine lv_bipush (v := 119) hx hb d_Md_seats_21 (by decide) ?_
    refine kx_iast E w 2 rfl (by unfold vp_in; decide) 0 (by decide) d_Md_seats_23 (ws' := [(h0, .inr (12, (mF r t0 t1 t2 t3 t4 t5 t6 t7 t8 t9))), ((r 20), .inl (a 0, 2, .inl (upd (upd (fun _ => 0) 0 101) 1 110))), ((r 22), .inl (a 0, 2, .inl (upd (fun _ => 0) 0 119)))]) rfl (fun H locs w => ?_)
    refine lv_aload_n hx hb d_Md_seats_24 rfl (lv_at hl 0 rfl) ?_
    refine kx_get E w zC_Md 0 rfl 22 (by decide) mw_307 rfl d_Md_seats_25 ?_
    refine lv_iconst (v := 1) hx hb d_Md_seats_28 (by decide) ?_
    refine lv_bipush (v := 120) hx hb d_Md_seats_29 (by decide) ?_
    refine kx_iast E w 2 rfl (by unfold vp_in; decide) 1 (by decide) d_Md_seats_31 (ws' := [(h0, .inr (12, (mF r t0 t1 t2 t3 t4 t5 t6 t7 t8 t9))), ((r 20), .inl (a 0, 2, .inl (upd (upd (fun _ => 0) 0 101) 1 110))), ((r 22), .inl (a 0, 2, .inl (upd (upd (fun _ => 0) 0 119) 1 120)))]) rfl (fun H locs w => ?_)
    refine W.widen (k := 0) (n := 0) (Nat.le_of_ble_eq_true rfl) (Nat.le_of_ble_eq_true rfl) ?_
    exact kx_vret E w hr hlk d_Md_seats_32 rfl)
