/-! laid by program (wip/gen) -/
set_option maxRecDepth 100000 in
set_option maxHeartbeats 4000000 in
theorem c_Md_isLine (l : Launch) (D : va_G) (a : Nat → ClassId) (h0 : Nat) (r : Nat → Nat) (t0 : Int32) (t2 : Int32) (t3 : Int32) (t4 : Int32) (t5 : Int32) (t6 : Int32) (t7 : Int32) (t8 : Int32) (t9 : Int32) : ∀ sz : Nat, Met l y_Md_isLine (Cond.code y_Md_isLine b_Md_isLine 4 (some .boolean) :: wA) ({ frames := 2, cells := 0, slots := 0, locals := 48 } : Room) (va_Pc [.ref h0] (kP D a [(h0, .inr (12, (mF r t0 0 t2 t3 t4 t5 t6 t7 t8 t9)))] sz)) (va_Qi (fun (rr : Int32) (u : va_W) => rr = 0 ∧ u = [(h0, .inr (12, (mF r t0 0 t2 t3 t4 0 0 (-1) 0 0)))]) (kB D a (va_A [(h0, .inr (12, (mF r t0 0 t2 t3 t4 t5 t6 t7 t8 t9)))] sz)) (va_A [(h0, .inr (12, (mF r t0 0 t2 t3 t4 t5 t6 t7 t8 t9)))] sz)) 0 0 (va_A [(h0, .inr (12, (mF r t0 0 t2 t3 t4 t5 t6 t7 t8 t9)))] sz) :=
  kM (Qc := fun A => va_Qi (fun (rr : Int32) (u : va_W) => rr = 0 ∧ u = [(h0, .inr (12, (mF r t0 0 t2 t3 t4 0 0 (-1) 0 0)))]) (kB D a A) A) (by decide) (Nat.le_of_ble_eq_true rfl) (by
    intro p e s m below meth c A ls H locs E hr hlk hnm w hl
    have hx := E.1.1
    have hb := E.1.2.1
    have E : kE p m c b_Md_isLine 4 s [.ref h0].toArray "RootAlgebraModel" D a A := E
    have hl : lv_has ls 4 [(0, .ref h0)] := hl
    refine lv_aload_n hx hb d_Md_isLine_0 rfl (lv_at hl 0 rfl) ?_
    refine lv_iconst (v := 0) hx hb d_Md_isLine_1 (by decide) ?_
    refine kx_put E w zC_Md 0 rfl 59 (by decide) mw_379 rfl rfl rfl (Nat.le_of_ble_eq_true rfl) d_Md_isLine_2 (ws' := [(h0, .inr (12, (mF r t0 0 t2 t3 t4 t5 t6 t7 0 t9)))]) rfl (fun H locs w => ?_)
    refine lv_aload_n hx hb d_Md_isLine_5 rfl (lv_at hl 0 rfl) ?_
    refine lv_iconst (v := 0) hx hb d_Md_isLine_6 (by decide) ?_
    refine kx_put E w zC_Md 0 rfl 52 (by decide) mw_384 rfl rfl rfl (Nat.le_of_ble_eq_true rfl) d_Md_isLine_7 (ws' := [(h0, .inr (12, (mF r t0 0 t2 t3 t4 0 t6 t7 0 t9)))]) rfl (fun H locs w => ?_)
    refine lv_aload_n hx hb d_Md_isLine_10 rfl (lv_at hl 0 rfl) ?_
    refine lv_iconst (v := 0) hx hb d_Md_isLine_11 (by decide) ?_
    refine kx_put E w zC_Md 0 rfl 55 (by decide) mw_385 rfl rfl rfl (Nat.le_of_ble_eq_true rfl) d_Md_isLine_12 (ws' := [(h0, .inr (12, (mF r t0 0 t2 t3 t4 0 0 t7 0 t9)))]) rfl (fun H locs w => ?_)
    refine lv_aload_n hx hb d_Md_isLine_15 rfl (lv_at hl 0 rfl) ?_
    refine lv_iconst (v := (-1)) hx hb d_Md_isLine_16 (by decide) ?_
    refine kx_put E w zC_Md 0 rfl 58 (by decide) mw_386 rfl rfl rfl (Nat.le_of_ble_eq_true rfl) d_Md_isLine_17 (ws' := [(h0, .inr (12, (mF r t0 0 t2 t3 t4 0 0 (-1) 0 t9)))]) rfl (fun H locs w => ?_)
    refine lv_aload_n hx hb d_Md_isLine_20 rfl (lv_at hl 0 rfl) ?_
    refine lv_iconst (v := 0) hx hb d_Md_isLine_21 (by decide) ?_
    refine kx_put E w zC_Md 0 rfl 60 (by decide) mw_387 rfl rfl rfl (Nat.le_of_ble_eq_true rfl) d_Md_isLine_22 (ws' := [(h0, .inr (12, (mF r t0 0 t2 t3 t4 0 0 (-1) 0 0)))]) rfl (fun H locs w => ?_)
    refine lv_iconst (v := 0) hx hb d_Md_isLine_25 (by decide) ?_
    refine lv_istore_n (lv' := [(1, .int 0), (0, .ref h0)]) hx hb d_Md_isLine_26 rfl hl (by decide) rfl (fun ls hl => ?_)
    refine lv_aload_n hx hb d_Md_isLine_27 rfl (lv_at hl 1 rfl) ?_
    refine kx_i E w (wc := [(h0, .inr (12, (mF r t0 0 t2 t3 t4 0 0 (-1) 0 0)))]) (wr := []) [0] [] rfl rfl ⟨rfl, rfl, by decide⟩ (kx_rV E w hl.1 (As := []) (wc := [(h0, .inr (12, (mF r t0 0 t2 t3 t4 0 0 (-1) 0 0)))]) (c_Md_peek l D a h0 r t0 t2 t3 t4 0 0 (-1) 0 H.size) gc_51 gv_Md_peek (kRecv E w 12 0 rfl rfl) [0] rfl rfl rfl rfl rfl ⟨(Nat.le_of_ble_eq_true rfl), (Nat.le_of_ble_eq_true rfl)⟩ rfl (Nat.le_of_ble_eq_true rfl) d_Md_isLine_28 ⟨(Nat.le_of_ble_eq_true rfl), (Nat.le_of_ble_eq_true rfl)⟩) (fun rr u H locs hu w => ?_)
    obtain ⟨rfl, rfl⟩ := hu
    have w : kW D A s [(h0, .inr (12, (mF r t0 0 t2 t3 t4 0 0 (-1) 0 0)))] H locs := w
    refine lv_i2l (v := (-1)) hx hb d_Md_isLine_31 (by decide) ?_
    refine lv_ldc2 (v := 97) hx hb E.1.2.2.2.1 (E.1.2.2.2.2 _ mw_382) d_Md_isLine_32 ?_
    refine lv_ldc2 (v := 112) hx hb E.1.2.2.2.1 (E.1.2.2.2.2 _ mw_383) d_Md_isLine_35 ?_
    refine kx_i E w (wc := []) (wr := [(h0, .inr (12, (mF r t0 0 t2 t3 t4 0 0 (-1) 0 0)))]) [] [0] rfl rfl ⟨rfl, rfl, by decide⟩ (kx_rS E w hl.1 (As := [.long (-1), .long 97, .long 112]) (wc := []) (c_Md_in0 l D a (-1) 97 112 (by decide) H.size) gc_47 gs_Md_in [] rfl rfl rfl rfl rfl ⟨(Nat.le_of_ble_eq_true rfl), (Nat.le_of_ble_eq_true rfl)⟩ rfl (Nat.le_of_ble_eq_true rfl) d_Md_isLine_38 ⟨(Nat.le_of_ble_eq_true rfl), (Nat.le_of_ble_eq_true rfl)⟩) (fun rr u H locs hu w => ?_)
    obtain ⟨rfl, rfl⟩ := hu
    have w : kW D A s [(h0, .inr (12, (mF r t0 0 t2 t3 t4 0 0 (-1) 0 0)))] H locs := w
    refine lv_if_eq (tgt := 104) hx hb d_Md_isLine_41 (by decide) (fun _ => ?_) (fun h => absurd (by decide) h)
    refine lv_iconst (v := 1) hx hb d_Md_isLine_104 (by decide) ?_
    refine lv_istore_n (lv' := [(2, .int 1), (1, .int 0), (0, .ref h0)]) hx hb d_Md_isLine_105 rfl hl (by decide) rfl (fun ls hl => ?_)
    refine lv_aload_n hx hb d_Md_isLine_106 rfl (lv_at hl 2 rfl) ?_
    refine kx_i E w (wc := [(h0, .inr (12, (mF r t0 0 t2 t3 t4 0 0 (-1) 0 0)))]) (wr := []) [0] [] rfl rfl ⟨rfl, rfl, by decide⟩ (kx_rV E w hl.1 (As := []) (wc := [(h0, .inr (12, (mF r t0 0 t2 t3 t4 0 0 (-1) 0 0)))]) (c_Md_peek l D a h0 r t0 t2 t3 t4 0 0 (-1) 0 H.size) gc_51 gv_Md_peek (kRecv E w 12 0 rfl rfl) [0] rfl rfl rfl rfl rfl ⟨(Nat.le_of_ble_eq_true rfl), (Nat.le_of_ble_eq_true rfl)⟩ rfl (Nat.le_of_ble_eq_true rfl) d_Md_isLine_107 ⟨(Nat.le_of_ble_eq_true rfl), (Nat.le_of_ble_eq_true rfl)⟩) (fun rr u H locs hu w => ?_)
    obtain ⟨rfl, rfl⟩ := hu
    have w : kW D A s [(h0, .inr (12, (mF r t0 0 t2 t3 t4 0 0 (-1) 0 0)))] H locs := w
    refine lv_istore_n (lv' := [(3, .int (-1)), (2, .int 1), (1, .int 0), (0, .ref h0)]) hx hb d_Md_isLine_110 rfl hl (by decide) rfl (fun ls hl => ?_)
    refine lv_iload_n hx hb d_Md_isLine_111 rfl (lv_at hl 1 rfl) ?_
    refine lv_if_eq (tgt := 152) hx hb d_Md_isLine_112 (by decide) (fun h => absurd h (by decide)) (fun _ => ?_)
    refine lv_aload_n hx hb d_Md_isLine_115 rfl (lv_at hl 3 rfl) ?_
    refine lv_iload_n hx hb d_Md_isLine_116 rfl (lv_at hl 0 rfl) ?_
    refine kx_i E w (wc := [(h0, .inr (12, (mF r t0 0 t2 t3 t4 0 0 (-1) 0 0)))]) (wr := []) [0] [] rfl rfl ⟨rfl, rfl, by decide⟩ (kx_rV E w hl.1 (As := [.int (-1)]) (wc := [(h0, .inr (12, (mF r t0 0 t2 t3 t4 0 0 (-1) 0 0)))]) (c_Md_opens l D a h0 r t0 t2 t3 t4 0 0 (-1) 0 H.size) gc_52 gv_Md_opens (kRecv E w 12 0 rfl rfl) [0] rfl rfl rfl rfl rfl ⟨(Nat.le_of_ble_eq_true rfl), (Nat.le_of_ble_eq_true rfl)⟩ rfl (Nat.le_of_ble_eq_true rfl) d_Md_isLine_117 ⟨(Nat.le_of_ble_eq_true rfl), (Nat.le_of_ble_eq_true rfl)⟩) (fun rr u H locs hu w => ?_)
    obtain ⟨rfl, rfl⟩ := hu
    have w : kW D A s [(h0, .inr (12, (mF r t0 0 t2 t3 t4 0 0 (-1) 0 0)))] H locs := w
    refine lv_if_ne (tgt := 125) hx hb d_Md_isLine_120 (by decide) (fun h => absurd (by decide) h) (fun _ => ?_)
    refine lv_iconst (v := 0) hx hb d_Md_isLine_123 (by decide) ?_
    refine W.widen (k := 0) (n := 0) (Nat.le_of_ble_eq_true rfl) (Nat.le_of_ble_eq_true rfl) ?_
    exact kx_zret E w hr hlk d_Md_isLine_124 (v := 0) (by decide) ⟨rfl, rfl⟩)
set_option maxRecDepth 100000 in
set_option maxHeartbeats 4000000 in
theorem c_Md_line (l : Launch) (D : va_G) (a : Nat → ClassId) (h0 : Nat) (r : Nat → Nat) (t0 : Int32) (t2 : Int32) (t3 : Int32) (t4 : Int32) (t5 : Int32) (t6 : Int32) (t7 : Int32) (t8 : Int32) (t9 : Int32) : ∀ sz : Nat, Met l y_Md_line (Cond.code y_Md_line b_Md_line 4 (some .int) :: wA) ({ frames := 3, cells := 0, slots := 0, locals := 71 } : Room) (va_Pc [.ref h0] (kP D a [(h0, .inr (12, (mF r t0 0 t2 t3 t4 t5 t6 t7 t8 t9)))] sz)) (va_Qi (fun (rr : Int32) (u : va_W) => rr = (-1) ∧ u = [(h0, .inr (12, (mF r 0 0 t2 0 t4 0 0 (-1) 0 0)))]) (kB D a (va_A [(h0, .inr (12, (mF r t0 0 t2 t3 t4 t5 t6 t7 t8 t9)))] sz)) (va_A [(h0, .inr (12, (mF r t0 0 t2 t3 t4 t5 t6 t7 t8 t9)))] sz)) 0 0 (va_A [(h0, .inr (12, (mF r t0 0 t2 t3 t4 t5 t6 t7 t8 t9)))] sz) :=
  kM (Qc := fun A => va_Qi (fun (rr : Int32) (u : va_W) => rr = (-1) ∧ u = [(h0, .inr (12, (mF r 0 0 t2 0 t4 0 0 (-1) 0 0)))]) (kB D a A) A) (by decide) (Nat.le_of_ble_eq_true rfl) (by
    intro p e s m below meth c A ls H locs E hr hlk hnm w hl
    have hx := E.1.1
    have hb := E.1.2.1
    have E : kE p m c b_Md_line 4 s [.ref h0].toArray "RootAlgebraModel" D a A := E
    have hl : lv_has ls 4 [(0, .ref h0)] := hl
    refine lv_aload_n hx hb d_Md_line_0 rfl (lv_at hl 0 rfl) ?_
    refine lv_iconst (v := 0) hx hb d_Md_line_1 (by decide) ?_
    refine kx_put E w zC_Md 0 rfl 0 (by decide) mw_356 rfl rfl rfl (Nat.le_of_ble_eq_true rfl) d_Md_line_2 (ws' := [(h0, .inr (12, (mF r 0 0 t2 t3 t4 t5 t6 t7 t8 t9)))]) rfl (fun H locs w => ?_)
    refine lv_aload_n hx hb d_Md_line_5 rfl (lv_at hl 0 rfl) ?_
    refine kx_i E w (wc := [(h0, .inr (12, (mF r 0 0 t2 t3 t4 t5 t6 t7 t8 t9)))]) (wr := []) [0] [] rfl rfl ⟨rfl, rfl, by decide⟩ (kx_rV E w hl.1 (As := []) (wc := [(h0, .inr (12, (mF r 0 0 t2 t3 t4 t5 t6 t7 t8 t9)))]) (c_Md_isLine l D a h0 r 0 t2 t3 t4 t5 t6 t7 t8 t9 H.size) gc_53 gv_Md_isLine (kRecv E w 12 0 rfl rfl) [0] rfl rfl rfl rfl rfl ⟨(Nat.le_of_ble_eq_true rfl), (Nat.le_of_ble_eq_true rfl)⟩ rfl (Nat.le_of_ble_eq_true rfl) d_Md_line_6 ⟨(Nat.le_of_ble_eq_true rfl), (Nat.le_of_ble_eq_true rfl)⟩) (fun rr u H locs hu w => ?_)
    obtain ⟨rfl, rfl⟩ := hu
    have w : kW D A s [(h0, .inr (12, (mF r 0 0 t2 t3 t4 0 0 (-1) 0 0)))] H locs := w
    refine lv_istore_n (lv' := [(1, .int 0), (0, .ref h0)]) hx hb d_Md_line_9 rfl hl (by decide) rfl (fun ls hl => ?_)
    refine lv_iload_n hx hb d_Md_line_10 rfl (lv_at hl 0 rfl) ?_
    refine lv_if_ne (tgt := 22) hx hb d_Md_line_11 (by decide) (fun h => absurd (by decide) h) (fun _ => ?_)
    refine lv_aload_n hx hb d_Md_line_14 rfl (lv_at hl 1 rfl) ?_
    refine lv_aload_n hx hb d_Md_line_15 rfl (lv_at hl 1 rfl) ?_
    refine kx_get E w zC_Md 0 rfl 59 (by decide) mw_379 rfl d_Md_line_16 ?_
    refine kx_put E w zC_Md 0 rfl 5 (by decide) mw_311 rfl rfl rfl (Nat.le_of_ble_eq_true rfl) d_Md_line_19 (ws' := [(h0, .inr (12, (mF r 0 0 t2 0 t4 0 0 (-1) 0 0)))]) rfl (fun H locs w => ?_)
    refine lv_aload_n hx hb d_Md_line_22 rfl (lv_at hl 1 rfl) ?_
    refine lv_iconst (v := 0) hx hb d_Md_line_23 (by decide) ?_
    refine kx_put E w zC_Md 0 rfl 2 (by decide) mw_375 rfl rfl rfl (Nat.le_of_ble_eq_true rfl) d_Md_line_24 (ws' := [(h0, .inr (12, (mF r 0 0 t2 0 t4 0 0 (-1) 0 0)))]) rfl (fun H locs w => ?_)
    refine lv_iload_n hx hb d_Md_line_27 rfl (lv_at hl 0 rfl) ?_
    refine lv_if_ne (tgt := 33) hx hb d_Md_line_28 (by decide) (fun h => absurd (by decide) h) (fun _ => ?_)
    refine lv_iconst (v := (-1)) hx hb d_Md_line_31 (by decide) ?_
    refine W.widen (k := 0) (n := 0) (Nat.le_of_ble_eq_true rfl) (Nat.le_of_ble_eq_true rfl) ?_
    exact kx_iret E w hr hlk d_Md_line_32 (v := (-1)) ⟨rfl, rfl⟩)
set_option maxRecDepth 100000 in
set_option maxHeartbeats 4000000 in
theorem c_Md_compare_bad1 (l : Launch) (D : va_G) (a : Nat → ClassId) (h0 : Nat) (r : Nat → Nat) (t0 : Int32) (t1 : Int32) (t2 : Int32) (t3 : Int32) (t4 : Int32) (t5 : Int32) (t6 : Int32) (t7 : Int32) (t8 : Int32) (t9 : Int32) (x : Int32) (hbad : x < 0 ∨ 16 < x) (y : Int32) : ∀ sz : Nat, Met l y_Md_compare (Cond.code y_Md_compare b_Md_compare 3 (some .int) :: wA) ({ frames := 2, cells := 0, slots := 0, locals := 45 } : Room) (va_Pc [.ref h0, .int x, .int y] (kP D a [(h0, .inr (12, (mF r t0 t1 t2 t3 t4 t5 t6 t7 t8 t9)))] sz)) (va_Qi (fun (rr : Int32) (u : va_W) => rr = 0 ∧ u = [(h0, .inr (12, (mF r 1 t1 t2 t3 t4 t5 t6 t7 t8 t9)))]) (kB D a (va_A [(h0, .inr (12, (mF r t0 t1 t2 t3 t4 t5 t6 t7 t8 t9)))] sz)) (va_A [(h0, .inr (12, (mF r t0 t1 t2 t3 t4 t5 t6 t7 t8 t9)))] sz)) 0 0 (va_A [(h0, .inr (12, (mF r t0 t1 t2 t3 t4 t5 t6 t7 t8 t9)))] sz) :=
  kM (Qc := fun A => va_Qi (fun (rr : Int32) (u : va_W) => rr = 0 ∧ u = [(h0, .inr (12, (mF r 1 t1 t2 t3 t4 t5 t6 t7 t8 t9)))]) (kB D a A) A) (by decide) (Nat.le_of_ble_eq_true rfl) (by
    intro p e s m below meth c A ls H locs E hr hlk hnm w hl
    have hx := E.1.1
    have hb := E.1.2.1
    have E : kE p m c b_Md_compare 3 s [.ref h0, .int x, .int y].toArray "RootAlgebraModel" D a A := E
    have hl : lv_has ls 3 [(0, .ref h0), (1, .int x), (2, .int y)] := hl
    refine lv_aload_n hx hb d_Md_compare_0 rfl (lv_at hl 0 rfl) ?_
    refine lv_iload_n hx hb d_Md_compare_1 rfl (lv_at hl 1 rfl) ?_
    refine kx_i E w (wc := []) (wr := [(h0, .inr (12, (mF r t0 t1 t2 t3 t4 t5 t6 t7 t8 t9)))]) [] [0] rfl rfl ⟨rfl, rfl, by decide⟩ (kx_rS E w hl.1 (As := [.int x]) (wc := []) (c_Md_isName0 l D a x hbad H.size) gc_48 gs_Md_isName [] rfl rfl rfl rfl rfl ⟨(Nat.le_of_ble_eq_true rfl), (Nat.le_of_ble_eq_true rfl)⟩ rfl (Nat.le_of_ble_eq_true rfl) d_Md_compare_2 ⟨(Nat.le_of_ble_eq_true rfl), (Nat.le_of_ble_eq_true rfl)⟩) (fun rr u H locs hu w => ?_)
    obtain ⟨rfl, rfl⟩ := hu
    have w : kW D A s [(h0, .inr (12, (mF r t0 t1 t2 t3 t4 t5 t6 t7 t8 t9)))] H locs := w
    refine lv_if_eq (tgt := 15) hx hb d_Md_compare_5 (by decide) (fun _ => ?_) (fun h => absurd (by decide) h)
    refine lv_iconst (v := 1) hx hb d_Md_compare_15 (by decide) ?_
    refine lv_goto (tgt := 20) hx hb d_Md_compare_16 (by decide) ?_
    refine lv_iconst (v := 1) hx hb d_Md_compare_20 (by decide) ?_
    refine kx_i E w (wc := [(h0, .inr (12, (mF r t0 t1 t2 t3 t4 t5 t6 t7 t8 t9)))]) (wr := []) [0] [] rfl rfl ⟨rfl, rfl, by decide⟩ (kx_rV E w hl.1 (As := [.int 1, .int 1]) (wc := [(h0, .inr (12, (mF r t0 t1 t2 t3 t4 t5 t6 t7 t8 t9)))]) (c_Md_fails11 l D a h0 r t0 t1 t2 t3 t4 t5 t6 t7 t8 t9 H.size) gc_49 gv_Md_fails (kRecv E w 12 0 rfl rfl) [0] rfl rfl rfl rfl rfl ⟨(Nat.le_of_ble_eq_true rfl), (Nat.le_of_ble_eq_true rfl)⟩ rfl (Nat.le_of_ble_eq_true rfl) d_Md_compare_21 ⟨(Nat.le_of_ble_eq_true rfl), (Nat.le_of_ble_eq_true rfl)⟩) (fun rr u H locs hu w => ?_)
    obtain ⟨rfl, rfl⟩ := hu
    have w : kW D A s [(h0, .inr (12, (mF r 1 t1 t2 t3 t4 t5 t6 t7 t8 t9)))] H locs := w
    refine lv_if_ne (tgt := 58) hx hb d_Md_compare_24 (by decide) (fun _ => ?_) (fun h => absurd h (by decide))
    refine lv_iconst (v := 0) hx hb d_Md_compare_58 (by decide) ?_
    refine W.widen (k := 0) (n := 0) (Nat.le_of_ble_eq_true rfl) (Nat.le_of_ble_eq_true rfl) ?_
    exact kx_iret E w hr hlk d_Md_compare_59 (v := 0) ⟨rfl, rfl⟩)
set_option maxRecDepth 100000 in
set_option maxHeartbeats 4000000 in
theorem c_Md_compare_bad2 (l : Launch) (D : va_G) (a : Nat → ClassId) (h0 : Nat) (r : Nat → Nat) (t0 : Int32) (t1 : Int32) (t2 : Int32) (t3 : Int32) (t4 : Int32) (t5 : Int32) (t6 : Int32) (t7 : Int32) (t8 : Int32) (t9 : Int32) (j : Nat) (hj : j ≤ 16) (x : Int32) (hbad : x < 0 ∨ 16 < x) : ∀ sz : Nat, Met l y_Md_compare (Cond.code y_Md_compare b_Md_compare 3 (some .int) :: wA) ({ frames := 2, cells := 0, slots := 0, locals := 45 } : Room) (va_Pc [.ref h0, .int (nI j), .int x] (kP D a [(h0, .inr (12, (mF r t0 t1 t2 t3 t4 t5 t6 t7 t8 t9)))] sz)) (va_Qi (fun (rr : Int32) (u : va_W) => rr = 0 ∧ u = [(h0, .inr (12, (mF r 1 t1 t2 t3 t4 t5 t6 t7 t8 t9)))]) (kB D a (va_A [(h0, .inr (12, (mF r t0 t1 t2 t3 t4 t5 t6 t7 t8 t9)))] sz)) (va_A [(h0, .inr (12, (mF r t0 t1 t2 t3 t4 t5 t6 t7 t8 t9)))] sz)) 0 0 (va_A [(h0, .inr (12, (mF r t0 t1 t2 t3 t4 t5 t6 t7 t8 t9)))] sz) :=
  kM (Qc := fun A => va_Qi (fun (rr : Int32) (u : va_W) => rr = 0 ∧ u = [(h0, .inr (12, (mF r 1 t1 t2 t3 t4 t5 t6 t7 t8 t9)))]) (kB D a A) A) (by decide) (Nat.le_of_ble_eq_true rfl) (by
    intro p e s m below meth c A ls H locs E hr hlk hnm w hl
    have hx := E.1.1
    have hb := E.1.2.1
    have E : kE p m c b_Md_compare 3 s [.ref h0, .int (nI j), .int x].toArray "RootAlgebraModel" D a A := E
    have hl : lv_has ls 3 [(0, .ref h0), (1, .int (nI j)), (2, .int x)] := hl
    refine lv_aload_n hx hb d_Md_compare_0 rfl (lv_at hl 0 rfl) ?_
    refine lv_iload_n hx hb d_Md_compare_1 rfl (lv_at hl 1 rfl) ?_
    refine kx_i E w (wc := []) (wr := [(h0, .inr (12, (mF r t0 t1 t2 t3 t4 t5 t6 t7 t8 t9)))]) [] [0] rfl rfl ⟨rfl, rfl, by decide⟩ (kx_rS E w hl.1 (As := [.int (nI j)]) (wc := []) (c_Md_isName1 l D a j (by omega) H.size) gc_48 gs_Md_isName [] rfl rfl rfl rfl rfl ⟨(Nat.le_of_ble_eq_true rfl), (Nat.le_of_ble_eq_true rfl)⟩ rfl (Nat.le_of_ble_eq_true rfl) d_Md_compare_2 ⟨(Nat.le_of_ble_eq_true rfl), (Nat.le_of_ble_eq_true rfl)⟩) (fun rr u H locs hu w => ?_)
    obtain ⟨rfl, rfl⟩ := hu
    have w : kW D A s [(h0, .inr (12, (mF r t0 t1 t2 t3 t4 t5 t6 t7 t8 t9)))] H locs := w
    refine lv_if_eq (tgt := 15) hx hb d_Md_compare_5 (by decide) (fun h => absurd h (by decide)) (fun _ => ?_)
    refine lv_iload_n hx hb d_Md_compare_8 rfl (lv_at hl 2 rfl) ?_
    refine kx_i E w (wc := []) (wr := [(h0, .inr (12, (mF r t0 t1 t2 t3 t4 t5 t6 t7 t8 t9)))]) [] [0] rfl rfl ⟨rfl, rfl, by decide⟩ (kx_rS E w hl.1 (As := [.int x]) (wc := []) (c_Md_isName0 l D a x hbad H.size) gc_48 gs_Md_isName [] rfl rfl rfl rfl rfl ⟨(Nat.le_of_ble_eq_true rfl), (Nat.le_of_ble_eq_true rfl)⟩ rfl (Nat.le_of_ble_eq_true rfl) d_Md_compare_9 ⟨(Nat.le_of_ble_eq_true rfl), (Nat.le_of_ble_eq_true rfl)⟩) (fun rr u H locs hu w => ?_)
    obtain ⟨rfl, rfl⟩ := hu
    have w : kW D A s [(h0, .inr (12, (mF r t0 t1 t2 t3 t4 t5 t6 t7 t8 t9)))] H locs := w
    refine lv_if_ne (tgt := 19) hx hb d_Md_compare_12 (by decide) (fun h => absurd (by decide) h) (fun _ => ?_)
    refine lv_iconst (v := 1) hx hb d_Md_compare_15 (by decide) ?_
    refine lv_goto (tgt := 20) hx hb d_Md_compare_16 (by decide) ?_
    refine lv_iconst (v := 1) hx hb d_Md_compare_20 (by decide) ?_
    refine kx_i E w (wc := [(h0, .inr (12, (mF r t0 t1 t2 t3 t4 t5 t6 t7 t8 t9)))]) (wr := []) [0] [] rfl rfl ⟨rfl, rfl, by decide⟩ (kx_rV E w hl.1 (As := [.int 1, .int 1]) (wc := [(h0, .inr (12, (mF r t0 t1 t2 t3 t4 t5 t6 t7 t8 t9)))]) (c_Md_fails11 l D a h0 r t0 t1 t2 t3 t4 t5 t6 t7 t8 t9 H.size) gc_49 gv_Md_fails (kRecv E w 12 0 rfl rfl) [0] rfl rfl rfl rfl rfl ⟨(Nat.le_of_ble_eq_true rfl), (Nat.le_of_ble_eq_true rfl)⟩ rfl (Nat.le_of_ble_eq_true rfl) d_Md_compare_21 ⟨(Nat.le_of_ble_eq_true rfl), (Nat.le_of_ble_eq_true rfl)⟩) (fun rr u H locs hu w => ?_)
    obtain ⟨rfl, rfl⟩ := hu
    have w : kW D A s [(h0, .inr (12, (mF r 1 t1 t2 t3 t4 t5 t6 t7 t8 t9)))] H locs := w
    refine lv_if_ne (tgt := 58) hx hb d_Md_compare_24 (by decide) (fun _ => ?_) (fun h => absurd h (by decide))
    refine lv_iconst (v := 0) hx hb d_Md_compare_58 (by decide) ?_
    refine W.widen (k := 0) (n := 0) (Nat.le_of_ble_eq_true rfl) (Nat.le_of_ble_eq_true rfl) ?_
    exact kx_iret E w hr hlk d_Md_compare_59 (v := 0) ⟨rfl, rfl⟩)
