/-! laid by program (wip/gen) -/
set_option maxRecDepth 100000 in
set_option maxHeartbeats 4000000 in
theorem c_Value_same (l : Launch) (D : va_G) (a : Nat → ClassId) (h0 : Nat) (p0 : Nat) (p1 : Nat) : ∀ sz : Nat, Met l y_Value_hasPolynomialOf (Cond.code y_Value_hasPolynomialOf b_Value_hasPolynomialOf 3 (some .boolean) :: wA) ({ frames := 0, cells := 0, slots := 0, locals := 0 } : Room) (va_Pc [.ref h0, .ref h0] (kP D a [(h0, .inr (11, [.ref p0, .ref p1, .int 1, .int 0, .int 1, .int 0, .int 0])), (p0, .inl (a 0, 7, .inl (upd (upd (fun _ => 0) 0 0) 1 1)))] sz)) (va_Qi (fun (rr : Int32) (u : va_W) => rr = 1 ∧ u = [(h0, .inr (11, [.ref p0, .ref p1, .int 1, .int 0, .int 1, .int 0, .int 0])), (p0, .inl (a 0, 7, .inl (upd (upd (fun _ => 0) 0 0) 1 1)))]) (kB D a (va_A [(h0, .inr (11, [.ref p0, .ref p1, .int 1, .int 0, .int 1, .int 0, .int 0])), (p0, .inl (a 0, 7, .inl (upd (upd (fun _ => 0) 0 0) 1 1)))] sz)) (va_A [(h0, .inr (11, [.ref p0, .ref p1, .int 1, .int 0, .int 1, .int 0, .int 0])), (p0, .inl (a 0, 7, .inl (upd (upd (fun _ => 0) 0 0) 1 1)))] sz)) 0 0 (va_A [(h0, .inr (11, [.ref p0, .ref p1, .int 1, .int 0, .int 1, .int 0, .int 0])), (p0, .inl (a 0, 7, .inl (upd (upd (fun _ => 0) 0 0) 1 1)))] sz) :=
  kM (Qc := fun A => va_Qi (fun (rr : Int32) (u : va_W) => rr = 1 ∧ u = [(h0, .inr (11, [.ref p0, .ref p1, .int 1, .int 0, .int 1, .int 0, .int 0])), (p0, .inl (a 0, 7, .inl (upd (upd (fun _ => 0) 0 0) 1 1)))]) (kB D a A) A) (by decide) (Nat.le_of_ble_eq_true rfl) (by
    intro p e s m below meth c A ls H locs E hr hlk hnm w hl
    have hx := E.1.1
    have hb := E.1.2.1
    have E : kE p m c b_Value_hasPolynomialOf 3 s [.ref h0, .ref h0].toArray "RootAlgebra$Value" D a A := E
    have hl : lv_has ls 3 [(0, .ref h0), (1, .ref h0)] := hl
    refine lv_aload_n hx hb d_Value_hasPolynomialOf_0 rfl (lv_at hl 0 rfl) ?_
    refine kx_get E w zC_Value 0 rfl 2 (by decide) mw_24 rfl d_Value_hasPolynomialOf_1 ?_
    refine lv_aload_n hx hb d_Value_hasPolynomialOf_4 rfl (lv_at hl 1 rfl) ?_
    refine kx_get E w zC_Value 0 rfl 2 (by decide) mw_24 rfl d_Value_hasPolynomialOf_5 ?_
    refine lv_icmp_eq (tgt := 13) hx hb d_Value_hasPolynomialOf_8 (by decide) (fun _ => ?_) (fun h => absurd (by decide) h)
    refine lv_iconst (v := 0) hx hb d_Value_hasPolynomialOf_13 (by decide) ?_
    refine lv_istore_n (lv' := [(2, .int 0), (0, .ref h0), (1, .ref h0)]) hx hb d_Value_hasPolynomialOf_14 rfl hl (by decide) rfl (fun ls hl => ?_)
    refine lv_iload_n hx hb d_Value_hasPolynomialOf_15 rfl (lv_at hl 0 rfl) ?_
    refine lv_aload_n hx hb d_Value_hasPolynomialOf_16 rfl (lv_at hl 1 rfl) ?_
    refine kx_get E w zC_Value 0 rfl 2 (by decide) mw_24 rfl d_Value_hasPolynomialOf_17 ?_
    refine lv_icmp_gt (tgt := 46) hx hb d_Value_hasPolynomialOf_20 (by decide) (fun h => absurd h (by decide)) (fun _ => ?_)
    refine lv_aload_n hx hb d_Value_hasPolynomialOf_23 rfl (lv_at hl 1 rfl) ?_
    refine kx_get E w zC_Value 0 rfl 0 (by decide) mw_6 rfl d_Value_hasPolynomialOf_24 ?_
    refine lv_iload_n hx hb d_Value_hasPolynomialOf_27 rfl (lv_at hl 0 rfl) ?_
    refine kx_iald E w 1 rfl (by unfold vp_in; decide) (v := 0) rfl d_Value_hasPolynomialOf_28 ?_
    refine lv_aload_n hx hb d_Value_hasPolynomialOf_29 rfl (lv_at hl 2 rfl) ?_
    refine kx_get E w zC_Value 0 rfl 0 (by decide) mw_6 rfl d_Value_hasPolynomialOf_30 ?_
    refine lv_iload_n hx hb d_Value_hasPolynomialOf_33 rfl (lv_at hl 0 rfl) ?_
    refine kx_iald E w 1 rfl (by unfold vp_in; decide) (v := 0) rfl d_Value_hasPolynomialOf_34 ?_
    refine lv_icmp_eq (tgt := 40) hx hb d_Value_hasPolynomialOf_35 (by decide) (fun _ => ?_) (fun h => absurd (by decide) h)
    refine lv_iinc (v := 1) (lv' := [(2, .int 1), (0, .ref h0), (1, .ref h0)]) hx hb d_Value_hasPolynomialOf_40 hl (k := 0) rfl (by decide) (by decide) rfl (fun ls hl => ?_)
    refine lv_goto (tgt := 15) hx hb d_Value_hasPolynomialOf_43 (by decide) ?_
    refine lv_iload_n hx hb d_Value_hasPolynomialOf_15 rfl (lv_at hl 0 rfl) ?_
    refine lv_aload_n hx hb d_Value_hasPolynomialOf_16 rfl (lv_at hl 1 rfl) ?_
    refine kx_get E w zC_Value 0 rfl 2 (by decide) mw_24 rfl d_Value_hasPolynomialOf_17 ?_
    refine lv_icmp_gt (tgt := 46) hx hb d_Value_hasPolynomialOf_20 (by decide) (fun h => absurd h (by decide)) (fun _ => ?_)
    refine lv_aload_n hx hb d_Value_hasPolynomialOf_23 rfl (lv_at hl 1 rfl) ?_
    refine kx_get E w zC_Value 0 rfl 0 (by decide) mw_6 rfl d_Value_hasPolynomialOf_24 ?_
    refine lv_iload_n hx hb d_Value_hasPolynomialOf_27 rfl (lv_at hl 0 rfl) ?_
    refine kx_iald E w 1 rfl (by unfold vp_in; decide) (v := 1) rfl d_Value_hasPolynomialOf_28 ?_
    refine lv_aload_n hx hb d_Value_hasPolynomialOf_29 rfl (lv_at hl 2 rfl) ?_
    refine kx_get E w zC_Value 0 rfl 0 (by decide) mw_6 rfl d_Value_hasPolynomialOf_30 ?_
    refine lv_iload_n hx hb d_Value_hasPolynomialOf_33 rfl (lv_at hl 0 rfl) ?_
    refine kx_iald E w 1 rfl (by unfold vp_in; decide) (v := 1) rfl d_Value_hasPolynomialOf_34 ?_
    refine lv_icmp_eq (tgt := 40) hx hb d_Value_hasPolynomialOf_35 (by decide) (fun _ => ?_) (fun h => absurd (by decide) h)
    refine lv_iinc (v := 2) (lv' := [(2, .int 2), (0, .ref h0), (1, .ref h0)]) hx hb d_Value_hasPolynomialOf_40 hl (k := 0) rfl (by decide) (by decide) rfl (fun ls hl => ?_)
    refine lv_goto (tgt := 15) hx hb d_Value_hasPolynomialOf_43 (by decide) ?_
    refine lv_iload_n hx hb d_Value_hasPolynomialOf_15 rfl (lv_at hl 0 rfl) ?_
    refine lv_aload_n hx hb d_Value_hasPolynomialOf_16 rfl (lv_at hl 1 rfl) ?_
    refine kx_get E w zC_Value 0 rfl 2 (by decide) mw_24 rfl d_Value_hasPolynomialOf_17 ?_
    refine lv_icmp_gt (tgt := 46) hx hb d_Value_hasPolynomialOf_20 (by decide) (fun _ => ?_) (fun h => absurd (by decide) h)
    refine lv_iconst (v := 1) hx hb d_Value_hasPolynomialOf_46 (by decide) ?_
    refine W.widen (k := 0) (n := 0) (Nat.le_of_ble_eq_true rfl) (Nat.le_of_ble_eq_true rfl) ?_
    exact kx_zret E w hr hlk d_Value_hasPolynomialOf_47 (v := 1) (by decide) ⟨rfl, rfl⟩)
set_option maxRecDepth 100000 in
set_option maxHeartbeats 4000000 in
theorem c_Integer_compare0 (l : Launch) (D : va_G) (a : Nat → ClassId)  : ∀ sz : Nat, Met l y_Integer_compare (Cond.code y_Integer_compare b_Integer_compare 2 (some .int) :: wA) ({ frames := 0, cells := 0, slots := 0, locals := 0 } : Room) (va_Pc [.int 0, .int 0] (kP D a [] sz)) (va_Qi (fun (rr : Int32) (u : va_W) => rr = 0 ∧ u = []) (kB D a (va_A [] sz)) (va_A [] sz)) 0 0 (va_A [] sz) :=
  kM (Qc := fun A => va_Qi (fun (rr : Int32) (u : va_W) => rr = 0 ∧ u = []) (kB D a A) A) (by decide) (Nat.le_of_ble_eq_true rfl) (by
    intro p e s m below meth c A ls H locs E hr hlk hnm w hl
    have hx := E.1.1
    have hb := E.1.2.1
    have E : kE p m c b_Integer_compare 2 s [.int 0, .int 0].toArray "java/lang/Integer" D a A := E
    have hl : lv_has ls 2 [(0, .int 0), (1, .int 0)] := hl
    refine lv_iload_n hx hb d_Integer_compare_0 rfl (lv_at hl 0 rfl) ?_
    refine lv_iload_n hx hb d_Integer_compare_1 rfl (lv_at hl 1 rfl) ?_
    refine lv_icmp_ge (tgt := 9) hx hb d_Integer_compare_2 (by decide) (fun _ => ?_) (fun h => absurd (by decide) h)
    refine lv_iload_n hx hb d_Integer_compare_9 rfl (lv_at hl 0 rfl) ?_
    refine lv_iload_n hx hb d_Integer_compare_10 rfl (lv_at hl 1 rfl) ?_
    refine lv_icmp_ne (tgt := 18) hx hb d_Integer_compare_11 (by decide) (fun h => absurd (by decide) h) (fun _ => ?_)
    refine lv_iconst (v := 0) hx hb d_Integer_compare_14 (by decide) ?_
    refine lv_goto (tgt := 19) hx hb d_Integer_compare_15 (by decide) ?_
    refine W.widen (k := 0) (n := 0) (Nat.le_of_ble_eq_true rfl) (Nat.le_of_ble_eq_true rfl) ?_
    exact kx_iret E w hr hlk d_Integer_compare_19 (v := 0) ⟨rfl, rfl⟩)
set_option maxRecDepth 100000 in
set_option maxHeartbeats 4000000 in
theorem c_Gauge_order (l : Launch) (D : va_G) (a : Nat → ClassId) (h0 : Nat) (o0 : Nat) (o1 : Nat) (o2 : Nat) (o3 : Nat) (o4 : Nat) (o5 : Nat) (o6 : Nat) (o7 : Nat) (o8 : Nat) (o9 : Nat) (o10 : Nat) (hy : Nat) (p0 : Nat) (p1 : Nat) : ∀ sz : Nat, Met l y_Gauge_order (Cond.code y_Gauge_order b_Gauge_order 5 (some .int) :: wA) ({ frames := 1, cells := 0, slots := 0, locals := 22 } : Room) (va_Pc [.ref h0, .ref hy, .ref hy] (kP D a [(h0, .inr (5, [.ref o0, .ref o1, .ref o2, .ref o3, .ref o4, .ref o5, .ref o6, .ref o7, .ref o8, .ref o9, .ref o10, .null, .null, .int 0, .int 0, .int 0, .int 0])), (hy, .inr (11, [.ref p0, .ref p1, .int 1, .int 0, .int 1, .int 0, .int 0])), (p0, .inl (a 0, 7, .inl (upd (upd (fun _ => 0) 0 0) 1 1)))] sz)) (va_Qi (fun (rr : Int32) (u : va_W) => rr = 0 ∧ u = [(h0, .inr (5, [.ref o0, .ref o1, .ref o2, .ref o3, .ref o4, .ref o5, .ref o6, .ref o7, .ref o8, .ref o9, .ref o10, .null, .null, .int 0, .int 0, .int 0, .int 0])), (hy, .inr (11, [.ref p0, .ref p1, .int 1, .int 0, .int 1, .int 0, .int 0])), (p0, .inl (a 0, 7, .inl (upd (upd (fun _ => 0) 0 0) 1 1)))]) (kB D a (va_A [(h0, .inr (5, [.ref o0, .ref o1, .ref o2, .ref o3, .ref o4, .ref o5, .ref o6, .ref o7, .ref o8, .ref o9, .ref o10, .null, .null, .int 0, .int 0, .int 0, .int 0])), (hy, .inr (11, [.ref p0, .ref p1, .int 1, .int 0, .int 1, .int 0, .int 0])), (p0, .inl (a 0, 7, .inl (upd (upd (fun _ => 0) 0 0) 1 1)))] sz)) (va_A [(h0, .inr (5, [.ref o0, .ref o1, .ref o2, .ref o3, .ref o4, .ref o5, .ref o6, .ref o7, .ref o8, .ref o9, .ref o10, .null, .null, .int 0, .int 0, .int 0, .int 0])), (hy, .inr (11, [.ref p0, .ref p1, .int 1, .int 0, .int 1, .int 0, .int 0])), (p0, .inl (a 0, 7, .inl (upd (upd (fun _ => 0) 0 0) 1 1)))] sz)) 0 0 (va_A [(h0, .inr (5, [.ref o0, .ref o1, .ref o2, .ref o3, .ref o4, .ref o5, .ref o6, .ref o7, .ref o8, .ref o9, .ref o10, .null, .null, .int 0, .int 0, .int 0, .int 0])), (hy, .inr (11, [.ref p0, .ref p1, .int 1, .int 0, .int 1, .int 0, .int 0])), (p0, .inl (a 0, 7, .inl (upd (upd (fun _ => 0) 0 0) 1 1)))] sz) :=
  kM (Qc := fun A => va_Qi (fun (rr : Int32) (u : va_W) => rr = 0 ∧ u = [(h0, .inr (5, [.ref o0, .ref o1, .ref o2, .ref o3, .ref o4, .ref o5, .ref o6, .ref o7, .ref o8, .ref o9, .ref o10, .null, .null, .int 0, .int 0, .int 0, .int 0])), (hy, .inr (11, [.ref p0, .ref p1, .int 1, .int 0, .int 1, .int 0, .int 0])), (p0, .inl (a 0, 7, .inl (upd (upd (fun _ => 0) 0 0) 1 1)))]) (kB D a A) A) (by decide) (Nat.le_of_ble_eq_true rfl) (by
    intro p e s m below meth c A ls H locs E hr hlk hnm w hl
    have hx := E.1.1
    have hb := E.1.2.1
    have E : kE p m c b_Gauge_order 5 s [.ref h0, .ref hy, .ref hy].toArray "RootAlgebra$Gauge" D a A := E
    have hl : lv_has ls 5 [(0, .ref h0), (1, .ref hy), (2, .ref hy)] := hl
    refine lv_aload_n hx hb d_Gauge_order_0 rfl (lv_at hl 1 rfl) ?_
    refine lv_aload_n hx hb d_Gauge_order_1 rfl (lv_at hl 2 rfl) ?_
    refine kx_i E w (wc := [(hy, .inr (11, [.ref p0, .ref p1, .int 1, .int 0, .int 1, .int 0, .int 0])), (p0, .inl (a 0, 7, .inl (upd (upd (fun _ => 0) 0 0) 1 1)))]) (wr := [(h0, .inr (5, [.ref o0, .ref o1, .ref o2, .ref o3, .ref o4, .ref o5, .ref o6, .ref o7, .ref o8, .ref o9, .ref o10, .null, .null, .int 0, .int 0, .int 0, .int 0]))]) [1, 2] [0] rfl rfl ⟨rfl, rfl, by decide⟩ (kx_rV E w hl.1 (As := [.ref hy]) (wc := [(hy, .inr (11, [.ref p0, .ref p1, .int 1, .int 0, .int 1, .int 0, .int 0])), (p0, .inl (a 0, 7, .inl (upd (upd (fun _ => 0) 0 0) 1 1)))]) (c_Value_same l D a hy p0 p1 H.size) gc_42 gv_Value_hasPolynomialOf (kRecv E w 11 1 rfl rfl) [1, 2] rfl rfl rfl rfl rfl ⟨(Nat.le_of_ble_eq_true rfl), (Nat.le_of_ble_eq_true rfl)⟩ rfl (Nat.le_of_ble_eq_true rfl) d_Gauge_order_2 ⟨(Nat.le_of_ble_eq_true rfl), (Nat.le_of_ble_eq_true rfl)⟩) (fun rr u H locs hu w => ?_)
    obtain ⟨rfl, rfl⟩ := hu
    have w : kW D A s [(h0, .inr (5, [.ref o0, .ref o1, .ref o2, .ref o3, .ref o4, .ref o5, .ref o6, .ref o7, .ref o8, .ref o9, .ref o10, .null, .null, .int 0, .int 0, .int 0, .int 0])), (hy, .inr (11, [.ref p0, .ref p1, .int 1, .int 0, .int 1, .int 0, .int 0])), (p0, .inl (a 0, 7, .inl (upd (upd (fun _ => 0) 0 0) 1 1)))] H locs := w
    refine lv_if_eq (tgt := 20) hx hb d_Gauge_order_5 (by decide) (fun h => absurd h (by decide)) (fun _ => ?_)
    refine lv_aload_n hx hb d_Gauge_order_8 rfl (lv_at hl 1 rfl) ?_
    refine kx_get E w zC_Value 1 rfl 3 (by decide) mw_292 rfl d_Gauge_order_9 ?_
    refine lv_aload_n hx hb d_Gauge_order_12 rfl (lv_at hl 2 rfl) ?_
    refine kx_get E w zC_Value 1 rfl 3 (by decide) mw_292 rfl d_Gauge_order_13 ?_
    refine kx_i E w (wc := []) (wr := [(h0, .inr (5, [.ref o0, .ref o1, .ref o2, .ref o3, .ref o4, .ref o5, .ref o6, .ref o7, .ref o8, .ref o9, .ref o10, .null, .null, .int 0, .int 0, .int 0, .int 0])), (hy, .inr (11, [.ref p0, .ref p1, .int 1, .int 0, .int 1, .int 0, .int 0])), (p0, .inl (a 0, 7, .inl (upd (upd (fun _ => 0) 0 0) 1 1)))]) [] [0, 1, 2] rfl rfl ⟨rfl, rfl, by decide⟩ (kx_rS E w hl.1 (As := [.int 0, .int 0]) (wc := []) (c_Integer_compare0 l D a  H.size) gc_43 gs_Integer_compare [] rfl rfl rfl rfl rfl ⟨(Nat.le_of_ble_eq_true rfl), (Nat.le_of_ble_eq_true rfl)⟩ rfl (Nat.le_of_ble_eq_true rfl) d_Gauge_order_16 ⟨(Nat.le_of_ble_eq_true rfl), (Nat.le_of_ble_eq_true rfl)⟩) (fun rr u H locs hu w => ?_)
    obtain ⟨rfl, rfl⟩ := hu
    have w : kW D A s [(h0, .inr (5, [.ref o0, .ref o1, .ref o2, .ref o3, .ref o4, .ref o5, .ref o6, .ref o7, .ref o8, .ref o9, .ref o10, .null, .null, .int 0, .int 0, .int 0, .int 0])), (hy, .inr (11, [.ref p0, .ref p1, .int 1, .int 0, .int 1, .int 0, .int 0])), (p0, .inl (a 0, 7, .inl (upd (upd (fun _ => 0) 0 0) 1 1)))] H locs := w
    refine W.widen (k := 0) (n := 0) (Nat.le_of_ble_eq_true rfl) (Nat.le_of_ble_eq_true rfl) ?_
    exact kx_iret E w hr hlk d_Gauge_order_19 (v := 0) ⟨rfl, rfl⟩)
set_option maxRecDepth 100000 in
set_option maxHeartbeats 4000000 in
theorem c_RA_compare (l : Launch) (D : va_G) (a : Nat → ClassId) (h0 : Nat) (r0 : Nat) (r1 : Nat) (r2 : Nat) (r3 : Nat) (hv : Nat) (r5 : Nat) (r6 : Nat) (hy : Nat) (p0 : Nat) (p1 : Nat) (f0 : Nat → Option Nat) (e0 : Nat) (e1 : Nat) (e2 : Nat) (e3 : Nat) (e4 : Nat) (e5 : Nat) (e6 : Nat) (e7 : Nat) (hg : Nat) (o0 : Nat) (o1 : Nat) (o2 : Nat) (o3 : Nat) (o4 : Nat) (o5 : Nat) (o6 : Nat) (o7 : Nat) (o8 : Nat) (o9 : Nat) (o10 : Nat) (hf : f0 16 = some hy) : ∀ sz : Nat, Met l y_RA_compare (Cond.code y_RA_compare b_RA_compare 3 (some .int) :: wA) ({ frames := 2, cells := 0, slots := 0, locals := 46 } : Room) (va_Pc [.ref h0, .int 16, .int 16] (kP D a [(h0, .inr (0, [.ref r0, .ref r1, .ref r2, .ref r3, .ref hv, .ref r5, .ref r6, .int 0, .int 0, .int (-1), .int 0])), (hv, .inl (a 5, 17, .inr (.inr (.inr (.inr f0))))), (hy, .inr (11, [.ref p0, .ref p1, .int 1, .int 0, .int 1, .int 0, .int 0])), (p0, .inl (a 0, 7, .inl (upd (upd (fun _ => 0) 0 0) 1 1))), (r6, .inr (2, [.ref e0, .ref e1, .ref e2, .ref e3, .ref e4, .ref e5, .ref e6, .ref e7, .ref hg, .int 0, .int 0, .int 0])), (hg, .inr (5, [.ref o0, .ref o1, .ref o2, .ref o3, .ref o4, .ref o5, .ref o6, .ref o7, .ref o8, .ref o9, .ref o10, .null, .null, .int 0, .int 0, .int 0, .int 0]))] sz)) (va_Qi (fun (rr : Int32) (u : va_W) => rr = 0 ∧ u = [(h0, .inr (0, [.ref r0, .ref r1, .ref r2, .ref r3, .ref hv, .ref r5, .ref r6, .int 0, .int 0, .int (-1), .int 0])), (hv, .inl (a 5, 17, .inr (.inr (.inr (.inr f0))))), (r6, .inr (2, [.ref e0, .ref e1, .ref e2, .ref e3, .ref e4, .ref e5, .ref e6, .ref e7, .ref hg, .int 0, .int 0, .int 0])), (hg, .inr (5, [.ref o0, .ref o1, .ref o2, .ref o3, .ref o4, .ref o5, .ref o6, .ref o7, .ref o8, .ref o9, .ref o10, .null, .null, .int 0, .int 0, .int 0, .int 0])), (hy, .inr (11, [.ref p0, .ref p1, .int 1, .int 0, .int 1, .int 0, .int 0])), (p0, .inl (a 0, 7, .inl (upd (upd (fun _ => 0) 0 0) 1 1)))]) (kB D a (va_A [(h0, .inr (0, [.ref r0, .ref r1, .ref r2, .ref r3, .ref hv, .ref r5, .ref r6, .int 0, .int 0, .int (-1), .int 0])), (hv, .inl (a 5, 17, .inr (.inr (.inr (.inr f0))))), (hy, .inr (11, [.ref p0, .ref p1, .int 1, .int 0, .int 1, .int 0, .int 0])), (p0, .inl (a 0, 7, .inl (upd (upd (fun _ => 0) 0 0) 1 1))), (r6, .inr (2, [.ref e0, .ref e1, .ref e2, .ref e3, .ref e4, .ref e5, .ref e6, .ref e7, .ref hg, .int 0, .int 0, .int 0])), (hg, .inr (5, [.ref o0, .ref o1, .ref o2, .ref o3, .ref o4, .ref o5, .ref o6, .ref o7, .ref o8, .ref o9, .ref o10, .null, .null, .int 0, .int 0, .int 0, .int 0]))] sz)) (va_A [(h0, .inr (0, [.ref r0, .ref r1, .ref r2, .ref r3, .ref hv, .ref r5, .ref r6, .int 0, .int 0, .int (-1), .int 0])), (hv, .inl (a 5, 17, .inr (.inr (.inr (.inr f0))))), (hy, .inr (11, [.ref p0, .ref p1, .int 1, .int 0, .int 1, .int 0, .int 0])), (p0, .inl (a 0, 7, .inl (upd (upd (fun _ => 0) 0 0) 1 1))), (r6, .inr (2, [.ref e0, .ref e1, .ref e2, .ref e3, .ref e4, .ref e5, .ref e6, .ref e7, .ref hg, .int 0, .int 0, .int 0])), (hg, .inr (5, [.ref o0, .ref o1, .ref o2, .ref o3, .ref o4, .ref o5, .ref o6, .ref o7, .ref o8, .ref o9, .ref o10, .null, .null, .int 0, .int 0, .int 0, .int 0]))] sz)) 0 0 (va_A [(h0, .inr (0, [.ref r0, .ref r1, .ref r2, .ref r3, .ref hv, .ref r5, .ref r6, .int 0, .int 0, .int (-1), .int 0])), (hv, .inl (a 5, 17, .inr (.inr (.inr (.inr f0))))), (hy, .inr (11, [.ref p0, .ref p1, .int 1, .int 0, .int 1, .int 0, .int 0])), (p0, .inl (a 0, 7, .inl (upd (upd (fun _ => 0) 0 0) 1 1))), (r6, .inr (2, [.ref e0, .ref e1, .ref e2, .ref e3, .ref e4, .ref e5, .ref e6, .ref e7, .ref hg, .int 0, .int 0, .int 0])), (hg, .inr (5, [.ref o0, .ref o1, .ref o2, .ref o3, .ref o4, .ref o5, .ref o6, .ref o7, .ref o8, .ref o9, .ref o10, .null, .null, .int 0, .int 0, .int 0, .int 0]))] sz) :=
  kM (Qc := fun A => va_Qi (fun (rr : Int32) (u : va_W) => rr = 0 ∧ u = [(h0, .inr (0, [.ref r0, .ref r1, .ref r2, .ref r3, .ref hv, .ref r5, .ref r6, .int 0, .int 0, .int (-1), .int 0])), (hv, .inl (a 5, 17, .inr (.inr (.inr (.inr f0))))), (r6, .inr (2, [.ref e0, .ref e1, .ref e2, .ref e3, .ref e4, .ref e5, .ref e6, .ref e7, .ref hg, .int 0, .int 0, .int 0])), (hg, .inr (5, [.ref o0, .ref o1, .ref o2, .ref o3, .ref o4, .ref o5, .ref o6, .ref o7, .ref o8, .ref o9, .ref o10, .null, .null, .int 0, .int 0, .int 0, .int 0])), (hy, .inr (11, [.ref p0, .ref p1, .int 1, .int 0, .int 1, .int 0, .int 0])), (p0, .inl (a 0, 7, .inl (upd (upd (fun _ => 0) 0 0) 1 1)))]) (kB D a A) A) (by decide) (Nat.le_of_ble_eq_true rfl) (by
    intro p e s m below meth c A ls H locs E hr hlk hnm w hl
    have hx := E.1.1
    have hb := E.1.2.1
    have E : kE p m c b_RA_compare 3 s [.ref h0, .int 16, .int 16].toArray "RootAlgebra" D a A := E
    have hl : lv_has ls 3 [(0, .ref h0), (1, .int 16), (2, .int 16)] := hl
    refine lv_aload_n hx hb d_RA_compare_0 rfl (lv_at hl 0 rfl) ?_
    refine lv_iload_n hx hb d_RA_compare_1 rfl (lv_at hl 1 rfl) ?_
    refine kx_i E w (wc := []) (wr := [(h0, .inr (0, [.ref r0, .ref r1, .ref r2, .ref r3, .ref hv, .ref r5, .ref r6, .int 0, .int 0, .int (-1), .int 0])), (hv, .inl (a 5, 17, .inr (.inr (.inr (.inr f0))))), (hy, .inr (11, [.ref p0, .ref p1, .int 1, .int 0, .int 1, .int 0, .int 0])), (p0, .inl (a 0, 7, .inl (upd (upd (fun _ => 0) 0 0) 1 1))), (r6, .inr (2, [.ref e0, .ref e1, .ref e2, .ref e3, .ref e4, .ref e5, .ref e6, .ref e7, .ref hg, .int 0, .int 0, .int 0])), (hg, .inr (5, [.ref o0, .ref o1, .ref o2, .ref o3, .ref o4, .ref o5, .ref o6, .ref o7, .ref o8, .ref o9, .ref o10, .null, .null, .int 0, .int 0, .int 0, .int 0]))]) [] [0, 1, 2, 3, 4, 5] rfl rfl ⟨rfl, rfl, by decide⟩ (kx_rV E w hl.1 (As := [.int 16]) (wc := []) (c_RA_isName1 l D a h0 16 (by omega) H.size) gc_22 gv_RA_isName (kRecv E w 0 0 rfl rfl) [] rfl rfl rfl rfl rfl ⟨(Nat.le_of_ble_eq_true rfl), (Nat.le_of_ble_eq_true rfl)⟩ rfl (Nat.le_of_ble_eq_true rfl) d_RA_compare_2 ⟨(Nat.le_of_ble_eq_true rfl), (Nat.le_of_ble_eq_true rfl)⟩) (fun rr u H locs hu w => ?_)
    obtain ⟨rfl, rfl⟩ := hu
    have w : kW D A s [(h0, .inr (0, [.ref r0, .ref r1, .ref r2, .ref r3, .ref hv, .ref r5, .ref r6, .int 0, .int 0, .int (-1), .int 0])), (hv, .inl (a 5, 17, .inr (.inr (.inr (.inr f0))))), (hy, .inr (11, [.ref p0, .ref p1, .int 1, .int 0, .int 1, .int 0, .int 0])), (p0, .inl (a 0, 7, .inl (upd (upd (fun _ => 0) 0 0) 1 1))), (r6, .inr (2, [.ref e0, .ref e1, .ref e2, .ref e3, .ref e4, .ref e5, .ref e6, .ref e7, .ref hg, .int 0, .int 0, .int 0])), (hg, .inr (5, [.ref o0, .ref o1, .ref o2, .ref o3, .ref o4, .ref o5, .ref o6, .ref o7, .ref o8, .ref o9, .ref o10, .null, .null, .int 0, .int 0, .int 0, .int 0]))] H locs := w
    refine lv_if_eq (tgt := 16) hx hb d_RA_compare_5 (by decide) (fun h => absurd h (by decide)) (fun _ => ?_)
    refine lv_aload_n hx hb d_RA_compare_8 rfl (lv_at hl 0 rfl) ?_
    refine lv_iload_n hx hb d_RA_compare_9 rfl (lv_at hl 2 rfl) ?_
    refine kx_i E w (wc := []) (wr := [(h0, .inr (0, [.ref r0, .ref r1, .ref r2, .ref r3, .ref hv, .ref r5, .ref r6, .int 0, .int 0, .int (-1), .int 0])), (hv, .inl (a 5, 17, .inr (.inr (.inr (.inr f0))))), (hy, .inr (11, [.ref p0, .ref p1, .int 1, .int 0, .int 1, .int 0, .int 0])), (p0, .inl (a 0, 7, .inl (upd (upd (fun _ => 0) 0 0) 1 1))), (r6, .inr (2, [.ref e0, .ref e1, .ref e2, .ref e3, .ref e4, .ref e5, .ref e6, .ref e7, .ref hg, .int 0, .int 0, .int 0])), (hg, .inr (5, [.ref o0, .ref o1, .ref o2, .ref o3, .ref o4, .ref o5, .ref o6, .ref o7, .ref o8, .ref o9, .ref o10, .null, .null, .int 0, .int 0, .int 0, .int 0]))]) [] [0, 1, 2, 3, 4, 5] rfl rfl ⟨rfl, rfl, by decide⟩ (kx_rV E w hl.1 (As := [.int 16]) (wc := []) (c_RA_isName1 l D a h0 16 (by omega) H.size) gc_22 gv_RA_isName (kRecv E w 0 0 rfl rfl) [] rfl rfl rfl rfl rfl ⟨(Nat.le_of_ble_eq_true rfl), (Nat.le_of_ble_eq_true rfl)⟩ rfl (Nat.le_of_ble_eq_true rfl) d_RA_compare_10 ⟨(Nat.le_of_ble_eq_true rfl), (Nat.le_of_ble_eq_true rfl)⟩) (fun rr u H locs hu w => ?_)
    obtain ⟨rfl, rfl⟩ := hu
    have w : kW D A s [(h0, .inr (0, [.ref r0, .ref r1, .ref r2, .ref r3, .ref hv, .ref r5, .ref r6, .int 0, .int 0, .int (-1), .int 0])), (hv, .inl (a 5, 17, .inr (.inr (.inr (.inr f0))))), (hy, .inr (11, [.ref p0, .ref p1, .int 1, .int 0, .int 1, .int 0, .int 0])), (p0, .inl (a 0, 7, .inl (upd (upd (fun _ => 0) 0 0) 1 1))), (r6, .inr (2, [.ref e0, .ref e1, .ref e2, .ref e3, .ref e4, .ref e5, .ref e6, .ref e7, .ref hg, .int 0, .int 0, .int 0])), (hg, .inr (5, [.ref o0, .ref o1, .ref o2, .ref o3, .ref o4, .ref o5, .ref o6, .ref o7, .ref o8, .ref o9, .ref o10, .null, .null, .int 0, .int 0, .int 0, .int 0]))] H locs := w
    refine lv_if_ne (tgt := 24) hx hb d_RA_compare_13 (by decide) (fun _ => ?_) (fun h => absurd h (by decide))
    refine lv_aload_n hx hb d_RA_compare_24 rfl (lv_at hl 0 rfl) ?_
    refine kx_get E w zC_RA 0 rfl 4 (by decide) mw_168 rfl d_RA_compare_25 ?_
    refine lv_iload_n hx hb d_RA_compare_28 rfl (lv_at hl 1 rfl) ?_
    refine kx_aald E w 1 5 rfl rfl (by unfold vp_in; decide) (y := hy) hf d_RA_compare_29 ?_
    refine kx_get E w zC_Value 2 rfl 2 (by decide) mw_194 rfl d_RA_compare_30 ?_
    refine lv_if_eq (tgt := 48) hx hb d_RA_compare_33 (by decide) (fun h => absurd h (by decide)) (fun _ => ?_)
    refine lv_aload_n hx hb d_RA_compare_36 rfl (lv_at hl 0 rfl) ?_
    refine kx_get E w zC_RA 0 rfl 4 (by decide) mw_168 rfl d_RA_compare_37 ?_
    refine lv_iload_n hx hb d_RA_compare_40 rfl (lv_at hl 2 rfl) ?_
    refine kx_aald E w 1 5 rfl rfl (by unfold vp_in; decide) (y := hy) hf d_RA_compare_41 ?_
    refine kx_get E w zC_Value 2 rfl 2 (by decide) mw_194 rfl d_RA_compare_42 ?_
    refine lv_if_ne (tgt := 56) hx hb d_RA_compare_45 (by decide) (fun _ => ?_) (fun h => absurd h (by decide))
    refine lv_aload_n hx hb d_RA_compare_56 rfl (lv_at hl 0 rfl) ?_
    refine kx_get E w zC_RA 0 rfl 6 (by decide) mw_187 rfl d_RA_compare_57 ?_
    refine kx_get E w zC_Desk 4 rfl 8 (by decide) mw_279 rfl d_RA_compare_60 ?_
    refine lv_aload_n hx hb d_RA_compare_63 rfl (lv_at hl 0 rfl) ?_
    refine kx_get E w zC_RA 0 rfl 4 (by decide) mw_168 rfl d_RA_compare_64 ?_
    refine lv_iload_n hx hb d_RA_compare_67 rfl (lv_at hl 1 rfl) ?_
    refine kx_aald E w 1 5 rfl rfl (by unfold vp_in; decide) (y := hy) hf d_RA_compare_68 ?_
    refine lv_aload_n hx hb d_RA_compare_69 rfl (lv_at hl 0 rfl) ?_
    refine kx_get E w zC_RA 0 rfl 4 (by decide) mw_168 rfl d_RA_compare_70 ?_
    refine lv_iload_n hx hb d_RA_compare_73 rfl (lv_at hl 2 rfl) ?_
    refine kx_aald E w 1 5 rfl rfl (by unfold vp_in; decide) (y := hy) hf d_RA_compare_74 ?_
    refine kx_i E w (wc := [(hg, .inr (5, [.ref o0, .ref o1, .ref o2, .ref o3, .ref o4, .ref o5, .ref o6, .ref o7, .ref o8, .ref o9, .ref o10, .null, .null, .int 0, .int 0, .int 0, .int 0])), (hy, .inr (11, [.ref p0, .ref p1, .int 1, .int 0, .int 1, .int 0, .int 0])), (p0, .inl (a 0, 7, .inl (upd (upd (fun _ => 0) 0 0) 1 1)))]) (wr := [(h0, .inr (0, [.ref r0, .ref r1, .ref r2, .ref r3, .ref hv, .ref r5, .ref r6, .int 0, .int 0, .int (-1), .int 0])), (hv, .inl (a 5, 17, .inr (.inr (.inr (.inr f0))))), (r6, .inr (2, [.ref e0, .ref e1, .ref e2, .ref e3, .ref e4, .ref e5, .ref e6, .ref e7, .ref hg, .int 0, .int 0, .int 0]))]) [5, 2, 3] [0, 1, 4] rfl rfl ⟨rfl, rfl, by decide⟩ (kx_rV E w hl.1 (As := [.ref hy, .ref hy]) (wc := [(hg, .inr (5, [.ref o0, .ref o1, .ref o2, .ref o3, .ref o4, .ref o5, .ref o6, .ref o7, .ref o8, .ref o9, .ref o10, .null, .null, .int 0, .int 0, .int 0, .int 0])), (hy, .inr (11, [.ref p0, .ref p1, .int 1, .int 0, .int 1, .int 0, .int 0])), (p0, .inl (a 0, 7, .inl (upd (upd (fun _ => 0) 0 0) 1 1)))]) (c_Gauge_order l D a hg o0 o1 o2 o3 o4 o5 o6 o7 o8 o9 o10 hy p0 p1 H.size) gc_44 gv_Gauge_order (kRecv E w 5 5 rfl rfl) [5, 2, 3] rfl rfl rfl rfl rfl ⟨(Nat.le_of_ble_eq_true rfl), (Nat.le_of_ble_eq_true rfl)⟩ rfl (Nat.le_of_ble_eq_true rfl) d_RA_compare_75 ⟨(Nat.le_of_ble_eq_true rfl), (Nat.le_of_ble_eq_true rfl)⟩) (fun rr u H locs hu w => ?_)
    obtain ⟨rfl, rfl⟩ := hu
    have w : kW D A s [(h0, .inr (0, [.ref r0, .ref r1, .ref r2, .ref r3, .ref hv, .ref r5, .ref r6, .int 0, .int 0, .int (-1), .int 0])), (hv, .inl (a 5, 17, .inr (.inr (.inr (.inr f0))))), (r6, .inr (2, [.ref e0, .ref e1, .ref e2, .ref e3, .ref e4, .ref e5, .ref e6, .ref e7, .ref hg, .int 0, .int 0, .int 0])), (hg, .inr (5, [.ref o0, .ref o1, .ref o2, .ref o3, .ref o4, .ref o5, .ref o6, .ref o7, .ref o8, .ref o9, .ref o10, .null, .null, .int 0, .int 0, .int 0, .int 0])), (hy, .inr (11, [.ref p0, .ref p1, .int 1, .int 0, .int 1, .int 0, .int 0])), (p0, .inl (a 0, 7, .inl (upd (upd (fun _ => 0) 0 0) 1 1)))] H locs := w
    refine W.widen (k := 0) (n := 0) (Nat.le_of_ble_eq_true rfl) (Nat.le_of_ble_eq_true rfl) ?_
    exact kx_iret E w hr hlk d_RA_compare_78 (v := 0) ⟨rfl, rfl⟩)
