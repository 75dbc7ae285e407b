/-! laid by program (wip/gen) -/
set_option maxRecDepth 100000 in
set_option maxHeartbeats 4000000 in
theorem c_Md_digit_19_0_m1 (l : Launch) (D : va_G) (a : Nat → ClassId) (h0 : Nat) (r : Nat → Nat) (t0 : Int32) (t1 : Int32) (t2 : Int32) (t3 : Int32) (t4 : Int32) (t5 : Int32) (t6 : Int32) (t7 : Int32) (t8 : Int32) (t9 : Int32) (f0 : Nat → Int64) (f1 : Nat → Int32) (hf : f1 19 = 0) : ∀ sz : Nat, Met l y_Md_digit (Cond.code y_Md_digit b_Md_digit 3 (some .long) :: wA) ({ frames := 0, cells := 0, slots := 0, locals := 0 } : Room) (va_Pc [.ref h0, .int 19, .int (-1)] (kP D a [(h0, .inr (12, (mF r t0 t1 t2 t3 t4 t5 t6 t7 t8 t9))), ((r 12), .inl (a 1, 81840, .inr (.inl f0))), ((r 13), .inl (a 0, 124, .inl f1))] sz)) (va_Ql (fun (rr : Int64) (u : va_W) => rr = 0 ∧ u = [(h0, .inr (12, (mF r t0 t1 t2 t3 t4 t5 t6 t7 t8 t9))), ((r 12), .inl (a 1, 81840, .inr (.inl f0))), ((r 13), .inl (a 0, 124, .inl f1))]) (kB D a (va_A [(h0, .inr (12, (mF r t0 t1 t2 t3 t4 t5 t6 t7 t8 t9))), ((r 12), .inl (a 1, 81840, .inr (.inl f0))), ((r 13), .inl (a 0, 124, .inl f1))] sz)) (va_A [(h0, .inr (12, (mF r t0 t1 t2 t3 t4 t5 t6 t7 t8 t9))), ((r 12), .inl (a 1, 81840, .inr (.inl f0))), ((r 13), .inl (a 0, 124, .inl f1))] sz)) 0 0 (va_A [(h0, .inr (12, (mF r t0 t1 t2 t3 t4 t5 t6 t7 t8 t9))), ((r 12), .inl (a 1, 81840, .inr (.inl f0))), ((r 13), .inl (a 0, 124, .inl f1))] sz) :=
  kM (Qc := fun A => va_Ql (fun (rr : Int64) (u : va_W) => rr = 0 ∧ u = [(h0, .inr (12, (mF r t0 t1 t2 t3 t4 t5 t6 t7 t8 t9))), ((r 12), .inl (a 1, 81840, .inr (.inl f0))), ((r 13), .inl (a 0, 124, .inl f1))]) (kB D a A) A) (by decide) (Nat.le_of_ble_eq_true rfl) (by
    intro p e s m below meth c A ls H locs E hr hlk hnm w hl
    have hx := E.1.1
    have hb := E.1.2.1
    have E : kE p m c b_Md_digit 3 s [.ref h0, .int 19, .int (-1)].toArray "RootAlgebraModel" D a A := E
    have hl : lv_has ls 3 [(0, .ref h0), (1, .int 19), (2, .int (-1))] := hl
    refine lv_iload_n hx hb d_Md_digit_0 rfl (lv_at hl 2 rfl) ?_
    refine lv_if_lt (tgt := 29) hx hb d_Md_digit_1 (by decide) (fun _ => ?_) (fun h => absurd (by decide) h)
    refine lv_lconst (v := 0) hx hb d_Md_digit_29 (by decide) ?_
    refine W.widen (k := 0) (n := 0) (Nat.le_of_ble_eq_true rfl) (Nat.le_of_ble_eq_true rfl) ?_
    exact kx_lret E w hr hlk d_Md_digit_30 (v := 0) ⟨rfl, rfl⟩)
set_option maxRecDepth 100000 in
set_option maxHeartbeats 4000000 in
theorem c_Md_digit_1_1_0 (l : Launch) (D : va_G) (a : Nat → ClassId) (h0 : Nat) (r : Nat → Nat) (t0 : Int32) (t1 : Int32) (t2 : Int32) (t3 : Int32) (t4 : Int32) (t5 : Int32) (t6 : Int32) (t7 : Int32) (t8 : Int32) (t9 : Int32) (f0 : Nat → Int64) (f1 : Nat → Int32) (v : Int64) (hf : f1 1 = 1 ∧ f0 660 = v) : ∀ sz : Nat, Met l y_Md_digit (Cond.code y_Md_digit b_Md_digit 3 (some .long) :: wA) ({ frames := 0, cells := 0, slots := 0, locals := 0 } : Room) (va_Pc [.ref h0, .int 1, .int 0] (kP D a [(h0, .inr (12, (mF r t0 t1 t2 t3 t4 t5 t6 t7 t8 t9))), ((r 12), .inl (a 1, 81840, .inr (.inl f0))), ((r 13), .inl (a 0, 124, .inl f1))] sz)) (va_Ql (fun (rr : Int64) (u : va_W) => rr = v ∧ u = [(h0, .inr (12, (mF r t0 t1 t2 t3 t4 t5 t6 t7 t8 t9))), ((r 12), .inl (a 1, 81840, .inr (.inl f0))), ((r 13), .inl (a 0, 124, .inl f1))]) (kB D a (va_A [(h0, .inr (12, (mF r t0 t1 t2 t3 t4 t5 t6 t7 t8 t9))), ((r 12), .inl (a 1, 81840, .inr (.inl f0))), ((r 13), .inl (a 0, 124, .inl f1))] sz)) (va_A [(h0, .inr (12, (mF r t0 t1 t2 t3 t4 t5 t6 t7 t8 t9))), ((r 12), .inl (a 1, 81840, .inr (.inl f0))), ((r 13), .inl (a 0, 124, .inl f1))] sz)) 0 0 (va_A [(h0, .inr (12, (mF r t0 t1 t2 t3 t4 t5 t6 t7 t8 t9))), ((r 12), .inl (a 1, 81840, .inr (.inl f0))), ((r 13), .inl (a 0, 124, .inl f1))] sz) :=
  kM (Qc := fun A => va_Ql (fun (rr : Int64) (u : va_W) => rr = v ∧ u = [(h0, .inr (12, (mF r t0 t1 t2 t3 t4 t5 t6 t7 t8 t9))), ((r 12), .inl (a 1, 81840, .inr (.inl f0))), ((r 13), .inl (a 0, 124, .inl f1))]) (kB D a A) A) (by decide) (Nat.le_of_ble_eq_true rfl) (by
    intro p e s m below meth c A ls H locs E hr hlk hnm w hl
    have hx := E.1.1
    have hb := E.1.2.1
    have E : kE p m c b_Md_digit 3 s [.ref h0, .int 1, .int 0].toArray "RootAlgebraModel" D a A := E
    have hl : lv_has ls 3 [(0, .ref h0), (1, .int 1), (2, .int 0)] := hl
    refine lv_iload_n hx hb d_Md_digit_0 rfl (lv_at hl 2 rfl) ?_
    refine lv_if_lt (tgt := 29) hx hb d_Md_digit_1 (by decide) (fun h => absurd h (by decide)) (fun _ => ?_)
    refine lv_iload_n hx hb d_Md_digit_4 rfl (lv_at hl 2 rfl) ?_
    refine lv_aload_n hx hb d_Md_digit_5 rfl (lv_at hl 0 rfl) ?_
    refine kx_get E w zC_Md 0 rfl 13 (by decide) mw_314 rfl d_Md_digit_6 ?_
    refine lv_iload_n hx hb d_Md_digit_9 rfl (lv_at hl 1 rfl) ?_
    refine kx_iald E w 2 rfl (by unfold vp_in; decide) (v := 1) hf.1 d_Md_digit_10 ?_
    refine lv_icmp_ge (tgt := 29) hx hb d_Md_digit_11 (by decide) (fun h => absurd h (by decide)) (fun _ => ?_)
    refine lv_aload_n hx hb d_Md_digit_14 rfl (lv_at hl 0 rfl) ?_
    refine kx_get E w zC_Md 0 rfl 12 (by decide) mw_313 rfl d_Md_digit_15 ?_
    refine lv_sipush (v := 660) hx hb d_Md_digit_18 (by decide) ?_
    refine lv_iload_n hx hb d_Md_digit_21 rfl (lv_at hl 1 rfl) ?_
    refine kx_imul (v := 660) hx hb d_Md_digit_22 (by decide) ?_
    refine lv_iload_n hx hb d_Md_digit_23 rfl (lv_at hl 2 rfl) ?_
    refine kx_iadd (v := 660) hx hb d_Md_digit_24 (by decide) ?_
    refine kx_lald E w 1 rfl (by unfold vp_in; decide) (v := v) hf.2 d_Md_digit_25 ?_
    refine lv_goto (tgt := 30) hx hb d_Md_digit_26 (by decide) ?_
    refine W.widen (k := 0) (n := 0) (Nat.le_of_ble_eq_true rfl) (Nat.le_of_ble_eq_true rfl) ?_
    exact kx_lret E w hr hlk d_Md_digit_30 (v := v) ⟨rfl, rfl⟩)
set_option maxRecDepth 100000 in
set_option maxHeartbeats 4000000 in
theorem c_Md_digit_1_1_m1 (l : Launch) (D : va_G) (a : Nat → ClassId) (h0 : Nat) (r : Nat → Nat) (t0 : Int32) (t1 : Int32) (t2 : Int32) (t3 : Int32) (t4 : Int32) (t5 : Int32) (t6 : Int32) (t7 : Int32) (t8 : Int32) (t9 : Int32) (f0 : Nat → Int64) (f1 : Nat → Int32) (hf : f1 1 = 1) : ∀ sz : Nat, Met l y_Md_digit (Cond.code y_Md_digit b_Md_digit 3 (some .long) :: wA) ({ frames := 0, cells := 0, slots := 0, locals := 0 } : Room) (va_Pc [.ref h0, .int 1, .int (-1)] (kP D a [(h0, .inr (12, (mF r t0 t1 t2 t3 t4 t5 t6 t7 t8 t9))), ((r 12), .inl (a 1, 81840, .inr (.inl f0))), ((r 13), .inl (a 0, 124, .inl f1))] sz)) (va_Ql (fun (rr : Int64) (u : va_W) => rr = 0 ∧ u = [(h0, .inr (12, (mF r t0 t1 t2 t3 t4 t5 t6 t7 t8 t9))), ((r 12), .inl (a 1, 81840, .inr (.inl f0))), ((r 13), .inl (a 0, 124, .inl f1))]) (kB D a (va_A [(h0, .inr (12, (mF r t0 t1 t2 t3 t4 t5 t6 t7 t8 t9))), ((r 12), .inl (a 1, 81840, .inr (.inl f0))), ((r 13), .inl (a 0, 124, .inl f1))] sz)) (va_A [(h0, .inr (12, (mF r t0 t1 t2 t3 t4 t5 t6 t7 t8 t9))), ((r 12), .inl (a 1, 81840, .inr (.inl f0))), ((r 13), .inl (a 0, 124, .inl f1))] sz)) 0 0 (va_A [(h0, .inr (12, (mF r t0 t1 t2 t3 t4 t5 t6 t7 t8 t9))), ((r 12), .inl (a 1, 81840, .inr (.inl f0))), ((r 13), .inl (a 0, 124, .inl f1))] sz) :=
  kM (Qc := fun A => va_Ql (fun (rr : Int64) (u : va_W) => rr = 0 ∧ u = [(h0, .inr (12, (mF r t0 t1 t2 t3 t4 t5 t6 t7 t8 t9))), ((r 12), .inl (a 1, 81840, .inr (.inl f0))), ((r 13), .inl (a 0, 124, .inl f1))]) (kB D a A) A) (by decide) (Nat.le_of_ble_eq_true rfl) (by
    intro p e s m below meth c A ls H locs E hr hlk hnm w hl
    have hx := E.1.1
    have hb := E.1.2.1
    have E : kE p m c b_Md_digit 3 s [.ref h0, .int 1, .int (-1)].toArray "RootAlgebraModel" D a A := E
    have hl : lv_has ls 3 [(0, .ref h0), (1, .int 1), (2, .int (-1))] := hl
    refine lv_iload_n hx hb d_Md_digit_0 rfl (lv_at hl 2 rfl) ?_
    refine lv_if_lt (tgt := 29) hx hb d_Md_digit_1 (by decide) (fun _ => ?_) (fun h => absurd (by decide) h)
    refine lv_lconst (v := 0) hx hb d_Md_digit_29 (by decide) ?_
    refine W.widen (k := 0) (n := 0) (Nat.le_of_ble_eq_true rfl) (Nat.le_of_ble_eq_true rfl) ?_
    exact kx_lret E w hr hlk d_Md_digit_30 (v := 0) ⟨rfl, rfl⟩)
set_option maxRecDepth 100000 in
set_option maxHeartbeats 4000000 in
theorem c_Md_digit_19_1_0 (l : Launch) (D : va_G) (a : Nat → ClassId) (h0 : Nat) (r : Nat → Nat) (t0 : Int32) (t1 : Int32) (t2 : Int32) (t3 : Int32) (t4 : Int32) (t5 : Int32) (t6 : Int32) (t7 : Int32) (t8 : Int32) (t9 : Int32) (f0 : Nat → Int64) (f1 : Nat → Int32) (v : Int64) (hf : f1 19 = 1 ∧ f0 12540 = v) : ∀ sz : Nat, Met l y_Md_digit (Cond.code y_Md_digit b_Md_digit 3 (some .long) :: wA) ({ frames := 0, cells := 0, slots := 0, locals := 0 } : Room) (va_Pc [.ref h0, .int 19, .int 0] (kP D a [(h0, .inr (12, (mF r t0 t1 t2 t3 t4 t5 t6 t7 t8 t9))), ((r 12), .inl (a 1, 81840, .inr (.inl f0))), ((r 13), .inl (a 0, 124, .inl f1))] sz)) (va_Ql (fun (rr : Int64) (u : va_W) => rr = v ∧ u = [(h0, .inr (12, (mF r t0 t1 t2 t3 t4 t5 t6 t7 t8 t9))), ((r 12), .inl (a 1, 81840, .inr (.inl f0))), ((r 13), .inl (a 0, 124, .inl f1))]) (kB D a (va_A [(h0, .inr (12, (mF r t0 t1 t2 t3 t4 t5 t6 t7 t8 t9))), ((r 12), .inl (a 1, 81840, .inr (.inl f0))), ((r 13), .inl (a 0, 124, .inl f1))] sz)) (va_A [(h0, .inr (12, (mF r t0 t1 t2 t3 t4 t5 t6 t7 t8 t9))), ((r 12), .inl (a 1, 81840, .inr (.inl f0))), ((r 13), .inl (a 0, 124, .inl f1))] sz)) 0 0 (va_A [(h0, .inr (12, (mF r t0 t1 t2 t3 t4 t5 t6 t7 t8 t9))), ((r 12), .inl (a 1, 81840, .inr (.inl f0))), ((r 13), .inl (a 0, 124, .inl f1))] sz) :=
  kM (Qc := fun A => va_Ql (fun (rr : Int64) (u : va_W) => rr = v ∧ u = [(h0, .inr (12, (mF r t0 t1 t2 t3 t4 t5 t6 t7 t8 t9))), ((r 12), .inl (a 1, 81840, .inr (.inl f0))), ((r 13), .inl (a 0, 124, .inl f1))]) (kB D a A) A) (by decide) (Nat.le_of_ble_eq_true rfl) (by
    intro p e s m below meth c A ls H locs E hr hlk hnm w hl
    have hx := E.1.1
    have hb := E.1.2.1
    have E : kE p m c b_Md_digit 3 s [.ref h0, .int 19, .int 0].toArray "RootAlgebraModel" D a A := E
    have hl : lv_has ls 3 [(0, .ref h0), (1, .int 19), (2, .int 0)] := hl
    refine lv_iload_n hx hb d_Md_digit_0 rfl (lv_at hl 2 rfl) ?_
    refine lv_if_lt (tgt := 29) hx hb d_Md_digit_1 (by decide) (fun h => absurd h (by decide)) (fun _ => ?_)
    refine lv_iload_n hx hb d_Md_digit_4 rfl (lv_at hl 2 rfl) ?_
    refine lv_aload_n hx hb d_Md_digit_5 rfl (lv_at hl 0 rfl) ?_
    refine kx_get E w zC_Md 0 rfl 13 (by decide) mw_314 rfl d_Md_digit_6 ?_
    refine lv_iload_n hx hb d_Md_digit_9 rfl (lv_at hl 1 rfl) ?_
    refine kx_iald E w 2 rfl (by unfold vp_in; decide) (v := 1) hf.1 d_Md_digit_10 ?_
    refine lv_icmp_ge (tgt := 29) hx hb d_Md_digit_11 (by decide) (fun h => absurd h (by decide)) (fun _ => ?_)
    refine lv_aload_n hx hb d_Md_digit_14 rfl (lv_at hl 0 rfl) ?_
    refine kx_get E w zC_Md 0 rfl 12 (by decide) mw_313 rfl d_Md_digit_15 ?_
    refine lv_sipush (v := 660) hx hb d_Md_digit_18 (by decide) ?_
    refine lv_iload_n hx hb d_Md_digit_21 rfl (lv_at hl 1 rfl) ?_
    refine kx_imul (v := 12540) hx hb d_Md_digit_22 (by decide) ?_
    refine lv_iload_n hx hb d_Md_digit_23 rfl (lv_at hl 2 rfl) ?_
    refine kx_iadd (v := 12540) hx hb d_Md_digit_24 (by decide) ?_
    refine kx_lald E w 1 rfl (by unfold vp_in; decide) (v := v) hf.2 d_Md_digit_25 ?_
    refine lv_goto (tgt := 30) hx hb d_Md_digit_26 (by decide) ?_
    refine W.widen (k := 0) (n := 0) (Nat.le_of_ble_eq_true rfl) (Nat.le_of_ble_eq_true rfl) ?_
    exact kx_lret E w hr hlk d_Md_digit_30 (v := v) ⟨rfl, rfl⟩)
set_option maxRecDepth 100000 in
set_option maxHeartbeats 4000000 in
theorem c_Md_digit_19_1_m1 (l : Launch) (D : va_G) (a : Nat → ClassId) (h0 : Nat) (r : Nat → Nat) (t0 : Int32) (t1 : Int32) (t2 : Int32) (t3 : Int32) (t4 : Int32) (t5 : Int32) (t6 : Int32) (t7 : Int32) (t8 : Int32) (t9 : Int32) (f0 : Nat → Int64) (f1 : Nat → Int32) (hf : f1 19 = 1) : ∀ sz : Nat, Met l y_Md_digit (Cond.code y_Md_digit b_Md_digit 3 (some .long) :: wA) ({ frames := 0, cells := 0, slots := 0, locals := 0 } : Room) (va_Pc [.ref h0, .int 19, .int (-1)] (kP D a [(h0, .inr (12, (mF r t0 t1 t2 t3 t4 t5 t6 t7 t8 t9))), ((r 12), .inl (a 1, 81840, .inr (.inl f0))), ((r 13), .inl (a 0, 124, .inl f1))] sz)) (va_Ql (fun (rr : Int64) (u : va_W) => rr = 0 ∧ u = [(h0, .inr (12, (mF r t0 t1 t2 t3 t4 t5 t6 t7 t8 t9))), ((r 12), .inl (a 1, 81840, .inr (.inl f0))), ((r 13), .inl (a 0, 124, .inl f1))]) (kB D a (va_A [(h0, .inr (12, (mF r t0 t1 t2 t3 t4 t5 t6 t7 t8 t9))), ((r 12), .inl (a 1, 81840, .inr (.inl f0))), ((r 13), .inl (a 0, 124, .inl f1))] sz)) (va_A [(h0, .inr (12, (mF r t0 t1 t2 t3 t4 t5 t6 t7 t8 t9))), ((r 12), .inl (a 1, 81840, .inr (.inl f0))), ((r 13), .inl (a 0, 124, .inl f1))] sz)) 0 0 (va_A [(h0, .inr (12, (mF r t0 t1 t2 t3 t4 t5 t6 t7 t8 t9))), ((r 12), .inl (a 1, 81840, .inr (.inl f0))), ((r 13), .inl (a 0, 124, .inl f1))] sz) :=
  kM (Qc := fun A => va_Ql (fun (rr : Int64) (u : va_W) => rr = 0 ∧ u = [(h0, .inr (12, (mF r t0 t1 t2 t3 t4 t5 t6 t7 t8 t9))), ((r 12), .inl (a 1, 81840, .inr (.inl f0))), ((r 13), .inl (a 0, 124, .inl f1))]) (kB D a A) A) (by decide) (Nat.le_of_ble_eq_true rfl) (by
    intro p e s m below meth c A ls H locs E hr hlk hnm w hl
    have hx := E.1.1
    have hb := E.1.2.1
    have E : kE p m c b_Md_digit 3 s [.ref h0, .int 19, .int (-1)].toArray "RootAlgebraModel" D a A := E
    have hl : lv_has ls 3 [(0, .ref h0), (1, .int 19), (2, .int (-1))] := hl
    refine lv_iload_n hx hb d_Md_digit_0 rfl (lv_at hl 2 rfl) ?_
    refine lv_if_lt (tgt := 29) hx hb d_Md_digit_1 (by decide) (fun _ => ?_) (fun h => absurd (by decide) h)
    refine lv_lconst (v := 0) hx hb d_Md_digit_29 (by decide) ?_
    refine W.widen (k := 0) (n := 0) (Nat.le_of_ble_eq_true rfl) (Nat.le_of_ble_eq_true rfl) ?_
    exact kx_lret E w hr hlk d_Md_digit_30 (v := 0) ⟨rfl, rfl⟩)
set_option maxRecDepth 100000 in
set_option maxHeartbeats 4000000 in
theorem c_Md_digit_19_1_1 (l : Launch) (D : va_G) (a : Nat → ClassId) (h0 : Nat) (r : Nat → Nat) (t0 : Int32) (t1 : Int32) (t2 : Int32) (t3 : Int32) (t4 : Int32) (t5 : Int32) (t6 : Int32) (t7 : Int32) (t8 : Int32) (t9 : Int32) (f0 : Nat → Int64) (f1 : Nat → Int32) (hf : f1 19 = 1) : ∀ sz : Nat, Met l y_Md_digit (Cond.code y_Md_digit b_Md_digit 3 (some .long) :: wA) ({ frames := 0, cells := 0, slots := 0, locals := 0 } : Room) (va_Pc [.ref h0, .int 19, .int 1] (kP D a [(h0, .inr (12, (mF r t0 t1 t2 t3 t4 t5 t6 t7 t8 t9))), ((r 12), .inl (a 1, 81840, .inr (.inl f0))), ((r 13), .inl (a 0, 124, .inl f1))] sz)) (va_Ql (fun (rr : Int64) (u : va_W) => rr = 0 ∧ u = [(h0, .inr (12, (mF r t0 t1 t2 t3 t4 t5 t6 t7 t8 t9))), ((r 12), .inl (a 1, 81840, .inr (.inl f0))), ((r 13), .inl (a 0, 124, .inl f1))]) (kB D a (va_A [(h0, .inr (12, (mF r t0 t1 t2 t3 t4 t5 t6 t7 t8 t9))), ((r 12), .inl (a 1, 81840, .inr (.inl f0))), ((r 13), .inl (a 0, 124, .inl f1))] sz)) (va_A [(h0, .inr (12, (mF r t0 t1 t2 t3 t4 t5 t6 t7 t8 t9))), ((r 12), .inl (a 1, 81840, .inr (.inl f0))), ((r 13), .inl (a 0, 124, .inl f1))] sz)) 0 0 (va_A [(h0, .inr (12, (mF r t0 t1 t2 t3 t4 t5 t6 t7 t8 t9))), ((r 12), .inl (a 1, 81840, .inr (.inl f0))), ((r 13), .inl (a 0, 124, .inl f1))] sz) :=
  kM (Qc := fun A => va_Ql (fun (rr : Int64) (u : va_W) => rr = 0 ∧ u = [(h0, .inr (12, (mF r t0 t1 t2 t3 t4 t5 t6 t7 t8 t9))), ((r 12), .inl (a 1, 81840, .inr (.inl f0))), ((r 13), .inl (a 0, 124, .inl f1))]) (kB D a A) A) (by decide) (Nat.le_of_ble_eq_true rfl) (by
    intro p e s m below meth c A ls H locs E hr hlk hnm w hl
    have hx := E.1.1
    have hb := E.1.2.1
    have E : kE p m c b_Md_digit 3 s [.ref h0, .int 19, .int 1].toArray "RootAlgebraModel" D a A := E
    have hl : lv_has ls 3 [(0, .ref h0), (1, .int 19), (2, .int 1)] := hl
    refine lv_iload_n hx hb d_Md_digit_0 rfl (lv_at hl 2 rfl) ?_
    refine lv_if_lt (tgt := 29) hx hb d_Md_digit_1 (by decide) (fun h => absurd h (by decide)) (fun _ => ?_)
    refine lv_iload_n hx hb d_Md_digit_4 rfl (lv_at hl 2 rfl) ?_
    refine lv_aload_n hx hb d_Md_digit_5 rfl (lv_at hl 0 rfl) ?_
    refine kx_get E w zC_Md 0 rfl 13 (by decide) mw_314 rfl d_Md_digit_6 ?_
    refine lv_iload_n hx hb d_Md_digit_9 rfl (lv_at hl 1 rfl) ?_
    refine kx_iald E w 2 rfl (by unfold vp_in; decide) (v := 1) hf d_Md_digit_10 ?_
    refine lv_icmp_ge (tgt := 29) hx hb d_Md_digit_11 (by decide) (fun _ => ?_) (fun h => absurd (by decide) h)
    refine lv_lconst (v := 0) hx hb d_Md_digit_29 (by decide) ?_
    refine W.widen (k := 0) (n := 0) (Nat.le_of_ble_eq_true rfl) (Nat.le_of_ble_eq_true rfl) ?_
    exact kx_lret E w hr hlk d_Md_digit_30 (v := 0) ⟨rfl, rfl⟩)
set_option maxRecDepth 100000 in
set_option maxHeartbeats 4000000 in
theorem c_Md_digit_2_0_0 (l : Launch) (D : va_G) (a : Nat → ClassId) (h0 : Nat) (r : Nat → Nat) (t0 : Int32) (t1 : Int32) (t2 : Int32) (t3 : Int32) (t4 : Int32) (t5 : Int32) (t6 : Int32) (t7 : Int32) (t8 : Int32) (t9 : Int32) (f0 : Nat → Int64) (f1 : Nat → Int32) (hf : f1 2 = 0) : ∀ sz : Nat, Met l y_Md_digit (Cond.code y_Md_digit b_Md_digit 3 (some .long) :: wA) ({ frames := 0, cells := 0, slots := 0, locals := 0 } : Room) (va_Pc [.ref h0, .int 2, .int 0] (kP D a [(h0, .inr (12, (mF r t0 t1 t2 t3 t4 t5 t6 t7 t8 t9))), ((r 12), .inl (a 1, 81840, .inr (.inl f0))), ((r 13), .inl (a 0, 124, .inl f1))] sz)) (va_Ql (fun (rr : Int64) (u : va_W) => rr = 0 ∧ u = [(h0, .inr (12, (mF r t0 t1 t2 t3 t4 t5 t6 t7 t8 t9))), ((r 12), .inl (a 1, 81840, .inr (.inl f0))), ((r 13), .inl (a 0, 124, .inl f1))]) (kB D a (va_A [(h0, .inr (12, (mF r t0 t1 t2 t3 t4 t5 t6 t7 t8 t9))), ((r 12), .inl (a 1, 81840, .inr (.inl f0))), ((r 13), .inl (a 0, 124, .inl f1))] sz)) (va_A [(h0, .inr (12, (mF r t0 t1 t2 t3 t4 t5 t6 t7 t8 t9))), ((r 12), .inl (a 1, 81840, .inr (.inl f0))), ((r 13), .inl (a 0, 124, .inl f1))] sz)) 0 0 (va_A [(h0, .inr (12, (mF r t0 t1 t2 t3 t4 t5 t6 t7 t8 t9))), ((r 12), .inl (a 1, 81840, .inr (.inl f0))), ((r 13), .inl (a 0, 124, .inl f1))] sz) :=
  kM (Qc := fun A => va_Ql (fun (rr : Int64) (u : va_W) => rr = 0 ∧ u = [(h0, .inr (12, (mF r t0 t1 t2 t3 t4 t5 t6 t7 t8 t9))), ((r 12), .inl (a 1, 81840, .inr (.inl f0))), ((r 13), .inl (a 0, 124, .inl f1))]) (kB D a A) A) (by decide) (Nat.le_of_ble_eq_true rfl) (by
    intro p e s m below meth c A ls H locs E hr hlk hnm w hl
    have hx := E.1.1
    have hb := E.1.2.1
    have E : kE p m c b_Md_digit 3 s [.ref h0, .int 2, .int 0].toArray "RootAlgebraModel" D a A := E
    have hl : lv_has ls 3 [(0, .ref h0), (1, .int 2), (2, .int 0)] := hl
    refine lv_iload_n hx hb d_Md_digit_0 rfl (lv_at hl 2 rfl) ?_
    refine lv_if_lt (tgt := 29) hx hb d_Md_digit_1 (by decide) (fun h => absurd h (by decide)) (fun _ => ?_)
    refine lv_iload_n hx hb d_Md_digit_4 rfl (lv_at hl 2 rfl) ?_
    refine lv_aload_n hx hb d_Md_digit_5 rfl (lv_at hl 0 rfl) ?_
    refine kx_get E w zC_Md 0 rfl 13 (by decide) mw_314 rfl d_Md_digit_6 ?_
    refine lv_iload_n hx hb d_Md_digit_9 rfl (lv_at hl 1 rfl) ?_
    refine kx_iald E w 2 rfl (by unfold vp_in; decide) (v := 0) hf d_Md_digit_10 ?_
    refine lv_icmp_ge (tgt := 29) hx hb d_Md_digit_11 (by decide) (fun _ => ?_) (fun h => absurd (by decide) h)
    refine lv_lconst (v := 0) hx hb d_Md_digit_29 (by decide) ?_
    refine W.widen (k := 0) (n := 0) (Nat.le_of_ble_eq_true rfl) (Nat.le_of_ble_eq_true rfl) ?_
    exact kx_lret E w hr hlk d_Md_digit_30 (v := 0) ⟨rfl, rfl⟩)
