/-! laid by program (wip/gen) -/
set_option maxRecDepth 100000 in
set_option maxHeartbeats 4000000 in
theorem c_Md_thrown (l : Launch) (D : va_G) (a : Nat → ClassId) (h0 : Nat) (r : Nat → Nat) (t0 : Int32) (t1 : Int32) (t2 : Int32) (t3 : Int32) (t4 : Int32) (t5 : Int32) (t6 : Int32) (t7 : Int32) (t8 : Int32) (t9 : Int32) : ∀ sz : Nat, Met l y_Md_thrown (Cond.code y_Md_thrown b_Md_thrown 1 (some .int) :: wA) ({ frames := 0, cells := 0, slots := 0, locals := 0 } : Room) (va_Pc [.ref h0] (kP D a [(h0, .inr (12, (mF r t0 t1 t2 t3 t4 t5 t6 t7 t8 t9)))] sz)) (va_Qi (fun (rr : Int32) (u : va_W) => rr = t0 ∧ u = [(h0, .inr (12, (mF r t0 t1 t2 t3 t4 t5 t6 t7 t8 t9)))]) (kB D a (va_A [(h0, .inr (12, (mF r t0 t1 t2 t3 t4 t5 t6 t7 t8 t9)))] sz)) (va_A [(h0, .inr (12, (mF r t0 t1 t2 t3 t4 t5 t6 t7 t8 t9)))] sz)) 0 0 (va_A [(h0, .inr (12, (mF r t0 t1 t2 t3 t4 t5 t6 t7 t8 t9)))] sz) :=
  kM (Qc := fun A => va_Qi (fun (rr : Int32) (u : va_W) => rr = t0 ∧ u = [(h0, .inr (12, (mF r t0 t1 t2 t3 t4 t5 t6 t7 t8 t9)))]) (kB D a A) A) (by decide) (Nat.le_of_ble_eq_true rfl) (by
    intro p e s m below meth c A ls H locs E hr hlk hnm w hl
    have hx := E.1.1
    have hb := E.1.2.1
    have E : kE p m c b_Md_thrown 1 s [.ref h0].toArray "RootAlgebraModel" D a A := E
    have hl : lv_has ls 1 [(0, .ref h0)] := hl
    refine lv_aload_n hx hb d_Md_thrown_0 rfl (lv_at hl 0 rfl) ?_
    refine kx_get E w zC_Md 0 rfl 0 (by decide) mw_356 rfl d_Md_thrown_1 ?_
    refine W.widen (k := 0) (n := 0) (Nat.le_of_ble_eq_true rfl) (Nat.le_of_ble_eq_true rfl) ?_
    exact kx_iret E w hr hlk d_Md_thrown_4 (v := t0) ⟨rfl, rfl⟩)
set_option maxRecDepth 100000 in
set_option maxHeartbeats 4000000 in
theorem c_Md_fails01 (l : Launch) (D : va_G) (a : Nat → ClassId) (h0 : Nat) (r : Nat → Nat) (t0 : Int32) (t1 : Int32) (t2 : Int32) (t3 : Int32) (t4 : Int32) (t5 : Int32) (t6 : Int32) (t7 : Int32) (t8 : Int32) (t9 : Int32) : ∀ sz : Nat, Met l y_Md_fails (Cond.code y_Md_fails b_Md_fails 3 (some .boolean) :: wA) ({ frames := 0, cells := 0, slots := 0, locals := 0 } : Room) (va_Pc [.ref h0, .int 0, .int 1] (kP D a [(h0, .inr (12, (mF r t0 t1 t2 t3 t4 t5 t6 t7 t8 t9)))] sz)) (va_Qi (fun (rr : Int32) (u : va_W) => rr = 0 ∧ u = [(h0, .inr (12, (mF r 0 t1 t2 t3 t4 t5 t6 t7 t8 t9)))]) (kB D a (va_A [(h0, .inr (12, (mF r t0 t1 t2 t3 t4 t5 t6 t7 t8 t9)))] sz)) (va_A [(h0, .inr (12, (mF r t0 t1 t2 t3 t4 t5 t6 t7 t8 t9)))] sz)) 0 0 (va_A [(h0, .inr (12, (mF r t0 t1 t2 t3 t4 t5 t6 t7 t8 t9)))] sz) :=
  kM (Qc := fun A => va_Qi (fun (rr : Int32) (u : va_W) => rr = 0 ∧ u = [(h0, .inr (12, (mF r 0 t1 t2 t3 t4 t5 t6 t7 t8 t9)))]) (kB D a A) A) (by decide) (Nat.le_of_ble_eq_true rfl) (by
    intro p e s m below meth c A ls H locs E hr hlk hnm w hl
    have hx := E.1.1
    have hb := E.1.2.1
    have E : kE p m c b_Md_fails 3 s [.ref h0, .int 0, .int 1].toArray "RootAlgebraModel" D a A := E
    have hl : lv_has ls 3 [(0, .ref h0), (1, .int 0), (2, .int 1)] := hl
    refine lv_aload_n hx hb d_Md_fails_0 rfl (lv_at hl 0 rfl) ?_
    refine lv_iload_n hx hb d_Md_fails_1 rfl (lv_at hl 1 rfl) ?_
    refine lv_if_eq (tgt := 9) hx hb d_Md_fails_2 (by decide) (fun _ => ?_) (fun h => absurd (by decide) h)
    refine lv_iconst (v := 0) hx hb d_Md_fails_9 (by decide) ?_
    refine kx_put E w zC_Md 0 rfl 0 (by decide) mw_356 rfl rfl rfl (Nat.le_of_ble_eq_true rfl) d_Md_fails_10 (ws' := [(h0, .inr (12, (mF r 0 t1 t2 t3 t4 t5 t6 t7 t8 t9)))]) rfl (fun H locs w => ?_)
    refine lv_iload_n hx hb d_Md_fails_13 rfl (lv_at hl 1 rfl) ?_
    refine W.widen (k := 0) (n := 0) (Nat.le_of_ble_eq_true rfl) (Nat.le_of_ble_eq_true rfl) ?_
    exact kx_zret E w hr hlk d_Md_fails_14 (v := 0) (by decide) ⟨rfl, rfl⟩)
set_option maxRecDepth 100000 in
set_option maxHeartbeats 4000000 in
theorem c_Md_fails02 (l : Launch) (D : va_G) (a : Nat → ClassId) (h0 : Nat) (r : Nat → Nat) (t0 : Int32) (t1 : Int32) (t2 : Int32) (t3 : Int32) (t4 : Int32) (t5 : Int32) (t6 : Int32) (t7 : Int32) (t8 : Int32) (t9 : Int32) : ∀ sz : Nat, Met l y_Md_fails (Cond.code y_Md_fails b_Md_fails 3 (some .boolean) :: wA) ({ frames := 0, cells := 0, slots := 0, locals := 0 } : Room) (va_Pc [.ref h0, .int 0, .int 2] (kP D a [(h0, .inr (12, (mF r t0 t1 t2 t3 t4 t5 t6 t7 t8 t9)))] sz)) (va_Qi (fun (rr : Int32) (u : va_W) => rr = 0 ∧ u = [(h0, .inr (12, (mF r 0 t1 t2 t3 t4 t5 t6 t7 t8 t9)))]) (kB D a (va_A [(h0, .inr (12, (mF r t0 t1 t2 t3 t4 t5 t6 t7 t8 t9)))] sz)) (va_A [(h0, .inr (12, (mF r t0 t1 t2 t3 t4 t5 t6 t7 t8 t9)))] sz)) 0 0 (va_A [(h0, .inr (12, (mF r t0 t1 t2 t3 t4 t5 t6 t7 t8 t9)))] sz) :=
  kM (Qc := fun A => va_Qi (fun (rr : Int32) (u : va_W) => rr = 0 ∧ u = [(h0, .inr (12, (mF r 0 t1 t2 t3 t4 t5 t6 t7 t8 t9)))]) (kB D a A) A) (by decide) (Nat.le_of_ble_eq_true rfl) (by
    intro p e s m below meth c A ls H locs E hr hlk hnm w hl
    have hx := E.1.1
    have hb := E.1.2.1
    have E : kE p m c b_Md_fails 3 s [.ref h0, .int 0, .int 2].toArray "RootAlgebraModel" D a A := E
    have hl : lv_has ls 3 [(0, .ref h0), (1, .int 0), (2, .int 2)] := hl
    refine lv_aload_n hx hb d_Md_fails_0 rfl (lv_at hl 0 rfl) ?_
    refine lv_iload_n hx hb d_Md_fails_1 rfl (lv_at hl 1 rfl) ?_
    refine lv_if_eq (tgt := 9) hx hb d_Md_fails_2 (by decide) (fun _ => ?_) (fun h => absurd (by decide) h)
    refine lv_iconst (v := 0) hx hb d_Md_fails_9 (by decide) ?_
    refine kx_put E w zC_Md 0 rfl 0 (by decide) mw_356 rfl rfl rfl (Nat.le_of_ble_eq_true rfl) d_Md_fails_10 (ws' := [(h0, .inr (12, (mF r 0 t1 t2 t3 t4 t5 t6 t7 t8 t9)))]) rfl (fun H locs w => ?_)
    refine lv_iload_n hx hb d_Md_fails_13 rfl (lv_at hl 1 rfl) ?_
    refine W.widen (k := 0) (n := 0) (Nat.le_of_ble_eq_true rfl) (Nat.le_of_ble_eq_true rfl) ?_
    exact kx_zret E w hr hlk d_Md_fails_14 (v := 0) (by decide) ⟨rfl, rfl⟩)
set_option maxRecDepth 100000 in
set_option maxHeartbeats 4000000 in
theorem c_Md_fails11 (l : Launch) (D : va_G) (a : Nat → ClassId) (h0 : Nat) (r : Nat → Nat) (t0 : Int32) (t1 : Int32) (t2 : Int32) (t3 : Int32) (t4 : Int32) (t5 : Int32) (t6 : Int32) (t7 : Int32) (t8 : Int32) (t9 : Int32) : ∀ sz : Nat, Met l y_Md_fails (Cond.code y_Md_fails b_Md_fails 3 (some .boolean) :: wA) ({ frames := 0, cells := 0, slots := 0, locals := 0 } : Room) (va_Pc [.ref h0, .int 1, .int 1] (kP D a [(h0, .inr (12, (mF r t0 t1 t2 t3 t4 t5 t6 t7 t8 t9)))] sz)) (va_Qi (fun (rr : Int32) (u : va_W) => rr = 1 ∧ u = [(h0, .inr (12, (mF r 1 t1 t2 t3 t4 t5 t6 t7 t8 t9)))]) (kB D a (va_A [(h0, .inr (12, (mF r t0 t1 t2 t3 t4 t5 t6 t7 t8 t9)))] sz)) (va_A [(h0, .inr (12, (mF r t0 t1 t2 t3 t4 t5 t6 t7 t8 t9)))] sz)) 0 0 (va_A [(h0, .inr (12, (mF r t0 t1 t2 t3 t4 t5 t6 t7 t8 t9)))] sz) :=
  kM (Qc := fun A => va_Qi (fun (rr : Int32) (u : va_W) => rr = 1 ∧ u = [(h0, .inr (12, (mF r 1 t1 t2 t3 t4 t5 t6 t7 t8 t9)))]) (kB D a A) A) (by decide) (Nat.le_of_ble_eq_true rfl) (by
    intro p e s m below meth c A ls H locs E hr hlk hnm w hl
    have hx := E.1.1
    have hb := E.1.2.1
    have E : kE p m c b_Md_fails 3 s [.ref h0, .int 1, .int 1].toArray "RootAlgebraModel" D a A := E
    have hl : lv_has ls 3 [(0, .ref h0), (1, .int 1), (2, .int 1)] := hl
    refine lv_aload_n hx hb d_Md_fails_0 rfl (lv_at hl 0 rfl) ?_
    refine lv_iload_n hx hb d_Md_fails_1 rfl (lv_at hl 1 rfl) ?_
    refine lv_if_eq (tgt := 9) hx hb d_Md_fails_2 (by decide) (fun h => absurd h (by decide)) (fun _ => ?_)
    refine lv_iload_n hx hb d_Md_fails_5 rfl (lv_at hl 2 rfl) ?_
    refine lv_goto (tgt := 10) hx hb d_Md_fails_6 (by decide) ?_
    refine kx_put E w zC_Md 0 rfl 0 (by decide) mw_356 rfl rfl rfl (Nat.le_of_ble_eq_true rfl) d_Md_fails_10 (ws' := [(h0, .inr (12, (mF r 1 t1 t2 t3 t4 t5 t6 t7 t8 t9)))]) rfl (fun H locs w => ?_)
    refine lv_iload_n hx hb d_Md_fails_13 rfl (lv_at hl 1 rfl) ?_
    refine W.widen (k := 0) (n := 0) (Nat.le_of_ble_eq_true rfl) (Nat.le_of_ble_eq_true rfl) ?_
    exact kx_zret E w hr hlk d_Md_fails_14 (v := 1) (by decide) ⟨rfl, rfl⟩)
set_option maxRecDepth 100000 in
set_option maxHeartbeats 4000000 in
theorem c_Md_fails12 (l : Launch) (D : va_G) (a : Nat → ClassId) (h0 : Nat) (r : Nat → Nat) (t0 : Int32) (t1 : Int32) (t2 : Int32) (t3 : Int32) (t4 : Int32) (t5 : Int32) (t6 : Int32) (t7 : Int32) (t8 : Int32) (t9 : Int32) : ∀ sz : Nat, Met l y_Md_fails (Cond.code y_Md_fails b_Md_fails 3 (some .boolean) :: wA) ({ frames := 0, cells := 0, slots := 0, locals := 0 } : Room) (va_Pc [.ref h0, .int 1, .int 2] (kP D a [(h0, .inr (12, (mF r t0 t1 t2 t3 t4 t5 t6 t7 t8 t9)))] sz)) (va_Qi (fun (rr : Int32) (u : va_W) => rr = 1 ∧ u = [(h0, .inr (12, (mF r 2 t1 t2 t3 t4 t5 t6 t7 t8 t9)))]) (kB D a (va_A [(h0, .inr (12, (mF r t0 t1 t2 t3 t4 t5 t6 t7 t8 t9)))] sz)) (va_A [(h0, .inr (12, (mF r t0 t1 t2 t3 t4 t5 t6 t7 t8 t9)))] sz)) 0 0 (va_A [(h0, .inr (12, (mF r t0 t1 t2 t3 t4 t5 t6 t7 t8 t9)))] sz) :=
  kM (Qc := fun A => va_Qi (fun (rr : Int32) (u : va_W) => rr = 1 ∧ u = [(h0, .inr (12, (mF r 2 t1 t2 t3 t4 t5 t6 t7 t8 t9)))]) (kB D a A) A) (by decide) (Nat.le_of_ble_eq_true rfl) (by
    intro p e s m below meth c A ls H locs E hr hlk hnm w hl
    have hx := E.1.1
    have hb := E.1.2.1
    have E : kE p m c b_Md_fails 3 s [.ref h0, .int 1, .int 2].toArray "RootAlgebraModel" D a A := E
    have hl : lv_has ls 3 [(0, .ref h0), (1, .int 1), (2, .int 2)] := hl
    refine lv_aload_n hx hb d_Md_fails_0 rfl (lv_at hl 0 rfl) ?_
    refine lv_iload_n hx hb d_Md_fails_1 rfl (lv_at hl 1 rfl) ?_
    refine lv_if_eq (tgt := 9) hx hb d_Md_fails_2 (by decide) (fun h => absurd h (by decide)) (fun _ => ?_)
    refine lv_iload_n hx hb d_Md_fails_5 rfl (lv_at hl 2 rfl) ?_
    refine lv_goto (tgt := 10) hx hb d_Md_fails_6 (by decide) ?_
    refine kx_put E w zC_Md 0 rfl 0 (by decide) mw_356 rfl rfl rfl (Nat.le_of_ble_eq_true rfl) d_Md_fails_10 (ws' := [(h0, .inr (12, (mF r 2 t1 t2 t3 t4 t5 t6 t7 t8 t9)))]) rfl (fun H locs w => ?_)
    refine lv_iload_n hx hb d_Md_fails_13 rfl (lv_at hl 1 rfl) ?_
    refine W.widen (k := 0) (n := 0) (Nat.le_of_ble_eq_true rfl) (Nat.le_of_ble_eq_true rfl) ?_
    exact kx_zret E w hr hlk d_Md_fails_14 (v := 1) (by decide) ⟨rfl, rfl⟩)
set_option maxRecDepth 100000 in
set_option maxHeartbeats 4000000 in
theorem c_Md_in1 (l : Launch) (D : va_G) (a : Nat → ClassId) (x0 : Int64) (x1 : Int64) (x2 : Int64) (hin : x1 ≤ x0 ∧ x0 ≤ x2) : ∀ sz : Nat, Met l y_Md_in (Cond.code y_Md_in b_Md_in 6 (some .boolean) :: wA) ({ frames := 0, cells := 0, slots := 0, locals := 0 } : Room) (va_Pc [.long x0, .long x1, .long x2] (kP D a [] sz)) (va_Qi (fun (rr : Int32) (u : va_W) => rr = 1 ∧ u = []) (kB D a (va_A [] sz)) (va_A [] sz)) 0 0 (va_A [] sz) :=
  kM (Qc := fun A => va_Qi (fun (rr : Int32) (u : va_W) => rr = 1 ∧ u = []) (kB D a A) A) (by decide) (Nat.le_of_ble_eq_true rfl) (by
    intro p e s m below meth c A ls H locs E hr hlk hnm w hl
    have hx := E.1.1
    have hb := E.1.2.1
    have E : kE p m c b_Md_in 6 s [.long x0, .long x1, .long x2].toArray "RootAlgebraModel" D a A := E
    have hl : lv_has ls 6 [(0, .long x0), (2, .long x1), (4, .long x2)] := hl
    refine lv_lload_n hx hb d_Md_in_0 rfl (lv_at hl 0 rfl) ?_
    refine lv_lload_n hx hb d_Md_in_1 rfl (lv_at hl 1 rfl) ?_
    refine kx_lcmp (v := (lg_cmp x0 x1)) hx hb d_Md_in_2 rfl ?_
    refine lv_if_lt (tgt := 17) hx hb d_Md_in_3 (by decide) (fun h => absurd h (kc_nlt hin.1)) (fun _ => ?_)
    refine lv_lload_n hx hb d_Md_in_6 rfl (lv_at hl 0 rfl) ?_
    refine lv_lload hx hb d_Md_in_7 (lv_at hl 2 rfl) ?_
    refine kx_lcmp (v := (lg_cmp x0 x2)) hx hb d_Md_in_9 rfl ?_
    refine lv_if_gt (tgt := 17) hx hb d_Md_in_10 (by decide) (fun h => absurd h (kc_ngt hin.2)) (fun _ => ?_)
    refine lv_iconst (v := 1) hx hb d_Md_in_13 (by decide) ?_
    refine lv_goto (tgt := 18) hx hb d_Md_in_14 (by decide) ?_
    refine W.widen (k := 0) (n := 0) (Nat.le_of_ble_eq_true rfl) (Nat.le_of_ble_eq_true rfl) ?_
    exact kx_zret E w hr hlk d_Md_in_18 (v := 1) (by decide) ⟨rfl, rfl⟩)
set_option maxRecDepth 100000 in
set_option maxHeartbeats 4000000 in
theorem c_Md_in0 (l : Launch) (D : va_G) (a : Nat → ClassId) (x0 : Int64) (x1 : Int64) (x2 : Int64) (hin : x0 < x1 ∨ x2 < x0) : ∀ sz : Nat, Met l y_Md_in (Cond.code y_Md_in b_Md_in 6 (some .boolean) :: wA) ({ frames := 0, cells := 0, slots := 0, locals := 0 } : Room) (va_Pc [.long x0, .long x1, .long x2] (kP D a [] sz)) (va_Qi (fun (rr : Int32) (u : va_W) => rr = 0 ∧ u = []) (kB D a (va_A [] sz)) (va_A [] sz)) 0 0 (va_A [] sz) :=
  kM (Qc := fun A => va_Qi (fun (rr : Int32) (u : va_W) => rr = 0 ∧ u = []) (kB D a A) A) (by decide) (Nat.le_of_ble_eq_true rfl) (by
    intro p e s m below meth c A ls H locs E hr hlk hnm w hl
    have hx := E.1.1
    have hb := E.1.2.1
    have E : kE p m c b_Md_in 6 s [.long x0, .long x1, .long x2].toArray "RootAlgebraModel" D a A := E
    have hl : lv_has ls 6 [(0, .long x0), (2, .long x1), (4, .long x2)] := hl
    by_cases hq : x0 < x1
    · refine lv_lload_n hx hb d_Md_in_0 rfl (lv_at hl 0 rfl) ?_
      refine lv_lload_n hx hb d_Md_in_1 rfl (lv_at hl 1 rfl) ?_
      refine kx_lcmp (v := (lg_cmp x0 x1)) hx hb d_Md_in_2 rfl ?_
      refine lv_if_lt (tgt := 17) hx hb d_Md_in_3 (by decide) (fun _ => ?_) (fun h => absurd (kc_lt hq) h)
      refine lv_iconst (v := 0) hx hb d_Md_in_17 (by decide) ?_
      refine W.widen (k := 0) (n := 0) (Nat.le_of_ble_eq_true rfl) (Nat.le_of_ble_eq_true rfl) ?_
      exact kx_zret E w hr hlk d_Md_in_18 (v := 0) (by decide) ⟨rfl, rfl⟩
    · refine lv_lload_n hx hb d_Md_in_0 rfl (lv_at hl 0 rfl) ?_
      refine lv_lload_n hx hb d_Md_in_1 rfl (lv_at hl 1 rfl) ?_
      refine kx_lcmp (v := (lg_cmp x0 x1)) hx hb d_Md_in_2 rfl ?_
      refine lv_if_lt (tgt := 17) hx hb d_Md_in_3 (by decide) (fun h => absurd h (kc_nlt (Int64.not_lt.mp hq))) (fun _ => ?_)
      refine lv_lload_n hx hb d_Md_in_6 rfl (lv_at hl 0 rfl) ?_
      refine lv_lload hx hb d_Md_in_7 (lv_at hl 2 rfl) ?_
      refine kx_lcmp (v := (lg_cmp x0 x2)) hx hb d_Md_in_9 rfl ?_
      refine lv_if_gt (tgt := 17) hx hb d_Md_in_10 (by decide) (fun _ => ?_) (fun h => absurd (kc_gt (hin.resolve_left hq)) h)
      refine lv_iconst (v := 0) hx hb d_Md_in_17 (by decide) ?_
      refine W.widen (k := 0) (n := 0) (Nat.le_of_ble_eq_true rfl) (Nat.le_of_ble_eq_true rfl) ?_
      exact kx_zret E w hr hlk d_Md_in_18 (v := 0) (by decide) ⟨rfl, rfl⟩)
set_option maxRecDepth 100000 in
set_option maxHeartbeats 4000000 in
theorem c_Md_isName1 (l : Launch) (D : va_G) (a : Nat → ClassId) (j : Nat) (hj : j ≤ 16) : ∀ sz : Nat, Met l y_Md_isName (Cond.code y_Md_isName b_Md_isName 1 (some .boolean) :: wA) ({ frames := 1, cells := 0, slots := 0, locals := 25 } : Room) (va_Pc [.int (nI j)] (kP D a [] sz)) (va_Qi (fun (rr : Int32) (u : va_W) => rr = 1 ∧ u = []) (kB D a (va_A [] sz)) (va_A [] sz)) 0 0 (va_A [] sz) :=
  kM (Qc := fun A => va_Qi (fun (rr : Int32) (u : va_W) => rr = 1 ∧ u = []) (kB D a A) A) (by decide) (Nat.le_of_ble_eq_true rfl) (by
    intro p e s m below meth c A ls H locs E hr hlk hnm w hl
    have hx := E.1.1
    have hb := E.1.2.1
    have E : kE p m c b_Md_isName 1 s [.int (nI j)].toArray "RootAlgebraModel" D a A := E
    have hl : lv_has ls 1 [(0, .int (nI j))] := hl
    refine lv_iload_n hx hb d_Md_isName_0 rfl (lv_at hl 0 rfl) ?_
    refine lv_i2l (v := ((nI j).toInt64)) hx hb d_Md_isName_1 rfl ?_
    refine lv_lconst (v := 0) hx hb d_Md_isName_2 (by decide) ?_
    refine lv_ldc2 (v := 16) hx hb E.1.2.2.2.1 (E.1.2.2.2.2 _ mw_357) d_Md_isName_3 ?_
    refine kx_i E w (wc := []) (wr := []) [] [] rfl rfl ⟨rfl, rfl, by decide⟩ (kx_rS E w hl.1 (As := [.long ((nI j).toInt64), .long 0, .long 16]) (wc := []) (c_Md_in1 l D a ((nI j).toInt64) 0 16 (kl_in (c := 0) (j := j) (d := 16) (by omega) (by omega) (by omega)) H.size) gc_47 gs_Md_in [] rfl rfl rfl rfl rfl ⟨(Nat.le_of_ble_eq_true rfl), (Nat.le_of_ble_eq_true rfl)⟩ rfl (Nat.le_of_ble_eq_true rfl) d_Md_isName_6 ⟨(Nat.le_of_ble_eq_true rfl), (Nat.le_of_ble_eq_true rfl)⟩) (fun rr u H locs hu w => ?_)
    obtain ⟨rfl, rfl⟩ := hu
    have w : kW D A s [] H locs := w
    refine W.widen (k := 0) (n := 0) (Nat.le_of_ble_eq_true rfl) (Nat.le_of_ble_eq_true rfl) ?_
    exact kx_zret E w hr hlk d_Md_isName_9 (v := 1) (by decide) ⟨rfl, rfl⟩)
set_option maxRecDepth 100000 in
set_option maxHeartbeats 4000000 in
theorem c_Md_isName0 (l : Launch) (D : va_G) (a : Nat → ClassId) (x : Int32) (hbad : x < 0 ∨ 16 < x) : ∀ sz : Nat, Met l y_Md_isName (Cond.code y_Md_isName b_Md_isName 1 (some .boolean) :: wA) ({ frames := 1, cells := 0, slots := 0, locals := 25 } : Room) (va_Pc [.int x] (kP D a [] sz)) (va_Qi (fun (rr : Int32) (u : va_W) => rr = 0 ∧ u = []) (kB D a (va_A [] sz)) (va_A [] sz)) 0 0 (va_A [] sz) :=
  kM (Qc := fun A => va_Qi (fun (rr : Int32) (u : va_W) => rr = 0 ∧ u = []) (kB D a A) A) (by decide) (Nat.le_of_ble_eq_true rfl) (by
    intro p e s m below meth c A ls H locs E hr hlk hnm w hl
    have hx := E.1.1
    have hb := E.1.2.1
    have E : kE p m c b_Md_isName 1 s [.int x].toArray "RootAlgebraModel" D a A := E
    have hl : lv_has ls 1 [(0, .int x)] := hl
    refine lv_iload_n hx hb d_Md_isName_0 rfl (lv_at hl 0 rfl) ?_
    refine lv_i2l (v := x.toInt64) hx hb d_Md_isName_1 rfl ?_
    refine lv_lconst (v := 0) hx hb d_Md_isName_2 (by decide) ?_
    refine lv_ldc2 (v := 16) hx hb E.1.2.2.2.1 (E.1.2.2.2.2 _ mw_357) d_Md_isName_3 ?_
    refine kx_i E w (wc := []) (wr := []) [] [] rfl rfl ⟨rfl, rfl, by decide⟩ (kx_rS E w hl.1 (As := [.long x.toInt64, .long 0, .long 16]) (wc := []) (c_Md_in0 l D a x.toInt64 0 16 (kl_out (c := 0) (d := 16) hbad) H.size) gc_47 gs_Md_in [] rfl rfl rfl rfl rfl ⟨(Nat.le_of_ble_eq_true rfl), (Nat.le_of_ble_eq_true rfl)⟩ rfl (Nat.le_of_ble_eq_true rfl) d_Md_isName_6 ⟨(Nat.le_of_ble_eq_true rfl), (Nat.le_of_ble_eq_true rfl)⟩) (fun rr u H locs hu w => ?_)
    obtain ⟨rfl, rfl⟩ := hu
    have w : kW D A s [] H locs := w
    refine W.widen (k := 0) (n := 0) (Nat.le_of_ble_eq_true rfl) (Nat.le_of_ble_eq_true rfl) ?_
    exact kx_zret E w hr hlk d_Md_isName_9 (v := 0) (by decide) ⟨rfl, rfl⟩)
set_option maxRecDepth 100000 in
set_option maxHeartbeats 4000000 in
theorem c_Md_bars_bad (l : Launch) (D : va_G) (a : Nat → ClassId) (h0 : Nat) (r : Nat → Nat) (t0 : Int32) (t1 : Int32) (t2 : Int32) (t3 : Int32) (t4 : Int32) (t5 : Int32) (t6 : Int32) (t7 : Int32) (t8 : Int32) (t9 : Int32) (x : Int32) (hbad : x < 0 ∨ 16 < x) : ∀ sz : Nat, Met l y_Md_bars (Cond.code y_Md_bars b_Md_bars 2 (some .boolean) :: wA) ({ frames := 2, cells := 0, slots := 0, locals := 45 } : Room) (va_Pc [.ref h0, .int x] (kP D a [(h0, .inr (12, (mF r t0 t1 t2 t3 t4 t5 t6 t7 t8 t9)))] sz)) (va_Qi (fun (rr : Int32) (u : va_W) => rr = 1 ∧ u = [(h0, .inr (12, (mF r 1 t1 t2 t3 t4 t5 t6 t7 t8 t9)))]) (kB D a (va_A [(h0, .inr (12, (mF r t0 t1 t2 t3 t4 t5 t6 t7 t8 t9)))] sz)) (va_A [(h0, .inr (12, (mF r t0 t1 t2 t3 t4 t5 t6 t7 t8 t9)))] sz)) 0 0 (va_A [(h0, .inr (12, (mF r t0 t1 t2 t3 t4 t5 t6 t7 t8 t9)))] sz) :=
  kM (Qc := fun A => va_Qi (fun (rr : Int32) (u : va_W) => rr = 1 ∧ u = [(h0, .inr (12, (mF r 1 t1 t2 t3 t4 t5 t6 t7 t8 t9)))]) (kB D a A) A) (by decide) (Nat.le_of_ble_eq_true rfl) (by
    intro p e s m below meth c A ls H locs E hr hlk hnm w hl
    have hx := E.1.1
    have hb := E.1.2.1
    have E : kE p m c b_Md_bars 2 s [.ref h0, .int x].toArray "RootAlgebraModel" D a A := E
    have hl : lv_has ls 2 [(0, .ref h0), (1, .int x)] := hl
    refine lv_aload_n hx hb d_Md_bars_0 rfl (lv_at hl 0 rfl) ?_
    refine lv_iload_n hx hb d_Md_bars_1 rfl (lv_at hl 1 rfl) ?_
    refine kx_i E w (wc := []) (wr := [(h0, .inr (12, (mF r t0 t1 t2 t3 t4 t5 t6 t7 t8 t9)))]) [] [0] rfl rfl ⟨rfl, rfl, by decide⟩ (kx_rS E w hl.1 (As := [.int x]) (wc := []) (c_Md_isName0 l D a x hbad H.size) gc_48 gs_Md_isName [] rfl rfl rfl rfl rfl ⟨(Nat.le_of_ble_eq_true rfl), (Nat.le_of_ble_eq_true rfl)⟩ rfl (Nat.le_of_ble_eq_true rfl) d_Md_bars_2 ⟨(Nat.le_of_ble_eq_true rfl), (Nat.le_of_ble_eq_true rfl)⟩) (fun rr u H locs hu w => ?_)
    obtain ⟨rfl, rfl⟩ := hu
    have w : kW D A s [(h0, .inr (12, (mF r t0 t1 t2 t3 t4 t5 t6 t7 t8 t9)))] H locs := w
    refine lv_if_ne (tgt := 12) hx hb d_Md_bars_5 (by decide) (fun h => absurd (by decide) h) (fun _ => ?_)
    refine lv_iconst (v := 1) hx hb d_Md_bars_8 (by decide) ?_
    refine lv_goto (tgt := 13) hx hb d_Md_bars_9 (by decide) ?_
    refine lv_iconst (v := 1) hx hb d_Md_bars_13 (by decide) ?_
    refine kx_i E w (wc := [(h0, .inr (12, (mF r t0 t1 t2 t3 t4 t5 t6 t7 t8 t9)))]) (wr := []) [0] [] rfl rfl ⟨rfl, rfl, by decide⟩ (kx_rV E w hl.1 (As := [.int 1, .int 1]) (wc := [(h0, .inr (12, (mF r t0 t1 t2 t3 t4 t5 t6 t7 t8 t9)))]) (c_Md_fails11 l D a h0 r t0 t1 t2 t3 t4 t5 t6 t7 t8 t9 H.size) gc_49 gv_Md_fails (kRecv E w 12 0 rfl rfl) [0] rfl rfl rfl rfl rfl ⟨(Nat.le_of_ble_eq_true rfl), (Nat.le_of_ble_eq_true rfl)⟩ rfl (Nat.le_of_ble_eq_true rfl) d_Md_bars_14 ⟨(Nat.le_of_ble_eq_true rfl), (Nat.le_of_ble_eq_true rfl)⟩) (fun rr u H locs hu w => ?_)
    obtain ⟨rfl, rfl⟩ := hu
    have w : kW D A s [(h0, .inr (12, (mF r 1 t1 t2 t3 t4 t5 t6 t7 t8 t9)))] H locs := w
    refine lv_if_ne (tgt := 42) hx hb d_Md_bars_17 (by decide) (fun _ => ?_) (fun h => absurd h (by decide))
    refine lv_iconst (v := 1) hx hb d_Md_bars_42 (by decide) ?_
    refine lv_goto (tgt := 47) hx hb d_Md_bars_43 (by decide) ?_
    refine W.widen (k := 0) (n := 0) (Nat.le_of_ble_eq_true rfl) (Nat.le_of_ble_eq_true rfl) ?_
    exact kx_zret E w hr hlk d_Md_bars_47 (v := 1) (by decide) ⟨rfl, rfl⟩)
