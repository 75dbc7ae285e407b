/-! laid by program (wip/gen) -/
set_option maxRecDepth 100000 in
set_option maxHeartbeats 4000000 in
theorem c_Md_roots_none (l : Launch) (D : va_G) (a : Nat → ClassId) (h0 : Nat) (r : Nat → Nat) (t0 : Int32) (t1 : Int32) (t2 : Int32) (t3 : Int32) (t4 : Int32) (t5 : Int32) (t6 : Int32) (t7 : Int32) (t8 : Int32) (t9 : Int32) (j : Nat) (hj : j ≤ 15) : ∀ sz : Nat, Met l y_Md_roots (Cond.code y_Md_roots b_Md_roots 2 (some .int) :: wA) ({ frames := 3, cells := 0, slots := 0, locals := 66 } : Room) (va_Pc [.ref h0, .int (nI j)] (kP D a [(h0, .inr (12, (mF r t0 t1 t2 t3 t4 t5 t6 t7 t8 t9))), ((r 7), .inl (a 3, 80, .inl (upd (fun _ => 0) 16 1)))] sz)) (va_Qi (fun (rr : Int32) (u : va_W) => rr = 0 ∧ u = [((r 7), .inl (a 3, 80, .inl (upd (fun _ => 0) 16 1))), (h0, .inr (12, (mF r 2 t1 t2 t3 t4 t5 t6 t7 t8 t9)))]) (kB D a (va_A [(h0, .inr (12, (mF r t0 t1 t2 t3 t4 t5 t6 t7 t8 t9))), ((r 7), .inl (a 3, 80, .inl (upd (fun _ => 0) 16 1)))] sz)) (va_A [(h0, .inr (12, (mF r t0 t1 t2 t3 t4 t5 t6 t7 t8 t9))), ((r 7), .inl (a 3, 80, .inl (upd (fun _ => 0) 16 1)))] sz)) 0 0 (va_A [(h0, .inr (12, (mF r t0 t1 t2 t3 t4 t5 t6 t7 t8 t9))), ((r 7), .inl (a 3, 80, .inl (upd (fun _ => 0) 16 1)))] sz) :=
  kM (Qc := fun A => va_Qi (fun (rr : Int32) (u : va_W) => rr = 0 ∧ u = [((r 7), .inl (a 3, 80, .inl (upd (fun _ => 0) 16 1))), (h0, .inr (12, (mF r 2 t1 t2 t3 t4 t5 t6 t7 t8 t9)))]) (kB D a A) A) (by decide) (Nat.le_of_ble_eq_true rfl) (by
    intro p e s m below meth c A ls H locs E hr hlk hnm w hl
    have hx := E.1.1
    have hb := E.1.2.1
    have E : kE p m c b_Md_roots 2 s [.ref h0, .int (nI j)].toArray "RootAlgebraModel" D a A := E
    have hl : lv_has ls 2 [(0, .ref h0), (1, .int (nI j))] := hl
    refine lv_aload_n hx hb d_Md_roots_0 rfl (lv_at hl 0 rfl) ?_
    refine lv_iload_n hx hb d_Md_roots_1 rfl (lv_at hl 1 rfl) ?_
    refine kx_i E w (wc := [(h0, .inr (12, (mF r t0 t1 t2 t3 t4 t5 t6 t7 t8 t9))), ((r 7), .inl (a 3, 80, .inl (upd (fun _ => 0) 16 1)))]) (wr := []) [0, 1] [] rfl rfl ⟨rfl, rfl, by decide⟩ (kx_rV E w hl.1 (As := [.int (nI j)]) (wc := [(h0, .inr (12, (mF r t0 t1 t2 t3 t4 t5 t6 t7 t8 t9))), ((r 7), .inl (a 3, 80, .inl (upd (fun _ => 0) 16 1)))]) (c_Md_bars_none l D a h0 r t0 t1 t2 t3 t4 t5 t6 t7 t8 t9 j (by omega) H.size) gc_50 gv_Md_bars (kRecv E w 12 0 rfl rfl) [0, 1] rfl rfl rfl rfl rfl ⟨(Nat.le_of_ble_eq_true rfl), (Nat.le_of_ble_eq_true rfl)⟩ rfl (Nat.le_of_ble_eq_true rfl) d_Md_roots_2 ⟨(Nat.le_of_ble_eq_true rfl), (Nat.le_of_ble_eq_true rfl)⟩) (fun rr u H locs hu w => ?_)
    obtain ⟨rfl, rfl⟩ := hu
    have w : kW D A s [((r 7), .inl (a 3, 80, .inl (upd (fun _ => 0) 16 1))), (h0, .inr (12, (mF r 2 t1 t2 t3 t4 t5 t6 t7 t8 t9)))] H locs := w
    refine lv_if_eq (tgt := 12) hx hb d_Md_roots_5 (by decide) (fun h => absurd h (by decide)) (fun _ => ?_)
    refine lv_iconst (v := 0) hx hb d_Md_roots_8 (by decide) ?_
    refine lv_goto (tgt := 18) hx hb d_Md_roots_9 (by decide) ?_
    refine W.widen (k := 0) (n := 0) (Nat.le_of_ble_eq_true rfl) (Nat.le_of_ble_eq_true rfl) ?_
    exact kx_iret E w hr hlk d_Md_roots_18 (v := 0) ⟨rfl, rfl⟩)
set_option maxRecDepth 100000 in
set_option maxHeartbeats 4000000 in
theorem c_Md_write_bad (l : Launch) (D : va_G) (a : Nat → ClassId) (h0 : Nat) (r : Nat → Nat) (t0 : Int32) (t1 : Int32) (t2 : Int32) (t3 : Int32) (t4 : Int32) (t5 : Int32) (t6 : Int32) (t7 : Int32) (t8 : Int32) (t9 : Int32) (x : Int32) (hbad : x < 0 ∨ 16 < x) : ∀ sz : Nat, Met l y_Md_write (Cond.code y_Md_write b_Md_write 3 (some .int) :: wA) ({ frames := 3, cells := 0, slots := 0, locals := 66 } : Room) (va_Pc [.ref h0, .int x] (kP D a [(h0, .inr (12, (mF r t0 t1 t2 t3 t4 t5 t6 t7 t8 t9)))] sz)) (va_Qi (fun (rr : Int32) (u : va_W) => rr = 0 ∧ u = [(h0, .inr (12, (mF r 1 t1 t2 t3 t4 t5 t6 t7 t8 t9)))]) (kB D a (va_A [(h0, .inr (12, (mF r t0 t1 t2 t3 t4 t5 t6 t7 t8 t9)))] sz)) (va_A [(h0, .inr (12, (mF r t0 t1 t2 t3 t4 t5 t6 t7 t8 t9)))] sz)) 0 0 (va_A [(h0, .inr (12, (mF r t0 t1 t2 t3 t4 t5 t6 t7 t8 t9)))] sz) :=
  kM (Qc := fun A => va_Qi (fun (rr : Int32) (u : va_W) => rr = 0 ∧ u = [(h0, .inr (12, (mF r 1 t1 t2 t3 t4 t5 t6 t7 t8 t9)))]) (kB D a A) A) (by decide) (Nat.le_of_ble_eq_true rfl) (by
    intro p e s m below meth c A ls H locs E hr hlk hnm w hl
    have hx := E.1.1
    have hb := E.1.2.1
    have E : kE p m c b_Md_write 3 s [.ref h0, .int x].toArray "RootAlgebraModel" D a A := E
    have hl : lv_has ls 3 [(0, .ref h0), (1, .int x)] := hl
    refine lv_aload_n hx hb d_Md_write_0 rfl (lv_at hl 0 rfl) ?_
    refine lv_iload_n hx hb d_Md_write_1 rfl (lv_at hl 1 rfl) ?_
    refine kx_i E w (wc := [(h0, .inr (12, (mF r t0 t1 t2 t3 t4 t5 t6 t7 t8 t9)))]) (wr := []) [0] [] rfl rfl ⟨rfl, rfl, by decide⟩ (kx_rV E w hl.1 (As := [.int x]) (wc := [(h0, .inr (12, (mF r t0 t1 t2 t3 t4 t5 t6 t7 t8 t9)))]) (c_Md_bars_bad l D a h0 r t0 t1 t2 t3 t4 t5 t6 t7 t8 t9 x hbad H.size) gc_50 gv_Md_bars (kRecv E w 12 0 rfl rfl) [0] rfl rfl rfl rfl rfl ⟨(Nat.le_of_ble_eq_true rfl), (Nat.le_of_ble_eq_true rfl)⟩ rfl (Nat.le_of_ble_eq_true rfl) d_Md_write_2 ⟨(Nat.le_of_ble_eq_true rfl), (Nat.le_of_ble_eq_true rfl)⟩) (fun rr u H locs hu w => ?_)
    obtain ⟨rfl, rfl⟩ := hu
    have w : kW D A s [(h0, .inr (12, (mF r 1 t1 t2 t3 t4 t5 t6 t7 t8 t9)))] H locs := w
    refine lv_if_eq (tgt := 10) hx hb d_Md_write_5 (by decide) (fun h => absurd h (by decide)) (fun _ => ?_)
    refine lv_iconst (v := 0) hx hb d_Md_write_8 (by decide) ?_
    refine W.widen (k := 0) (n := 0) (Nat.le_of_ble_eq_true rfl) (Nat.le_of_ble_eq_true rfl) ?_
    exact kx_iret E w hr hlk d_Md_write_9 (v := 0) ⟨rfl, rfl⟩)
set_option maxRecDepth 100000 in
set_option maxHeartbeats 4000000 in
theorem c_Md_write_none (l : Launch) (D : va_G) (a : Nat → ClassId) (h0 : Nat) (r : Nat → Nat) (t0 : Int32) (t1 : Int32) (t2 : Int32) (t3 : Int32) (t4 : Int32) (t5 : Int32) (t6 : Int32) (t7 : Int32) (t8 : Int32) (t9 : Int32) (j : Nat) (hj : j ≤ 15) : ∀ sz : Nat, Met l y_Md_write (Cond.code y_Md_write b_Md_write 3 (some .int) :: wA) ({ frames := 3, cells := 0, slots := 0, locals := 66 } : Room) (va_Pc [.ref h0, .int (nI j)] (kP D a [(h0, .inr (12, (mF r t0 t1 t2 t3 t4 t5 t6 t7 t8 t9))), ((r 7), .inl (a 3, 80, .inl (upd (fun _ => 0) 16 1)))] sz)) (va_Qi (fun (rr : Int32) (u : va_W) => rr = 0 ∧ u = [((r 7), .inl (a 3, 80, .inl (upd (fun _ => 0) 16 1))), (h0, .inr (12, (mF r 2 t1 t2 t3 t4 t5 t6 t7 t8 t9)))]) (kB D a (va_A [(h0, .inr (12, (mF r t0 t1 t2 t3 t4 t5 t6 t7 t8 t9))), ((r 7), .inl (a 3, 80, .inl (upd (fun _ => 0) 16 1)))] sz)) (va_A [(h0, .inr (12, (mF r t0 t1 t2 t3 t4 t5 t6 t7 t8 t9))), ((r 7), .inl (a 3, 80, .inl (upd (fun _ => 0) 16 1)))] sz)) 0 0 (va_A [(h0, .inr (12, (mF r t0 t1 t2 t3 t4 t5 t6 t7 t8 t9))), ((r 7), .inl (a 3, 80, .inl (upd (fun _ => 0) 16 1)))] sz) :=
  kM (Qc := fun A => va_Qi (fun (rr : Int32) (u : va_W) => rr = 0 ∧ u = [((r 7), .inl (a 3, 80, .inl (upd (fun _ => 0) 16 1))), (h0, .inr (12, (mF r 2 t1 t2 t3 t4 t5 t6 t7 t8 t9)))]) (kB D a A) A) (by decide) (Nat.le_of_ble_eq_true rfl) (by
    intro p e s m below meth c A ls H locs E hr hlk hnm w hl
    have hx := E.1.1
    have hb := E.1.2.1
    have E : kE p m c b_Md_write 3 s [.ref h0, .int (nI j)].toArray "RootAlgebraModel" D a A := E
    have hl : lv_has ls 3 [(0, .ref h0), (1, .int (nI j))] := hl
    refine lv_aload_n hx hb d_Md_write_0 rfl (lv_at hl 0 rfl) ?_
    refine lv_iload_n hx hb d_Md_write_1 rfl (lv_at hl 1 rfl) ?_
    refine kx_i E w (wc := [(h0, .inr (12, (mF r t0 t1 t2 t3 t4 t5 t6 t7 t8 t9))), ((r 7), .inl (a 3, 80, .inl (upd (fun _ => 0) 16 1)))]) (wr := []) [0, 1] [] rfl rfl ⟨rfl, rfl, by decide⟩ (kx_rV E w hl.1 (As := [.int (nI j)]) (wc := [(h0, .inr (12, (mF r t0 t1 t2 t3 t4 t5 t6 t7 t8 t9))), ((r 7), .inl (a 3, 80, .inl (upd (fun _ => 0) 16 1)))]) (c_Md_bars_none l D a h0 r t0 t1 t2 t3 t4 t5 t6 t7 t8 t9 j (by omega) H.size) gc_50 gv_Md_bars (kRecv E w 12 0 rfl rfl) [0, 1] rfl rfl rfl rfl rfl ⟨(Nat.le_of_ble_eq_true rfl), (Nat.le_of_ble_eq_true rfl)⟩ rfl (Nat.le_of_ble_eq_true rfl) d_Md_write_2 ⟨(Nat.le_of_ble_eq_true rfl), (Nat.le_of_ble_eq_true rfl)⟩) (fun rr u H locs hu w => ?_)
    obtain ⟨rfl, rfl⟩ := hu
    have w : kW D A s [((r 7), .inl (a 3, 80, .inl (upd (fun _ => 0) 16 1))), (h0, .inr (12, (mF r 2 t1 t2 t3 t4 t5 t6 t7 t8 t9)))] H locs := w
    refine lv_if_eq (tgt := 10) hx hb d_Md_write_5 (by decide) (fun h => absurd h (by decide)) (fun _ => ?_)
    refine lv_iconst (v := 0) hx hb d_Md_write_8 (by decide) ?_
    refine W.widen (k := 0) (n := 0) (Nat.le_of_ble_eq_true rfl) (Nat.le_of_ble_eq_true rfl) ?_
    exact kx_iret E w hr hlk d_Md_write_9 (v := 0) ⟨rfl, rfl⟩)
set_option maxRecDepth 100000 in
set_option maxHeartbeats 4000000 in
theorem c_Md_coefficient0 (l : Launch) (D : va_G) (a : Nat → ClassId) (h0 : Nat) (r : Nat → Nat) (t0 : Int32) (t1 : Int32) (t2 : Int32) (t3 : Int32) (t4 : Int32) (t5 : Int32) (t6 : Int32) (t7 : Int32) (t8 : Int32) (t9 : Int32) : ∀ sz : Nat, Met l y_Md_coefficient (Cond.code y_Md_coefficient b_Md_coefficient 3 (some .int) :: wA) ({ frames := 3, cells := 0, slots := 0, locals := 66 } : Room) (va_Pc [.ref h0, .int 16, .int 0] (kP D a [(h0, .inr (12, (mF r t0 t1 t2 t3 t4 t5 t6 t7 t8 t9))), ((r 7), .inl (a 3, 80, .inl (upd (fun _ => 0) 16 1))), ((r 8), .inl (a 0, 80, .inl (upd (fun _ => 0) 16 1))), ((r 9), .inl (a 1, 560, .inr (.inl (vp_updL (vp_updL (fun _ => 0) 112 0) 113 1))))] sz)) (va_Qi (fun (rr : Int32) (u : va_W) => rr = 0 ∧ u = [((r 8), .inl (a 0, 80, .inl (upd (fun _ => 0) 16 1))), ((r 9), .inl (a 1, 560, .inr (.inl (vp_updL (vp_updL (fun _ => 0) 112 0) 113 1)))), ((r 7), .inl (a 3, 80, .inl (upd (fun _ => 0) 16 1))), (h0, .inr (12, (mF r 0 t1 t2 t3 t4 t5 t6 t7 t8 t9)))]) (kB D a (va_A [(h0, .inr (12, (mF r t0 t1 t2 t3 t4 t5 t6 t7 t8 t9))), ((r 7), .inl (a 3, 80, .inl (upd (fun _ => 0) 16 1))), ((r 8), .inl (a 0, 80, .inl (upd (fun _ => 0) 16 1))), ((r 9), .inl (a 1, 560, .inr (.inl (vp_updL (vp_updL (fun _ => 0) 112 0) 113 1))))] sz)) (va_A [(h0, .inr (12, (mF r t0 t1 t2 t3 t4 t5 t6 t7 t8 t9))), ((r 7), .inl (a 3, 80, .inl (upd (fun _ => 0) 16 1))), ((r 8), .inl (a 0, 80, .inl (upd (fun _ => 0) 16 1))), ((r 9), .inl (a 1, 560, .inr (.inl (vp_updL (vp_updL (fun _ => 0) 112 0) 113 1))))] sz)) 0 0 (va_A [(h0, .inr (12, (mF r t0 t1 t2 t3 t4 t5 t6 t7 t8 t9))), ((r 7), .inl (a 3, 80, .inl (upd (fun _ => 0) 16 1))), ((r 8), .inl (a 0, 80, .inl (upd (fun _ => 0) 16 1))), ((r 9), .inl (a 1, 560, .inr (.inl (vp_updL (vp_updL (fun _ => 0) 112 0) 113 1))))] sz) :=
  kM (Qc := fun A => va_Qi (fun (rr : Int32) (u : va_W) => rr = 0 ∧ u = [((r 8), .inl (a 0, 80, .inl (upd (fun _ => 0) 16 1))), ((r 9), .inl (a 1, 560, .inr (.inl (vp_updL (vp_updL (fun _ => 0) 112 0) 113 1)))), ((r 7), .inl (a 3, 80, .inl (upd (fun _ => 0) 16 1))), (h0, .inr (12, (mF r 0 t1 t2 t3 t4 t5 t6 t7 t8 t9)))]) (kB D a A) A) (by decide) (Nat.le_of_ble_eq_true rfl) (by
    intro p e s m below meth c A ls H locs E hr hlk hnm w hl
    have hx := E.1.1
    have hb := E.1.2.1
    have E : kE p m c b_Md_coefficient 3 s [.ref h0, .int 16, .int 0].toArray "RootAlgebraModel" D a A := E
    have hl : lv_has ls 3 [(0, .ref h0), (1, .int 16), (2, .int 0)] := hl
    refine lv_aload_n hx hb d_Md_coefficient_0 rfl (lv_at hl 0 rfl) ?_
    refine lv_iload_n hx hb d_Md_coefficient_1 rfl (lv_at hl 1 rfl) ?_
    refine kx_i E w (wc := [(h0, .inr (12, (mF r t0 t1 t2 t3 t4 t5 t6 t7 t8 t9))), ((r 7), .inl (a 3, 80, .inl (upd (fun _ => 0) 16 1)))]) (wr := [((r 8), .inl (a 0, 80, .inl (upd (fun _ => 0) 16 1))), ((r 9), .inl (a 1, 560, .inr (.inl (vp_updL (vp_updL (fun _ => 0) 112 0) 113 1))))]) [0, 1] [2, 3] rfl rfl ⟨rfl, rfl, by decide⟩ (kx_rV E w hl.1 (As := [.int 16]) (wc := [(h0, .inr (12, (mF r t0 t1 t2 t3 t4 t5 t6 t7 t8 t9))), ((r 7), .inl (a 3, 80, .inl (upd (fun _ => 0) 16 1)))]) (c_Md_bars_it l D a h0 r t0 t1 t2 t3 t4 t5 t6 t7 t8 t9 H.size) gc_50 gv_Md_bars (kRecv E w 12 0 rfl rfl) [0, 1] rfl rfl rfl rfl rfl ⟨(Nat.le_of_ble_eq_true rfl), (Nat.le_of_ble_eq_true rfl)⟩ rfl (Nat.le_of_ble_eq_true rfl) d_Md_coefficient_2 ⟨(Nat.le_of_ble_eq_true rfl), (Nat.le_of_ble_eq_true rfl)⟩) (fun rr u H locs hu w => ?_)
    obtain ⟨rfl, rfl⟩ := hu
    have w : kW D A s [((r 8), .inl (a 0, 80, .inl (upd (fun _ => 0) 16 1))), ((r 9), .inl (a 1, 560, .inr (.inl (vp_updL (vp_updL (fun _ => 0) 112 0) 113 1)))), ((r 7), .inl (a 3, 80, .inl (upd (fun _ => 0) 16 1))), (h0, .inr (12, (mF r 0 t1 t2 t3 t4 t5 t6 t7 t8 t9)))] H locs := w
    refine lv_if_ne (tgt := 37) hx hb d_Md_coefficient_5 (by decide) (fun h => absurd (by decide) h) (fun _ => ?_)
    refine lv_aload_n hx hb d_Md_coefficient_8 rfl (lv_at hl 0 rfl) ?_
    refine lv_iload_n hx hb d_Md_coefficient_9 rfl (lv_at hl 2 rfl) ?_
    refine lv_i2l (v := 0) hx hb d_Md_coefficient_10 (by decide) ?_
    refine lv_lconst (v := 0) hx hb d_Md_coefficient_11 (by decide) ?_
    refine lv_aload_n hx hb d_Md_coefficient_12 rfl (lv_at hl 0 rfl) ?_
    refine kx_get E w zC_Md 3 rfl 8 (by decide) mw_302 rfl d_Md_coefficient_13 ?_
    refine lv_iload_n hx hb d_Md_coefficient_16 rfl (lv_at hl 1 rfl) ?_
    refine kx_iald E w 0 rfl (by unfold vp_in; decide) (v := 1) rfl d_Md_coefficient_17 ?_
    refine lv_i2l (v := 1) hx hb d_Md_coefficient_18 (by decide) ?_
    refine kx_i E w (wc := []) (wr := [((r 8), .inl (a 0, 80, .inl (upd (fun _ => 0) 16 1))), ((r 9), .inl (a 1, 560, .inr (.inl (vp_updL (vp_updL (fun _ => 0) 112 0) 113 1)))), ((r 7), .inl (a 3, 80, .inl (upd (fun _ => 0) 16 1))), (h0, .inr (12, (mF r 0 t1 t2 t3 t4 t5 t6 t7 t8 t9)))]) [] [0, 1, 2, 3] rfl rfl ⟨rfl, rfl, by decide⟩ (kx_rS E w hl.1 (As := [.long 0, .long 0, .long 1]) (wc := []) (c_Md_in1 l D a 0 0 1 (by decide) H.size) gc_47 gs_Md_in [] rfl rfl rfl rfl rfl ⟨(Nat.le_of_ble_eq_true rfl), (Nat.le_of_ble_eq_true rfl)⟩ rfl (Nat.le_of_ble_eq_true rfl) d_Md_coefficient_19 ⟨(Nat.le_of_ble_eq_true rfl), (Nat.le_of_ble_eq_true rfl)⟩) (fun rr u H locs hu w => ?_)
    obtain ⟨rfl, rfl⟩ := hu
    have w : kW D A s [((r 8), .inl (a 0, 80, .inl (upd (fun _ => 0) 16 1))), ((r 9), .inl (a 1, 560, .inr (.inl (vp_updL (vp_updL (fun _ => 0) 112 0) 113 1)))), ((r 7), .inl (a 3, 80, .inl (upd (fun _ => 0) 16 1))), (h0, .inr (12, (mF r 0 t1 t2 t3 t4 t5 t6 t7 t8 t9)))] H locs := w
    refine lv_if_ne (tgt := 29) hx hb d_Md_coefficient_22 (by decide) (fun _ => ?_) (fun h => absurd h (by decide))
    refine lv_iconst (v := 0) hx hb d_Md_coefficient_29 (by decide) ?_
    refine lv_iconst (v := 2) hx hb d_Md_coefficient_30 (by decide) ?_
    refine kx_i E w (wc := [(h0, .inr (12, (mF r 0 t1 t2 t3 t4 t5 t6 t7 t8 t9)))]) (wr := [((r 8), .inl (a 0, 80, .inl (upd (fun _ => 0) 16 1))), ((r 9), .inl (a 1, 560, .inr (.inl (vp_updL (vp_updL (fun _ => 0) 112 0) 113 1)))), ((r 7), .inl (a 3, 80, .inl (upd (fun _ => 0) 16 1)))]) [3] [0, 1, 2] rfl rfl ⟨rfl, rfl, by decide⟩ (kx_rV E w hl.1 (As := [.int 0, .int 2]) (wc := [(h0, .inr (12, (mF r 0 t1 t2 t3 t4 t5 t6 t7 t8 t9)))]) (c_Md_fails02 l D a h0 r 0 t1 t2 t3 t4 t5 t6 t7 t8 t9 H.size) gc_49 gv_Md_fails (kRecv E w 12 3 rfl rfl) [3] rfl rfl rfl rfl rfl ⟨(Nat.le_of_ble_eq_true rfl), (Nat.le_of_ble_eq_true rfl)⟩ rfl (Nat.le_of_ble_eq_true rfl) d_Md_coefficient_31 ⟨(Nat.le_of_ble_eq_true rfl), (Nat.le_of_ble_eq_true rfl)⟩) (fun rr u H locs hu w => ?_)
    obtain ⟨rfl, rfl⟩ := hu
    have w : kW D A s [((r 8), .inl (a 0, 80, .inl (upd (fun _ => 0) 16 1))), ((r 9), .inl (a 1, 560, .inr (.inl (vp_updL (vp_updL (fun _ => 0) 112 0) 113 1)))), ((r 7), .inl (a 3, 80, .inl (upd (fun _ => 0) 16 1))), (h0, .inr (12, (mF r 0 t1 t2 t3 t4 t5 t6 t7 t8 t9)))] H locs := w
    refine lv_if_eq (tgt := 39) hx hb d_Md_coefficient_34 (by decide) (fun _ => ?_) (fun h => absurd (by decide) h)
    refine lv_aload_n hx hb d_Md_coefficient_39 rfl (lv_at hl 0 rfl) ?_
    refine kx_get E w zC_Md 3 rfl 9 (by decide) mw_303 rfl d_Md_coefficient_40 ?_
    refine lv_bipush (v := 7) hx hb d_Md_coefficient_43 (by decide) ?_
    refine lv_iload_n hx hb d_Md_coefficient_45 rfl (lv_at hl 1 rfl) ?_
    refine kx_imul (v := 112) hx hb d_Md_coefficient_46 (by decide) ?_
    refine lv_iload_n hx hb d_Md_coefficient_47 rfl (lv_at hl 2 rfl) ?_
    refine kx_iadd (v := 112) hx hb d_Md_coefficient_48 (by decide) ?_
    refine kx_lald E w 1 rfl (by unfold vp_in; decide) (v := 0) rfl d_Md_coefficient_49 ?_
    refine lv_l2i (v := 0) hx hb d_Md_coefficient_50 (by decide) ?_
    refine W.widen (k := 0) (n := 0) (Nat.le_of_ble_eq_true rfl) (Nat.le_of_ble_eq_true rfl) ?_
    exact kx_iret E w hr hlk d_Md_coefficient_51 (v := 0) ⟨rfl, rfl⟩)
set_option maxRecDepth 100000 in
set_option maxHeartbeats 4000000 in
theorem c_Md_coefficient1 (l : Launch) (D : va_G) (a : Nat → ClassId) (h0 : Nat) (r : Nat → Nat) (t0 : Int32) (t1 : Int32) (t2 : Int32) (t3 : Int32) (t4 : Int32) (t5 : Int32) (t6 : Int32) (t7 : Int32) (t8 : Int32) (t9 : Int32) : ∀ sz : Nat, Met l y_Md_coefficient (Cond.code y_Md_coefficient b_Md_coefficient 3 (some .int) :: wA) ({ frames := 3, cells := 0, slots := 0, locals := 66 } : Room) (va_Pc [.ref h0, .int 16, .int 1] (kP D a [(h0, .inr (12, (mF r t0 t1 t2 t3 t4 t5 t6 t7 t8 t9))), ((r 7), .inl (a 3, 80, .inl (upd (fun _ => 0) 16 1))), ((r 8), .inl (a 0, 80, .inl (upd (fun _ => 0) 16 1))), ((r 9), .inl (a 1, 560, .inr (.inl (vp_updL (vp_updL (fun _ => 0) 112 0) 113 1))))] sz)) (va_Qi (fun (rr : Int32) (u : va_W) => rr = 1 ∧ u = [((r 8), .inl (a 0, 80, .inl (upd (fun _ => 0) 16 1))), ((r 9), .inl (a 1, 560, .inr (.inl (vp_updL (vp_updL (fun _ => 0) 112 0) 113 1)))), ((r 7), .inl (a 3, 80, .inl (upd (fun _ => 0) 16 1))), (h0, .inr (12, (mF r 0 t1 t2 t3 t4 t5 t6 t7 t8 t9)))]) (kB D a (va_A [(h0, .inr (12, (mF r t0 t1 t2 t3 t4 t5 t6 t7 t8 t9))), ((r 7), .inl (a 3, 80, .inl (upd (fun _ => 0) 16 1))), ((r 8), .inl (a 0, 80, .inl (upd (fun _ => 0) 16 1))), ((r 9), .inl (a 1, 560, .inr (.inl (vp_updL (vp_updL (fun _ => 0) 112 0) 113 1))))] sz)) (va_A [(h0, .inr (12, (mF r t0 t1 t2 t3 t4 t5 t6 t7 t8 t9))), ((r 7), .inl (a 3, 80, .inl (upd (fun _ => 0) 16 1))), ((r 8), .inl (a 0, 80, .inl (upd (fun _ => 0) 16 1))), ((r 9), .inl (a 1, 560, .inr (.inl (vp_updL (vp_updL (fun _ => 0) 112 0) 113 1))))] sz)) 0 0 (va_A [(h0, .inr (12, (mF r t0 t1 t2 t3 t4 t5 t6 t7 t8 t9))), ((r 7), .inl (a 3, 80, .inl (upd (fun _ => 0) 16 1))), ((r 8), .inl (a 0, 80, .inl (upd (fun _ => 0) 16 1))), ((r 9), .inl (a 1, 560, .inr (.inl (vp_updL (vp_updL (fun _ => 0) 112 0) 113 1))))] sz) :=
  kM (Qc := fun A => va_Qi (fun (rr : Int32) (u : va_W) => rr = 1 ∧ u = [((r 8), .inl (a 0, 80, .inl (upd (fun _ => 0) 16 1))), ((r 9), .inl (a 1, 560, .inr (.inl (vp_updL (vp_updL (fun _ => 0) 112 0) 113 1)))), ((r 7), .inl (a 3, 80, .inl (upd (fun _ => 0) 16 1))), (h0, .inr (12, (mF r 0 t1 t2 t3 t4 t5 t6 t7 t8 t9)))]) (kB D a A) A) (by decide) (Nat.le_of_ble_eq_true rfl) (by
    intro p e s m below meth c A ls H locs E hr hlk hnm w hl
    have hx := E.1.1
    have hb := E.1.2.1
    have E : kE p m c b_Md_coefficient 3 s [.ref h0, .int 16, .int 1].toArray "RootAlgebraModel" D a A := E
    have hl : lv_has ls 3 [(0, .ref h0), (1, .int 16), (2, .int 1)] := hl
    refine lv_aload_n hx hb d_Md_coefficient_0 rfl (lv_at hl 0 rfl) ?_
    refine lv_iload_n hx hb d_Md_coefficient_1 rfl (lv_at hl 1 rfl) ?_
    refine kx_i E w (wc := [(h0, .inr (12, (mF r t0 t1 t2 t3 t4 t5 t6 t7 t8 t9))), ((r 7), .inl (a 3, 80, .inl (upd (fun _ => 0) 16 1)))]) (wr := [((r 8), .inl (a 0, 80, .inl (upd (fun _ => 0) 16 1))), ((r 9), .inl (a 1, 560, .inr (.inl (vp_updL (vp_updL (fun _ => 0) 112 0) 113 1))))]) [0, 1] [2, 3] rfl rfl ⟨rfl, rfl, by decide⟩ (kx_rV E w hl.1 (As := [.int 16]) (wc := [(h0, .inr (12, (mF r t0 t1 t2 t3 t4 t5 t6 t7 t8 t9))), ((r 7), .inl (a 3, 80, .inl (upd (fun _ => 0) 16 1)))]) (c_Md_bars_it l D a h0 r t0 t1 t2 t3 t4 t5 t6 t7 t8 t9 H.size) gc_50 gv_Md_bars (kRecv E w 12 0 rfl rfl) [0, 1] rfl rfl rfl rfl rfl ⟨(Nat.le_of_ble_eq_true rfl), (Nat.le_of_ble_eq_true rfl)⟩ rfl (Nat.le_of_ble_eq_true rfl) d_Md_coefficient_2 ⟨(Nat.le_of_ble_eq_true rfl), (Nat.le_of_ble_eq_true rfl)⟩) (fun rr u H locs hu w => ?_)
    obtain ⟨rfl, rfl⟩ := hu
    have w : kW D A s [((r 8), .inl (a 0, 80, .inl (upd (fun _ => 0) 16 1))), ((r 9), .inl (a 1, 560, .inr (.inl (vp_updL (vp_updL (fun _ => 0) 112 0) 113 1)))), ((r 7), .inl (a 3, 80, .inl (upd (fun _ => 0) 16 1))), (h0, .inr (12, (mF r 0 t1 t2 t3 t4 t5 t6 t7 t8 t9)))] H locs := w
    refine lv_if_ne (tgt := 37) hx hb d_Md_coefficient_5 (by decide) (fun h => absurd (by decide) h) (fun _ => ?_)
    refine lv_aload_n hx hb d_Md_coefficient_8 rfl (lv_at hl 0 rfl) ?_
    refine lv_iload_n hx hb d_Md_coefficient_9 rfl (lv_at hl 2 rfl) ?_
    refine lv_i2l (v := 1) hx hb d_Md_coefficient_10 (by decide) ?_
    refine lv_lconst (v := 0) hx hb d_Md_coefficient_11 (by decide) ?_
    refine lv_aload_n hx hb d_Md_coefficient_12 rfl (lv_at hl 0 rfl) ?_
    refine kx_get E w zC_Md 3 rfl 8 (by decide) mw_302 rfl d_Md_coefficient_13 ?_
    refine lv_iload_n hx hb d_Md_coefficient_16 rfl (lv_at hl 1 rfl) ?_
    refine kx_iald E w 0 rfl (by unfold vp_in; decide) (v := 1) rfl d_Md_coefficient_17 ?_
    refine lv_i2l (v := 1) hx hb d_Md_coefficient_18 (by decide) ?_
    refine kx_i E w (wc := []) (wr := [((r 8), .inl (a 0, 80, .inl (upd (fun _ => 0) 16 1))), ((r 9), .inl (a 1, 560, .inr (.inl (vp_updL (vp_updL (fun _ => 0) 112 0) 113 1)))), ((r 7), .inl (a 3, 80, .inl (upd (fun _ => 0) 16 1))), (h0, .inr (12, (mF r 0 t1 t2 t3 t4 t5 t6 t7 t8 t9)))]) [] [0, 1, 2, 3] rfl rfl ⟨rfl, rfl, by decide⟩ (kx_rS E w hl.1 (As := [.long 1, .long 0, .long 1]) (wc := []) (c_Md_in1 l D a 1 0 1 (by decide) H.size) gc_47 gs_Md_in [] rfl rfl rfl rfl rfl ⟨(Nat.le_of_ble_eq_true rfl), (Nat.le_of_ble_eq_true rfl)⟩ rfl (Nat.le_of_ble_eq_true rfl) d_Md_coefficient_19 ⟨(Nat.le_of_ble_eq_true rfl), (Nat.le_of_ble_eq_true rfl)⟩) (fun rr u H locs hu w => ?_)
    obtain ⟨rfl, rfl⟩ := hu
    have w : kW D A s [((r 8), .inl (a 0, 80, .inl (upd (fun _ => 0) 16 1))), ((r 9), .inl (a 1, 560, .inr (.inl (vp_updL (vp_updL (fun _ => 0) 112 0) 113 1)))), ((r 7), .inl (a 3, 80, .inl (upd (fun _ => 0) 16 1))), (h0, .inr (12, (mF r 0 t1 t2 t3 t4 t5 t6 t7 t8 t9)))] H locs := w
    refine lv_if_ne (tgt := 29) hx hb d_Md_coefficient_22 (by decide) (fun _ => ?_) (fun h => absurd h (by decide))
    refine lv_iconst (v := 0) hx hb d_Md_coefficient_29 (by decide) ?_
    refine lv_iconst (v := 2) hx hb d_Md_coefficient_30 (by decide) ?_
    refine kx_i E w (wc := [(h0, .inr (12, (mF r 0 t1 t2 t3 t4 t5 t6 t7 t8 t9)))]) (wr := [((r 8), .inl (a 0, 80, .inl (upd (fun _ => 0) 16 1))), ((r 9), .inl (a 1, 560, .inr (.inl (vp_updL (vp_updL (fun _ => 0) 112 0) 113 1)))), ((r 7), .inl (a 3, 80, .inl (upd (fun _ => 0) 16 1)))]) [3] [0, 1, 2] rfl rfl ⟨rfl, rfl, by decide⟩ (kx_rV E w hl.1 (As := [.int 0, .int 2]) (wc := [(h0, .inr (12, (mF r 0 t1 t2 t3 t4 t5 t6 t7 t8 t9)))]) (c_Md_fails02 l D a h0 r 0 t1 t2 t3 t4 t5 t6 t7 t8 t9 H.size) gc_49 gv_Md_fails (kRecv E w 12 3 rfl rfl) [3] rfl rfl rfl rfl rfl ⟨(Nat.le_of_ble_eq_true rfl), (Nat.le_of_ble_eq_true rfl)⟩ rfl (Nat.le_of_ble_eq_true rfl) d_Md_coefficient_31 ⟨(Nat.le_of_ble_eq_true rfl), (Nat.le_of_ble_eq_true rfl)⟩) (fun rr u H locs hu w => ?_)
    obtain ⟨rfl, rfl⟩ := hu
    have w : kW D A s [((r 8), .inl (a 0, 80, .inl (upd (fun _ => 0) 16 1))), ((r 9), .inl (a 1, 560, .inr (.inl (vp_updL (vp_updL (fun _ => 0) 112 0) 113 1)))), ((r 7), .inl (a 3, 80, .inl (upd (fun _ => 0) 16 1))), (h0, .inr (12, (mF r 0 t1 t2 t3 t4 t5 t6 t7 t8 t9)))] H locs := w
    refine lv_if_eq (tgt := 39) hx hb d_Md_coefficient_34 (by decide) (fun _ => ?_) (fun h => absurd (by decide) h)
    refine lv_aload_n hx hb d_Md_coefficient_39 rfl (lv_at hl 0 rfl) ?_
    refine kx_get E w zC_Md 3 rfl 9 (by decide) mw_303 rfl d_Md_coefficient_40 ?_
    refine lv_bipush (v := 7) hx hb d_Md_coefficient_43 (by decide) ?_
    refine lv_iload_n hx hb d_Md_coefficient_45 rfl (lv_at hl 1 rfl) ?_
    refine kx_imul (v := 112) hx hb d_Md_coefficient_46 (by decide) ?_
    refine lv_iload_n hx hb d_Md_coefficient_47 rfl (lv_at hl 2 rfl) ?_
    refine kx_iadd (v := 113) hx hb d_Md_coefficient_48 (by decide) ?_
    refine kx_lald E w 1 rfl (by unfold vp_in; decide) (v := 1) rfl d_Md_coefficient_49 ?_
    refine lv_l2i (v := 1) hx hb d_Md_coefficient_50 (by decide) ?_
    refine W.widen (k := 0) (n := 0) (Nat.le_of_ble_eq_true rfl) (Nat.le_of_ble_eq_true rfl) ?_
    exact kx_iret E w hr hlk d_Md_coefficient_51 (v := 1) ⟨rfl, rfl⟩)
