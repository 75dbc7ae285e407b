/-! laid by program (wip/gen) -/
set_option maxRecDepth 100000 in
set_option maxHeartbeats 4000000 in
theorem c_Md_coefficient_far (l : Launch) (D : va_G) (a : Nat → ClassId) (h0 : Nat) (r : Nat → Nat) (t0 : Int32) (t1 : Int32) (t2 : Int32) (t3 : Int32) (t4 : Int32) (t5 : Int32) (t6 : Int32) (t7 : Int32) (t8 : Int32) (t9 : Int32) (y : Int32) (hbad : y < 0 ∨ 1 < y) : ∀ sz : Nat, Met l y_Md_coefficient (Cond.code y_Md_coefficient b_Md_coefficient 3 (some .int) :: wA) ({ frames := 3, cells := 0, slots := 0, locals := 66 } : Room) (va_Pc [.ref h0, .int 16, .int y] (kP D a [(h0, .inr (12, (mF r t0 t1 t2 t3 t4 t5 t6 t7 t8 t9))), ((r 7), .inl (a 3, 80, .inl (upd (fun _ => 0) 16 1))), ((r 8), .inl (a 0, 80, .inl (upd (fun _ => 0) 16 1)))] sz)) (va_Qi (fun (rr : Int32) (u : va_W) => rr = 0 ∧ u = [((r 8), .inl (a 0, 80, .inl (upd (fun _ => 0) 16 1))), ((r 7), .inl (a 3, 80, .inl (upd (fun _ => 0) 16 1))), (h0, .inr (12, (mF r 2 t1 t2 t3 t4 t5 t6 t7 t8 t9)))]) (kB D a (va_A [(h0, .inr (12, (mF r t0 t1 t2 t3 t4 t5 t6 t7 t8 t9))), ((r 7), .inl (a 3, 80, .inl (upd (fun _ => 0) 16 1))), ((r 8), .inl (a 0, 80, .inl (upd (fun _ => 0) 16 1)))] sz)) (va_A [(h0, .inr (12, (mF r t0 t1 t2 t3 t4 t5 t6 t7 t8 t9))), ((r 7), .inl (a 3, 80, .inl (upd (fun _ => 0) 16 1))), ((r 8), .inl (a 0, 80, .inl (upd (fun _ => 0) 16 1)))] sz)) 0 0 (va_A [(h0, .inr (12, (mF r t0 t1 t2 t3 t4 t5 t6 t7 t8 t9))), ((r 7), .inl (a 3, 80, .inl (upd (fun _ => 0) 16 1))), ((r 8), .inl (a 0, 80, .inl (upd (fun _ => 0) 16 1)))] sz) :=
  kM (Qc := fun A => va_Qi (fun (rr : Int32) (u : va_W) => rr = 0 ∧ u = [((r 8), .inl (a 0, 80, .inl (upd (fun _ => 0) 16 1))), ((r 7), .inl (a 3, 80, .inl (upd (fun _ => 0) 16 1))), (h0, .inr (12, (mF r 2 t1 t2 t3 t4 t5 t6 t7 t8 t9)))]) (kB D a A) A) (by decide) (Nat.le_of_ble_eq_true rfl) (by
    intro p e s m below meth c A ls H locs E hr hlk hnm w hl
    have hx := E.1.1
    have hb := E.1.2.1
    have E : kE p m c b_Md_coefficient 3 s [.ref h0, .int 16, .int y].toArray "RootAlgebraModel" D a A := E
    have hl : lv_has ls 3 [(0, .ref h0), (1, .int 16), (2, .int y)] := hl
    refine lv_aload_n hx hb d_Md_coefficient_0 rfl (lv_at hl 0 rfl) ?_
    refine lv_iload_n hx hb d_Md_coefficient_1 rfl (lv_at hl 1 rfl) ?_
    refine kx_i E w (wc := [(h0, .inr (12, (mF r t0 t1 t2 t3 t4 t5 t6 t7 t8 t9))), ((r 7), .inl (a 3, 80, .inl (upd (fun _ => 0) 16 1)))]) (wr := [((r 8), .inl (a 0, 80, .inl (upd (fun _ => 0) 16 1)))]) [0, 1] [2] rfl rfl ⟨rfl, rfl, by decide⟩ (kx_rV E w hl.1 (As := [.int 16]) (wc := [(h0, .inr (12, (mF r t0 t1 t2 t3 t4 t5 t6 t7 t8 t9))), ((r 7), .inl (a 3, 80, .inl (upd (fun _ => 0) 16 1)))]) (c_Md_bars_it l D a h0 r t0 t1 t2 t3 t4 t5 t6 t7 t8 t9 H.size) gc_50 gv_Md_bars (kRecv E w 12 0 rfl rfl) [0, 1] rfl rfl rfl rfl rfl ⟨(Nat.le_of_ble_eq_true rfl), (Nat.le_of_ble_eq_true rfl)⟩ rfl (Nat.le_of_ble_eq_true rfl) d_Md_coefficient_2 ⟨(Nat.le_of_ble_eq_true rfl), (Nat.le_of_ble_eq_true rfl)⟩) (fun rr u H locs hu w => ?_)
    obtain ⟨rfl, rfl⟩ := hu
    have w : kW D A s [((r 8), .inl (a 0, 80, .inl (upd (fun _ => 0) 16 1))), ((r 7), .inl (a 3, 80, .inl (upd (fun _ => 0) 16 1))), (h0, .inr (12, (mF r 0 t1 t2 t3 t4 t5 t6 t7 t8 t9)))] H locs := w
    refine lv_if_ne (tgt := 37) hx hb d_Md_coefficient_5 (by decide) (fun h => absurd (by decide) h) (fun _ => ?_)
    refine lv_aload_n hx hb d_Md_coefficient_8 rfl (lv_at hl 0 rfl) ?_
    refine lv_iload_n hx hb d_Md_coefficient_9 rfl (lv_at hl 2 rfl) ?_
    refine lv_i2l (v := y.toInt64) hx hb d_Md_coefficient_10 rfl ?_
    refine lv_lconst (v := 0) hx hb d_Md_coefficient_11 (by decide) ?_
    refine lv_aload_n hx hb d_Md_coefficient_12 rfl (lv_at hl 0 rfl) ?_
    refine kx_get E w zC_Md 2 rfl 8 (by decide) mw_302 rfl d_Md_coefficient_13 ?_
    refine lv_iload_n hx hb d_Md_coefficient_16 rfl (lv_at hl 1 rfl) ?_
    refine kx_iald E w 0 rfl (by unfold vp_in; decide) (v := 1) rfl d_Md_coefficient_17 ?_
    refine lv_i2l (v := 1) hx hb d_Md_coefficient_18 (by decide) ?_
    refine kx_i E w (wc := []) (wr := [((r 8), .inl (a 0, 80, .inl (upd (fun _ => 0) 16 1))), ((r 7), .inl (a 3, 80, .inl (upd (fun _ => 0) 16 1))), (h0, .inr (12, (mF r 0 t1 t2 t3 t4 t5 t6 t7 t8 t9)))]) [] [0, 1, 2] rfl rfl ⟨rfl, rfl, by decide⟩ (kx_rS E w hl.1 (As := [.long y.toInt64, .long 0, .long 1]) (wc := []) (c_Md_in0 l D a y.toInt64 0 1 (kl_out (c := 0) (d := 1) hbad) H.size) gc_47 gs_Md_in [] rfl rfl rfl rfl rfl ⟨(Nat.le_of_ble_eq_true rfl), (Nat.le_of_ble_eq_true rfl)⟩ rfl (Nat.le_of_ble_eq_true rfl) d_Md_coefficient_19 ⟨(Nat.le_of_ble_eq_true rfl), (Nat.le_of_ble_eq_true rfl)⟩) (fun rr u H locs hu w => ?_)
    obtain ⟨rfl, rfl⟩ := hu
    have w : kW D A s [((r 8), .inl (a 0, 80, .inl (upd (fun _ => 0) 16 1))), ((r 7), .inl (a 3, 80, .inl (upd (fun _ => 0) 16 1))), (h0, .inr (12, (mF r 0 t1 t2 t3 t4 t5 t6 t7 t8 t9)))] H locs := w
    refine lv_if_ne (tgt := 29) hx hb d_Md_coefficient_22 (by decide) (fun h => absurd (by decide) h) (fun _ => ?_)
    refine lv_iconst (v := 1) hx hb d_Md_coefficient_25 (by decide) ?_
    refine lv_goto (tgt := 30) hx hb d_Md_coefficient_26 (by decide) ?_
    refine lv_iconst (v := 2) hx hb d_Md_coefficient_30 (by decide) ?_
    refine kx_i E w (wc := [(h0, .inr (12, (mF r 0 t1 t2 t3 t4 t5 t6 t7 t8 t9)))]) (wr := [((r 8), .inl (a 0, 80, .inl (upd (fun _ => 0) 16 1))), ((r 7), .inl (a 3, 80, .inl (upd (fun _ => 0) 16 1)))]) [2] [0, 1] rfl rfl ⟨rfl, rfl, by decide⟩ (kx_rV E w hl.1 (As := [.int 1, .int 2]) (wc := [(h0, .inr (12, (mF r 0 t1 t2 t3 t4 t5 t6 t7 t8 t9)))]) (c_Md_fails12 l D a h0 r 0 t1 t2 t3 t4 t5 t6 t7 t8 t9 H.size) gc_49 gv_Md_fails (kRecv E w 12 2 rfl rfl) [2] rfl rfl rfl rfl rfl ⟨(Nat.le_of_ble_eq_true rfl), (Nat.le_of_ble_eq_true rfl)⟩ rfl (Nat.le_of_ble_eq_true rfl) d_Md_coefficient_31 ⟨(Nat.le_of_ble_eq_true rfl), (Nat.le_of_ble_eq_true rfl)⟩) (fun rr u H locs hu w => ?_)
    obtain ⟨rfl, rfl⟩ := hu
    have w : kW D A s [((r 8), .inl (a 0, 80, .inl (upd (fun _ => 0) 16 1))), ((r 7), .inl (a 3, 80, .inl (upd (fun _ => 0) 16 1))), (h0, .inr (12, (mF r 2 t1 t2 t3 t4 t5 t6 t7 t8 t9)))] H locs := w
    refine lv_if_eq (tgt := 39) hx hb d_Md_coefficient_34 (by decide) (fun h => absurd h (by decide)) (fun _ => ?_)
    refine lv_iconst (v := 0) hx hb d_Md_coefficient_37 (by decide) ?_
    refine W.widen (k := 0) (n := 0) (Nat.le_of_ble_eq_true rfl) (Nat.le_of_ble_eq_true rfl) ?_
    exact kx_iret E w hr hlk d_Md_coefficient_38 (v := 0) ⟨rfl, rfl⟩)
set_option maxRecDepth 100000 in
set_option maxHeartbeats 4000000 in
theorem c_Md_index_it (l : Launch) (D : va_G) (a : Nat → ClassId) (h0 : Nat) (r : Nat → Nat) (t0 : Int32) (t1 : Int32) (t2 : Int32) (t3 : Int32) (t4 : Int32) (t5 : Int32) (t6 : Int32) (t7 : Int32) (t8 : Int32) (t9 : Int32) : ∀ sz : Nat, Met l y_Md_index (Cond.code y_Md_index b_Md_index 2 (some .int) :: wA) ({ frames := 3, cells := 0, slots := 0, locals := 66 } : Room) (va_Pc [.ref h0, .int 16] (kP D a [(h0, .inr (12, (mF r t0 t1 t2 t3 t4 t5 t6 t7 t8 t9))), ((r 7), .inl (a 3, 80, .inl (upd (fun _ => 0) 16 1))), ((r 10), .inl (a 0, 80, .inl (upd (fun _ => 0) 16 0)))] sz)) (va_Qi (fun (rr : Int32) (u : va_W) => rr = 0 ∧ u = [((r 10), .inl (a 0, 80, .inl (upd (fun _ => 0) 16 0))), ((r 7), .inl (a 3, 80, .inl (upd (fun _ => 0) 16 1))), (h0, .inr (12, (mF r 0 t1 t2 t3 t4 t5 t6 t7 t8 t9)))]) (kB D a (va_A [(h0, .inr (12, (mF r t0 t1 t2 t3 t4 t5 t6 t7 t8 t9))), ((r 7), .inl (a 3, 80, .inl (upd (fun _ => 0) 16 1))), ((r 10), .inl (a 0, 80, .inl (upd (fun _ => 0) 16 0)))] sz)) (va_A [(h0, .inr (12, (mF r t0 t1 t2 t3 t4 t5 t6 t7 t8 t9))), ((r 7), .inl (a 3, 80, .inl (upd (fun _ => 0) 16 1))), ((r 10), .inl (a 0, 80, .inl (upd (fun _ => 0) 16 0)))] sz)) 0 0 (va_A [(h0, .inr (12, (mF r t0 t1 t2 t3 t4 t5 t6 t7 t8 t9))), ((r 7), .inl (a 3, 80, .inl (upd (fun _ => 0) 16 1))), ((r 10), .inl (a 0, 80, .inl (upd (fun _ => 0) 16 0)))] sz) :=
  kM (Qc := fun A => va_Qi (fun (rr : Int32) (u : va_W) => rr = 0 ∧ u = [((r 10), .inl (a 0, 80, .inl (upd (fun _ => 0) 16 0))), ((r 7), .inl (a 3, 80, .inl (upd (fun _ => 0) 16 1))), (h0, .inr (12, (mF r 0 t1 t2 t3 t4 t5 t6 t7 t8 t9)))]) (kB D a A) A) (by decide) (Nat.le_of_ble_eq_true rfl) (by
    intro p e s m below meth c A ls H locs E hr hlk hnm w hl
    have hx := E.1.1
    have hb := E.1.2.1
    have E : kE p m c b_Md_index 2 s [.ref h0, .int 16].toArray "RootAlgebraModel" D a A := E
    have hl : lv_has ls 2 [(0, .ref h0), (1, .int 16)] := hl
    refine lv_aload_n hx hb d_Md_index_0 rfl (lv_at hl 0 rfl) ?_
    refine lv_iload_n hx hb d_Md_index_1 rfl (lv_at hl 1 rfl) ?_
    refine kx_i E w (wc := [(h0, .inr (12, (mF r t0 t1 t2 t3 t4 t5 t6 t7 t8 t9))), ((r 7), .inl (a 3, 80, .inl (upd (fun _ => 0) 16 1)))]) (wr := [((r 10), .inl (a 0, 80, .inl (upd (fun _ => 0) 16 0)))]) [0, 1] [2] rfl rfl ⟨rfl, rfl, by decide⟩ (kx_rV E w hl.1 (As := [.int 16]) (wc := [(h0, .inr (12, (mF r t0 t1 t2 t3 t4 t5 t6 t7 t8 t9))), ((r 7), .inl (a 3, 80, .inl (upd (fun _ => 0) 16 1)))]) (c_Md_bars_it l D a h0 r t0 t1 t2 t3 t4 t5 t6 t7 t8 t9 H.size) gc_50 gv_Md_bars (kRecv E w 12 0 rfl rfl) [0, 1] rfl rfl rfl rfl rfl ⟨(Nat.le_of_ble_eq_true rfl), (Nat.le_of_ble_eq_true rfl)⟩ rfl (Nat.le_of_ble_eq_true rfl) d_Md_index_2 ⟨(Nat.le_of_ble_eq_true rfl), (Nat.le_of_ble_eq_true rfl)⟩) (fun rr u H locs hu w => ?_)
    obtain ⟨rfl, rfl⟩ := hu
    have w : kW D A s [((r 10), .inl (a 0, 80, .inl (upd (fun _ => 0) 16 0))), ((r 7), .inl (a 3, 80, .inl (upd (fun _ => 0) 16 1))), (h0, .inr (12, (mF r 0 t1 t2 t3 t4 t5 t6 t7 t8 t9)))] H locs := w
    refine lv_if_eq (tgt := 12) hx hb d_Md_index_5 (by decide) (fun _ => ?_) (fun h => absurd (by decide) h)
    refine lv_aload_n hx hb d_Md_index_12 rfl (lv_at hl 0 rfl) ?_
    refine kx_get E w zC_Md 2 rfl 10 (by decide) mw_304 rfl d_Md_index_13 ?_
    refine lv_iload_n hx hb d_Md_index_16 rfl (lv_at hl 1 rfl) ?_
    refine kx_iald E w 0 rfl (by unfold vp_in; decide) (v := 0) rfl d_Md_index_17 ?_
    refine W.widen (k := 0) (n := 0) (Nat.le_of_ble_eq_true rfl) (Nat.le_of_ble_eq_true rfl) ?_
    exact kx_iret E w hr hlk d_Md_index_18 (v := 0) ⟨rfl, rfl⟩)
set_option maxRecDepth 100000 in
set_option maxHeartbeats 4000000 in
theorem c_Md_roots_it (l : Launch) (D : va_G) (a : Nat → ClassId) (h0 : Nat) (r : Nat → Nat) (t0 : Int32) (t1 : Int32) (t2 : Int32) (t3 : Int32) (t4 : Int32) (t5 : Int32) (t6 : Int32) (t7 : Int32) (t8 : Int32) (t9 : Int32) : ∀ sz : Nat, Met l y_Md_roots (Cond.code y_Md_roots b_Md_roots 2 (some .int) :: wA) ({ frames := 3, cells := 0, slots := 0, locals := 66 } : Room) (va_Pc [.ref h0, .int 16] (kP D a [(h0, .inr (12, (mF r t0 t1 t2 t3 t4 t5 t6 t7 t8 t9))), ((r 7), .inl (a 3, 80, .inl (upd (fun _ => 0) 16 1))), ((r 11), .inl (a 0, 80, .inl (upd (fun _ => 0) 16 1)))] sz)) (va_Qi (fun (rr : Int32) (u : va_W) => rr = 1 ∧ u = [((r 11), .inl (a 0, 80, .inl (upd (fun _ => 0) 16 1))), ((r 7), .inl (a 3, 80, .inl (upd (fun _ => 0) 16 1))), (h0, .inr (12, (mF r 0 t1 t2 t3 t4 t5 t6 t7 t8 t9)))]) (kB D a (va_A [(h0, .inr (12, (mF r t0 t1 t2 t3 t4 t5 t6 t7 t8 t9))), ((r 7), .inl (a 3, 80, .inl (upd (fun _ => 0) 16 1))), ((r 11), .inl (a 0, 80, .inl (upd (fun _ => 0) 16 1)))] sz)) (va_A [(h0, .inr (12, (mF r t0 t1 t2 t3 t4 t5 t6 t7 t8 t9))), ((r 7), .inl (a 3, 80, .inl (upd (fun _ => 0) 16 1))), ((r 11), .inl (a 0, 80, .inl (upd (fun _ => 0) 16 1)))] sz)) 0 0 (va_A [(h0, .inr (12, (mF r t0 t1 t2 t3 t4 t5 t6 t7 t8 t9))), ((r 7), .inl (a 3, 80, .inl (upd (fun _ => 0) 16 1))), ((r 11), .inl (a 0, 80, .inl (upd (fun _ => 0) 16 1)))] sz) :=
  kM (Qc := fun A => va_Qi (fun (rr : Int32) (u : va_W) => rr = 1 ∧ u = [((r 11), .inl (a 0, 80, .inl (upd (fun _ => 0) 16 1))), ((r 7), .inl (a 3, 80, .inl (upd (fun _ => 0) 16 1))), (h0, .inr (12, (mF r 0 t1 t2 t3 t4 t5 t6 t7 t8 t9)))]) (kB D a A) A) (by decide) (Nat.le_of_ble_eq_true rfl) (by
    intro p e s m below meth c A ls H locs E hr hlk hnm w hl
    have hx := E.1.1
    have hb := E.1.2.1
    have E : kE p m c b_Md_roots 2 s [.ref h0, .int 16].toArray "RootAlgebraModel" D a A := E
    have hl : lv_has ls 2 [(0, .ref h0), (1, .int 16)] := hl
    refine lv_aload_n hx hb d_Md_roots_0 rfl (lv_at hl 0 rfl) ?_
    refine lv_iload_n hx hb d_Md_roots_1 rfl (lv_at hl 1 rfl) ?_
    refine kx_i E w (wc := [(h0, .inr (12, (mF r t0 t1 t2 t3 t4 t5 t6 t7 t8 t9))), ((r 7), .inl (a 3, 80, .inl (upd (fun _ => 0) 16 1)))]) (wr := [((r 11), .inl (a 0, 80, .inl (upd (fun _ => 0) 16 1)))]) [0, 1] [2] rfl rfl ⟨rfl, rfl, by decide⟩ (kx_rV E w hl.1 (As := [.int 16]) (wc := [(h0, .inr (12, (mF r t0 t1 t2 t3 t4 t5 t6 t7 t8 t9))), ((r 7), .inl (a 3, 80, .inl (upd (fun _ => 0) 16 1)))]) (c_Md_bars_it l D a h0 r t0 t1 t2 t3 t4 t5 t6 t7 t8 t9 H.size) gc_50 gv_Md_bars (kRecv E w 12 0 rfl rfl) [0, 1] rfl rfl rfl rfl rfl ⟨(Nat.le_of_ble_eq_true rfl), (Nat.le_of_ble_eq_true rfl)⟩ rfl (Nat.le_of_ble_eq_true rfl) d_Md_roots_2 ⟨(Nat.le_of_ble_eq_true rfl), (Nat.le_of_ble_eq_true rfl)⟩) (fun rr u H locs hu w => ?_)
    obtain ⟨rfl, rfl⟩ := hu
    have w : kW D A s [((r 11), .inl (a 0, 80, .inl (upd (fun _ => 0) 16 1))), ((r 7), .inl (a 3, 80, .inl (upd (fun _ => 0) 16 1))), (h0, .inr (12, (mF r 0 t1 t2 t3 t4 t5 t6 t7 t8 t9)))] H locs := w
    refine lv_if_eq (tgt := 12) hx hb d_Md_roots_5 (by decide) (fun _ => ?_) (fun h => absurd (by decide) h)
    refine lv_aload_n hx hb d_Md_roots_12 rfl (lv_at hl 0 rfl) ?_
    refine kx_get E w zC_Md 2 rfl 11 (by decide) mw_305 rfl d_Md_roots_13 ?_
    refine lv_iload_n hx hb d_Md_roots_16 rfl (lv_at hl 1 rfl) ?_
    refine kx_iald E w 0 rfl (by unfold vp_in; decide) (v := 1) rfl d_Md_roots_17 ?_
    refine W.widen (k := 0) (n := 0) (Nat.le_of_ble_eq_true rfl) (Nat.le_of_ble_eq_true rfl) ?_
    exact kx_iret E w hr hlk d_Md_roots_18 (v := 1) ⟨rfl, rfl⟩)
set_option maxRecDepth 100000 in
set_option maxHeartbeats 4000000 in
theorem c_Md_drop_bad (l : Launch) (D : va_G) (a : Nat → ClassId) (h0 : Nat) (r : Nat → Nat) (t0 : Int32) (t1 : Int32) (t2 : Int32) (t3 : Int32) (t4 : Int32) (t5 : Int32) (t6 : Int32) (t7 : Int32) (t8 : Int32) (t9 : Int32) (x : Int32) (hbad : x < 0 ∨ 15 < x) : ∀ sz : Nat, Met l y_Md_drop (Cond.code y_Md_drop b_Md_drop 3 (some .boolean) :: wA) ({ frames := 1, cells := 0, slots := 0, locals := 25 } : Room) (va_Pc [.ref h0, .int x] (kP D a [(h0, .inr (12, (mF r t0 t1 t2 t3 t4 t5 t6 t7 t8 t9)))] sz)) (va_Qi (fun (rr : Int32) (u : va_W) => rr = 0 ∧ u = [(h0, .inr (12, (mF r 1 t1 t2 t3 t4 t5 t6 t7 t8 t9)))]) (kB D a (va_A [(h0, .inr (12, (mF r t0 t1 t2 t3 t4 t5 t6 t7 t8 t9)))] sz)) (va_A [(h0, .inr (12, (mF r t0 t1 t2 t3 t4 t5 t6 t7 t8 t9)))] sz)) 0 0 (va_A [(h0, .inr (12, (mF r t0 t1 t2 t3 t4 t5 t6 t7 t8 t9)))] sz) :=
  kM (Qc := fun A => va_Qi (fun (rr : Int32) (u : va_W) => rr = 0 ∧ u = [(h0, .inr (12, (mF r 1 t1 t2 t3 t4 t5 t6 t7 t8 t9)))]) (kB D a A) A) (by decide) (Nat.le_of_ble_eq_true rfl) (by
    intro p e s m below meth c A ls H locs E hr hlk hnm w hl
    have hx := E.1.1
    have hb := E.1.2.1
    have E : kE p m c b_Md_drop 3 s [.ref h0, .int x].toArray "RootAlgebraModel" D a A := E
    have hl : lv_has ls 3 [(0, .ref h0), (1, .int x)] := hl
    refine lv_aload_n hx hb d_Md_drop_0 rfl (lv_at hl 0 rfl) ?_
    refine lv_iload_n hx hb d_Md_drop_1 rfl (lv_at hl 1 rfl) ?_
    refine lv_i2l (v := x.toInt64) hx hb d_Md_drop_2 rfl ?_
    refine lv_lconst (v := 0) hx hb d_Md_drop_3 (by decide) ?_
    refine lv_ldc2 (v := 15) hx hb E.1.2.2.2.1 (E.1.2.2.2.2 _ mw_372) d_Md_drop_4 ?_
    refine kx_i E w (wc := []) (wr := [(h0, .inr (12, (mF r t0 t1 t2 t3 t4 t5 t6 t7 t8 t9)))]) [] [0] rfl rfl ⟨rfl, rfl, by decide⟩ (kx_rS E w hl.1 (As := [.long x.toInt64, .long 0, .long 15]) (wc := []) (c_Md_in0 l D a x.toInt64 0 15 (kl_out (c := 0) (d := 15) hbad) H.size) gc_47 gs_Md_in [] rfl rfl rfl rfl rfl ⟨(Nat.le_of_ble_eq_true rfl), (Nat.le_of_ble_eq_true rfl)⟩ rfl (Nat.le_of_ble_eq_true rfl) d_Md_drop_7 ⟨(Nat.le_of_ble_eq_true rfl), (Nat.le_of_ble_eq_true rfl)⟩) (fun rr u H locs hu w => ?_)
    obtain ⟨rfl, rfl⟩ := hu
    have w : kW D A s [(h0, .inr (12, (mF r t0 t1 t2 t3 t4 t5 t6 t7 t8 t9)))] H locs := w
    refine lv_if_ne (tgt := 17) hx hb d_Md_drop_10 (by decide) (fun h => absurd (by decide) h) (fun _ => ?_)
    refine lv_iconst (v := 1) hx hb d_Md_drop_13 (by decide) ?_
    refine lv_goto (tgt := 18) hx hb d_Md_drop_14 (by decide) ?_
    refine lv_iconst (v := 1) hx hb d_Md_drop_18 (by decide) ?_
    refine kx_i E w (wc := [(h0, .inr (12, (mF r t0 t1 t2 t3 t4 t5 t6 t7 t8 t9)))]) (wr := []) [0] [] rfl rfl ⟨rfl, rfl, by decide⟩ (kx_rV E w hl.1 (As := [.int 1, .int 1]) (wc := [(h0, .inr (12, (mF r t0 t1 t2 t3 t4 t5 t6 t7 t8 t9)))]) (c_Md_fails11 l D a h0 r t0 t1 t2 t3 t4 t5 t6 t7 t8 t9 H.size) gc_49 gv_Md_fails (kRecv E w 12 0 rfl rfl) [0] rfl rfl rfl rfl rfl ⟨(Nat.le_of_ble_eq_true rfl), (Nat.le_of_ble_eq_true rfl)⟩ rfl (Nat.le_of_ble_eq_true rfl) d_Md_drop_19 ⟨(Nat.le_of_ble_eq_true rfl), (Nat.le_of_ble_eq_true rfl)⟩) (fun rr u H locs hu w => ?_)
    obtain ⟨rfl, rfl⟩ := hu
    have w : kW D A s [(h0, .inr (12, (mF r 1 t1 t2 t3 t4 t5 t6 t7 t8 t9)))] H locs := w
    refine lv_if_eq (tgt := 27) hx hb d_Md_drop_22 (by decide) (fun h => absurd h (by decide)) (fun _ => ?_)
    refine lv_iconst (v := 0) hx hb d_Md_drop_25 (by decide) ?_
    refine W.widen (k := 0) (n := 0) (Nat.le_of_ble_eq_true rfl) (Nat.le_of_ble_eq_true rfl) ?_
    exact kx_zret E w hr hlk d_Md_drop_26 (v := 0) (by decide) ⟨rfl, rfl⟩)
set_option maxRecDepth 100000 in
set_option maxHeartbeats 4000000 in
theorem c_Md_drop (l : Launch) (D : va_G) (a : Nat → ClassId) (h0 : Nat) (r : Nat → Nat) (t0 : Int32) (t1 : Int32) (t2 : Int32) (t3 : Int32) (t4 : Int32) (t5 : Int32) (t6 : Int32) (t7 : Int32) (t8 : Int32) (t9 : Int32) (j : Nat) (hj : j ≤ 15) : ∀ sz : Nat, Met l y_Md_drop (Cond.code y_Md_drop b_Md_drop 3 (some .boolean) :: wA) ({ frames := 1, cells := 0, slots := 0, locals := 25 } : Room) (va_Pc [.ref h0, .int (nI j)] (kP D a [(h0, .inr (12, (mF r t0 t1 t2 t3 t4 t5 t6 t7 t8 t9))), ((r 7), .inl (a 3, 80, .inl (upd (fun _ => 0) 16 1)))] sz)) (va_Qi (fun (rr : Int32) (u : va_W) => rr = 0 ∧ u = [((r 7), .inl (a 3, 80, .inl (upd (upd (fun _ => 0) 16 1) j 0))), (h0, .inr (12, (mF r 0 t1 t2 t3 t4 t5 t6 t7 t8 t9)))]) (kB D a (va_A [(h0, .inr (12, (mF r t0 t1 t2 t3 t4 t5 t6 t7 t8 t9))), ((r 7), .inl (a 3, 80, .inl (upd (fun _ => 0) 16 1)))] sz)) (va_A [(h0, .inr (12, (mF r t0 t1 t2 t3 t4 t5 t6 t7 t8 t9))), ((r 7), .inl (a 3, 80, .inl (upd (fun _ => 0) 16 1)))] sz)) 0 0 (va_A [(h0, .inr (12, (mF r t0 t1 t2 t3 t4 t5 t6 t7 t8 t9))), ((r 7), .inl (a 3, 80, .inl (upd (fun _ => 0) 16 1)))] sz) :=
  kM (Qc := fun A => va_Qi (fun (rr : Int32) (u : va_W) => rr = 0 ∧ u = [((r 7), .inl (a 3, 80, .inl (upd (upd (fun _ => 0) 16 1) j 0))), (h0, .inr (12, (mF r 0 t1 t2 t3 t4 t5 t6 t7 t8 t9)))]) (kB D a A) A) (by decide) (Nat.le_of_ble_eq_true rfl) (by
    intro p e s m below meth c A ls H locs E hr hlk hnm w hl
    have hx := E.1.1
    have hb := E.1.2.1
    have E : kE p m c b_Md_drop 3 s [.ref h0, .int (nI j)].toArray "RootAlgebraModel" D a A := E
    have hl : lv_has ls 3 [(0, .ref h0), (1, .int (nI j))] := hl
    refine lv_aload_n hx hb d_Md_drop_0 rfl (lv_at hl 0 rfl) ?_
    refine lv_iload_n hx hb d_Md_drop_1 rfl (lv_at hl 1 rfl) ?_
    refine lv_i2l (v := ((nI j).toInt64)) hx hb d_Md_drop_2 rfl ?_
    refine lv_lconst (v := 0) hx hb d_Md_drop_3 (by decide) ?_
    refine lv_ldc2 (v := 15) hx hb E.1.2.2.2.1 (E.1.2.2.2.2 _ mw_372) d_Md_drop_4 ?_
    refine kx_i E w (wc := []) (wr := [(h0, .inr (12, (mF r t0 t1 t2 t3 t4 t5 t6 t7 t8 t9))), ((r 7), .inl (a 3, 80, .inl (upd (fun _ => 0) 16 1)))]) [] [0, 1] rfl rfl ⟨rfl, rfl, by decide⟩ (kx_rS E w hl.1 (As := [.long ((nI j).toInt64), .long 0, .long 15]) (wc := []) (c_Md_in1 l D a ((nI j).toInt64) 0 15 (kl_in (c := 0) (j := j) (d := 15) (by omega) (by omega) (by omega)) H.size) gc_47 gs_Md_in [] rfl rfl rfl rfl rfl ⟨(Nat.le_of_ble_eq_true rfl), (Nat.le_of_ble_eq_true rfl)⟩ rfl (Nat.le_of_ble_eq_true rfl) d_Md_drop_7 ⟨(Nat.le_of_ble_eq_true rfl), (Nat.le_of_ble_eq_true rfl)⟩) (fun rr u H locs hu w => ?_)
    obtain ⟨rfl, rfl⟩ := hu
    have w : kW D A s [(h0, .inr (12, (mF r t0 t1 t2 t3 t4 t5 t6 t7 t8 t9))), ((r 7), .inl (a 3, 80, .inl (upd (fun _ => 0) 16 1)))] H locs := w
    refine lv_if_ne (tgt := 17) hx hb d_Md_drop_10 (by decide) (fun _ => ?_) (fun h => absurd h (by decide))
    refine lv_iconst (v := 0) hx hb d_Md_drop_17 (by decide) ?_
    refine lv_iconst (v := 1) hx hb d_Md_drop_18 (by decide) ?_
    refine kx_i E w (wc := [(h0, .inr (12, (mF r t0 t1 t2 t3 t4 t5 t6 t7 t8 t9)))]) (wr := [((r 7), .inl (a 3, 80, .inl (upd (fun _ => 0) 16 1)))]) [0] [1] rfl rfl ⟨rfl, rfl, by decide⟩ (kx_rV E w hl.1 (As := [.int 0, .int 1]) (wc := [(h0, .inr (12, (mF r t0 t1 t2 t3 t4 t5 t6 t7 t8 t9)))]) (c_Md_fails01 l D a h0 r t0 t1 t2 t3 t4 t5 t6 t7 t8 t9 H.size) gc_49 gv_Md_fails (kRecv E w 12 0 rfl rfl) [0] rfl rfl rfl rfl rfl ⟨(Nat.le_of_ble_eq_true rfl), (Nat.le_of_ble_eq_true rfl)⟩ rfl (Nat.le_of_ble_eq_true rfl) d_Md_drop_19 ⟨(Nat.le_of_ble_eq_true rfl), (Nat.le_of_ble_eq_true rfl)⟩) (fun rr u H locs hu w => ?_)
    obtain ⟨rfl, rfl⟩ := hu
    have w : kW D A s [((r 7), .inl (a 3, 80, .inl (upd (fun _ => 0) 16 1))), (h0, .inr (12, (mF r 0 t1 t2 t3 t4 t5 t6 t7 t8 t9)))] H locs := w
    refine lv_if_eq (tgt := 27) hx hb d_Md_drop_22 (by decide) (fun _ => ?_) (fun h => absurd (by decide) h)
    refine lv_aload_n hx hb d_Md_drop_27 rfl (lv_at hl 0 rfl) ?_
    refine kx_get E w zC_Md 1 rfl 7 (by decide) mw_301 rfl d_Md_drop_28 ?_
    refine lv_iload_n hx hb d_Md_drop_31 rfl (lv_at hl 1 rfl) ?_
    refine kx_zald E w 0 rfl (vp_in_nI (by omega) (by omega)) (v := 0) (by rw [nI_clamp (by omega)]; exact kf_ne (by omega)) d_Md_drop_32 ?_
    refine lv_istore_n (lv' := [(2, .int 0), (0, .ref h0), (1, .int (nI j))]) hx hb d_Md_drop_33 rfl hl (by decide) rfl (fun ls hl => ?_)
    refine lv_aload_n hx hb d_Md_drop_34 rfl (lv_at hl 1 rfl) ?_
    refine kx_get E w zC_Md 1 rfl 7 (by decide) mw_301 rfl d_Md_drop_35 ?_
    refine lv_iload_n hx hb d_Md_drop_38 rfl (lv_at hl 2 rfl) ?_
    refine lv_iconst (v := 0) hx hb d_Md_drop_39 (by decide) ?_
    refine kx_zast E w 0 rfl (z' := 0) (vp_in_nI (by omega) (by omega)) j (nI_clamp (by omega)) (by decide) d_Md_drop_40 (ws' := [((r 7), .inl (a 3, 80, .inl (upd (upd (fun _ => 0) 16 1) j 0))), (h0, .inr (12, (mF r 0 t1 t2 t3 t4 t5 t6 t7 t8 t9)))]) rfl (fun H locs w => ?_)
    refine lv_iload_n hx hb d_Md_drop_41 rfl (lv_at hl 0 rfl) ?_
    refine W.widen (k := 0) (n := 0) (Nat.le_of_ble_eq_true rfl) (Nat.le_of_ble_eq_true rfl) ?_
    exact kx_zret E w hr hlk d_Md_drop_42 (v := 0) (by decide) ⟨rfl, rfl⟩)
