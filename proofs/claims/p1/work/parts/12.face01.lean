/-! laid by program (wip/gen) -/
set_option maxRecDepth 100000 in
set_option maxHeartbeats 4000000 in
theorem c_RA_index (l : Launch) (D : va_G) (a : Nat → ClassId) (h0 : Nat) (r0 : Nat) (r1 : Nat) (r2 : Nat) (r3 : Nat) (hv : Nat) (r5 : Nat) (r6 : Nat) (hy : Nat) (p0 : Nat) (p1 : Nat) (f0 : Nat → Option Nat) (hf : f0 16 = some hy) : ∀ sz : Nat, Met l y_RA_index (Cond.code y_RA_index b_RA_index 2 (some .int) :: wA) ({ frames := 1, cells := 0, slots := 0, locals := 21 } : Room) (va_Pc [.ref h0, .int 16] (kP D a [(h0, .inr (0, [.ref r0, .ref r1, .ref r2, .ref r3, .ref hv, .ref r5, .ref r6, .int 0, .int 0, .int (-1), .int 0])), (hv, .inl (a 5, 17, .inr (.inr (.inr (.inr f0))))), (hy, .inr (11, [.ref p0, .ref p1, .int 1, .int 0, .int 1, .int 0, .int 0]))] sz)) (va_Qi (fun (rr : Int32) (u : va_W) => rr = 0 ∧ u = [(h0, .inr (0, [.ref r0, .ref r1, .ref r2, .ref r3, .ref hv, .ref r5, .ref r6, .int 0, .int 0, .int (-1), .int 0])), (hv, .inl (a 5, 17, .inr (.inr (.inr (.inr f0))))), (hy, .inr (11, [.ref p0, .ref p1, .int 1, .int 0, .int 1, .int 0, .int 0]))]) (kB D a (va_A [(h0, .inr (0, [.ref r0, .ref r1, .ref r2, .ref r3, .ref hv, .ref r5, .ref r6, .int 0, .int 0, .int (-1), .int 0])), (hv, .inl (a 5, 17, .inr (.inr (.inr (.inr f0))))), (hy, .inr (11, [.ref p0, .ref p1, .int 1, .int 0, .int 1, .int 0, .int 0]))] sz)) (va_A [(h0, .inr (0, [.ref r0, .ref r1, .ref r2, .ref r3, .ref hv, .ref r5, .ref r6, .int 0, .int 0, .int (-1), .int 0])), (hv, .inl (a 5, 17, .inr (.inr (.inr (.inr f0))))), (hy, .inr (11, [.ref p0, .ref p1, .int 1, .int 0, .int 1, .int 0, .int 0]))] sz)) 0 0 (va_A [(h0, .inr (0, [.ref r0, .ref r1, .ref r2, .ref r3, .ref hv, .ref r5, .ref r6, .int 0, .int 0, .int (-1), .int 0])), (hv, .inl (a 5, 17, .inr (.inr (.inr (.inr f0))))), (hy, .inr (11, [.ref p0, .ref p1, .int 1, .int 0, .int 1, .int 0, .int 0]))] sz) :=
  kM (Qc := fun A => va_Qi (fun (rr : Int32) (u : va_W) => rr = 0 ∧ u = [(h0, .inr (0, [.ref r0, .ref r1, .ref r2, .ref r3, .ref hv, .ref r5, .ref r6, .int 0, .int 0, .int (-1), .int 0])), (hv, .inl (a 5, 17, .inr (.inr (.inr (.inr f0))))), (hy, .inr (11, [.ref p0, .ref p1, .int 1, .int 0, .int 1, .int 0, .int 0]))]) (kB D a A) A) (by decide) (Nat.le_of_ble_eq_true rfl) (by
    intro p e s m below meth c A ls H locs E hr hlk hnm w hl
    have hx := E.1.1
    have hb := E.1.2.1
    have E : kE p m c b_RA_index 2 s [.ref h0, .int 16].toArray "RootAlgebra" D a A := E
    have hl : lv_has ls 2 [(0, .ref h0), (1, .int 16)] := hl
    refine lv_aload_n hx hb d_RA_index_0 rfl (lv_at hl 0 rfl) ?_
    refine lv_iload_n hx hb d_RA_index_1 rfl (lv_at hl 1 rfl) ?_
    refine kx_i E w (wc := []) (wr := [(h0, .inr (0, [.ref r0, .ref r1, .ref r2, .ref r3, .ref hv, .ref r5, .ref r6, .int 0, .int 0, .int (-1), .int 0])), (hv, .inl (a 5, 17, .inr (.inr (.inr (.inr f0))))), (hy, .inr (11, [.ref p0, .ref p1, .int 1, .int 0, .int 1, .int 0, .int 0]))]) [] [0, 1, 2] rfl rfl ⟨rfl, rfl, by decide⟩ (kx_rV E w hl.1 (As := [.int 16]) (wc := []) (c_RA_isName1 l D a h0 16 (by omega) H.size) gc_22 gv_RA_isName (kRecv E w 0 0 rfl rfl) [] rfl rfl rfl rfl rfl ⟨(Nat.le_of_ble_eq_true rfl), (Nat.le_of_ble_eq_true rfl)⟩ rfl (Nat.le_of_ble_eq_true rfl) d_RA_index_2 ⟨(Nat.le_of_ble_eq_true rfl), (Nat.le_of_ble_eq_true rfl)⟩) (fun rr u H locs hu w => ?_)
    obtain ⟨rfl, rfl⟩ := hu
    have w : kW D A s [(h0, .inr (0, [.ref r0, .ref r1, .ref r2, .ref r3, .ref hv, .ref r5, .ref r6, .int 0, .int 0, .int (-1), .int 0])), (hv, .inl (a 5, 17, .inr (.inr (.inr (.inr f0))))), (hy, .inr (11, [.ref p0, .ref p1, .int 1, .int 0, .int 1, .int 0, .int 0]))] H locs := w
    refine lv_if_ne (tgt := 16) hx hb d_RA_index_5 (by decide) (fun _ => ?_) (fun h => absurd h (by decide))
    refine lv_aload_n hx hb d_RA_index_16 rfl (lv_at hl 0 rfl) ?_
    refine kx_get E w zC_RA 0 rfl 4 (by decide) mw_168 rfl d_RA_index_17 ?_
    refine lv_iload_n hx hb d_RA_index_20 rfl (lv_at hl 1 rfl) ?_
    refine kx_aald E w 1 5 rfl rfl (by unfold vp_in; decide) (y := hy) hf d_RA_index_21 ?_
    refine kx_get E w zC_Value 2 rfl 2 (by decide) mw_194 rfl d_RA_index_22 ?_
    refine lv_if_ne (tgt := 36) hx hb d_RA_index_25 (by decide) (fun _ => ?_) (fun h => absurd h (by decide))
    refine lv_aload_n hx hb d_RA_index_36 rfl (lv_at hl 0 rfl) ?_
    refine kx_get E w zC_RA 0 rfl 4 (by decide) mw_168 rfl d_RA_index_37 ?_
    refine lv_iload_n hx hb d_RA_index_40 rfl (lv_at hl 1 rfl) ?_
    refine kx_aald E w 1 5 rfl rfl (by unfold vp_in; decide) (y := hy) hf d_RA_index_41 ?_
    refine kx_get E w zC_Value 2 rfl 3 (by decide) mw_196 rfl d_RA_index_42 ?_
    refine W.widen (k := 0) (n := 0) (Nat.le_of_ble_eq_true rfl) (Nat.le_of_ble_eq_true rfl) ?_
    exact kx_iret E w hr hlk d_RA_index_45 (v := 0) ⟨rfl, rfl⟩)
set_option maxRecDepth 100000 in
set_option maxHeartbeats 4000000 in
theorem c_RA_roots (l : Launch) (D : va_G) (a : Nat → ClassId) (h0 : Nat) (r0 : Nat) (r1 : Nat) (r2 : Nat) (r3 : Nat) (hv : Nat) (r5 : Nat) (r6 : Nat) (hy : Nat) (p0 : Nat) (p1 : Nat) (f0 : Nat → Option Nat) (hf : f0 16 = some hy) : ∀ sz : Nat, Met l y_RA_roots (Cond.code y_RA_roots b_RA_roots 2 (some .int) :: wA) ({ frames := 1, cells := 0, slots := 0, locals := 21 } : Room) (va_Pc [.ref h0, .int 16] (kP D a [(h0, .inr (0, [.ref r0, .ref r1, .ref r2, .ref r3, .ref hv, .ref r5, .ref r6, .int 0, .int 0, .int (-1), .int 0])), (hv, .inl (a 5, 17, .inr (.inr (.inr (.inr f0))))), (hy, .inr (11, [.ref p0, .ref p1, .int 1, .int 0, .int 1, .int 0, .int 0]))] sz)) (va_Qi (fun (rr : Int32) (u : va_W) => rr = 1 ∧ u = [(h0, .inr (0, [.ref r0, .ref r1, .ref r2, .ref r3, .ref hv, .ref r5, .ref r6, .int 0, .int 0, .int (-1), .int 0])), (hv, .inl (a 5, 17, .inr (.inr (.inr (.inr f0))))), (hy, .inr (11, [.ref p0, .ref p1, .int 1, .int 0, .int 1, .int 0, .int 0]))]) (kB D a (va_A [(h0, .inr (0, [.ref r0, .ref r1, .ref r2, .ref r3, .ref hv, .ref r5, .ref r6, .int 0, .int 0, .int (-1), .int 0])), (hv, .inl (a 5, 17, .inr (.inr (.inr (.inr f0))))), (hy, .inr (11, [.ref p0, .ref p1, .int 1, .int 0, .int 1, .int 0, .int 0]))] sz)) (va_A [(h0, .inr (0, [.ref r0, .ref r1, .ref r2, .ref r3, .ref hv, .ref r5, .ref r6, .int 0, .int 0, .int (-1), .int 0])), (hv, .inl (a 5, 17, .inr (.inr (.inr (.inr f0))))), (hy, .inr (11, [.ref p0, .ref p1, .int 1, .int 0, .int 1, .int 0, .int 0]))] sz)) 0 0 (va_A [(h0, .inr (0, [.ref r0, .ref r1, .ref r2, .ref r3, .ref hv, .ref r5, .ref r6, .int 0, .int 0, .int (-1), .int 0])), (hv, .inl (a 5, 17, .inr (.inr (.inr (.inr f0))))), (hy, .inr (11, [.ref p0, .ref p1, .int 1, .int 0, .int 1, .int 0, .int 0]))] sz) :=
  kM (Qc := fun A => va_Qi (fun (rr : Int32) (u : va_W) => rr = 1 ∧ u = [(h0, .inr (0, [.ref r0, .ref r1, .ref r2, .ref r3, .ref hv, .ref r5, .ref r6, .int 0, .int 0, .int (-1), .int 0])), (hv, .inl (a 5, 17, .inr (.inr (.inr (.inr f0))))), (hy, .inr (11, [.ref p0, .ref p1, .int 1, .int 0, .int 1, .int 0, .int 0]))]) (kB D a A) A) (by decide) (Nat.le_of_ble_eq_true rfl) (by
    intro p e s m below meth c A ls H locs E hr hlk hnm w hl
    have hx := E.1.1
    have hb := E.1.2.1
    have E : kE p m c b_RA_roots 2 s [.ref h0, .int 16].toArray "RootAlgebra" D a A := E
    have hl : lv_has ls 2 [(0, .ref h0), (1, .int 16)] := hl
    refine lv_aload_n hx hb d_RA_roots_0 rfl (lv_at hl 0 rfl) ?_
    refine lv_iload_n hx hb d_RA_roots_1 rfl (lv_at hl 1 rfl) ?_
    refine kx_i E w (wc := []) (wr := [(h0, .inr (0, [.ref r0, .ref r1, .ref r2, .ref r3, .ref hv, .ref r5, .ref r6, .int 0, .int 0, .int (-1), .int 0])), (hv, .inl (a 5, 17, .inr (.inr (.inr (.inr f0))))), (hy, .inr (11, [.ref p0, .ref p1, .int 1, .int 0, .int 1, .int 0, .int 0]))]) [] [0, 1, 2] rfl rfl ⟨rfl, rfl, by decide⟩ (kx_rV E w hl.1 (As := [.int 16]) (wc := []) (c_RA_isName1 l D a h0 16 (by omega) H.size) gc_22 gv_RA_isName (kRecv E w 0 0 rfl rfl) [] rfl rfl rfl rfl rfl ⟨(Nat.le_of_ble_eq_true rfl), (Nat.le_of_ble_eq_true rfl)⟩ rfl (Nat.le_of_ble_eq_true rfl) d_RA_roots_2 ⟨(Nat.le_of_ble_eq_true rfl), (Nat.le_of_ble_eq_true rfl)⟩) (fun rr u H locs hu w => ?_)
    obtain ⟨rfl, rfl⟩ := hu
    have w : kW D A s [(h0, .inr (0, [.ref r0, .ref r1, .ref r2, .ref r3, .ref hv, .ref r5, .ref r6, .int 0, .int 0, .int (-1), .int 0])), (hv, .inl (a 5, 17, .inr (.inr (.inr (.inr f0))))), (hy, .inr (11, [.ref p0, .ref p1, .int 1, .int 0, .int 1, .int 0, .int 0]))] H locs := w
    refine lv_if_ne (tgt := 16) hx hb d_RA_roots_5 (by decide) (fun _ => ?_) (fun h => absurd h (by decide))
    refine lv_aload_n hx hb d_RA_roots_16 rfl (lv_at hl 0 rfl) ?_
    refine kx_get E w zC_RA 0 rfl 4 (by decide) mw_168 rfl d_RA_roots_17 ?_
    refine lv_iload_n hx hb d_RA_roots_20 rfl (lv_at hl 1 rfl) ?_
    refine kx_aald E w 1 5 rfl rfl (by unfold vp_in; decide) (y := hy) hf d_RA_roots_21 ?_
    refine kx_get E w zC_Value 2 rfl 2 (by decide) mw_194 rfl d_RA_roots_22 ?_
    refine lv_if_ne (tgt := 36) hx hb d_RA_roots_25 (by decide) (fun _ => ?_) (fun h => absurd h (by decide))
    refine lv_aload_n hx hb d_RA_roots_36 rfl (lv_at hl 0 rfl) ?_
    refine kx_get E w zC_RA 0 rfl 4 (by decide) mw_168 rfl d_RA_roots_37 ?_
    refine lv_iload_n hx hb d_RA_roots_40 rfl (lv_at hl 1 rfl) ?_
    refine kx_aald E w 1 5 rfl rfl (by unfold vp_in; decide) (y := hy) hf d_RA_roots_41 ?_
    refine kx_get E w zC_Value 2 rfl 4 (by decide) mw_197 rfl d_RA_roots_42 ?_
    refine W.widen (k := 0) (n := 0) (Nat.le_of_ble_eq_true rfl) (Nat.le_of_ble_eq_true rfl) ?_
    exact kx_iret E w hr hlk d_RA_roots_45 (v := 1) ⟨rfl, rfl⟩)
set_option maxRecDepth 100000 in
set_option maxHeartbeats 4000000 in
theorem c_RA_names (l : Launch) (D : va_G) (a : Nat → ClassId) (h0 : Nat) (r0 : Nat) (r1 : Nat) (r2 : Nat) (r3 : Nat) (hv : Nat) (r5 : Nat) (r6 : Nat) (y0 : Nat) (y1 : Nat) (y2 : Nat) (y3 : Nat) (y4 : Nat) (y5 : Nat) (y6 : Nat) (y7 : Nat) (y8 : Nat) (y9 : Nat) (y10 : Nat) (y11 : Nat) (y12 : Nat) (y13 : Nat) (y14 : Nat) (y15 : Nat) (c0 : Nat) (c1 : Nat) (c2 : Nat) (c3 : Nat) (c4 : Nat) (c5 : Nat) (c6 : Nat) (c7 : Nat) (c8 : Nat) (c9 : Nat) (c10 : Nat) (c11 : Nat) (c12 : Nat) (c13 : Nat) (c14 : Nat) (c15 : Nat) (l0 : Nat) (l1 : Nat) (l2 : Nat) (l3 : Nat) (l4 : Nat) (l5 : Nat) (l6 : Nat) (l7 : Nat) (l8 : Nat) (l9 : Nat) (l10 : Nat) (l11 : Nat) (l12 : Nat) (l13 : Nat) (l14 : Nat) (l15 : Nat) (f0 : Nat → Option Nat) (hf : f0 0 = some y0 ∧ f0 1 = some y1 ∧ f0 2 = some y2 ∧ f0 3 = some y3 ∧ f0 4 = some y4 ∧ f0 5 = some y5 ∧ f0 6 = some y6 ∧ f0 7 = some y7 ∧ f0 8 = some y8 ∧ f0 9 = some y9 ∧ f0 10 = some y10 ∧ f0 11 = some y11 ∧ f0 12 = some y12 ∧ f0 13 = some y13 ∧ f0 14 = some y14 ∧ f0 15 = some y15) : ∀ sz : Nat, Met l y_RA_namesWithValue (Cond.code y_RA_namesWithValue b_RA_namesWithValue 3 (some .int) :: wA) ({ frames := 0, cells := 0, slots := 0, locals := 0 } : Room) (va_Pc [.ref h0] (kP D a [(h0, .inr (0, [.ref r0, .ref r1, .ref r2, .ref r3, .ref hv, .ref r5, .ref r6, .int 0, .int 0, .int (-1), .int 0])), (hv, .inl (a 5, 17, .inr (.inr (.inr (.inr f0))))), (y0, .inr (11, [.ref c0, .ref l0, .int 0, .int 0, .int 0, .int 0, .int 0])), (y1, .inr (11, [.ref c1, .ref l1, .int 0, .int 0, .int 0, .int 0, .int 0])), (y2, .inr (11, [.ref c2, .ref l2, .int 0, .int 0, .int 0, .int 0, .int 0])), (y3, .inr (11, [.ref c3, .ref l3, .int 0, .int 0, .int 0, .int 0, .int 0])), (y4, .inr (11, [.ref c4, .ref l4, .int 0, .int 0, .int 0, .int 0, .int 0])), (y5, .inr (11, [.ref c5, .ref l5, .int 0, .int 0, .int 0, .int 0, .int 0])), (y6, .inr (11, [.ref c6, .ref l6, .int 0, .int 0, .int 0, .int 0, .int 0])), (y7, .inr (11, [.ref c7, .ref l7, .int 0, .int 0, .int 0, .int 0, .int 0])), (y8, .inr (11, [.ref c8, .ref l8, .int 0, .int 0, .int 0, .int 0, .int 0])), (y9, .inr (11, [.ref c9, .ref l9, .int 0, .int 0, .int 0, .int 0, .int 0])), (y10, .inr (11, [.ref c10, .ref l10, .int 0, .int 0, .int 0, .int 0, .int 0])), (y11, .inr (11, [.ref c11, .ref l11, .int 0, .int 0, .int 0, .int 0, .int 0])), (y12, .inr (11, [.ref c12, .ref l12, .int 0, .int 0, .int 0, .int 0, .int 0])), (y13, .inr (11, [.ref c13, .ref l13, .int 0, .int 0, .int 0, .int 0, .int 0])), (y14, .inr (11, [.ref c14, .ref l14, .int 0, .int 0, .int 0, .int 0, .int 0])), (y15, .inr (11, [.ref c15, .ref l15, .int 0, .int 0, .int 0, .int 0, .int 0]))] sz)) (va_Qi (fun (rr : Int32) (u : va_W) => rr = 0 ∧ u = [(h0, .inr (0, [.ref r0, .ref r1, .ref r2, .ref r3, .ref hv, .ref r5, .ref r6, .int 0, .int 0, .int (-1), .int 0])), (hv, .inl (a 5, 17, .inr (.inr (.inr (.inr f0))))), (y0, .inr (11, [.ref c0, .ref l0, .int 0, .int 0, .int 0, .int 0, .int 0])), (y1, .inr (11, [.ref c1, .ref l1, .int 0, .int 0, .int 0, .int 0, .int 0])), (y2, .inr (11, [.ref c2, .ref l2, .int 0, .int 0, .int 0, .int 0, .int 0])), (y3, .inr (11, [.ref c3, .ref l3, .int 0, .int 0, .int 0, .int 0, .int 0])), (y4, .inr (11, [.ref c4, .ref l4, .int 0, .int 0, .int 0, .int 0, .int 0])), (y5, .inr (11, [.ref c5, .ref l5, .int 0, .int 0, .int 0, .int 0, .int 0])), (y6, .inr (11, [.ref c6, .ref l6, .int 0, .int 0, .int 0, .int 0, .int 0])), (y7, .inr (11, [.ref c7, .ref l7, .int 0, .int 0, .int 0, .int 0, .int 0])), (y8, .inr (11, [.ref c8, .ref l8, .int 0, .int 0, .int 0, .int 0, .int 0])), (y9, .inr (11, [.ref c9, .ref l9, .int 0, .int 0, .int 0, .int 0, .int 0])), (y10, .inr (11, [.ref c10, .ref l10, .int 0, .int 0, .int 0, .int 0, .int 0])), (y11, .inr (11, [.ref c11, .ref l11, .int 0, .int 0, .int 0, .int 0, .int 0])), (y12, .inr (11, [.ref c12, .ref l12, .int 0, .int 0, .int 0, .int 0, .int 0])), (y13, .inr (11, [.ref c13, .ref l13, .int 0, .int 0, .int 0, .int 0, .int 0])), (y14, .inr (11, [.ref c14, .ref l14, .int 0, .int 0, .int 0, .int 0, .int 0])), (y15, .inr (11, [.ref c15, .ref l15, .int 0, .int 0, .int 0, .int 0, .int 0]))]) (kB D a (va_A [(h0, .inr (0, [.ref r0, .ref r1, .ref r2, .ref r3, .ref hv, .ref r5, .ref r6, .int 0, .int 0, .int (-1), .int 0])), (hv, .inl (a 5, 17, .inr (.inr (.inr (.inr f0))))), (y0, .inr (11, [.ref c0, .ref l0, .int 0, .int 0, .int 0, .int 0, .int 0])), (y1, .inr (11, [.ref c1, .ref l1, .int 0, .int 0, .int 0, .int 0, .int 0])), (y2, .inr (11, [.ref c2, .ref l2, .int 0, .int 0, .int 0, .int 0, .int 0])), (y3, .inr (11, [.ref c3, .ref l3, .int 0, .int 0, .int 0, .int 0, .int 0])), (y4, .inr (11, [.ref c4, .ref l4, .int 0, .int 0, .int 0, .int 0, .int 0])), (y5, .inr (11, [.ref c5, .ref l5, .int 0, .int 0, .int 0, .int 0, .int 0])), (y6, .inr (11, [.ref c6, .ref l6, .int 0, .int 0, .int 0, .int 0, .int 0])), (y7, .inr (11, [.ref c7, .ref l7, .int 0, .int 0, .int 0, .int 0, .int 0])), (y8, .inr (11, [.ref c8, .ref l8, .int 0, .int 0, .int 0, .int 0, .int 0])), (y9, .inr (11, [.ref c9, .ref l9, .int 0, .int 0, .int 0, .int 0, .int 0])), (y10, .inr (11, [.ref c10, .ref l10, .int 0, .int 0, .int 0, .int 0, .int 0])), (y11, .inr (11, [.ref c11, .ref l11, .int 0, .int 0, .int 0, .int 0, .int 0])), (y12, .inr (11, [.ref c12, .ref l12, .int 0, .int 0, .int 0, .int 0, .int 0])), (y13, .inr (11, [.ref c13, .ref l13, .int 0, .int 0, .int 0, .int 0, .int 0])), (y14, .inr (11, [.ref c14, .ref l14, .int 0, .int 0, .int 0, .int 0, .int 0])), (y15, .inr (11, [.ref c15, .ref l15, .int 0, .int 0, .int 0, .int 0, .int 0]))] sz)) (va_A [(h0, .inr (0, [.ref r0, .ref r1, .ref r2, .ref r3, .ref hv, .ref r5, .ref r6, .int 0, .int 0, .int (-1), .int 0])), (hv, .inl (a 5, 17, .inr (.inr (.inr (.inr f0))))), (y0, .inr (11, [.ref c0, .ref l0, .int 0, .int 0, .int 0, .int 0, .int 0])), (y1, .inr (11, [.ref c1, .ref l1, .int 0, .int 0, .int 0, .int 0, .int 0])), (y2, .inr (11, [.ref c2, .ref l2, .int 0, .int 0, .int 0, .int 0, .int 0])), (y3, .inr (11, [.ref c3, .ref l3, .int 0, .int 0, .int 0, .int 0, .int 0])), (y4, .inr (11, [.ref c4, .ref l4, .int 0, .int 0, .int 0, .int 0, .int 0])), (y5, .inr (11, [.ref c5, .ref l5, .int 0, .int 0, .int 0, .int 0, .int 0])), (y6, .inr (11, [.ref c6, .ref l6, .int 0, .int 0, .int 0, .int 0, .int 0])), (y7, .inr (11, [.ref c7, .ref l7, .int 0, .int 0, .int 0, .int 0, .int 0])), (y8, .inr (11, [.ref c8, .ref l8, .int 0, .int 0, .int 0, .int 0, .int 0])), (y9, .inr (11, [.ref c9, .ref l9, .int 0, .int 0, .int 0, .int 0, .int 0])), (y10, .inr (11, [.ref c10, .ref l10, .int 0, .int 0, .int 0, .int 0, .int 0])), (y11, .inr (11, [.ref c11, .ref l11, .int 0, .int 0, .int 0, .int 0, .int 0])), (y12, .inr (11, [.ref c12, .ref l12, .int 0, .int 0, .int 0, .int 0, .int 0])), (y13, .inr (11, [.ref c13, .ref l13, .int 0, .int 0, .int 0, .int 0, .int 0])), (y14, .inr (11, [.ref c14, .ref l14, .int 0, .int 0, .int 0, .int 0, .int 0])), (y15, .inr (11, [.ref c15, .ref l15, .int 0, .int 0, .int 0, .int 0, .int 0]))] sz)) 0 0 (va_A [(h0, .inr (0, [.ref r0, .ref r1, .ref r2, .ref r3, .ref hv, .ref r5, .ref r6, .int 0, .int 0, .int (-1), .int 0])), (hv, .inl (a 5, 17, .inr (.inr (.inr (.inr f0))))), (y0, .inr (11, [.ref c0, .ref l0, .int 0, .int 0, .int 0, .int 0, .int 0])), (y1, .inr (11, [.ref c1, .ref l1, .int 0, .int 0, .int 0, .int 0, .int 0])), (y2, .inr (11, [.ref c2, .ref l2, .int 0, .int 0, .int 0, .int 0, .int 0])), (y3, .inr (11, [.ref c3, .ref l3, .int 0, .int 0, .int 0, .int 0, .int 0])), (y4, .inr (11, [.ref c4, .ref l4, .int 0, .int 0, .int 0, .int 0, .int 0])), (y5, .inr (11, [.ref c5, .ref l5, .int 0, .int 0, .int 0, .int 0, .int 0])), (y6, .inr (11, [.ref c6, .ref l6, .int 0, .int 0, .int 0, .int 0, .int 0])), (y7, .inr (11, [.ref c7, .ref l7, .int 0, .int 0, .int 0, .int 0, .int 0])), (y8, .inr (11, [.ref c8, .ref l8, .int 0, .int 0, .int 0, .int 0, .int 0])), (y9, .inr (11, [.ref c9, .ref l9, .int 0, .int 0, .int 0, .int 0, .int 0])), (y10, .inr (11, [.ref c10, .ref l10, .int 0, .int 0, .int 0, .int 0, .int 0])), (y11, .inr (11, [.ref c11, .ref l11, .int 0, .int 0, .int 0, .int 0, .int 0])), (y12, .inr (11, [.ref c12, .ref l12, .int 0, .int 0, .int 0, .int 0, .int 0])), (y13, .inr (11, [.ref c13, .ref l13, .int 0, .int 0, .int 0, .int 0, .int 0])), (y14, .inr (11, [.ref c14, .ref l14, .int 0, .int 0, .int 0, .int 0, .int 0])), (y15, .inr (11, [.ref c15, .ref l15, .int 0, .int 0, .int 0, .int 0, .int 0]))] sz) :=
  kM (Qc := fun A => va_Qi (fun (rr : Int32) (u : va_W) => rr = 0 ∧ u = [(h0, .inr (0, [.ref r0, .ref r1, .ref r2, .ref r3, .ref hv, .ref r5, .ref r6, .int 0, .int 0, .int (-1), .int 0])), (hv, .inl (a 5, 17, .inr (.inr (.inr (.inr f0))))), (y0, .inr (11, [.ref c0, .ref l0, .int 0, .int 0, .int 0, .int 0, .int 0])), (y1, .inr (11, [.ref c1, .ref l1, .int 0, .int 0, .int 0, .int 0, .int 0])), (y2, .inr (11, [.ref c2, .ref l2, .int 0, .int 0, .int 0, .int 0, .int 0])), (y3, .inr (11, [.ref c3, .ref l3, .int 0, .int 0, .int 0, .int 0, .int 0])), (y4, .inr (11, [.ref c4, .ref l4, .int 0, .int 0, .int 0, .int 0, .int 0])), (y5, .inr (11, [.ref c5, .ref l5, .int 0, .int 0, .int 0, .int 0, .int 0])), (y6, .inr (11, [.ref c6, .ref l6, .int 0, .int 0, .int 0, .int 0, .int 0])), (y7, .inr (11, [.ref c7, .ref l7, .int 0, .int 0, .int 0, .int 0, .int 0])), (y8, .inr (11, [.ref c8, .ref l8, .int 0, .int 0, .int 0, .int 0, .int 0])), (y9, .inr (11, [.ref c9, .ref l9, .int 0, .int 0, .int 0, .int 0, .int 0])), (y10, .inr (11, [.ref c10, .ref l10, .int 0, .int 0, .int 0, .int 0, .int 0])), (y11, .inr (11, [.ref c11, .ref l11, .int 0, .int 0, .int 0, .int 0, .int 0])), (y12, .inr (11, [.ref c12, .ref l12, .int 0, .int 0, .int 0, .int 0, .int 0])), (y13, .inr (11, [.ref c13, .ref l13, .int 0, .int 0, .int 0, .int 0, .int 0])), (y14, .inr (11, [.ref c14, .ref l14, .int 0, .int 0, .int 0, .int 0, .int 0])), (y15, .inr (11, [.ref c15, .ref l15, .int 0, .int 0, .int 0, .int 0, .int 0]))]) (kB D a A) A) (by decide) (Nat.le_of_ble_eq_true rfl) (by
    intro p e s m below meth c A ls H locs E hr hlk hnm w hl
    have hx := E.1.1
    have hb := E.1.2.1
    have E : kE p m c b_RA_namesWithValue 3 s [.ref h0].toArray "RootAlgebra" D a A := E
    have hl : lv_has ls 3 [(0, .ref h0)] := hl
    refine lv_iconst (v := 0) hx hb d_RA_namesWithValue_0 (by decide) ?_
    refine lv_istore_n (lv' := [(1, .int 0), (0, .ref h0)]) hx hb d_RA_namesWithValue_1 rfl hl (by decide) rfl (fun ls hl => ?_)
    refine lv_iconst (v := 0) hx hb d_RA_namesWithValue_2 (by decide) ?_
    refine lv_istore_n (lv' := [(2, .int 0), (1, .int 0), (0, .ref h0)]) hx hb d_RA_namesWithValue_3 rfl hl (by decide) rfl (fun ls hl => ?_)
    refine lv_iload_n hx hb d_RA_namesWithValue_4 rfl (lv_at hl 0 rfl) ?_
    refine lv_bipush (v := 16) hx hb d_RA_namesWithValue_5 (by decide) ?_
    refine lv_icmp_ge (tgt := 31) hx hb d_RA_namesWithValue_7 (by decide) (fun h => absurd h (by decide)) (fun _ => ?_)
    refine lv_aload_n hx hb d_RA_namesWithValue_10 rfl (lv_at hl 2 rfl) ?_
    refine kx_get E w zC_RA 0 rfl 4 (by decide) mw_168 rfl d_RA_namesWithValue_11 ?_
    refine lv_iload_n hx hb d_RA_namesWithValue_14 rfl (lv_at hl 0 rfl) ?_
    refine kx_aald E w 1 5 rfl rfl (by unfold vp_in; decide) (y := y0) hf.1 d_RA_namesWithValue_15 ?_
    refine kx_get E w zC_Value 2 rfl 2 (by decide) mw_194 rfl d_RA_namesWithValue_16 ?_
    refine lv_if_eq (tgt := 25) hx hb d_RA_namesWithValue_19 (by decide) (fun _ => ?_) (fun h => absurd (by decide) h)
    refine lv_iinc (v := 1) (lv' := [(2, .int 1), (1, .int 0), (0, .ref h0)]) hx hb d_RA_namesWithValue_25 hl (k := 0) rfl (by decide) (by decide) rfl (fun ls hl => ?_)
    refine lv_goto (tgt := 4) hx hb d_RA_namesWithValue_28 (by decide) ?_
    refine lv_iload_n hx hb d_RA_namesWithValue_4 rfl (lv_at hl 0 rfl) ?_
    refine lv_bipush (v := 16) hx hb d_RA_namesWithValue_5 (by decide) ?_
    refine lv_icmp_ge (tgt := 31) hx hb d_RA_namesWithValue_7 (by decide) (fun h => absurd h (by decide)) (fun _ => ?_)
    refine lv_aload_n hx hb d_RA_namesWithValue_10 rfl (lv_at hl 2 rfl) ?_
    refine kx_get E w zC_RA 0 rfl 4 (by decide) mw_168 rfl d_RA_namesWithValue_11 ?_
    refine lv_iload_n hx hb d_RA_namesWithValue_14 rfl (lv_at hl 0 rfl) ?_
    refine kx_aald E w 1 5 rfl rfl (by unfold vp_in; decide) (y := y1) hf.2.1 d_RA_namesWithValue_15 ?_
    refine kx_get E w zC_Value 3 rfl 2 (by decide) mw_194 rfl d_RA_namesWithValue_16 ?_
    refine lv_if_eq (tgt := 25) hx hb d_RA_namesWithValue_19 (by decide) (fun _ => ?_) (fun h => absurd (by decide) h)
    refine lv_iinc (v := 2) (lv' := [(2, .int 2), (1, .int 0), (0, .ref h0)]) hx hb d_RA_namesWithValue_25 hl (k := 0) rfl (by decide) (by decide) rfl (fun ls hl => ?_)
    refine lv_goto (tgt := 4) hx hb d_RA_namesWithValue_28 (by decide) ?_
    refine lv_iload_n hx hb d_RA_namesWithValue_4 rfl (lv_at hl 0 rfl) ?_
    refine lv_bipush (v := 16) hx hb d_RA_namesWithValue_5 (by decide) ?_
    refine lv_icmp_ge (tgt := 31) hx hb d_RA_namesWithValue_7 (by decide) (fun h => absurd h (by decide)) (fun _ => ?_)
    refine lv_aload_n hx hb d_RA_namesWithValue_10 rfl (lv_at hl 2 rfl) ?_
    refine kx_get E w zC_RA 0 rfl 4 (by decide) mw_168 rfl d_RA_namesWithValue_11 ?_
    refine lv_iload_n hx hb d_RA_namesWithValue_14 rfl (lv_at hl 0 rfl) ?_
    refine kx_aald E w 1 5 rfl rfl (by unfold vp_in; decide) (y := y2) hf.2.2.1 d_RA_namesWithValue_15 ?_
    refine kx_get E w zC_Value 4 rfl 2 (by decide) mw_194 rfl d_RA_namesWithValue_16 ?_
    refine lv_if_eq (tgt := 25) hx hb d_RA_namesWithValue_19 (by decide) (fun _ => ?_) (fun h => absurd (by decide) h)
    refine lv_iinc (v := 3) (lv' := [(2, .int 3), (1, .int 0), (0, .ref h0)]) hx hb d_RA_namesWithValue_25 hl (k := 0) rfl (by decide) (by decide) rfl (fun ls hl => ?_)
    refine lv_goto (tgt := 4) hx hb d_RA_namesWithValue_28 (by decide) ?_
    refine lv_iload_n hx hb d_RA_namesWithValue_4 rfl (lv_at hl 0 rfl) ?_
    refine lv_bipush (v := 16) hx hb d_RA_namesWithValue_5 (by decide) ?_
    refine lv_icmp_ge (tgt := 31) hx hb d_RA_namesWithValue_7 (by decide) (fun h => absurd h (by decide)) (fun _ => ?_)
    refine lv_aload_n hx hb d_RA_namesWithValue_10 rfl (lv_at hl 2 rfl) ?_
    refine kx_get E w zC_RA 0 rfl 4 (by decide) mw_168 rfl d_RA_namesWithValue_11 ?_
    refine lv_iload_n hx hb d_RA_namesWithValue_14 rfl (lv_at hl 0 rfl) ?_
    refine kx_aald E w 1 5 rfl rfl (by unfold vp_in; decide) (y := y3) hf.2.2.2.1 d_RA_namesWithValue_15 ?_
    refine kx_get E w zC_Value 5 rfl 2 (by decide) mw_194 rfl d_RA_namesWithValue_16 ?_
    refine lv_if_eq (tgt := 25) hx hb d_RA_namesWithValue_19 (by decide) (fun _ => ?_) (fun h => absurd (by decide) h)
    refine lv_iinc (v := 4) (lv' := [(2, .int 4), (1, .int 0), (0, .ref h0)]) hx hb d_RA_namesWithValue_25 hl (k := 0) rfl (by decide) (by decide) rfl (fun ls hl => ?_)
    refine lv_goto (tgt := 4) hx hb d_RA_namesWithValue_28 (by decide) ?_
    refine lv_iload_n hx hb d_RA_namesWithValue_4 rfl (lv_at hl 0 rfl) ?_
    refine lv_bipush (v := 16) hx hb d_RA_namesWithValue_5 (by decide) ?_
    refine lv_icmp_ge (tgt := 31) hx hb d_RA_namesWithValue_7 (by decide) (fun h => absurd h (by decide)) (fun _ => ?_)
    refine lv_aload_n hx hb d_RA_namesWithValue_10 rfl (lv_at hl 2 rfl) ?_
    refine kx_get E w zC_RA 0 rfl 4 (by decide) mw_168 rfl d_RA_namesWithValue_11 ?_
    refine lv_iload_n hx hb d_RA_namesWithValue_14 rfl (lv_at hl 0 rfl) ?_
    refine kx_aald E w 1 5 rfl rfl (by unfold vp_in; decide) (y := y4) hf.2.2.2.2.1 d_RA_namesWithValue_15 ?_
    refine kx_get E w zC_Value 6 rfl 2 (by decide) mw_194 rfl d_RA_namesWithValue_16 ?_
    refine lv_if_eq (tgt := 25) hx hb d_RA_namesWithValue_19 (by decide) (fun _ => ?_) (fun h => absurd (by decide) h)
    refine lv_iinc (v := 5) (lv' := [(2, .int 5), (1, .int 0), (0, .ref h0)]) hx hb d_RA_namesWithValue_25 hl (k := 0) rfl (by decide) (by decide) rfl (fun ls hl => ?_)
    refine lv_goto (tgt := 4) hx hb d_RA_namesWithValue_28 (by decide) ?_
    refine lv_iload_n hx hb d_RA_namesWithValue_4 rfl (lv_at hl 0 rfl) ?_
    refine lv_bipush (v := 16) hx hb d_RA_namesWithValue_5 (by decide) ?_
    refine lv_icmp_ge (tgt := 31) hx hb d_RA_namesWithValue_7 (by decide) (fun h => absurd h (by decide)) (fun _ => ?_)
    refine lv_aload_n hx hb d_RA_namesWithValue_10 rfl (lv_at hl 2 rfl) ?_
    refine kx_get E w zC_RA 0 rfl 4 (by decide) mw_168 rfl d_RA_namesWithValue_11 ?_
    refine lv_iload_n hx hb d_RA_namesWithValue_14 rfl (lv_at hl 0 rfl) ?_
    refine kx_aald E w 1 5 rfl rfl (by unfold vp_in; decide) (y := y5) hf.2.2.2.2.2.1 d_RA_namesWithValue_15 ?_
    refine kx_get E w zC_Value 7 rfl 2 (by decide) mw_194 rfl d_RA_namesWithValue_16 ?_
    refine lv_if_eq (tgt := 25) hx hb d_RA_namesWithValue_19 (by decide) (fun _ => ?_) (fun h => absurd (by decide) h)
    refine lv_iinc (v := 6) (lv' := [(2, .int 6), (1, .int 0), (0, .ref h0)]) hx hb d_RA_namesWithValue_25 hl (k := 0) rfl (by decide) (by decide) rfl (fun ls hl => ?_)
    refine lv_goto (tgt := 4) hx hb d_RA_namesWithValue_28 (by decide) ?_
    refine lv_iload_n hx hb d_RA_namesWithValue_4 rfl (lv_at hl 0 rfl) ?_
    refine lv_bipush (v := 16) hx hb d_RA_namesWithValue_5 (by decide) ?_
    refine lv_icmp_ge (tgt := 31) hx hb d_RA_namesWithValue_7 (by decide) (fun h => absurd h (by decide)) (fun _ => ?_)
    refine lv_aload_n hx hb d_RA_namesWithValue_10 rfl (lv_at hl 2 rfl) ?_
    refine kx_get E w zC_RA 0 rfl 4 (by decide) mw_168 rfl d_RA_namesWithValue_11 ?_
    refine lv_iload_n hx hb d_RA_namesWithValue_14 rfl (lv_at hl 0 rfl) ?_
    refine kx_aald E w 1 5 rfl rfl (by unfold vp_in; decide) (y := y6) hf.2.2.2.2.2.2.1 d_RA_namesWithValue_15 ?_
    refine kx_get E w zC_Value 8 rfl 2 (by decide) mw_194 rfl d_RA_namesWithValue_16 ?_
    refine lv_if_eq (tgt := 25) hx hb d_RA_namesWithValue_19 (by decide) (fun _ => ?_) (fun h => absurd (by decide) h)
    refine lv_iinc (v := 7) (lv' := [(2, .int 7), (1, .int 0), (0, .ref h0)]) hx hb d_RA_namesWithValue_25 hl (k := 0) rfl (by decide) (by decide) rfl (fun ls hl => ?_)
    refine lv_goto (tgt := 4) hx hb d_RA_namesWithValue_28 (by decide) ?_
    refine lv_iload_n hx hb d_RA_namesWithValue_4 rfl (lv_at hl 0 rfl) ?_
    refine lv_bipush (v := 16) hx hb d_RA_namesWithValue_5 (by decide) ?_
    refine lv_icmp_ge (tgt := 31) hx hb d_RA_namesWithValue_7 (by decide) (fun h => absurd h (by decide)) (fun _ => ?_)
    refine lv_aload_n hx hb d_RA_namesWithValue_10 rfl (lv_at hl 2 rfl) ?_
    refine kx_get E w zC_RA 0 rfl 4 (by decide) mw_168 rfl d_RA_namesWithValue_11 ?_
    refine lv_iload_n hx hb d_RA_namesWithValue_14 rfl (lv_at hl 0 rfl) ?_
    refine kx_aald E w 1 5 rfl rfl (by unfold vp_in; decide) (y := y7) hf.2.2.2.2.2.2.2.1 d_RA_namesWithValue_15 ?_
    refine kx_get E w zC_Value 9 rfl 2 (by decide) mw_194 rfl d_RA_namesWithValue_16 ?_
    refine lv_if_eq (tgt := 25) hx hb d_RA_namesWithValue_19 (by decide) (fun _ => ?_) (fun h => absurd (by decide) h)
    refine lv_iinc (v := 8) (lv' := [(2, .int 8), (1, .int 0), (0, .ref h0)]) hx hb d_RA_namesWithValue_25 hl (k := 0) rfl (by decide) (by decide) rfl (fun ls hl => ?_)
    refine lv_goto (tgt := 4) hx hb d_RA_namesWithValue_28 (by decide) ?_
    refine lv_iload_n hx hb d_RA_namesWithValue_4 rfl (lv_at hl 0 rfl) ?_
    refine lv_bipush (v := 16) hx hb d_RA_namesWithValue_5 (by decide) ?_
    refine lv_icmp_ge (tgt := 31) hx hb d_RA_namesWithValue_7 (by decide) (fun h => absurd h (by decide)) (fun _ => ?_)
    refine lv_aload_n hx hb d_RA_namesWithValue_10 rfl (lv_at hl 2 rfl) ?_
    refine kx_get E w zC_RA 0 rfl 4 (by decide) mw_168 rfl d_RA_namesWithValue_11 ?_
    refine lv_iload_n hx hb d_RA_namesWithValue_14 rfl (lv_at hl 0 rfl) ?_
    refine kx_aald E w 1 5 rfl rfl (by unfold vp_in; decide) (y := y8) hf.2.2.2.2.2.2.2.2.1 d_RA_namesWithValue_15 ?_
    refine kx_get E w zC_Value 10 rfl 2 (by decide) mw_194 rfl d_RA_namesWithValue_16 ?_
    refine lv_if_eq (tgt := 25) hx hb d_RA_namesWithValue_19 (by decide) (fun _ => ?_) (fun h => absurd (by decide) h)
    refine lv_iinc (v := 9) (lv' := [(2, .int 9), (1, .int 0), (0, .ref h0)]) hx hb d_RA_namesWithValue_25 hl (k := 0) rfl (by decide) (by decide) rfl (fun ls hl => ?_)
    refine lv_goto (tgt := 4) hx hb d_RA_namesWithValue_28 (by decide) ?_
    refine lv_iload_n hx hb d_RA_namesWithValue_4 rfl (lv_at hl 0 rfl) ?_
    refine lv_bipush (v := 16) hx hb d_RA_namesWithValue_5 (by decide) ?_
    refine lv_icmp_ge (tgt := 31) hx hb d_RA_namesWithValue_7 (by decide) (fun h => absurd h (by decide)) (fun _ => ?_)
    refine lv_aload_n hx hb d_RA_namesWithValue_10 rfl (lv_at hl 2 rfl) ?_
    refine kx_get E w zC_RA 0 rfl 4 (by decide) mw_168 rfl d_RA_namesWithValue_11 ?_
    refine lv_iload_n hx hb d_RA_namesWithValue_14 rfl (lv_at hl 0 rfl) ?_
    refine kx_aald E w 1 5 rfl rfl (by unfold vp_in; decide) (y := y9) hf.2.2.2.2.2.2.2.2.2.1 d_RA_namesWithValue_15 ?_
    refine kx_get E w zC_Value 11 rfl 2 (by decide) mw_194 rfl d_RA_namesWithValue_16 ?_
    refine lv_if_eq (tgt := 25) hx hb d_RA_namesWithValue_19 (by decide) (fun _ => ?_) (fun h => absurd (by decide) h)
    refine lv_iinc (v := 10) (lv' := [(2, .int 10), (1, .int 0), (0, .ref h0)]) hx hb d_RA_namesWithValue_25 hl (k := 0) rfl (by decide) (by decide) rfl (fun ls hl => ?_)
    refine lv_goto (tgt := 4) hx hb d_RA_namesWithValue_28 (by decide) ?_
    refine lv_iload_n hx hb d_RA_namesWithValue_4 rfl (lv_at hl 0 rfl) ?_
    refine lv_bipush (v := 16) hx hb d_RA_namesWithValue_5 (by decide) ?_
    refine lv_icmp_ge (tgt := 31) hx hb d_RA_namesWithValue_7 (by decide) (fun h => absurd h (by decide)) (fun _ => ?_)
    refine lv_aload_n hx hb d_RA_namesWithValue_10 rfl (lv_at hl 2 rfl) ?_
    refine kx_get E w zC_RA 0 rfl 4 (by decide) mw_168 rfl d_RA_namesWithValue_11 ?_
    refine lv_iload_n hx hb d_RA_namesWithValue_14 rfl (lv_at hl 0 rfl) ?_
    refine kx_aald E w 1 5 rfl rfl (by unfold vp_in; decide) (y := y10) hf.2.2.2.2.2.2.2.2.2.2.1 d_RA_namesWithValue_15 ?_
    refine kx_get E w zC_Value 12 rfl 2 (by decide) mw_194 rfl d_RA_namesWithValue_16 ?_
    refine lv_if_eq (tgt := 25) hx hb d_RA_namesWithValue_19 (by decide) (fun _ => ?_) (fun h => absurd (by decide) h)
    refine lv_iinc (v := 11) (lv' := [(2, .int 11), (1, .int 0), (0, .ref h0)]) hx hb d_RA_namesWithValue_25 hl (k := 0) rfl (by decide) (by decide) rfl (fun ls hl => ?_)
    refine lv_goto (tgt := 4) hx hb d_RA_namesWithValue_28 (by decide) ?_
    refine lv_iload_n hx hb d_RA_namesWithValue_4 rfl (lv_at hl 0 rfl) ?_
    refine lv_bipush (v := 16) hx hb d_RA_namesWithValue_5 (by decide) ?_
    refine lv_icmp_ge (tgt := 31) hx hb d_RA_namesWithValue_7 (by decide) (fun h => absurd h (by decide)) (fun _ => ?_)
    refine lv_aload_n hx hb d_RA_namesWithValue_10 rfl (lv_at hl 2 rfl) ?_
    refine kx_get E w zC_RA 0 rfl 4 (by decide) mw_168 rfl d_RA_namesWithValue_11 ?_
    refine lv_iload_n hx hb d_RA_namesWithValue_14 rfl (lv_at hl 0 rfl) ?_
    refine kx_aald E w 1 5 rfl rfl (by unfold vp_in; decide) (y := y11) hf.2.2.2.2.2.2.2.2.2.2.2.1 d_RA_namesWithValue_15 ?_
    refine kx_get E w zC_Value 13 rfl 2 (by decide) mw_194 rfl d_RA_namesWithValue_16 ?_
    refine lv_if_eq (tgt := 25) hx hb d_RA_namesWithValue_19 (by decide) (fun _ => ?_) (fun h => absurd (by decide) h)
    refine lv_iinc (v := 12) (lv' := [(2, .int 12), (1, .int 0), (0, .ref h0)]) hx hb d_RA_namesWithValue_25 hl (k := 0) rfl (by decide) (by decide) rfl (fun ls hl => ?_)
    refine lv_goto (tgt := 4) hx hb d_RA_namesWithValue_28 (by decide) ?_
    refine lv_iload_n hx hb d_RA_namesWithValue_4 rfl (lv_at hl 0 rfl) ?_
    refine lv_bipush (v := 16) hx hb d_RA_namesWithValue_5 (by decide) ?_
    refine lv_icmp_ge (tgt := 31) hx hb d_RA_namesWithValue_7 (by decide) (fun h => absurd h (by decide)) (fun _ => ?_)
    refine lv_aload_n hx hb d_RA_namesWithValue_10 rfl (lv_at hl 2 rfl) ?_
    refine kx_get E w zC_RA 0 rfl 4 (by decide) mw_168 rfl d_RA_namesWithValue_11 ?_
    refine lv_iload_n hx hb d_RA_namesWithValue_14 rfl (lv_at hl 0 rfl) ?_
    refine kx_aald E w 1 5 rfl rfl (by unfold vp_in; decide) (y := y12) hf.2.2.2.2.2.2.2.2.2.2.2.2.1 d_RA_namesWithValue_15 ?_
    refine kx_get E w zC_Value 14 rfl 2 (by decide) mw_194 rfl d_RA_namesWithValue_16 ?_
    refine lv_if_eq (tgt := 25) hx hb d_RA_namesWithValue_19 (by decide) (fun _ => ?_) (fun h => absurd (by decide) h)
    refine lv_iinc (v := 13) (lv' := [(2, .int 13), (1, .int 0), (0, .ref h0)]) hx hb d_RA_namesWithValue_25 hl (k := 0) rfl (by decide) (by decide) rfl (fun ls hl => ?_)
    refine lv_goto (tgt := 4) hx hb d_RA_namesWithValue_28 (by decide) ?_
    refine lv_iload_n hx hb d_RA_namesWithValue_4 rfl (lv_at hl 0 rfl) ?_
    refine lv_bipush (v := 16) hx hb d_RA_namesWithValue_5 (by decide) ?_
    refine lv_icmp_ge (tgt := 31) hx hb d_RA_namesWithValue_7 (by decide) (fun h => absurd h (by decide)) (fun _ => ?_)
    refine lv_aload_n hx hb d_RA_namesWithValue_10 rfl (lv_at hl 2 rfl) ?_
    refine kx_get E w zC_RA 0 rfl 4 (by decide) mw_168 rfl d_RA_namesWithValue_11 ?_
    refine lv_iload_n hx hb d_RA_namesWithValue_14 rfl (lv_at hl 0 rfl) ?_
    refine kx_aald E w 1 5 rfl rfl (by unfold vp_in; decide) (y := y13) hf.2.2.2.2.2.2.2.2.2.2.2.2.2.1 d_RA_namesWithValue_15 ?_
    refine kx_get E w zC_Value 15 rfl 2 (by decide) mw_194 rfl d_RA_namesWithValue_16 ?_
    refine lv_if_eq (tgt := 25) hx hb d_RA_namesWithValue_19 (by decide) (fun _ => ?_) (fun h => absurd (by decide) h)
    refine lv_iinc (v := 14) (lv' := [(2, .int 14), (1, .int 0), (0, .ref h0)]) hx hb d_RA_namesWithValue_25 hl (k := 0) rfl (by decide) (by decide) rfl (fun ls hl => ?_)
    refine lv_goto (tgt := 4) hx hb d_RA_namesWithValue_28 (by decide) ?_
    refine lv_iload_n hx hb d_RA_namesWithValue_4 rfl (lv_at hl 0 rfl) ?_
    refine lv_bipush (v := 16) hx hb d_RA_namesWithValue_5 (by decide) ?_
    refine lv_icmp_ge (tgt := 31) hx hb d_RA_namesWithValue_7 (by decide) (fun h => absurd h (by decide)) (fun _ => ?_)
    refine lv_aload_n hx hb d_RA_namesWithValue_10 rfl (lv_at hl 2 rfl) ?_
    refine kx_get E w zC_RA 0 rfl 4 (by decide) mw_168 rfl d_RA_namesWithValue_11 ?_
    refine lv_iload_n hx hb d_RA_namesWithValue_14 rfl (lv_at hl 0 rfl) ?_
    refine kx_aald E w 1 5 rfl rfl (by unfold vp_in; decide) (y := y14) hf.2.2.2.2.2.2.2.2.2.2.2.2.2.2.1 d_RA_namesWithValue_15 ?_
    refine kx_get E w zC_Value 16 rfl 2 (by decide) mw_194 rfl d_RA_namesWithValue_16 ?_
    refine lv_if_eq (tgt := 25) hx hb d_RA_namesWithValue_19 (by decide) (fun _ => ?_) (fun h => absurd (by decide) h)
    refine lv_iinc (v := 15) (lv' := [(2, .int 15), (1, .int 0), (0, .ref h0)]) hx hb d_RA_namesWithValue_25 hl (k := 0) rfl (by decide) (by decide) rfl (fun ls hl => ?_)
    refine lv_goto (tgt := 4) hx hb d_RA_namesWithValue_28 (by decide) ?_
    refine lv_iload_n hx hb d_RA_namesWithValue_4 rfl (lv_at hl 0 rfl) ?_
    refine lv_bipush (v := 16) hx hb d_RA_namesWithValue_5 (by decide) ?_
    refine lv_icmp_ge (tgt := 31) hx hb d_RA_namesWithValue_7 (by decide) (fun h => absurd h (by decide)) (fun _ => ?_)
    refine lv_aload_n hx hb d_RA_namesWithValue_10 rfl (lv_at hl 2 rfl) ?_
    refine kx_get E w zC_RA 0 rfl 4 (by decide) mw_168 rfl d_RA_namesWithValue_11 ?_
    refine lv_iload_n hx hb d_RA_namesWithValue_14 rfl (lv_at hl 0 rfl) ?_
    refine kx_aald E w 1 5 rfl rfl (by unfold vp_in; decide) (y := y15) hf.2.2.2.2.2.2.2.2.2.2.2.2.2.2.2 d_RA_namesWithValue_15 ?_
    refine kx_get E w zC_Value 17 rfl 2 (by decide) mw_194 rfl d_RA_namesWithValue_16 ?_
    refine lv_if_eq (tgt := 25) hx hb d_RA_namesWithValue_19 (by decide) (fun _ => ?_) (fun h => absurd (by decide) h)
    refine lv_iinc (v := 16) (lv' := [(2, .int 16), (1, .int 0), (0, .ref h0)]) hx hb d_RA_namesWithValue_25 hl (k := 0) rfl (by decide) (by decide) rfl (fun ls hl => ?_)
    refine lv_goto (tgt := 4) hx hb d_RA_namesWithValue_28 (by decide) ?_
    refine lv_iload_n hx hb d_RA_namesWithValue_4 rfl (lv_at hl 0 rfl) ?_
    refine lv_bipush (v := 16) hx hb d_RA_namesWithValue_5 (by decide) ?_
    refine lv_icmp_ge (tgt := 31) hx hb d_RA_namesWithValue_7 (by decide) (fun _ => ?_) (fun h => absurd (by decide) h)
    refine lv_iload_n hx hb d_RA_namesWithValue_31 rfl (lv_at hl 1 rfl) ?_
    refine W.widen (k := 0) (n := 0) (Nat.le_of_ble_eq_true rfl) (Nat.le_of_ble_eq_true rfl) ?_
    exact kx_iret E w hr hlk d_RA_namesWithValue_32 (v := 0) ⟨rfl, rfl⟩)
