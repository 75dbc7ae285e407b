/-! laid by program (wip/gen) -/
set_option maxRecDepth 100000 in
set_option maxHeartbeats 4000000 in
theorem c_RA_isName1 (l : Launch) (D : va_G) (a : Nat → ClassId) (h0 : Nat) (j : Nat) (hj : j ≤ 16) : ∀ sz : Nat, Met l y_RA_isName (Cond.code y_RA_isName b_RA_isName 2 (some .boolean) :: wA) ({ frames := 0, cells := 0, slots := 0, locals := 0 } : Room) (va_Pc [.ref h0, .int (nI j)] (kP D a [] sz)) (va_Qi (fun (rr : Int32) (u : va_W) => rr = 1 ∧ u = []) (kB D a (va_A [] sz)) (va_A [] sz)) 0 0 (va_A [] sz) :=
  kM (Qc := fun A => va_Qi (fun (rr : Int32) (u : va_W) => rr = 1 ∧ u = []) (kB D a A) A) (by decide) (Nat.le_of_ble_eq_true rfl) (by
    intro p e s m below meth c A ls H locs E hr hlk hnm w hl
    have hx := E.1.1
    have hb := E.1.2.1
    have E : kE p m c b_RA_isName 2 s [.ref h0, .int (nI j)].toArray "RootAlgebra" D a A := E
    have hl : lv_has ls 2 [(0, .ref h0), (1, .int (nI j))] := hl
    refine lv_iload_n hx hb d_RA_isName_0 rfl (lv_at hl 1 rfl) ?_
    refine lv_if_lt (tgt := 14) hx hb d_RA_isName_1 (by decide) (fun h => absurd h (nI_nlt (a := j) (b := 0) (by omega) (by omega))) (fun _ => ?_)
    refine lv_iload_n hx hb d_RA_isName_4 rfl (lv_at hl 1 rfl) ?_
    refine lv_bipush (v := 16) hx hb d_RA_isName_5 (by decide) ?_
    refine lv_icmp_gt (tgt := 14) hx hb d_RA_isName_7 (by decide) (fun h => absurd h (nI_nlt (a := 16) (b := j) (by omega) (by omega))) (fun _ => ?_)
    refine lv_iconst (v := 1) hx hb d_RA_isName_10 (by decide) ?_
    refine lv_goto (tgt := 15) hx hb d_RA_isName_11 (by decide) ?_
    refine W.widen (k := 0) (n := 0) (Nat.le_of_ble_eq_true rfl) (Nat.le_of_ble_eq_true rfl) ?_
    exact kx_zret E w hr hlk d_RA_isName_15 (v := 1) (by decide) ⟨rfl, rfl⟩)
set_option maxRecDepth 100000 in
set_option maxHeartbeats 4000000 in
theorem c_RA_degree (l : Launch) (D : va_G) (a : Nat → ClassId) (h0 : Nat) (r0 : Nat) (r1 : Nat) (r2 : Nat) (r3 : Nat) (hv : Nat) (r5 : Nat) (r6 : Nat) (hy : Nat) (p0 : Nat) (p1 : Nat) (d0 : Int32) (d1 : Int32) (d2 : Int32) (d3 : Int32) (d4 : Int32) (f0 : Nat → Option Nat) (j : Nat) (hj : j ≤ 16) (hf0 : f0 j = some hy) : ∀ sz : Nat, Met l y_RA_degree (Cond.code y_RA_degree b_RA_degree 2 (some .int) :: wA) ({ frames := 1, cells := 0, slots := 0, locals := 21 } : Room) (va_Pc [.ref h0, .int (nI j)] (kP D a [(h0, .inr (0, [.ref r0, .ref r1, .ref r2, .ref r3, .ref hv, .ref r5, .ref r6, .int 0, .int 0, .int (-1), .int 0])), (hv, .inl (a 5, 17, .inr (.inr (.inr (.inr f0))))), (hy, .inr (11, [.ref p0, .ref p1, .int d0, .int d1, .int d2, .int d3, .int d4]))] sz)) (va_Qi (fun (rr : Int32) (u : va_W) => rr = d0 ∧ u = [(h0, .inr (0, [.ref r0, .ref r1, .ref r2, .ref r3, .ref hv, .ref r5, .ref r6, .int 0, .int 0, .int (-1), .int 0])), (hv, .inl (a 5, 17, .inr (.inr (.inr (.inr f0))))), (hy, .inr (11, [.ref p0, .ref p1, .int d0, .int d1, .int d2, .int d3, .int d4]))]) (kB D a (va_A [(h0, .inr (0, [.ref r0, .ref r1, .ref r2, .ref r3, .ref hv, .ref r5, .ref r6, .int 0, .int 0, .int (-1), .int 0])), (hv, .inl (a 5, 17, .inr (.inr (.inr (.inr f0))))), (hy, .inr (11, [.ref p0, .ref p1, .int d0, .int d1, .int d2, .int d3, .int d4]))] sz)) (va_A [(h0, .inr (0, [.ref r0, .ref r1, .ref r2, .ref r3, .ref hv, .ref r5, .ref r6, .int 0, .int 0, .int (-1), .int 0])), (hv, .inl (a 5, 17, .inr (.inr (.inr (.inr f0))))), (hy, .inr (11, [.ref p0, .ref p1, .int d0, .int d1, .int d2, .int d3, .int d4]))] sz)) 0 0 (va_A [(h0, .inr (0, [.ref r0, .ref r1, .ref r2, .ref r3, .ref hv, .ref r5, .ref r6, .int 0, .int 0, .int (-1), .int 0])), (hv, .inl (a 5, 17, .inr (.inr (.inr (.inr f0))))), (hy, .inr (11, [.ref p0, .ref p1, .int d0, .int d1, .int d2, .int d3, .int d4]))] sz) :=
  kM (Qc := fun A => va_Qi (fun (rr : Int32) (u : va_W) => rr = d0 ∧ u = [(h0, .inr (0, [.ref r0, .ref r1, .ref r2, .ref r3, .ref hv, .ref r5, .ref r6, .int 0, .int 0, .int (-1), .int 0])), (hv, .inl (a 5, 17, .inr (.inr (.inr (.inr f0))))), (hy, .inr (11, [.ref p0, .ref p1, .int d0, .int d1, .int d2, .int d3, .int d4]))]) (kB D a A) A) (by decide) (Nat.le_of_ble_eq_true rfl) (by
    intro p e s m below meth c A ls H locs E hr hlk hnm w hl
    have hx := E.1.1
    have hb := E.1.2.1
    have E : kE p m c b_RA_degree 2 s [.ref h0, .int (nI j)].toArray "RootAlgebra" D a A := E
    have hl : lv_has ls 2 [(0, .ref h0), (1, .int (nI j))] := hl
    refine lv_aload_n hx hb d_RA_degree_0 rfl (lv_at hl 0 rfl) ?_
    refine lv_iload_n hx hb d_RA_degree_1 rfl (lv_at hl 1 rfl) ?_
    refine kx_i E w (wc := []) (wr := [(h0, .inr (0, [.ref r0, .ref r1, .ref r2, .ref r3, .ref hv, .ref r5, .ref r6, .int 0, .int 0, .int (-1), .int 0])), (hv, .inl (a 5, 17, .inr (.inr (.inr (.inr f0))))), (hy, .inr (11, [.ref p0, .ref p1, .int d0, .int d1, .int d2, .int d3, .int d4]))]) [] [0, 1, 2] rfl rfl ⟨rfl, rfl, by decide⟩ (kx_rV E w hl.1 (As := [.int (nI j)]) (wc := []) (c_RA_isName1 l D a h0 j (by omega) H.size) gc_22 gv_RA_isName (kRecv E w 0 0 rfl rfl) [] rfl rfl rfl rfl rfl ⟨(Nat.le_of_ble_eq_true rfl), (Nat.le_of_ble_eq_true rfl)⟩ rfl (Nat.le_of_ble_eq_true rfl) d_RA_degree_2 ⟨(Nat.le_of_ble_eq_true rfl), (Nat.le_of_ble_eq_true rfl)⟩) (fun rr u H locs hu w => ?_)
    obtain ⟨rfl, rfl⟩ := hu
    have w : kW D A s [(h0, .inr (0, [.ref r0, .ref r1, .ref r2, .ref r3, .ref hv, .ref r5, .ref r6, .int 0, .int 0, .int (-1), .int 0])), (hv, .inl (a 5, 17, .inr (.inr (.inr (.inr f0))))), (hy, .inr (11, [.ref p0, .ref p1, .int d0, .int d1, .int d2, .int d3, .int d4]))] H locs := w
    refine lv_if_ne (tgt := 16) hx hb d_RA_degree_5 (by decide) (fun _ => ?_) (fun h => absurd h (by decide))
    refine lv_aload_n hx hb d_RA_degree_16 rfl (lv_at hl 0 rfl) ?_
    refine kx_get E w zC_RA 0 rfl 4 (by decide) mw_168 rfl d_RA_degree_17 ?_
    refine lv_iload_n hx hb d_RA_degree_20 rfl (lv_at hl 1 rfl) ?_
    refine kx_aald E w 1 5 rfl rfl (vp_in_nI (by omega) (by omega)) (y := hy) (by rw [nI_clamp (by omega)]; exact hf0) d_RA_degree_21 ?_
    refine kx_get E w zC_Value 2 rfl 2 (by decide) mw_194 rfl d_RA_degree_22 ?_
    refine W.widen (k := 0) (n := 0) (Nat.le_of_ble_eq_true rfl) (Nat.le_of_ble_eq_true rfl) ?_
    exact kx_iret E w hr hlk d_RA_degree_25 (v := d0) ⟨rfl, rfl⟩)
set_option maxRecDepth 100000 in
set_option maxHeartbeats 4000000 in
theorem c_RA_drop (l : Launch) (D : va_G) (a : Nat → ClassId) (h0 : Nat) (r0 : Nat) (r1 : Nat) (r2 : Nat) (r3 : Nat) (hv : Nat) (r5 : Nat) (r6 : Nat) (hy : Nat) (p0 : Nat) (p1 : Nat) (f0 : Nat → Option Nat) (j : Nat) (hj : j ≤ 15) (hf0 : f0 j = some hy) : ∀ sz : Nat, Met l y_RA_drop (Cond.code y_RA_drop b_RA_drop 3 (some .boolean) :: wA) ({ frames := 0, cells := 0, slots := 0, locals := 0 } : Room) (va_Pc [.ref h0, .int (nI j)] (kP D a [(h0, .inr (0, [.ref r0, .ref r1, .ref r2, .ref r3, .ref hv, .ref r5, .ref r6, .int 0, .int 0, .int (-1), .int 0])), (hv, .inl (a 5, 17, .inr (.inr (.inr (.inr f0))))), (hy, .inr (11, [.ref p0, .ref p1, .int 0, .int 0, .int 0, .int 0, .int 0]))] sz)) (va_Qi (fun (rr : Int32) (u : va_W) => rr = 0 ∧ u = [(h0, .inr (0, [.ref r0, .ref r1, .ref r2, .ref r3, .ref hv, .ref r5, .ref r6, .int 0, .int 0, .int (-1), .int 0])), (hv, .inl (a 5, 17, .inr (.inr (.inr (.inr f0))))), (hy, .inr (11, [.ref p0, .ref p1, .int 0, .int 0, .int 0, .int 0, .int 0]))]) (kB D a (va_A [(h0, .inr (0, [.ref r0, .ref r1, .ref r2, .ref r3, .ref hv, .ref r5, .ref r6, .int 0, .int 0, .int (-1), .int 0])), (hv, .inl (a 5, 17, .inr (.inr (.inr (.inr f0))))), (hy, .inr (11, [.ref p0, .ref p1, .int 0, .int 0, .int 0, .int 0, .int 0]))] sz)) (va_A [(h0, .inr (0, [.ref r0, .ref r1, .ref r2, .ref r3, .ref hv, .ref r5, .ref r6, .int 0, .int 0, .int (-1), .int 0])), (hv, .inl (a 5, 17, .inr (.inr (.inr (.inr f0))))), (hy, .inr (11, [.ref p0, .ref p1, .int 0, .int 0, .int 0, .int 0, .int 0]))] sz)) 0 0 (va_A [(h0, .inr (0, [.ref r0, .ref r1, .ref r2, .ref r3, .ref hv, .ref r5, .ref r6, .int 0, .int 0, .int (-1), .int 0])), (hv, .inl (a 5, 17, .inr (.inr (.inr (.inr f0))))), (hy, .inr (11, [.ref p0, .ref p1, .int 0, .int 0, .int 0, .int 0, .int 0]))] sz) :=
  kM (Qc := fun A => va_Qi (fun (rr : Int32) (u : va_W) => rr = 0 ∧ u = [(h0, .inr (0, [.ref r0, .ref r1, .ref r2, .ref r3, .ref hv, .ref r5, .ref r6, .int 0, .int 0, .int (-1), .int 0])), (hv, .inl (a 5, 17, .inr (.inr (.inr (.inr f0))))), (hy, .inr (11, [.ref p0, .ref p1, .int 0, .int 0, .int 0, .int 0, .int 0]))]) (kB D a A) A) (by decide) (Nat.le_of_ble_eq_true rfl) (by
    intro p e s m below meth c A ls H locs E hr hlk hnm w hl
    have hx := E.1.1
    have hb := E.1.2.1
    have E : kE p m c b_RA_drop 3 s [.ref h0, .int (nI j)].toArray "RootAlgebra" D a A := E
    have hl : lv_has ls 3 [(0, .ref h0), (1, .int (nI j))] := hl
    refine lv_iload_n hx hb d_RA_drop_0 rfl (lv_at hl 1 rfl) ?_
    refine lv_if_lt (tgt := 10) hx hb d_RA_drop_1 (by decide) (fun h => absurd h (nI_nlt (a := j) (b := 0) (by omega) (by omega))) (fun _ => ?_)
    refine lv_iload_n hx hb d_RA_drop_4 rfl (lv_at hl 1 rfl) ?_
    refine lv_bipush (v := 16) hx hb d_RA_drop_5 (by decide) ?_
    refine lv_icmp_lt (tgt := 18) hx hb d_RA_drop_7 (by decide) (fun _ => ?_) (fun h => absurd (nI_lt (a := j) (b := 16) (by omega) (by omega)) h)
    refine lv_aload_n hx hb d_RA_drop_18 rfl (lv_at hl 0 rfl) ?_
    refine kx_get E w zC_RA 0 rfl 4 (by decide) mw_168 rfl d_RA_drop_19 ?_
    refine lv_iload_n hx hb d_RA_drop_22 rfl (lv_at hl 1 rfl) ?_
    refine kx_aald E w 1 5 rfl rfl (vp_in_nI (by omega) (by omega)) (y := hy) (by rw [nI_clamp (by omega)]; exact hf0) d_RA_drop_23 ?_
    refine kx_get E w zC_Value 2 rfl 2 (by decide) mw_194 rfl d_RA_drop_24 ?_
    refine lv_if_eq (tgt := 34) hx hb d_RA_drop_27 (by decide) (fun _ => ?_) (fun h => absurd (by decide) h)
    refine lv_iconst (v := 0) hx hb d_RA_drop_34 (by decide) ?_
    refine lv_istore_n (lv' := [(2, .int 0), (0, .ref h0), (1, .int (nI j))]) hx hb d_RA_drop_35 rfl hl (by decide) rfl (fun ls hl => ?_)
    refine lv_aload_n hx hb d_RA_drop_36 rfl (lv_at hl 1 rfl) ?_
    refine kx_get E w zC_RA 0 rfl 4 (by decide) mw_168 rfl d_RA_drop_37 ?_
    refine lv_iload_n hx hb d_RA_drop_40 rfl (lv_at hl 2 rfl) ?_
    refine kx_aald E w 1 5 rfl rfl (vp_in_nI (by omega) (by omega)) (y := hy) (by rw [nI_clamp (by omega)]; exact hf0) d_RA_drop_41 ?_
    refine lv_iconst (v := 0) hx hb d_RA_drop_42 (by decide) ?_
    refine kx_put E w zC_Value 2 rfl 2 (by decide) mw_194 rfl rfl rfl (Nat.le_of_ble_eq_true rfl) d_RA_drop_43 (ws' := [(h0, .inr (0, [.ref r0, .ref r1, .ref r2, .ref r3, .ref hv, .ref r5, .ref r6, .int 0, .int 0, .int (-1), .int 0])), (hv, .inl (a 5, 17, .inr (.inr (.inr (.inr f0))))), (hy, .inr (11, [.ref p0, .ref p1, .int 0, .int 0, .int 0, .int 0, .int 0]))]) rfl (fun H locs w => ?_)
    refine lv_iload_n hx hb d_RA_drop_46 rfl (lv_at hl 0 rfl) ?_
    refine W.widen (k := 0) (n := 0) (Nat.le_of_ble_eq_true rfl) (Nat.le_of_ble_eq_true rfl) ?_
    exact kx_zret E w hr hlk d_RA_drop_47 (v := 0) (by decide) ⟨rfl, rfl⟩)
set_option maxRecDepth 100000 in
set_option maxHeartbeats 4000000 in
theorem c_RA_coefficient0 (l : Launch) (D : va_G) (a : Nat → ClassId) (h0 : Nat) (r0 : Nat) (r1 : Nat) (r2 : Nat) (r3 : Nat) (hv : Nat) (r5 : Nat) (r6 : Nat) (hy : Nat) (p0 : Nat) (p1 : Nat) (f0 : Nat → Option Nat) (hf : f0 16 = some hy) : ∀ sz : Nat, Met l y_RA_coefficient (Cond.code y_RA_coefficient b_RA_coefficient 4 (some .int) :: wA) ({ frames := 1, cells := 0, slots := 0, locals := 21 } : Room) (va_Pc [.ref h0, .int 16, .int 0] (kP D a [(h0, .inr (0, [.ref r0, .ref r1, .ref r2, .ref r3, .ref hv, .ref r5, .ref r6, .int 0, .int 0, .int (-1), .int 0])), (hv, .inl (a 5, 17, .inr (.inr (.inr (.inr f0))))), (hy, .inr (11, [.ref p0, .ref p1, .int 1, .int 0, .int 1, .int 0, .int 0])), (p0, .inl (a 0, 7, .inl (upd (upd (fun _ => 0) 0 0) 1 1)))] sz)) (va_Qi (fun (rr : Int32) (u : va_W) => rr = 0 ∧ u = [(h0, .inr (0, [.ref r0, .ref r1, .ref r2, .ref r3, .ref hv, .ref r5, .ref r6, .int 0, .int 0, .int (-1), .int 0])), (hv, .inl (a 5, 17, .inr (.inr (.inr (.inr f0))))), (hy, .inr (11, [.ref p0, .ref p1, .int 1, .int 0, .int 1, .int 0, .int 0])), (p0, .inl (a 0, 7, .inl (upd (upd (fun _ => 0) 0 0) 1 1)))]) (kB D a (va_A [(h0, .inr (0, [.ref r0, .ref r1, .ref r2, .ref r3, .ref hv, .ref r5, .ref r6, .int 0, .int 0, .int (-1), .int 0])), (hv, .inl (a 5, 17, .inr (.inr (.inr (.inr f0))))), (hy, .inr (11, [.ref p0, .ref p1, .int 1, .int 0, .int 1, .int 0, .int 0])), (p0, .inl (a 0, 7, .inl (upd (upd (fun _ => 0) 0 0) 1 1)))] sz)) (va_A [(h0, .inr (0, [.ref r0, .ref r1, .ref r2, .ref r3, .ref hv, .ref r5, .ref r6, .int 0, .int 0, .int (-1), .int 0])), (hv, .inl (a 5, 17, .inr (.inr (.inr (.inr f0))))), (hy, .inr (11, [.ref p0, .ref p1, .int 1, .int 0, .int 1, .int 0, .int 0])), (p0, .inl (a 0, 7, .inl (upd (upd (fun _ => 0) 0 0) 1 1)))] sz)) 0 0 (va_A [(h0, .inr (0, [.ref r0, .ref r1, .ref r2, .ref r3, .ref hv, .ref r5, .ref r6, .int 0, .int 0, .int (-1), .int 0])), (hv, .inl (a 5, 17, .inr (.inr (.inr (.inr f0))))), (hy, .inr (11, [.ref p0, .ref p1, .int 1, .int 0, .int 1, .int 0, .int 0])), (p0, .inl (a 0, 7, .inl (upd (upd (fun _ => 0) 0 0) 1 1)))] sz) :=
  kM (Qc := fun A => va_Qi (fun (rr : Int32) (u : va_W) => rr = 0 ∧ u = [(h0, .inr (0, [.ref r0, .ref r1, .ref r2, .ref r3, .ref hv, .ref r5, .ref r6, .int 0, .int 0, .int (-1), .int 0])), (hv, .inl (a 5, 17, .inr (.inr (.inr (.inr f0))))), (hy, .inr (11, [.ref p0, .ref p1, .int 1, .int 0, .int 1, .int 0, .int 0])), (p0, .inl (a 0, 7, .inl (upd (upd (fun _ => 0) 0 0) 1 1)))]) (kB D a A) A) (by decide) (Nat.le_of_ble_eq_true rfl) (by
    intro p e s m below meth c A ls H locs E hr hlk hnm w hl
    have hx := E.1.1
    have hb := E.1.2.1
    have E : kE p m c b_RA_coefficient 4 s [.ref h0, .int 16, .int 0].toArray "RootAlgebra" D a A := E
    have hl : lv_has ls 4 [(0, .ref h0), (1, .int 16), (2, .int 0)] := hl
    refine lv_aload_n hx hb d_RA_coefficient_0 rfl (lv_at hl 0 rfl) ?_
    refine lv_iload_n hx hb d_RA_coefficient_1 rfl (lv_at hl 1 rfl) ?_
    refine kx_i E w (wc := []) (wr := [(h0, .inr (0, [.ref r0, .ref r1, .ref r2, .ref r3, .ref hv, .ref r5, .ref r6, .int 0, .int 0, .int (-1), .int 0])), (hv, .inl (a 5, 17, .inr (.inr (.inr (.inr f0))))), (hy, .inr (11, [.ref p0, .ref p1, .int 1, .int 0, .int 1, .int 0, .int 0])), (p0, .inl (a 0, 7, .inl (upd (upd (fun _ => 0) 0 0) 1 1)))]) [] [0, 1, 2, 3] rfl rfl ⟨rfl, rfl, by decide⟩ (kx_rV E w hl.1 (As := [.int 16]) (wc := []) (c_RA_isName1 l D a h0 16 (by omega) H.size) gc_22 gv_RA_isName (kRecv E w 0 0 rfl rfl) [] rfl rfl rfl rfl rfl ⟨(Nat.le_of_ble_eq_true rfl), (Nat.le_of_ble_eq_true rfl)⟩ rfl (Nat.le_of_ble_eq_true rfl) d_RA_coefficient_2 ⟨(Nat.le_of_ble_eq_true rfl), (Nat.le_of_ble_eq_true rfl)⟩) (fun rr u H locs hu w => ?_)
    obtain ⟨rfl, rfl⟩ := hu
    have w : kW D A s [(h0, .inr (0, [.ref r0, .ref r1, .ref r2, .ref r3, .ref hv, .ref r5, .ref r6, .int 0, .int 0, .int (-1), .int 0])), (hv, .inl (a 5, 17, .inr (.inr (.inr (.inr f0))))), (hy, .inr (11, [.ref p0, .ref p1, .int 1, .int 0, .int 1, .int 0, .int 0])), (p0, .inl (a 0, 7, .inl (upd (upd (fun _ => 0) 0 0) 1 1)))] H locs := w
    refine lv_if_ne (tgt := 16) hx hb d_RA_coefficient_5 (by decide) (fun _ => ?_) (fun h => absurd h (by decide))
    refine lv_aload_n hx hb d_RA_coefficient_16 rfl (lv_at hl 0 rfl) ?_
    refine kx_get E w zC_RA 0 rfl 4 (by decide) mw_168 rfl d_RA_coefficient_17 ?_
    refine lv_iload_n hx hb d_RA_coefficient_20 rfl (lv_at hl 1 rfl) ?_
    refine kx_aald E w 1 5 rfl rfl (by unfold vp_in; decide) (y := hy) hf d_RA_coefficient_21 ?_
    refine lv_astore_n (lv' := [(3, .ref hy), (0, .ref h0), (1, .int 16), (2, .int 0)]) hx hb d_RA_coefficient_22 rfl hl (by decide) rfl (fun ls hl => ?_)
    refine lv_aload_n hx hb d_RA_coefficient_23 rfl (lv_at hl 0 rfl) ?_
    refine kx_get E w zC_Value 2 rfl 2 (by decide) mw_194 rfl d_RA_coefficient_24 ?_
    refine lv_if_eq (tgt := 42) hx hb d_RA_coefficient_27 (by decide) (fun h => absurd h (by decide)) (fun _ => ?_)
    refine lv_iload_n hx hb d_RA_coefficient_30 rfl (lv_at hl 3 rfl) ?_
    refine lv_if_lt (tgt := 42) hx hb d_RA_coefficient_31 (by decide) (fun h => absurd h (by decide)) (fun _ => ?_)
    refine lv_iload_n hx hb d_RA_coefficient_34 rfl (lv_at hl 3 rfl) ?_
    refine lv_aload_n hx hb d_RA_coefficient_35 rfl (lv_at hl 0 rfl) ?_
    refine kx_get E w zC_Value 2 rfl 2 (by decide) mw_194 rfl d_RA_coefficient_36 ?_
    refine lv_icmp_le (tgt := 50) hx hb d_RA_coefficient_39 (by decide) (fun _ => ?_) (fun h => absurd (by decide) h)
    refine lv_aload_n hx hb d_RA_coefficient_50 rfl (lv_at hl 0 rfl) ?_
    refine kx_get E w zC_Value 2 rfl 0 (by decide) mw_195 rfl d_RA_coefficient_51 ?_
    refine lv_iload_n hx hb d_RA_coefficient_54 rfl (lv_at hl 3 rfl) ?_
    refine kx_iald E w 3 rfl (by unfold vp_in; decide) (v := 0) rfl d_RA_coefficient_55 ?_
    refine W.widen (k := 0) (n := 0) (Nat.le_of_ble_eq_true rfl) (Nat.le_of_ble_eq_true rfl) ?_
    exact kx_iret E w hr hlk d_RA_coefficient_56 (v := 0) ⟨rfl, rfl⟩)
set_option maxRecDepth 100000 in
set_option maxHeartbeats 4000000 in
theorem c_RA_coefficient1 (l : Launch) (D : va_G) (a : Nat → ClassId) (h0 : Nat) (r0 : Nat) (r1 : Nat) (r2 : Nat) (r3 : Nat) (hv : Nat) (r5 : Nat) (r6 : Nat) (hy : Nat) (p0 : Nat) (p1 : Nat) (f0 : Nat → Option Nat) (hf : f0 16 = some hy) : ∀ sz : Nat, Met l y_RA_coefficient (Cond.code y_RA_coefficient b_RA_coefficient 4 (some .int) :: wA) ({ frames := 1, cells := 0, slots := 0, locals := 21 } : Room) (va_Pc [.ref h0, .int 16, .int 1] (kP D a [(h0, .inr (0, [.ref r0, .ref r1, .ref r2, .ref r3, .ref hv, .ref r5, .ref r6, .int 0, .int 0, .int (-1), .int 0])), (hv, .inl (a 5, 17, .inr (.inr (.inr (.inr f0))))), (hy, .inr (11, [.ref p0, .ref p1, .int 1, .int 0, .int 1, .int 0, .int 0])), (p0, .inl (a 0, 7, .inl (upd (upd (fun _ => 0) 0 0) 1 1)))] sz)) (va_Qi (fun (rr : Int32) (u : va_W) => rr = 1 ∧ u = [(h0, .inr (0, [.ref r0, .ref r1, .ref r2, .ref r3, .ref hv, .ref r5, .ref r6, .int 0, .int 0, .int (-1), .int 0])), (hv, .inl (a 5, 17, .inr (.inr (.inr (.inr f0))))), (hy, .inr (11, [.ref p0, .ref p1, .int 1, .int 0, .int 1, .int 0, .int 0])), (p0, .inl (a 0, 7, .inl (upd (upd (fun _ => 0) 0 0) 1 1)))]) (kB D a (va_A [(h0, .inr (0, [.ref r0, .ref r1, .ref r2, .ref r3, .ref hv, .ref r5, .ref r6, .int 0, .int 0, .int (-1), .int 0])), (hv, .inl (a 5, 17, .inr (.inr (.inr (.inr f0))))), (hy, .inr (11, [.ref p0, .ref p1, .int 1, .int 0, .int 1, .int 0, .int 0])), (p0, .inl (a 0, 7, .inl (upd (upd (fun _ => 0) 0 0) 1 1)))] sz)) (va_A [(h0, .inr (0, [.ref r0, .ref r1, .ref r2, .ref r3, .ref hv, .ref r5, .ref r6, .int 0, .int 0, .int (-1), .int 0])), (hv, .inl (a 5, 17, .inr (.inr (.inr (.inr f0))))), (hy, .inr (11, [.ref p0, .ref p1, .int 1, .int 0, .int 1, .int 0, .int 0])), (p0, .inl (a 0, 7, .inl (upd (upd (fun _ => 0) 0 0) 1 1)))] sz)) 0 0 (va_A [(h0, .inr (0, [.ref r0, .ref r1, .ref r2, .ref r3, .ref hv, .ref r5, .ref r6, .int 0, .int 0, .int (-1), .int 0])), (hv, .inl (a 5, 17, .inr (.inr (.inr (.inr f0))))), (hy, .inr (11, [.ref p0, .ref p1, .int 1, .int 0, .int 1, .int 0, .int 0])), (p0, .inl (a 0, 7, .inl (upd (upd (fun _ => 0) 0 0) 1 1)))] sz) :=
  kM (Qc := fun A => va_Qi (fun (rr : Int32) (u : va_W) => rr = 1 ∧ u = [(h0, .inr (0, [.ref r0, .ref r1, .ref r2, .ref r3, .ref hv, .ref r5, .ref r6, .int 0, .int 0, .int (-1), .int 0])), (hv, .inl (a 5, 17, .inr (.inr (.inr (.inr f0))))), (hy, .inr (11, [.ref p0, .ref p1, .int 1, .int 0, .int 1, .int 0, .int 0])), (p0, .inl (a 0, 7, .inl (upd (upd (fun _ => 0) 0 0) 1 1)))]) (kB D a A) A) (by decide) (Nat.le_of_ble_eq_true rfl) (by
    intro p e s m below meth c A ls H locs E hr hlk hnm w hl
    have hx := E.1.1
    have hb := E.1.2.1
    have E : kE p m c b_RA_coefficient 4 s [.ref h0, .int 16, .int 1].toArray "RootAlgebra" D a A := E
    have hl : lv_has ls 4 [(0, .ref h0), (1, .int 16), (2, .int 1)] := hl
    refine lv_aload_n hx hb d_RA_coefficient_0 rfl (lv_at hl 0 rfl) ?_
    refine lv_iload_n hx hb d_RA_coefficient_1 rfl (lv_at hl 1 rfl) ?_
    refine kx_i E w (wc := []) (wr := [(h0, .inr (0, [.ref r0, .ref r1, .ref r2, .ref r3, .ref hv, .ref r5, .ref r6, .int 0, .int 0, .int (-1), .int 0])), (hv, .inl (a 5, 17, .inr (.inr (.inr (.inr f0))))), (hy, .inr (11, [.ref p0, .ref p1, .int 1, .int 0, .int 1, .int 0, .int 0])), (p0, .inl (a 0, 7, .inl (upd (upd (fun _ => 0) 0 0) 1 1)))]) [] [0, 1, 2, 3] rfl rfl ⟨rfl, rfl, by decide⟩ (kx_rV E w hl.1 (As := [.int 16]) (wc := []) (c_RA_isName1 l D a h0 16 (by omega) H.size) gc_22 gv_RA_isName (kRecv E w 0 0 rfl rfl) [] rfl rfl rfl rfl rfl ⟨(Nat.le_of_ble_eq_true rfl), (Nat.le_of_ble_eq_true rfl)⟩ rfl (Nat.le_of_ble_eq_true rfl) d_RA_coefficient_2 ⟨(Nat.le_of_ble_eq_true rfl), (Nat.le_of_ble_eq_true rfl)⟩) (fun rr u H locs hu w => ?_)
    obtain ⟨rfl, rfl⟩ := hu
    have w : kW D A s [(h0, .inr (0, [.ref r0, .ref r1, .ref r2, .ref r3, .ref hv, .ref r5, .ref r6, .int 0, .int 0, .int (-1), .int 0])), (hv, .inl (a 5, 17, .inr (.inr (.inr (.inr f0))))), (hy, .inr (11, [.ref p0, .ref p1, .int 1, .int 0, .int 1, .int 0, .int 0])), (p0, .inl (a 0, 7, .inl (upd (upd (fun _ => 0) 0 0) 1 1)))] H locs := w
    refine lv_if_ne (tgt := 16) hx hb d_RA_coefficient_5 (by decide) (fun _ => ?_) (fun h => absurd h (by decide))
    refine lv_aload_n hx hb d_RA_coefficient_16 rfl (lv_at hl 0 rfl) ?_
    refine kx_get E w zC_RA 0 rfl 4 (by decide) mw_168 rfl d_RA_coefficient_17 ?_
    refine lv_iload_n hx hb d_RA_coefficient_20 rfl (lv_at hl 1 rfl) ?_
    refine kx_aald E w 1 5 rfl rfl (by unfold vp_in; decide) (y := hy) hf d_RA_coefficient_21 ?_
    refine lv_astore_n (lv' := [(3, .ref hy), (0, .ref h0), (1, .int 16), (2, .int 1)]) hx hb d_RA_coefficient_22 rfl hl (by decide) rfl (fun ls hl => ?_)
    refine lv_aload_n hx hb d_RA_coefficient_23 rfl (lv_at hl 0 rfl) ?_
    refine kx_get E w zC_Value 2 rfl 2 (by decide) mw_194 rfl d_RA_coefficient_24 ?_
    refine lv_if_eq (tgt := 42) hx hb d_RA_coefficient_27 (by decide) (fun h => absurd h (by decide)) (fun _ => ?_)
    refine lv_iload_n hx hb d_RA_coefficient_30 rfl (lv_at hl 3 rfl) ?_
    refine lv_if_lt (tgt := 42) hx hb d_RA_coefficient_31 (by decide) (fun h => absurd h (by decide)) (fun _ => ?_)
    refine lv_iload_n hx hb d_RA_coefficient_34 rfl (lv_at hl 3 rfl) ?_
    refine lv_aload_n hx hb d_RA_coefficient_35 rfl (lv_at hl 0 rfl) ?_
    refine kx_get E w zC_Value 2 rfl 2 (by decide) mw_194 rfl d_RA_coefficient_36 ?_
    refine lv_icmp_le (tgt := 50) hx hb d_RA_coefficient_39 (by decide) (fun _ => ?_) (fun h => absurd (by decide) h)
    refine lv_aload_n hx hb d_RA_coefficient_50 rfl (lv_at hl 0 rfl) ?_
    refine kx_get E w zC_Value 2 rfl 0 (by decide) mw_195 rfl d_RA_coefficient_51 ?_
    refine lv_iload_n hx hb d_RA_coefficient_54 rfl (lv_at hl 3 rfl) ?_
    refine kx_iald E w 3 rfl (by unfold vp_in; decide) (v := 1) rfl d_RA_coefficient_55 ?_
    refine W.widen (k := 0) (n := 0) (Nat.le_of_ble_eq_true rfl) (Nat.le_of_ble_eq_true rfl) ?_
    exact kx_iret E w hr hlk d_RA_coefficient_56 (v := 1) ⟨rfl, rfl⟩)
