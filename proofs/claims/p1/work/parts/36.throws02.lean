/-! laid by program (wip/gen) -/
set_option maxRecDepth 100000 in
set_option maxHeartbeats 4000000 in
theorem t_RA_floor_none (l : Launch) (hl9 : l.stackTraces = false) (D : va_G) (a : Nat → ClassId) (h0 : Nat) (r0 : Nat) (r1 : Nat) (r2 : Nat) (r3 : Nat) (hv : Nat) (r5 : Nat) (r6 : Nat) (hy : Nat) (p0 : Nat) (p1 : Nat) (f0 : Nat → Option Nat) (j : Nat) (hj : j ≤ 15) (k : Nat) (hj3 : k ≤ 30) (hf0 : f0 j = some hy) : ∀ sz : Nat, kTM l y_RA_floor (Cond.code y_RA_floor b_RA_floor 3 (some .int) :: wA) ({ frames := 6, cells := 1, slots := 6, locals := 89 } : Room) (va_Pc [.ref h0, .int (nI j), .int (nI k)] (kP D a [(h0, .inr (0, [.ref r0, .ref r1, .ref r2, .ref r3, .ref hv, .ref r5, .ref r6, .int 0, .int 0, .int (-1), .int 0])), (hv, .inl (a 5, 17, .inr (.inr (.inr (.inr f0))))), (hy, .inr (11, [.ref p0, .ref p1, .int 0, .int 0, .int 0, .int 0, .int 0]))] sz)) D a "java/util/NoSuchElementException" [(h0, .inr (0, [.ref r0, .ref r1, .ref r2, .ref r3, .ref hv, .ref r5, .ref r6, .int 0, .int 0, .int (-1), .int 0])), (hv, .inl (a 5, 17, .inr (.inr (.inr (.inr f0))))), (hy, .inr (11, [.ref p0, .ref p1, .int 0, .int 0, .int 0, .int 0, .int 0]))] (va_A [(h0, .inr (0, [.ref r0, .ref r1, .ref r2, .ref r3, .ref hv, .ref r5, .ref r6, .int 0, .int 0, .int (-1), .int 0])), (hv, .inl (a 5, 17, .inr (.inr (.inr (.inr f0))))), (hy, .inr (11, [.ref p0, .ref p1, .int 0, .int 0, .int 0, .int 0, .int 0]))] sz) 1 6 :=
  kTM_begin (by decide) (Nat.le_of_ble_eq_true rfl) (by
    intro p e s m below meth c A ls H locs E hlk htab w hl
    have hx := E.1.1
    have hb := E.1.2.1
    have E : kE p m c b_RA_floor 3 s [.ref h0, .int (nI j), .int (nI k)].toArray "RootAlgebra" D a A := E
    have hl : lv_has ls 3 [(0, .ref h0), (1, .int (nI j)), (2, .int (nI k))] := hl
    refine lv_aload_n hx hb d_RA_floor_0 rfl (lv_at hl 0 rfl) ?_
    refine lv_iload_n hx hb d_RA_floor_1 rfl (lv_at hl 1 rfl) ?_
    refine kx_i E w (wc := []) (wr := [(h0, .inr (0, [.ref r0, .ref r1, .ref r2, .ref r3, .ref hv, .ref r5, .ref r6, .int 0, .int 0, .int (-1), .int 0])), (hv, .inl (a 5, 17, .inr (.inr (.inr (.inr f0))))), (hy, .inr (11, [.ref p0, .ref p1, .int 0, .int 0, .int 0, .int 0, .int 0]))]) [] [0, 1, 2] rfl rfl ⟨rfl, rfl, by decide⟩ (kx_rV E w hl.1 (As := [.int (nI j)]) (wc := []) (c_RA_isName1 l D a h0 j (by omega) H.size) gc_22 gv_RA_isName (kRecv E w 0 0 rfl rfl) [] rfl rfl rfl rfl rfl ⟨(Nat.le_of_ble_eq_true rfl), (Nat.le_of_ble_eq_true rfl)⟩ rfl (Nat.le_of_ble_eq_true rfl) d_RA_floor_2 ⟨(Nat.le_of_ble_eq_true rfl), (Nat.le_of_ble_eq_true rfl)⟩) (fun rr u H locs hu w => ?_)
    obtain ⟨rfl, rfl⟩ := hu
    have w : kW D A s [(h0, .inr (0, [.ref r0, .ref r1, .ref r2, .ref r3, .ref hv, .ref r5, .ref r6, .int 0, .int 0, .int (-1), .int 0])), (hv, .inl (a 5, 17, .inr (.inr (.inr (.inr f0))))), (hy, .inr (11, [.ref p0, .ref p1, .int 0, .int 0, .int 0, .int 0, .int 0]))] H locs := w
    refine lv_if_eq (tgt := 18) hx hb d_RA_floor_5 (by decide) (fun h => absurd h (by decide)) (fun _ => ?_)
    refine lv_iload_n hx hb d_RA_floor_8 rfl (lv_at hl 2 rfl) ?_
    refine lv_if_lt (tgt := 18) hx hb d_RA_floor_9 (by decide) (fun h => absurd h (nI_nlt (a := k) (b := 0) (by omega) (by omega))) (fun _ => ?_)
    refine lv_iload_n hx hb d_RA_floor_12 rfl (lv_at hl 2 rfl) ?_
    refine lv_bipush (v := 30) hx hb d_RA_floor_13 (by decide) ?_
    refine lv_icmp_le (tgt := 26) hx hb d_RA_floor_15 (by decide) (fun _ => ?_) (fun h => absurd (nI_le (a := k) (b := 30) (by omega) (by omega)) h)
    refine lv_aload_n hx hb d_RA_floor_26 rfl (lv_at hl 0 rfl) ?_
    refine kx_get E w zC_RA 0 rfl 4 (by decide) mw_168 rfl d_RA_floor_27 ?_
    refine lv_iload_n hx hb d_RA_floor_30 rfl (lv_at hl 1 rfl) ?_
    refine kx_aald E w 1 5 rfl rfl (vp_in_nI (by omega) (by omega)) (y := hy) (by rw [nI_clamp (by omega)]; exact hf0) d_RA_floor_31 ?_
    refine kx_get E w zC_Value 2 rfl 2 (by decide) mw_194 rfl d_RA_floor_32 ?_
    refine lv_if_ne (tgt := 46) hx hb d_RA_floor_35 (by decide) (fun h => absurd (by decide) h) (fun _ => ?_)
    exact kt_throw (names := zEN) E w hl.1 hl9 htab hlk ⟨by decide, by decide⟩ mw_442 mw_443 ga_1 E.2.1.2.2.2.2.2.2.1 d_RA_floor_38 d_RA_floor_41 d_RA_floor_42 d_RA_floor_45 (Nat.le_of_ble_eq_true rfl) (Nat.le_of_ble_eq_true rfl) (Nat.le_of_ble_eq_true rfl) (Nat.le_of_ble_eq_true rfl) (Nat.le_of_ble_eq_true rfl) (Nat.le_of_ble_eq_true rfl))
set_option maxRecDepth 100000 in
set_option maxHeartbeats 4000000 in
theorem t_RA_compare_none (l : Launch) (hl9 : l.stackTraces = false) (D : va_G) (a : Nat → ClassId) (h0 : Nat) (r0 : Nat) (r1 : Nat) (r2 : Nat) (r3 : Nat) (hv : Nat) (r5 : Nat) (r6 : Nat) (hy : Nat) (p0 : Nat) (p1 : Nat) (f0 : Nat → Option Nat) (j : Nat) (hj : j ≤ 15) (i : Nat) (hj2 : i ≤ 16) (hf0 : f0 j = some hy) : ∀ sz : Nat, kTM l y_RA_compare (Cond.code y_RA_compare b_RA_compare 3 (some .int) :: wA) ({ frames := 6, cells := 1, slots := 6, locals := 89 } : Room) (va_Pc [.ref h0, .int (nI j), .int (nI i)] (kP D a [(h0, .inr (0, [.ref r0, .ref r1, .ref r2, .ref r3, .ref hv, .ref r5, .ref r6, .int 0, .int 0, .int (-1), .int 0])), (hv, .inl (a 5, 17, .inr (.inr (.inr (.inr f0))))), (hy, .inr (11, [.ref p0, .ref p1, .int 0, .int 0, .int 0, .int 0, .int 0]))] sz)) D a "java/util/NoSuchElementException" [(h0, .inr (0, [.ref r0, .ref r1, .ref r2, .ref r3, .ref hv, .ref r5, .ref r6, .int 0, .int 0, .int (-1), .int 0])), (hv, .inl (a 5, 17, .inr (.inr (.inr (.inr f0))))), (hy, .inr (11, [.ref p0, .ref p1, .int 0, .int 0, .int 0, .int 0, .int 0]))] (va_A [(h0, .inr (0, [.ref r0, .ref r1, .ref r2, .ref r3, .ref hv, .ref r5, .ref r6, .int 0, .int 0, .int (-1), .int 0])), (hv, .inl (a 5, 17, .inr (.inr (.inr (.inr f0))))), (hy, .inr (11, [.ref p0, .ref p1, .int 0, .int 0, .int 0, .int 0, .int 0]))] sz) 1 6 :=
  kTM_begin (by decide) (Nat.le_of_ble_eq_true rfl) (by
    intro p e s m below meth c A ls H locs E hlk htab w hl
    have hx := E.1.1
    have hb := E.1.2.1
    have E : kE p m c b_RA_compare 3 s [.ref h0, .int (nI j), .int (nI i)].toArray "RootAlgebra" D a A := E
    have hl : lv_has ls 3 [(0, .ref h0), (1, .int (nI j)), (2, .int (nI i))] := hl
    refine lv_aload_n hx hb d_RA_compare_0 rfl (lv_at hl 0 rfl) ?_
    refine lv_iload_n hx hb d_RA_compare_1 rfl (lv_at hl 1 rfl) ?_
    refine kx_i E w (wc := []) (wr := [(h0, .inr (0, [.ref r0, .ref r1, .ref r2, .ref r3, .ref hv, .ref r5, .ref r6, .int 0, .int 0, .int (-1), .int 0])), (hv, .inl (a 5, 17, .inr (.inr (.inr (.inr f0))))), (hy, .inr (11, [.ref p0, .ref p1, .int 0, .int 0, .int 0, .int 0, .int 0]))]) [] [0, 1, 2] rfl rfl ⟨rfl, rfl, by decide⟩ (kx_rV E w hl.1 (As := [.int (nI j)]) (wc := []) (c_RA_isName1 l D a h0 j (by omega) H.size) gc_22 gv_RA_isName (kRecv E w 0 0 rfl rfl) [] rfl rfl rfl rfl rfl ⟨(Nat.le_of_ble_eq_true rfl), (Nat.le_of_ble_eq_true rfl)⟩ rfl (Nat.le_of_ble_eq_true rfl) d_RA_compare_2 ⟨(Nat.le_of_ble_eq_true rfl), (Nat.le_of_ble_eq_true rfl)⟩) (fun rr u H locs hu w => ?_)
    obtain ⟨rfl, rfl⟩ := hu
    have w : kW D A s [(h0, .inr (0, [.ref r0, .ref r1, .ref r2, .ref r3, .ref hv, .ref r5, .ref r6, .int 0, .int 0, .int (-1), .int 0])), (hv, .inl (a 5, 17, .inr (.inr (.inr (.inr f0))))), (hy, .inr (11, [.ref p0, .ref p1, .int 0, .int 0, .int 0, .int 0, .int 0]))] H locs := w
    refine lv_if_eq (tgt := 16) hx hb d_RA_compare_5 (by decide) (fun h => absurd h (by decide)) (fun _ => ?_)
    refine lv_aload_n hx hb d_RA_compare_8 rfl (lv_at hl 0 rfl) ?_
    refine lv_iload_n hx hb d_RA_compare_9 rfl (lv_at hl 2 rfl) ?_
    refine kx_i E w (wc := []) (wr := [(h0, .inr (0, [.ref r0, .ref r1, .ref r2, .ref r3, .ref hv, .ref r5, .ref r6, .int 0, .int 0, .int (-1), .int 0])), (hv, .inl (a 5, 17, .inr (.inr (.inr (.inr f0))))), (hy, .inr (11, [.ref p0, .ref p1, .int 0, .int 0, .int 0, .int 0, .int 0]))]) [] [0, 1, 2] rfl rfl ⟨rfl, rfl, by decide⟩ (kx_rV E w hl.1 (As := [.int (nI i)]) (wc := []) (c_RA_isName1 l D a h0 i (by omega) H.size) gc_22 gv_RA_isName (kRecv E w 0 0 rfl rfl) [] rfl rfl rfl rfl rfl ⟨(Nat.le_of_ble_eq_true rfl), (Nat.le_of_ble_eq_true rfl)⟩ rfl (Nat.le_of_ble_eq_true rfl) d_RA_compare_10 ⟨(Nat.le_of_ble_eq_true rfl), (Nat.le_of_ble_eq_true rfl)⟩) (fun rr u H locs hu w => ?_)
    obtain ⟨rfl, rfl⟩ := hu
    have w : kW D A s [(h0, .inr (0, [.ref r0, .ref r1, .ref r2, .ref r3, .ref hv, .ref r5, .ref r6, .int 0, .int 0, .int (-1), .int 0])), (hv, .inl (a 5, 17, .inr (.inr (.inr (.inr f0))))), (hy, .inr (11, [.ref p0, .ref p1, .int 0, .int 0, .int 0, .int 0, .int 0]))] H locs := w
    refine lv_if_ne (tgt := 24) hx hb d_RA_compare_13 (by decide) (fun _ => ?_) (fun h => absurd h (by decide))
    refine lv_aload_n hx hb d_RA_compare_24 rfl (lv_at hl 0 rfl) ?_
    refine kx_get E w zC_RA 0 rfl 4 (by decide) mw_168 rfl d_RA_compare_25 ?_
    refine lv_iload_n hx hb d_RA_compare_28 rfl (lv_at hl 1 rfl) ?_
    refine kx_aald E w 1 5 rfl rfl (vp_in_nI (by omega) (by omega)) (y := hy) (by rw [nI_clamp (by omega)]; exact hf0) d_RA_compare_29 ?_
    refine kx_get E w zC_Value 2 rfl 2 (by decide) mw_194 rfl d_RA_compare_30 ?_
    refine lv_if_eq (tgt := 48) hx hb d_RA_compare_33 (by decide) (fun _ => ?_) (fun h => absurd (by decide) h)
    exact kt_throw (names := zEN) E w hl.1 hl9 htab hlk ⟨by decide, by decide⟩ mw_442 mw_443 ga_1 E.2.1.2.2.2.2.2.2.1 d_RA_compare_48 d_RA_compare_51 d_RA_compare_52 d_RA_compare_55 (Nat.le_of_ble_eq_true rfl) (Nat.le_of_ble_eq_true rfl) (Nat.le_of_ble_eq_true rfl) (Nat.le_of_ble_eq_true rfl) (Nat.le_of_ble_eq_true rfl) (Nat.le_of_ble_eq_true rfl))
set_option maxRecDepth 100000 in
set_option maxHeartbeats 4000000 in
theorem t_RA_compare_bad2 (l : Launch) (hl9 : l.stackTraces = false) (D : va_G) (a : Nat → ClassId) (h0 : Nat) (r0 : Nat) (r1 : Nat) (r2 : Nat) (r3 : Nat) (hv : Nat) (r5 : Nat) (r6 : Nat) (j : Nat) (hj : j ≤ 16) (x : Int32) (hbad : x < 0 ∨ 16 < x) : ∀ sz : Nat, kTM l y_RA_compare (Cond.code y_RA_compare b_RA_compare 3 (some .int) :: wA) ({ frames := 6, cells := 1, slots := 6, locals := 89 } : Room) (va_Pc [.ref h0, .int (nI j), .int x] (kP D a [(h0, .inr (0, [.ref r0, .ref r1, .ref r2, .ref r3, .ref hv, .ref r5, .ref r6, .int 0, .int 0, .int (-1), .int 0]))] sz)) D a "java/lang/IllegalArgumentException" [(h0, .inr (0, [.ref r0, .ref r1, .ref r2, .ref r3, .ref hv, .ref r5, .ref r6, .int 0, .int 0, .int (-1), .int 0]))] (va_A [(h0, .inr (0, [.ref r0, .ref r1, .ref r2, .ref r3, .ref hv, .ref r5, .ref r6, .int 0, .int 0, .int (-1), .int 0]))] sz) 1 6 :=
  kTM_begin (by decide) (Nat.le_of_ble_eq_true rfl) (by
    intro p e s m below meth c A ls H locs E hlk htab w hl
    have hx := E.1.1
    have hb := E.1.2.1
    have E : kE p m c b_RA_compare 3 s [.ref h0, .int (nI j), .int x].toArray "RootAlgebra" D a A := E
    have hl : lv_has ls 3 [(0, .ref h0), (1, .int (nI j)), (2, .int x)] := hl
    refine lv_aload_n hx hb d_RA_compare_0 rfl (lv_at hl 0 rfl) ?_
    refine lv_iload_n hx hb d_RA_compare_1 rfl (lv_at hl 1 rfl) ?_
    refine kx_i E w (wc := []) (wr := [(h0, .inr (0, [.ref r0, .ref r1, .ref r2, .ref r3, .ref hv, .ref r5, .ref r6, .int 0, .int 0, .int (-1), .int 0]))]) [] [0] rfl rfl ⟨rfl, rfl, by decide⟩ (kx_rV E w hl.1 (As := [.int (nI j)]) (wc := []) (c_RA_isName1 l D a h0 j (by omega) H.size) gc_22 gv_RA_isName (kRecv E w 0 0 rfl rfl) [] rfl rfl rfl rfl rfl ⟨(Nat.le_of_ble_eq_true rfl), (Nat.le_of_ble_eq_true rfl)⟩ rfl (Nat.le_of_ble_eq_true rfl) d_RA_compare_2 ⟨(Nat.le_of_ble_eq_true rfl), (Nat.le_of_ble_eq_true rfl)⟩) (fun rr u H locs hu w => ?_)
    obtain ⟨rfl, rfl⟩ := hu
    have w : kW D A s [(h0, .inr (0, [.ref r0, .ref r1, .ref r2, .ref r3, .ref hv, .ref r5, .ref r6, .int 0, .int 0, .int (-1), .int 0]))] H locs := w
    refine lv_if_eq (tgt := 16) hx hb d_RA_compare_5 (by decide) (fun h => absurd h (by decide)) (fun _ => ?_)
    refine lv_aload_n hx hb d_RA_compare_8 rfl (lv_at hl 0 rfl) ?_
    refine lv_iload_n hx hb d_RA_compare_9 rfl (lv_at hl 2 rfl) ?_
    refine kx_i E w (wc := []) (wr := [(h0, .inr (0, [.ref r0, .ref r1, .ref r2, .ref r3, .ref hv, .ref r5, .ref r6, .int 0, .int 0, .int (-1), .int 0]))]) [] [0] rfl rfl ⟨rfl, rfl, by decide⟩ (kx_rV E w hl.1 (As := [.int x]) (wc := []) (c_RA_isName0 l D a h0 x hbad H.size) gc_22 gv_RA_isName (kRecv E w 0 0 rfl rfl) [] rfl rfl rfl rfl rfl ⟨(Nat.le_of_ble_eq_true rfl), (Nat.le_of_ble_eq_true rfl)⟩ rfl (Nat.le_of_ble_eq_true rfl) d_RA_compare_10 ⟨(Nat.le_of_ble_eq_true rfl), (Nat.le_of_ble_eq_true rfl)⟩) (fun rr u H locs hu w => ?_)
    obtain ⟨rfl, rfl⟩ := hu
    have w : kW D A s [(h0, .inr (0, [.ref r0, .ref r1, .ref r2, .ref r3, .ref hv, .ref r5, .ref r6, .int 0, .int 0, .int (-1), .int 0]))] H locs := w
    refine lv_if_ne (tgt := 24) hx hb d_RA_compare_13 (by decide) (fun h => absurd (by decide) h) (fun _ => ?_)
    exact kt_throw (names := zEN) E w hl.1 hl9 htab hlk ⟨by decide, by decide⟩ mw_440 mw_441 ga_0 E.2.1.2.2.2.2.1 d_RA_compare_16 d_RA_compare_19 d_RA_compare_20 d_RA_compare_23 (Nat.le_of_ble_eq_true rfl) (Nat.le_of_ble_eq_true rfl) (Nat.le_of_ble_eq_true rfl) (Nat.le_of_ble_eq_true rfl) (Nat.le_of_ble_eq_true rfl) (Nat.le_of_ble_eq_true rfl))
set_option maxRecDepth 100000 in
set_option maxHeartbeats 4000000 in
theorem t_RA_compare_none2 (l : Launch) (hl9 : l.stackTraces = false) (D : va_G) (a : Nat → ClassId) (h0 : Nat) (r0 : Nat) (r1 : Nat) (r2 : Nat) (r3 : Nat) (hv : Nat) (r5 : Nat) (r6 : Nat) (hy : Nat) (p0 : Nat) (p1 : Nat) (hz : Nat) (p2 : Nat) (p3 : Nat) (f0 : Nat → Option Nat) (j : Nat) (hj : j ≤ 15) (hf0 : f0 j = some hz) (hf : f0 16 = some hy) : ∀ sz : Nat, kTM l y_RA_compare (Cond.code y_RA_compare b_RA_compare 3 (some .int) :: wA) ({ frames := 6, cells := 1, slots := 6, locals := 89 } : Room) (va_Pc [.ref h0, .int 16, .int (nI j)] (kP D a [(h0, .inr (0, [.ref r0, .ref r1, .ref r2, .ref r3, .ref hv, .ref r5, .ref r6, .int 0, .int 0, .int (-1), .int 0])), (hv, .inl (a 5, 17, .inr (.inr (.inr (.inr f0))))), (hy, .inr (11, [.ref p0, .ref p1, .int 1, .int 0, .int 1, .int 0, .int 0])), (hz, .inr (11, [.ref p2, .ref p3, .int 0, .int 0, .int 0, .int 0, .int 0]))] sz)) D a "java/util/NoSuchElementException" [(h0, .inr (0, [.ref r0, .ref r1, .ref r2, .ref r3, .ref hv, .ref r5, .ref r6, .int 0, .int 0, .int (-1), .int 0])), (hv, .inl (a 5, 17, .inr (.inr (.inr (.inr f0))))), (hy, .inr (11, [.ref p0, .ref p1, .int 1, .int 0, .int 1, .int 0, .int 0])), (hz, .inr (11, [.ref p2, .ref p3, .int 0, .int 0, .int 0, .int 0, .int 0]))] (va_A [(h0, .inr (0, [.ref r0, .ref r1, .ref r2, .ref r3, .ref hv, .ref r5, .ref r6, .int 0, .int 0, .int (-1), .int 0])), (hv, .inl (a 5, 17, .inr (.inr (.inr (.inr f0))))), (hy, .inr (11, [.ref p0, .ref p1, .int 1, .int 0, .int 1, .int 0, .int 0])), (hz, .inr (11, [.ref p2, .ref p3, .int 0, .int 0, .int 0, .int 0, .int 0]))] sz) 1 6 :=
  kTM_begin (by decide) (Nat.le_of_ble_eq_true rfl) (by
    intro p e s m below meth c A ls H locs E hlk htab w hl
    have hx := E.1.1
    have hb := E.1.2.1
    have E : kE p m c b_RA_compare 3 s [.ref h0, .int 16, .int (nI j)].toArray "RootAlgebra" D a A := E
    have hl : lv_has ls 3 [(0, .ref h0), (1, .int 16), (2, .int (nI j))] := hl
    refine lv_aload_n hx hb d_RA_compare_0 rfl (lv_at hl 0 rfl) ?_
    refine lv_iload_n hx hb d_RA_compare_1 rfl (lv_at hl 1 rfl) ?_
    refine kx_i E w (wc := []) (wr := [(h0, .inr (0, [.ref r0, .ref r1, .ref r2, .ref r3, .ref hv, .ref r5, .ref r6, .int 0, .int 0, .int (-1), .int 0])), (hv, .inl (a 5, 17, .inr (.inr (.inr (.inr f0))))), (hy, .inr (11, [.ref p0, .ref p1, .int 1, .int 0, .int 1, .int 0, .int 0])), (hz, .inr (11, [.ref p2, .ref p3, .int 0, .int 0, .int 0, .int 0, .int 0]))]) [] [0, 1, 2, 3] rfl rfl ⟨rfl, rfl, by decide⟩ (kx_rV E w hl.1 (As := [.int 16]) (wc := []) (c_RA_isName1 l D a h0 16 (by omega) H.size) gc_22 gv_RA_isName (kRecv E w 0 0 rfl rfl) [] rfl rfl rfl rfl rfl ⟨(Nat.le_of_ble_eq_true rfl), (Nat.le_of_ble_eq_true rfl)⟩ rfl (Nat.le_of_ble_eq_true rfl) d_RA_compare_2 ⟨(Nat.le_of_ble_eq_true rfl), (Nat.le_of_ble_eq_true rfl)⟩) (fun rr u H locs hu w => ?_)
    obtain ⟨rfl, rfl⟩ := hu
    have w : kW D A s [(h0, .inr (0, [.ref r0, .ref r1, .ref r2, .ref r3, .ref hv, .ref r5, .ref r6, .int 0, .int 0, .int (-1), .int 0])), (hv, .inl (a 5, 17, .inr (.inr (.inr (.inr f0))))), (hy, .inr (11, [.ref p0, .ref p1, .int 1, .int 0, .int 1, .int 0, .int 0])), (hz, .inr (11, [.ref p2, .ref p3, .int 0, .int 0, .int 0, .int 0, .int 0]))] H locs := w
    refine lv_if_eq (tgt := 16) hx hb d_RA_compare_5 (by decide) (fun h => absurd h (by decide)) (fun _ => ?_)
    refine lv_aload_n hx hb d_RA_compare_8 rfl (lv_at hl 0 rfl) ?_
    refine lv_iload_n hx hb d_RA_compare_9 rfl (lv_at hl 2 rfl) ?_
    refine kx_i E w (wc := []) (wr := [(h0, .inr (0, [.ref r0, .ref r1, .ref r2, .ref r3, .ref hv, .ref r5, .ref r6, .int 0, .int 0, .int (-1), .int 0])), (hv, .inl (a 5, 17, .inr (.inr (.inr (.inr f0))))), (hy, .inr (11, [.ref p0, .ref p1, .int 1, .int 0, .int 1, .int 0, .int 0])), (hz, .inr (11, [.ref p2, .ref p3, .int 0, .int 0, .int 0, .int 0, .int 0]))]) [] [0, 1, 2, 3] rfl rfl ⟨rfl, rfl, by decide⟩ (kx_rV E w hl.1 (As := [.int (nI j)]) (wc := []) (c_RA_isName1 l D a h0 j (by omega) H.size) gc_22 gv_RA_isName (kRecv E w 0 0 rfl rfl) [] rfl rfl rfl rfl rfl ⟨(Nat.le_of_ble_eq_true rfl), (Nat.le_of_ble_eq_true rfl)⟩ rfl (Nat.le_of_ble_eq_true rfl) d_RA_compare_10 ⟨(Nat.le_of_ble_eq_true rfl), (Nat.le_of_ble_eq_true rfl)⟩) (fun rr u H locs hu w => ?_)
    obtain ⟨rfl, rfl⟩ := hu
    have w : kW D A s [(h0, .inr (0, [.ref r0, .ref r1, .ref r2, .ref r3, .ref hv, .ref r5, .ref r6, .int 0, .int 0, .int (-1), .int 0])), (hv, .inl (a 5, 17, .inr (.inr (.inr (.inr f0))))), (hy, .inr (11, [.ref p0, .ref p1, .int 1, .int 0, .int 1, .int 0, .int 0])), (hz, .inr (11, [.ref p2, .ref p3, .int 0, .int 0, .int 0, .int 0, .int 0]))] H locs := w
    refine lv_if_ne (tgt := 24) hx hb d_RA_compare_13 (by decide) (fun _ => ?_) (fun h => absurd h (by decide))
    refine lv_aload_n hx hb d_RA_compare_24 rfl (lv_at hl 0 rfl) ?_
    refine kx_get E w zC_RA 0 rfl 4 (by decide) mw_168 rfl d_RA_compare_25 ?_
    refine lv_iload_n hx hb d_RA_compare_28 rfl (lv_at hl 1 rfl) ?_
    refine kx_aald E w 1 5 rfl rfl (by unfold vp_in; decide) (y := hy) hf d_RA_compare_29 ?_
    refine kx_get E w zC_Value 2 rfl 2 (by decide) mw_194 rfl d_RA_compare_30 ?_
    refine lv_if_eq (tgt := 48) hx hb d_RA_compare_33 (by decide) (fun h => absurd h (by decide)) (fun _ => ?_)
    refine lv_aload_n hx hb d_RA_compare_36 rfl (lv_at hl 0 rfl) ?_
    refine kx_get E w zC_RA 0 rfl 4 (by decide) mw_168 rfl d_RA_compare_37 ?_
    refine lv_iload_n hx hb d_RA_compare_40 rfl (lv_at hl 2 rfl) ?_
    refine kx_aald E w 1 5 rfl rfl (vp_in_nI (by omega) (by omega)) (y := hz) (by rw [nI_clamp (by omega)]; exact hf0) d_RA_compare_41 ?_
    refine kx_get E w zC_Value 3 rfl 2 (by decide) mw_194 rfl d_RA_compare_42 ?_
    refine lv_if_ne (tgt := 56) hx hb d_RA_compare_45 (by decide) (fun h => absurd (by decide) h) (fun _ => ?_)
    exact kt_throw (names := zEN) E w hl.1 hl9 htab hlk ⟨by decide, by decide⟩ mw_442 mw_443 ga_1 E.2.1.2.2.2.2.2.2.1 d_RA_compare_48 d_RA_compare_51 d_RA_compare_52 d_RA_compare_55 (Nat.le_of_ble_eq_true rfl) (Nat.le_of_ble_eq_true rfl) (Nat.le_of_ble_eq_true rfl) (Nat.le_of_ble_eq_true rfl) (Nat.le_of_ble_eq_true rfl) (Nat.le_of_ble_eq_true rfl))
