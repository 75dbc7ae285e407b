/-! laid by program (wip/gen) -/
set_option maxRecDepth 100000 in
set_option maxHeartbeats 4000000 in
theorem t_RA_floor_bad2 (l : Launch) (hl9 : l.stackTraces = false) (D : va_G) (a : Nat → ClassId) (h0 : Nat) (r0 : Nat) (r1 : Nat) (r2 : Nat) (r3 : Nat) (hv : Nat) (r5 : Nat) (r6 : Nat) (j : Nat) (hj : j ≤ 16) (x : Int32) (hbad : x < 0 ∨ 30 < x) : ∀ sz : Nat, kTM l y_RA_floor (Cond.code y_RA_floor b_RA_floor 3 (some .int) :: wA) ({ frames := 6, cells := 1, slots := 6, locals := 89 } : Room) (va_Pc [.ref h0, .int (nI j), .int x] (kP D a [(h0, .inr (0, [.ref r0, .ref r1, .ref r2, .ref r3, .ref hv, .ref r5, .ref r6, .int 0, .int 0, .int (-1), .int 0]))] sz)) D a "java/lang/IllegalArgumentException" [(h0, .inr (0, [.ref r0, .ref r1, .ref r2, .ref r3, .ref hv, .ref r5, .ref r6, .int 0, .int 0, .int (-1), .int 0]))] (va_A [(h0, .inr (0, [.ref r0, .ref r1, .ref r2, .ref r3, .ref hv, .ref r5, .ref r6, .int 0, .int 0, .int (-1), .int 0]))] sz) 1 6 :=
  kTM_begin (by decide) (Nat.le_of_ble_eq_true rfl) (by
    intro p e s m below meth c A ls H locs E hlk htab w hl
    have hx := E.1.1
    have hb := E.1.2.1
    have E : kE p m c b_RA_floor 3 s [.ref h0, .int (nI j), .int x].toArray "RootAlgebra" D a A := E
    have hl : lv_has ls 3 [(0, .ref h0), (1, .int (nI j)), (2, .int x)] := hl
    refine lv_aload_n hx hb d_RA_floor_0 rfl (lv_at hl 0 rfl) ?_
    refine lv_iload_n hx hb d_RA_floor_1 rfl (lv_at hl 1 rfl) ?_
    refine kx_i E w (wc := []) (wr := [(h0, .inr (0, [.ref r0, .ref r1, .ref r2, .ref r3, .ref hv, .ref r5, .ref r6, .int 0, .int 0, .int (-1), .int 0]))]) [] [0] rfl rfl ⟨rfl, rfl, by decide⟩ (kx_rV E w hl.1 (As := [.int (nI j)]) (wc := []) (c_RA_isName1 l D a h0 j (by omega) H.size) gc_22 gv_RA_isName (kRecv E w 0 0 rfl rfl) [] rfl rfl rfl rfl rfl ⟨(Nat.le_of_ble_eq_true rfl), (Nat.le_of_ble_eq_true rfl)⟩ rfl (Nat.le_of_ble_eq_true rfl) d_RA_floor_2 ⟨(Nat.le_of_ble_eq_true rfl), (Nat.le_of_ble_eq_true rfl)⟩) (fun rr u H locs hu w => ?_)
    obtain ⟨rfl, rfl⟩ := hu
    have w : kW D A s [(h0, .inr (0, [.ref r0, .ref r1, .ref r2, .ref r3, .ref hv, .ref r5, .ref r6, .int 0, .int 0, .int (-1), .int 0]))] H locs := w
    refine lv_if_eq (tgt := 18) hx hb d_RA_floor_5 (by decide) (fun h => absurd h (by decide)) (fun _ => ?_)
    refine lv_iload_n hx hb d_RA_floor_8 rfl (lv_at hl 2 rfl) ?_
    by_cases hq : x < 0
    · refine lv_if_lt (tgt := 18) hx hb d_RA_floor_9 (by decide) (fun _ => ?_) (fun h => absurd hq h)
      exact kt_throw (names := zEN) E w hl.1 hl9 htab hlk ⟨by decide, by decide⟩ mw_440 mw_441 ga_0 E.2.1.2.2.2.2.1 d_RA_floor_18 d_RA_floor_21 d_RA_floor_22 d_RA_floor_25 (Nat.le_of_ble_eq_true rfl) (Nat.le_of_ble_eq_true rfl) (Nat.le_of_ble_eq_true rfl) (Nat.le_of_ble_eq_true rfl) (Nat.le_of_ble_eq_true rfl) (Nat.le_of_ble_eq_true rfl)
    · refine lv_if_lt (tgt := 18) hx hb d_RA_floor_9 (by decide) (fun h => absurd h hq) (fun _ => ?_)
      refine lv_iload_n hx hb d_RA_floor_12 rfl (lv_at hl 2 rfl) ?_
      refine lv_bipush (v := 30) hx hb d_RA_floor_13 (by decide) ?_
      refine lv_icmp_le (tgt := 26) hx hb d_RA_floor_15 (by decide) (fun h => absurd h (Int32.not_le.mpr (hbad.resolve_left hq))) (fun _ => ?_)
      exact kt_throw (names := zEN) E w hl.1 hl9 htab hlk ⟨by decide, by decide⟩ mw_440 mw_441 ga_0 E.2.1.2.2.2.2.1 d_RA_floor_18 d_RA_floor_21 d_RA_floor_22 d_RA_floor_25 (Nat.le_of_ble_eq_true rfl) (Nat.le_of_ble_eq_true rfl) (Nat.le_of_ble_eq_true rfl) (Nat.le_of_ble_eq_true rfl) (Nat.le_of_ble_eq_true rfl) (Nat.le_of_ble_eq_true rfl))
set_option maxRecDepth 100000 in
set_option maxHeartbeats 4000000 in
theorem t_RA_coefficient_far (l : Launch) (hl9 : l.stackTraces = false) (D : va_G) (a : Nat → ClassId) (h0 : Nat) (r0 : Nat) (r1 : Nat) (r2 : Nat) (r3 : Nat) (hv : Nat) (r5 : Nat) (r6 : Nat) (hy : Nat) (p0 : Nat) (p1 : Nat) (f0 : Nat → Option Nat) (y : Int32) (hbad : y < 0 ∨ 1 < y) (hf : f0 16 = some hy) : ∀ sz : Nat, kTM l y_RA_coefficient (Cond.code y_RA_coefficient b_RA_coefficient 4 (some .int) :: wA) ({ frames := 6, cells := 1, slots := 6, locals := 89 } : Room) (va_Pc [.ref h0, .int 16, .int y] (kP D a [(h0, .inr (0, [.ref r0, .ref r1, .ref r2, .ref r3, .ref hv, .ref r5, .ref r6, .int 0, .int 0, .int (-1), .int 0])), (hv, .inl (a 5, 17, .inr (.inr (.inr (.inr f0))))), (hy, .inr (11, [.ref p0, .ref p1, .int 1, .int 0, .int 1, .int 0, .int 0]))] sz)) D a "java/util/NoSuchElementException" [(h0, .inr (0, [.ref r0, .ref r1, .ref r2, .ref r3, .ref hv, .ref r5, .ref r6, .int 0, .int 0, .int (-1), .int 0])), (hv, .inl (a 5, 17, .inr (.inr (.inr (.inr f0))))), (hy, .inr (11, [.ref p0, .ref p1, .int 1, .int 0, .int 1, .int 0, .int 0]))] (va_A [(h0, .inr (0, [.ref r0, .ref r1, .ref r2, .ref r3, .ref hv, .ref r5, .ref r6, .int 0, .int 0, .int (-1), .int 0])), (hv, .inl (a 5, 17, .inr (.inr (.inr (.inr f0))))), (hy, .inr (11, [.ref p0, .ref p1, .int 1, .int 0, .int 1, .int 0, .int 0]))] sz) 1 6 :=
  kTM_begin (by decide) (Nat.le_of_ble_eq_true rfl) (by
    intro p e s m below meth c A ls H locs E hlk htab w hl
    have hx := E.1.1
    have hb := E.1.2.1
    have E : kE p m c b_RA_coefficient 4 s [.ref h0, .int 16, .int y].toArray "RootAlgebra" D a A := E
    have hl : lv_has ls 4 [(0, .ref h0), (1, .int 16), (2, .int y)] := hl
    refine lv_aload_n hx hb d_RA_coefficient_0 rfl (lv_at hl 0 rfl) ?_
    refine lv_iload_n hx hb d_RA_coefficient_1 rfl (lv_at hl 1 rfl) ?_
    refine kx_i E w (wc := []) (wr := [(h0, .inr (0, [.ref r0, .ref r1, .ref r2, .ref r3, .ref hv, .ref r5, .ref r6, .int 0, .int 0, .int (-1), .int 0])), (hv, .inl (a 5, 17, .inr (.inr (.inr (.inr f0))))), (hy, .inr (11, [.ref p0, .ref p1, .int 1, .int 0, .int 1, .int 0, .int 0]))]) [] [0, 1, 2] rfl rfl ⟨rfl, rfl, by decide⟩ (kx_rV E w hl.1 (As := [.int 16]) (wc := []) (c_RA_isName1 l D a h0 16 (by omega) H.size) gc_22 gv_RA_isName (kRecv E w 0 0 rfl rfl) [] rfl rfl rfl rfl rfl ⟨(Nat.le_of_ble_eq_true rfl), (Nat.le_of_ble_eq_true rfl)⟩ rfl (Nat.le_of_ble_eq_true rfl) d_RA_coefficient_2 ⟨(Nat.le_of_ble_eq_true rfl), (Nat.le_of_ble_eq_true rfl)⟩) (fun rr u H locs hu w => ?_)
    obtain ⟨rfl, rfl⟩ := hu
    have w : kW D A s [(h0, .inr (0, [.ref r0, .ref r1, .ref r2, .ref r3, .ref hv, .ref r5, .ref r6, .int 0, .int 0, .int (-1), .int 0])), (hv, .inl (a 5, 17, .inr (.inr (.inr (.inr f0))))), (hy, .inr (11, [.ref p0, .ref p1, .int 1, .int 0, .int 1, .int 0, .int 0]))] H locs := w
    refine lv_if_ne (tgt := 16) hx hb d_RA_coefficient_5 (by decide) (fun _ => ?_) (fun h => absurd h (by decide))
    refine lv_aload_n hx hb d_RA_coefficient_16 rfl (lv_at hl 0 rfl) ?_
    refine kx_get E w zC_RA 0 rfl 4 (by decide) mw_168 rfl d_RA_coefficient_17 ?_
    refine lv_iload_n hx hb d_RA_coefficient_20 rfl (lv_at hl 1 rfl) ?_
    refine kx_aald E w 1 5 rfl rfl (by unfold vp_in; decide) (y := hy) hf d_RA_coefficient_21 ?_
    refine lv_astore_n (lv' := [(3, .ref hy), (0, .ref h0), (1, .int 16), (2, .int y)]) hx hb d_RA_coefficient_22 rfl hl (by decide) rfl (fun ls hl => ?_)
    refine lv_aload_n hx hb d_RA_coefficient_23 rfl (lv_at hl 0 rfl) ?_
    refine kx_get E w zC_Value 2 rfl 2 (by decide) mw_194 rfl d_RA_coefficient_24 ?_
    refine lv_if_eq (tgt := 42) hx hb d_RA_coefficient_27 (by decide) (fun h => absurd h (by decide)) (fun _ => ?_)
    refine lv_iload_n hx hb d_RA_coefficient_30 rfl (lv_at hl 3 rfl) ?_
    by_cases hq : y < 0
    · refine lv_if_lt (tgt := 42) hx hb d_RA_coefficient_31 (by decide) (fun _ => ?_) (fun h => absurd hq h)
      exact kt_throw (names := zEN) E w hl.1 hl9 htab hlk ⟨by decide, by decide⟩ mw_442 mw_443 ga_1 E.2.1.2.2.2.2.2.2.1 d_RA_coefficient_42 d_RA_coefficient_45 d_RA_coefficient_46 d_RA_coefficient_49 (Nat.le_of_ble_eq_true rfl) (Nat.le_of_ble_eq_true rfl) (Nat.le_of_ble_eq_true rfl) (Nat.le_of_ble_eq_true rfl) (Nat.le_of_ble_eq_true rfl) (Nat.le_of_ble_eq_true rfl)
    · refine lv_if_lt (tgt := 42) hx hb d_RA_coefficient_31 (by decide) (fun h => absurd h hq) (fun _ => ?_)
      refine lv_iload_n hx hb d_RA_coefficient_34 rfl (lv_at hl 3 rfl) ?_
      refine lv_aload_n hx hb d_RA_coefficient_35 rfl (lv_at hl 0 rfl) ?_
      refine kx_get E w zC_Value 2 rfl 2 (by decide) mw_194 rfl d_RA_coefficient_36 ?_
      refine lv_icmp_le (tgt := 50) hx hb d_RA_coefficient_39 (by decide) (fun h => absurd h (Int32.not_le.mpr (hbad.resolve_left hq))) (fun _ => ?_)
      exact kt_throw (names := zEN) E w hl.1 hl9 htab hlk ⟨by decide, by decide⟩ mw_442 mw_443 ga_1 E.2.1.2.2.2.2.2.2.1 d_RA_coefficient_42 d_RA_coefficient_45 d_RA_coefficient_46 d_RA_coefficient_49 (Nat.le_of_ble_eq_true rfl) (Nat.le_of_ble_eq_true rfl) (Nat.le_of_ble_eq_true rfl) (Nat.le_of_ble_eq_true rfl) (Nat.le_of_ble_eq_true rfl) (Nat.le_of_ble_eq_true rfl))
set_option maxRecDepth 100000 in
set_option maxHeartbeats 4000000 in
theorem t_RA_out (l : Launch) (hl9 : l.stackTraces = false) (D : va_G) (a : Nat → ClassId) (h0 : Nat) (r0 : Nat) (r1 : Nat) (r2 : Nat) (r3 : Nat) (hv : Nat) (r5 : Nat) (r6 : Nat) (x : Int32) : ∀ sz : Nat, kTM l y_RA_out (Cond.code y_RA_out b_RA_out 6 (some .long) :: wA) ({ frames := 6, cells := 1, slots := 6, locals := 89 } : Room) (va_Pc [.ref h0, .int x] (kP D a [(h0, .inr (0, [.ref r0, .ref r1, .ref r2, .ref r3, .ref hv, .ref r5, .ref r6, .int 0, .int 0, .int (-1), .int 0]))] sz)) D a "java/util/NoSuchElementException" [(h0, .inr (0, [.ref r0, .ref r1, .ref r2, .ref r3, .ref hv, .ref r5, .ref r6, .int 0, .int 0, .int (-1), .int 0]))] (va_A [(h0, .inr (0, [.ref r0, .ref r1, .ref r2, .ref r3, .ref hv, .ref r5, .ref r6, .int 0, .int 0, .int (-1), .int 0]))] sz) 1 6 :=
  kTM_begin (by decide) (Nat.le_of_ble_eq_true rfl) (by
    intro p e s m below meth c A ls H locs E hlk htab w hl
    have hx := E.1.1
    have hb := E.1.2.1
    have E : kE p m c b_RA_out 6 s [.ref h0, .int x].toArray "RootAlgebra" D a A := E
    have hl : lv_has ls 6 [(0, .ref h0), (1, .int x)] := hl
    by_cases hq : x < 0
    · refine lv_iload_n hx hb d_RA_out_0 rfl (lv_at hl 1 rfl) ?_
      refine lv_if_lt (tgt := 12) hx hb d_RA_out_1 (by decide) (fun _ => ?_) (fun h => absurd hq h)
      exact kt_throw (names := zEN) E w hl.1 hl9 htab hlk ⟨by decide, by decide⟩ mw_442 mw_443 ga_1 E.2.1.2.2.2.2.2.2.1 d_RA_out_12 d_RA_out_15 d_RA_out_16 d_RA_out_19 (Nat.le_of_ble_eq_true rfl) (Nat.le_of_ble_eq_true rfl) (Nat.le_of_ble_eq_true rfl) (Nat.le_of_ble_eq_true rfl) (Nat.le_of_ble_eq_true rfl) (Nat.le_of_ble_eq_true rfl)
    · refine lv_iload_n hx hb d_RA_out_0 rfl (lv_at hl 1 rfl) ?_
      refine lv_if_lt (tgt := 12) hx hb d_RA_out_1 (by decide) (fun h => absurd h hq) (fun _ => ?_)
      refine lv_iload_n hx hb d_RA_out_4 rfl (lv_at hl 1 rfl) ?_
      refine lv_aload_n hx hb d_RA_out_5 rfl (lv_at hl 0 rfl) ?_
      refine kx_get E w zC_RA 0 rfl 8 (by decide) mw_203 rfl d_RA_out_6 ?_
      refine lv_icmp_lt (tgt := 20) hx hb d_RA_out_9 (by decide) (fun h => absurd h hq) (fun _ => ?_)
      exact kt_throw (names := zEN) E w hl.1 hl9 htab hlk ⟨by decide, by decide⟩ mw_442 mw_443 ga_1 E.2.1.2.2.2.2.2.2.1 d_RA_out_12 d_RA_out_15 d_RA_out_16 d_RA_out_19 (Nat.le_of_ble_eq_true rfl) (Nat.le_of_ble_eq_true rfl) (Nat.le_of_ble_eq_true rfl) (Nat.le_of_ble_eq_true rfl) (Nat.le_of_ble_eq_true rfl) (Nat.le_of_ble_eq_true rfl))
set_option maxRecDepth 100000 in
set_option maxHeartbeats 4000000 in
theorem t_RA_drop (l : Launch) (hl9 : l.stackTraces = false) (D : va_G) (a : Nat → ClassId) (h0 : Nat) (r0 : Nat) (r1 : Nat) (r2 : Nat) (r3 : Nat) (hv : Nat) (r5 : Nat) (r6 : Nat) (x : Int32) (hbad : x < 0 ∨ 15 < x) : ∀ sz : Nat, kTM l y_RA_drop (Cond.code y_RA_drop b_RA_drop 3 (some .boolean) :: wA) ({ frames := 6, cells := 1, slots := 6, locals := 89 } : Room) (va_Pc [.ref h0, .int x] (kP D a [(h0, .inr (0, [.ref r0, .ref r1, .ref r2, .ref r3, .ref hv, .ref r5, .ref r6, .int 0, .int 0, .int (-1), .int 0]))] sz)) D a "java/lang/IllegalArgumentException" [(h0, .inr (0, [.ref r0, .ref r1, .ref r2, .ref r3, .ref hv, .ref r5, .ref r6, .int 0, .int 0, .int (-1), .int 0]))] (va_A [(h0, .inr (0, [.ref r0, .ref r1, .ref r2, .ref r3, .ref hv, .ref r5, .ref r6, .int 0, .int 0, .int (-1), .int 0]))] sz) 1 6 :=
  kTM_begin (by decide) (Nat.le_of_ble_eq_true rfl) (by
    intro p e s m below meth c A ls H locs E hlk htab w hl
    have hx := E.1.1
    have hb := E.1.2.1
    have E : kE p m c b_RA_drop 3 s [.ref h0, .int x].toArray "RootAlgebra" D a A := E
    have hl : lv_has ls 3 [(0, .ref h0), (1, .int x)] := hl
    by_cases hq : x < 0
    · refine lv_iload_n hx hb d_RA_drop_0 rfl (lv_at hl 1 rfl) ?_
      refine lv_if_lt (tgt := 10) hx hb d_RA_drop_1 (by decide) (fun _ => ?_) (fun h => absurd hq h)
      exact kt_throw (names := zEN) E w hl.1 hl9 htab hlk ⟨by decide, by decide⟩ mw_440 mw_441 ga_0 E.2.1.2.2.2.2.1 d_RA_drop_10 d_RA_drop_13 d_RA_drop_14 d_RA_drop_17 (Nat.le_of_ble_eq_true rfl) (Nat.le_of_ble_eq_true rfl) (Nat.le_of_ble_eq_true rfl) (Nat.le_of_ble_eq_true rfl) (Nat.le_of_ble_eq_true rfl) (Nat.le_of_ble_eq_true rfl)
    · refine lv_iload_n hx hb d_RA_drop_0 rfl (lv_at hl 1 rfl) ?_
      refine lv_if_lt (tgt := 10) hx hb d_RA_drop_1 (by decide) (fun h => absurd h hq) (fun _ => ?_)
      refine lv_iload_n hx hb d_RA_drop_4 rfl (lv_at hl 1 rfl) ?_
      refine lv_bipush (v := 16) hx hb d_RA_drop_5 (by decide) ?_
      refine lv_icmp_lt (tgt := 18) hx hb d_RA_drop_7 (by decide) (fun h => absurd h (kl_15 (hbad.resolve_left hq))) (fun _ => ?_)
      exact kt_throw (names := zEN) E w hl.1 hl9 htab hlk ⟨by decide, by decide⟩ mw_440 mw_441 ga_0 E.2.1.2.2.2.2.1 d_RA_drop_10 d_RA_drop_13 d_RA_drop_14 d_RA_drop_17 (Nat.le_of_ble_eq_true rfl) (Nat.le_of_ble_eq_true rfl) (Nat.le_of_ble_eq_true rfl) (Nat.le_of_ble_eq_true rfl) (Nat.le_of_ble_eq_true rfl) (Nat.le_of_ble_eq_true rfl))
