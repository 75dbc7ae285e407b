/-! laid by program (wip/gen) -/
set_option maxRecDepth 100000 in
set_option maxHeartbeats 4000000 in
theorem c_RA_isName0 (l : Launch) (D : va_G) (a : Nat → ClassId) (h0 : Nat) (x : Int32) (hbad : x < 0 ∨ 16 < x) : ∀ sz : Nat, Met l y_RA_isName (Cond.code y_RA_isName b_RA_isName 2 (some .boolean) :: wA) ({ frames := 0, cells := 0, slots := 0, locals := 0 } : Room) (va_Pc [.ref h0, .int x] (kP D a [] sz)) (va_Qi (fun (rr : Int32) (u : va_W) => rr = 0 ∧ u = []) (kB D a (va_A [] sz)) (va_A [] sz)) 0 0 (va_A [] sz) :=
  kM (Qc := fun A => va_Qi (fun (rr : Int32) (u : va_W) => rr = 0 ∧ u = []) (kB D a A) A) (by decide) (Nat.le_of_ble_eq_true rfl) (by
    intro p e s m below meth c A ls H locs E hr hlk hnm w hl
    have hx := E.1.1
    have hb := E.1.2.1
    have E : kE p m c b_RA_isName 2 s [.ref h0, .int x].toArray "RootAlgebra" D a A := E
    have hl : lv_has ls 2 [(0, .ref h0), (1, .int x)] := hl
    by_cases hq : x < 0
    · refine lv_iload_n hx hb d_RA_isName_0 rfl (lv_at hl 1 rfl) ?_
      refine lv_if_lt (tgt := 14) hx hb d_RA_isName_1 (by decide) (fun _ => ?_) (fun h => absurd hq h)
      refine lv_iconst (v := 0) hx hb d_RA_isName_14 (by decide) ?_
      refine W.widen (k := 0) (n := 0) (Nat.le_of_ble_eq_true rfl) (Nat.le_of_ble_eq_true rfl) ?_
      exact kx_zret E w hr hlk d_RA_isName_15 (v := 0) (by decide) ⟨rfl, rfl⟩
    · refine lv_iload_n hx hb d_RA_isName_0 rfl (lv_at hl 1 rfl) ?_
      refine lv_if_lt (tgt := 14) hx hb d_RA_isName_1 (by decide) (fun h => absurd h hq) (fun _ => ?_)
      refine lv_iload_n hx hb d_RA_isName_4 rfl (lv_at hl 1 rfl) ?_
      refine lv_bipush (v := 16) hx hb d_RA_isName_5 (by decide) ?_
      refine lv_icmp_gt (tgt := 14) hx hb d_RA_isName_7 (by decide) (fun _ => ?_) (fun h => absurd (hbad.resolve_left hq) h)
      refine lv_iconst (v := 0) hx hb d_RA_isName_14 (by decide) ?_
      refine W.widen (k := 0) (n := 0) (Nat.le_of_ble_eq_true rfl) (Nat.le_of_ble_eq_true rfl) ?_
      exact kx_zret E w hr hlk d_RA_isName_15 (v := 0) (by decide) ⟨rfl, rfl⟩)
set_option maxRecDepth 100000 in
set_option maxHeartbeats 4000000 in
theorem t_RA_feed (l : Launch) (hl9 : l.stackTraces = false) (D : va_G) (a : Nat → ClassId) (h0 : Nat) (r0 : Nat) (r1 : Nat) (r2 : Nat) (r3 : Nat) (hv : Nat) (r5 : Nat) (r6 : Nat) (x : Int32) (v : Int64) (hbad : x < 1 ∨ 8 < x) : ∀ sz : Nat, kTM l y_RA_feed (Cond.code y_RA_feed b_RA_feed 5 (some .int) :: wA) ({ frames := 6, cells := 1, slots := 6, locals := 89 } : Room) (va_Pc [.ref h0, .int x, .long v] (kP D a [(h0, .inr (0, [.ref r0, .ref r1, .ref r2, .ref r3, .ref hv, .ref r5, .ref r6, .int 0, .int 0, .int (-1), .int 0]))] sz)) D a "java/lang/IllegalArgumentException" [(h0, .inr (0, [.ref r0, .ref r1, .ref r2, .ref r3, .ref hv, .ref r5, .ref r6, .int 0, .int 0, .int (-1), .int 0]))] (va_A [(h0, .inr (0, [.ref r0, .ref r1, .ref r2, .ref r3, .ref hv, .ref r5, .ref r6, .int 0, .int 0, .int (-1), .int 0]))] sz) 1 6 :=
  kTM_begin (by decide) (Nat.le_of_ble_eq_true rfl) (by
    intro p e s m below meth c A ls H locs E hlk htab w hl
    have hx := E.1.1
    have hb := E.1.2.1
    have E : kE p m c b_RA_feed 5 s [.ref h0, .int x, .long v].toArray "RootAlgebra" D a A := E
    have hl : lv_has ls 5 [(0, .ref h0), (1, .int x), (2, .long v)] := hl
    by_cases hq : x < 1
    · refine lv_iload_n hx hb d_RA_feed_0 rfl (lv_at hl 1 rfl) ?_
      refine lv_iconst (v := 1) hx hb d_RA_feed_1 (by decide) ?_
      refine lv_icmp_lt (tgt := 11) hx hb d_RA_feed_2 (by decide) (fun _ => ?_) (fun h => absurd hq h)
      exact kt_throw (names := zEN) E w hl.1 hl9 htab hlk ⟨by decide, by decide⟩ mw_440 mw_441 ga_0 E.2.1.2.2.2.2.1 d_RA_feed_11 d_RA_feed_14 d_RA_feed_15 d_RA_feed_18 (Nat.le_of_ble_eq_true rfl) (Nat.le_of_ble_eq_true rfl) (Nat.le_of_ble_eq_true rfl) (Nat.le_of_ble_eq_true rfl) (Nat.le_of_ble_eq_true rfl) (Nat.le_of_ble_eq_true rfl)
    · refine lv_iload_n hx hb d_RA_feed_0 rfl (lv_at hl 1 rfl) ?_
      refine lv_iconst (v := 1) hx hb d_RA_feed_1 (by decide) ?_
      refine lv_icmp_lt (tgt := 11) hx hb d_RA_feed_2 (by decide) (fun h => absurd h hq) (fun _ => ?_)
      refine lv_iload_n hx hb d_RA_feed_5 rfl (lv_at hl 1 rfl) ?_
      refine lv_bipush (v := 8) hx hb d_RA_feed_6 (by decide) ?_
      refine lv_icmp_le (tgt := 19) hx hb d_RA_feed_8 (by decide) (fun h => absurd h (Int32.not_le.mpr (hbad.resolve_left hq))) (fun _ => ?_)
      exact kt_throw (names := zEN) E w hl.1 hl9 htab hlk ⟨by decide, by decide⟩ mw_440 mw_441 ga_0 E.2.1.2.2.2.2.1 d_RA_feed_11 d_RA_feed_14 d_RA_feed_15 d_RA_feed_18 (Nat.le_of_ble_eq_true rfl) (Nat.le_of_ble_eq_true rfl) (Nat.le_of_ble_eq_true rfl) (Nat.le_of_ble_eq_true rfl) (Nat.le_of_ble_eq_true rfl) (Nat.le_of_ble_eq_true rfl))
set_option maxRecDepth 100000 in
set_option maxHeartbeats 4000000 in
theorem t_RA_look (l : Launch) (hl9 : l.stackTraces = false) (D : va_G) (a : Nat → ClassId) (h0 : Nat) (r0 : Nat) (r1 : Nat) (r2 : Nat) (r3 : Nat) (hv : Nat) (r5 : Nat) (r6 : Nat) (x : Int32) (hbad : x < 0 ∨ 4 < x) : ∀ sz : Nat, kTM l y_RA_look (Cond.code y_RA_look b_RA_look 2 (some .int) :: wA) ({ frames := 6, cells := 1, slots := 6, locals := 89 } : Room) (va_Pc [.ref h0, .int x] (kP D a [(h0, .inr (0, [.ref r0, .ref r1, .ref r2, .ref r3, .ref hv, .ref r5, .ref r6, .int 0, .int 0, .int (-1), .int 0]))] sz)) D a "java/lang/IllegalArgumentException" [(h0, .inr (0, [.ref r0, .ref r1, .ref r2, .ref r3, .ref hv, .ref r5, .ref r6, .int 0, .int 0, .int (-1), .int 0]))] (va_A [(h0, .inr (0, [.ref r0, .ref r1, .ref r2, .ref r3, .ref hv, .ref r5, .ref r6, .int 0, .int 0, .int (-1), .int 0]))] sz) 1 6 :=
  kTM_begin (by decide) (Nat.le_of_ble_eq_true rfl) (by
    intro p e s m below meth c A ls H locs E hlk htab w hl
    have hx := E.1.1
    have hb := E.1.2.1
    have E : kE p m c b_RA_look 2 s [.ref h0, .int x].toArray "RootAlgebra" D a A := E
    have hl : lv_has ls 2 [(0, .ref h0), (1, .int x)] := hl
    refine lv_iload_n hx hb d_RA_look_0 rfl (lv_at hl 1 rfl) ?_
    refine lv_tableOut (tgt := 61) hx hb d_RA_look_1 (kl_tab (c := 0) (d := 4) hbad) (by decide) ?_
    exact kt_throw (names := zEN) E w hl.1 hl9 htab hlk ⟨by decide, by decide⟩ mw_440 mw_441 ga_0 E.2.1.2.2.2.2.1 d_RA_look_61 d_RA_look_64 d_RA_look_65 d_RA_look_68 (Nat.le_of_ble_eq_true rfl) (Nat.le_of_ble_eq_true rfl) (Nat.le_of_ble_eq_true rfl) (Nat.le_of_ble_eq_true rfl) (Nat.le_of_ble_eq_true rfl) (Nat.le_of_ble_eq_true rfl))
set_option maxRecDepth 100000 in
set_option maxHeartbeats 4000000 in
theorem t_RA_degree_bad (l : Launch) (hl9 : l.stackTraces = false) (D : va_G) (a : Nat → ClassId) (h0 : Nat) (r0 : Nat) (r1 : Nat) (r2 : Nat) (r3 : Nat) (hv : Nat) (r5 : Nat) (r6 : Nat) (x : Int32) (hbad : x < 0 ∨ 16 < x) : ∀ sz : Nat, kTM l y_RA_degree (Cond.code y_RA_degree b_RA_degree 2 (some .int) :: wA) ({ frames := 6, cells := 1, slots := 6, locals := 89 } : Room) (va_Pc [.ref h0, .int x] (kP D a [(h0, .inr (0, [.ref r0, .ref r1, .ref r2, .ref r3, .ref hv, .ref r5, .ref r6, .int 0, .int 0, .int (-1), .int 0]))] sz)) D a "java/lang/IllegalArgumentException" [(h0, .inr (0, [.ref r0, .ref r1, .ref r2, .ref r3, .ref hv, .ref r5, .ref r6, .int 0, .int 0, .int (-1), .int 0]))] (va_A [(h0, .inr (0, [.ref r0, .ref r1, .ref r2, .ref r3, .ref hv, .ref r5, .ref r6, .int 0, .int 0, .int (-1), .int 0]))] sz) 1 6 :=
  kTM_begin (by decide) (Nat.le_of_ble_eq_true rfl) (by
    intro p e s m below meth c A ls H locs E hlk htab w hl
    have hx := E.1.1
    have hb := E.1.2.1
    have E : kE p m c b_RA_degree 2 s [.ref h0, .int x].toArray "RootAlgebra" D a A := E
    have hl : lv_has ls 2 [(0, .ref h0), (1, .int x)] := hl
    refine lv_aload_n hx hb d_RA_degree_0 rfl (lv_at hl 0 rfl) ?_
    refine lv_iload_n hx hb d_RA_degree_1 rfl (lv_at hl 1 rfl) ?_
    refine kx_i E w (wc := []) (wr := [(h0, .inr (0, [.ref r0, .ref r1, .ref r2, .ref r3, .ref hv, .ref r5, .ref r6, .int 0, .int 0, .int (-1), .int 0]))]) [] [0] rfl rfl ⟨rfl, rfl, by decide⟩ (kx_rV E w hl.1 (As := [.int x]) (wc := []) (c_RA_isName0 l D a h0 x hbad H.size) gc_22 gv_RA_isName (kRecv E w 0 0 rfl rfl) [] rfl rfl rfl rfl rfl ⟨(Nat.le_of_ble_eq_true rfl), (Nat.le_of_ble_eq_true rfl)⟩ rfl (Nat.le_of_ble_eq_true rfl) d_RA_degree_2 ⟨(Nat.le_of_ble_eq_true rfl), (Nat.le_of_ble_eq_true rfl)⟩) (fun rr u H locs hu w => ?_)
    obtain ⟨rfl, rfl⟩ := hu
    have w : kW D A s [(h0, .inr (0, [.ref r0, .ref r1, .ref r2, .ref r3, .ref hv, .ref r5, .ref r6, .int 0, .int 0, .int (-1), .int 0]))] H locs := w
    refine lv_if_ne (tgt := 16) hx hb d_RA_degree_5 (by decide) (fun h => absurd (by decide) h) (fun _ => ?_)
    exact kt_throw (names := zEN) E w hl.1 hl9 htab hlk ⟨by decide, by decide⟩ mw_440 mw_441 ga_0 E.2.1.2.2.2.2.1 d_RA_degree_8 d_RA_degree_11 d_RA_degree_12 d_RA_degree_15 (Nat.le_of_ble_eq_true rfl) (Nat.le_of_ble_eq_true rfl) (Nat.le_of_ble_eq_true rfl) (Nat.le_of_ble_eq_true rfl) (Nat.le_of_ble_eq_true rfl) (Nat.le_of_ble_eq_true rfl))
set_option maxRecDepth 100000 in
set_option maxHeartbeats 4000000 in
theorem t_RA_coefficient_bad (l : Launch) (hl9 : l.stackTraces = false) (D : va_G) (a : Nat → ClassId) (h0 : Nat) (r0 : Nat) (r1 : Nat) (r2 : Nat) (r3 : Nat) (hv : Nat) (r5 : Nat) (r6 : Nat) (x : Int32) (hbad : x < 0 ∨ 16 < x) (y : Int32) : ∀ sz : Nat, kTM l y_RA_coefficient (Cond.code y_RA_coefficient b_RA_coefficient 4 (some .int) :: wA) ({ frames := 6, cells := 1, slots := 6, locals := 89 } : Room) (va_Pc [.ref h0, .int x, .int y] (kP D a [(h0, .inr (0, [.ref r0, .ref r1, .ref r2, .ref r3, .ref hv, .ref r5, .ref r6, .int 0, .int 0, .int (-1), .int 0]))] sz)) D a "java/lang/IllegalArgumentException" [(h0, .inr (0, [.ref r0, .ref r1, .ref r2, .ref r3, .ref hv, .ref r5, .ref r6, .int 0, .int 0, .int (-1), .int 0]))] (va_A [(h0, .inr (0, [.ref r0, .ref r1, .ref r2, .ref r3, .ref hv, .ref r5, .ref r6, .int 0, .int 0, .int (-1), .int 0]))] sz) 1 6 :=
  kTM_begin (by decide) (Nat.le_of_ble_eq_true rfl) (by
    intro p e s m below meth c A ls H locs E hlk htab w hl
    have hx := E.1.1
    have hb := E.1.2.1
    have E : kE p m c b_RA_coefficient 4 s [.ref h0, .int x, .int y].toArray "RootAlgebra" D a A := E
    have hl : lv_has ls 4 [(0, .ref h0), (1, .int x), (2, .int y)] := hl
    refine lv_aload_n hx hb d_RA_coefficient_0 rfl (lv_at hl 0 rfl) ?_
    refine lv_iload_n hx hb d_RA_coefficient_1 rfl (lv_at hl 1 rfl) ?_
    refine kx_i E w (wc := []) (wr := [(h0, .inr (0, [.ref r0, .ref r1, .ref r2, .ref r3, .ref hv, .ref r5, .ref r6, .int 0, .int 0, .int (-1), .int 0]))]) [] [0] rfl rfl ⟨rfl, rfl, by decide⟩ (kx_rV E w hl.1 (As := [.int x]) (wc := []) (c_RA_isName0 l D a h0 x hbad H.size) gc_22 gv_RA_isName (kRecv E w 0 0 rfl rfl) [] rfl rfl rfl rfl rfl ⟨(Nat.le_of_ble_eq_true rfl), (Nat.le_of_ble_eq_true rfl)⟩ rfl (Nat.le_of_ble_eq_true rfl) d_RA_coefficient_2 ⟨(Nat.le_of_ble_eq_true rfl), (Nat.le_of_ble_eq_true rfl)⟩) (fun rr u H locs hu w => ?_)
    obtain ⟨rfl, rfl⟩ := hu
    have w : kW D A s [(h0, .inr (0, [.ref r0, .ref r1, .ref r2, .ref r3, .ref hv, .ref r5, .ref r6, .int 0, .int 0, .int (-1), .int 0]))] H locs := w
    refine lv_if_ne (tgt := 16) hx hb d_RA_coefficient_5 (by decide) (fun h => absurd (by decide) h) (fun _ => ?_)
    exact kt_throw (names := zEN) E w hl.1 hl9 htab hlk ⟨by decide, by decide⟩ mw_440 mw_441 ga_0 E.2.1.2.2.2.2.1 d_RA_coefficient_8 d_RA_coefficient_11 d_RA_coefficient_12 d_RA_coefficient_15 (Nat.le_of_ble_eq_true rfl) (Nat.le_of_ble_eq_true rfl) (Nat.le_of_ble_eq_true rfl) (Nat.le_of_ble_eq_true rfl) (Nat.le_of_ble_eq_true rfl) (Nat.le_of_ble_eq_true rfl))
set_option maxRecDepth 100000 in
set_option maxHeartbeats 4000000 in
theorem t_RA_index_bad (l : Launch) (hl9 : l.stackTraces = false) (D : va_G) (a : Nat → ClassId) (h0 : Nat) (r0 : Nat) (r1 : Nat) (r2 : Nat) (r3 : Nat) (hv : Nat) (r5 : Nat) (r6 : Nat) (x : Int32) (hbad : x < 0 ∨ 16 < x) : ∀ sz : Nat, kTM l y_RA_index (Cond.code y_RA_index b_RA_index 2 (some .int) :: wA) ({ frames := 6, cells := 1, slots := 6, locals := 89 } : Room) (va_Pc [.ref h0, .int x] (kP D a [(h0, .inr (0, [.ref r0, .ref r1, .ref r2, .ref r3, .ref hv, .ref r5, .ref r6, .int 0, .int 0, .int (-1), .int 0]))] sz)) D a "java/lang/IllegalArgumentException" [(h0, .inr (0, [.ref r0, .ref r1, .ref r2, .ref r3, .ref hv, .ref r5, .ref r6, .int 0, .int 0, .int (-1), .int 0]))] (va_A [(h0, .inr (0, [.ref r0, .ref r1, .ref r2, .ref r3, .ref hv, .ref r5, .ref r6, .int 0, .int 0, .int (-1), .int 0]))] sz) 1 6 :=
  kTM_begin (by decide) (Nat.le_of_ble_eq_true rfl) (by
    intro p e s m below meth c A ls H locs E hlk htab w hl
    have hx := E.1.1
    have hb := E.1.2.1
    have E : kE p m c b_RA_index 2 s [.ref h0, .int x].toArray "RootAlgebra" D a A := E
    have hl : lv_has ls 2 [(0, .ref h0), (1, .int x)] := hl
    refine lv_aload_n hx hb d_RA_index_0 rfl (lv_at hl 0 rfl) ?_
    refine lv_iload_n hx hb d_RA_index_1 rfl (lv_at hl 1 rfl) ?_
    refine kx_i E w (wc := []) (wr := [(h0, .inr (0, [.ref r0, .ref r1, .ref r2, .ref r3, .ref hv, .ref r5, .ref r6, .int 0, .int 0, .int (-1), .int 0]))]) [] [0] rfl rfl ⟨rfl, rfl, by decide⟩ (kx_rV E w hl.1 (As := [.int x]) (wc := []) (c_RA_isName0 l D a h0 x hbad H.size) gc_22 gv_RA_isName (kRecv E w 0 0 rfl rfl) [] rfl rfl rfl rfl rfl ⟨(Nat.le_of_ble_eq_true rfl), (Nat.le_of_ble_eq_true rfl)⟩ rfl (Nat.le_of_ble_eq_true rfl) d_RA_index_2 ⟨(Nat.le_of_ble_eq_true rfl), (Nat.le_of_ble_eq_true rfl)⟩) (fun rr u H locs hu w => ?_)
    obtain ⟨rfl, rfl⟩ := hu
    have w : kW D A s [(h0, .inr (0, [.ref r0, .ref r1, .ref r2, .ref r3, .ref hv, .ref r5, .ref r6, .int 0, .int 0, .int (-1), .int 0]))] H locs := w
    refine lv_if_ne (tgt := 16) hx hb d_RA_index_5 (by decide) (fun h => absurd (by decide) h) (fun _ => ?_)
    exact kt_throw (names := zEN) E w hl.1 hl9 htab hlk ⟨by decide, by decide⟩ mw_440 mw_441 ga_0 E.2.1.2.2.2.2.1 d_RA_index_8 d_RA_index_11 d_RA_index_12 d_RA_index_15 (Nat.le_of_ble_eq_true rfl) (Nat.le_of_ble_eq_true rfl) (Nat.le_of_ble_eq_true rfl) (Nat.le_of_ble_eq_true rfl) (Nat.le_of_ble_eq_true rfl) (Nat.le_of_ble_eq_true rfl))
set_option maxRecDepth 100000 in
set_option maxHeartbeats 4000000 in
theorem t_RA_roots_bad (l : Launch) (hl9 : l.stackTraces = false) (D : va_G) (a : Nat → ClassId) (h0 : Nat) (r0 : Nat) (r1 : Nat) (r2 : Nat) (r3 : Nat) (hv : Nat) (r5 : Nat) (r6 : Nat) (x : Int32) (hbad : x < 0 ∨ 16 < x) : ∀ sz : Nat, kTM l y_RA_roots (Cond.code y_RA_roots b_RA_roots 2 (some .int) :: wA) ({ frames := 6, cells := 1, slots := 6, locals := 89 } : Room) (va_Pc [.ref h0, .int x] (kP D a [(h0, .inr (0, [.ref r0, .ref r1, .ref r2, .ref r3, .ref hv, .ref r5, .ref r6, .int 0, .int 0, .int (-1), .int 0]))] sz)) D a "java/lang/IllegalArgumentException" [(h0, .inr (0, [.ref r0, .ref r1, .ref r2, .ref r3, .ref hv, .ref r5, .ref r6, .int 0, .int 0, .int (-1), .int 0]))] (va_A [(h0, .inr (0, [.ref r0, .ref r1, .ref r2, .ref r3, .ref hv, .ref r5, .ref r6, .int 0, .int 0, .int (-1), .int 0]))] sz) 1 6 :=
  kTM_begin (by decide) (Nat.le_of_ble_eq_true rfl) (by
    intro p e s m below meth c A ls H locs E hlk htab w hl
    have hx := E.1.1
    have hb := E.1.2.1
    have E : kE p m c b_RA_roots 2 s [.ref h0, .int x].toArray "RootAlgebra" D a A := E
    have hl : lv_has ls 2 [(0, .ref h0), (1, .int x)] := hl
    refine lv_aload_n hx hb d_RA_roots_0 rfl (lv_at hl 0 rfl) ?_
    refine lv_iload_n hx hb d_RA_roots_1 rfl (lv_at hl 1 rfl) ?_
    refine kx_i E w (wc := []) (wr := [(h0, .inr (0, [.ref r0, .ref r1, .ref r2, .ref r3, .ref hv, .ref r5, .ref r6, .int 0, .int 0, .int (-1), .int 0]))]) [] [0] rfl rfl ⟨rfl, rfl, by decide⟩ (kx_rV E w hl.1 (As := [.int x]) (wc := []) (c_RA_isName0 l D a h0 x hbad H.size) gc_22 gv_RA_isName (kRecv E w 0 0 rfl rfl) [] rfl rfl rfl rfl rfl ⟨(Nat.le_of_ble_eq_true rfl), (Nat.le_of_ble_eq_true rfl)⟩ rfl (Nat.le_of_ble_eq_true rfl) d_RA_roots_2 ⟨(Nat.le_of_ble_eq_true rfl), (Nat.le_of_ble_eq_true rfl)⟩) (fun rr u H locs hu w => ?_)
    obtain ⟨rfl, rfl⟩ := hu
    have w : kW D A s [(h0, .inr (0, [.ref r0, .ref r1, .ref r2, .ref r3, .ref hv, .ref r5, .ref r6, .int 0, .int 0, .int (-1), .int 0]))] H locs := w
    refine lv_if_ne (tgt := 16) hx hb d_RA_roots_5 (by decide) (fun h => absurd (by decide) h) (fun _ => ?_)
    exact kt_throw (names := zEN) E w hl.1 hl9 htab hlk ⟨by decide, by decide⟩ mw_440 mw_441 ga_0 E.2.1.2.2.2.2.1 d_RA_roots_8 d_RA_roots_11 d_RA_roots_12 d_RA_roots_15 (Nat.le_of_ble_eq_true rfl) (Nat.le_of_ble_eq_true rfl) (Nat.le_of_ble_eq_true rfl) (Nat.le_of_ble_eq_true rfl) (Nat.le_of_ble_eq_true rfl) (Nat.le_of_ble_eq_true rfl))
set_option maxRecDepth 100000 in
set_option maxHeartbeats 4000000 in
theorem t_RA_compare_bad (l : Launch) (hl9 : l.stackTraces = false) (D : va_G) (a : Nat → ClassId) (h0 : Nat) (r0 : Nat) (r1 : Nat) (r2 : Nat) (r3 : Nat) (hv : Nat) (r5 : Nat) (r6 : Nat) (x : Int32) (hbad : x < 0 ∨ 16 < x) (y : Int32) : ∀ sz : Nat, kTM l y_RA_compare (Cond.code y_RA_compare b_RA_compare 3 (some .int) :: wA) ({ frames := 6, cells := 1, slots := 6, locals := 89 } : Room) (va_Pc [.ref h0, .int x, .int y] (kP D a [(h0, .inr (0, [.ref r0, .ref r1, .ref r2, .ref r3, .ref hv, .ref r5, .ref r6, .int 0, .int 0, .int (-1), .int 0]))] sz)) D a "java/lang/IllegalArgumentException" [(h0, .inr (0, [.ref r0, .ref r1, .ref r2, .ref r3, .ref hv, .ref r5, .ref r6, .int 0, .int 0, .int (-1), .int 0]))] (va_A [(h0, .inr (0, [.ref r0, .ref r1, .ref r2, .ref r3, .ref hv, .ref r5, .ref r6, .int 0, .int 0, .int (-1), .int 0]))] sz) 1 6 :=
  kTM_begin (by decide) (Nat.le_of_ble_eq_true rfl) (by
    intro p e s m below meth c A ls H locs E hlk htab w hl
    have hx := E.1.1
    have hb := E.1.2.1
    have E : kE p m c b_RA_compare 3 s [.ref h0, .int x, .int y].toArray "RootAlgebra" D a A := E
    have hl : lv_has ls 3 [(0, .ref h0), (1, .int x), (2, .int y)] := hl
    refine lv_aload_n hx hb d_RA_compare_0 rfl (lv_at hl 0 rfl) ?_
    refine lv_iload_n hx hb d_RA_compare_1 rfl (lv_at hl 1 rfl) ?_
    refine kx_i E w (wc := []) (wr := [(h0, .inr (0, [.ref r0, .ref r1, .ref r2, .ref r3, .ref hv, .ref r5, .ref r6, .int 0, .int 0, .int (-1), .int 0]))]) [] [0] rfl rfl ⟨rfl, rfl, by decide⟩ (kx_rV E w hl.1 (As := [.int x]) (wc := []) (c_RA_isName0 l D a h0 x hbad H.size) gc_22 gv_RA_isName (kRecv E w 0 0 rfl rfl) [] rfl rfl rfl rfl rfl ⟨(Nat.le_of_ble_eq_true rfl), (Nat.le_of_ble_eq_true rfl)⟩ rfl (Nat.le_of_ble_eq_true rfl) d_RA_compare_2 ⟨(Nat.le_of_ble_eq_true rfl), (Nat.le_of_ble_eq_true rfl)⟩) (fun rr u H locs hu w => ?_)
    obtain ⟨rfl, rfl⟩ := hu
    have w : kW D A s [(h0, .inr (0, [.ref r0, .ref r1, .ref r2, .ref r3, .ref hv, .ref r5, .ref r6, .int 0, .int 0, .int (-1), .int 0]))] H locs := w
    refine lv_if_eq (tgt := 16) hx hb d_RA_compare_5 (by decide) (fun _ => ?_) (fun h => absurd (by decide) h)
    exact kt_throw (names := zEN) E w hl.1 hl9 htab hlk ⟨by decide, by decide⟩ mw_440 mw_441 ga_0 E.2.1.2.2.2.2.1 d_RA_compare_16 d_RA_compare_19 d_RA_compare_20 d_RA_compare_23 (Nat.le_of_ble_eq_true rfl) (Nat.le_of_ble_eq_true rfl) (Nat.le_of_ble_eq_true rfl) (Nat.le_of_ble_eq_true rfl) (Nat.le_of_ble_eq_true rfl) (Nat.le_of_ble_eq_true rfl))
