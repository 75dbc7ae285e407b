/-! laid by program (wip/gen) -/
set_option maxRecDepth 100000 in
set_option maxHeartbeats 4000000 in
theorem h_look1 (l : Launch) (D : va_G) (a : Nat → ClassId) (h0 : Nat) (r0 : Nat) (r1 : Nat) (r2 : Nat) (r3 : Nat) (hv : Nat) (r5 : Nat) (r6 : Nat) (ho : Nat) (fo : Nat → Int64) : ∀ sz : Nat, Met l y_Law_look (Cond.codeWith y_Law_look b_Law_look 4 (some .int) [(0, 9, 12, 13)] :: wA) ({ frames := 1, cells := 0, slots := 0, locals := 21 } : Room) (va_Pc [.ref h0, .int 1, .ref ho] (kP D a [(h0, .inr (0, [.ref r0, .ref r1, .ref r2, .ref r3, .ref hv, .ref r5, .ref r6, .int 0, .int 0, .int (-1), .int 0])), (ho, .inl (a 1, 1, .inr (.inl fo)))] sz)) (va_Qi (fun (rr : Int32) (u : va_W) => rr = 0 ∧ u = [(ho, .inl (a 1, 1, .inr (.inl (vp_updL fo 0 (-1))))), (h0, .inr (0, [.ref r0, .ref r1, .ref r2, .ref r3, .ref hv, .ref r5, .ref r6, .int 0, .int 0, .int (-1), .int 0]))]) (kB D a (va_A [(h0, .inr (0, [.ref r0, .ref r1, .ref r2, .ref r3, .ref hv, .ref r5, .ref r6, .int 0, .int 0, .int (-1), .int 0])), (ho, .inl (a 1, 1, .inr (.inl fo)))] sz)) (va_A [(h0, .inr (0, [.ref r0, .ref r1, .ref r2, .ref r3, .ref hv, .ref r5, .ref r6, .int 0, .int 0, .int (-1), .int 0])), (ho, .inl (a 1, 1, .inr (.inl fo)))] sz)) 0 0 (va_A [(h0, .inr (0, [.ref r0, .ref r1, .ref r2, .ref r3, .ref hv, .ref r5, .ref r6, .int 0, .int 0, .int (-1), .int 0])), (ho, .inl (a 1, 1, .inr (.inl fo)))] sz) :=
  kMW (Qc := fun A => va_Qi (fun (rr : Int32) (u : va_W) => rr = 0 ∧ u = [(ho, .inl (a 1, 1, .inr (.inl (vp_updL fo 0 (-1))))), (h0, .inr (0, [.ref r0, .ref r1, .ref r2, .ref r3, .ref hv, .ref r5, .ref r6, .int 0, .int 0, .int (-1), .int 0]))]) (kB D a A) A) (by decide) (Nat.le_of_ble_eq_true rfl) (by
    intro p e s m below meth c A ls H locs E hr hlk htab w hl
    have hx := E.1.1
    have hb := E.1.2.1
    have E : kE p m c b_Law_look 4 s [.ref h0, .int 1, .ref ho].toArray "RootAlgebraLaw" D a A := E
    have hl : lv_has ls 4 [(0, .ref h0), (1, .int 1), (2, .ref ho)] := hl
    refine lv_aload_n hx hb d_Law_look_0 rfl (lv_at hl 2 rfl) ?_
    refine lv_iconst (v := 0) hx hb d_Law_look_1 (by decide) ?_
    refine lv_aload_n hx hb d_Law_look_2 rfl (lv_at hl 0 rfl) ?_
    refine lv_iload_n hx hb d_Law_look_3 rfl (lv_at hl 1 rfl) ?_
    refine kx_i E w (wc := [(h0, .inr (0, [.ref r0, .ref r1, .ref r2, .ref r3, .ref hv, .ref r5, .ref r6, .int 0, .int 0, .int (-1), .int 0]))]) (wr := [(ho, .inl (a 1, 1, .inr (.inl fo)))]) [0] [1] rfl rfl ⟨rfl, rfl, by decide⟩ (kx_rV E w hl.1 (As := [.int 1]) (wc := [(h0, .inr (0, [.ref r0, .ref r1, .ref r2, .ref r3, .ref hv, .ref r5, .ref r6, .int 0, .int 0, .int (-1), .int 0]))]) (c_RA_look1 l D a h0 r0 r1 r2 r3 hv r5 r6 H.size) gc_64 gv_RA_look (kRecv E w 0 0 rfl rfl) [0] rfl rfl rfl rfl rfl ⟨(Nat.le_of_ble_eq_true rfl), (Nat.le_of_ble_eq_true rfl)⟩ rfl (Nat.le_of_ble_eq_true rfl) d_Law_look_4 ⟨(Nat.le_of_ble_eq_true rfl), (Nat.le_of_ble_eq_true rfl)⟩) (fun rr u H locs hu w => ?_)
    obtain ⟨rfl, rfl⟩ := hu
    have w : kW D A s [(ho, .inl (a 1, 1, .inr (.inl fo))), (h0, .inr (0, [.ref r0, .ref r1, .ref r2, .ref r3, .ref hv, .ref r5, .ref r6, .int 0, .int 0, .int (-1), .int 0]))] H locs := w
    refine lv_i2l (v := (-1)) hx hb d_Law_look_7 (by decide) ?_
    refine kx_last E w 0 rfl (by unfold vp_in; decide) 0 (by decide) d_Law_look_8 (ws' := [(ho, .inl (a 1, 1, .inr (.inl (vp_updL fo 0 (-1))))), (h0, .inr (0, [.ref r0, .ref r1, .ref r2, .ref r3, .ref hv, .ref r5, .ref r6, .int 0, .int 0, .int (-1), .int 0]))]) rfl (fun H locs w => ?_)
    refine lv_goto (tgt := 15) hx hb d_Law_look_9 (by decide) ?_
    refine lv_iconst (v := 0) hx hb d_Law_look_15 (by decide) ?_
    refine W.widen (k := 0) (n := 0) (Nat.le_of_ble_eq_true rfl) (Nat.le_of_ble_eq_true rfl) ?_
    exact kx_iret E w hr hlk d_Law_look_16 (v := 0) ⟨rfl, rfl⟩)
set_option maxRecDepth 100000 in
set_option maxHeartbeats 4000000 in
theorem h_look2 (l : Launch) (D : va_G) (a : Nat → ClassId) (h0 : Nat) (r0 : Nat) (r1 : Nat) (r2 : Nat) (r3 : Nat) (hv : Nat) (r5 : Nat) (r6 : Nat) (ho : Nat) (fo : Nat → Int64) : ∀ sz : Nat, Met l y_Law_look (Cond.codeWith y_Law_look b_Law_look 4 (some .int) [(0, 9, 12, 13)] :: wA) ({ frames := 1, cells := 0, slots := 0, locals := 21 } : Room) (va_Pc [.ref h0, .int 2, .ref ho] (kP D a [(h0, .inr (0, [.ref r0, .ref r1, .ref r2, .ref r3, .ref hv, .ref r5, .ref r6, .int 0, .int 0, .int (-1), .int 0])), (ho, .inl (a 1, 1, .inr (.inl fo)))] sz)) (va_Qi (fun (rr : Int32) (u : va_W) => rr = 0 ∧ u = [(ho, .inl (a 1, 1, .inr (.inl (vp_updL fo 0 0)))), (h0, .inr (0, [.ref r0, .ref r1, .ref r2, .ref r3, .ref hv, .ref r5, .ref r6, .int 0, .int 0, .int (-1), .int 0]))]) (kB D a (va_A [(h0, .inr (0, [.ref r0, .ref r1, .ref r2, .ref r3, .ref hv, .ref r5, .ref r6, .int 0, .int 0, .int (-1), .int 0])), (ho, .inl (a 1, 1, .inr (.inl fo)))] sz)) (va_A [(h0, .inr (0, [.ref r0, .ref r1, .ref r2, .ref r3, .ref hv, .ref r5, .ref r6, .int 0, .int 0, .int (-1), .int 0])), (ho, .inl (a 1, 1, .inr (.inl fo)))] sz)) 0 0 (va_A [(h0, .inr (0, [.ref r0, .ref r1, .ref r2, .ref r3, .ref hv, .ref r5, .ref r6, .int 0, .int 0, .int (-1), .int 0])), (ho, .inl (a 1, 1, .inr (.inl fo)))] sz) :=
  kMW (Qc := fun A => va_Qi (fun (rr : Int32) (u : va_W) => rr = 0 ∧ u = [(ho, .inl (a 1, 1, .inr (.inl (vp_updL fo 0 0)))), (h0, .inr (0, [.ref r0, .ref r1, .ref r2, .ref r3, .ref hv, .ref r5, .ref r6, .int 0, .int 0, .int (-1), .int 0]))]) (kB D a A) A) (by decide) (Nat.le_of_ble_eq_true rfl) (by
    intro p e s m below meth c A ls H locs E hr hlk htab w hl
    have hx := E.1.1
    have hb := E.1.2.1
    have E : kE p m c b_Law_look 4 s [.ref h0, .int 2, .ref ho].toArray "RootAlgebraLaw" D a A := E
    have hl : lv_has ls 4 [(0, .ref h0), (1, .int 2), (2, .ref ho)] := hl
    refine lv_aload_n hx hb d_Law_look_0 rfl (lv_at hl 2 rfl) ?_
    refine lv_iconst (v := 0) hx hb d_Law_look_1 (by decide) ?_
    refine lv_aload_n hx hb d_Law_look_2 rfl (lv_at hl 0 rfl) ?_
    refine lv_iload_n hx hb d_Law_look_3 rfl (lv_at hl 1 rfl) ?_
    refine kx_i E w (wc := [(h0, .inr (0, [.ref r0, .ref r1, .ref r2, .ref r3, .ref hv, .ref r5, .ref r6, .int 0, .int 0, .int (-1), .int 0]))]) (wr := [(ho, .inl (a 1, 1, .inr (.inl fo)))]) [0] [1] rfl rfl ⟨rfl, rfl, by decide⟩ (kx_rV E w hl.1 (As := [.int 2]) (wc := [(h0, .inr (0, [.ref r0, .ref r1, .ref r2, .ref r3, .ref hv, .ref r5, .ref r6, .int 0, .int 0, .int (-1), .int 0]))]) (c_RA_look2 l D a h0 r0 r1 r2 r3 hv r5 r6 H.size) gc_64 gv_RA_look (kRecv E w 0 0 rfl rfl) [0] rfl rfl rfl rfl rfl ⟨(Nat.le_of_ble_eq_true rfl), (Nat.le_of_ble_eq_true rfl)⟩ rfl (Nat.le_of_ble_eq_true rfl) d_Law_look_4 ⟨(Nat.le_of_ble_eq_true rfl), (Nat.le_of_ble_eq_true rfl)⟩) (fun rr u H locs hu w => ?_)
    obtain ⟨rfl, rfl⟩ := hu
    have w : kW D A s [(ho, .inl (a 1, 1, .inr (.inl fo))), (h0, .inr (0, [.ref r0, .ref r1, .ref r2, .ref r3, .ref hv, .ref r5, .ref r6, .int 0, .int 0, .int (-1), .int 0]))] H locs := w
    refine lv_i2l (v := 0) hx hb d_Law_look_7 (by decide) ?_
    refine kx_last E w 0 rfl (by unfold vp_in; decide) 0 (by decide) d_Law_look_8 (ws' := [(ho, .inl (a 1, 1, .inr (.inl (vp_updL fo 0 0)))), (h0, .inr (0, [.ref r0, .ref r1, .ref r2, .ref r3, .ref hv, .ref r5, .ref r6, .int 0, .int 0, .int (-1), .int 0]))]) rfl (fun H locs w => ?_)
    refine lv_goto (tgt := 15) hx hb d_Law_look_9 (by decide) ?_
    refine lv_iconst (v := 0) hx hb d_Law_look_15 (by decide) ?_
    refine W.widen (k := 0) (n := 0) (Nat.le_of_ble_eq_true rfl) (Nat.le_of_ble_eq_true rfl) ?_
    exact kx_iret E w hr hlk d_Law_look_16 (v := 0) ⟨rfl, rfl⟩)
set_option maxRecDepth 100000 in
set_option maxHeartbeats 4000000 in
theorem h_look3 (l : Launch) (D : va_G) (a : Nat → ClassId) (h0 : Nat) (r0 : Nat) (r1 : Nat) (r2 : Nat) (r3 : Nat) (hv : Nat) (r5 : Nat) (r6 : Nat) (ho : Nat) (fo : Nat → Int64) : ∀ sz : Nat, Met l y_Law_look (Cond.codeWith y_Law_look b_Law_look 4 (some .int) [(0, 9, 12, 13)] :: wA) ({ frames := 1, cells := 0, slots := 0, locals := 21 } : Room) (va_Pc [.ref h0, .int 3, .ref ho] (kP D a [(h0, .inr (0, [.ref r0, .ref r1, .ref r2, .ref r3, .ref hv, .ref r5, .ref r6, .int 0, .int 0, .int (-1), .int 0])), (ho, .inl (a 1, 1, .inr (.inl fo)))] sz)) (va_Qi (fun (rr : Int32) (u : va_W) => rr = 0 ∧ u = [(ho, .inl (a 1, 1, .inr (.inl (vp_updL fo 0 0)))), (h0, .inr (0, [.ref r0, .ref r1, .ref r2, .ref r3, .ref hv, .ref r5, .ref r6, .int 0, .int 0, .int (-1), .int 0]))]) (kB D a (va_A [(h0, .inr (0, [.ref r0, .ref r1, .ref r2, .ref r3, .ref hv, .ref r5, .ref r6, .int 0, .int 0, .int (-1), .int 0])), (ho, .inl (a 1, 1, .inr (.inl fo)))] sz)) (va_A [(h0, .inr (0, [.ref r0, .ref r1, .ref r2, .ref r3, .ref hv, .ref r5, .ref r6, .int 0, .int 0, .int (-1), .int 0])), (ho, .inl (a 1, 1, .inr (.inl fo)))] sz)) 0 0 (va_A [(h0, .inr (0, [.ref r0, .ref r1, .ref r2, .ref r3, .ref hv, .ref r5, .ref r6, .int 0, .int 0, .int (-1), .int 0])), (ho, .inl (a 1, 1, .inr (.inl fo)))] sz) :=
  kMW (Qc := fun A => va_Qi (fun (rr : Int32) (u : va_W) => rr = 0 ∧ u = [(ho, .inl (a 1, 1, .inr (.inl (vp_updL fo 0 0)))), (h0, .inr (0, [.ref r0, .ref r1, .ref r2, .ref r3, .ref hv, .ref r5, .ref r6, .int 0, .int 0, .int (-1), .int 0]))]) (kB D a A) A) (by decide) (Nat.le_of_ble_eq_true rfl) (by
    intro p e s m below meth c A ls H locs E hr hlk htab w hl
    have hx := E.1.1
    have hb := E.1.2.1
    have E : kE p m c b_Law_look 4 s [.ref h0, .int 3, .ref ho].toArray "RootAlgebraLaw" D a A := E
    have hl : lv_has ls 4 [(0, .ref h0), (1, .int 3), (2, .ref ho)] := hl
    refine lv_aload_n hx hb d_Law_look_0 rfl (lv_at hl 2 rfl) ?_
    refine lv_iconst (v := 0) hx hb d_Law_look_1 (by decide) ?_
    refine lv_aload_n hx hb d_Law_look_2 rfl (lv_at hl 0 rfl) ?_
    refine lv_iload_n hx hb d_Law_look_3 rfl (lv_at hl 1 rfl) ?_
    refine kx_i E w (wc := [(h0, .inr (0, [.ref r0, .ref r1, .ref r2, .ref r3, .ref hv, .ref r5, .ref r6, .int 0, .int 0, .int (-1), .int 0]))]) (wr := [(ho, .inl (a 1, 1, .inr (.inl fo)))]) [0] [1] rfl rfl ⟨rfl, rfl, by decide⟩ (kx_rV E w hl.1 (As := [.int 3]) (wc := [(h0, .inr (0, [.ref r0, .ref r1, .ref r2, .ref r3, .ref hv, .ref r5, .ref r6, .int 0, .int 0, .int (-1), .int 0]))]) (c_RA_look3 l D a h0 r0 r1 r2 r3 hv r5 r6 H.size) gc_64 gv_RA_look (kRecv E w 0 0 rfl rfl) [0] rfl rfl rfl rfl rfl ⟨(Nat.le_of_ble_eq_true rfl), (Nat.le_of_ble_eq_true rfl)⟩ rfl (Nat.le_of_ble_eq_true rfl) d_Law_look_4 ⟨(Nat.le_of_ble_eq_true rfl), (Nat.le_of_ble_eq_true rfl)⟩) (fun rr u H locs hu w => ?_)
    obtain ⟨rfl, rfl⟩ := hu
    have w : kW D A s [(ho, .inl (a 1, 1, .inr (.inl fo))), (h0, .inr (0, [.ref r0, .ref r1, .ref r2, .ref r3, .ref hv, .ref r5, .ref r6, .int 0, .int 0, .int (-1), .int 0]))] H locs := w
    refine lv_i2l (v := 0) hx hb d_Law_look_7 (by decide) ?_
    refine kx_last E w 0 rfl (by unfold vp_in; decide) 0 (by decide) d_Law_look_8 (ws' := [(ho, .inl (a 1, 1, .inr (.inl (vp_updL fo 0 0)))), (h0, .inr (0, [.ref r0, .ref r1, .ref r2, .ref r3, .ref hv, .ref r5, .ref r6, .int 0, .int 0, .int (-1), .int 0]))]) rfl (fun H locs w => ?_)
    refine lv_goto (tgt := 15) hx hb d_Law_look_9 (by decide) ?_
    refine lv_iconst (v := 0) hx hb d_Law_look_15 (by decide) ?_
    refine W.widen (k := 0) (n := 0) (Nat.le_of_ble_eq_true rfl) (Nat.le_of_ble_eq_true rfl) ?_
    exact kx_iret E w hr hlk d_Law_look_16 (v := 0) ⟨rfl, rfl⟩)
set_option maxRecDepth 100000 in
set_option maxHeartbeats 4000000 in
theorem h_look4 (l : Launch) (D : va_G) (a : Nat → ClassId) (h0 : Nat) (r0 : Nat) (r1 : Nat) (r2 : Nat) (r3 : Nat) (hv : Nat) (r5 : Nat) (r6 : Nat) (ho : Nat) (fo : Nat → Int64) : ∀ sz : Nat, Met l y_Law_look (Cond.codeWith y_Law_look b_Law_look 4 (some .int) [(0, 9, 12, 13)] :: wA) ({ frames := 1, cells := 0, slots := 0, locals := 21 } : Room) (va_Pc [.ref h0, .int 4, .ref ho] (kP D a [(h0, .inr (0, [.ref r0, .ref r1, .ref r2, .ref r3, .ref hv, .ref r5, .ref r6, .int 0, .int 0, .int (-1), .int 0])), (ho, .inl (a 1, 1, .inr (.inl fo)))] sz)) (va_Qi (fun (rr : Int32) (u : va_W) => rr = 0 ∧ u = [(ho, .inl (a 1, 1, .inr (.inl (vp_updL fo 0 0)))), (h0, .inr (0, [.ref r0, .ref r1, .ref r2, .ref r3, .ref hv, .ref r5, .ref r6, .int 0, .int 0, .int (-1), .int 0]))]) (kB D a (va_A [(h0, .inr (0, [.ref r0, .ref r1, .ref r2, .ref r3, .ref hv, .ref r5, .ref r6, .int 0, .int 0, .int (-1), .int 0])), (ho, .inl (a 1, 1, .inr (.inl fo)))] sz)) (va_A [(h0, .inr (0, [.ref r0, .ref r1, .ref r2, .ref r3, .ref hv, .ref r5, .ref r6, .int 0, .int 0, .int (-1), .int 0])), (ho, .inl (a 1, 1, .inr (.inl fo)))] sz)) 0 0 (va_A [(h0, .inr (0, [.ref r0, .ref r1, .ref r2, .ref r3, .ref hv, .ref r5, .ref r6, .int 0, .int 0, .int (-1), .int 0])), (ho, .inl (a 1, 1, .inr (.inl fo)))] sz) :=
  kMW (Qc := fun A => va_Qi (fun (rr : Int32) (u : va_W) => rr = 0 ∧ u = [(ho, .inl (a 1, 1, .inr (.inl (vp_updL fo 0 0)))), (h0, .inr (0, [.ref r0, .ref r1, .ref r2, .ref r3, .ref hv, .ref r5, .ref r6, .int 0, .int 0, .int (-1), .int 0]))]) (kB D a A) A) (by decide) (Nat.le_of_ble_eq_true rfl) (by
    intro p e s m below meth c A ls H locs E hr hlk htab w hl
    have hx := E.1.1
    have hb := E.1.2.1
    have E : kE p m c b_Law_look 4 s [.ref h0, .int 4, .ref ho].toArray "RootAlgebraLaw" D a A := E
    have hl : lv_has ls 4 [(0, .ref h0), (1, .int 4), (2, .ref ho)] := hl
    refine lv_aload_n hx hb d_Law_look_0 rfl (lv_at hl 2 rfl) ?_
    refine lv_iconst (v := 0) hx hb d_Law_look_1 (by decide) ?_
    refine lv_aload_n hx hb d_Law_look_2 rfl (lv_at hl 0 rfl) ?_
    refine lv_iload_n hx hb d_Law_look_3 rfl (lv_at hl 1 rfl) ?_
    refine kx_i E w (wc := [(h0, .inr (0, [.ref r0, .ref r1, .ref r2, .ref r3, .ref hv, .ref r5, .ref r6, .int 0, .int 0, .int (-1), .int 0]))]) (wr := [(ho, .inl (a 1, 1, .inr (.inl fo)))]) [0] [1] rfl rfl ⟨rfl, rfl, by decide⟩ (kx_rV E w hl.1 (As := [.int 4]) (wc := [(h0, .inr (0, [.ref r0, .ref r1, .ref r2, .ref r3, .ref hv, .ref r5, .ref r6, .int 0, .int 0, .int (-1), .int 0]))]) (c_RA_look4 l D a h0 r0 r1 r2 r3 hv r5 r6 H.size) gc_64 gv_RA_look (kRecv E w 0 0 rfl rfl) [0] rfl rfl rfl rfl rfl ⟨(Nat.le_of_ble_eq_true rfl), (Nat.le_of_ble_eq_true rfl)⟩ rfl (Nat.le_of_ble_eq_true rfl) d_Law_look_4 ⟨(Nat.le_of_ble_eq_true rfl), (Nat.le_of_ble_eq_true rfl)⟩) (fun rr u H locs hu w => ?_)
    obtain ⟨rfl, rfl⟩ := hu
    have w : kW D A s [(ho, .inl (a 1, 1, .inr (.inl fo))), (h0, .inr (0, [.ref r0, .ref r1, .ref r2, .ref r3, .ref hv, .ref r5, .ref r6, .int 0, .int 0, .int (-1), .int 0]))] H locs := w
    refine lv_i2l (v := 0) hx hb d_Law_look_7 (by decide) ?_
    refine kx_last E w 0 rfl (by unfold vp_in; decide) 0 (by decide) d_Law_look_8 (ws' := [(ho, .inl (a 1, 1, .inr (.inl (vp_updL fo 0 0)))), (h0, .inr (0, [.ref r0, .ref r1, .ref r2, .ref r3, .ref hv, .ref r5, .ref r6, .int 0, .int 0, .int (-1), .int 0]))]) rfl (fun H locs w => ?_)
    refine lv_goto (tgt := 15) hx hb d_Law_look_9 (by decide) ?_
    refine lv_iconst (v := 0) hx hb d_Law_look_15 (by decide) ?_
    refine W.widen (k := 0) (n := 0) (Nat.le_of_ble_eq_true rfl) (Nat.le_of_ble_eq_true rfl) ?_
    exact kx_iret E w hr hlk d_Law_look_16 (v := 0) ⟨rfl, rfl⟩)
set_option maxRecDepth 100000 in
set_option maxHeartbeats 4000000 in
theorem h_look_bad (l : Launch) (hl9 : l.stackTraces = false) (D : va_G) (a : Nat → ClassId) (h0 : Nat) (r0 : Nat) (r1 : Nat) (r2 : Nat) (r3 : Nat) (hv : Nat) (r5 : Nat) (r6 : Nat) (ho : Nat) (fo : Nat → Int64) (x : Int32) (hbad : x < 0 ∨ 4 < x) : ∀ sz : Nat, Met l y_Law_look (Cond.codeWith y_Law_look b_Law_look 4 (some .int) [(0, 9, 12, 13)] :: wA) ({ frames := 7, cells := 1, slots := 6, locals := 110 } : Room) (va_Pc [.ref h0, .int x, .ref ho] (kP D a [(h0, .inr (0, [.ref r0, .ref r1, .ref r2, .ref r3, .ref hv, .ref r5, .ref r6, .int 0, .int 0, .int (-1), .int 0])), (ho, .inl (a 1, 1, .inr (.inl fo)))] sz)) (va_Qi (fun (rr : Int32) (u : va_W) => rr = 1 ∧ u = [(ho, .inl (a 1, 1, .inr (.inl fo))), (h0, .inr (0, [.ref r0, .ref r1, .ref r2, .ref r3, .ref hv, .ref r5, .ref r6, .int 0, .int 0, .int (-1), .int 0]))]) (kB D a (va_A [(h0, .inr (0, [.ref r0, .ref r1, .ref r2, .ref r3, .ref hv, .ref r5, .ref r6, .int 0, .int 0, .int (-1), .int 0])), (ho, .inl (a 1, 1, .inr (.inl fo)))] sz)) (va_A [(h0, .inr (0, [.ref r0, .ref r1, .ref r2, .ref r3, .ref hv, .ref r5, .ref r6, .int 0, .int 0, .int (-1), .int 0])), (ho, .inl (a 1, 1, .inr (.inl fo)))] sz)) 1 6 (va_A [(h0, .inr (0, [.ref r0, .ref r1, .ref r2, .ref r3, .ref hv, .ref r5, .ref r6, .int 0, .int 0, .int (-1), .int 0])), (ho, .inl (a 1, 1, .inr (.inl fo)))] sz) :=
  kMW (Qc := fun A => va_Qi (fun (rr : Int32) (u : va_W) => rr = 1 ∧ u = [(ho, .inl (a 1, 1, .inr (.inl fo))), (h0, .inr (0, [.ref r0, .ref r1, .ref r2, .ref r3, .ref hv, .ref r5, .ref r6, .int 0, .int 0, .int (-1), .int 0]))]) (kB D a A) A) (by decide) (Nat.le_of_ble_eq_true rfl) (by
    intro p e s m below meth c A ls H locs E hr hlk htab w hl
    have hx := E.1.1
    have hb := E.1.2.1
    have E : kE p m c b_Law_look 4 s [.ref h0, .int x, .ref ho].toArray "RootAlgebraLaw" D a A := E
    have hl : lv_has ls 4 [(0, .ref h0), (1, .int x), (2, .ref ho)] := hl
    refine lv_aload_n hx hb d_Law_look_0 rfl (lv_at hl 2 rfl) ?_
    refine lv_iconst (v := 0) hx hb d_Law_look_1 (by decide) ?_
    refine lv_aload_n hx hb d_Law_look_2 rfl (lv_at hl 0 rfl) ?_
    refine lv_iload_n hx hb d_Law_look_3 rfl (lv_at hl 1 rfl) ?_
    refine kt_call E w hl.1 (As := [.int x]) (wc := [(h0, .inr (0, [.ref r0, .ref r1, .ref r2, .ref r3, .ref hv, .ref r5, .ref r6, .int 0, .int 0, .int (-1), .int 0]))]) (wr := [(ho, .inl (a 1, 1, .inr (.inl fo)))]) (t_RA_look l hl9 D a h0 r0 r1 r2 r3 hv r5 r6 x hbad H.size) gc_64 gv_RA_look (kRecv E w 0 0 rfl rfl) [0] [1] rfl rfl ⟨rfl, rfl, by decide⟩ rfl rfl rfl ⟨(Nat.le_of_ble_eq_true rfl), (Nat.le_of_ble_eq_true rfl)⟩ rfl (Nat.le_of_ble_eq_true rfl) d_Law_look_4 ⟨(Nat.le_of_ble_eq_true rfl), (Nat.le_of_ble_eq_true rfl)⟩ (fun ce q9 H locs w hce hcv hcl => ?_)
    have w : kW D A s [(ho, .inl (a 1, 1, .inr (.inl fo))), (h0, .inr (0, [.ref r0, .ref r1, .ref r2, .ref r3, .ref hv, .ref r5, .ref r6, .int 0, .int 0, .int (-1), .int 0]))] H locs := w
    refine kt_catch1 (X := "java/lang/IllegalArgumentException") E { startPc := 0, endPc := 9, handlerPc := 12, catchType := 13 } [] htab rfl (by decide) mw_448 E.2.1.2.2.2.2.1 hce hcv hcl ?_
    refine lv_astore_n (lv' := [(3, .ref q9), (0, .ref h0), (1, .int x), (2, .ref ho)]) hx hb d_Law_look_12 rfl hl (by decide) rfl (fun ls hl => ?_)
    refine lv_iconst (v := 1) hx hb d_Law_look_13 (by decide) ?_
    refine W.widen (k := 1) (n := 6) (Nat.le_of_ble_eq_true rfl) (Nat.le_of_ble_eq_true rfl) ?_
    exact kx_iret E w hr hlk d_Law_look_14 (v := 1) ⟨rfl, rfl⟩)
