/-! laid by program (wip/gen) -/
set_option maxRecDepth 100000 in
set_option maxHeartbeats 4000000 in
theorem c_Md_out (l : Launch) (D : va_G) (a : Nat → ClassId) (h0 : Nat) (r : Nat → Nat) (t0 : Int32) (t1 : Int32) (t3 : Int32) (t4 : Int32) (t5 : Int32) (t6 : Int32) (t7 : Int32) (t8 : Int32) (t9 : Int32) (x : Int32) : ∀ sz : Nat, Met l y_Md_out (Cond.code y_Md_out b_Md_out 5 (some .long) :: wA) ({ frames := 1, cells := 0, slots := 0, locals := 25 } : Room) (va_Pc [.ref h0, .int x] (kP D a [(h0, .inr (12, (mF r t0 t1 0 t3 t4 t5 t6 t7 t8 t9)))] sz)) (va_Ql (fun (rr : Int64) (u : va_W) => rr = 0 ∧ u = [(h0, .inr (12, (mF r 1 t1 0 t3 t4 t5 t6 t7 t8 t9)))]) (kB D a (va_A [(h0, .inr (12, (mF r t0 t1 0 t3 t4 t5 t6 t7 t8 t9)))] sz)) (va_A [(h0, .inr (12, (mF r t0 t1 0 t3 t4 t5 t6 t7 t8 t9)))] sz)) 0 0 (va_A [(h0, .inr (12, (mF r t0 t1 0 t3 t4 t5 t6 t7 t8 t9)))] sz) :=
  kM (Qc := fun A => va_Ql (fun (rr : Int64) (u : va_W) => rr = 0 ∧ u = [(h0, .inr (12, (mF r 1 t1 0 t3 t4 t5 t6 t7 t8 t9)))]) (kB D a A) A) (by decide) (Nat.le_of_ble_eq_true rfl) (by
    intro p e s m below meth c A ls H locs E hr hlk hnm w hl
    have hx := E.1.1
    have hb := E.1.2.1
    have E : kE p m c b_Md_out 5 s [.ref h0, .int x].toArray "RootAlgebraModel" D a A := E
    have hl : lv_has ls 5 [(0, .ref h0), (1, .int x)] := hl
    refine lv_aload_n hx hb d_Md_out_0 rfl (lv_at hl 0 rfl) ?_
    refine lv_iload_n hx hb d_Md_out_1 rfl (lv_at hl 1 rfl) ?_
    refine lv_i2l (v := x.toInt64) hx hb d_Md_out_2 rfl ?_
    refine lv_lconst (v := 0) hx hb d_Md_out_3 (by decide) ?_
    refine lv_aload_n hx hb d_Md_out_4 rfl (lv_at hl 0 rfl) ?_
    refine kx_get E w zC_Md 0 rfl 4 (by decide) mw_373 rfl d_Md_out_5 ?_
    refine lv_iconst (v := 1) hx hb d_Md_out_8 (by decide) ?_
    refine kx_isub (v := (-1)) hx hb d_Md_out_9 (by decide) ?_
    refine lv_i2l (v := (-1)) hx hb d_Md_out_10 (by decide) ?_
    refine kx_i E w (wc := []) (wr := [(h0, .inr (12, (mF r t0 t1 0 t3 t4 t5 t6 t7 t8 t9)))]) [] [0] rfl rfl ⟨rfl, rfl, by decide⟩ (kx_rS E w hl.1 (As := [.long x.toInt64, .long 0, .long (-1)]) (wc := []) (c_Md_in0 l D a x.toInt64 0 (-1) (kl_none x) H.size) gc_47 gs_Md_in [] rfl rfl rfl rfl rfl ⟨(Nat.le_of_ble_eq_true rfl), (Nat.le_of_ble_eq_true rfl)⟩ rfl (Nat.le_of_ble_eq_true rfl) d_Md_out_11 ⟨(Nat.le_of_ble_eq_true rfl), (Nat.le_of_ble_eq_true rfl)⟩) (fun rr u H locs hu w => ?_)
    obtain ⟨rfl, rfl⟩ := hu
    have w : kW D A s [(h0, .inr (12, (mF r t0 t1 0 t3 t4 t5 t6 t7 t8 t9)))] H locs := w
    refine lv_if_ne (tgt := 21) hx hb d_Md_out_14 (by decide) (fun h => absurd (by decide) h) (fun _ => ?_)
    refine lv_iconst (v := 1) hx hb d_Md_out_17 (by decide) ?_
    refine lv_goto (tgt := 22) hx hb d_Md_out_18 (by decide) ?_
    refine lv_iconst (v := 1) hx hb d_Md_out_22 (by decide) ?_
    refine kx_i E w (wc := [(h0, .inr (12, (mF r t0 t1 0 t3 t4 t5 t6 t7 t8 t9)))]) (wr := []) [0] [] rfl rfl ⟨rfl, rfl, by decide⟩ (kx_rV E w hl.1 (As := [.int 1, .int 1]) (wc := [(h0, .inr (12, (mF r t0 t1 0 t3 t4 t5 t6 t7 t8 t9)))]) (c_Md_fails11 l D a h0 r t0 t1 0 t3 t4 t5 t6 t7 t8 t9 H.size) gc_49 gv_Md_fails (kRecv E w 12 0 rfl rfl) [0] rfl rfl rfl rfl rfl ⟨(Nat.le_of_ble_eq_true rfl), (Nat.le_of_ble_eq_true rfl)⟩ rfl (Nat.le_of_ble_eq_true rfl) d_Md_out_23 ⟨(Nat.le_of_ble_eq_true rfl), (Nat.le_of_ble_eq_true rfl)⟩) (fun rr u H locs hu w => ?_)
    obtain ⟨rfl, rfl⟩ := hu
    have w : kW D A s [(h0, .inr (12, (mF r 1 t1 0 t3 t4 t5 t6 t7 t8 t9)))] H locs := w
    refine lv_if_eq (tgt := 31) hx hb d_Md_out_26 (by decide) (fun h => absurd h (by decide)) (fun _ => ?_)
    refine lv_lconst (v := 0) hx hb d_Md_out_29 (by decide) ?_
    refine W.widen (k := 0) (n := 0) (Nat.le_of_ble_eq_true rfl) (Nat.le_of_ble_eq_true rfl) ?_
    exact kx_lret E w hr hlk d_Md_out_30 (v := 0) ⟨rfl, rfl⟩)
set_option maxRecDepth 100000 in
set_option maxHeartbeats 4000000 in
theorem c_Md_look_bad (l : Launch) (D : va_G) (a : Nat → ClassId) (h0 : Nat) (r : Nat → Nat) (t0 : Int32) (t1 : Int32) (t2 : Int32) (t3 : Int32) (t4 : Int32) (t5 : Int32) (t6 : Int32) (t7 : Int32) (t8 : Int32) (t9 : Int32) (x : Int32) (hbad : x < 0 ∨ 4 < x) : ∀ sz : Nat, Met l y_Md_look (Cond.code y_Md_look b_Md_look 4 (some .int) :: wA) ({ frames := 1, cells := 0, slots := 0, locals := 25 } : Room) (va_Pc [.ref h0, .int x] (kP D a [(h0, .inr (12, (mF r t0 t1 t2 t3 t4 t5 t6 t7 t8 t9)))] sz)) (va_Qi (fun (rr : Int32) (u : va_W) => rr = 0 ∧ u = [(h0, .inr (12, (mF r 1 t1 t2 t3 t4 t5 t6 t7 t8 t9)))]) (kB D a (va_A [(h0, .inr (12, (mF r t0 t1 t2 t3 t4 t5 t6 t7 t8 t9)))] sz)) (va_A [(h0, .inr (12, (mF r t0 t1 t2 t3 t4 t5 t6 t7 t8 t9)))] sz)) 0 0 (va_A [(h0, .inr (12, (mF r t0 t1 t2 t3 t4 t5 t6 t7 t8 t9)))] sz) :=
  kM (Qc := fun A => va_Qi (fun (rr : Int32) (u : va_W) => rr = 0 ∧ u = [(h0, .inr (12, (mF r 1 t1 t2 t3 t4 t5 t6 t7 t8 t9)))]) (kB D a A) A) (by decide) (Nat.le_of_ble_eq_true rfl) (by
    intro p e s m below meth c A ls H locs E hr hlk hnm w hl
    have hx := E.1.1
    have hb := E.1.2.1
    have E : kE p m c b_Md_look 4 s [.ref h0, .int x].toArray "RootAlgebraModel" D a A := E
    have hl : lv_has ls 4 [(0, .ref h0), (1, .int x)] := hl
    refine lv_aload_n hx hb d_Md_look_0 rfl (lv_at hl 0 rfl) ?_
    refine lv_iload_n hx hb d_Md_look_1 rfl (lv_at hl 1 rfl) ?_
    refine lv_i2l (v := x.toInt64) hx hb d_Md_look_2 rfl ?_
    refine lv_lconst (v := 0) hx hb d_Md_look_3 (by decide) ?_
    refine lv_ldc2 (v := 4) hx hb E.1.2.2.2.1 (E.1.2.2.2.2 _ mw_374) d_Md_look_4 ?_
    refine kx_i E w (wc := []) (wr := [(h0, .inr (12, (mF r t0 t1 t2 t3 t4 t5 t6 t7 t8 t9)))]) [] [0] rfl rfl ⟨rfl, rfl, by decide⟩ (kx_rS E w hl.1 (As := [.long x.toInt64, .long 0, .long 4]) (wc := []) (c_Md_in0 l D a x.toInt64 0 4 (kl_out (c := 0) (d := 4) hbad) H.size) gc_47 gs_Md_in [] rfl rfl rfl rfl rfl ⟨(Nat.le_of_ble_eq_true rfl), (Nat.le_of_ble_eq_true rfl)⟩ rfl (Nat.le_of_ble_eq_true rfl) d_Md_look_7 ⟨(Nat.le_of_ble_eq_true rfl), (Nat.le_of_ble_eq_true rfl)⟩) (fun rr u H locs hu w => ?_)
    obtain ⟨rfl, rfl⟩ := hu
    have w : kW D A s [(h0, .inr (12, (mF r t0 t1 t2 t3 t4 t5 t6 t7 t8 t9)))] H locs := w
    refine lv_if_ne (tgt := 17) hx hb d_Md_look_10 (by decide) (fun h => absurd (by decide) h) (fun _ => ?_)
    refine lv_iconst (v := 1) hx hb d_Md_look_13 (by decide) ?_
    refine lv_goto (tgt := 18) hx hb d_Md_look_14 (by decide) ?_
    refine lv_iconst (v := 1) hx hb d_Md_look_18 (by decide) ?_
    refine kx_i E w (wc := [(h0, .inr (12, (mF r t0 t1 t2 t3 t4 t5 t6 t7 t8 t9)))]) (wr := []) [0] [] rfl rfl ⟨rfl, rfl, by decide⟩ (kx_rV E w hl.1 (As := [.int 1, .int 1]) (wc := [(h0, .inr (12, (mF r t0 t1 t2 t3 t4 t5 t6 t7 t8 t9)))]) (c_Md_fails11 l D a h0 r t0 t1 t2 t3 t4 t5 t6 t7 t8 t9 H.size) gc_49 gv_Md_fails (kRecv E w 12 0 rfl rfl) [0] rfl rfl rfl rfl rfl ⟨(Nat.le_of_ble_eq_true rfl), (Nat.le_of_ble_eq_true rfl)⟩ rfl (Nat.le_of_ble_eq_true rfl) d_Md_look_19 ⟨(Nat.le_of_ble_eq_true rfl), (Nat.le_of_ble_eq_true rfl)⟩) (fun rr u H locs hu w => ?_)
    obtain ⟨rfl, rfl⟩ := hu
    have w : kW D A s [(h0, .inr (12, (mF r 1 t1 t2 t3 t4 t5 t6 t7 t8 t9)))] H locs := w
    refine lv_if_eq (tgt := 27) hx hb d_Md_look_22 (by decide) (fun h => absurd h (by decide)) (fun _ => ?_)
    refine lv_iconst (v := 0) hx hb d_Md_look_25 (by decide) ?_
    refine W.widen (k := 0) (n := 0) (Nat.le_of_ble_eq_true rfl) (Nat.le_of_ble_eq_true rfl) ?_
    exact kx_iret E w hr hlk d_Md_look_26 (v := 0) ⟨rfl, rfl⟩)
set_option maxRecDepth 100000 in
set_option maxHeartbeats 4000000 in
theorem c_Md_look0 (l : Launch) (D : va_G) (a : Nat → ClassId) (h0 : Nat) (r : Nat → Nat) (t0 : Int32) (t5 : Int32) (t6 : Int32) (t7 : Int32) (t8 : Int32) (t9 : Int32) : ∀ sz : Nat, Met l y_Md_look (Cond.code y_Md_look b_Md_look 4 (some .int) :: wA) ({ frames := 1, cells := 0, slots := 0, locals := 25 } : Room) (va_Pc [.ref h0, .int 0] (kP D a [(h0, .inr (12, (mF r t0 0 0 (-1) 0 t5 t6 t7 t8 t9))), ((r 7), .inl (a 3, 80, .inl (upd (fun _ => 0) 16 1)))] sz)) (va_Qi (fun (rr : Int32) (u : va_W) => rr = 0 ∧ u = [((r 7), .inl (a 3, 80, .inl (upd (fun _ => 0) 16 1))), (h0, .inr (12, (mF r 0 0 0 (-1) 0 t5 t6 t7 t8 t9)))]) (kB D a (va_A [(h0, .inr (12, (mF r t0 0 0 (-1) 0 t5 t6 t7 t8 t9))), ((r 7), .inl (a 3, 80, .inl (upd (fun _ => 0) 16 1)))] sz)) (va_A [(h0, .inr (12, (mF r t0 0 0 (-1) 0 t5 t6 t7 t8 t9))), ((r 7), .inl (a 3, 80, .inl (upd (fun _ => 0) 16 1)))] sz)) 0 0 (va_A [(h0, .inr (12, (mF r t0 0 0 (-1) 0 t5 t6 t7 t8 t9))), ((r 7), .inl (a 3, 80, .inl (upd (fun _ => 0) 16 1)))] sz) :=
  kM (Qc := fun A => va_Qi (fun (rr : Int32) (u : va_W) => rr = 0 ∧ u = [((r 7), .inl (a 3, 80, .inl (upd (fun _ => 0) 16 1))), (h0, .inr (12, (mF r 0 0 0 (-1) 0 t5 t6 t7 t8 t9)))]) (kB D a A) A) (by decide) (Nat.le_of_ble_eq_true rfl) (by
    intro p e s m below meth c A ls H locs E hr hlk hnm w hl
    have hx := E.1.1
    have hb := E.1.2.1
    have E : kE p m c b_Md_look 4 s [.ref h0, .int 0].toArray "RootAlgebraModel" D a A := E
    have hl : lv_has ls 4 [(0, .ref h0), (1, .int 0)] := hl
    refine lv_aload_n hx hb d_Md_look_0 rfl (lv_at hl 0 rfl) ?_
    refine lv_iload_n hx hb d_Md_look_1 rfl (lv_at hl 1 rfl) ?_
    refine lv_i2l (v := 0) hx hb d_Md_look_2 (by decide) ?_
    refine lv_lconst (v := 0) hx hb d_Md_look_3 (by decide) ?_
    refine lv_ldc2 (v := 4) hx hb E.1.2.2.2.1 (E.1.2.2.2.2 _ mw_374) d_Md_look_4 ?_
    refine kx_i E w (wc := []) (wr := [(h0, .inr (12, (mF r t0 0 0 (-1) 0 t5 t6 t7 t8 t9))), ((r 7), .inl (a 3, 80, .inl (upd (fun _ => 0) 16 1)))]) [] [0, 1] rfl rfl ⟨rfl, rfl, by decide⟩ (kx_rS E w hl.1 (As := [.long 0, .long 0, .long 4]) (wc := []) (c_Md_in1 l D a 0 0 4 (by decide) H.size) gc_47 gs_Md_in [] rfl rfl rfl rfl rfl ⟨(Nat.le_of_ble_eq_true rfl), (Nat.le_of_ble_eq_true rfl)⟩ rfl (Nat.le_of_ble_eq_true rfl) d_Md_look_7 ⟨(Nat.le_of_ble_eq_true rfl), (Nat.le_of_ble_eq_true rfl)⟩) (fun rr u H locs hu w => ?_)
    obtain ⟨rfl, rfl⟩ := hu
    have w : kW D A s [(h0, .inr (12, (mF r t0 0 0 (-1) 0 t5 t6 t7 t8 t9))), ((r 7), .inl (a 3, 80, .inl (upd (fun _ => 0) 16 1)))] H locs := w
    refine lv_if_ne (tgt := 17) hx hb d_Md_look_10 (by decide) (fun _ => ?_) (fun h => absurd h (by decide))
    refine lv_iconst (v := 0) hx hb d_Md_look_17 (by decide) ?_
    refine lv_iconst (v := 1) hx hb d_Md_look_18 (by decide) ?_
    refine kx_i E w (wc := [(h0, .inr (12, (mF r t0 0 0 (-1) 0 t5 t6 t7 t8 t9)))]) (wr := [((r 7), .inl (a 3, 80, .inl (upd (fun _ => 0) 16 1)))]) [0] [1] rfl rfl ⟨rfl, rfl, by decide⟩ (kx_rV E w hl.1 (As := [.int 0, .int 1]) (wc := [(h0, .inr (12, (mF r t0 0 0 (-1) 0 t5 t6 t7 t8 t9)))]) (c_Md_fails01 l D a h0 r t0 0 0 (-1) 0 t5 t6 t7 t8 t9 H.size) gc_49 gv_Md_fails (kRecv E w 12 0 rfl rfl) [0] rfl rfl rfl rfl rfl ⟨(Nat.le_of_ble_eq_true rfl), (Nat.le_of_ble_eq_true rfl)⟩ rfl (Nat.le_of_ble_eq_true rfl) d_Md_look_19 ⟨(Nat.le_of_ble_eq_true rfl), (Nat.le_of_ble_eq_true rfl)⟩) (fun rr u H locs hu w => ?_)
    obtain ⟨rfl, rfl⟩ := hu
    have w : kW D A s [((r 7), .inl (a 3, 80, .inl (upd (fun _ => 0) 16 1))), (h0, .inr (12, (mF r 0 0 0 (-1) 0 t5 t6 t7 t8 t9)))] H locs := w
    refine lv_if_eq (tgt := 27) hx hb d_Md_look_22 (by decide) (fun _ => ?_) (fun h => absurd (by decide) h)
    refine lv_iconst (v := 0) hx hb d_Md_look_27 (by decide) ?_
    refine lv_istore_n (lv' := [(2, .int 0), (0, .ref h0), (1, .int 0)]) hx hb d_Md_look_28 rfl hl (by decide) rfl (fun ls hl => ?_)
    refine lv_iconst (v := 0) hx hb d_Md_look_29 (by decide) ?_
    refine lv_istore_n (lv' := [(3, .int 0), (2, .int 0), (0, .ref h0), (1, .int 0)]) hx hb d_Md_look_30 rfl hl (by decide) rfl (fun ls hl => ?_)
    refine lv_iload_n hx hb d_Md_look_31 rfl (lv_at hl 0 rfl) ?_
    refine lv_bipush (v := 16) hx hb d_Md_look_32 (by decide) ?_
    refine lv_icmp_ge (tgt := 60) hx hb d_Md_look_34 (by decide) (fun h => absurd h (by decide)) (fun _ => ?_)
    refine lv_iload_n hx hb d_Md_look_37 rfl (lv_at hl 1 rfl) ?_
    refine lv_aload_n hx hb d_Md_look_38 rfl (lv_at hl 2 rfl) ?_
    refine kx_get E w zC_Md 1 rfl 7 (by decide) mw_301 rfl d_Md_look_39 ?_
    refine lv_iload_n hx hb d_Md_look_42 rfl (lv_at hl 0 rfl) ?_
    refine kx_zald E w 0 rfl (by unfold vp_in; decide) (v := 0) rfl d_Md_look_43 ?_
    refine lv_if_eq (tgt := 51) hx hb d_Md_look_44 (by decide) (fun _ => ?_) (fun h => absurd (by decide) h)
    refine lv_iconst (v := 0) hx hb d_Md_look_51 (by decide) ?_
    refine kx_iadd (v := 0) hx hb d_Md_look_52 (by decide) ?_
    refine lv_istore_n (lv' := [(2, .int 0), (3, .int 0), (0, .ref h0), (1, .int 0)]) hx hb d_Md_look_53 rfl hl (by decide) rfl (fun ls hl => ?_)
    refine lv_iinc (v := 1) (lv' := [(3, .int 1), (2, .int 0), (0, .ref h0), (1, .int 0)]) hx hb d_Md_look_54 hl (k := 1) rfl (by decide) (by decide) rfl (fun ls hl => ?_)
    refine lv_goto (tgt := 31) hx hb d_Md_look_57 (by decide) ?_
    refine lv_iload_n hx hb d_Md_look_31 rfl (lv_at hl 0 rfl) ?_
    refine lv_bipush (v := 16) hx hb d_Md_look_32 (by decide) ?_
    refine lv_icmp_ge (tgt := 60) hx hb d_Md_look_34 (by decide) (fun h => absurd h (by decide)) (fun _ => ?_)
    refine lv_iload_n hx hb d_Md_look_37 rfl (lv_at hl 1 rfl) ?_
    refine lv_aload_n hx hb d_Md_look_38 rfl (lv_at hl 2 rfl) ?_
    refine kx_get E w zC_Md 1 rfl 7 (by decide) mw_301 rfl d_Md_look_39 ?_
    refine lv_iload_n hx hb d_Md_look_42 rfl (lv_at hl 0 rfl) ?_
    refine kx_zald E w 0 rfl (by unfold vp_in; decide) (v := 0) rfl d_Md_look_43 ?_
    refine lv_if_eq (tgt := 51) hx hb d_Md_look_44 (by decide) (fun _ => ?_) (fun h => absurd (by decide) h)
    refine lv_iconst (v := 0) hx hb d_Md_look_51 (by decide) ?_
    refine kx_iadd (v := 0) hx hb d_Md_look_52 (by decide) ?_
    refine lv_istore_n (lv' := [(2, .int 0), (3, .int 1), (0, .ref h0), (1, .int 0)]) hx hb d_Md_look_53 rfl hl (by decide) rfl (fun ls hl => ?_)
    refine lv_iinc (v := 2) (lv' := [(3, .int 2), (2, .int 0), (0, .ref h0), (1, .int 0)]) hx hb d_Md_look_54 hl (k := 1) rfl (by decide) (by decide) rfl (fun ls hl => ?_)
    refine lv_goto (tgt := 31) hx hb d_Md_look_57 (by decide) ?_
    refine lv_iload_n hx hb d_Md_look_31 rfl (lv_at hl 0 rfl) ?_
    refine lv_bipush (v := 16) hx hb d_Md_look_32 (by decide) ?_
    refine lv_icmp_ge (tgt := 60) hx hb d_Md_look_34 (by decide) (fun h => absurd h (by decide)) (fun _ => ?_)
    refine lv_iload_n hx hb d_Md_look_37 rfl (lv_at hl 1 rfl) ?_
    refine lv_aload_n hx hb d_Md_look_38 rfl (lv_at hl 2 rfl) ?_
    refine kx_get E w zC_Md 1 rfl 7 (by decide) mw_301 rfl d_Md_look_39 ?_
    refine lv_iload_n hx hb d_Md_look_42 rfl (lv_at hl 0 rfl) ?_
    refine kx_zald E w 0 rfl (by unfold vp_in; decide) (v := 0) rfl d_Md_look_43 ?_
    refine lv_if_eq (tgt := 51) hx hb d_Md_look_44 (by decide) (fun _ => ?_) (fun h => absurd (by decide) h)
    refine lv_iconst (v := 0) hx hb d_Md_look_51 (by decide) ?_
    refine kx_iadd (v := 0) hx hb d_Md_look_52 (by decide) ?_
    refine lv_istore_n (lv' := [(2, .int 0), (3, .int 2), (0, .ref h0), (1, .int 0)]) hx hb d_Md_look_53 rfl hl (by decide) rfl (fun ls hl => ?_)
    refine lv_iinc (v := 3) (lv' := [(3, .int 3), (2, .int 0), (0, .ref h0), (1, .int 0)]) hx hb d_Md_look_54 hl (k := 1) rfl (by decide) (by decide) rfl (fun ls hl => ?_)
    refine lv_goto (tgt := 31) hx hb d_Md_look_57 (by decide) ?_
    refine lv_iload_n hx hb d_Md_look_31 rfl (lv_at hl 0 rfl) ?_
    refine lv_bipush (v := 16) hx hb d_Md_look_32 (by decide) ?_
    refine lv_icmp_ge (tgt := 60) hx hb d_Md_look_34 (by decide) (fun h => absurd h (by decide)) (fun _ => ?_)
    refine lv_iload_n hx hb d_Md_look_37 rfl (lv_at hl 1 rfl) ?_
    refine lv_aload_n hx hb d_Md_look_38 rfl (lv_at hl 2 rfl) ?_
    refine kx_get E w zC_Md 1 rfl 7 (by decide) mw_301 rfl d_Md_look_39 ?_
    refine lv_iload_n hx hb d_Md_look_42 rfl (lv_at hl 0 rfl) ?_
    refine kx_zald E w 0 rfl (by unfold vp_in; decide) (v := 0) rfl d_Md_look_43 ?_
    refine lv_if_eq (tgt := 51) hx hb d_Md_look_44 (by decide) (fun _ => ?_) (fun h => absurd (by decide) h)
    refine lv_iconst (v := 0) hx hb d_Md_look_51 (by decide) ?_
    refine kx_iadd (v := 0) hx hb d_Md_look_52 (by decide) ?_
    refine lv_istore_n (lv' := [(2, .int 0), (3, .int 3), (0, .ref h0), (1, .int 0)]) hx hb d_Md_look_53 rfl hl (by decide) rfl (fun ls hl => ?_)
    refine lv_iinc (v := 4) (lv' := [(3, .int 4), (2, .int 0), (0, .ref h0), (1, .int 0)]) hx hb d_Md_look_54 hl (k := 1) rfl (by decide) (by decide) rfl (fun ls hl => ?_)
    refine lv_goto (tgt := 31) hx hb d_Md_look_57 (by decide) ?_
    refine lv_iload_n hx hb d_Md_look_31 rfl (lv_at hl 0 rfl) ?_
    refine lv_bipush (v := 16) hx hb d_Md_look_32 (by decide) ?_
    refine lv_icmp_ge (tgt := 60) hx hb d_Md_look_34 (by decide) (fun h => absurd h (by decide)) (fun _ => ?_)
    refine lv_iload_n hx hb d_Md_look_37 rfl (lv_at hl 1 rfl) ?_
    refine lv_aload_n hx hb d_Md_look_38 rfl (lv_at hl 2 rfl) ?_
    refine kx_get E w zC_Md 1 rfl 7 (by decide) mw_301 rfl d_Md_look_39 ?_
    refine lv_iload_n hx hb d_Md_look_42 rfl (lv_at hl 0 rfl) ?_
    refine kx_zald E w 0 rfl (by unfold vp_in; decide) (v := 0) rfl d_Md_look_43 ?_
    refine lv_if_eq (tgt := 51) hx hb d_Md_look_44 (by decide) (fun _ => ?_) (fun h => absurd (by decide) h)
    refine lv_iconst (v := 0) hx hb d_Md_look_51 (by decide) ?_
    refine kx_iadd (v := 0) hx hb d_Md_look_52 (by decide) ?_
    refine lv_istore_n (lv' := [(2, .int 0), (3, .int 4), (0, .ref h0), (1, .int 0)]) hx hb d_Md_look_53 rfl hl (by decide) rfl (fun ls hl => ?_)
    refine lv_iinc (v := 5) (lv' := [(3, .int 5), (2, .int 0), (0, .ref h0), (1, .int 0)]) hx hb d_Md_look_54 hl (k := 1) rfl (by decide) (by decide) rfl (fun ls hl => ?_)
    refine lv_goto (tgt := 31) hx hb d_Md_look_57 (by decide) ?_
    refine lv_iload_n hx hb d_Md_look_31 rfl (lv_at hl 0 rfl) ?_
    refine lv_bipush (v := 16) hx hb d_Md_look_32 (by decide) ?_
    refine lv_icmp_ge (tgt := 60) hx hb d_Md_look_34 (by decide) (fun h => absurd h (by decide)) (fun _ => ?_)
    refine lv_iload_n hx hb d_Md_look_37 rfl (lv_at hl 1 rfl) ?_
    refine lv_aload_n hx hb d_Md_look_38 rfl (lv_at hl 2 rfl) ?_
    refine kx_get E w zC_Md 1 rfl 7 (by decide) mw_301 rfl d_Md_look_39 ?_
    refine lv_iload_n hx hb d_Md_look_42 rfl (lv_at hl 0 rfl) ?_
    refine kx_zald E w 0 rfl (by unfold vp_in; decide) (v := 0) rfl d_Md_look_43 ?_
    refine lv_if_eq (tgt := 51) hx hb d_Md_look_44 (by decide) (fun _ => ?_) (fun h => absurd (by decide) h)
    refine lv_iconst (v := 0) hx hb d_Md_look_51 (by decide) ?_
    refine kx_iadd (v := 0) hx hb d_Md_look_52 (by decide) ?_
    refine lv_istore_n (lv' := [(2, .int 0), (3, .int 5), (0, .ref h0), (1, .int 0)]) hx hb d_Md_look_53 rfl hl (by decide) rfl (fun ls hl => ?_)
    refine lv_iinc (v := 6) (lv' := [(3, .int 6), (2, .int 0), (0, .ref h0), (1, .int 0)]) hx hb d_Md_look_54 hl (k := 1) rfl (by decide) (by decide) rfl (fun ls hl => ?_)
    refine lv_goto (tgt := 31) hx hb d_Md_look_57 (by decide) ?_
    refine lv_iload_n hx hb d_Md_look_31 rfl (lv_at hl 0 rfl) ?_
    refine lv_bipush (v := 16) hx hb d_Md_look_32 (by decide) ?_
    refine lv_icmp_ge (tgt := 60) hx hb d_Md_look_34 (by decide) (fun h => absurd h (by decide)) (fun _ => ?_)
    refine lv_iload_n hx hb d_Md_look_37 rfl (lv_at hl 1 rfl) ?_
    refine lv_aload_n hx hb d_Md_look_38 rfl (lv_at hl 2 rfl) ?_
    refine kx_get E w zC_Md 1 rfl 7 (by decide) mw_301 rfl d_Md_look_39 ?_
    refine lv_iload_n hx hb d_Md_look_42 rfl (lv_at hl 0 rfl) ?_
    refine kx_zald E w 0 rfl (by unfold vp_in; decide) (v := 0) rfl d_Md_look_43 ?_
    refine lv_if_eq (tgt := 51) hx hb d_Md_look_44 (by decide) (fun _ => ?_) (fun h => absurd (by decide) h)
    refine lv_iconst (v := 0) hx hb d_Md_look_51 (by decide) ?_
    refine kx_iadd (v := 0) hx hb d_Md_look_52 (by decide) ?_
    refine lv_istore_n (lv' := [(2, .int 0), (3, .int 6), (0, .ref h0), (1, .int 0)]) hx hb d_Md_look_53 rfl hl (by decide) rfl (fun ls hl => ?_)
    refine lv_iinc (v := 7) (lv' := [(3, .int 7), (2, .int 0), (0, .ref h0), (1, .int 0)]) hx hb d_Md_look_54 hl (k := 1) rfl (by decide) (by decide) rfl (fun ls hl => ?_)
    refine lv_goto (tgt := 31) hx hb d_Md_look_57 (by decide) ?_
    refine lv_iload_n hx hb d_Md_look_31 rfl (lv_at hl 0 rfl) ?_
    refine lv_bipush (v := 16) hx hb d_Md_look_32 (by decide) ?_
    refine lv_icmp_ge (tgt := 60) hx hb d_Md_look_34 (by decide) (fun h => absurd h (by decide)) (fun _ => ?_)
    refine lv_iload_n hx hb d_Md_look_37 rfl (lv_at hl 1 rfl) ?_
    refine lv_aload_n hx hb d_Md_look_38 rfl (lv_at hl 2 rfl) ?_
    refine kx_get E w zC_Md 1 rfl 7 (by decide) mw_301 rfl d_Md_look_39 ?_
    refine lv_iload_n hx hb d_Md_look_42 rfl (lv_at hl 0 rfl) ?_
    refine kx_zald E w 0 rfl (by unfold vp_in; decide) (v := 0) rfl d_Md_look_43 ?_
    refine lv_if_eq (tgt := 51) hx hb d_Md_look_44 (by decide) (fun _ => ?_) (fun h => absurd (by decide) h)
    refine lv_iconst (v := 0) hx hb d_Md_look_51 (by decide) ?_
    refine kx_iadd (v := 0) hx hb d_Md_look_52 (by decide) ?_
    refine lv_istore_n (lv' := [(2, .int 0), (3, .int 7), (0, .ref h0), (1, .int 0)]) hx hb d_Md_look_53 rfl hl (by decide) rfl (fun ls hl => ?_)
    refine lv_iinc (v := 8) (lv' := [(3, .int 8), (2, .int 0), (0, .ref h0), (1, .int 0)]) hx hb d_Md_look_54 hl (k := 1) rfl (by decide) (by decide) rfl (fun ls hl => ?_)
    refine lv_goto (tgt := 31) hx hb d_Md_look_57 (by decide) ?_
    refine lv_iload_n hx hb d_Md_look_31 rfl (lv_at hl 0 rfl) ?_
    refine lv_bipush (v := 16) hx hb d_Md_look_32 (by decide) ?_
    refine lv_icmp_ge (tgt := 60) hx hb d_Md_look_34 (by decide) (fun h => absurd h (by decide)) (fun _ => ?_)
    refine lv_iload_n hx hb d_Md_look_37 rfl (lv_at hl 1 rfl) ?_
    refine lv_aload_n hx hb d_Md_look_38 rfl (lv_at hl 2 rfl) ?_
    refine kx_get E w zC_Md 1 rfl 7 (by decide) mw_301 rfl d_Md_look_39 ?_
    refine lv_iload_n hx hb d_Md_look_42 rfl (lv_at hl 0 rfl) ?_
    refine kx_zald E w 0 rfl (by unfold vp_in; decide) (v := 0) rfl d_Md_look_43 ?_
    refine lv_if_eq (tgt := 51) hx hb d_Md_look_44 (by decide) (fun _ => ?_) (fun h => absurd (by decide) h)
    refine lv_iconst (v := 0) hx hb d_Md_look_51 (by decide) ?_
    refine kx_iadd (v := 0) hx hb d_Md_look_52 (by decide) ?_
    refine lv_istore_n (lv' := [(2, .int 0), (3, .int 8), (0, .ref h0), (1, .int 0)]) hx hb d_Md_look_53 rfl hl (by decide) rfl (fun ls hl => ?_)
    refine lv_iinc (v := 9) (lv' := [(3, .int 9), (2, .int 0), (0, .ref h0), (1, .int 0)]) hx hb d_Md_look_54 hl (k := 1) rfl (by decide) (by decide) rfl (fun ls hl => ?_)
    refine lv_goto (tgt := 31) hx hb d_Md_look_57 (by decide) ?_
    refine lv_iload_n hx hb d_Md_look_31 rfl (lv_at hl 0 rfl) ?_
    refine lv_bipush (v := 16) hx hb d_Md_look_32 (by decide) ?_
    refine lv_icmp_ge (tgt := 60) hx hb d_Md_look_34 (by decide) (fun h => absurd h (by decide)) (fun _ => ?_)
    refine lv_iload_n hx hb d_Md_look_37 rfl (lv_at hl 1 rfl) ?_
    refine lv_aload_n hx hb d_Md_look_38 rfl (lv_at hl 2 rfl) ?_
    refine kx_get E w zC_Md 1 rfl 7 (by decide) mw_301 rfl d_Md_look_39 ?_
    refine lv_iload_n hx hb d_Md_look_42 rfl (lv_at hl 0 rfl) ?_
    refine kx_zald E w 0 rfl (by unfold vp_in; decide) (v := 0) rfl d_Md_look_43 ?_
    refine lv_if_eq (tgt := 51) hx hb d_Md_look_44 (by decide) (fun _ => ?_) (fun h => absurd (by decide) h)
    refine lv_iconst (v := 0) hx hb d_Md_look_51 (by decide) ?_
    refine kx_iadd (v := 0) hx hb d_Md_look_52 (by decide) ?_
    refine lv_istore_n (lv' := [(2, .int 0), (3, .int 9), (0, .ref h0), (1, .int 0)]) hx hb d_Md_look_53 rfl hl (by decide) rfl (fun ls hl => ?_)
    refine lv_iinc (v := 10) (lv' := [(3, .int 10), (2, .int 0), (0, .ref h0), (1, .int 0)]) hx hb d_Md_look_54 hl (k := 1) rfl (by decide) (by decide) rfl (fun ls hl => ?_)
    refine lv_goto (tgt := 31) hx hb d_Md_look_57 (by decide) ?_
    refine lv_iload_n hx hb d_Md_look_31 rfl (lv_at hl 0 rfl) ?_
    refine lv_bipush (v := 16) hx hb d_Md_look_32 (by decide) ?_
    refine lv_icmp_ge (tgt := 60) hx hb d_Md_look_34 (by decide) (fun h => absurd h (by decide)) (fun _ => ?_)
    refine lv_iload_n hx hb d_Md_look_37 rfl (lv_at hl 1 rfl) ?_
    refine lv_aload_n hx hb d_Md_look_38 rfl (lv_at hl 2 rfl) ?_
    refine kx_get E w zC_Md 1 rfl 7 (by decide) mw_301 rfl d_Md_look_39 ?_
    refine lv_iload_n hx hb d_Md_look_42 rfl (lv_at hl 0 rfl) ?_
    refine kx_zald E w 0 rfl (by unfold vp_in; decide) (v := 0) rfl d_Md_look_43 ?_
    refine lv_if_eq (tgt := 51) hx hb d_Md_look_44 (by decide) (fun _ => ?_) (fun h => absurd (by decide) h)
    refine lv_iconst (v := 0) hx hb d_Md_look_51 (by decide) ?_
    refine kx_iadd (v := 0) hx hb d_Md_look_52 (by decide) ?_
    refine lv_istore_n (lv' := [(2, .int 0), (3, .int 10), (0, .ref h0), (1, .int 0)]) hx hb d_Md_look_53 rfl hl (by decide) rfl (fun ls hl => ?_)
    refine lv_iinc (v := 11) (lv' := [(3, .int 11), (2, .int 0), (0, .ref h0), (1, .int 0)]) hx hb d_Md_look_54 hl (k := 1) rfl (by decide) (by decide) rfl (fun ls hl => ?_)
    refine lv_goto (tgt := 31) hx hb d_Md_look_57 (by decide) ?_
    refine lv_iload_n hx hb d_Md_look_31 rfl (lv_at hl 0 rfl) ?_
    refine lv_bipush (v := 16) hx hb d_Md_look_32 (by decide) ?_
    refine lv_icmp_ge (tgt := 60) hx hb d_Md_look_34 (by decide) (fun h => absurd h (by decide)) (fun _ => ?_)
    refine lv_iload_n hx hb d_Md_look_37 rfl (lv_at hl 1 rfl) ?_
    refine lv_aload_n hx hb d_Md_look_38 rfl (lv_at hl 2 rfl) ?_
    refine kx_get E w zC_Md 1 rfl 7 (by decide) mw_301 rfl d_Md_look_39 ?_
    refine lv_iload_n hx hb d_Md_look_42 rfl (lv_at hl 0 rfl) ?_
    refine kx_zald E w 0 rfl (by unfold vp_in; decide) (v := 0) rfl d_Md_look_43 ?_
    refine lv_if_eq (tgt := 51) hx hb d_Md_look_44 (by decide) (fun _ => ?_) (fun h => absurd (by decide) h)
    refine lv_iconst (v := 0) hx hb d_Md_look_51 (by decide) ?_
    refine kx_iadd (v := 0) hx hb d_Md_look_52 (by decide) ?_
    refine lv_istore_n (lv' := [(2, .int 0), (3, .int 11), (0, .ref h0), (1, .int 0)]) hx hb d_Md_look_53 rfl hl (by decide) rfl (fun ls hl => ?_)
    refine lv_iinc (v := 12) (lv' := [(3, .int 12), (2, .int 0), (0, .ref h0), (1, .int 0)]) hx hb d_Md_look_54 hl (k := 1) rfl (by decide) (by decide) rfl (fun ls hl => ?_)
    refine lv_goto (tgt := 31) hx hb d_Md_look_57 (by decide) ?_
    refine lv_iload_n hx hb d_Md_look_31 rfl (lv_at hl 0 rfl) ?_
    refine lv_bipush (v := 16) hx hb d_Md_look_32 (by decide) ?_
    refine lv_icmp_ge (tgt := 60) hx hb d_Md_look_34 (by decide) (fun h => absurd h (by decide)) (fun _ => ?_)
    refine lv_iload_n hx hb d_Md_look_37 rfl (lv_at hl 1 rfl) ?_
    refine lv_aload_n hx hb d_Md_look_38 rfl (lv_at hl 2 rfl) ?_
    refine kx_get E w zC_Md 1 rfl 7 (by decide) mw_301 rfl d_Md_look_39 ?_
    refine lv_iload_n hx hb d_Md_look_42 rfl (lv_at hl 0 rfl) ?_
    refine kx_zald E w 0 rfl (by unfold vp_in; decide) (v := 0) rfl d_Md_look_43 ?_
    refine lv_if_eq (tgt := 51) hx hb d_Md_look_44 (by decide) (fun _ => ?_) (fun h => absurd (by decide) h)
    refine lv_iconst (v := 0) hx hb d_Md_look_51 (by decide) ?_
    refine kx_iadd (v := 0) hx hb d_Md_look_52 (by decide) ?_
    refine lv_istore_n (lv' := [(2, .int 0), (3, .int 12), (0, .ref h0), (1, .int 0)]) hx hb d_Md_look_53 rfl hl (by decide) rfl (fun ls hl => ?_)
    refine lv_iinc (v := 13) (lv' := [(3, .int 13), (2, .int 0), (0, .ref h0), (1, .int 0)]) hx hb d_Md_look_54 hl (k := 1) rfl (by decide) (by decide) rfl (fun ls hl => ?_)
    refine lv_goto (tgt := 31) hx hb d_Md_look_57 (by decide) ?_
    refine lv_iload_n hx hb d_Md_look_31 rfl (lv_at hl 0 rfl) ?_
    refine lv_bipush (v := 16) hx hb d_Md_look_32 (by decide) ?_
    refine lv_icmp_ge (tgt := 60) hx hb d_Md_look_34 (by decide) (fun h => absurd h (by decide)) (fun _ => ?_)
    refine lv_iload_n hx hb d_Md_look_37 rfl (lv_at hl 1 rfl) ?_
    refine lv_aload_n hx hb d_Md_look_38 rfl (lv_at hl 2 rfl) ?_
    refine kx_get E w zC_Md 1 rfl 7 (by decide) mw_301 rfl d_Md_look_39 ?_
    refine lv_iload_n hx hb d_Md_look_42 rfl (lv_at hl 0 rfl) ?_
    refine kx_zald E w 0 rfl (by unfold vp_in; decide) (v := 0) rfl d_Md_look_43 ?_
    refine lv_if_eq (tgt := 51) hx hb d_Md_look_44 (by decide) (fun _ => ?_) (fun h => absurd (by decide) h)
    refine lv_iconst (v := 0) hx hb d_Md_look_51 (by decide) ?_
    refine kx_iadd (v := 0) hx hb d_Md_look_52 (by decide) ?_
    refine lv_istore_n (lv' := [(2, .int 0), (3, .int 13), (0, .ref h0), (1, .int 0)]) hx hb d_Md_look_53 rfl hl (by decide) rfl (fun ls hl => ?_)
    refine lv_iinc (v := 14) (lv' := [(3, .int 14), (2, .int 0), (0, .ref h0), (1, .int 0)]) hx hb d_Md_look_54 hl (k := 1) rfl (by decide) (by decide) rfl (fun ls hl => ?_)
    refine lv_goto (tgt := 31) hx hb d_Md_look_57 (by decide) ?_
    refine lv_iload_n hx hb d_Md_look_31 rfl (lv_at hl 0 rfl) ?_
    refine lv_bipush (v := 16) hx hb d_Md_look_32 (by decide) ?_
    refine lv_icmp_ge (tgt := 60) hx hb d_Md_look_34 (by decide) (fun h => absurd h (by decide)) (fun _ => ?_)
    refine lv_iload_n hx hb d_Md_look_37 rfl (lv_at hl 1 rfl) ?_
    refine lv_aload_n hx hb d_Md_look_38 rfl (lv_at hl 2 rfl) ?_
    refine kx_get E w zC_Md 1 rfl 7 (by decide) mw_301 rfl d_Md_look_39 ?_
    refine lv_iload_n hx hb d_Md_look_42 rfl (lv_at hl 0 rfl) ?_
    refine kx_zald E w 0 rfl (by unfold vp_in; decide) (v := 0) rfl d_Md_look_43 ?_
    refine lv_if_eq (tgt := 51) hx hb d_Md_look_44 (by decide) (fun _ => ?_) (fun h => absurd (by decide) h)
    refine lv_iconst (v := 0) hx hb d_Md_look_51 (by decide) ?_
    refine kx_iadd (v := 0) hx hb d_Md_look_52 (by decide) ?_
    refine lv_istore_n (lv' := [(2, .int 0), (3, .int 14), (0, .ref h0), (1, .int 0)]) hx hb d_Md_look_53 rfl hl (by decide) rfl (fun ls hl => ?_)
    refine lv_iinc (v := 15) (lv' := [(3, .int 15), (2, .int 0), (0, .ref h0), (1, .int 0)]) hx hb d_Md_look_54 hl (k := 1) rfl (by decide) (by decide) rfl (fun ls hl => ?_)
    refine lv_goto (tgt := 31) hx hb d_Md_look_57 (by decide) ?_
    refine lv_iload_n hx hb d_Md_look_31 rfl (lv_at hl 0 rfl) ?_
    refine lv_bipush (v := 16) hx hb d_Md_look_32 (by decide) ?_
    refine lv_icmp_ge (tgt := 60) hx hb d_Md_look_34 (by decide) (fun h => absurd h (by decide)) (fun _ => ?_)
    refine lv_iload_n hx hb d_Md_look_37 rfl (lv_at hl 1 rfl) ?_
    refine lv_aload_n hx hb d_Md_look_38 rfl (lv_at hl 2 rfl) ?_
    refine kx_get E w zC_Md 1 rfl 7 (by decide) mw_301 rfl d_Md_look_39 ?_
    refine lv_iload_n hx hb d_Md_look_42 rfl (lv_at hl 0 rfl) ?_
    refine kx_zald E w 0 rfl (by unfold vp_in; decide) (v := 0) rfl d_Md_look_43 ?_
    refine lv_if_eq (tgt := 51) hx hb d_Md_look_44 (by decide) (fun _ => ?_) (fun h => absurd (by decide) h)
    refine lv_iconst (v := 0) hx hb d_Md_look_51 (by decide) ?_
    refine kx_iadd (v := 0) hx hb d_Md_look_52 (by decide) ?_
    refine lv_istore_n (lv' := [(2, .int 0), (3, .int 15), (0, .ref h0), (1, .int 0)]) hx hb d_Md_look_53 rfl hl (by decide) rfl (fun ls hl => ?_)
    refine lv_iinc (v := 16) (lv' := [(3, .int 16), (2, .int 0), (0, .ref h0), (1, .int 0)]) hx hb d_Md_look_54 hl (k := 1) rfl (by decide) (by decide) rfl (fun ls hl => ?_)
    refine lv_goto (tgt := 31) hx hb d_Md_look_57 (by decide) ?_
    refine lv_iload_n hx hb d_Md_look_31 rfl (lv_at hl 0 rfl) ?_
    refine lv_bipush (v := 16) hx hb d_Md_look_32 (by decide) ?_
    refine lv_icmp_ge (tgt := 60) hx hb d_Md_look_34 (by decide) (fun _ => ?_) (fun h => absurd (by decide) h)
    refine lv_iload_n hx hb d_Md_look_60 rfl (lv_at hl 3 rfl) ?_
    refine lv_if_ne (tgt := 68) hx hb d_Md_look_61 (by decide) (fun h => absurd (by decide) h) (fun _ => ?_)
    refine lv_iload_n hx hb d_Md_look_64 rfl (lv_at hl 1 rfl) ?_
    refine lv_goto (tgt := 108) hx hb d_Md_look_65 (by decide) ?_
    refine W.widen (k := 0) (n := 0) (Nat.le_of_ble_eq_true rfl) (Nat.le_of_ble_eq_true rfl) ?_
    exact kx_iret E w hr hlk d_Md_look_108 (v := 0) ⟨rfl, rfl⟩)
