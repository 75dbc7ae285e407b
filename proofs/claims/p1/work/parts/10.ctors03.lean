/-! laid by program (wip/gen) -/
set_option maxRecDepth 100000 in
set_option maxHeartbeats 4000000 in
theorem c_Reader_init (l : Launch) (D : va_G) (a : Nat → ClassId) (h0 : Nat) (h1 : Nat) : ∀ sz : Nat, Met l y_Reader_init (Cond.code y_Reader_init b_Reader_init 2 none :: wA) ({ frames := 1, cells := 1, slots := 820, locals := 20 } : Room) (va_Pc [.ref h0, .ref h1] (kP D a [(h0, .inr (9, [.null, .null, .int 0, .int 0, .int 0, .int 0, .int 0]))] sz)) (va_Qv (fun u : va_W => ∃ q1 : Nat, u = [(h0, .inr (9, [.ref q1, .ref h1, .int 0, .int 0, .int 0, .int 0, .int 0]))]) (kB D a (va_A [(h0, .inr (9, [.null, .null, .int 0, .int 0, .int 0, .int 0, .int 0]))] sz)) (va_A [(h0, .inr (9, [.null, .null, .int 0, .int 0, .int 0, .int 0, .int 0]))] sz)) 1 820 (va_A [(h0, .inr (9, [.null, .null, .int 0, .int 0, .int 0, .int 0, .int 0]))] sz) :=
  kM (Qc := fun A => va_Qv (fun u : va_W => ∃ q1 : Nat, u = [(h0, .inr (9, [.ref q1, .ref h1, .int 0, .int 0, .int 0, .int 0, .int 0]))]) (kB D a A) A) (by decide) (Nat.le_of_ble_eq_true rfl) (by
    intro p e s m below meth c A ls H locs E hr hlk hnm w hl
    have hx := E.1.1
    have hb := E.1.2.1
    have E : kE p m c b_Reader_init 2 s [.ref h0, .ref h1].toArray "RootAlgebra$Reader" D a A := E
    have hl : lv_has ls 2 [(0, .ref h0), (1, .ref h1)] := hl
    have hnm : meth.name = "<init>" := hnm
    refine lv_aload_n hx hb d_Reader_init_0 rfl (lv_at hl 0 rfl) ?_
    refine kx_obj E hl.1 mw_48 mw_1 mw_2 d_Reader_init_1 (Nat.le_of_ble_eq_true rfl) (Nat.le_of_ble_eq_true rfl) (Nat.le_of_ble_eq_true rfl) ?_
    refine lv_aload_n hx hb d_Reader_init_4 rfl (lv_at hl 0 rfl) ?_
    refine lv_aload_n hx hb d_Reader_init_5 rfl (lv_at hl 1 rfl) ?_
    refine kx_putF E w zC_Reader hnm 0 rfl 1 (by decide) mw_49 rfl rfl rfl rfl (Nat.le_of_ble_eq_true rfl) d_Reader_init_6 (ws' := [(h0, .inr (9, [.null, .ref h1, .int 0, .int 0, .int 0, .int 0, .int 0]))]) rfl (fun H locs w => ?_)
    refine lv_aload_n hx hb d_Reader_init_9 rfl (lv_at hl 0 rfl) ?_
    refine lv_sipush (v := 820) hx hb d_Reader_init_10 (by decide) ?_
    refine kx_newa0 (atype := .int) E w rfl mw_3 (N' := 820) (a0 := (820, .inl (fun _ => 0))) (fun _ => rfl) (by decide) (by decide) (by decide) (Nat.le_of_ble_eq_true rfl) (Nat.le_of_ble_eq_true rfl) d_Reader_init_13 (fun q1 H w => ?_)
    refine kx_putF E w zC_Reader hnm 0 rfl 0 (by decide) mw_50 rfl rfl rfl rfl (Nat.le_of_ble_eq_true rfl) d_Reader_init_15 (ws' := [(h0, .inr (9, [.ref q1, .ref h1, .int 0, .int 0, .int 0, .int 0, .int 0]))]) rfl (fun H locs w => ?_)
    refine W.widen (k := 1) (n := 820) (Nat.le_of_ble_eq_true rfl) (Nat.le_of_ble_eq_true rfl) ?_
    exact kx_vret E w hr hlk d_Reader_init_18 ⟨q1, rfl⟩)
set_option maxRecDepth 100000 in
set_option maxHeartbeats 4000000 in
theorem c_Gauge_init (l : Launch) (D : va_G) (a : Nat → ClassId) (h0 : Nat) : ∀ sz : Nat, Met l y_Gauge_init (Cond.code y_Gauge_init b_Gauge_init 1 none :: wA) ({ frames := 2, cells := 22, slots := 2793, locals := 41 } : Room) (va_Pc [.ref h0] (kP D a [(h0, .inr (5, [.null, .null, .null, .null, .null, .null, .null, .null, .null, .null, .null, .null, .null, .int 0, .int 0, .int 0, .int 0]))] sz)) (va_Qv (fun u : va_W => ∃ q1 : Nat, ∃ q3 : Nat, ∃ q5 : Nat, ∃ q7 : Nat, ∃ q9 : Nat, ∃ q11 : Nat, ∃ q13 : Nat, ∃ q15 : Nat, ∃ q17 : Nat, ∃ q19 : Nat, ∃ q21 : Nat, ∃ q20 : Nat, u = [(h0, .inr (5, [.ref q1, .ref q3, .ref q5, .ref q7, .ref q9, .ref q11, .ref q13, .ref q15, .ref q17, .ref q19, .ref q21, .null, .null, .int 0, .int 0, .int 0, .int 0])), (q19, .inr (1, [.ref q20, .int 0, .int 0])), (q20, .inl (a 0, 72, .inl (fun _ => 0)))]) (kB D a (va_A [(h0, .inr (5, [.null, .null, .null, .null, .null, .null, .null, .null, .null, .null, .null, .null, .null, .int 0, .int 0, .int 0, .int 0]))] sz)) (va_A [(h0, .inr (5, [.null, .null, .null, .null, .null, .null, .null, .null, .null, .null, .null, .null, .null, .int 0, .int 0, .int 0, .int 0]))] sz)) 22 2793 (va_A [(h0, .inr (5, [.null, .null, .null, .null, .null, .null, .null, .null, .null, .null, .null, .null, .null, .int 0, .int 0, .int 0, .int 0]))] sz) :=
  kM (Qc := fun A => va_Qv (fun u : va_W => ∃ q1 : Nat, ∃ q3 : Nat, ∃ q5 : Nat, ∃ q7 : Nat, ∃ q9 : Nat, ∃ q11 : Nat, ∃ q13 : Nat, ∃ q15 : Nat, ∃ q17 : Nat, ∃ q19 : Nat, ∃ q21 : Nat, ∃ q20 : Nat, u = [(h0, .inr (5, [.ref q1, .ref q3, .ref q5, .ref q7, .ref q9, .ref q11, .ref q13, .ref q15, .ref q17, .ref q19, .ref q21, .null, .null, .int 0, .int 0, .int 0, .int 0])), (q19, .inr (1, [.ref q20, .int 0, .int 0])), (q20, .inl (a 0, 72, .inl (fun _ => 0)))]) (kB D a A) A) (by decide) (Nat.le_of_ble_eq_true rfl) (by
    intro p e s m below meth c A ls H locs E hr hlk hnm w hl
    have hx := E.1.1
    have hb := E.1.2.1
    have E : kE p m c b_Gauge_init 1 s [.ref h0].toArray "RootAlgebra$Gauge" D a A := E
    have hl : lv_has ls 1 [(0, .ref h0)] := hl
    have hnm : meth.name = "<init>" := hnm
    refine lv_aload_n hx hb d_Gauge_init_0 rfl (lv_at hl 0 rfl) ?_
    refine kx_obj E hl.1 mw_51 mw_1 mw_2 d_Gauge_init_1 (Nat.le_of_ble_eq_true rfl) (Nat.le_of_ble_eq_true rfl) (Nat.le_of_ble_eq_true rfl) ?_
    refine lv_aload_n hx hb d_Gauge_init_4 rfl (lv_at hl 0 rfl) ?_
    refine kx_new E w zC_Big mw_52 mw_8 mw_9 (fs := [.null, .int 0, .int 0]) z0_Big (Nat.le_of_ble_eq_true rfl) (Nat.le_of_ble_eq_true rfl) d_Gauge_init_5 (fun q1 H w => ?_)
    have w : kW D A s [(h0, .inr (5, [.null, .null, .null, .null, .null, .null, .null, .null, .null, .null, .null, .null, .null, .int 0, .int 0, .int 0, .int 0])), (q1, .inr (1, [.null, .int 0, .int 0]))] H locs := w
    refine lv_dup hx hb d_Gauge_init_8 rfl ?_
    refine lv_sipush (v := 400) hx hb d_Gauge_init_9 (by decide) ?_
    refine kx_v E w (wc := [(q1, .inr (1, [.null, .int 0, .int 0]))]) (wr := [(h0, .inr (5, [.null, .null, .null, .null, .null, .null, .null, .null, .null, .null, .null, .null, .null, .int 0, .int 0, .int 0, .int 0]))]) [1] [0] rfl rfl ⟨rfl, rfl, by decide⟩ (kx_rI E w hl.1 (As := [.int 400]) (wc := [(q1, .inr (1, [.null, .int 0, .int 0]))]) (c_Big_init_400 l D a q1 H.size) gc_5 gi_Big_init [1] rfl rfl rfl rfl rfl ⟨(Nat.le_of_ble_eq_true rfl), (Nat.le_of_ble_eq_true rfl)⟩ rfl (Nat.le_of_ble_eq_true rfl) d_Gauge_init_12 ⟨(Nat.le_of_ble_eq_true rfl), (Nat.le_of_ble_eq_true rfl)⟩) (fun u H locs hu w => ?_)
    obtain ⟨q2, rfl⟩ := hu
    have w : kW D A s [(h0, .inr (5, [.null, .null, .null, .null, .null, .null, .null, .null, .null, .null, .null, .null, .null, .int 0, .int 0, .int 0, .int 0])), (q1, .inr (1, [.ref q2, .int 0, .int 0])), (q2, .inl (a 0, 400, .inl (fun _ => 0)))] H locs := w
    refine kx_putF E w zC_Gauge hnm 0 rfl 0 (by decide) mw_54 rfl rfl rfl rfl (Nat.le_of_ble_eq_true rfl) d_Gauge_init_15 (ws' := [(h0, .inr (5, [.ref q1, .null, .null, .null, .null, .null, .null, .null, .null, .null, .null, .null, .null, .int 0, .int 0, .int 0, .int 0])), (q1, .inr (1, [.ref q2, .int 0, .int 0])), (q2, .inl (a 0, 400, .inl (fun _ => 0)))]) rfl (fun H locs w => ?_)
    have w := kW_sub w (ws' := [(h0, .inr (5, [.ref q1, .null, .null, .null, .null, .null, .null, .null, .null, .null, .null, .null, .null, .int 0, .int 0, .int 0, .int 0]))]) [0] rfl rfl
    refine lv_aload_n hx hb d_Gauge_init_18 rfl (lv_at hl 0 rfl) ?_
    refine kx_new E w zC_Big mw_52 mw_8 mw_9 (fs := [.null, .int 0, .int 0]) z0_Big (Nat.le_of_ble_eq_true rfl) (Nat.le_of_ble_eq_true rfl) d_Gauge_init_19 (fun q3 H w => ?_)
    have w : kW D A s [(h0, .inr (5, [.ref q1, .null, .null, .null, .null, .null, .null, .null, .null, .null, .null, .null, .null, .int 0, .int 0, .int 0, .int 0])), (q3, .inr (1, [.null, .int 0, .int 0]))] H locs := w
    refine lv_dup hx hb d_Gauge_init_22 rfl ?_
    refine lv_sipush (v := 400) hx hb d_Gauge_init_23 (by decide) ?_
    refine kx_v E w (wc := [(q3, .inr (1, [.null, .int 0, .int 0]))]) (wr := [(h0, .inr (5, [.ref q1, .null, .null, .null, .null, .null, .null, .null, .null, .null, .null, .null, .null, .int 0, .int 0, .int 0, .int 0]))]) [1] [0] rfl rfl ⟨rfl, rfl, by decide⟩ (kx_rI E w hl.1 (As := [.int 400]) (wc := [(q3, .inr (1, [.null, .int 0, .int 0]))]) (c_Big_init_400 l D a q3 H.size) gc_5 gi_Big_init [1] rfl rfl rfl rfl rfl ⟨(Nat.le_of_ble_eq_true rfl), (Nat.le_of_ble_eq_true rfl)⟩ rfl (Nat.le_of_ble_eq_true rfl) d_Gauge_init_26 ⟨(Nat.le_of_ble_eq_true rfl), (Nat.le_of_ble_eq_true rfl)⟩) (fun u H locs hu w => ?_)
    obtain ⟨q4, rfl⟩ := hu
    have w : kW D A s [(h0, .inr (5, [.ref q1, .null, .null, .null, .null, .null, .null, .null, .null, .null, .null, .null, .null, .int 0, .int 0, .int 0, .int 0])), (q3, .inr (1, [.ref q4, .int 0, .int 0])), (q4, .inl (a 0, 400, .inl (fun _ => 0)))] H locs := w
    refine kx_putF E w zC_Gauge hnm 0 rfl 1 (by decide) mw_55 rfl rfl rfl rfl (Nat.le_of_ble_eq_true rfl) d_Gauge_init_29 (ws' := [(h0, .inr (5, [.ref q1, .ref q3, .null, .null, .null, .null, .null, .null, .null, .null, .null, .null, .null, .int 0, .int 0, .int 0, .int 0])), (q3, .inr (1, [.ref q4, .int 0, .int 0])), (q4, .inl (a 0, 400, .inl (fun _ => 0)))]) rfl (fun H locs w => ?_)
    have w := kW_sub w (ws' := [(h0, .inr (5, [.ref q1, .ref q3, .null, .null, .null, .null, .null, .null, .null, .null, .null, .null, .null, .int 0, .int 0, .int 0, .int 0]))]) [0] rfl rfl
    refine lv_aload_n hx hb d_Gauge_init_32 rfl (lv_at hl 0 rfl) ?_
    refine kx_new E w zC_Big mw_52 mw_8 mw_9 (fs := [.null, .int 0, .int 0]) z0_Big (Nat.le_of_ble_eq_true rfl) (Nat.le_of_ble_eq_true rfl) d_Gauge_init_33 (fun q5 H w => ?_)
    have w : kW D A s [(h0, .inr (5, [.ref q1, .ref q3, .null, .null, .null, .null, .null, .null, .null, .null, .null, .null, .null, .int 0, .int 0, .int 0, .int 0])), (q5, .inr (1, [.null, .int 0, .int 0]))] H locs := w
    refine lv_dup hx hb d_Gauge_init_36 rfl ?_
    refine lv_sipush (v := 400) hx hb d_Gauge_init_37 (by decide) ?_
    refine kx_v E w (wc := [(q5, .inr (1, [.null, .int 0, .int 0]))]) (wr := [(h0, .inr (5, [.ref q1, .ref q3, .null, .null, .null, .null, .null, .null, .null, .null, .null, .null, .null, .int 0, .int 0, .int 0, .int 0]))]) [1] [0] rfl rfl ⟨rfl, rfl, by decide⟩ (kx_rI E w hl.1 (As := [.int 400]) (wc := [(q5, .inr (1, [.null, .int 0, .int 0]))]) (c_Big_init_400 l D a q5 H.size) gc_5 gi_Big_init [1] rfl rfl rfl rfl rfl ⟨(Nat.le_of_ble_eq_true rfl), (Nat.le_of_ble_eq_true rfl)⟩ rfl (Nat.le_of_ble_eq_true rfl) d_Gauge_init_40 ⟨(Nat.le_of_ble_eq_true rfl), (Nat.le_of_ble_eq_true rfl)⟩) (fun u H locs hu w => ?_)
    obtain ⟨q6, rfl⟩ := hu
    have w : kW D A s [(h0, .inr (5, [.ref q1, .ref q3, .null, .null, .null, .null, .null, .null, .null, .null, .null, .null, .null, .int 0, .int 0, .int 0, .int 0])), (q5, .inr (1, [.ref q6, .int 0, .int 0])), (q6, .inl (a 0, 400, .inl (fun _ => 0)))] H locs := w
    refine kx_putF E w zC_Gauge hnm 0 rfl 2 (by decide) mw_56 rfl rfl rfl rfl (Nat.le_of_ble_eq_true rfl) d_Gauge_init_43 (ws' := [(h0, .inr (5, [.ref q1, .ref q3, .ref q5, .null, .null, .null, .null, .null, .null, .null, .null, .null, .null, .int 0, .int 0, .int 0, .int 0])), (q5, .inr (1, [.ref q6, .int 0, .int 0])), (q6, .inl (a 0, 400, .inl (fun _ => 0)))]) rfl (fun H locs w => ?_)
    have w := kW_sub w (ws' := [(h0, .inr (5, [.ref q1, .ref q3, .ref q5, .null, .null, .null, .null, .null, .null, .null, .null, .null, .null, .int 0, .int 0, .int 0, .int 0]))]) [0] rfl rfl
    refine lv_aload_n hx hb d_Gauge_init_46 rfl (lv_at hl 0 rfl) ?_
    refine kx_new E w zC_Big mw_52 mw_8 mw_9 (fs := [.null, .int 0, .int 0]) z0_Big (Nat.le_of_ble_eq_true rfl) (Nat.le_of_ble_eq_true rfl) d_Gauge_init_47 (fun q7 H w => ?_)
    have w : kW D A s [(h0, .inr (5, [.ref q1, .ref q3, .ref q5, .null, .null, .null, .null, .null, .null, .null, .null, .null, .null, .int 0, .int 0, .int 0, .int 0])), (q7, .inr (1, [.null, .int 0, .int 0]))] H locs := w
    refine lv_dup hx hb d_Gauge_init_50 rfl ?_
    refine lv_sipush (v := 400) hx hb d_Gauge_init_51 (by decide) ?_
    refine kx_v E w (wc := [(q7, .inr (1, [.null, .int 0, .int 0]))]) (wr := [(h0, .inr (5, [.ref q1, .ref q3, .ref q5, .null, .null, .null, .null, .null, .null, .null, .null, .null, .null, .int 0, .int 0, .int 0, .int 0]))]) [1] [0] rfl rfl ⟨rfl, rfl, by decide⟩ (kx_rI E w hl.1 (As := [.int 400]) (wc := [(q7, .inr (1, [.null, .int 0, .int 0]))]) (c_Big_init_400 l D a q7 H.size) gc_5 gi_Big_init [1] rfl rfl rfl rfl rfl ⟨(Nat.le_of_ble_eq_true rfl), (Nat.le_of_ble_eq_true rfl)⟩ rfl (Nat.le_of_ble_eq_true rfl) d_Gauge_init_54 ⟨(Nat.le_of_ble_eq_true rfl), (Nat.le_of_ble_eq_true rfl)⟩) (fun u H locs hu w => ?_)
    obtain ⟨q8, rfl⟩ := hu
    have w : kW D A s [(h0, .inr (5, [.ref q1, .ref q3, .ref q5, .null, .null, .null, .null, .null, .null, .null, .null, .null, .null, .int 0, .int 0, .int 0, .int 0])), (q7, .inr (1, [.ref q8, .int 0, .int 0])), (q8, .inl (a 0, 400, .inl (fun _ => 0)))] H locs := w
    refine kx_putF E w zC_Gauge hnm 0 rfl 3 (by decide) mw_57 rfl rfl rfl rfl (Nat.le_of_ble_eq_true rfl) d_Gauge_init_57 (ws' := [(h0, .inr (5, [.ref q1, .ref q3, .ref q5, .ref q7, .null, .null, .null, .null, .null, .null, .null, .null, .null, .int 0, .int 0, .int 0, .int 0])), (q7, .inr (1, [.ref q8, .int 0, .int 0])), (q8, .inl (a 0, 400, .inl (fun _ => 0)))]) rfl (fun H locs w => ?_)
    have w := kW_sub w (ws' := [(h0, .inr (5, [.ref q1, .ref q3, .ref q5, .ref q7, .null, .null, .null, .null, .null, .null, .null, .null, .null, .int 0, .int 0, .int 0, .int 0]))]) [0] rfl rfl
    refine lv_aload_n hx hb d_Gauge_init_60 rfl (lv_at hl 0 rfl) ?_
    refine kx_new E w zC_Big mw_52 mw_8 mw_9 (fs := [.null, .int 0, .int 0]) z0_Big (Nat.le_of_ble_eq_true rfl) (Nat.le_of_ble_eq_true rfl) d_Gauge_init_61 (fun q9 H w => ?_)
    have w : kW D A s [(h0, .inr (5, [.ref q1, .ref q3, .ref q5, .ref q7, .null, .null, .null, .null, .null, .null, .null, .null, .null, .int 0, .int 0, .int 0, .int 0])), (q9, .inr (1, [.null, .int 0, .int 0]))] H locs := w
    refine lv_dup hx hb d_Gauge_init_64 rfl ?_
    refine lv_bipush (v := 72) hx hb d_Gauge_init_65 (by decide) ?_
    refine kx_v E w (wc := [(q9, .inr (1, [.null, .int 0, .int 0]))]) (wr := [(h0, .inr (5, [.ref q1, .ref q3, .ref q5, .ref q7, .null, .null, .null, .null, .null, .null, .null, .null, .null, .int 0, .int 0, .int 0, .int 0]))]) [1] [0] rfl rfl ⟨rfl, rfl, by decide⟩ (kx_rI E w hl.1 (As := [.int 72]) (wc := [(q9, .inr (1, [.null, .int 0, .int 0]))]) (c_Big_init_72 l D a q9 H.size) gc_5 gi_Big_init [1] rfl rfl rfl rfl rfl ⟨(Nat.le_of_ble_eq_true rfl), (Nat.le_of_ble_eq_true rfl)⟩ rfl (Nat.le_of_ble_eq_true rfl) d_Gauge_init_67 ⟨(Nat.le_of_ble_eq_true rfl), (Nat.le_of_ble_eq_true rfl)⟩) (fun u H locs hu w => ?_)
    obtain ⟨q10, rfl⟩ := hu
    have w : kW D A s [(h0, .inr (5, [.ref q1, .ref q3, .ref q5, .ref q7, .null, .null, .null, .null, .null, .null, .null, .null, .null, .int 0, .int 0, .int 0, .int 0])), (q9, .inr (1, [.ref q10, .int 0, .int 0])), (q10, .inl (a 0, 72, .inl (fun _ => 0)))] H locs := w
    refine kx_putF E w zC_Gauge hnm 0 rfl 4 (by decide) mw_58 rfl rfl rfl rfl (Nat.le_of_ble_eq_true rfl) d_Gauge_init_70 (ws' := [(h0, .inr (5, [.ref q1, .ref q3, .ref q5, .ref q7, .ref q9, .null, .null, .null, .null, .null, .null, .null, .null, .int 0, .int 0, .int 0, .int 0])), (q9, .inr (1, [.ref q10, .int 0, .int 0])), (q10, .inl (a 0, 72, .inl (fun _ => 0)))]) rfl (fun H locs w => ?_)
    have w := kW_sub w (ws' := [(h0, .inr (5, [.ref q1, .ref q3, .ref q5, .ref q7, .ref q9, .null, .null, .null, .null, .null, .null, .null, .null, .int 0, .int 0, .int 0, .int 0]))]) [0] rfl rfl
    refine lv_aload_n hx hb d_Gauge_init_73 rfl (lv_at hl 0 rfl) ?_
    refine kx_new E w zC_Big mw_52 mw_8 mw_9 (fs := [.null, .int 0, .int 0]) z0_Big (Nat.le_of_ble_eq_true rfl) (Nat.le_of_ble_eq_true rfl) d_Gauge_init_74 (fun q11 H w => ?_)
    have w : kW D A s [(h0, .inr (5, [.ref q1, .ref q3, .ref q5, .ref q7, .ref q9, .null, .null, .null, .null, .null, .null, .null, .null, .int 0, .int 0, .int 0, .int 0])), (q11, .inr (1, [.null, .int 0, .int 0]))] H locs := w
    refine lv_dup hx hb d_Gauge_init_77 rfl ?_
    refine lv_bipush (v := 72) hx hb d_Gauge_init_78 (by decide) ?_
    refine kx_v E w (wc := [(q11, .inr (1, [.null, .int 0, .int 0]))]) (wr := [(h0, .inr (5, [.ref q1, .ref q3, .ref q5, .ref q7, .ref q9, .null, .null, .null, .null, .null, .null, .null, .null, .int 0, .int 0, .int 0, .int 0]))]) [1] [0] rfl rfl ⟨rfl, rfl, by decide⟩ (kx_rI E w hl.1 (As := [.int 72]) (wc := [(q11, .inr (1, [.null, .int 0, .int 0]))]) (c_Big_init_72 l D a q11 H.size) gc_5 gi_Big_init [1] rfl rfl rfl rfl rfl ⟨(Nat.le_of_ble_eq_true rfl), (Nat.le_of_ble_eq_true rfl)⟩ rfl (Nat.le_of_ble_eq_true rfl) d_Gauge_init_80 ⟨(Nat.le_of_ble_eq_true rfl), (Nat.le_of_ble_eq_true rfl)⟩) (fun u H locs hu w => ?_)
    obtain ⟨q12, rfl⟩ := hu
    have w : kW D A s [(h0, .inr (5, [.ref q1, .ref q3, .ref q5, .ref q7, .ref q9, .null, .null, .null, .null, .null, .null, .null, .null, .int 0, .int 0, .int 0, .int 0])), (q11, .inr (1, [.ref q12, .int 0, .int 0])), (q12, .inl (a 0, 72, .inl (fun _ => 0)))] H locs := w
    refine kx_putF E w zC_Gauge hnm 0 rfl 5 (by decide) mw_59 rfl rfl rfl rfl (Nat.le_of_ble_eq_true rfl) d_Gauge_init_83 (ws' := [(h0, .inr (5, [.ref q1, .ref q3, .ref q5, .ref q7, .ref q9, .ref q11, .null, .null, .null, .null, .null, .null, .null, .int 0, .int 0, .int 0, .int 0])), (q11, .inr (1, [.ref q12, .int 0, .int 0])), (q12, .inl (a 0, 72, .inl (fun _ => 0)))]) rfl (fun H locs w => ?_)
    have w := kW_sub w (ws' := [(h0, .inr (5, [.ref q1, .ref q3, .ref q5, .ref q7, .ref q9, .ref q11, .null, .null, .null, .null, .null, .null, .null, .int 0, .int 0, .int 0, .int 0]))]) [0] rfl rfl
    refine lv_aload_n hx hb d_Gauge_init_86 rfl (lv_at hl 0 rfl) ?_
    refine kx_new E w zC_Big mw_52 mw_8 mw_9 (fs := [.null, .int 0, .int 0]) z0_Big (Nat.le_of_ble_eq_true rfl) (Nat.le_of_ble_eq_true rfl) d_Gauge_init_87 (fun q13 H w => ?_)
    have w : kW D A s [(h0, .inr (5, [.ref q1, .ref q3, .ref q5, .ref q7, .ref q9, .ref q11, .null, .null, .null, .null, .null, .null, .null, .int 0, .int 0, .int 0, .int 0])), (q13, .inr (1, [.null, .int 0, .int 0]))] H locs := w
    refine lv_dup hx hb d_Gauge_init_90 rfl ?_
    refine lv_sipush (v := 400) hx hb d_Gauge_init_91 (by decide) ?_
    refine kx_v E w (wc := [(q13, .inr (1, [.null, .int 0, .int 0]))]) (wr := [(h0, .inr (5, [.ref q1, .ref q3, .ref q5, .ref q7, .ref q9, .ref q11, .null, .null, .null, .null, .null, .null, .null, .int 0, .int 0, .int 0, .int 0]))]) [1] [0] rfl rfl ⟨rfl, rfl, by decide⟩ (kx_rI E w hl.1 (As := [.int 400]) (wc := [(q13, .inr (1, [.null, .int 0, .int 0]))]) (c_Big_init_400 l D a q13 H.size) gc_5 gi_Big_init [1] rfl rfl rfl rfl rfl ⟨(Nat.le_of_ble_eq_true rfl), (Nat.le_of_ble_eq_true rfl)⟩ rfl (Nat.le_of_ble_eq_true rfl) d_Gauge_init_94 ⟨(Nat.le_of_ble_eq_true rfl), (Nat.le_of_ble_eq_true rfl)⟩) (fun u H locs hu w => ?_)
    obtain ⟨q14, rfl⟩ := hu
    have w : kW D A s [(h0, .inr (5, [.ref q1, .ref q3, .ref q5, .ref q7, .ref q9, .ref q11, .null, .null, .null, .null, .null, .null, .null, .int 0, .int 0, .int 0, .int 0])), (q13, .inr (1, [.ref q14, .int 0, .int 0])), (q14, .inl (a 0, 400, .inl (fun _ => 0)))] H locs := w
    refine kx_putF E w zC_Gauge hnm 0 rfl 6 (by decide) mw_60 rfl rfl rfl rfl (Nat.le_of_ble_eq_true rfl) d_Gauge_init_97 (ws' := [(h0, .inr (5, [.ref q1, .ref q3, .ref q5, .ref q7, .ref q9, .ref q11, .ref q13, .null, .null, .null, .null, .null, .null, .int 0, .int 0, .int 0, .int 0])), (q13, .inr (1, [.ref q14, .int 0, .int 0])), (q14, .inl (a 0, 400, .inl (fun _ => 0)))]) rfl (fun H locs w => ?_)
    have w := kW_sub w (ws' := [(h0, .inr (5, [.ref q1, .ref q3, .ref q5, .ref q7, .ref q9, .ref q11, .ref q13, .null, .null, .null, .null, .null, .null, .int 0, .int 0, .int 0, .int 0]))]) [0] rfl rfl
    refine lv_aload_n hx hb d_Gauge_init_100 rfl (lv_at hl 0 rfl) ?_
    refine kx_new E w zC_Big mw_52 mw_8 mw_9 (fs := [.null, .int 0, .int 0]) z0_Big (Nat.le_of_ble_eq_true rfl) (Nat.le_of_ble_eq_true rfl) d_Gauge_init_101 (fun q15 H w => ?_)
    have w : kW D A s [(h0, .inr (5, [.ref q1, .ref q3, .ref q5, .ref q7, .ref q9, .ref q11, .ref q13, .null, .null, .null, .null, .null, .null, .int 0, .int 0, .int 0, .int 0])), (q15, .inr (1, [.null, .int 0, .int 0]))] H locs := w
    refine lv_dup hx hb d_Gauge_init_104 rfl ?_
    refine lv_sipush (v := 400) hx hb d_Gauge_init_105 (by decide) ?_
    refine kx_v E w (wc := [(q15, .inr (1, [.null, .int 0, .int 0]))]) (wr := [(h0, .inr (5, [.ref q1, .ref q3, .ref q5, .ref q7, .ref q9, .ref q11, .ref q13, .null, .null, .null, .null, .null, .null, .int 0, .int 0, .int 0, .int 0]))]) [1] [0] rfl rfl ⟨rfl, rfl, by decide⟩ (kx_rI E w hl.1 (As := [.int 400]) (wc := [(q15, .inr (1, [.null, .int 0, .int 0]))]) (c_Big_init_400 l D a q15 H.size) gc_5 gi_Big_init [1] rfl rfl rfl rfl rfl ⟨(Nat.le_of_ble_eq_true rfl), (Nat.le_of_ble_eq_true rfl)⟩ rfl (Nat.le_of_ble_eq_true rfl) d_Gauge_init_108 ⟨(Nat.le_of_ble_eq_true rfl), (Nat.le_of_ble_eq_true rfl)⟩) (fun u H locs hu w => ?_)
    obtain ⟨q16, rfl⟩ := hu
    have w : kW D A s [(h0, .inr (5, [.ref q1, .ref q3, .ref q5, .ref q7, .ref q9, .ref q11, .ref q13, .null, .null, .null, .null, .null, .null, .int 0, .int 0, .int 0, .int 0])), (q15, .inr (1, [.ref q16, .int 0, .int 0])), (q16, .inl (a 0, 400, .inl (fun _ => 0)))] H locs := w
    refine kx_putF E w zC_Gauge hnm 0 rfl 7 (by decide) mw_61 rfl rfl rfl rfl (Nat.le_of_ble_eq_true rfl) d_Gauge_init_111 (ws' := [(h0, .inr (5, [.ref q1, .ref q3, .ref q5, .ref q7, .ref q9, .ref q11, .ref q13, .ref q15, .null, .null, .null, .null, .null, .int 0, .int 0, .int 0, .int 0])), (q15, .inr (1, [.ref q16, .int 0, .int 0])), (q16, .inl (a 0, 400, .inl (fun _ => 0)))]) rfl (fun H locs w => ?_)
    have w := kW_sub w (ws' := [(h0, .inr (5, [.ref q1, .ref q3, .ref q5, .ref q7, .ref q9, .ref q11, .ref q13, .ref q15, .null, .null, .null, .null, .null, .int 0, .int 0, .int 0, .int 0]))]) [0] rfl rfl
    refine lv_aload_n hx hb d_Gauge_init_114 rfl (lv_at hl 0 rfl) ?_
    refine kx_new E w zC_Big mw_52 mw_8 mw_9 (fs := [.null, .int 0, .int 0]) z0_Big (Nat.le_of_ble_eq_true rfl) (Nat.le_of_ble_eq_true rfl) d_Gauge_init_115 (fun q17 H w => ?_)
    have w : kW D A s [(h0, .inr (5, [.ref q1, .ref q3, .ref q5, .ref q7, .ref q9, .ref q11, .ref q13, .ref q15, .null, .null, .null, .null, .null, .int 0, .int 0, .int 0, .int 0])), (q17, .inr (1, [.null, .int 0, .int 0]))] H locs := w
    refine lv_dup hx hb d_Gauge_init_118 rfl ?_
    refine lv_bipush (v := 72) hx hb d_Gauge_init_119 (by decide) ?_
    refine kx_v E w (wc := [(q17, .inr (1, [.null, .int 0, .int 0]))]) (wr := [(h0, .inr (5, [.ref q1, .ref q3, .ref q5, .ref q7, .ref q9, .ref q11, .ref q13, .ref q15, .null, .null, .null, .null, .null, .int 0, .int 0, .int 0, .int 0]))]) [1] [0] rfl rfl ⟨rfl, rfl, by decide⟩ (kx_rI E w hl.1 (As := [.int 72]) (wc := [(q17, .inr (1, [.null, .int 0, .int 0]))]) (c_Big_init_72 l D a q17 H.size) gc_5 gi_Big_init [1] rfl rfl rfl rfl rfl ⟨(Nat.le_of_ble_eq_true rfl), (Nat.le_of_ble_eq_true rfl)⟩ rfl (Nat.le_of_ble_eq_true rfl) d_Gauge_init_121 ⟨(Nat.le_of_ble_eq_true rfl), (Nat.le_of_ble_eq_true rfl)⟩) (fun u H locs hu w => ?_)
    obtain ⟨q18, rfl⟩ := hu
    have w : kW D A s [(h0, .inr (5, [.ref q1, .ref q3, .ref q5, .ref q7, .ref q9, .ref q11, .ref q13, .ref q15, .null, .null, .null, .null, .null, .int 0, .int 0, .int 0, .int 0])), (q17, .inr (1, [.ref q18, .int 0, .int 0])), (q18, .inl (a 0, 72, .inl (fun _ => 0)))] H locs := w
    refine kx_putF E w zC_Gauge hnm 0 rfl 8 (by decide) mw_62 rfl rfl rfl rfl (Nat.le_of_ble_eq_true rfl) d_Gauge_init_124 (ws' := [(h0, .inr (5, [.ref q1, .ref q3, .ref q5, .ref q7, .ref q9, .ref q11, .ref q13, .ref q15, .ref q17, .null, .null, .null, .null, .int 0, .int 0, .int 0, .int 0])), (q17, .inr (1, [.ref q18, .int 0, .int 0])), (q18, .inl (a 0, 72, .inl (fun _ => 0)))]) rfl (fun H locs w => ?_)
    have w := kW_sub w (ws' := [(h0, .inr (5, [.ref q1, .ref q3, .ref q5, .ref q7, .ref q9, .ref q11, .ref q13, .ref q15, .ref q17, .null, .null, .null, .null, .int 0, .int 0, .int 0, .int 0]))]) [0] rfl rfl
    refine lv_aload_n hx hb d_Gauge_init_127 rfl (lv_at hl 0 rfl) ?_
    refine kx_new E w zC_Big mw_52 mw_8 mw_9 (fs := [.null, .int 0, .int 0]) z0_Big (Nat.le_of_ble_eq_true rfl) (Nat.le_of_ble_eq_true rfl) d_Gauge_init_128 (fun q19 H w => ?_)
    have w : kW D A s [(h0, .inr (5, [.ref q1, .ref q3, .ref q5, .ref q7, .ref q9, .ref q11, .ref q13, .ref q15, .ref q17, .null, .null, .null, .null, .int 0, .int 0, .int 0, .int 0])), (q19, .inr (1, [.null, .int 0, .int 0]))] H locs := w
    refine lv_dup hx hb d_Gauge_init_131 rfl ?_
    refine lv_bipush (v := 72) hx hb d_Gauge_init_132 (by decide) ?_
    refine kx_v E w (wc := [(q19, .inr (1, [.null, .int 0, .int 0]))]) (wr := [(h0, .inr (5, [.ref q1, .ref q3, .ref q5, .ref q7, .ref q9, .ref q11, .ref q13, .ref q15, .ref q17, .null, .null, .null, .null, .int 0, .int 0, .int 0, .int 0]))]) [1] [0] rfl rfl ⟨rfl, rfl, by decide⟩ (kx_rI E w hl.1 (As := [.int 72]) (wc := [(q19, .inr (1, [.null, .int 0, .int 0]))]) (c_Big_init_72 l D a q19 H.size) gc_5 gi_Big_init [1] rfl rfl rfl rfl rfl ⟨(Nat.le_of_ble_eq_true rfl), (Nat.le_of_ble_eq_true rfl)⟩ rfl (Nat.le_of_ble_eq_true rfl) d_Gauge_init_134 ⟨(Nat.le_of_ble_eq_true rfl), (Nat.le_of_ble_eq_true rfl)⟩) (fun u H locs hu w => ?_)
    obtain ⟨q20, rfl⟩ := hu
    have w : kW D A s [(h0, .inr (5, [.ref q1, .ref q3, .ref q5, .ref q7, .ref q9, .ref q11, .ref q13, .ref q15, .ref q17, .null, .null, .null, .null, .int 0, .int 0, .int 0, .int 0])), (q19, .inr (1, [.ref q20, .int 0, .int 0])), (q20, .inl (a 0, 72, .inl (fun _ => 0)))] H locs := w
    refine kx_putF E w zC_Gauge hnm 0 rfl 9 (by decide) mw_63 rfl rfl rfl rfl (Nat.le_of_ble_eq_true rfl) d_Gauge_init_137 (ws' := [(h0, .inr (5, [.ref q1, .ref q3, .ref q5, .ref q7, .ref q9, .ref q11, .ref q13, .ref q15, .ref q17, .ref q19, .null, .null, .null, .int 0, .int 0, .int 0, .int 0])), (q19, .inr (1, [.ref q20, .int 0, .int 0])), (q20, .inl (a 0, 72, .inl (fun _ => 0)))]) rfl (fun H locs w => ?_)
    refine lv_aload_n hx hb d_Gauge_init_140 rfl (lv_at hl 0 rfl) ?_
    refine kx_new E w zC_Big mw_52 mw_8 mw_9 (fs := [.null, .int 0, .int 0]) z0_Big (Nat.le_of_ble_eq_true rfl) (Nat.le_of_ble_eq_true rfl) d_Gauge_init_141 (fun q21 H w => ?_)
    have w : kW D A s [(h0, .inr (5, [.ref q1, .ref q3, .ref q5, .ref q7, .ref q9, .ref q11, .ref q13, .ref q15, .ref q17, .ref q19, .null, .null, .null, .int 0, .int 0, .int 0, .int 0])), (q19, .inr (1, [.ref q20, .int 0, .int 0])), (q20, .inl (a 0, 72, .inl (fun _ => 0))), (q21, .inr (1, [.null, .int 0, .int 0]))] H locs := w
    refine lv_dup hx hb d_Gauge_init_144 rfl ?_
    refine lv_bipush (v := 72) hx hb d_Gauge_init_145 (by decide) ?_
    refine kx_v E w (wc := [(q21, .inr (1, [.null, .int 0, .int 0]))]) (wr := [(h0, .inr (5, [.ref q1, .ref q3, .ref q5, .ref q7, .ref q9, .ref q11, .ref q13, .ref q15, .ref q17, .ref q19, .null, .null, .null, .int 0, .int 0, .int 0, .int 0])), (q19, .inr (1, [.ref q20, .int 0, .int 0])), (q20, .inl (a 0, 72, .inl (fun _ => 0)))]) [3] [0, 1, 2] rfl rfl ⟨rfl, rfl, by decide⟩ (kx_rI E w hl.1 (As := [.int 72]) (wc := [(q21, .inr (1, [.null, .int 0, .int 0]))]) (c_Big_init_72 l D a q21 H.size) gc_5 gi_Big_init [3] rfl rfl rfl rfl rfl ⟨(Nat.le_of_ble_eq_true rfl), (Nat.le_of_ble_eq_true rfl)⟩ rfl (Nat.le_of_ble_eq_true rfl) d_Gauge_init_147 ⟨(Nat.le_of_ble_eq_true rfl), (Nat.le_of_ble_eq_true rfl)⟩) (fun u H locs hu w => ?_)
    obtain ⟨q22, rfl⟩ := hu
    have w : kW D A s [(h0, .inr (5, [.ref q1, .ref q3, .ref q5, .ref q7, .ref q9, .ref q11, .ref q13, .ref q15, .ref q17, .ref q19, .null, .null, .null, .int 0, .int 0, .int 0, .int 0])), (q19, .inr (1, [.ref q20, .int 0, .int 0])), (q20, .inl (a 0, 72, .inl (fun _ => 0))), (q21, .inr (1, [.ref q22, .int 0, .int 0])), (q22, .inl (a 0, 72, .inl (fun _ => 0)))] H locs := w
    refine kx_putF E w zC_Gauge hnm 0 rfl 10 (by decide) mw_64 rfl rfl rfl rfl (Nat.le_of_ble_eq_true rfl) d_Gauge_init_150 (ws' := [(h0, .inr (5, [.ref q1, .ref q3, .ref q5, .ref q7, .ref q9, .ref q11, .ref q13, .ref q15, .ref q17, .ref q19, .ref q21, .null, .null, .int 0, .int 0, .int 0, .int 0])), (q19, .inr (1, [.ref q20, .int 0, .int 0])), (q20, .inl (a 0, 72, .inl (fun _ => 0))), (q21, .inr (1, [.ref q22, .int 0, .int 0])), (q22, .inl (a 0, 72, .inl (fun _ => 0)))]) rfl (fun H locs w => ?_)
    have w := kW_sub w (ws' := [(h0, .inr (5, [.ref q1, .ref q3, .ref q5, .ref q7, .ref q9, .ref q11, .ref q13, .ref q15, .ref q17, .ref q19, .ref q21, .null, .null, .int 0, .int 0, .int 0, .int 0])), (q19, .inr (1, [.ref q20, .int 0, .int 0])), (q20, .inl (a 0, 72, .inl (fun _ => 0)))]) [0, 1, 2] rfl rfl
    refine W.widen (k := 22) (n := 2793) (Nat.le_of_ble_eq_true rfl) (Nat.le_of_ble_eq_true rfl) ?_
    exact kx_vret E w hr hlk d_Gauge_init_153 ⟨q1, q3, q5, q7, q9, q11, q13, q15, q17, q19, q21, q20, rfl⟩)
