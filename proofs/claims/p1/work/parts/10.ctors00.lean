/-! laid by program (wip/gen) -/
set_option maxRecDepth 100000 in
set_option maxHeartbeats 4000000 in
theorem c_Big_init_8 (l : Launch) (D : va_G) (a : Nat → ClassId) (h0 : Nat) : ∀ sz : Nat, Met l y_Big_init (Cond.code y_Big_init b_Big_init 2 none :: wA) ({ frames := 1, cells := 1, slots := 8, locals := 20 } : Room) (va_Pc [.ref h0, .int 8] (kP D a [(h0, .inr (1, [.null, .int 0, .int 0]))] sz)) (va_Qv (fun u : va_W => ∃ q1 : Nat, u = [(h0, .inr (1, [.ref q1, .int 0, .int 0])), (q1, .inl (a 0, 8, .inl (fun _ => 0)))]) (kB D a (va_A [(h0, .inr (1, [.null, .int 0, .int 0]))] sz)) (va_A [(h0, .inr (1, [.null, .int 0, .int 0]))] sz)) 1 8 (va_A [(h0, .inr (1, [.null, .int 0, .int 0]))] sz) :=
  kM (Qc := fun A => va_Qv (fun u : va_W => ∃ q1 : Nat, u = [(h0, .inr (1, [.ref q1, .int 0, .int 0])), (q1, .inl (a 0, 8, .inl (fun _ => 0)))]) (kB D a A) A) (by decide) (Nat.le_of_ble_eq_true rfl) (by
    intro p e s m below meth c A ls H locs E hr hlk hnm w hl
    have hx := E.1.1
    have hb := E.1.2.1
    have E : kE p m c b_Big_init 2 s [.ref h0, .int 8].toArray "RootAlgebra$Big" D a A := E
    have hl : lv_has ls 2 [(0, .ref h0), (1, .int 8)] := hl
    have hnm : meth.name = "<init>" := hnm
    refine lv_aload_n hx hb d_Big_init_0 rfl (lv_at hl 0 rfl) ?_
    refine kx_obj E hl.1 mw_0 mw_1 mw_2 d_Big_init_1 (Nat.le_of_ble_eq_true rfl) (Nat.le_of_ble_eq_true rfl) (Nat.le_of_ble_eq_true rfl) ?_
    refine lv_aload_n hx hb d_Big_init_4 rfl (lv_at hl 0 rfl) ?_
    refine lv_iload_n hx hb d_Big_init_5 rfl (lv_at hl 1 rfl) ?_
    refine kx_newa (atype := .int) E w rfl mw_3 0 rfl (N' := 8) (a0 := (8, .inl (fun _ => 0))) (fun _ => rfl) (by decide) (by decide) (by decide) (Nat.le_of_ble_eq_true rfl) (Nat.le_of_ble_eq_true rfl) d_Big_init_6 (fun q1 H w => ?_)
    have w : kW D A s [(h0, .inr (1, [.null, .int 0, .int 0])), (q1, .inl (a 0, 8, .inl (fun _ => 0)))] H locs := w
    refine kx_putF E w zC_Big hnm 0 rfl 0 (by decide) mw_4 rfl rfl rfl rfl (Nat.le_of_ble_eq_true rfl) d_Big_init_8 (ws' := [(h0, .inr (1, [.ref q1, .int 0, .int 0])), (q1, .inl (a 0, 8, .inl (fun _ => 0)))]) rfl (fun H locs w => ?_)
    refine W.widen (k := 1) (n := 8) (Nat.le_of_ble_eq_true rfl) (Nat.le_of_ble_eq_true rfl) ?_
    exact kx_vret E w hr hlk d_Big_init_11 ⟨q1, rfl⟩)
set_option maxRecDepth 100000 in
set_option maxHeartbeats 4000000 in
theorem c_Big_init_12 (l : Launch) (D : va_G) (a : Nat → ClassId) (h0 : Nat) : ∀ sz : Nat, Met l y_Big_init (Cond.code y_Big_init b_Big_init 2 none :: wA) ({ frames := 1, cells := 1, slots := 12, locals := 20 } : Room) (va_Pc [.ref h0, .int 12] (kP D a [(h0, .inr (1, [.null, .int 0, .int 0]))] sz)) (va_Qv (fun u : va_W => ∃ q1 : Nat, u = [(h0, .inr (1, [.ref q1, .int 0, .int 0])), (q1, .inl (a 0, 12, .inl (fun _ => 0)))]) (kB D a (va_A [(h0, .inr (1, [.null, .int 0, .int 0]))] sz)) (va_A [(h0, .inr (1, [.null, .int 0, .int 0]))] sz)) 1 12 (va_A [(h0, .inr (1, [.null, .int 0, .int 0]))] sz) :=
  kM (Qc := fun A => va_Qv (fun u : va_W => ∃ q1 : Nat, u = [(h0, .inr (1, [.ref q1, .int 0, .int 0])), (q1, .inl (a 0, 12, .inl (fun _ => 0)))]) (kB D a A) A) (by decide) (Nat.le_of_ble_eq_true rfl) (by
    intro p e s m below meth c A ls H locs E hr hlk hnm w hl
    have hx := E.1.1
    have hb := E.1.2.1
    have E : kE p m c b_Big_init 2 s [.ref h0, .int 12].toArray "RootAlgebra$Big" D a A := E
    have hl : lv_has ls 2 [(0, .ref h0), (1, .int 12)] := hl
    have hnm : meth.name = "<init>" := hnm
    refine lv_aload_n hx hb d_Big_init_0 rfl (lv_at hl 0 rfl) ?_
    refine kx_obj E hl.1 mw_0 mw_1 mw_2 d_Big_init_1 (Nat.le_of_ble_eq_true rfl) (Nat.le_of_ble_eq_true rfl) (Nat.le_of_ble_eq_true rfl) ?_
    refine lv_aload_n hx hb d_Big_init_4 rfl (lv_at hl 0 rfl) ?_
    refine lv_iload_n hx hb d_Big_init_5 rfl (lv_at hl 1 rfl) ?_
    refine kx_newa (atype := .int) E w rfl mw_3 0 rfl (N' := 12) (a0 := (12, .inl (fun _ => 0))) (fun _ => rfl) (by decide) (by decide) (by decide) (Nat.le_of_ble_eq_true rfl) (Nat.le_of_ble_eq_true rfl) d_Big_init_6 (fun q1 H w => ?_)
    have w : kW D A s [(h0, .inr (1, [.null, .int 0, .int 0])), (q1, .inl (a 0, 12, .inl (fun _ => 0)))] H locs := w
    refine kx_putF E w zC_Big hnm 0 rfl 0 (by decide) mw_4 rfl rfl rfl rfl (Nat.le_of_ble_eq_true rfl) d_Big_init_8 (ws' := [(h0, .inr (1, [.ref q1, .int 0, .int 0])), (q1, .inl (a 0, 12, .inl (fun _ => 0)))]) rfl (fun H locs w => ?_)
    refine W.widen (k := 1) (n := 12) (Nat.le_of_ble_eq_true rfl) (Nat.le_of_ble_eq_true rfl) ?_
    exact kx_vret E w hr hlk d_Big_init_11 ⟨q1, rfl⟩)
set_option maxRecDepth 100000 in
set_option maxHeartbeats 4000000 in
theorem c_Big_init_28 (l : Launch) (D : va_G) (a : Nat → ClassId) (h0 : Nat) : ∀ sz : Nat, Met l y_Big_init (Cond.code y_Big_init b_Big_init 2 none :: wA) ({ frames := 1, cells := 1, slots := 28, locals := 20 } : Room) (va_Pc [.ref h0, .int 28] (kP D a [(h0, .inr (1, [.null, .int 0, .int 0]))] sz)) (va_Qv (fun u : va_W => ∃ q1 : Nat, u = [(h0, .inr (1, [.ref q1, .int 0, .int 0])), (q1, .inl (a 0, 28, .inl (fun _ => 0)))]) (kB D a (va_A [(h0, .inr (1, [.null, .int 0, .int 0]))] sz)) (va_A [(h0, .inr (1, [.null, .int 0, .int 0]))] sz)) 1 28 (va_A [(h0, .inr (1, [.null, .int 0, .int 0]))] sz) :=
  kM (Qc := fun A => va_Qv (fun u : va_W => ∃ q1 : Nat, u = [(h0, .inr (1, [.ref q1, .int 0, .int 0])), (q1, .inl (a 0, 28, .inl (fun _ => 0)))]) (kB D a A) A) (by decide) (Nat.le_of_ble_eq_true rfl) (by
    intro p e s m below meth c A ls H locs E hr hlk hnm w hl
    have hx := E.1.1
    have hb := E.1.2.1
    have E : kE p m c b_Big_init 2 s [.ref h0, .int 28].toArray "RootAlgebra$Big" D a A := E
    have hl : lv_has ls 2 [(0, .ref h0), (1, .int 28)] := hl
    have hnm : meth.name = "<init>" := hnm
    refine lv_aload_n hx hb d_Big_init_0 rfl (lv_at hl 0 rfl) ?_
    refine kx_obj E hl.1 mw_0 mw_1 mw_2 d_Big_init_1 (Nat.le_of_ble_eq_true rfl) (Nat.le_of_ble_eq_true rfl) (Nat.le_of_ble_eq_true rfl) ?_
    refine lv_aload_n hx hb d_Big_init_4 rfl (lv_at hl 0 rfl) ?_
    refine lv_iload_n hx hb d_Big_init_5 rfl (lv_at hl 1 rfl) ?_
    refine kx_newa (atype := .int) E w rfl mw_3 0 rfl (N' := 28) (a0 := (28, .inl (fun _ => 0))) (fun _ => rfl) (by decide) (by decide) (by decide) (Nat.le_of_ble_eq_true rfl) (Nat.le_of_ble_eq_true rfl) d_Big_init_6 (fun q1 H w => ?_)
    have w : kW D A s [(h0, .inr (1, [.null, .int 0, .int 0])), (q1, .inl (a 0, 28, .inl (fun _ => 0)))] H locs := w
    refine kx_putF E w zC_Big hnm 0 rfl 0 (by decide) mw_4 rfl rfl rfl rfl (Nat.le_of_ble_eq_true rfl) d_Big_init_8 (ws' := [(h0, .inr (1, [.ref q1, .int 0, .int 0])), (q1, .inl (a 0, 28, .inl (fun _ => 0)))]) rfl (fun H locs w => ?_)
    refine W.widen (k := 1) (n := 28) (Nat.le_of_ble_eq_true rfl) (Nat.le_of_ble_eq_true rfl) ?_
    exact kx_vret E w hr hlk d_Big_init_11 ⟨q1, rfl⟩)
set_option maxRecDepth 100000 in
set_option maxHeartbeats 4000000 in
theorem c_Big_init_56 (l : Launch) (D : va_G) (a : Nat → ClassId) (h0 : Nat) : ∀ sz : Nat, Met l y_Big_init (Cond.code y_Big_init b_Big_init 2 none :: wA) ({ frames := 1, cells := 1, slots := 56, locals := 20 } : Room) (va_Pc [.ref h0, .int 56] (kP D a [(h0, .inr (1, [.null, .int 0, .int 0]))] sz)) (va_Qv (fun u : va_W => ∃ q1 : Nat, u = [(h0, .inr (1, [.ref q1, .int 0, .int 0])), (q1, .inl (a 0, 56, .inl (fun _ => 0)))]) (kB D a (va_A [(h0, .inr (1, [.null, .int 0, .int 0]))] sz)) (va_A [(h0, .inr (1, [.null, .int 0, .int 0]))] sz)) 1 56 (va_A [(h0, .inr (1, [.null, .int 0, .int 0]))] sz) :=
  kM (Qc := fun A => va_Qv (fun u : va_W => ∃ q1 : Nat, u = [(h0, .inr (1, [.ref q1, .int 0, .int 0])), (q1, .inl (a 0, 56, .inl (fun _ => 0)))]) (kB D a A) A) (by decide) (Nat.le_of_ble_eq_true rfl) (by
    intro p e s m below meth c A ls H locs E hr hlk hnm w hl
    have hx := E.1.1
    have hb := E.1.2.1
    have E : kE p m c b_Big_init 2 s [.ref h0, .int 56].toArray "RootAlgebra$Big" D a A := E
    have hl : lv_has ls 2 [(0, .ref h0), (1, .int 56)] := hl
    have hnm : meth.name = "<init>" := hnm
    refine lv_aload_n hx hb d_Big_init_0 rfl (lv_at hl 0 rfl) ?_
    refine kx_obj E hl.1 mw_0 mw_1 mw_2 d_Big_init_1 (Nat.le_of_ble_eq_true rfl) (Nat.le_of_ble_eq_true rfl) (Nat.le_of_ble_eq_true rfl) ?_
    refine lv_aload_n hx hb d_Big_init_4 rfl (lv_at hl 0 rfl) ?_
    refine lv_iload_n hx hb d_Big_init_5 rfl (lv_at hl 1 rfl) ?_
    refine kx_newa (atype := .int) E w rfl mw_3 0 rfl (N' := 56) (a0 := (56, .inl (fun _ => 0))) (fun _ => rfl) (by decide) (by decide) (by decide) (Nat.le_of_ble_eq_true rfl) (Nat.le_of_ble_eq_true rfl) d_Big_init_6 (fun q1 H w => ?_)
    have w : kW D A s [(h0, .inr (1, [.null, .int 0, .int 0])), (q1, .inl (a 0, 56, .inl (fun _ => 0)))] H locs := w
    refine kx_putF E w zC_Big hnm 0 rfl 0 (by decide) mw_4 rfl rfl rfl rfl (Nat.le_of_ble_eq_true rfl) d_Big_init_8 (ws' := [(h0, .inr (1, [.ref q1, .int 0, .int 0])), (q1, .inl (a 0, 56, .inl (fun _ => 0)))]) rfl (fun H locs w => ?_)
    refine W.widen (k := 1) (n := 56) (Nat.le_of_ble_eq_true rfl) (Nat.le_of_ble_eq_true rfl) ?_
    exact kx_vret E w hr hlk d_Big_init_11 ⟨q1, rfl⟩)
set_option maxRecDepth 100000 in
set_option maxHeartbeats 4000000 in
theorem c_Big_init_72 (l : Launch) (D : va_G) (a : Nat → ClassId) (h0 : Nat) : ∀ sz : Nat, Met l y_Big_init (Cond.code y_Big_init b_Big_init 2 none :: wA) ({ frames := 1, cells := 1, slots := 72, locals := 20 } : Room) (va_Pc [.ref h0, .int 72] (kP D a [(h0, .inr (1, [.null, .int 0, .int 0]))] sz)) (va_Qv (fun u : va_W => ∃ q1 : Nat, u = [(h0, .inr (1, [.ref q1, .int 0, .int 0])), (q1, .inl (a 0, 72, .inl (fun _ => 0)))]) (kB D a (va_A [(h0, .inr (1, [.null, .int 0, .int 0]))] sz)) (va_A [(h0, .inr (1, [.null, .int 0, .int 0]))] sz)) 1 72 (va_A [(h0, .inr (1, [.null, .int 0, .int 0]))] sz) :=
  kM (Qc := fun A => va_Qv (fun u : va_W => ∃ q1 : Nat, u = [(h0, .inr (1, [.ref q1, .int 0, .int 0])), (q1, .inl (a 0, 72, .inl (fun _ => 0)))]) (kB D a A) A) (by decide) (Nat.le_of_ble_eq_true rfl) (by
    intro p e s m below meth c A ls H locs E hr hlk hnm w hl
    have hx := E.1.1
    have hb := E.1.2.1
    have E : kE p m c b_Big_init 2 s [.ref h0, .int 72].toArray "RootAlgebra$Big" D a A := E
    have hl : lv_has ls 2 [(0, .ref h0), (1, .int 72)] := hl
    have hnm : meth.name = "<init>" := hnm
    refine lv_aload_n hx hb d_Big_init_0 rfl (lv_at hl 0 rfl) ?_
    refine kx_obj E hl.1 mw_0 mw_1 mw_2 d_Big_init_1 (Nat.le_of_ble_eq_true rfl) (Nat.le_of_ble_eq_true rfl) (Nat.le_of_ble_eq_true rfl) ?_
    refine lv_aload_n hx hb d_Big_init_4 rfl (lv_at hl 0 rfl) ?_
    refine lv_iload_n hx hb d_Big_init_5 rfl (lv_at hl 1 rfl) ?_
    refine kx_newa (atype := .int) E w rfl mw_3 0 rfl (N' := 72) (a0 := (72, .inl (fun _ => 0))) (fun _ => rfl) (by decide) (by decide) (by decide) (Nat.le_of_ble_eq_true rfl) (Nat.le_of_ble_eq_true rfl) d_Big_init_6 (fun q1 H w => ?_)
    have w : kW D A s [(h0, .inr (1, [.null, .int 0, .int 0])), (q1, .inl (a 0, 72, .inl (fun _ => 0)))] H locs := w
    refine kx_putF E w zC_Big hnm 0 rfl 0 (by decide) mw_4 rfl rfl rfl rfl (Nat.le_of_ble_eq_true rfl) d_Big_init_8 (ws' := [(h0, .inr (1, [.ref q1, .int 0, .int 0])), (q1, .inl (a 0, 72, .inl (fun _ => 0)))]) rfl (fun H locs w => ?_)
    refine W.widen (k := 1) (n := 72) (Nat.le_of_ble_eq_true rfl) (Nat.le_of_ble_eq_true rfl) ?_
    exact kx_vret E w hr hlk d_Big_init_11 ⟨q1, rfl⟩)
set_option maxRecDepth 100000 in
set_option maxHeartbeats 4000000 in
theorem c_Big_init_96 (l : Launch) (D : va_G) (a : Nat → ClassId) (h0 : Nat) : ∀ sz : Nat, Met l y_Big_init (Cond.code y_Big_init b_Big_init 2 none :: wA) ({ frames := 1, cells := 1, slots := 96, locals := 20 } : Room) (va_Pc [.ref h0, .int 96] (kP D a [(h0, .inr (1, [.null, .int 0, .int 0]))] sz)) (va_Qv (fun u : va_W => ∃ q1 : Nat, u = [(h0, .inr (1, [.ref q1, .int 0, .int 0])), (q1, .inl (a 0, 96, .inl (fun _ => 0)))]) (kB D a (va_A [(h0, .inr (1, [.null, .int 0, .int 0]))] sz)) (va_A [(h0, .inr (1, [.null, .int 0, .int 0]))] sz)) 1 96 (va_A [(h0, .inr (1, [.null, .int 0, .int 0]))] sz) :=
  kM (Qc := fun A => va_Qv (fun u : va_W => ∃ q1 : Nat, u = [(h0, .inr (1, [.ref q1, .int 0, .int 0])), (q1, .inl (a 0, 96, .inl (fun _ => 0)))]) (kB D a A) A) (by decide) (Nat.le_of_ble_eq_true rfl) (by
    intro p e s m below meth c A ls H locs E hr hlk hnm w hl
    have hx := E.1.1
    have hb := E.1.2.1
    have E : kE p m c b_Big_init 2 s [.ref h0, .int 96].toArray "RootAlgebra$Big" D a A := E
    have hl : lv_has ls 2 [(0, .ref h0), (1, .int 96)] := hl
    have hnm : meth.name = "<init>" := hnm
    refine lv_aload_n hx hb d_Big_init_0 rfl (lv_at hl 0 rfl) ?_
    refine kx_obj E hl.1 mw_0 mw_1 mw_2 d_Big_init_1 (Nat.le_of_ble_eq_true rfl) (Nat.le_of_ble_eq_true rfl) (Nat.le_of_ble_eq_true rfl) ?_
    refine lv_aload_n hx hb d_Big_init_4 rfl (lv_at hl 0 rfl) ?_
    refine lv_iload_n hx hb d_Big_init_5 rfl (lv_at hl 1 rfl) ?_
    refine kx_newa (atype := .int) E w rfl mw_3 0 rfl (N' := 96) (a0 := (96, .inl (fun _ => 0))) (fun _ => rfl) (by decide) (by decide) (by decide) (Nat.le_of_ble_eq_true rfl) (Nat.le_of_ble_eq_true rfl) d_Big_init_6 (fun q1 H w => ?_)
    have w : kW D A s [(h0, .inr (1, [.null, .int 0, .int 0])), (q1, .inl (a 0, 96, .inl (fun _ => 0)))] H locs := w
    refine kx_putF E w zC_Big hnm 0 rfl 0 (by decide) mw_4 rfl rfl rfl rfl (Nat.le_of_ble_eq_true rfl) d_Big_init_8 (ws' := [(h0, .inr (1, [.ref q1, .int 0, .int 0])), (q1, .inl (a 0, 96, .inl (fun _ => 0)))]) rfl (fun H locs w => ?_)
    refine W.widen (k := 1) (n := 96) (Nat.le_of_ble_eq_true rfl) (Nat.le_of_ble_eq_true rfl) ?_
    exact kx_vret E w hr hlk d_Big_init_11 ⟨q1, rfl⟩)
set_option maxRecDepth 100000 in
set_option maxHeartbeats 4000000 in
theorem c_Big_init_400 (l : Launch) (D : va_G) (a : Nat → ClassId) (h0 : Nat) : ∀ sz : Nat, Met l y_Big_init (Cond.code y_Big_init b_Big_init 2 none :: wA) ({ frames := 1, cells := 1, slots := 400, locals := 20 } : Room) (va_Pc [.ref h0, .int 400] (kP D a [(h0, .inr (1, [.null, .int 0, .int 0]))] sz)) (va_Qv (fun u : va_W => ∃ q1 : Nat, u = [(h0, .inr (1, [.ref q1, .int 0, .int 0])), (q1, .inl (a 0, 400, .inl (fun _ => 0)))]) (kB D a (va_A [(h0, .inr (1, [.null, .int 0, .int 0]))] sz)) (va_A [(h0, .inr (1, [.null, .int 0, .int 0]))] sz)) 1 400 (va_A [(h0, .inr (1, [.null, .int 0, .int 0]))] sz) :=
  kM (Qc := fun A => va_Qv (fun u : va_W => ∃ q1 : Nat, u = [(h0, .inr (1, [.ref q1, .int 0, .int 0])), (q1, .inl (a 0, 400, .inl (fun _ => 0)))]) (kB D a A) A) (by decide) (Nat.le_of_ble_eq_true rfl) (by
    intro p e s m below meth c A ls H locs E hr hlk hnm w hl
    have hx := E.1.1
    have hb := E.1.2.1
    have E : kE p m c b_Big_init 2 s [.ref h0, .int 400].toArray "RootAlgebra$Big" D a A := E
    have hl : lv_has ls 2 [(0, .ref h0), (1, .int 400)] := hl
    have hnm : meth.name = "<init>" := hnm
    refine lv_aload_n hx hb d_Big_init_0 rfl (lv_at hl 0 rfl) ?_
    refine kx_obj E hl.1 mw_0 mw_1 mw_2 d_Big_init_1 (Nat.le_of_ble_eq_true rfl) (Nat.le_of_ble_eq_true rfl) (Nat.le_of_ble_eq_true rfl) ?_
    refine lv_aload_n hx hb d_Big_init_4 rfl (lv_at hl 0 rfl) ?_
    refine lv_iload_n hx hb d_Big_init_5 rfl (lv_at hl 1 rfl) ?_
    refine kx_newa (atype := .int) E w rfl mw_3 0 rfl (N' := 400) (a0 := (400, .inl (fun _ => 0))) (fun _ => rfl) (by decide) (by decide) (by decide) (Nat.le_of_ble_eq_true rfl) (Nat.le_of_ble_eq_true rfl) d_Big_init_6 (fun q1 H w => ?_)
    have w : kW D A s [(h0, .inr (1, [.null, .int 0, .int 0])), (q1, .inl (a 0, 400, .inl (fun _ => 0)))] H locs := w
    refine kx_putF E w zC_Big hnm 0 rfl 0 (by decide) mw_4 rfl rfl rfl rfl (Nat.le_of_ble_eq_true rfl) d_Big_init_8 (ws' := [(h0, .inr (1, [.ref q1, .int 0, .int 0])), (q1, .inl (a 0, 400, .inl (fun _ => 0)))]) rfl (fun H locs w => ?_)
    refine W.widen (k := 1) (n := 400) (Nat.le_of_ble_eq_true rfl) (Nat.le_of_ble_eq_true rfl) ?_
    exact kx_vret E w hr hlk d_Big_init_11 ⟨q1, rfl⟩)
set_option maxRecDepth 100000 in
set_option maxHeartbeats 4000000 in
theorem c_Value_init (l : Launch) (D : va_G) (a : Nat → ClassId) (h0 : Nat) : ∀ sz : Nat, Met l y_Value_init (Cond.code y_Value_init b_Value_init 1 none :: wA) ({ frames := 2, cells := 3, slots := 22, locals := 41 } : Room) (va_Pc [.ref h0] (kP D a [(h0, .inr (11, [.null, .null, .int 0, .int 0, .int 0, .int 0, .int 0]))] sz)) (va_Qv (fun u : va_W => ∃ q1 : Nat, ∃ q2 : Nat, ∃ q3 : Nat, u = [(h0, .inr (11, [.ref q1, .ref q2, .int 0, .int 0, .int 0, .int 0, .int 0])), (q1, .inl (a 0, 7, .inl (fun _ => 0))), (q2, .inr (1, [.ref q3, .int 0, .int 0])), (q3, .inl (a 0, 12, .inl (fun _ => 0)))]) (kB D a (va_A [(h0, .inr (11, [.null, .null, .int 0, .int 0, .int 0, .int 0, .int 0]))] sz)) (va_A [(h0, .inr (11, [.null, .null, .int 0, .int 0, .int 0, .int 0, .int 0]))] sz)) 3 22 (va_A [(h0, .inr (11, [.null, .null, .int 0, .int 0, .int 0, .int 0, .int 0]))] sz) :=
  kM (Qc := fun A => va_Qv (fun u : va_W => ∃ q1 : Nat, ∃ q2 : Nat, ∃ q3 : Nat, u = [(h0, .inr (11, [.ref q1, .ref q2, .int 0, .int 0, .int 0, .int 0, .int 0])), (q1, .inl (a 0, 7, .inl (fun _ => 0))), (q2, .inr (1, [.ref q3, .int 0, .int 0])), (q3, .inl (a 0, 12, .inl (fun _ => 0)))]) (kB D a A) A) (by decide) (Nat.le_of_ble_eq_true rfl) (by
    intro p e s m below meth c A ls H locs E hr hlk hnm w hl
    have hx := E.1.1
    have hb := E.1.2.1
    have E : kE p m c b_Value_init 1 s [.ref h0].toArray "RootAlgebra$Value" D a A := E
    have hl : lv_has ls 1 [(0, .ref h0)] := hl
    have hnm : meth.name = "<init>" := hnm
    refine lv_aload_n hx hb d_Value_init_0 rfl (lv_at hl 0 rfl) ?_
    refine kx_obj E hl.1 mw_5 mw_1 mw_2 d_Value_init_1 (Nat.le_of_ble_eq_true rfl) (Nat.le_of_ble_eq_true rfl) (Nat.le_of_ble_eq_true rfl) ?_
    refine lv_aload_n hx hb d_Value_init_4 rfl (lv_at hl 0 rfl) ?_
    refine lv_bipush (v := 7) hx hb d_Value_init_5 (by decide) ?_
    refine kx_newa (atype := .int) E w rfl mw_3 0 rfl (N' := 7) (a0 := (7, .inl (fun _ => 0))) (fun _ => rfl) (by decide) (by decide) (by decide) (Nat.le_of_ble_eq_true rfl) (Nat.le_of_ble_eq_true rfl) d_Value_init_7 (fun q1 H w => ?_)
    have w : kW D A s [(h0, .inr (11, [.null, .null, .int 0, .int 0, .int 0, .int 0, .int 0])), (q1, .inl (a 0, 7, .inl (fun _ => 0)))] H locs := w
    refine kx_putF E w zC_Value hnm 0 rfl 0 (by decide) mw_6 rfl rfl rfl rfl (Nat.le_of_ble_eq_true rfl) d_Value_init_9 (ws' := [(h0, .inr (11, [.ref q1, .null, .int 0, .int 0, .int 0, .int 0, .int 0])), (q1, .inl (a 0, 7, .inl (fun _ => 0)))]) rfl (fun H locs w => ?_)
    refine lv_aload_n hx hb d_Value_init_12 rfl (lv_at hl 0 rfl) ?_
    refine kx_new E w zC_Big mw_7 mw_8 mw_9 (fs := [.null, .int 0, .int 0]) z0_Big (Nat.le_of_ble_eq_true rfl) (Nat.le_of_ble_eq_true rfl) d_Value_init_13 (fun q2 H w => ?_)
    have w : kW D A s [(h0, .inr (11, [.ref q1, .null, .int 0, .int 0, .int 0, .int 0, .int 0])), (q1, .inl (a 0, 7, .inl (fun _ => 0))), (q2, .inr (1, [.null, .int 0, .int 0]))] H locs := w
    refine lv_dup hx hb d_Value_init_16 rfl ?_
    refine lv_bipush (v := 12) hx hb d_Value_init_17 (by decide) ?_
    refine kx_v E w (wc := [(q2, .inr (1, [.null, .int 0, .int 0]))]) (wr := [(h0, .inr (11, [.ref q1, .null, .int 0, .int 0, .int 0, .int 0, .int 0])), (q1, .inl (a 0, 7, .inl (fun _ => 0)))]) [2] [0, 1] rfl rfl ⟨rfl, rfl, by decide⟩ (kx_rI E w hl.1 (As := [.int 12]) (wc := [(q2, .inr (1, [.null, .int 0, .int 0]))]) (c_Big_init_12 l D a q2 H.size) gc_0 gi_Big_init [2] rfl rfl rfl rfl rfl ⟨(Nat.le_of_ble_eq_true rfl), (Nat.le_of_ble_eq_true rfl)⟩ rfl (Nat.le_of_ble_eq_true rfl) d_Value_init_19 ⟨(Nat.le_of_ble_eq_true rfl), (Nat.le_of_ble_eq_true rfl)⟩) (fun u H locs hu w => ?_)
    obtain ⟨q3, rfl⟩ := hu
    have w : kW D A s [(h0, .inr (11, [.ref q1, .null, .int 0, .int 0, .int 0, .int 0, .int 0])), (q1, .inl (a 0, 7, .inl (fun _ => 0))), (q2, .inr (1, [.ref q3, .int 0, .int 0])), (q3, .inl (a 0, 12, .inl (fun _ => 0)))] H locs := w
    refine kx_putF E w zC_Value hnm 0 rfl 1 (by decide) mw_13 rfl rfl rfl rfl (Nat.le_of_ble_eq_true rfl) d_Value_init_22 (ws' := [(h0, .inr (11, [.ref q1, .ref q2, .int 0, .int 0, .int 0, .int 0, .int 0])), (q1, .inl (a 0, 7, .inl (fun _ => 0))), (q2, .inr (1, [.ref q3, .int 0, .int 0])), (q3, .inl (a 0, 12, .inl (fun _ => 0)))]) rfl (fun H locs w => ?_)
    refine W.widen (k := 3) (n := 22) (Nat.le_of_ble_eq_true rfl) (Nat.le_of_ble_eq_true rfl) ?_
    exact kx_vret E w hr hlk d_Value_init_25 ⟨q1, q2, q3, rfl⟩)
