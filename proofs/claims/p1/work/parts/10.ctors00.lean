/-! laid by program (wip/gen) -/
set_option maxRecDepth 100000 in
set_option maxHeartbeats 4000000 in
theorem c_Big_init_8 (l : Launch) (D : va_G) (a : Nat → ClassId) (h0 : Nat) : ∀ sz : Nat, Met l y_Big_init (Cond.code y_Big_init b_Big_init 2 none :: wA) ({ frames := 1, cells := 1, slots := 8, locals := 20 } : Room) (va_Pc [.ref h0, .int 8] (kP D a [(h0, .inr (1, [.null, .int 0, .int 0]))] sz)) (va_Qv (fun u : va_W => ∃ q1 : Nat, u = [(h0, .inr (1, [.ref q1, .int 0, .int 0])), (q1, .inl (a 0, 8, .inl (fun _ => 0)))]) (kB D a (va_A [(h0, .inr (1, [.null, .int 0, .int 0]))] sz)) (va_A [(h0, .inr (1, [.null, .int 0, .int 0]))] sz)) 1 8 (va_A [(h0, .inr (1, [.null, .int 0, .int 0]))] sz) :=
  kM (Qc := fun A => va_Qv (fun u : va_W => ∃ q1 : Nat, u = [(h0, .inr (1, [.ref q1, .int 0, .int 0])), (q1, .inl (a 0, 8, .inl (fun _ => 0)))]) (kB D a A) A) (by decide) (Nat.le_of_ble_eq_true rfl) (by
    intro p e s m below meth c A ls H locs E hr hlk hnm w hl
    have hx := E.1.1
    have hb := E.1.2.1
    have E : kE p m c b_Big_init 2 s [.ref h0, .int 8].toArray "RootAlgebra$Big" D a A := E
    have hl : lv_has ls 2 [(0, .ref h0), (1, .int 8)] := hl
    have hnm : meth.name = "<init>" := hnm
    refine lv_aload_n hx hb d_Big_init_0 rfl (lv_at hl 0 rfl) ?_
    refine kx_obj E hl.1 mw_0 mw_1 mw_2 d_Big_init_1 (Nat.le_of_ble_eq_true rfl) (Nat.le_of_ble_eq_true rfl) (Nat.le_of_ble_eq_true rfl) ?_
    refine lv_aload_n hx hb d_Big_init_4 rfl (lv_at hl 0 rfl) ?_
    refine lv_iload_n hx hb d_Big_init_5 rfl (lv_at hl 1 rfl) ?_
    refine kx_newa E w rfl mw_3 0 rfl (N' := 8) (a0 := (8, .inl (fun _ => 0))) (fun _ => rfl) (by decide) (by decide) (by decide) (Nat.le_of_ble_eq_true rfl) (Nat.le_of_ble_eq_true rfl) d_Big_init_6 (fun q1 H w => ?_)
    have w : kW D A s [(h0, .inr (1, [.null, .int 0, .int 0])), (q1, .inl (a 0, 8, .inl (fun _ => 0)))] H locs := w
    refine kx_putF E w zC_Big hnm 0 rfl 0 (by decide) mw_4 rfl rfl rfl rfl (Nat.le_of_ble_eq_true rfl) d_Big_init_8 (ws' := [(h0, .inr (1, [.ref q1, .int 0, .int 0])), (q1, .inl (a 0, 8, .inl (fun _ => 0)))]) rfl (fun H locs w => ?_)
    refine W.widen (k := 1) (n := 8) (Nat.le_of_ble_eq_true rfl) (Nat.le_of_ble_eq_true rfl) ?_
    exact kx_vret E w hr hlk d_Big_init_11 ⟨q1, rfl⟩)
set_option maxRecDepth 100000 in
set_option maxHeartbeats 4000000 in
theorem c_Big_init_12 (l : Launch) (D : va_G) (a : Nat → ClassId) (h0 : Nat) : ∀ sz : Nat, Met l y_Big_init (Cond.code y_Big_init b_Big_init 2 none :: wA) ({ frames := 1, cells := 1, slots := 12, locals := 20 } : Room) (va_Pc [.ref h0, .int 12] (kP D a [(h0, .inr (1, [.null, .int 0, .int 0]))] sz)) (va_Qv (fun u : va_W => ∃ q1 : Nat, u = [(h0, .inr (1, [.ref q1, .int 0, .int 0])), (q1, .inl (a 0, 12, .inl (fun _ => 0)))]) (kB D a (va_A [(h0, .inr (1, [.null, .int 0, .int 0]))] sz)) (va_A [(h0, .inr (1, [.null, .int 0, .int 0]))] sz)) 1 12 (va_A [(h0, .inr (1, [.null, .int 0, .int 0]))] sz) :=
  kM (Qc := fun A => va_Qv (fun u : va_W => ∃ q1 : Nat, u = [(h0, .inr (1, [.ref q1, .int 0, .int 0])), (q1, .inl (a 0, 12, .inl (fun _ => 0)))]) (kB D a A) A) (by decide) (Nat.le_of_ble_eq_true rfl) (by
    intro p e s m below meth c A ls H locs E hr hlk hnm w hl
    have hx := E.1.1
    have hb := E.1.2.1
    have E : kE p m c b_Big_init 2 s [.ref h0, .int 12].toArray "RootAlgebra$Big" D a A := E
    have hl : lv_has ls 2 [(0, .ref h0), (1, .int 12)] := hl
    have hnm : meth.name = "<init>" := hnm
    refine lv_aload_n hx hb d_Big_init_0 rfl (lv_at hl 0 rfl) ?_
    refine kx_obj E hl.1 mw_0 mw_1 mw_2 d_Big_init_1 (Nat.le_of_ble_eq_true rfl) (Nat.le_of_ble_eq_true rfl) (Nat.le_of_ble_eq_true rfl) ?_
    refine lv_aload_n hx hb d_Big_init_4 rfl (lv_at hl 0 rfl) ?_
    refine lv_iload_n hx hb d_Big_init_5 rfl (lv_at hl 1 rfl) ?_
    refine kx_newa E w rfl mw_3 0 rfl (N' := 12) (a0 := (12, .inl (fun _ => 0))) (fun _ => rfl) (by decide) (by decide) (by decide) (Nat.le_of_ble_eq_true rfl) (Nat.le_of_ble_eq_true rfl) d_Big_init_6 (fun q1 H w => ?_)
    have w : kW D A s [(h0, .inr (1, [.null, .int 0, .int 0])), (q1, .inl (a 0, 12, .inl (fun _ => 0)))] H locs := w
    refine kx_putF E w zC_Big hnm 0 rfl 0 (by decide) mw_4 rfl rfl rfl rfl (Nat.le_of_ble_eq_true rfl) d_Big_init_8 (ws' := [(h0, .inr (1, [.ref q1, .int 0, .int 0])), (q1, .inl (a 0, 12, .inl (fun _ => 0)))]) rfl (fun H locs w => ?_)
    refine W.widen (k := 1) (n := 12) (Nat.le_of_ble_eq_true rfl) (Nat.le_of_ble_eq_true rfl) ?_
    exact kx_vret E w hr hlk d_Big_init_11 ⟨q1, rfl⟩)
set_option maxRecDepth 100000 in
set_option maxHeartbeats 4000000 in
theorem c_Big_init_28 (l : Launch) (D : va_G) (a : Nat → ClassId) (h0 : Nat) : ∀ sz : Nat, Met l y_Big_init (Cond.code y_Big_init b_Big_init 2 none :: wA) ({ frames := 1, cells := 1, slots := 28, locals := 20 } : Room) (va_Pc [.ref h0, .int 28] (kP D a [(h0, .inr (1, [.null, .int 0, .int 0]))] sz)) (va_Qv (fun u : va_W => ∃ q1 : Nat, u = [(h0, .inr (1, [.ref q1, .int 0, .int 0])), (q1, .inl (a 0, 28, .inl (fun _ => 0)))]) (kB D a (va_A [(h0, .inr (1, [.null, .int 0, .int 0]))] sz)) (va_A [(h0, .inr (1, [.null, .int 0, .int 0]))] sz)) 1 28 (va_A [(h0, .inr (1, [.null, .int 0, .int 0]))] sz) :=
  kM (Qc := fun A => va_Qv (fun u : va_W => ∃ q1 : Nat, u = [(h0, .inr (1, [.ref q1, .int 0, .int 0])), (q1, .inl (a 0, 28, .inl (fun _ => 0)))]) (kB D a A) A) (by decide) (Nat.le_of_ble_eq_true rfl) (by
    intro p e s m below meth c A ls H locs E hr hlk hnm w hl
    have hx := E.1.1
    have hb := E.1.2.1
    have E : kE p m c b_Big_init 2 s [.ref h0, .int 28].toArray "RootAlgebra$Big" D a A := E
    have hl : lv_has ls 2 [(0, .ref h0), (1, .int 28)] := hl
    have hnm : meth.name = "<init>" := hnm
    refine lv_aload_n hx hb d_Big_init_0 rfl (lv_at hl 0 rfl) ?_
    refine kx_obj E hl.1 mw_0 mw_1 mw_2 d_Big_init_1 (Nat.le_of_ble_eq_true rfl) (Nat.le_of_ble_eq_true rfl) (Nat.le_of_ble_eq_true rfl) ?_
    refine lv_aload_n hx hb d_Big_init_4 rfl (lv_at hl 0 rfl) ?_
    refine lv_iload_n hx hb d_Big_init_5 rfl (lv_at hl 1 rfl) ?_
    refine kx_newa E w rfl mw_3 0 rfl (N' := 28) (a0 := (28, .inl (fun _ => 0))) (fun _ => rfl) (by decide) (by decide) (by decide) (Nat.le_of_ble_eq_true rfl) (Nat.le_of_ble_eq_true rfl) d_Big_init_6 (fun q1 H w => ?_)
    have w : kW D A s [(h0, .inr (1, [.null, .int 0, .int 0])), (q1, .inl (a 0, 28, .inl (fun _ => 0)))] H locs := w
    refine kx_putF E w zC_Big hnm 0 rfl 0 (by decide) mw_4 rfl rfl rfl rfl (Nat.le_of_ble_eq_true rfl) d_Big_init_8 (ws' := [(h0, .inr (1, [.ref q1, .int 0, .int 0])), (q1, .inl (a 0, 28, .inl (fun _ => 0)))]) rfl (fun H locs w => ?_)
    refine W.widen (k := 1) (n := 28) (Nat.le_of_ble_eq_true rfl) (Nat.le_of_ble_eq_true rfl) ?_
    exact kx_vret E w hr hlk d_Big_init_11 ⟨q1, rfl⟩)
set_option maxRecDepth 100000 in
set_option maxHeartbeats 4000000 in
theorem c_Big_init_56 (l : Launch) (D : va_G) (a : Nat → ClassId) (h0 : Nat) : ∀ sz : Nat, Met l y_Big_init (Cond.code y_Big_init b_Big_init 2 none :: wA) ({ frames := 1, cells := 1, slots := 56, locals := 20 } : Room) (va_Pc [.ref h0, .int 56] (kP D a [(h0, .inr (1, [.null, .int 0, .int 0]))] sz)) (va_Qv (fun u : va_W => ∃ q1 : Nat, u = [(h0, .inr (1, [.ref q1, .int 0, .int 0])), (q1, .inl (a 0, 56, .inl (fun _ => 0)))]) (kB D a (va_A [(h0, .inr (1, [.null, .int 0, .int 0]))] sz)) (va_A [(h0, .inr (1, [.null, .int 0, .int 0]))] sz)) 1 56 (va_A [(h0, .inr (1, [.null, .int 0, .int 0]))] sz) :=
  kM (Qc := fun A => va_Qv (fun u : va_W => ∃ q1 : Nat, u = [(h0, .inr (1, [.ref q1, .int 0, .int 0])), (q1, .inl (a 0, 56, .inl (fun _ => 0)))]) (kB D a A) A) (by decide) (Nat.le_of_ble_eq_true rfl) (by
    intro p e s m below meth c A ls H locs E hr hlk hnm w hl
    have hx := E.1.1
    have hb := E.1.2.1
    have E : kE p m c b_Big_init 2 s [.ref h0, .int 56].toArray "RootAlgebra$Big" D a A := E
    have hl : lv_has ls 2 [(0, .ref h0), (1, .int 56)] := hl
    have hnm : meth.name = "<init>" := hnm
    refine lv_aload_n hx hb d_Big_init_0 rfl (lv_at hl 0 rfl) ?_
    refine kx_obj E hl.1 mw_0 mw_1 mw_2 d_Big_init_1 (Nat.le_of_ble_eq_true rfl) (Nat.le_of_ble_eq_true rfl) (Nat.le_of_ble_eq_true rfl) ?_
    refine lv_aload_n hx hb d_Big_init_4 rfl (lv_at hl 0 rfl) ?_
    refine lv_iload_n hx hb d_Big_init_5 rfl (lv_at hl 1 rfl) ?_
    refine kx_newa E w rfl mw_3 0 rfl (N' := 56) (a0 := (56, .inl (fun _ => 0))) (fun _ => rfl) (by decide) (by decide) (by decide) (Nat.le_of_ble_eq_true rfl) (Nat.le_of_ble_eq_true rfl) d_Big_init_6 (fun q1 H w => ?_)
    have w : kW D A s [(h0, .inr (1, [.null, .int 0, .int 0])), (q1, .inl (a 0, 56, .inl (fun _ => 0)))] H locs := w
    refine kx_putF E w zC_Big hnm 0 rfl 0 (by decide) mw_4 rfl rfl rfl rfl (Nat.le_of_ble_eq_true rfl) d_Big_init_8 (ws' := [(h0, .inr (1, [.ref q1, .int 0, .int 0])), (q1, .inl (a 0, 56, .inl (fun _ => 0)))]) rfl (fun H locs w => ?_)
    refine W.widen (k := 1) (n := 56) (Nat.le_of_ble_eq_true rfl) (Nat.le_of_ble_eq_true rfl) ?_
    exact kx_vret E w hr hlk d_Big_init_11 ⟨q1, rfl⟩)
set_option maxRecDepth 100000 in
set_option maxHeartbeats 4000000 in
theorem c_Big_init_72 (l : Launch) (D : va_G) (a : Nat → ClassId) (h0 : Nat) : ∀ sz : Nat, Met l y_Big_init (Cond.code y_Big_init b_Big_init 2 none :: wA) ({ frames := 1, cells := 1, slots := 72, locals := 20 } : Room) (va_Pc [.ref h0, .int 72] (kP D a [(h0, .inr (1, [.null, .int 0, .int 0]))] sz)) (va_Qv (fun u : va_W => ∃ q1 : Nat, u = [(h0, .inr (1, [.ref q1, .int 0, .int 0])), (q1, .inl (a 0, 72, .inl (fun _ => 0)))]) (kB D a (va_A [(h0, .inr (1, [.null, .int 0, .int 0]))] sz)) (va_A [(h0, .inr (1, [.null, .int 0, .int 0]))] sz)) 1 72 (va_A [(h0, .inr (1, [.null, .int 0, .int 0]))] sz) :=
  kM (Qc := fun A => va_Qv (fun u : va_W => ∃ q1 : Nat, u = [(h0, .inr (1, [.ref q1, .int 0, .int 0])), (q1, .inl (a 0, 72, .inl (fun _ => 0)))]) (kB D a A) A) (by decide) (Nat.le_of_ble_eq_true rfl) (by
    intro p e s m below meth c A ls H locs E hr hlk hnm w hl
    have hx := E.1.1
    have hb := E.1.2.1
    have E : kE p m c b_Big_init 2 s [.ref h0, .int 72].toArray "RootAlgebra$Big" D a A := E
    have hl : lv_has ls 2 [(0, .ref h0), (1, .int 72)] := hl
    have hnm : meth.name = "<init>" := hnm
    refine lv_aload_n hx hb d_Big_init_0 rfl (lv_at hl 0 rfl) ?_
    refine kx_obj E hl.1 mw_0 mw_1 mw_2 d_Big_init_1 (Nat.le_of_ble_eq_true rfl) (Nat.le_of_ble_eq_true rfl) (Nat.le_of_ble_eq_true rfl) ?_
    refine lv_aload_n hx hb d_Big_init_4 rfl (lv_at hl 0 rfl) ?_
    refine lv_iload_n hx hb d_Big_init_5 rfl (lv_at hl 1 rfl) ?_
    refine kx_newa E w rfl mw_3 0 rfl (N' := 72) (a0 := (72, .inl (fun _ => 0))) (fun _ => rfl) (by decide) (by decide) (by decide) (Nat.le_of_ble_eq_true rfl) (Nat.le_of_ble_eq_true rfl) d_Big_init_6 (fun q1 H w => ?_)
    have w : kW D A s [(h0, .inr (1, [.null, .int 0, .int 0])), (q1, .inl (a 0, 72, .inl (fun _ => 0)))] H locs := w
    refine kx_putF E w zC_Big hnm 0 rfl 0 (by decide) mw_4 rfl rfl rfl rfl (Nat.le_of_ble_eq_true rfl) d_Big_init_8 (ws' := [(h0, .inr (1, [.ref q1, .int 0, .int 0])), (q1, .inl (a 0, 72, .inl (fun _ => 0)))]) rfl (fun H locs w => ?_)
    refine W.widen (k := 1) (n := 72) (Nat.le_of_ble_eq_true rfl) (Nat.le_of_ble_eq_true rfl) ?_
    exact kx_vret E w hr hlk d_Big_init_11 ⟨q1, rfl⟩)
set_option maxRecDepth 100000 in
set_option maxHeartbeats 4000000 in
theorem c_Big_init_96 (l : Launch) (D : va_G) (a : Nat → ClassId) (h0 : Nat) : ∀ sz : Nat, Met l y_Big_init (Cond.code y_Big_init b_Big_init 2 none :: wA) ({ frames := 1, cells := 1, slots := 96, locals := 20 } : Room) (va_Pc [.ref h0, .int 96] (kP D a [(h0, .inr (1, [.null, .int 0, .int 0]))] sz)) (va_Qv (fun u : va_W => ∃ q1 : Nat, u = [(h0, .inr (1, [.ref q1, .int 0, .int 0])), (q1, .inl (a 0, 96, .inl (fun _ => 0)))]) (kB D a (va_A [(h0, .inr (1, [.null, .int 0, .int 0]))] sz)) (va_A [(h0, .inr (1, [.null, .int 0, .int 0]))] sz)) 1 96 (va_A [(h0, .inr (1, [.null, .int 0, .int 0]))] sz) :=
  kM (Qc := fun A => va_Qv (fun u : va_W => ∃ q1 : Nat, u = [(h0, .inr (1, [.ref q1, .int 0, .int 0])), (q1, .inl (a 0, 96, .inl (fun _ => 0)))]) (kB D a A) A) (by decide) (Nat.le_of_ble_eq_true rfl) (by
    intro p e s m below meth c A ls H locs E hr hlk hnm w hl
    have hx := E.1.1
    have hb := E.1.2.1
    have E : kE p m c b_Big_init 2 s [.ref h0, .int 96].toArray "RootAlgebra$Big" D a A := E
    have hl : lv_has ls 2 [(0, .ref h0), (1, .int 96)] := hl
    have hnm : meth.name = "<init>" := hnm
    refine lv_aload_n hx hb d_Big_init_0 rfl (lv_at hl 0 rfl) ?_
    refine kx_obj E hl.1 mw_0 mw_1 mw_2 d_Big_init_1 (Nat.le_of_ble_eq_true rfl) (Nat.le_of_ble_eq_true rfl) (Nat.le_of_ble_eq_true rfl) ?_
    refine lv_aload_n hx hb d_Big_init_4 rfl (lv_at hl 0 rfl) ?_
    refine lv_iload_n hx hb d_Big_init_5 rfl (lv_at hl 1 rfl) ?_
    refine kx_newa E w rfl mw_3 0 rfl (N' := 96) (a0 := (96, .inl (fun _ => 0))) (fun _ => rfl) (by decide) (by decide) (by decide) (Nat.le_of_ble_eq_true rfl) (Nat.le_of_ble_eq_true rfl) d_Big_init_6 (fun q1 H w => ?_)
    have w : kW D A s [(h0, .inr (1, [.null, .int 0, .int 0])), (q1, .inl (a 0, 96, .inl (fun _ => 0)))] H locs := w
    refine kx_putF E w zC_Big hnm 0 rfl 0 (by decide) mw_4 rfl rfl rfl rfl (Nat.le_of_ble_eq_true rfl) d_Big_init_8 (ws' := [(h0, .inr (1, [.ref q1, .int 0, .int 0])), (q1, .inl (a 0, 96, .inl (fun _ => 0)))]) rfl (fun H locs w => ?_)
    refine W.widen (k := 1) (n := 96) (Nat.le_of_ble_eq_true rfl) (Nat.le_of_ble_eq_true rfl) ?_
    exact kx_vret E w hr hlk d_Big_init_11 ⟨q1, rfl⟩)
set_option maxRecDepth 100000 in
set_option maxHeartbeats 4000000 in
theorem c_Big_init_400 (l : Launch) (D : va_G) (a : Nat → ClassId) (h0 : Nat) : ∀ sz : Nat, Met l y_Big_init (Cond.code y_Big_init b_Big_init 2 none :: wA) ({ frames := 1, cells := 1, slots := 400, locals := 20 } : Room) (va_Pc [.ref h0, .int 400] (kP D a [(h0, .inr (1, [.null, .int 0, .int 0]))] sz)) (va_Qv (fun u : va_W => ∃ q1 : Nat, u = [(h0, .inr (1, [.ref q1, .int 0, .int 0])), (q1, .inl (a 0, 400, .inl (fun _ => 0)))]) (kB D a (va_A [(h0, .inr (1, [.null, .int 0, .int 0]))] sz)) (va_A [(h0, .inr (1, [.null, .int 0, .int 0]))] sz)) 1 400 (va_A [(h0, .inr (1, [.null, .int 0, .int 0]))] sz) :=
  kM (Qc := fun A => va_Qv (fun u : va_W => ∃ q1 : Nat, u = [(h0, .inr (1, [.ref q1, .int 0, .int 0])), (q1, .inl (a 0, 400, .inl (fun _ => 0)))]) (kB D a A) A) (by decide) (Nat.le_of_ble_eq_true rfl) (by
    intro p e s m below meth c A ls H locs E hr hlk hnm w hl
    have hx := E.1.1
    have hb := E.1.2.1
    have E : kE p m c b_Big_init 2 s [.ref h0, .int 400].toArray "RootAlgebra$Big" D a A := E
    have hl : lv_has ls 2 [(0, .ref h0), (1, .int 400)] := hl
    have hnm : meth.name = "<init>" := hnm
    refine lv_aload_n hx hb d_Big_init_0 rfl (lv_at hl 0 rfl) ?_
    refine kx_obj E hl.1 mw_0 mw_1 mw_2 d_Big_init_1 (Nat.le_of_ble_eq_true rfl) (Nat.le_of_ble_eq_true rfl) (Nat.le_of_ble_eq_true rfl) ?_
    refine lv_aload_n hx hb d_Big_init_4 rfl (lv_at hl 0 rfl) ?_
    refine lv_iload_n hx hb d_Big_init_5 rfl (lv_at hl 1 rfl) ?_
    refine kx_newa E w rfl mw_3 0 rfl (N' := 400) (a0 := (400, .inl (fun _ => 0))) (fun _ => rfl) (by decide) (by decide) (by decide) (Nat.le_of_ble_eq_true rfl) (Nat.le_of_ble_eq_true rfl) d_Big_init_6 (fun q1 H w => ?_)
    have w : kW D A s [(h0, .inr (1, [.null, .int 0, .int 0])), (q1, .inl (a 0, 400, .inl (fun _ => 0)))] H locs := w
    refine kx_putF E w zC_Big hnm 0 rfl 0 (by decide) mw_4 rfl rfl rfl rfl (Nat.le_of_ble_eq_true rfl) d_Big_init_8 (ws' := [(h0, .inr (1, [.ref q1, .int 0, .int 0])), (q1, .inl (a 0, 400, .inl (fun _ => 0)))]) rfl (fun H locs w => ?_)
    refine W.widen (k := 1) (n := 400) (Nat.le_of_ble_eq_true rfl) (Nat.le_of_ble_eq_true rfl) ?_
    exact kx_vret E w hr hlk d_Big_init_11 ⟨q1, rfl⟩)
set_option maxRecDepth 100000 in
set_option maxHeartbeats 4000000 in
theorem c_Value_init (l : Launch) (D : va_G) (a : Nat → ClassId) (h0 : Nat) : ∀ sz : Nat, Met l y_Value_init (Cond.code y_Value_init b_Value_init 1 none :: wA) ({ frames := 2, cells := 3, slots := 22, locals := 41 } : Room) (va_Pc [.ref h0] (kP D a [(h0, .inr (11, [.null, .null, .int 0, .int 0, .int 0, .int 0, .int 0]))] sz)) (va_Qv (fun u : va_W => ∃ q1 : Nat, ∃ q2 : Nat, ∃ q3 : Nat, u = [(h0, .inr (11, [.ref q1, .ref q2, .int 0, .int 0, .int 0, .int 0, .int 0])), (q1, .inl (a 0, 7, .inl (fun _ => 0))), (q2, .inr (1, [.ref q3, .int 0, .int 0])), (q3, .inl (a 0, 12, .inl (fun _ => 0)))]) (kB D a (va_A [(h0, .inr (11, [.null, .null, .int 0, .int 0, .int 0, .int 0, .int 0]))] sz)) (va_A [(h0, .inr (11, [.null, .null, .int 0, .int 0, .int 0, .int 0, .int 0]))] sz)) 3 22 (va_A [(h0, .inr (11, [.null, .null, .int 0, .int 0, .int 0, .int 0, .int 0]))] sz) :=
  kM (Qc := fun A => va_Qv (fun u : va_W => ∃ q1 : Nat, ∃ q2 : Nat, ∃ q3 : Nat, u = [(h0, .inr (11, [.ref q1, .ref q2, .int 0, .int 0, .int 0, .int 0, .int 0])), (q1, .inl (a 0, 7, .inl (fun _ => 0))), (q2, .inr (1, [.ref q3, .int 0, .int 0])), (q3, .inl (a 0, 12, .inl (fun _ => 0)))]) (kB D a A) A) (by decide) (Nat.le_of_ble_eq_true rfl) (by
    intro p e s m below meth c A ls H locs E hr hlk hnm w hl
    have hx := E.1.1
    have hb := E.1.2.1
    have E : kE p m c b_Value_init 1 s [.ref h0].toArray "RootAlgebra$Value" D a A := E
    have hl : lv_has ls 1 [(0, .ref h0)] := hl
    have hnm : meth.name = "<init>" := hnm
    refine lv_aload_n hx hb d_Value_init_0 rfl (lv_at hl 0 rfl) ?_
    refine kx_obj E hl.1 mw_5 mw_1 mw_2 d_Value_init_1 (Nat.le_of_ble_eq_true rfl) (Nat.le_of_ble_eq_true rfl) (Nat.le_of_ble_eq_true rfl) ?_
    refine lv_aload_n hx hb d_Value_init_4 rfl (lv_at hl 0 rfl) ?_
    refine lv_bipush (v := 7) hx hb d_Value_init_5 (by decide) ?_
    refine kx_newa E w rfl mw_3 0 rfl (N' := 7) (a0 := (7, .inl (fun _ => 0))) (fun _ => rfl) (by decide) (by decide) (by decide) (Nat.le_of_ble_eq_true rfl) (Nat.le_of_ble_eq_true rfl) d_Value_init_7 (fun q1 H w => ?_)
    have w : kW D A s [(h0, .inr (11, [.null, .null, .int 0, .int 0, .int 0, .int 0, .int 0])), (q1, .inl (a 0, 7, .inl (fun _ => 0)))] H locs := w
    refine kx_putF E w zC_Value hnm 0 rfl 0 (by decide) mw_6 rfl rfl rfl rfl (Nat.le_of_ble_eq_true rfl) d_Value_init_9 (ws' := [(h0, .inr (11, [.ref q1, .null, .int 0, .int 0, .int 0, .int 0, .int 0])), (q1, .inl (a 0, 7, .inl (fun _ => 0)))]) rfl (fun H locs w => ?_)
    refine lv_aload_n hx hb d_Value_init_12 rfl (lv_at hl 0 rfl) ?_
    refine kx_new E w zC_Big mw_7 mw_8 mw_9 (fs := [.null, .int 0, .int 0]) z0_Big (Nat.le_of_ble_eq_true rfl) (Nat.le_of_ble_eq_true rfl) d_Value_init_13 (fun q2 H w => ?_)
    have w : kW D A s [(h0, .inr (11, [.ref q1, .null, .int 0, .int 0, .int 0, .int 0, .int 0])), (q1, .inl (a 0, 7, .inl (fun _ => 0))), (q2, .inr (1, [.null, .int 0, .int 0]))] H locs := w
    refine lv_dup hx hb d_Value_init_16 rfl ?_
    refine lv_bipush (v := 12) hx hb d_Value_init_17 (by decide) ?_
    refine kx_v E w (wc := [(q2, .inr (1, [.null, .int 0, .int 0]))]) (wr := [(h0, .inr (11, [.ref q1, .null, .int 0, .int 0, .int 0, .int 0, .int 0])), (q1, .inl (a 0, 7, .inl (fun _ => 0)))]) [2] [0, 1] rfl rfl ⟨rfl, rfl, by decide⟩ (kx_rI E w hl.1 (As := [.int 12]) (wc := [(q2, .inr (1, [.null, .int 0, .int 0]))]) (c_Big_init_12 l D a q2 H.size) gc_0 gi_Big_init [2] rfl rfl rfl rfl rfl ⟨(Nat.le_of_ble_eq_true rfl), (Nat.le_of_ble_eq_true rfl)⟩ rfl (Nat.le_of_ble_eq_true rfl) d_Value_init_19 ⟨(Nat.le_of_ble_eq_true rfl), (Nat.le_of_ble_eq_true rfl)⟩) (fun u H locs hu w => ?_)
    obtain ⟨q3, rfl⟩ := hu
    have w : kW D A s [(h0, .inr (11, [.ref q1, .null, .int 0, .int 0, .int 0, .int 0, .int 0])), (q1, .inl (a 0, 7, .inl (fun _ => 0))), (q2, .inr (1, [.ref q3, .int 0, .int 0])), (q3, .inl (a 0, 12, .inl (fun _ => 0)))] H locs := w
    refine kx_putF E w zC_Value hnm 0 rfl 1 (by decide) mw_13 rfl rfl rfl rfl (Nat.le_of_ble_eq_true rfl) d_Value_init_22 (ws' := [(h0, .inr (11, [.ref q1, .ref q2, .int 0, .int 0, .int 0, .int 0, .int 0])), (q1, .inl (a 0, 7, .inl (fun _ => 0))), (q2, .inr (1, [.ref q3, .int 0, .int 0])), (q3, .inl (a 0, 12, .inl (fun _ => 0)))]) rfl (fun H locs w => ?_)
    refine W.widen (k := 3) (n := 22) (Nat.le_of_ble_eq_true rfl) (Nat.le_of_ble_eq_true rfl) ?_
    exact kx_vret E w hr hlk d_Value_init_25 ⟨q1, q2, q3, rfl⟩)
set_option maxRecDepth 100000 in
set_option maxHeartbeats 4000000 in
theorem c_Big_setLong0_8 (l : Launch) (D : va_G) (a : Nat → ClassId) (h0 : Nat) (h1 : Nat) (x0 : Int32) (x1 : Int32) (f0 : Nat → Int32) : ∀ sz : Nat, Met l y_Big_setLong (Cond.code y_Big_setLong b_Big_setLong 6 none :: wA) ({ frames := 0, cells := 0, slots := 0, locals := 0 } : Room) (va_Pc [.ref h0, .long 0] (kP D a [(h0, .inr (1, [.ref h1, .int x0, .int x1])), (h1, .inl (a 0, 8, .inl f0))] sz)) (va_Qv (fun u : va_W => u = [(h0, .inr (1, [.ref h1, .int 0, .int 0])), (h1, .inl (a 0, 8, .inl f0))]) (kB D a (va_A [(h0, .inr (1, [.ref h1, .int x0, .int x1])), (h1, .inl (a 0, 8, .inl f0))] sz)) (va_A [(h0, .inr (1, [.ref h1, .int x0, .int x1])), (h1, .inl (a 0, 8, .inl f0))] sz)) 0 0 (va_A [(h0, .inr (1, [.ref h1, .int x0, .int x1])), (h1, .inl (a 0, 8, .inl f0))] sz) :=
  kM (Qc := fun A => va_Qv (fun u : va_W => u = [(h0, .inr (1, [.ref h1, .int 0, .int 0])), (h1, .inl (a 0, 8, .inl f0))]) (kB D a A) A) (by decide) (Nat.le_of_ble_eq_true rfl) (by
    intro p e s m below meth c A ls H locs E hr hlk hnm w hl
    have hx := E.1.1
    have hb := E.1.2.1
    have E : kE p m c b_Big_setLong 6 s [.ref h0, .long 0].toArray "RootAlgebra$Big" D a A := E
    have hl : lv_has ls 6 [(0, .ref h0), (1, .long 0)] := hl
    refine lv_aload_n hx hb d_Big_setLong_0 rfl (lv_at hl 0 rfl) ?_
    refine lv_lload_n hx hb d_Big_setLong_1 rfl (lv_at hl 1 rfl) ?_
    refine lv_lconst (v := 0) hx hb d_Big_setLong_2 (by decide) ?_
    refine kx_lcmp (v := 0) hx hb d_Big_setLong_3 (by decide) ?_
    refine lv_if_ge (tgt := 11) hx hb d_Big_setLong_4 (by decide) (fun _ => ?_) (fun h => absurd (by decide) h)
    refine lv_lload_n hx hb d_Big_setLong_11 rfl (lv_at hl 1 rfl) ?_
    refine lv_lconst (v := 0) hx hb d_Big_setLong_12 (by decide) ?_
    refine kx_lcmp (v := 0) hx hb d_Big_setLong_13 (by decide) ?_
    refine lv_if_le (tgt := 21) hx hb d_Big_setLong_14 (by decide) (fun _ => ?_) (fun h => absurd (by decide) h)
    refine lv_iconst (v := 0) hx hb d_Big_setLong_21 (by decide) ?_
    refine kx_put E w zC_Big 0 rfl 2 (by decide) mw_14 rfl rfl rfl (Nat.le_of_ble_eq_true rfl) d_Big_setLong_22 (ws' := [(h0, .inr (1, [.ref h1, .int x0, .int 0])), (h1, .inl (a 0, 8, .inl f0))]) rfl (fun H locs w => ?_)
    refine lv_lload_n hx hb d_Big_setLong_25 rfl (lv_at hl 1 rfl) ?_
    refine lv_lconst (v := 0) hx hb d_Big_setLong_26 (by decide) ?_
    refine kx_lcmp (v := 0) hx hb d_Big_setLong_27 (by decide) ?_
    refine lv_if_ge (tgt := 36) hx hb d_Big_setLong_28 (by decide) (fun _ => ?_) (fun h => absurd (by decide) h)
    refine lv_lload_n hx hb d_Big_setLong_36 rfl (lv_at hl 1 rfl) ?_
    refine lv_lstore_n (lv' := [(3, .long 0), (0, .ref h0), (1, .long 0)]) hx hb d_Big_setLong_37 rfl hl (by decide) rfl (fun ls hl => ?_)
    refine lv_aload_n hx hb d_Big_setLong_38 rfl (lv_at hl 1 rfl) ?_
    refine lv_iconst (v := 0) hx hb d_Big_setLong_39 (by decide) ?_
    refine kx_put E w zC_Big 0 rfl 1 (by decide) mw_15 rfl rfl rfl (Nat.le_of_ble_eq_true rfl) d_Big_setLong_40 (ws' := [(h0, .inr (1, [.ref h1, .int 0, .int 0])), (h1, .inl (a 0, 8, .inl f0))]) rfl (fun H locs w => ?_)
    refine lv_iconst (v := 0) hx hb d_Big_setLong_43 (by decide) ?_
    refine lv_istore (lv' := [(5, .int 0), (3, .long 0), (0, .ref h0), (1, .long 0)]) hx hb d_Big_setLong_44 hl (by decide) rfl (fun ls hl => ?_)
    refine lv_iload hx hb d_Big_setLong_46 (lv_at hl 0 rfl) ?_
    refine lv_iconst (v := 2) hx hb d_Big_setLong_48 (by decide) ?_
    refine lv_icmp_ge (tgt := 96) hx hb d_Big_setLong_49 (by decide) (fun h => absurd h (by decide)) (fun _ => ?_)
    refine lv_iload hx hb d_Big_setLong_52 (lv_at hl 0 rfl) ?_
    refine lv_aload_n hx hb d_Big_setLong_54 rfl (lv_at hl 2 rfl) ?_
    refine kx_get E w zC_Big 0 rfl 0 (by decide) mw_4 rfl d_Big_setLong_55 ?_
    refine kx_alen E w 1 0 rfl rfl (v := 8) rfl d_Big_setLong_58 ?_
    refine lv_icmp_ge (tgt := 96) hx hb d_Big_setLong_59 (by decide) (fun h => absurd h (by decide)) (fun _ => ?_)
    refine lv_lload_n hx hb d_Big_setLong_62 rfl (lv_at hl 1 rfl) ?_
    refine lv_lconst (v := 0) hx hb d_Big_setLong_63 (by decide) ?_
    refine kx_lcmp (v := 0) hx hb d_Big_setLong_64 (by decide) ?_
    refine lv_if_eq (tgt := 96) hx hb d_Big_setLong_65 (by decide) (fun _ => ?_) (fun h => absurd (by decide) h)
    refine W.widen (k := 0) (n := 0) (Nat.le_of_ble_eq_true rfl) (Nat.le_of_ble_eq_true rfl) ?_
    exact kx_vret E w hr hlk d_Big_setLong_96 rfl)
set_option maxRecDepth 100000 in
set_option maxHeartbeats 4000000 in
theorem c_Big_setLong0_12 (l : Launch) (D : va_G) (a : Nat → ClassId) (h0 : Nat) (h1 : Nat) (x0 : Int32) (x1 : Int32) (f0 : Nat → Int32) : ∀ sz : Nat, Met l y_Big_setLong (Cond.code y_Big_setLong b_Big_setLong 6 none :: wA) ({ frames := 0, cells := 0, slots := 0, locals := 0 } : Room) (va_Pc [.ref h0, .long 0] (kP D a [(h0, .inr (1, [.ref h1, .int x0, .int x1])), (h1, .inl (a 0, 12, .inl f0))] sz)) (va_Qv (fun u : va_W => u = [(h0, .inr (1, [.ref h1, .int 0, .int 0])), (h1, .inl (a 0, 12, .inl f0))]) (kB D a (va_A [(h0, .inr (1, [.ref h1, .int x0, .int x1])), (h1, .inl (a 0, 12, .inl f0))] sz)) (va_A [(h0, .inr (1, [.ref h1, .int x0, .int x1])), (h1, .inl (a 0, 12, .inl f0))] sz)) 0 0 (va_A [(h0, .inr (1, [.ref h1, .int x0, .int x1])), (h1, .inl (a 0, 12, .inl f0))] sz) :=
  kM (Qc := fun A => va_Qv (fun u : va_W => u = [(h0, .inr (1, [.ref h1, .int 0, .int 0])), (h1, .inl (a 0, 12, .inl f0))]) (kB D a A) A) (by decide) (Nat.le_of_ble_eq_true rfl) (by
    intro p e s m below meth c A ls H locs E hr hlk hnm w hl
    have hx := E.1.1
    have hb := E.1.2.1
    have E : kE p m c b_Big_setLong 6 s [.ref h0, .long 0].toArray "RootAlgebra$Big" D a A := E
    have hl : lv_has ls 6 [(0, .ref h0), (1, .long 0)] := hl
    refine lv_aload_n hx hb d_Big_setLong_0 rfl (lv_at hl 0 rfl) ?_
    refine lv_lload_n hx hb d_Big_setLong_1 rfl (lv_at hl 1 rfl) ?_
    refine lv_lconst (v := 0) hx hb d_Big_setLong_2 (by decide) ?_
    refine kx_lcmp (v := 0) hx hb d_Big_setLong_3 (by decide) ?_
    refine lv_if_ge (tgt := 11) hx hb d_Big_setLong_4 (by decide) (fun _ => ?_) (fun h => absurd (by decide) h)
    refine lv_lload_n hx hb d_Big_setLong_11 rfl (lv_at hl 1 rfl) ?_
    refine lv_lconst (v := 0) hx hb d_Big_setLong_12 (by decide) ?_
    refine kx_lcmp (v := 0) hx hb d_Big_setLong_13 (by decide) ?_
    refine lv_if_le (tgt := 21) hx hb d_Big_setLong_14 (by decide) (fun _ => ?_) (fun h => absurd (by decide) h)
    refine lv_iconst (v := 0) hx hb d_Big_setLong_21 (by decide) ?_
    refine kx_put E w zC_Big 0 rfl 2 (by decide) mw_14 rfl rfl rfl (Nat.le_of_ble_eq_true rfl) d_Big_setLong_22 (ws' := [(h0, .inr (1, [.ref h1, .int x0, .int 0])), (h1, .inl (a 0, 12, .inl f0))]) rfl (fun H locs w => ?_)
    refine lv_lload_n hx hb d_Big_setLong_25 rfl (lv_at hl 1 rfl) ?_
    refine lv_lconst (v := 0) hx hb d_Big_setLong_26 (by decide) ?_
    refine kx_lcmp (v := 0) hx hb d_Big_setLong_27 (by decide) ?_
    refine lv_if_ge (tgt := 36) hx hb d_Big_setLong_28 (by decide) (fun _ => ?_) (fun h => absurd (by decide) h)
    refine lv_lload_n hx hb d_Big_setLong_36 rfl (lv_at hl 1 rfl) ?_
    refine lv_lstore_n (lv' := [(3, .long 0), (0, .ref h0), (1, .long 0)]) hx hb d_Big_setLong_37 rfl hl (by decide) rfl (fun ls hl => ?_)
    refine lv_aload_n hx hb d_Big_setLong_38 rfl (lv_at hl 1 rfl) ?_
    refine lv_iconst (v := 0) hx hb d_Big_setLong_39 (by decide) ?_
    refine kx_put E w zC_Big 0 rfl 1 (by decide) mw_15 rfl rfl rfl (Nat.le_of_ble_eq_true rfl) d_Big_setLong_40 (ws' := [(h0, .inr (1, [.ref h1, .int 0, .int 0])), (h1, .inl (a 0, 12, .inl f0))]) rfl (fun H locs w => ?_)
    refine lv_iconst (v := 0) hx hb d_Big_setLong_43 (by decide) ?_
    refine lv_istore (lv' := [(5, .int 0), (3, .long 0), (0, .ref h0), (1, .long 0)]) hx hb d_Big_setLong_44 hl (by decide) rfl (fun ls hl => ?_)
    refine lv_iload hx hb d_Big_setLong_46 (lv_at hl 0 rfl) ?_
    refine lv_iconst (v := 2) hx hb d_Big_setLong_48 (by decide) ?_
    refine lv_icmp_ge (tgt := 96) hx hb d_Big_setLong_49 (by decide) (fun h => absurd h (by decide)) (fun _ => ?_)
    refine lv_iload hx hb d_Big_setLong_52 (lv_at hl 0 rfl) ?_
    refine lv_aload_n hx hb d_Big_setLong_54 rfl (lv_at hl 2 rfl) ?_
    refine kx_get E w zC_Big 0 rfl 0 (by decide) mw_4 rfl d_Big_setLong_55 ?_
    refine kx_alen E w 1 0 rfl rfl (v := 12) rfl d_Big_setLong_58 ?_
    refine lv_icmp_ge (tgt := 96) hx hb d_Big_setLong_59 (by decide) (fun h => absurd h (by decide)) (fun _ => ?_)
    refine lv_lload_n hx hb d_Big_setLong_62 rfl (lv_at hl 1 rfl) ?_
    refine lv_lconst (v := 0) hx hb d_Big_setLong_63 (by decide) ?_
    refine kx_lcmp (v := 0) hx hb d_Big_setLong_64 (by decide) ?_
    refine lv_if_eq (tgt := 96) hx hb d_Big_setLong_65 (by decide) (fun _ => ?_) (fun h => absurd (by decide) h)
    refine W.widen (k := 0) (n := 0) (Nat.le_of_ble_eq_true rfl) (Nat.le_of_ble_eq_true rfl) ?_
    exact kx_vret E w hr hlk d_Big_setLong_96 rfl)
set_option maxRecDepth 100000 in
set_option maxHeartbeats 4000000 in
theorem c_Big_setLong0_72 (l : Launch) (D : va_G) (a : Nat → ClassId) (h0 : Nat) (h1 : Nat) (x0 : Int32) (x1 : Int32) (f0 : Nat → Int32) : ∀ sz : Nat, Met l y_Big_setLong (Cond.code y_Big_setLong b_Big_setLong 6 none :: wA) ({ frames := 0, cells := 0, slots := 0, locals := 0 } : Room) (va_Pc [.ref h0, .long 0] (kP D a [(h0, .inr (1, [.ref h1, .int x0, .int x1])), (h1, .inl (a 0, 72, .inl f0))] sz)) (va_Qv (fun u : va_W => u = [(h0, .inr (1, [.ref h1, .int 0, .int 0])), (h1, .inl (a 0, 72, .inl f0))]) (kB D a (va_A [(h0, .inr (1, [.ref h1, .int x0, .int x1])), (h1, .inl (a 0, 72, .inl f0))] sz)) (va_A [(h0, .inr (1, [.ref h1, .int x0, .int x1])), (h1, .inl (a 0, 72, .inl f0))] sz)) 0 0 (va_A [(h0, .inr (1, [.ref h1, .int x0, .int x1])), (h1, .inl (a 0, 72, .inl f0))] sz) :=
  kM (Qc := fun A => va_Qv (fun u : va_W => u = [(h0, .inr (1, [.ref h1, .int 0, .int 0])), (h1, .inl (a 0, 72, .inl f0))]) (kB D a A) A) (by decide) (Nat.le_of_ble_eq_true rfl) (by
    intro p e s m below meth c A ls H locs E hr hlk hnm w hl
    have hx := E.1.1
    have hb := E.1.2.1
    have E : kE p m c b_Big_setLong 6 s [.ref h0, .long 0].toArray "RootAlgebra$Big" D a A := E
    have hl : lv_has ls 6 [(0, .ref h0), (1, .long 0)] := hl
    refine lv_aload_n hx hb d_Big_setLong_0 rfl (lv_at hl 0 rfl) ?_
    refine lv_lload_n hx hb d_Big_setLong_1 rfl (lv_at hl 1 rfl) ?_
    refine lv_lconst (v := 0) hx hb d_Big_setLong_2 (by decide) ?_
    refine kx_lcmp (v := 0) hx hb d_Big_setLong_3 (by decide) ?_
    refine lv_if_ge (tgt := 11) hx hb d_Big_setLong_4 (by decide) (fun _ => ?_) (fun h => absurd (by decide) h)
    refine lv_lload_n hx hb d_Big_setLong_11 rfl (lv_at hl 1 rfl) ?_
    refine lv_lconst (v := 0) hx hb d_Big_setLong_12 (by decide) ?_
    refine kx_lcmp (v := 0) hx hb d_Big_setLong_13 (by decide) ?_
    refine lv_if_le (tgt := 21) hx hb d_Big_setLong_14 (by decide) (fun _ => ?_) (fun h => absurd (by decide) h)
    refine lv_iconst (v := 0) hx hb d_Big_setLong_21 (by decide) ?_
    refine kx_put E w zC_Big 0 rfl 2 (by decide) mw_14 rfl rfl rfl (Nat.le_of_ble_eq_true rfl) d_Big_setLong_22 (ws' := [(h0, .inr (1, [.ref h1, .int x0, .int 0])), (h1, .inl (a 0, 72, .inl f0))]) rfl (fun H locs w => ?_)
    refine lv_lload_n hx hb d_Big_setLong_25 rfl (lv_at hl 1 rfl) ?_
    refine lv_lconst (v := 0) hx hb d_Big_setLong_26 (by decide) ?_
    refine kx_lcmp (v := 0) hx hb d_Big_setLong_27 (by decide) ?_
    refine lv_if_ge (tgt := 36) hx hb d_Big_setLong_28 (by decide) (fun _ => ?_) (fun h => absurd (by decide) h)
    refine lv_lload_n hx hb d_Big_setLong_36 rfl (lv_at hl 1 rfl) ?_
    refine lv_lstore_n (lv' := [(3, .long 0), (0, .ref h0), (1, .long 0)]) hx hb d_Big_setLong_37 rfl hl (by decide) rfl (fun ls hl => ?_)
    refine lv_aload_n hx hb d_Big_setLong_38 rfl (lv_at hl 1 rfl) ?_
    refine lv_iconst (v := 0) hx hb d_Big_setLong_39 (by decide) ?_
    refine kx_put E w zC_Big 0 rfl 1 (by decide) mw_15 rfl rfl rfl (Nat.le_of_ble_eq_true rfl) d_Big_setLong_40 (ws' := [(h0, .inr (1, [.ref h1, .int 0, .int 0])), (h1, .inl (a 0, 72, .inl f0))]) rfl (fun H locs w => ?_)
    refine lv_iconst (v := 0) hx hb d_Big_setLong_43 (by decide) ?_
    refine lv_istore (lv' := [(5, .int 0), (3, .long 0), (0, .ref h0), (1, .long 0)]) hx hb d_Big_setLong_44 hl (by decide) rfl (fun ls hl => ?_)
    refine lv_iload hx hb d_Big_setLong_46 (lv_at hl 0 rfl) ?_
    refine lv_iconst (v := 2) hx hb d_Big_setLong_48 (by decide) ?_
    refine lv_icmp_ge (tgt := 96) hx hb d_Big_setLong_49 (by decide) (fun h => absurd h (by decide)) (fun _ => ?_)
    refine lv_iload hx hb d_Big_setLong_52 (lv_at hl 0 rfl) ?_
    refine lv_aload_n hx hb d_Big_setLong_54 rfl (lv_at hl 2 rfl) ?_
    refine kx_get E w zC_Big 0 rfl 0 (by decide) mw_4 rfl d_Big_setLong_55 ?_
    refine kx_alen E w 1 0 rfl rfl (v := 72) rfl d_Big_setLong_58 ?_
    refine lv_icmp_ge (tgt := 96) hx hb d_Big_setLong_59 (by decide) (fun h => absurd h (by decide)) (fun _ => ?_)
    refine lv_lload_n hx hb d_Big_setLong_62 rfl (lv_at hl 1 rfl) ?_
    refine lv_lconst (v := 0) hx hb d_Big_setLong_63 (by decide) ?_
    refine kx_lcmp (v := 0) hx hb d_Big_setLong_64 (by decide) ?_
    refine lv_if_eq (tgt := 96) hx hb d_Big_setLong_65 (by decide) (fun _ => ?_) (fun h => absurd (by decide) h)
    refine W.widen (k := 0) (n := 0) (Nat.le_of_ble_eq_true rfl) (Nat.le_of_ble_eq_true rfl) ?_
    exact kx_vret E w hr hlk d_Big_setLong_96 rfl)
set_option maxRecDepth 100000 in
set_option maxHeartbeats 4000000 in
theorem c_Value_finish0 (l : Launch) (D : va_G) (a : Nat → ClassId) (h0 : Nat) (h1 : Nat) (h2 : Nat) (h3 : Nat) : ∀ sz : Nat, Met l y_Value_finishFraction (Cond.code y_Value_finishFraction b_Value_finishFraction 1 none :: wA) ({ frames := 1, cells := 0, slots := 0, locals := 25 } : Room) (va_Pc [.ref h0] (kP D a [(h0, .inr (11, [.ref h1, .ref h2, .int 1, .int 0, .int 0, .int 0, .int 0])), (h1, .inl (a 0, 7, .inl (upd (upd (fun _ => 0) 0 0) 1 1))), (h2, .inr (1, [.ref h3, .int 0, .int 0])), (h3, .inl (a 0, 12, .inl (fun _ => 0)))] sz)) (va_Qv (fun u : va_W => u = [(h0, .inr (11, [.ref h1, .ref h2, .int 1, .int 0, .int 1, .int 0, .int 0])), (h1, .inl (a 0, 7, .inl (upd (upd (fun _ => 0) 0 0) 1 1))), (h2, .inr (1, [.ref h3, .int 0, .int 0])), (h3, .inl (a 0, 12, .inl (fun _ => 0)))]) (kB D a (va_A [(h0, .inr (11, [.ref h1, .ref h2, .int 1, .int 0, .int 0, .int 0, .int 0])), (h1, .inl (a 0, 7, .inl (upd (upd (fun _ => 0) 0 0) 1 1))), (h2, .inr (1, [.ref h3, .int 0, .int 0])), (h3, .inl (a 0, 12, .inl (fun _ => 0)))] sz)) (va_A [(h0, .inr (11, [.ref h1, .ref h2, .int 1, .int 0, .int 0, .int 0, .int 0])), (h1, .inl (a 0, 7, .inl (upd (upd (fun _ => 0) 0 0) 1 1))), (h2, .inr (1, [.ref h3, .int 0, .int 0])), (h3, .inl (a 0, 12, .inl (fun _ => 0)))] sz)) 0 0 (va_A [(h0, .inr (11, [.ref h1, .ref h2, .int 1, .int 0, .int 0, .int 0, .int 0])), (h1, .inl (a 0, 7, .inl (upd (upd (fun _ => 0) 0 0) 1 1))), (h2, .inr (1, [.ref h3, .int 0, .int 0])), (h3, .inl (a 0, 12, .inl (fun _ => 0)))] sz) :=
  kM (Qc := fun A => va_Qv (fun u : va_W => u = [(h0, .inr (11, [.ref h1, .ref h2, .int 1, .int 0, .int 1, .int 0, .int 0])), (h1, .inl (a 0, 7, .inl (upd (upd (fun _ => 0) 0 0) 1 1))), (h2, .inr (1, [.ref h3, .int 0, .int 0])), (h3, .inl (a 0, 12, .inl (fun _ => 0)))]) (kB D a A) A) (by decide) (Nat.le_of_ble_eq_true rfl) (by
    intro p e s m below meth c A ls H locs E hr hlk hnm w hl
    have hx := E.1.1
    have hb := E.1.2.1
    have E : kE p m c b_Value_finishFraction 1 s [.ref h0].toArray "RootAlgebra$Value" D a A := E
    have hl : lv_has ls 1 [(0, .ref h0)] := hl
    refine lv_aload_n hx hb d_Value_finishFraction_0 rfl (lv_at hl 0 rfl) ?_
    refine lv_iconst (v := 0) hx hb d_Value_finishFraction_1 (by decide) ?_
    refine kx_put E w zC_Value 0 rfl 3 (by decide) mw_16 rfl rfl rfl (Nat.le_of_ble_eq_true rfl) d_Value_finishFraction_2 (ws' := [(h0, .inr (11, [.ref h1, .ref h2, .int 1, .int 0, .int 0, .int 0, .int 0])), (h1, .inl (a 0, 7, .inl (upd (upd (fun _ => 0) 0 0) 1 1))), (h2, .inr (1, [.ref h3, .int 0, .int 0])), (h3, .inl (a 0, 12, .inl (fun _ => 0)))]) rfl (fun H locs w => ?_)
    refine lv_aload_n hx hb d_Value_finishFraction_5 rfl (lv_at hl 0 rfl) ?_
    refine lv_iconst (v := 1) hx hb d_Value_finishFraction_6 (by decide) ?_
    refine kx_put E w zC_Value 0 rfl 4 (by decide) mw_17 rfl rfl rfl (Nat.le_of_ble_eq_true rfl) d_Value_finishFraction_7 (ws' := [(h0, .inr (11, [.ref h1, .ref h2, .int 1, .int 0, .int 1, .int 0, .int 0])), (h1, .inl (a 0, 7, .inl (upd (upd (fun _ => 0) 0 0) 1 1))), (h2, .inr (1, [.ref h3, .int 0, .int 0])), (h3, .inl (a 0, 12, .inl (fun _ => 0)))]) rfl (fun H locs w => ?_)
    refine lv_aload_n hx hb d_Value_finishFraction_10 rfl (lv_at hl 0 rfl) ?_
    refine lv_aload_n hx hb d_Value_finishFraction_11 rfl (lv_at hl 0 rfl) ?_
    refine kx_get E w zC_Value 0 rfl 0 (by decide) mw_6 rfl d_Value_finishFraction_12 ?_
    refine lv_iconst (v := 0) hx hb d_Value_finishFraction_15 (by decide) ?_
    refine kx_iald E w 1 rfl (by unfold vp_in; decide) (v := 0) rfl d_Value_finishFraction_16 ?_
    refine lv_if_le (tgt := 24) hx hb d_Value_finishFraction_17 (by decide) (fun _ => ?_) (fun h => absurd (by decide) h)
    refine lv_iconst (v := 0) hx hb d_Value_finishFraction_24 (by decide) ?_
    refine kx_put E w zC_Value 0 rfl 5 (by decide) mw_18 rfl rfl rfl (Nat.le_of_ble_eq_true rfl) d_Value_finishFraction_25 (ws' := [(h0, .inr (11, [.ref h1, .ref h2, .int 1, .int 0, .int 1, .int 0, .int 0])), (h1, .inl (a 0, 7, .inl (upd (upd (fun _ => 0) 0 0) 1 1))), (h2, .inr (1, [.ref h3, .int 0, .int 0])), (h3, .inl (a 0, 12, .inl (fun _ => 0)))]) rfl (fun H locs w => ?_)
    refine lv_aload_n hx hb d_Value_finishFraction_28 rfl (lv_at hl 0 rfl) ?_
    refine lv_iconst (v := 0) hx hb d_Value_finishFraction_29 (by decide) ?_
    refine kx_put E w zC_Value 0 rfl 6 (by decide) mw_19 rfl rfl rfl (Nat.le_of_ble_eq_true rfl) d_Value_finishFraction_30 (ws' := [(h0, .inr (11, [.ref h1, .ref h2, .int 1, .int 0, .int 1, .int 0, .int 0])), (h1, .inl (a 0, 7, .inl (upd (upd (fun _ => 0) 0 0) 1 1))), (h2, .inr (1, [.ref h3, .int 0, .int 0])), (h3, .inl (a 0, 12, .inl (fun _ => 0)))]) rfl (fun H locs w => ?_)
    refine lv_aload_n hx hb d_Value_finishFraction_33 rfl (lv_at hl 0 rfl) ?_
    refine kx_get E w zC_Value 0 rfl 1 (by decide) mw_13 rfl d_Value_finishFraction_34 ?_
    refine lv_lconst (v := 0) hx hb d_Value_finishFraction_37 (by decide) ?_
    refine kx_v E w (wc := [(h2, .inr (1, [.ref h3, .int 0, .int 0])), (h3, .inl (a 0, 12, .inl (fun _ => 0)))]) (wr := [(h0, .inr (11, [.ref h1, .ref h2, .int 1, .int 0, .int 1, .int 0, .int 0])), (h1, .inl (a 0, 7, .inl (upd (upd (fun _ => 0) 0 0) 1 1)))]) [2, 3] [0, 1] rfl rfl ⟨rfl, rfl, by decide⟩ (kx_rV E w hl.1 (As := [.long 0]) (wc := [(h2, .inr (1, [.ref h3, .int 0, .int 0])), (h3, .inl (a 0, 12, .inl (fun _ => 0)))]) (c_Big_setLong0_12 l D a h2 h3 0 0 (fun _ => 0) H.size) gc_1 gv_Big_setLong (kRecv E w 1 2 rfl rfl) [2, 3] rfl rfl rfl rfl rfl ⟨(Nat.le_of_ble_eq_true rfl), (Nat.le_of_ble_eq_true rfl)⟩ rfl (Nat.le_of_ble_eq_true rfl) d_Value_finishFraction_38 ⟨(Nat.le_of_ble_eq_true rfl), (Nat.le_of_ble_eq_true rfl)⟩) (fun u H locs hu w => ?_)
    obtain ⟨rfl⟩ := hu
    have w : kW D A s [(h0, .inr (11, [.ref h1, .ref h2, .int 1, .int 0, .int 1, .int 0, .int 0])), (h1, .inl (a 0, 7, .inl (upd (upd (fun _ => 0) 0 0) 1 1))), (h2, .inr (1, [.ref h3, .int 0, .int 0])), (h3, .inl (a 0, 12, .inl (fun _ => 0)))] H locs := w
    refine W.widen (k := 0) (n := 0) (Nat.le_of_ble_eq_true rfl) (Nat.le_of_ble_eq_true rfl) ?_
    exact kx_vret E w hr hlk d_Value_finishFraction_41 rfl)
set_option maxRecDepth 100000 in
set_option maxHeartbeats 4000000 in
theorem c_Value_set01 (l : Launch) (D : va_G) (a : Nat → ClassId) (h0 : Nat) (h1 : Nat) (h2 : Nat) (h3 : Nat) : ∀ sz : Nat, Met l y_Value_setFraction (Cond.code y_Value_setFraction b_Value_setFraction 3 none :: wA) ({ frames := 2, cells := 0, slots := 0, locals := 45 } : Room) (va_Pc [.ref h0, .int 0, .int 1] (kP D a [(h0, .inr (11, [.ref h1, .ref h2, .int 0, .int 0, .int 0, .int 0, .int 0])), (h1, .inl (a 0, 7, .inl (fun _ => 0))), (h2, .inr (1, [.ref h3, .int 0, .int 0])), (h3, .inl (a 0, 12, .inl (fun _ => 0)))] sz)) (va_Qv (fun u : va_W => u = [(h0, .inr (11, [.ref h1, .ref h2, .int 1, .int 0, .int 1, .int 0, .int 0])), (h1, .inl (a 0, 7, .inl (upd (upd (fun _ => 0) 0 0) 1 1))), (h2, .inr (1, [.ref h3, .int 0, .int 0])), (h3, .inl (a 0, 12, .inl (fun _ => 0)))]) (kB D a (va_A [(h0, .inr (11, [.ref h1, .ref h2, .int 0, .int 0, .int 0, .int 0, .int 0])), (h1, .inl (a 0, 7, .inl (fun _ => 0))), (h2, .inr (1, [.ref h3, .int 0, .int 0])), (h3, .inl (a 0, 12, .inl (fun _ => 0)))] sz)) (va_A [(h0, .inr (11, [.ref h1, .ref h2, .int 0, .int 0, .int 0, .int 0, .int 0])), (h1, .inl (a 0, 7, .inl (fun _ => 0))), (h2, .inr (1, [.ref h3, .int 0, .int 0])), (h3, .inl (a 0, 12, .inl (fun _ => 0)))] sz)) 0 0 (va_A [(h0, .inr (11, [.ref h1, .ref h2, .int 0, .int 0, .int 0, .int 0, .int 0])), (h1, .inl (a 0, 7, .inl (fun _ => 0))), (h2, .inr (1, [.ref h3, .int 0, .int 0])), (h3, .inl (a 0, 12, .inl (fun _ => 0)))] sz) :=
  kM (Qc := fun A => va_Qv (fun u : va_W => u = [(h0, .inr (11, [.ref h1, .ref h2, .int 1, .int 0, .int 1, .int 0, .int 0])), (h1, .inl (a 0, 7, .inl (upd (upd (fun _ => 0) 0 0) 1 1))), (h2, .inr (1, [.ref h3, .int 0, .int 0])), (h3, .inl (a 0, 12, .inl (fun _ => 0)))]) (kB D a A) A) (by decide) (Nat.le_of_ble_eq_true rfl) (by
    intro p e s m below meth c A ls H locs E hr hlk hnm w hl
    have hx := E.1.1
    have hb := E.1.2.1
    have E : kE p m c b_Value_setFraction 3 s [.ref h0, .int 0, .int 1].toArray "RootAlgebra$Value" D a A := E
    have hl : lv_has ls 3 [(0, .ref h0), (1, .int 0), (2, .int 1)] := hl
    refine lv_aload_n hx hb d_Value_setFraction_0 rfl (lv_at hl 0 rfl) ?_
    refine lv_iconst (v := 1) hx hb d_Value_setFraction_1 (by decide) ?_
    refine kx_put E w zC_Value 0 rfl 2 (by decide) mw_24 rfl rfl rfl (Nat.le_of_ble_eq_true rfl) d_Value_setFraction_2 (ws' := [(h0, .inr (11, [.ref h1, .ref h2, .int 1, .int 0, .int 0, .int 0, .int 0])), (h1, .inl (a 0, 7, .inl (fun _ => 0))), (h2, .inr (1, [.ref h3, .int 0, .int 0])), (h3, .inl (a 0, 12, .inl (fun _ => 0)))]) rfl (fun H locs w => ?_)
    refine lv_aload_n hx hb d_Value_setFraction_5 rfl (lv_at hl 0 rfl) ?_
    refine kx_get E w zC_Value 0 rfl 0 (by decide) mw_6 rfl d_Value_setFraction_6 ?_
    refine lv_iconst (v := 0) hx hb d_Value_setFraction_9 (by decide) ?_
    refine lv_iload_n hx hb d_Value_setFraction_10 rfl (lv_at hl 1 rfl) ?_
    refine kx_ineg (v := 0) hx hb d_Value_setFraction_11 (by decide) ?_
    refine kx_iast E w 1 rfl (by unfold vp_in; decide) 0 (by decide) d_Value_setFraction_12 (ws' := [(h0, .inr (11, [.ref h1, .ref h2, .int 1, .int 0, .int 0, .int 0, .int 0])), (h1, .inl (a 0, 7, .inl (upd (fun _ => 0) 0 0))), (h2, .inr (1, [.ref h3, .int 0, .int 0])), (h3, .inl (a 0, 12, .inl (fun _ => 0)))]) rfl (fun H locs w => ?_)
    refine lv_aload_n hx hb d_Value_setFraction_13 rfl (lv_at hl 0 rfl) ?_
    refine kx_get E w zC_Value 0 rfl 0 (by decide) mw_6 rfl d_Value_setFraction_14 ?_
    refine lv_iconst (v := 1) hx hb d_Value_setFraction_17 (by decide) ?_
    refine lv_iload_n hx hb d_Value_setFraction_18 rfl (lv_at hl 2 rfl) ?_
    refine kx_iast E w 1 rfl (by unfold vp_in; decide) 1 (by decide) d_Value_setFraction_19 (ws' := [(h0, .inr (11, [.ref h1, .ref h2, .int 1, .int 0, .int 0, .int 0, .int 0])), (h1, .inl (a 0, 7, .inl (upd (upd (fun _ => 0) 0 0) 1 1))), (h2, .inr (1, [.ref h3, .int 0, .int 0])), (h3, .inl (a 0, 12, .inl (fun _ => 0)))]) rfl (fun H locs w => ?_)
    refine lv_aload_n hx hb d_Value_setFraction_20 rfl (lv_at hl 0 rfl) ?_
    refine kx_v E w (wc := [(h0, .inr (11, [.ref h1, .ref h2, .int 1, .int 0, .int 0, .int 0, .int 0])), (h1, .inl (a 0, 7, .inl (upd (upd (fun _ => 0) 0 0) 1 1))), (h2, .inr (1, [.ref h3, .int 0, .int 0])), (h3, .inl (a 0, 12, .inl (fun _ => 0)))]) (wr := []) [0, 1, 2, 3] [] rfl rfl ⟨rfl, rfl, by decide⟩ (kx_rV E w hl.1 (As := []) (wc := [(h0, .inr (11, [.ref h1, .ref h2, .int 1, .int 0, .int 0, .int 0, .int 0])), (h1, .inl (a 0, 7, .inl (upd (upd (fun _ => 0) 0 0) 1 1))), (h2, .inr (1, [.ref h3, .int 0, .int 0])), (h3, .inl (a 0, 12, .inl (fun _ => 0)))]) (c_Value_finish0 l D a h0 h1 h2 h3 H.size) gc_2 gv_Value_finishFraction (kRecv E w 11 0 rfl rfl) [0, 1, 2, 3] rfl rfl rfl rfl rfl ⟨(Nat.le_of_ble_eq_true rfl), (Nat.le_of_ble_eq_true rfl)⟩ rfl (Nat.le_of_ble_eq_true rfl) d_Value_setFraction_21 ⟨(Nat.le_of_ble_eq_true rfl), (Nat.le_of_ble_eq_true rfl)⟩) (fun u H locs hu w => ?_)
    obtain ⟨rfl⟩ := hu
    have w : kW D A s [(h0, .inr (11, [.ref h1, .ref h2, .int 1, .int 0, .int 1, .int 0, .int 0])), (h1, .inl (a 0, 7, .inl (upd (upd (fun _ => 0) 0 0) 1 1))), (h2, .inr (1, [.ref h3, .int 0, .int 0])), (h3, .inl (a 0, 12, .inl (fun _ => 0)))] H locs := w
    refine W.widen (k := 0) (n := 0) (Nat.le_of_ble_eq_true rfl) (Nat.le_of_ble_eq_true rfl) ?_
    exact kx_vret E w hr hlk d_Value_setFraction_24 rfl)
set_option maxRecDepth 100000 in
set_option maxHeartbeats 4000000 in
theorem c_Poly_init (l : Launch) (D : va_G) (a : Nat → ClassId) (h0 : Nat) : ∀ sz : Nat, Met l y_Poly_init (Cond.code y_Poly_init b_Poly_init 2 none :: wA) ({ frames := 2, cells := 27, slots := 416, locals := 41 } : Room) (va_Pc [.ref h0] (kP D a [(h0, .inr (8, [.null, .int 0]))] sz)) (va_Qv (fun u : va_W => ∃ q1 : Nat, u = [(h0, .inr (8, [.ref q1, .int 0]))]) (kB D a (va_A [(h0, .inr (8, [.null, .int 0]))] sz)) (va_A [(h0, .inr (8, [.null, .int 0]))] sz)) 27 416 (va_A [(h0, .inr (8, [.null, .int 0]))] sz) :=
  kM (Qc := fun A => va_Qv (fun u : va_W => ∃ q1 : Nat, u = [(h0, .inr (8, [.ref q1, .int 0]))]) (kB D a A) A) (by decide) (Nat.le_of_ble_eq_true rfl) (by
    intro p e s m below meth c A ls H locs E hr hlk hnm w hl
    have hx := E.1.1
    have hb := E.1.2.1
    have E : kE p m c b_Poly_init 2 s [.ref h0].toArray "RootAlgebra$Poly" D a A := E
    have hl : lv_has ls 2 [(0, .ref h0)] := hl
    have hnm : meth.name = "<init>" := hnm
    refine lv_aload_n hx hb d_Poly_init_0 rfl (lv_at hl 0 rfl) ?_
    refine kx_obj E hl.1 mw_30 mw_1 mw_2 d_Poly_init_1 (Nat.le_of_ble_eq_true rfl) (Nat.le_of_ble_eq_true rfl) (Nat.le_of_ble_eq_true rfl) ?_
    refine lv_aload_n hx hb d_Poly_init_4 rfl (lv_at hl 0 rfl) ?_
    refine lv_bipush (v := 13) hx hb d_Poly_init_5 (by decide) ?_
    refine kx_newq E w mw_31 E.2.1.2.1 4 rfl (N' := 13) (by decide) (by decide) (by decide) (Nat.le_of_ble_eq_true rfl) (Nat.le_of_ble_eq_true rfl) d_Poly_init_7 (fun q1 H w => ?_)
    have w : kW D A s [(h0, .inr (8, [.null, .int 0])), (q1, .inl (a 4, 13, .inr (.inr (.inr (.inr (fun _ => none))))))] H locs := w
    refine kx_putF E w zC_Poly hnm 0 rfl 0 (by decide) mw_32 rfl rfl rfl rfl (Nat.le_of_ble_eq_true rfl) d_Poly_init_10 (ws' := [(h0, .inr (8, [.ref q1, .int 0])), (q1, .inl (a 4, 13, .inr (.inr (.inr (.inr (fun _ => none))))))]) rfl (fun H locs w => ?_)
    refine lv_iconst (v := 0) hx hb d_Poly_init_13 (by decide) ?_
    refine lv_istore_n (lv' := [(1, .int 0), (0, .ref h0)]) hx hb d_Poly_init_14 rfl hl (by decide) rfl (fun ls hl => ?_)
    refine W.widen (k := 1 + 2 * 0) (n := 13 + 31 * 0) (Nat.le_of_ble_eq_true rfl) (Nat.le_of_ble_eq_true rfl) ?_
    have loop : ∀ (n i : Nat), i + n = 13 → ∀ (f1 : Nat → Option Nat) (H : Heap) (locs : List Loc) (ls : Array Slot), kW D A s [(h0, .inr (8, [.ref q1, .int 0])), (q1, .inl (a 4, 13, .inr (.inr (.inr (.inr f1)))))] H locs → lv_has ls 2 [(0, .ref h0), (1, .int (nI i))] → W p l e ({ frames := 2, cells := 27, slots := 416, locals := 41 } : Room) s m [.ref h0].toArray below meth c H locs (1 + 2 * i) (13 + 31 * i) (MQ below (va_Qv (fun u : va_W => ∃ q1 : Nat, u = [(h0, .inr (8, [.ref q1, .int 0]))]) (kB D a A) A) [.ref h0].toArray s 27 416 A) (F0 m 15 ls [])  := by
      intro n
      induction n with
      | zero =>
        intro i hi f1 H locs ls w hl
        obtain rfl : i = 13 := by omega
        have hl : lv_has ls 2 [(0, .ref h0), (1, .int 13)] := hl
        refine lv_iload_n hx hb d_Poly_init_15 rfl (lv_at hl 1 rfl) ?_
        refine lv_bipush (v := 12) hx hb d_Poly_init_16 (by decide) ?_
        refine lv_icmp_gt (tgt := 42) hx hb d_Poly_init_18 (by decide) (fun _ => ?_) (fun h => absurd (by decide) h)
        have w := kW_sub w (ws' := [(h0, .inr (8, [.ref q1, .int 0]))]) [0] rfl rfl
        refine W.widen (k := 27) (n := 416) (Nat.le_of_ble_eq_true rfl) (Nat.le_of_ble_eq_true rfl) ?_
        exact kx_vret E w hr hlk d_Poly_init_42 ⟨q1, rfl⟩
      | succ n ih =>
        intro i hi f1 H locs ls w hl
        refine lv_iload_n hx hb d_Poly_init_15 rfl (lv_at hl 1 rfl) ?_
        refine lv_bipush (v := 12) hx hb d_Poly_init_16 (by decide) ?_
        refine lv_icmp_gt (tgt := 42) hx hb d_Poly_init_18 (by decide) (fun h => absurd h (nI_nlt (a := 12) (b := i) (by omega) (by omega))) (fun _ => ?_)
        refine lv_aload_n hx hb d_Poly_init_21 rfl (lv_at hl 0 rfl) ?_
        refine kx_get E w zC_Poly 0 rfl 0 (by decide) mw_32 rfl d_Poly_init_22 ?_
        refine lv_iload_n hx hb d_Poly_init_25 rfl (lv_at hl 1 rfl) ?_
        refine kx_new E w zC_Big mw_31 mw_8 mw_9 (fs := [.null, .int 0, .int 0]) z0_Big (show 1 + 2 * i + 1 ≤ 27 from by omega) (show 13 + 31 * i + 3 ≤ 416 from by omega) d_Poly_init_26 (fun q2 H w => ?_)
        have w : kW D A s [(h0, .inr (8, [.ref q1, .int 0])), (q1, .inl (a 4, 13, .inr (.inr (.inr (.inr f1))))), (q2, .inr (1, [.null, .int 0, .int 0]))] H locs := w
        refine lv_dup hx hb d_Poly_init_29 rfl ?_
        refine lv_bipush (v := 28) hx hb d_Poly_init_30 (by decide) ?_
        refine kx_v E w (wc := [(q2, .inr (1, [.null, .int 0, .int 0]))]) (wr := [(h0, .inr (8, [.ref q1, .int 0])), (q1, .inl (a 4, 13, .inr (.inr (.inr (.inr f1)))))]) [2] [0, 1] rfl rfl ⟨rfl, rfl, by decide⟩ (kx_rI E w hl.1 (As := [.int 28]) (wc := [(q2, .inr (1, [.null, .int 0, .int 0]))]) (c_Big_init_28 l D a q2 H.size) gc_3 gi_Big_init [2] rfl rfl rfl rfl rfl ⟨(Nat.le_of_ble_eq_true rfl), (Nat.le_of_ble_eq_true rfl)⟩ rfl (Nat.le_of_ble_eq_true rfl) d_Poly_init_32 ⟨(show 1 + 2 * i + 1 + 1 ≤ 27 from by omega), (show 13 + 31 * i + 3 + 28 ≤ 416 from by omega)⟩) (fun u H locs hu w => ?_)
        obtain ⟨q3, rfl⟩ := hu
        have w : kW D A s [(h0, .inr (8, [.ref q1, .int 0])), (q1, .inl (a 4, 13, .inr (.inr (.inr (.inr f1))))), (q2, .inr (1, [.ref q3, .int 0, .int 0])), (q3, .inl (a 0, 28, .inl (fun _ => 0)))] H locs := w
        refine kx_aast E w 1 4 2 1 rfl rfl rfl rfl (vp_in_nI (by omega) (by omega)) i (nI_clamp (by omega)) d_Poly_init_35 (ws' := [(h0, .inr (8, [.ref q1, .int 0])), (q1, .inl (a 4, 13, .inr (.inr (.inr (.inr (va_up f1 i (some q2))))))), (q2, .inr (1, [.ref q3, .int 0, .int 0])), (q3, .inl (a 0, 28, .inl (fun _ => 0)))]) rfl (fun H locs w => ?_)
        refine lv_iinc (v := (nI (i + 1))) (lv' := [(1, .int (nI (i + 1))), (0, .ref h0)]) hx hb d_Poly_init_36 hl (k := 1) rfl (kx_inc i) (by decide) rfl (fun ls hl => ?_)
        refine lv_goto (tgt := 15) hx hb d_Poly_init_39 (by decide) ?_
        have w := kW_sub w (ws' := [(h0, .inr (8, [.ref q1, .int 0])), (q1, .inl (a 4, 13, .inr (.inr (.inr (.inr (va_up f1 i (some q2)))))))]) [0, 1] rfl rfl
        refine W.widen (k := 1 + 2 * (i + 1)) (n := 13 + 31 * (i + 1)) (by omega) (by omega) ?_
        exact ih (i + 1) (by omega) _ _ _ _ w (lv_sub hl [1, 0] rfl)
    exact loop 13 0 (by omega) _ _ _ _ w (lv_sub hl [1, 0] rfl))
set_option maxRecDepth 100000 in
set_option maxHeartbeats 4000000 in
theorem c_Field_init (l : Launch) (D : va_G) (a : Nat → ClassId) (h0 : Nat) : ∀ sz : Nat, Met l y_Field_init (Cond.code y_Field_init b_Field_init 1 none :: wA) ({ frames := 1, cells := 6, slots := 168, locals := 20 } : Room) (va_Pc [.ref h0] (kP D a [(h0, .inr (4, [.int 0, .null, .null, .null, .null, .null, .null]))] sz)) (va_Qv (fun u : va_W => ∃ q1 : Nat, ∃ q2 : Nat, ∃ q3 : Nat, ∃ q4 : Nat, ∃ q5 : Nat, ∃ q6 : Nat, u = [(h0, .inr (4, [.int 3, .ref q1, .ref q2, .ref q3, .ref q4, .ref q5, .ref q6]))]) (kB D a (va_A [(h0, .inr (4, [.int 0, .null, .null, .null, .null, .null, .null]))] sz)) (va_A [(h0, .inr (4, [.int 0, .null, .null, .null, .null, .null, .null]))] sz)) 6 168 (va_A [(h0, .inr (4, [.int 0, .null, .null, .null, .null, .null, .null]))] sz) :=
  kM (Qc := fun A => va_Qv (fun u : va_W => ∃ q1 : Nat, ∃ q2 : Nat, ∃ q3 : Nat, ∃ q4 : Nat, ∃ q5 : Nat, ∃ q6 : Nat, u = [(h0, .inr (4, [.int 3, .ref q1, .ref q2, .ref q3, .ref q4, .ref q5, .ref q6]))]) (kB D a A) A) (by decide) (Nat.le_of_ble_eq_true rfl) (by
    intro p e s m below meth c A ls H locs E hr hlk hnm w hl
    have hx := E.1.1
    have hb := E.1.2.1
    have E : kE p m c b_Field_init 1 s [.ref h0].toArray "RootAlgebra$Field" D a A := E
    have hl : lv_has ls 1 [(0, .ref h0)] := hl
    have hnm : meth.name = "<init>" := hnm
    refine lv_aload_n hx hb d_Field_init_0 rfl (lv_at hl 0 rfl) ?_
    refine kx_obj E hl.1 mw_34 mw_1 mw_2 d_Field_init_1 (Nat.le_of_ble_eq_true rfl) (Nat.le_of_ble_eq_true rfl) (Nat.le_of_ble_eq_true rfl) ?_
    refine lv_aload_n hx hb d_Field_init_4 rfl (lv_at hl 0 rfl) ?_
    refine lv_iconst (v := 3) hx hb d_Field_init_5 (by decide) ?_
    refine kx_put E w zC_Field 0 rfl 0 (by decide) mw_35 rfl rfl rfl (Nat.le_of_ble_eq_true rfl) d_Field_init_6 (ws' := [(h0, .inr (4, [.int 3, .null, .null, .null, .null, .null, .null]))]) rfl (fun H locs w => ?_)
    refine lv_aload_n hx hb d_Field_init_9 rfl (lv_at hl 0 rfl) ?_
    refine lv_bipush (v := 28) hx hb d_Field_init_10 (by decide) ?_
    refine kx_newa0 E w rfl mw_36 (N' := 28) (a0 := (28, .inr (.inl (fun _ => 0)))) (fun _ => rfl) (by decide) (by decide) (by decide) (Nat.le_of_ble_eq_true rfl) (Nat.le_of_ble_eq_true rfl) d_Field_init_12 (fun q1 H w => ?_)
    refine kx_putF E w zC_Field hnm 0 rfl 1 (by decide) mw_37 rfl rfl rfl rfl (Nat.le_of_ble_eq_true rfl) d_Field_init_14 (ws' := [(h0, .inr (4, [.int 3, .ref q1, .null, .null, .null, .null, .null]))]) rfl (fun H locs w => ?_)
    refine lv_aload_n hx hb d_Field_init_17 rfl (lv_at hl 0 rfl) ?_
    refine lv_bipush (v := 28) hx hb d_Field_init_18 (by decide) ?_
    refine kx_newa0 E w rfl mw_36 (N' := 28) (a0 := (28, .inr (.inl (fun _ => 0)))) (fun _ => rfl) (by decide) (by decide) (by decide) (Nat.le_of_ble_eq_true rfl) (Nat.le_of_ble_eq_true rfl) d_Field_init_20 (fun q2 H w => ?_)
    refine kx_putF E w zC_Field hnm 0 rfl 2 (by decide) mw_38 rfl rfl rfl rfl (Nat.le_of_ble_eq_true rfl) d_Field_init_22 (ws' := [(h0, .inr (4, [.int 3, .ref q1, .ref q2, .null, .null, .null, .null]))]) rfl (fun H locs w => ?_)
    refine lv_aload_n hx hb d_Field_init_25 rfl (lv_at hl 0 rfl) ?_
    refine lv_bipush (v := 28) hx hb d_Field_init_26 (by decide) ?_
    refine kx_newa0 E w rfl mw_36 (N' := 28) (a0 := (28, .inr (.inl (fun _ => 0)))) (fun _ => rfl) (by decide) (by decide) (by decide) (Nat.le_of_ble_eq_true rfl) (Nat.le_of_ble_eq_true rfl) d_Field_init_28 (fun q3 H w => ?_)
    refine kx_put E w zC_Field 0 rfl 3 (by decide) mw_39 rfl rfl rfl (Nat.le_of_ble_eq_true rfl) d_Field_init_30 (ws' := [(h0, .inr (4, [.int 3, .ref q1, .ref q2, .ref q3, .null, .null, .null]))]) rfl (fun H locs w => ?_)
    refine lv_aload_n hx hb d_Field_init_33 rfl (lv_at hl 0 rfl) ?_
    refine lv_bipush (v := 28) hx hb d_Field_init_34 (by decide) ?_
    refine kx_newa0 E w rfl mw_36 (N' := 28) (a0 := (28, .inr (.inl (fun _ => 0)))) (fun _ => rfl) (by decide) (by decide) (by decide) (Nat.le_of_ble_eq_true rfl) (Nat.le_of_ble_eq_true rfl) d_Field_init_36 (fun q4 H w => ?_)
    refine kx_put E w zC_Field 0 rfl 4 (by decide) mw_40 rfl rfl rfl (Nat.le_of_ble_eq_true rfl) d_Field_init_38 (ws' := [(h0, .inr (4, [.int 3, .ref q1, .ref q2, .ref q3, .ref q4, .null, .null]))]) rfl (fun H locs w => ?_)
    refine lv_aload_n hx hb d_Field_init_41 rfl (lv_at hl 0 rfl) ?_
    refine lv_bipush (v := 28) hx hb d_Field_init_42 (by decide) ?_
    refine kx_newa0 E w rfl mw_36 (N' := 28) (a0 := (28, .inr (.inl (fun _ => 0)))) (fun _ => rfl) (by decide) (by decide) (by decide) (Nat.le_of_ble_eq_true rfl) (Nat.le_of_ble_eq_true rfl) d_Field_init_44 (fun q5 H w => ?_)
    refine kx_put E w zC_Field 0 rfl 5 (by decide) mw_41 rfl rfl rfl (Nat.le_of_ble_eq_true rfl) d_Field_init_46 (ws' := [(h0, .inr (4, [.int 3, .ref q1, .ref q2, .ref q3, .ref q4, .ref q5, .null]))]) rfl (fun H locs w => ?_)
    refine lv_aload_n hx hb d_Field_init_49 rfl (lv_at hl 0 rfl) ?_
    refine lv_bipush (v := 28) hx hb d_Field_init_50 (by decide) ?_
    refine kx_newa0 E w rfl mw_36 (N' := 28) (a0 := (28, .inr (.inl (fun _ => 0)))) (fun _ => rfl) (by decide) (by decide) (by decide) (Nat.le_of_ble_eq_true rfl) (Nat.le_of_ble_eq_true rfl) d_Field_init_52 (fun q6 H w => ?_)
    refine kx_put E w zC_Field 0 rfl 6 (by decide) mw_42 rfl rfl rfl (Nat.le_of_ble_eq_true rfl) d_Field_init_54 (ws' := [(h0, .inr (4, [.int 3, .ref q1, .ref q2, .ref q3, .ref q4, .ref q5, .ref q6]))]) rfl (fun H locs w => ?_)
    refine W.widen (k := 6) (n := 168) (Nat.le_of_ble_eq_true rfl) (Nat.le_of_ble_eq_true rfl) ?_
    exact kx_vret E w hr hlk d_Field_init_57 ⟨q1, q2, q3, q4, q5, q6, rfl⟩)
set_option maxRecDepth 100000 in
set_option maxHeartbeats 4000000 in
theorem c_Padic_init (l : Launch) (D : va_G) (a : Nat → ClassId) (h0 : Nat) : ∀ sz : Nat, Met l y_Padic_init (Cond.code y_Padic_init b_Padic_init 1 none :: wA) ({ frames := 2, cells := 2, slots := 31, locals := 41 } : Room) (va_Pc [.ref h0] (kP D a [(h0, .inr (7, [.int 0, .long 0, .null]))] sz)) (va_Qv (fun u : va_W => ∃ q1 : Nat, u = [(h0, .inr (7, [.int 3, .long 0, .ref q1]))]) (kB D a (va_A [(h0, .inr (7, [.int 0, .long 0, .null]))] sz)) (va_A [(h0, .inr (7, [.int 0, .long 0, .null]))] sz)) 2 31 (va_A [(h0, .inr (7, [.int 0, .long 0, .null]))] sz) :=
  kM (Qc := fun A => va_Qv (fun u : va_W => ∃ q1 : Nat, u = [(h0, .inr (7, [.int 3, .long 0, .ref q1]))]) (kB D a A) A) (by decide) (Nat.le_of_ble_eq_true rfl) (by
    intro p e s m below meth c A ls H locs E hr hlk hnm w hl
    have hx := E.1.1
    have hb := E.1.2.1
    have E : kE p m c b_Padic_init 1 s [.ref h0].toArray "RootAlgebra$Padic" D a A := E
    have hl : lv_has ls 1 [(0, .ref h0)] := hl
    have hnm : meth.name = "<init>" := hnm
    refine lv_aload_n hx hb d_Padic_init_0 rfl (lv_at hl 0 rfl) ?_
    refine kx_obj E hl.1 mw_43 mw_1 mw_2 d_Padic_init_1 (Nat.le_of_ble_eq_true rfl) (Nat.le_of_ble_eq_true rfl) (Nat.le_of_ble_eq_true rfl) ?_
    refine lv_aload_n hx hb d_Padic_init_4 rfl (lv_at hl 0 rfl) ?_
    refine lv_iconst (v := 3) hx hb d_Padic_init_5 (by decide) ?_
    refine kx_put E w zC_Padic 0 rfl 0 (by decide) mw_44 rfl rfl rfl (Nat.le_of_ble_eq_true rfl) d_Padic_init_6 (ws' := [(h0, .inr (7, [.int 3, .long 0, .null]))]) rfl (fun H locs w => ?_)
    refine lv_aload_n hx hb d_Padic_init_9 rfl (lv_at hl 0 rfl) ?_
    refine kx_new E w zC_Big mw_45 mw_8 mw_9 (fs := [.null, .int 0, .int 0]) z0_Big (Nat.le_of_ble_eq_true rfl) (Nat.le_of_ble_eq_true rfl) d_Padic_init_10 (fun q1 H w => ?_)
    have w : kW D A s [(h0, .inr (7, [.int 3, .long 0, .null])), (q1, .inr (1, [.null, .int 0, .int 0]))] H locs := w
    refine lv_dup hx hb d_Padic_init_13 rfl ?_
    refine lv_bipush (v := 28) hx hb d_Padic_init_14 (by decide) ?_
    refine kx_v E w (wc := [(q1, .inr (1, [.null, .int 0, .int 0]))]) (wr := [(h0, .inr (7, [.int 3, .long 0, .null]))]) [1] [0] rfl rfl ⟨rfl, rfl, by decide⟩ (kx_rI E w hl.1 (As := [.int 28]) (wc := [(q1, .inr (1, [.null, .int 0, .int 0]))]) (c_Big_init_28 l D a q1 H.size) gc_4 gi_Big_init [1] rfl rfl rfl rfl rfl ⟨(Nat.le_of_ble_eq_true rfl), (Nat.le_of_ble_eq_true rfl)⟩ rfl (Nat.le_of_ble_eq_true rfl) d_Padic_init_16 ⟨(Nat.le_of_ble_eq_true rfl), (Nat.le_of_ble_eq_true rfl)⟩) (fun u H locs hu w => ?_)
    obtain ⟨q2, rfl⟩ := hu
    have w : kW D A s [(h0, .inr (7, [.int 3, .long 0, .null])), (q1, .inr (1, [.ref q2, .int 0, .int 0])), (q2, .inl (a 0, 28, .inl (fun _ => 0)))] H locs := w
    refine kx_putF E w zC_Padic hnm 0 rfl 2 (by decide) mw_47 rfl rfl rfl rfl (Nat.le_of_ble_eq_true rfl) d_Padic_init_19 (ws' := [(h0, .inr (7, [.int 3, .long 0, .ref q1])), (q1, .inr (1, [.ref q2, .int 0, .int 0])), (q2, .inl (a 0, 28, .inl (fun _ => 0)))]) rfl (fun H locs w => ?_)
    have w := kW_sub w (ws' := [(h0, .inr (7, [.int 3, .long 0, .ref q1]))]) [0] rfl rfl
    refine W.widen (k := 2) (n := 31) (Nat.le_of_ble_eq_true rfl) (Nat.le_of_ble_eq_true rfl) ?_
    exact kx_vret E w hr hlk d_Padic_init_22 ⟨q1, rfl⟩)
set_option maxRecDepth 100000 in
set_option maxHeartbeats 4000000 in
theorem c_Reader_init (l : Launch) (D : va_G) (a : Nat → ClassId) (h0 : Nat) (h1 : Nat) : ∀ sz : Nat, Met l y_Reader_init (Cond.code y_Reader_init b_Reader_init 2 none :: wA) ({ frames := 1, cells := 1, slots := 820, locals := 20 } : Room) (va_Pc [.ref h0, .ref h1] (kP D a [(h0, .inr (9, [.null, .null, .int 0, .int 0, .int 0, .int 0, .int 0]))] sz)) (va_Qv (fun u : va_W => ∃ q1 : Nat, u = [(h0, .inr (9, [.ref q1, .ref h1, .int 0, .int 0, .int 0, .int 0, .int 0]))]) (kB D a (va_A [(h0, .inr (9, [.null, .null, .int 0, .int 0, .int 0, .int 0, .int 0]))] sz)) (va_A [(h0, .inr (9, [.null, .null, .int 0, .int 0, .int 0, .int 0, .int 0]))] sz)) 1 820 (va_A [(h0, .inr (9, [.null, .null, .int 0, .int 0, .int 0, .int 0, .int 0]))] sz) :=
  kM (Qc := fun A => va_Qv (fun u : va_W => ∃ q1 : Nat, u = [(h0, .inr (9, [.ref q1, .ref h1, .int 0, .int 0, .int 0, .int 0, .int 0]))]) (kB D a A) A) (by decide) (Nat.le_of_ble_eq_true rfl) (by
    intro p e s m below meth c A ls H locs E hr hlk hnm w hl
    have hx := E.1.1
    have hb := E.1.2.1
    have E : kE p m c b_Reader_init 2 s [.ref h0, .ref h1].toArray "RootAlgebra$Reader" D a A := E
    have hl : lv_has ls 2 [(0, .ref h0), (1, .ref h1)] := hl
    have hnm : meth.name = "<init>" := hnm
    refine lv_aload_n hx hb d_Reader_init_0 rfl (lv_at hl 0 rfl) ?_
    refine kx_obj E hl.1 mw_48 mw_1 mw_2 d_Reader_init_1 (Nat.le_of_ble_eq_true rfl) (Nat.le_of_ble_eq_true rfl) (Nat.le_of_ble_eq_true rfl) ?_
    refine lv_aload_n hx hb d_Reader_init_4 rfl (lv_at hl 0 rfl) ?_
    refine lv_aload_n hx hb d_Reader_init_5 rfl (lv_at hl 1 rfl) ?_
    refine kx_putF E w zC_Reader hnm 0 rfl 1 (by decide) mw_49 rfl rfl rfl rfl (Nat.le_of_ble_eq_true rfl) d_Reader_init_6 (ws' := [(h0, .inr (9, [.null, .ref h1, .int 0, .int 0, .int 0, .int 0, .int 0]))]) rfl (fun H locs w => ?_)
    refine lv_aload_n hx hb d_Reader_init_9 rfl (lv_at hl 0 rfl) ?_
    refine lv_sipush (v := 820) hx hb d_Reader_init_10 (by decide) ?_
    refine kx_newa0 E w rfl mw_3 (N' := 820) (a0 := (820, .inl (fun _ => 0))) (fun _ => rfl) (by decide) (by decide) (by decide) (Nat.le_of_ble_eq_true rfl) (Nat.le_of_ble_eq_true rfl) d_Reader_init_13 (fun q1 H w => ?_)
    refine kx_putF E w zC_Reader hnm 0 rfl 0 (by decide) mw_50 rfl rfl rfl rfl (Nat.le_of_ble_eq_true rfl) d_Reader_init_15 (ws' := [(h0, .inr (9, [.ref q1, .ref h1, .int 0, .int 0, .int 0, .int 0, .int 0]))]) rfl (fun H locs w => ?_)
    refine W.widen (k := 1) (n := 820) (Nat.le_of_ble_eq_true rfl) (Nat.le_of_ble_eq_true rfl) ?_
    exact kx_vret E w hr hlk d_Reader_init_18 ⟨q1, rfl⟩)
set_option maxRecDepth 100000 in
set_option maxHeartbeats 4000000 in
theorem c_Gauge_init (l : Launch) (D : va_G) (a : Nat → ClassId) (h0 : Nat) : ∀ sz : Nat, Met l y_Gauge_init (Cond.code y_Gauge_init b_Gauge_init 1 none :: wA) ({ frames := 2, cells := 22, slots := 2793, locals := 41 } : Room) (va_Pc [.ref h0] (kP D a [(h0, .inr (5, [.null, .null, .null, .null, .null, .null, .null, .null, .null, .null, .null, .null, .null, .int 0, .int 0, .int 0, .int 0]))] sz)) (va_Qv (fun u : va_W => ∃ q1 : Nat, ∃ q3 : Nat, ∃ q5 : Nat, ∃ q7 : Nat, ∃ q9 : Nat, ∃ q11 : Nat, ∃ q13 : Nat, ∃ q15 : Nat, ∃ q17 : Nat, ∃ q19 : Nat, ∃ q21 : Nat, ∃ q20 : Nat, u = [(h0, .inr (5, [.ref q1, .ref q3, .ref q5, .ref q7, .ref q9, .ref q11, .ref q13, .ref q15, .ref q17, .ref q19, .ref q21, .null, .null, .int 0, .int 0, .int 0, .int 0])), (q19, .inr (1, [.ref q20, .int 0, .int 0])), (q20, .inl (a 0, 72, .inl (fun _ => 0)))]) (kB D a (va_A [(h0, .inr (5, [.null, .null, .null, .null, .null, .null, .null, .null, .null, .null, .null, .null, .null, .int 0, .int 0, .int 0, .int 0]))] sz)) (va_A [(h0, .inr (5, [.null, .null, .null, .null, .null, .null, .null, .null, .null, .null, .null, .null, .null, .int 0, .int 0, .int 0, .int 0]))] sz)) 22 2793 (va_A [(h0, .inr (5, [.null, .null, .null, .null, .null, .null, .null, .null, .null, .null, .null, .null, .null, .int 0, .int 0, .int 0, .int 0]))] sz) :=
  kM (Qc := fun A => va_Qv (fun u : va_W => ∃ q1 : Nat, ∃ q3 : Nat, ∃ q5 : Nat, ∃ q7 : Nat, ∃ q9 : Nat, ∃ q11 : Nat, ∃ q13 : Nat, ∃ q15 : Nat, ∃ q17 : Nat, ∃ q19 : Nat, ∃ q21 : Nat, ∃ q20 : Nat, u = [(h0, .inr (5, [.ref q1, .ref q3, .ref q5, .ref q7, .ref q9, .ref q11, .ref q13, .ref q15, .ref q17, .ref q19, .ref q21, .null, .null, .int 0, .int 0, .int 0, .int 0])), (q19, .inr (1, [.ref q20, .int 0, .int 0])), (q20, .inl (a 0, 72, .inl (fun _ => 0)))]) (kB D a A) A) (by decide) (Nat.le_of_ble_eq_true rfl) (by
    intro p e s m below meth c A ls H locs E hr hlk hnm w hl
    have hx := E.1.1
    have hb := E.1.2.1
    have E : kE p m c b_Gauge_init 1 s [.ref h0].toArray "RootAlgebra$Gauge" D a A := E
    have hl : lv_has ls 1 [(0, .ref h0)] := hl
    have hnm : meth.name = "<init>" := hnm
    refine lv_aload_n hx hb d_Gauge_init_0 rfl (lv_at hl 0 rfl) ?_
    refine kx_obj E hl.1 mw_51 mw_1 mw_2 d_Gauge_init_1 (Nat.le_of_ble_eq_true rfl) (Nat.le_of_ble_eq_true rfl) (Nat.le_of_ble_eq_true rfl) ?_
    refine lv_aload_n hx hb d_Gauge_init_4 rfl (lv_at hl 0 rfl) ?_
    refine kx_new E w zC_Big mw_52 mw_8 mw_9 (fs := [.null, .int 0, .int 0]) z0_Big (Nat.le_of_ble_eq_true rfl) (Nat.le_of_ble_eq_true rfl) d_Gauge_init_5 (fun q1 H w => ?_)
    have w : kW D A s [(h0, .inr (5, [.null, .null, .null, .null, .null, .null, .null, .null, .null, .null, .null, .null, .null, .int 0, .int 0, .int 0, .int 0])), (q1, .inr (1, [.null, .int 0, .int 0]))] H locs := w
    refine lv_dup hx hb d_Gauge_init_8 rfl ?_
    refine lv_sipush (v := 400) hx hb d_Gauge_init_9 (by decide) ?_
    refine kx_v E w (wc := [(q1, .inr (1, [.null, .int 0, .int 0]))]) (wr := [(h0, .inr (5, [.null, .null, .null, .null, .null, .null, .null, .null, .null, .null, .null, .null, .null, .int 0, .int 0, .int 0, .int 0]))]) [1] [0] rfl rfl ⟨rfl, rfl, by decide⟩ (kx_rI E w hl.1 (As := [.int 400]) (wc := [(q1, .inr (1, [.null, .int 0, .int 0]))]) (c_Big_init_400 l D a q1 H.size) gc_5 gi_Big_init [1] rfl rfl rfl rfl rfl ⟨(Nat.le_of_ble_eq_true rfl), (Nat.le_of_ble_eq_true rfl)⟩ rfl (Nat.le_of_ble_eq_true rfl) d_Gauge_init_12 ⟨(Nat.le_of_ble_eq_true rfl), (Nat.le_of_ble_eq_true rfl)⟩) (fun u H locs hu w => ?_)
    obtain ⟨q2, rfl⟩ := hu
    have w : kW D A s [(h0, .inr (5, [.null, .null, .null, .null, .null, .null, .null, .null, .null, .null, .null, .null, .null, .int 0, .int 0, .int 0, .int 0])), (q1, .inr (1, [.ref q2, .int 0, .int 0])), (q2, .inl (a 0, 400, .inl (fun _ => 0)))] H locs := w
    refine kx_putF E w zC_Gauge hnm 0 rfl 0 (by decide) mw_54 rfl rfl rfl rfl (Nat.le_of_ble_eq_true rfl) d_Gauge_init_15 (ws' := [(h0, .inr (5, [.ref q1, .null, .null, .null, .null, .null, .null, .null, .null, .null, .null, .null, .null, .int 0, .int 0, .int 0, .int 0])), (q1, .inr (1, [.ref q2, .int 0, .int 0])), (q2, .inl (a 0, 400, .inl (fun _ => 0)))]) rfl (fun H locs w => ?_)
    have w := kW_sub w (ws' := [(h0, .inr (5, [.ref q1, .null, .null, .null, .null, .null, .null, .null, .null, .null, .null, .null, .null, .int 0, .int 0, .int 0, .int 0]))]) [0] rfl rfl
    refine lv_aload_n hx hb d_Gauge_init_18 rfl (lv_at hl 0 rfl) ?_
    refine kx_new E w zC_Big mw_52 mw_8 mw_9 (fs := [.null, .int 0, .int 0]) z0_Big (Nat.le_of_ble_eq_true rfl) (Nat.le_of_ble_eq_true rfl) d_Gauge_init_19 (fun q3 H w => ?_)
    have w : kW D A s [(h0, .inr (5, [.ref q1, .null, .null, .null, .null, .null, .null, .null, .null, .null, .null, .null, .null, .int 0, .int 0, .int 0, .int 0])), (q3, .inr (1, [.null, .int 0, .int 0]))] H locs := w
    refine lv_dup hx hb d_Gauge_init_22 rfl ?_
    refine lv_sipush (v := 400) hx hb d_Gauge_init_23 (by decide) ?_
    refine kx_v E w (wc := [(q3, .inr (1, [.null, .int 0, .int 0]))]) (wr := [(h0, .inr (5, [.ref q1, .null, .null, .null, .null, .null, .null, .null, .null, .null, .null, .null, .null, .int 0, .int 0, .int 0, .int 0]))]) [1] [0] rfl rfl ⟨rfl, rfl, by decide⟩ (kx_rI E w hl.1 (As := [.int 400]) (wc := [(q3, .inr (1, [.null, .int 0, .int 0]))]) (c_Big_init_400 l D a q3 H.size) gc_5 gi_Big_init [1] rfl rfl rfl rfl rfl ⟨(Nat.le_of_ble_eq_true rfl), (Nat.le_of_ble_eq_true rfl)⟩ rfl (Nat.le_of_ble_eq_true rfl) d_Gauge_init_26 ⟨(Nat.le_of_ble_eq_true rfl), (Nat.le_of_ble_eq_true rfl)⟩) (fun u H locs hu w => ?_)
    obtain ⟨q4, rfl⟩ := hu
    have w : kW D A s [(h0, .inr (5, [.ref q1, .null, .null, .null, .null, .null, .null, .null, .null, .null, .null, .null, .null, .int 0, .int 0, .int 0, .int 0])), (q3, .inr (1, [.ref q4, .int 0, .int 0])), (q4, .inl (a 0, 400, .inl (fun _ => 0)))] H locs := w
    refine kx_putF E w zC_Gauge hnm 0 rfl 1 (by decide) mw_55 rfl rfl rfl rfl (Nat.le_of_ble_eq_true rfl) d_Gauge_init_29 (ws' := [(h0, .inr (5, [.ref q1, .ref q3, .null, .null, .null, .null, .null, .null, .null, .null, .null, .null, .null, .int 0, .int 0, .int 0, .int 0])), (q3, .inr (1, [.ref q4, .int 0, .int 0])), (q4, .inl (a 0, 400, .inl (fun _ => 0)))]) rfl (fun H locs w => ?_)
    have w := kW_sub w (ws' := [(h0, .inr (5, [.ref q1, .ref q3, .null, .null, .null, .null, .null, .null, .null, .null, .null, .null, .null, .int 0, .int 0, .int 0, .int 0]))]) [0] rfl rfl
    refine lv_aload_n hx hb d_Gauge_init_32 rfl (lv_at hl 0 rfl) ?_
    refine kx_new E w zC_Big mw_52 mw_8 mw_9 (fs := [.null, .int 0, .int 0]) z0_Big (Nat.le_of_ble_eq_true rfl) (Nat.le_of_ble_eq_true rfl) d_Gauge_init_33 (fun q5 H w => ?_)
    have w : kW D A s [(h0, .inr (5, [.ref q1, .ref q3, .null, .null, .null, .null, .null, .null, .null, .null, .null, .null, .null, .int 0, .int 0, .int 0, .int 0])), (q5, .inr (1, [.null, .int 0, .int 0]))] H locs := w
    refine lv_dup hx hb d_Gauge_init_36 rfl ?_
    refine lv_sipush (v := 400) hx hb d_Gauge_init_37 (by decide) ?_
    refine kx_v E w (wc := [(q5, .inr (1, [.null, .int 0, .int 0]))]) (wr := [(h0, .inr (5, [.ref q1, .ref q3, .null, .null, .null, .null, .null, .null, .null, .null, .null, .null, .null, .int 0, .int 0, .int 0, .int 0]))]) [1] [0] rfl rfl ⟨rfl, rfl, by decide⟩ (kx_rI E w hl.1 (As := [.int 400]) (wc := [(q5, .inr (1, [.null, .int 0, .int 0]))]) (c_Big_init_400 l D a q5 H.size) gc_5 gi_Big_init [1] rfl rfl rfl rfl rfl ⟨(Nat.le_of_ble_eq_true rfl), (Nat.le_of_ble_eq_true rfl)⟩ rfl (Nat.le_of_ble_eq_true rfl) d_Gauge_init_40 ⟨(Nat.le_of_ble_eq_true rfl), (Nat.le_of_ble_eq_true rfl)⟩) (fun u H locs hu w => ?_)
    obtain ⟨q6, rfl⟩ := hu
    have w : kW D A s [(h0, .inr (5, [.ref q1, .ref q3, .null, .null, .null, .null, .null, .null, .null, .null, .null, .null, .null, .int 0, .int 0, .int 0, .int 0])), (q5, .inr (1, [.ref q6, .int 0, .int 0])), (q6, .inl (a 0, 400, .inl (fun _ => 0)))] H locs := w
    refine kx_putF E w zC_Gauge hnm 0 rfl 2 (by decide) mw_56 rfl rfl rfl rfl (Nat.le_of_ble_eq_true rfl) d_Gauge_init_43 (ws' := [(h0, .inr (5, [.ref q1, .ref q3, .ref q5, .null, .null, .null, .null, .null, .null, .null, .null, .null, .null, .int 0, .int 0, .int 0, .int 0])), (q5, .inr (1, [.ref q6, .int 0, .int 0])), (q6, .inl (a 0, 400, .inl (fun _ => 0)))]) rfl (fun H locs w => ?_)
    have w := kW_sub w (ws' := [(h0, .inr (5, [.ref q1, .ref q3, .ref q5, .null, .null, .null, .null, .null, .null, .null, .null, .null, .null, .int 0, .int 0, .int 0, .int 0]))]) [0] rfl rfl
    refine lv_aload_n hx hb d_Gauge_init_46 rfl (lv_at hl 0 rfl) ?_
    refine kx_new E w zC_Big mw_52 mw_8 mw_9 (fs := [.null, .int 0, .int 0]) z0_Big (Nat.le_of_ble_eq_true rfl) (Nat.le_of_ble_eq_true rfl) d_Gauge_init_47 (fun q7 H w => ?_)
    have w : kW D A s [(h0, .inr (5, [.ref q1, .ref q3, .ref q5, .null, .null, .null, .null, .null, .null, .null, .null, .null, .null, .int 0, .int 0, .int 0, .int 0])), (q7, .inr (1, [.null, .int 0, .int 0]))] H locs := w
    refine lv_dup hx hb d_Gauge_init_50 rfl ?_
    refine lv_sipush (v := 400) hx hb d_Gauge_init_51 (by decide) ?_
    refine kx_v E w (wc := [(q7, .inr (1, [.null, .int 0, .int 0]))]) (wr := [(h0, .inr (5, [.ref q1, .ref q3, .ref q5, .null, .null, .null, .null, .null, .null, .null, .null, .null, .null, .int 0, .int 0, .int 0, .int 0]))]) [1] [0] rfl rfl ⟨rfl, rfl, by decide⟩ (kx_rI E w hl.1 (As := [.int 400]) (wc := [(q7, .inr (1, [.null, .int 0, .int 0]))]) (c_Big_init_400 l D a q7 H.size) gc_5 gi_Big_init [1] rfl rfl rfl rfl rfl ⟨(Nat.le_of_ble_eq_true rfl), (Nat.le_of_ble_eq_true rfl)⟩ rfl (Nat.le_of_ble_eq_true rfl) d_Gauge_init_54 ⟨(Nat.le_of_ble_eq_true rfl), (Nat.le_of_ble_eq_true rfl)⟩) (fun u H locs hu w => ?_)
    obtain ⟨q8, rfl⟩ := hu
    have w : kW D A s [(h0, .inr (5, [.ref q1, .ref q3, .ref q5, .null, .null, .null, .null, .null, .null, .null, .null, .null, .null, .int 0, .int 0, .int 0, .int 0])), (q7, .inr (1, [.ref q8, .int 0, .int 0])), (q8, .inl (a 0, 400, .inl (fun _ => 0)))] H locs := w
    refine kx_putF E w zC_Gauge hnm 0 rfl 3 (by decide) mw_57 rfl rfl rfl rfl (Nat.le_of_ble_eq_true rfl) d_Gauge_init_57 (ws' := [(h0, .inr (5, [.ref q1, .ref q3, .ref q5, .ref q7, .null, .null, .null, .null, .null, .null, .null, .null, .null, .int 0, .int 0, .int 0, .int 0])), (q7, .inr (1, [.ref q8, .int 0, .int 0])), (q8, .inl (a 0, 400, .inl (fun _ => 0)))]) rfl (fun H locs w => ?_)
    have w := kW_sub w (ws' := [(h0, .inr (5, [.ref q1, .ref q3, .ref q5, .ref q7, .null, .null, .null, .null, .null, .null, .null, .null, .null, .int 0, .int 0, .int 0, .int 0]))]) [0] rfl rfl
    refine lv_aload_n hx hb d_Gauge_init_60 rfl (lv_at hl 0 rfl) ?_
    refine kx_new E w zC_Big mw_52 mw_8 mw_9 (fs := [.null, .int 0, .int 0]) z0_Big (Nat.le_of_ble_eq_true rfl) (Nat.le_of_ble_eq_true rfl) d_Gauge_init_61 (fun q9 H w => ?_)
    have w : kW D A s [(h0, .inr (5, [.ref q1, .ref q3, .ref q5, .ref q7, .null, .null, .null, .null, .null, .null, .null, .null, .null, .int 0, .int 0, .int 0, .int 0])), (q9, .inr (1, [.null, .int 0, .int 0]))] H locs := w
    refine lv_dup hx hb d_Gauge_init_64 rfl ?_
    refine lv_bipush (v := 72) hx hb d_Gauge_init_65 (by decide) ?_
    refine kx_v E w (wc := [(q9, .inr (1, [.null, .int 0, .int 0]))]) (wr := [(h0, .inr (5, [.ref q1, .ref q3, .ref q5, .ref q7, .null, .null, .null, .null, .null, .null, .null, .null, .null, .int 0, .int 0, .int 0, .int 0]))]) [1] [0] rfl rfl ⟨rfl, rfl, by decide⟩ (kx_rI E w hl.1 (As := [.int 72]) (wc := [(q9, .inr (1, [.null, .int 0, .int 0]))]) (c_Big_init_72 l D a q9 H.size) gc_5 gi_Big_init [1] rfl rfl rfl rfl rfl ⟨(Nat.le_of_ble_eq_true rfl), (Nat.le_of_ble_eq_true rfl)⟩ rfl (Nat.le_of_ble_eq_true rfl) d_Gauge_init_67 ⟨(Nat.le_of_ble_eq_true rfl), (Nat.le_of_ble_eq_true rfl)⟩) (fun u H locs hu w => ?_)
    obtain ⟨q10, rfl⟩ := hu
    have w : kW D A s [(h0, .inr (5, [.ref q1, .ref q3, .ref q5, .ref q7, .null, .null, .null, .null, .null, .null, .null, .null, .null, .int 0, .int 0, .int 0, .int 0])), (q9, .inr (1, [.ref q10, .int 0, .int 0])), (q10, .inl (a 0, 72, .inl (fun _ => 0)))] H locs := w
    refine kx_putF E w zC_Gauge hnm 0 rfl 4 (by decide) mw_58 rfl rfl rfl rfl (Nat.le_of_ble_eq_true rfl) d_Gauge_init_70 (ws' := [(h0, .inr (5, [.ref q1, .ref q3, .ref q5, .ref q7, .ref q9, .null, .null, .null, .null, .null, .null, .null, .null, .int 0, .int 0, .int 0, .int 0])), (q9, .inr (1, [.ref q10, .int 0, .int 0])), (q10, .inl (a 0, 72, .inl (fun _ => 0)))]) rfl (fun H locs w => ?_)
    have w := kW_sub w (ws' := [(h0, .inr (5, [.ref q1, .ref q3, .ref q5, .ref q7, .ref q9, .null, .null, .null, .null, .null, .null, .null, .null, .int 0, .int 0, .int 0, .int 0]))]) [0] rfl rfl
    refine lv_aload_n hx hb d_Gauge_init_73 rfl (lv_at hl 0 rfl) ?_
    refine kx_new E w zC_Big mw_52 mw_8 mw_9 (fs := [.null, .int 0, .int 0]) z0_Big (Nat.le_of_ble_eq_true rfl) (Nat.le_of_ble_eq_true rfl) d_Gauge_init_74 (fun q11 H w => ?_)
    have w : kW D A s [(h0, .inr (5, [.ref q1, .ref q3, .ref q5, .ref q7, .ref q9, .null, .null, .null, .null, .null, .null, .null, .null, .int 0, .int 0, .int 0, .int 0])), (q11, .inr (1, [.null, .int 0, .int 0]))] H locs := w
    refine lv_dup hx hb d_Gauge_init_77 rfl ?_
    refine lv_bipush (v := 72) hx hb d_Gauge_init_78 (by decide) ?_
    refine kx_v E w (wc := [(q11, .inr (1, [.null, .int 0, .int 0]))]) (wr := [(h0, .inr (5, [.ref q1, .ref q3, .ref q5, .ref q7, .ref q9, .null, .null, .null, .null, .null, .null, .null, .null, .int 0, .int 0, .int 0, .int 0]))]) [1] [0] rfl rfl ⟨rfl, rfl, by decide⟩ (kx_rI E w hl.1 (As := [.int 72]) (wc := [(q11, .inr (1, [.null, .int 0, .int 0]))]) (c_Big_init_72 l D a q11 H.size) gc_5 gi_Big_init [1] rfl rfl rfl rfl rfl ⟨(Nat.le_of_ble_eq_true rfl), (Nat.le_of_ble_eq_true rfl)⟩ rfl (Nat.le_of_ble_eq_true rfl) d_Gauge_init_80 ⟨(Nat.le_of_ble_eq_true rfl), (Nat.le_of_ble_eq_true rfl)⟩) (fun u H locs hu w => ?_)
    obtain ⟨q12, rfl⟩ := hu
    have w : kW D A s [(h0, .inr (5, [.ref q1, .ref q3, .ref q5, .ref q7, .ref q9, .null, .null, .null, .null, .null, .null, .null, .null, .int 0, .int 0, .int 0, .int 0])), (q11, .inr (1, [.ref q12, .int 0, .int 0])), (q12, .inl (a 0, 72, .inl (fun _ => 0)))] H locs := w
    refine kx_putF E w zC_Gauge hnm 0 rfl 5 (by decide) mw_59 rfl rfl rfl rfl (Nat.le_of_ble_eq_true rfl) d_Gauge_init_83 (ws' := [(h0, .inr (5, [.ref q1, .ref q3, .ref q5, .ref q7, .ref q9, .ref q11, .null, .null, .null, .null, .null, .null, .null, .int 0, .int 0, .int 0, .int 0])), (q11, .inr (1, [.ref q12, .int 0, .int 0])), (q12, .inl (a 0, 72, .inl (fun _ => 0)))]) rfl (fun H locs w => ?_)
    have w := kW_sub w (ws' := [(h0, .inr (5, [.ref q1, .ref q3, .ref q5, .ref q7, .ref q9, .ref q11, .null, .null, .null, .null, .null, .null, .null, .int 0, .int 0, .int 0, .int 0]))]) [0] rfl rfl
    refine lv_aload_n hx hb d_Gauge_init_86 rfl (lv_at hl 0 rfl) ?_
    refine kx_new E w zC_Big mw_52 mw_8 mw_9 (fs := [.null, .int 0, .int 0]) z0_Big (Nat.le_of_ble_eq_true rfl) (Nat.le_of_ble_eq_true rfl) d_Gauge_init_87 (fun q13 H w => ?_)
    have w : kW D A s [(h0, .inr (5, [.ref q1, .ref q3, .ref q5, .ref q7, .ref q9, .ref q11, .null, .null, .null, .null, .null, .null, .null, .int 0, .int 0, .int 0, .int 0])), (q13, .inr (1, [.null, .int 0, .int 0]))] H locs := w
    refine lv_dup hx hb d_Gauge_init_90 rfl ?_
    refine lv_sipush (v := 400) hx hb d_Gauge_init_91 (by decide) ?_
    refine kx_v E w (wc := [(q13, .inr (1, [.null, .int 0, .int 0]))]) (wr := [(h0, .inr (5, [.ref q1, .ref q3, .ref q5, .ref q7, .ref q9, .ref q11, .null, .null, .null, .null, .null, .null, .null, .int 0, .int 0, .int 0, .int 0]))]) [1] [0] rfl rfl ⟨rfl, rfl, by decide⟩ (kx_rI E w hl.1 (As := [.int 400]) (wc := [(q13, .inr (1, [.null, .int 0, .int 0]))]) (c_Big_init_400 l D a q13 H.size) gc_5 gi_Big_init [1] rfl rfl rfl rfl rfl ⟨(Nat.le_of_ble_eq_true rfl), (Nat.le_of_ble_eq_true rfl)⟩ rfl (Nat.le_of_ble_eq_true rfl) d_Gauge_init_94 ⟨(Nat.le_of_ble_eq_true rfl), (Nat.le_of_ble_eq_true rfl)⟩) (fun u H locs hu w => ?_)
    obtain ⟨q14, rfl⟩ := hu
    have w : kW D A s [(h0, .inr (5, [.ref q1, .ref q3, .ref q5, .ref q7, .ref q9, .ref q11, .null, .null, .null, .null, .null, .null, .null, .int 0, .int 0, .int 0, .int 0])), (q13, .inr (1, [.ref q14, .int 0, .int 0])), (q14, .inl (a 0, 400, .inl (fun _ => 0)))] H locs := w
    refine kx_putF E w zC_Gauge hnm 0 rfl 6 (by decide) mw_60 rfl rfl rfl rfl (Nat.le_of_ble_eq_true rfl) d_Gauge_init_97 (ws' := [(h0, .inr (5, [.ref q1, .ref q3, .ref q5, .ref q7, .ref q9, .ref q11, .ref q13, .null, .null, .null, .null, .null, .null, .int 0, .int 0, .int 0, .int 0])), (q13, .inr (1, [.ref q14, .int 0, .int 0])), (q14, .inl (a 0, 400, .inl (fun _ => 0)))]) rfl (fun H locs w => ?_)
    have w := kW_sub w (ws' := [(h0, .inr (5, [.ref q1, .ref q3, .ref q5, .ref q7, .ref q9, .ref q11, .ref q13, .null, .null, .null, .null, .null, .null, .int 0, .int 0, .int 0, .int 0]))]) [0] rfl rfl
    refine lv_aload_n hx hb d_Gauge_init_100 rfl (lv_at hl 0 rfl) ?_
    refine kx_new E w zC_Big mw_52 mw_8 mw_9 (fs := [.null, .int 0, .int 0]) z0_Big (Nat.le_of_ble_eq_true rfl) (Nat.le_of_ble_eq_true rfl) d_Gauge_init_101 (fun q15 H w => ?_)
    have w : kW D A s [(h0, .inr (5, [.ref q1, .ref q3, .ref q5, .ref q7, .ref q9, .ref q11, .ref q13, .null, .null, .null, .null, .null, .null, .int 0, .int 0, .int 0, .int 0])), (q15, .inr (1, [.null, .int 0, .int 0]))] H locs := w
    refine lv_dup hx hb d_Gauge_init_104 rfl ?_
    refine lv_sipush (v := 400) hx hb d_Gauge_init_105 (by decide) ?_
    refine kx_v E w (wc := [(q15, .inr (1, [.null, .int 0, .int 0]))]) (wr := [(h0, .inr (5, [.ref q1, .ref q3, .ref q5, .ref q7, .ref q9, .ref q11, .ref q13, .null, .null, .null, .null, .null, .null, .int 0, .int 0, .int 0, .int 0]))]) [1] [0] rfl rfl ⟨rfl, rfl, by decide⟩ (kx_rI E w hl.1 (As := [.int 400]) (wc := [(q15, .inr (1, [.null, .int 0, .int 0]))]) (c_Big_init_400 l D a q15 H.size) gc_5 gi_Big_init [1] rfl rfl rfl rfl rfl ⟨(Nat.le_of_ble_eq_true rfl), (Nat.le_of_ble_eq_true rfl)⟩ rfl (Nat.le_of_ble_eq_true rfl) d_Gauge_init_108 ⟨(Nat.le_of_ble_eq_true rfl), (Nat.le_of_ble_eq_true rfl)⟩) (fun u H locs hu w => ?_)
    obtain ⟨q16, rfl⟩ := hu
    have w : kW D A s [(h0, .inr (5, [.ref q1, .ref q3, .ref q5, .ref q7, .ref q9, .ref q11, .ref q13, .null, .null, .null, .null, .null, .null, .int 0, .int 0, .int 0, .int 0])), (q15, .inr (1, [.ref q16, .int 0, .int 0])), (q16, .inl (a 0, 400, .inl (fun _ => 0)))] H locs := w
    refine kx_putF E w zC_Gauge hnm 0 rfl 7 (by decide) mw_61 rfl rfl rfl rfl (Nat.le_of_ble_eq_true rfl) d_Gauge_init_111 (ws' := [(h0, .inr (5, [.ref q1, .ref q3, .ref q5, .ref q7, .ref q9, .ref q11, .ref q13, .ref q15, .null, .null, .null, .null, .null, .int 0, .int 0, .int 0, .int 0])), (q15, .inr (1, [.ref q16, .int 0, .int 0])), (q16, .inl (a 0, 400, .inl (fun _ => 0)))]) rfl (fun H locs w => ?_)
    have w := kW_sub w (ws' := [(h0, .inr (5, [.ref q1, .ref q3, .ref q5, .ref q7, .ref q9, .ref q11, .ref q13, .ref q15, .null, .null, .null, .null, .null, .int 0, .int 0, .int 0, .int 0]))]) [0] rfl rfl
    refine lv_aload_n hx hb d_Gauge_init_114 rfl (lv_at hl 0 rfl) ?_
    refine kx_new E w zC_Big mw_52 mw_8 mw_9 (fs := [.null, .int 0, .int 0]) z0_Big (Nat.le_of_ble_eq_true rfl) (Nat.le_of_ble_eq_true rfl) d_Gauge_init_115 (fun q17 H w => ?_)
    have w : kW D A s [(h0, .inr (5, [.ref q1, .ref q3, .ref q5, .ref q7, .ref q9, .ref q11, .ref q13, .ref q15, .null, .null, .null, .null, .null, .int 0, .int 0, .int 0, .int 0])), (q17, .inr (1, [.null, .int 0, .int 0]))] H locs := w
    refine lv_dup hx hb d_Gauge_init_118 rfl ?_
    refine lv_bipush (v := 72) hx hb d_Gauge_init_119 (by decide) ?_
    refine kx_v E w (wc := [(q17, .inr (1, [.null, .int 0, .int 0]))]) (wr := [(h0, .inr (5, [.ref q1, .ref q3, .ref q5, .ref q7, .ref q9, .ref q11, .ref q13, .ref q15, .null, .null, .null, .null, .null, .int 0, .int 0, .int 0, .int 0]))]) [1] [0] rfl rfl ⟨rfl, rfl, by decide⟩ (kx_rI E w hl.1 (As := [.int 72]) (wc := [(q17, .inr (1, [.null, .int 0, .int 0]))]) (c_Big_init_72 l D a q17 H.size) gc_5 gi_Big_init [1] rfl rfl rfl rfl rfl ⟨(Nat.le_of_ble_eq_true rfl), (Nat.le_of_ble_eq_true rfl)⟩ rfl (Nat.le_of_ble_eq_true rfl) d_Gauge_init_121 ⟨(Nat.le_of_ble_eq_true rfl), (Nat.le_of_ble_eq_true rfl)⟩) (fun u H locs hu w => ?_)
    obtain ⟨q18, rfl⟩ := hu
    have w : kW D A s [(h0, .inr (5, [.ref q1, .ref q3, .ref q5, .ref q7, .ref q9, .ref q11, .ref q13, .ref q15, .null, .null, .null, .null, .null, .int 0, .int 0, .int 0, .int 0])), (q17, .inr (1, [.ref q18, .int 0, .int 0])), (q18, .inl (a 0, 72, .inl (fun _ => 0)))] H locs := w
    refine kx_putF E w zC_Gauge hnm 0 rfl 8 (by decide) mw_62 rfl rfl rfl rfl (Nat.le_of_ble_eq_true rfl) d_Gauge_init_124 (ws' := [(h0, .inr (5, [.ref q1, .ref q3, .ref q5, .ref q7, .ref q9, .ref q11, .ref q13, .ref q15, .ref q17, .null, .null, .null, .null, .int 0, .int 0, .int 0, .int 0])), (q17, .inr (1, [.ref q18, .int 0, .int 0])), (q18, .inl (a 0, 72, .inl (fun _ => 0)))]) rfl (fun H locs w => ?_)
    have w := kW_sub w (ws' := [(h0, .inr (5, [.ref q1, .ref q3, .ref q5, .ref q7, .ref q9, .ref q11, .ref q13, .ref q15, .ref q17, .null, .null, .null, .null, .int 0, .int 0, .int 0, .int 0]))]) [0] rfl rfl
    refine lv_aload_n hx hb d_Gauge_init_127 rfl (lv_at hl 0 rfl) ?_
    refine kx_new E w zC_Big mw_52 mw_8 mw_9 (fs := [.null, .int 0, .int 0]) z0_Big (Nat.le_of_ble_eq_true rfl) (Nat.le_of_ble_eq_true rfl) d_Gauge_init_128 (fun q19 H w => ?_)
    have w : kW D A s [(h0, .inr (5, [.ref q1, .ref q3, .ref q5, .ref q7, .ref q9, .ref q11, .ref q13, .ref q15, .ref q17, .null, .null, .null, .null, .int 0, .int 0, .int 0, .int 0])), (q19, .inr (1, [.null, .int 0, .int 0]))] H locs := w
    refine lv_dup hx hb d_Gauge_init_131 rfl ?_
    refine lv_bipush (v := 72) hx hb d_Gauge_init_132 (by decide) ?_
    refine kx_v E w (wc := [(q19, .inr (1, [.null, .int 0, .int 0]))]) (wr := [(h0, .inr (5, [.ref q1, .ref q3, .ref q5, .ref q7, .ref q9, .ref q11, .ref q13, .ref q15, .ref q17, .null, .null, .null, .null, .int 0, .int 0, .int 0, .int 0]))]) [1] [0] rfl rfl ⟨rfl, rfl, by decide⟩ (kx_rI E w hl.1 (As := [.int 72]) (wc := [(q19, .inr (1, [.null, .int 0, .int 0]))]) (c_Big_init_72 l D a q19 H.size) gc_5 gi_Big_init [1] rfl rfl rfl rfl rfl ⟨(Nat.le_of_ble_eq_true rfl), (Nat.le_of_ble_eq_true rfl)⟩ rfl (Nat.le_of_ble_eq_true rfl) d_Gauge_init_134 ⟨(Nat.le_of_ble_eq_true rfl), (Nat.le_of_ble_eq_true rfl)⟩) (fun u H locs hu w => ?_)
    obtain ⟨q20, rfl⟩ := hu
    have w : kW D A s [(h0, .inr (5, [.ref q1, .ref q3, .ref q5, .ref q7, .ref q9, .ref q11, .ref q13, .ref q15, .ref q17, .null, .null, .null, .null, .int 0, .int 0, .int 0, .int 0])), (q19, .inr (1, [.ref q20, .int 0, .int 0])), (q20, .inl (a 0, 72, .inl (fun _ => 0)))] H locs := w
    refine kx_putF E w zC_Gauge hnm 0 rfl 9 (by decide) mw_63 rfl rfl rfl rfl (Nat.le_of_ble_eq_true rfl) d_Gauge_init_137 (ws' := [(h0, .inr (5, [.ref q1, .ref q3, .ref q5, .ref q7, .ref q9, .ref q11, .ref q13, .ref q15, .ref q17, .ref q19, .null, .null, .null, .int 0, .int 0, .int 0, .int 0])), (q19, .inr (1, [.ref q20, .int 0, .int 0])), (q20, .inl (a 0, 72, .inl (fun _ => 0)))]) rfl (fun H locs w => ?_)
    refine lv_aload_n hx hb d_Gauge_init_140 rfl (lv_at hl 0 rfl) ?_
    refine kx_new E w zC_Big mw_52 mw_8 mw_9 (fs := [.null, .int 0, .int 0]) z0_Big (Nat.le_of_ble_eq_true rfl) (Nat.le_of_ble_eq_true rfl) d_Gauge_init_141 (fun q21 H w => ?_)
    have w : kW D A s [(h0, .inr (5, [.ref q1, .ref q3, .ref q5, .ref q7, .ref q9, .ref q11, .ref q13, .ref q15, .ref q17, .ref q19, .null, .null, .null, .int 0, .int 0, .int 0, .int 0])), (q19, .inr (1, [.ref q20, .int 0, .int 0])), (q20, .inl (a 0, 72, .inl (fun _ => 0))), (q21, .inr (1, [.null, .int 0, .int 0]))] H locs := w
    refine lv_dup hx hb d_Gauge_init_144 rfl ?_
    refine lv_bipush (v := 72) hx hb d_Gauge_init_145 (by decide) ?_
    refine kx_v E w (wc := [(q21, .inr (1, [.null, .int 0, .int 0]))]) (wr := [(h0, .inr (5, [.ref q1, .ref q3, .ref q5, .ref q7, .ref q9, .ref q11, .ref q13, .ref q15, .ref q17, .ref q19, .null, .null, .null, .int 0, .int 0, .int 0, .int 0])), (q19, .inr (1, [.ref q20, .int 0, .int 0])), (q20, .inl (a 0, 72, .inl (fun _ => 0)))]) [3] [0, 1, 2] rfl rfl ⟨rfl, rfl, by decide⟩ (kx_rI E w hl.1 (As := [.int 72]) (wc := [(q21, .inr (1, [.null, .int 0, .int 0]))]) (c_Big_init_72 l D a q21 H.size) gc_5 gi_Big_init [3] rfl rfl rfl rfl rfl ⟨(Nat.le_of_ble_eq_true rfl), (Nat.le_of_ble_eq_true rfl)⟩ rfl (Nat.le_of_ble_eq_true rfl) d_Gauge_init_147 ⟨(Nat.le_of_ble_eq_true rfl), (Nat.le_of_ble_eq_true rfl)⟩) (fun u H locs hu w => ?_)
    obtain ⟨q22, rfl⟩ := hu
    have w : kW D A s [(h0, .inr (5, [.ref q1, .ref q3, .ref q5, .ref q7, .ref q9, .ref q11, .ref q13, .ref q15, .ref q17, .ref q19, .null, .null, .null, .int 0, .int 0, .int 0, .int 0])), (q19, .inr (1, [.ref q20, .int 0, .int 0])), (q20, .inl (a 0, 72, .inl (fun _ => 0))), (q21, .inr (1, [.ref q22, .int 0, .int 0])), (q22, .inl (a 0, 72, .inl (fun _ => 0)))] H locs := w
    refine kx_putF E w zC_Gauge hnm 0 rfl 10 (by decide) mw_64 rfl rfl rfl rfl (Nat.le_of_ble_eq_true rfl) d_Gauge_init_150 (ws' := [(h0, .inr (5, [.ref q1, .ref q3, .ref q5, .ref q7, .ref q9, .ref q11, .ref q13, .ref q15, .ref q17, .ref q19, .ref q21, .null, .null, .int 0, .int 0, .int 0, .int 0])), (q19, .inr (1, [.ref q20, .int 0, .int 0])), (q20, .inl (a 0, 72, .inl (fun _ => 0))), (q21, .inr (1, [.ref q22, .int 0, .int 0])), (q22, .inl (a 0, 72, .inl (fun _ => 0)))]) rfl (fun H locs w => ?_)
    have w := kW_sub w (ws' := [(h0, .inr (5, [.ref q1, .ref q3, .ref q5, .ref q7, .ref q9, .ref q11, .ref q13, .ref q15, .ref q17, .ref q19, .ref q21, .null, .null, .int 0, .int 0, .int 0, .int 0])), (q19, .inr (1, [.ref q20, .int 0, .int 0])), (q20, .inl (a 0, 72, .inl (fun _ => 0)))]) [0, 1, 2] rfl rfl
    refine W.widen (k := 22) (n := 2793) (Nat.le_of_ble_eq_true rfl) (Nat.le_of_ble_eq_true rfl) ?_
    exact kx_vret E w hr hlk d_Gauge_init_153 ⟨q1, q3, q5, q7, q9, q11, q13, q15, q17, q19, q21, q20, rfl⟩)
set_option maxRecDepth 100000 in
set_option maxHeartbeats 4000000 in
theorem c_Sums_init (l : Launch) (D : va_G) (a : Nat → ClassId) (h0 : Nat) : ∀ sz : Nat, Met l y_Sums_init (Cond.code y_Sums_init b_Sums_init 2 none :: wA) ({ frames := 2, cells := 83, slots := 1307, locals := 41 } : Room) (va_Pc [.ref h0] (kP D a [(h0, .inr (10, [.null, .null, .null, .null]))] sz)) (va_Qv (fun u : va_W => ∃ q1 : Nat, ∃ q2 : Nat, ∃ q3 : Nat, ∃ q4 : Nat, u = [(h0, .inr (10, [.ref q1, .ref q2, .ref q3, .ref q4]))]) (kB D a (va_A [(h0, .inr (10, [.null, .null, .null, .null]))] sz)) (va_A [(h0, .inr (10, [.null, .null, .null, .null]))] sz)) 83 1307 (va_A [(h0, .inr (10, [.null, .null, .null, .null]))] sz) :=
  kM (Qc := fun A => va_Qv (fun u : va_W => ∃ q1 : Nat, ∃ q2 : Nat, ∃ q3 : Nat, ∃ q4 : Nat, u = [(h0, .inr (10, [.ref q1, .ref q2, .ref q3, .ref q4]))]) (kB D a A) A) (by decide) (Nat.le_of_ble_eq_true rfl) (by
    intro p e s m below meth c A ls H locs E hr hlk hnm w hl
    have hx := E.1.1
    have hb := E.1.2.1
    have E : kE p m c b_Sums_init 2 s [.ref h0].toArray "RootAlgebra$Sums" D a A := E
    have hl : lv_has ls 2 [(0, .ref h0)] := hl
    have hnm : meth.name = "<init>" := hnm
    refine lv_aload_n hx hb d_Sums_init_0 rfl (lv_at hl 0 rfl) ?_
    refine kx_obj E hl.1 mw_65 mw_1 mw_2 d_Sums_init_1 (Nat.le_of_ble_eq_true rfl) (Nat.le_of_ble_eq_true rfl) (Nat.le_of_ble_eq_true rfl) ?_
    refine lv_aload_n hx hb d_Sums_init_4 rfl (lv_at hl 0 rfl) ?_
    refine lv_bipush (v := 13) hx hb d_Sums_init_5 (by decide) ?_
    refine kx_newq E w mw_66 E.2.1.2.1 4 rfl (N' := 13) (by decide) (by decide) (by decide) (Nat.le_of_ble_eq_true rfl) (Nat.le_of_ble_eq_true rfl) d_Sums_init_7 (fun q1 H w => ?_)
    have w : kW D A s [(h0, .inr (10, [.null, .null, .null, .null])), (q1, .inl (a 4, 13, .inr (.inr (.inr (.inr (fun _ => none))))))] H locs := w
    refine kx_putF E w zC_Sums hnm 0 rfl 0 (by decide) mw_67 rfl rfl rfl rfl (Nat.le_of_ble_eq_true rfl) d_Sums_init_10 (ws' := [(h0, .inr (10, [.ref q1, .null, .null, .null])), (q1, .inl (a 4, 13, .inr (.inr (.inr (.inr (fun _ => none))))))]) rfl (fun H locs w => ?_)
    refine lv_aload_n hx hb d_Sums_init_13 rfl (lv_at hl 0 rfl) ?_
    refine lv_bipush (v := 13) hx hb d_Sums_init_14 (by decide) ?_
    refine kx_newq E w mw_66 E.2.1.2.1 4 rfl (N' := 13) (by decide) (by decide) (by decide) (Nat.le_of_ble_eq_true rfl) (Nat.le_of_ble_eq_true rfl) d_Sums_init_16 (fun q2 H w => ?_)
    have w : kW D A s [(h0, .inr (10, [.ref q1, .null, .null, .null])), (q1, .inl (a 4, 13, .inr (.inr (.inr (.inr (fun _ => none)))))), (q2, .inl (a 4, 13, .inr (.inr (.inr (.inr (fun _ => none))))))] H locs := w
    refine kx_putF E w zC_Sums hnm 0 rfl 1 (by decide) mw_68 rfl rfl rfl rfl (Nat.le_of_ble_eq_true rfl) d_Sums_init_19 (ws' := [(h0, .inr (10, [.ref q1, .ref q2, .null, .null])), (q1, .inl (a 4, 13, .inr (.inr (.inr (.inr (fun _ => none)))))), (q2, .inl (a 4, 13, .inr (.inr (.inr (.inr (fun _ => none))))))]) rfl (fun H locs w => ?_)
    refine lv_aload_n hx hb d_Sums_init_22 rfl (lv_at hl 0 rfl) ?_
    refine lv_bipush (v := 13) hx hb d_Sums_init_23 (by decide) ?_
    refine kx_newq E w mw_66 E.2.1.2.1 4 rfl (N' := 13) (by decide) (by decide) (by decide) (Nat.le_of_ble_eq_true rfl) (Nat.le_of_ble_eq_true rfl) d_Sums_init_25 (fun q3 H w => ?_)
    have w : kW D A s [(h0, .inr (10, [.ref q1, .ref q2, .null, .null])), (q1, .inl (a 4, 13, .inr (.inr (.inr (.inr (fun _ => none)))))), (q2, .inl (a 4, 13, .inr (.inr (.inr (.inr (fun _ => none)))))), (q3, .inl (a 4, 13, .inr (.inr (.inr (.inr (fun _ => none))))))] H locs := w
    refine kx_putF E w zC_Sums hnm 0 rfl 2 (by decide) mw_69 rfl rfl rfl rfl (Nat.le_of_ble_eq_true rfl) d_Sums_init_28 (ws' := [(h0, .inr (10, [.ref q1, .ref q2, .ref q3, .null])), (q1, .inl (a 4, 13, .inr (.inr (.inr (.inr (fun _ => none)))))), (q2, .inl (a 4, 13, .inr (.inr (.inr (.inr (fun _ => none)))))), (q3, .inl (a 4, 13, .inr (.inr (.inr (.inr (fun _ => none))))))]) rfl (fun H locs w => ?_)
    refine lv_iconst (v := 0) hx hb d_Sums_init_31 (by decide) ?_
    refine lv_istore_n (lv' := [(1, .int 0), (0, .ref h0)]) hx hb d_Sums_init_32 rfl hl (by decide) rfl (fun ls hl => ?_)
    refine W.widen (k := 3 + 6 * 0) (n := 39 + 93 * 0) (Nat.le_of_ble_eq_true rfl) (Nat.le_of_ble_eq_true rfl) ?_
    have loop : ∀ (n i : Nat), i + n = 13 → ∀ (f0 : Nat → Option Nat) (f1 : Nat → Option Nat) (f2 : Nat → Option Nat) (H : Heap) (locs : List Loc) (ls : Array Slot), kW D A s [(h0, .inr (10, [.ref q1, .ref q2, .ref q3, .null])), (q1, .inl (a 4, 13, .inr (.inr (.inr (.inr f0))))), (q2, .inl (a 4, 13, .inr (.inr (.inr (.inr f1))))), (q3, .inl (a 4, 13, .inr (.inr (.inr (.inr f2)))))] H locs → lv_has ls 2 [(0, .ref h0), (1, .int (nI i))] → W p l e ({ frames := 2, cells := 83, slots := 1307, locals := 41 } : Room) s m [.ref h0].toArray below meth c H locs (3 + 6 * i) (39 + 93 * i) (MQ below (va_Qv (fun u : va_W => ∃ q1 : Nat, ∃ q2 : Nat, ∃ q3 : Nat, ∃ q4 : Nat, u = [(h0, .inr (10, [.ref q1, .ref q2, .ref q3, .ref q4]))]) (kB D a A) A) [.ref h0].toArray s 83 1307 A) (F0 m 33 ls [])  := by
      intro n
      induction n with
      | zero =>
        intro i hi f0 f1 f2 H locs ls w hl
        obtain rfl : i = 13 := by omega
        have hl : lv_has ls 2 [(0, .ref h0), (1, .int 13)] := hl
        refine lv_iload_n hx hb d_Sums_init_33 rfl (lv_at hl 1 rfl) ?_
        refine lv_bipush (v := 12) hx hb d_Sums_init_34 (by decide) ?_
        refine lv_icmp_gt (tgt := 90) hx hb d_Sums_init_36 (by decide) (fun _ => ?_) (fun h => absurd (by decide) h)
        refine lv_aload_n hx hb d_Sums_init_90 rfl (lv_at hl 0 rfl) ?_
        refine kx_new E w zC_Big mw_66 mw_8 mw_9 (fs := [.null, .int 0, .int 0]) z0_Big (Nat.le_of_ble_eq_true rfl) (Nat.le_of_ble_eq_true rfl) d_Sums_init_91 (fun q4 H w => ?_)
        have w : kW D A s [(h0, .inr (10, [.ref q1, .ref q2, .ref q3, .null])), (q1, .inl (a 4, 13, .inr (.inr (.inr (.inr f0))))), (q2, .inl (a 4, 13, .inr (.inr (.inr (.inr f1))))), (q3, .inl (a 4, 13, .inr (.inr (.inr (.inr f2))))), (q4, .inr (1, [.null, .int 0, .int 0]))] H locs := w
        refine lv_dup hx hb d_Sums_init_94 rfl ?_
        refine lv_bipush (v := 56) hx hb d_Sums_init_95 (by decide) ?_
        refine kx_v E w (wc := [(q4, .inr (1, [.null, .int 0, .int 0]))]) (wr := [(h0, .inr (10, [.ref q1, .ref q2, .ref q3, .null])), (q1, .inl (a 4, 13, .inr (.inr (.inr (.inr f0))))), (q2, .inl (a 4, 13, .inr (.inr (.inr (.inr f1))))), (q3, .inl (a 4, 13, .inr (.inr (.inr (.inr f2)))))]) [4] [0, 1, 2, 3] rfl rfl ⟨rfl, rfl, by decide⟩ (kx_rI E w hl.1 (As := [.int 56]) (wc := [(q4, .inr (1, [.null, .int 0, .int 0]))]) (c_Big_init_56 l D a q4 H.size) gc_6 gi_Big_init [4] rfl rfl rfl rfl rfl ⟨(Nat.le_of_ble_eq_true rfl), (Nat.le_of_ble_eq_true rfl)⟩ rfl (Nat.le_of_ble_eq_true rfl) d_Sums_init_97 ⟨(Nat.le_of_ble_eq_true rfl), (Nat.le_of_ble_eq_true rfl)⟩) (fun u H locs hu w => ?_)
        obtain ⟨q5, rfl⟩ := hu
        have w : kW D A s [(h0, .inr (10, [.ref q1, .ref q2, .ref q3, .null])), (q1, .inl (a 4, 13, .inr (.inr (.inr (.inr f0))))), (q2, .inl (a 4, 13, .inr (.inr (.inr (.inr f1))))), (q3, .inl (a 4, 13, .inr (.inr (.inr (.inr f2))))), (q4, .inr (1, [.ref q5, .int 0, .int 0])), (q5, .inl (a 0, 56, .inl (fun _ => 0)))] H locs := w
        refine kx_putF E w zC_Sums hnm 0 rfl 3 (by decide) mw_71 rfl rfl rfl rfl (Nat.le_of_ble_eq_true rfl) d_Sums_init_100 (ws' := [(h0, .inr (10, [.ref q1, .ref q2, .ref q3, .ref q4])), (q1, .inl (a 4, 13, .inr (.inr (.inr (.inr f0))))), (q2, .inl (a 4, 13, .inr (.inr (.inr (.inr f1))))), (q3, .inl (a 4, 13, .inr (.inr (.inr (.inr f2))))), (q4, .inr (1, [.ref q5, .int 0, .int 0])), (q5, .inl (a 0, 56, .inl (fun _ => 0)))]) rfl (fun H locs w => ?_)
        have w := kW_sub w (ws' := [(h0, .inr (10, [.ref q1, .ref q2, .ref q3, .ref q4]))]) [0] rfl rfl
        refine W.widen (k := 83) (n := 1307) (Nat.le_of_ble_eq_true rfl) (Nat.le_of_ble_eq_true rfl) ?_
        exact kx_vret E w hr hlk d_Sums_init_103 ⟨q1, q2, q3, q4, rfl⟩
      | succ n ih =>
        intro i hi f0 f1 f2 H locs ls w hl
        refine lv_iload_n hx hb d_Sums_init_33 rfl (lv_at hl 1 rfl) ?_
        refine lv_bipush (v := 12) hx hb d_Sums_init_34 (by decide) ?_
        refine lv_icmp_gt (tgt := 90) hx hb d_Sums_init_36 (by decide) (fun h => absurd h (nI_nlt (a := 12) (b := i) (by omega) (by omega))) (fun _ => ?_)
        refine lv_aload_n hx hb d_Sums_init_39 rfl (lv_at hl 0 rfl) ?_
        refine kx_get E w zC_Sums 0 rfl 0 (by decide) mw_67 rfl d_Sums_init_40 ?_
        refine lv_iload_n hx hb d_Sums_init_43 rfl (lv_at hl 1 rfl) ?_
        refine kx_new E w zC_Big mw_66 mw_8 mw_9 (fs := [.null, .int 0, .int 0]) z0_Big (show 3 + 6 * i + 1 ≤ 83 from by omega) (show 39 + 93 * i + 3 ≤ 1307 from by omega) d_Sums_init_44 (fun q6 H w => ?_)
        have w : kW D A s [(h0, .inr (10, [.ref q1, .ref q2, .ref q3, .null])), (q1, .inl (a 4, 13, .inr (.inr (.inr (.inr f0))))), (q2, .inl (a 4, 13, .inr (.inr (.inr (.inr f1))))), (q3, .inl (a 4, 13, .inr (.inr (.inr (.inr f2))))), (q6, .inr (1, [.null, .int 0, .int 0]))] H locs := w
        refine lv_dup hx hb d_Sums_init_47 rfl ?_
        refine lv_bipush (v := 28) hx hb d_Sums_init_48 (by decide) ?_
        refine kx_v E w (wc := [(q6, .inr (1, [.null, .int 0, .int 0]))]) (wr := [(h0, .inr (10, [.ref q1, .ref q2, .ref q3, .null])), (q1, .inl (a 4, 13, .inr (.inr (.inr (.inr f0))))), (q2, .inl (a 4, 13, .inr (.inr (.inr (.inr f1))))), (q3, .inl (a 4, 13, .inr (.inr (.inr (.inr f2)))))]) [4] [0, 1, 2, 3] rfl rfl ⟨rfl, rfl, by decide⟩ (kx_rI E w hl.1 (As := [.int 28]) (wc := [(q6, .inr (1, [.null, .int 0, .int 0]))]) (c_Big_init_28 l D a q6 H.size) gc_6 gi_Big_init [4] rfl rfl rfl rfl rfl ⟨(Nat.le_of_ble_eq_true rfl), (Nat.le_of_ble_eq_true rfl)⟩ rfl (Nat.le_of_ble_eq_true rfl) d_Sums_init_50 ⟨(show 3 + 6 * i + 1 + 1 ≤ 83 from by omega), (show 39 + 93 * i + 3 + 28 ≤ 1307 from by omega)⟩) (fun u H locs hu w => ?_)
        obtain ⟨q7, rfl⟩ := hu
        have w : kW D A s [(h0, .inr (10, [.ref q1, .ref q2, .ref q3, .null])), (q1, .inl (a 4, 13, .inr (.inr (.inr (.inr f0))))), (q2, .inl (a 4, 13, .inr (.inr (.inr (.inr f1))))), (q3, .inl (a 4, 13, .inr (.inr (.inr (.inr f2))))), (q6, .inr (1, [.ref q7, .int 0, .int 0])), (q7, .inl (a 0, 28, .inl (fun _ => 0)))] H locs := w
        refine kx_aast E w 1 4 4 1 rfl rfl rfl rfl (vp_in_nI (by omega) (by omega)) i (nI_clamp (by omega)) d_Sums_init_53 (ws' := [(h0, .inr (10, [.ref q1, .ref q2, .ref q3, .null])), (q1, .inl (a 4, 13, .inr (.inr (.inr (.inr (va_up f0 i (some q6))))))), (q2, .inl (a 4, 13, .inr (.inr (.inr (.inr f1))))), (q3, .inl (a 4, 13, .inr (.inr (.inr (.inr f2))))), (q6, .inr (1, [.ref q7, .int 0, .int 0])), (q7, .inl (a 0, 28, .inl (fun _ => 0)))]) rfl (fun H locs w => ?_)
        refine lv_aload_n hx hb d_Sums_init_54 rfl (lv_at hl 0 rfl) ?_
        refine kx_get E w zC_Sums 0 rfl 1 (by decide) mw_68 rfl d_Sums_init_55 ?_
        refine lv_iload_n hx hb d_Sums_init_58 rfl (lv_at hl 1 rfl) ?_
        refine kx_new E w zC_Big mw_66 mw_8 mw_9 (fs := [.null, .int 0, .int 0]) z0_Big (show 3 + 6 * i + 1 + 1 + 1 ≤ 83 from by omega) (show 39 + 93 * i + 3 + 28 + 3 ≤ 1307 from by omega) d_Sums_init_59 (fun q8 H w => ?_)
        have w : kW D A s [(h0, .inr (10, [.ref q1, .ref q2, .ref q3, .null])), (q1, .inl (a 4, 13, .inr (.inr (.inr (.inr (va_up f0 i (some q6))))))), (q2, .inl (a 4, 13, .inr (.inr (.inr (.inr f1))))), (q3, .inl (a 4, 13, .inr (.inr (.inr (.inr f2))))), (q6, .inr (1, [.ref q7, .int 0, .int 0])), (q7, .inl (a 0, 28, .inl (fun _ => 0))), (q8, .inr (1, [.null, .int 0, .int 0]))] H locs := w
        refine lv_dup hx hb d_Sums_init_62 rfl ?_
        refine lv_bipush (v := 28) hx hb d_Sums_init_63 (by decide) ?_
        refine kx_v E w (wc := [(q8, .inr (1, [.null, .int 0, .int 0]))]) (wr := [(h0, .inr (10, [.ref q1, .ref q2, .ref q3, .null])), (q1, .inl (a 4, 13, .inr (.inr (.inr (.inr (va_up f0 i (some q6))))))), (q2, .inl (a 4, 13, .inr (.inr (.inr (.inr f1))))), (q3, .inl (a 4, 13, .inr (.inr (.inr (.inr f2))))), (q6, .inr (1, [.ref q7, .int 0, .int 0])), (q7, .inl (a 0, 28, .inl (fun _ => 0)))]) [6] [0, 1, 2, 3, 4, 5] rfl rfl ⟨rfl, rfl, by decide⟩ (kx_rI E w hl.1 (As := [.int 28]) (wc := [(q8, .inr (1, [.null, .int 0, .int 0]))]) (c_Big_init_28 l D a q8 H.size) gc_6 gi_Big_init [6] rfl rfl rfl rfl rfl ⟨(Nat.le_of_ble_eq_true rfl), (Nat.le_of_ble_eq_true rfl)⟩ rfl (Nat.le_of_ble_eq_true rfl) d_Sums_init_65 ⟨(show 3 + 6 * i + 1 + 1 + 1 + 1 ≤ 83 from by omega), (show 39 + 93 * i + 3 + 28 + 3 + 28 ≤ 1307 from by omega)⟩) (fun u H locs hu w => ?_)
        obtain ⟨q9, rfl⟩ := hu
        have w : kW D A s [(h0, .inr (10, [.ref q1, .ref q2, .ref q3, .null])), (q1, .inl (a 4, 13, .inr (.inr (.inr (.inr (va_up f0 i (some q6))))))), (q2, .inl (a 4, 13, .inr (.inr (.inr (.inr f1))))), (q3, .inl (a 4, 13, .inr (.inr (.inr (.inr f2))))), (q6, .inr (1, [.ref q7, .int 0, .int 0])), (q7, .inl (a 0, 28, .inl (fun _ => 0))), (q8, .inr (1, [.ref q9, .int 0, .int 0])), (q9, .inl (a 0, 28, .inl (fun _ => 0)))] H locs := w
        refine kx_aast E w 2 4 6 1 rfl rfl rfl rfl (vp_in_nI (by omega) (by omega)) i (nI_clamp (by omega)) d_Sums_init_68 (ws' := [(h0, .inr (10, [.ref q1, .ref q2, .ref q3, .null])), (q1, .inl (a 4, 13, .inr (.inr (.inr (.inr (va_up f0 i (some q6))))))), (q2, .inl (a 4, 13, .inr (.inr (.inr (.inr (va_up f1 i (some q8))))))), (q3, .inl (a 4, 13, .inr (.inr (.inr (.inr f2))))), (q6, .inr (1, [.ref q7, .int 0, .int 0])), (q7, .inl (a 0, 28, .inl (fun _ => 0))), (q8, .inr (1, [.ref q9, .int 0, .int 0])), (q9, .inl (a 0, 28, .inl (fun _ => 0)))]) rfl (fun H locs w => ?_)
        refine lv_aload_n hx hb d_Sums_init_69 rfl (lv_at hl 0 rfl) ?_
        refine kx_get E w zC_Sums 0 rfl 2 (by decide) mw_69 rfl d_Sums_init_70 ?_
        refine lv_iload_n hx hb d_Sums_init_73 rfl (lv_at hl 1 rfl) ?_
        refine kx_new E w zC_Big mw_66 mw_8 mw_9 (fs := [.null, .int 0, .int 0]) z0_Big (show 3 + 6 * i + 1 + 1 + 1 + 1 + 1 ≤ 83 from by omega) (show 39 + 93 * i + 3 + 28 + 3 + 28 + 3 ≤ 1307 from by omega) d_Sums_init_74 (fun q10 H w => ?_)
        have w : kW D A s [(h0, .inr (10, [.ref q1, .ref q2, .ref q3, .null])), (q1, .inl (a 4, 13, .inr (.inr (.inr (.inr (va_up f0 i (some q6))))))), (q2, .inl (a 4, 13, .inr (.inr (.inr (.inr (va_up f1 i (some q8))))))), (q3, .inl (a 4, 13, .inr (.inr (.inr (.inr f2))))), (q6, .inr (1, [.ref q7, .int 0, .int 0])), (q7, .inl (a 0, 28, .inl (fun _ => 0))), (q8, .inr (1, [.ref q9, .int 0, .int 0])), (q9, .inl (a 0, 28, .inl (fun _ => 0))), (q10, .inr (1, [.null, .int 0, .int 0]))] H locs := w
        refine lv_dup hx hb d_Sums_init_77 rfl ?_
        refine lv_bipush (v := 28) hx hb d_Sums_init_78 (by decide) ?_
        refine kx_v E w (wc := [(q10, .inr (1, [.null, .int 0, .int 0]))]) (wr := [(h0, .inr (10, [.ref q1, .ref q2, .ref q3, .null])), (q1, .inl (a 4, 13, .inr (.inr (.inr (.inr (va_up f0 i (some q6))))))), (q2, .inl (a 4, 13, .inr (.inr (.inr (.inr (va_up f1 i (some q8))))))), (q3, .inl (a 4, 13, .inr (.inr (.inr (.inr f2))))), (q6, .inr (1, [.ref q7, .int 0, .int 0])), (q7, .inl (a 0, 28, .inl (fun _ => 0))), (q8, .inr (1, [.ref q9, .int 0, .int 0])), (q9, .inl (a 0, 28, .inl (fun _ => 0)))]) [8] [0, 1, 2, 3, 4, 5, 6, 7] rfl rfl ⟨rfl, rfl, by decide⟩ (kx_rI E w hl.1 (As := [.int 28]) (wc := [(q10, .inr (1, [.null, .int 0, .int 0]))]) (c_Big_init_28 l D a q10 H.size) gc_6 gi_Big_init [8] rfl rfl rfl rfl rfl ⟨(Nat.le_of_ble_eq_true rfl), (Nat.le_of_ble_eq_true rfl)⟩ rfl (Nat.le_of_ble_eq_true rfl) d_Sums_init_80 ⟨(show 3 + 6 * i + 1 + 1 + 1 + 1 + 1 + 1 ≤ 83 from by omega), (show 39 + 93 * i + 3 + 28 + 3 + 28 + 3 + 28 ≤ 1307 from by omega)⟩) (fun u H locs hu w => ?_)
        obtain ⟨q11, rfl⟩ := hu
        have w : kW D A s [(h0, .inr (10, [.ref q1, .ref q2, .ref q3, .null])), (q1, .inl (a 4, 13, .inr (.inr (.inr (.inr (va_up f0 i (some q6))))))), (q2, .inl (a 4, 13, .inr (.inr (.inr (.inr (va_up f1 i (some q8))))))), (q3, .inl (a 4, 13, .inr (.inr (.inr (.inr f2))))), (q6, .inr (1, [.ref q7, .int 0, .int 0])), (q7, .inl (a 0, 28, .inl (fun _ => 0))), (q8, .inr (1, [.ref q9, .int 0, .int 0])), (q9, .inl (a 0, 28, .inl (fun _ => 0))), (q10, .inr (1, [.ref q11, .int 0, .int 0])), (q11, .inl (a 0, 28, .inl (fun _ => 0)))] H locs := w
        refine kx_aast E w 3 4 8 1 rfl rfl rfl rfl (vp_in_nI (by omega) (by omega)) i (nI_clamp (by omega)) d_Sums_init_83 (ws' := [(h0, .inr (10, [.ref q1, .ref q2, .ref q3, .null])), (q1, .inl (a 4, 13, .inr (.inr (.inr (.inr (va_up f0 i (some q6))))))), (q2, .inl (a 4, 13, .inr (.inr (.inr (.inr (va_up f1 i (some q8))))))), (q3, .inl (a 4, 13, .inr (.inr (.inr (.inr (va_up f2 i (some q10))))))), (q6, .inr (1, [.ref q7, .int 0, .int 0])), (q7, .inl (a 0, 28, .inl (fun _ => 0))), (q8, .inr (1, [.ref q9, .int 0, .int 0])), (q9, .inl (a 0, 28, .inl (fun _ => 0))), (q10, .inr (1, [.ref q11, .int 0, .int 0])), (q11, .inl (a 0, 28, .inl (fun _ => 0)))]) rfl (fun H locs w => ?_)
        refine lv_iinc (v := (nI (i + 1))) (lv' := [(1, .int (nI (i + 1))), (0, .ref h0)]) hx hb d_Sums_init_84 hl (k := 1) rfl (kx_inc i) (by decide) rfl (fun ls hl => ?_)
        refine lv_goto (tgt := 33) hx hb d_Sums_init_87 (by decide) ?_
        have w := kW_sub w (ws' := [(h0, .inr (10, [.ref q1, .ref q2, .ref q3, .null])), (q1, .inl (a 4, 13, .inr (.inr (.inr (.inr (va_up f0 i (some q6))))))), (q2, .inl (a 4, 13, .inr (.inr (.inr (.inr (va_up f1 i (some q8))))))), (q3, .inl (a 4, 13, .inr (.inr (.inr (.inr (va_up f2 i (some q10)))))))]) [0, 1, 2, 3] rfl rfl
        refine W.widen (k := 3 + 6 * (i + 1)) (n := 39 + 93 * (i + 1)) (by omega) (by omega) ?_
        exact ih (i + 1) (by omega) _ _ _ _ _ _ w (lv_sub hl [1, 0] rfl)
    exact loop 13 0 (by omega) _ _ _ _ _ _ w (lv_sub hl [1, 0] rfl))
set_option maxRecDepth 100000 in
set_option maxHeartbeats 4000000 in
theorem c_Isolator_init (l : Launch) (D : va_G) (a : Nat → ClassId) (h0 : Nat) : ∀ sz : Nat, Met l y_Isolator_init (Cond.code y_Isolator_init b_Isolator_init 2 none :: wA) ({ frames := 2, cells := 83, slots := 2831, locals := 41 } : Room) (va_Pc [.ref h0] (kP D a [(h0, .inr (6, [.null, .null, .null, .null, .null, .null, .int 0, .int 0, .int 0, .int 0, .int 0]))] sz)) (va_Qv (fun u : va_W => ∃ q1 : Nat, ∃ q2 : Nat, ∃ q3 : Nat, ∃ q5 : Nat, ∃ q6 : Nat, ∃ q7 : Nat, u = [(h0, .inr (6, [.ref q1, .ref q2, .ref q3, .ref q5, .ref q6, .ref q7, .int 0, .int 0, .int 0, .int 0, .int 0]))]) (kB D a (va_A [(h0, .inr (6, [.null, .null, .null, .null, .null, .null, .int 0, .int 0, .int 0, .int 0, .int 0]))] sz)) (va_A [(h0, .inr (6, [.null, .null, .null, .null, .null, .null, .int 0, .int 0, .int 0, .int 0, .int 0]))] sz)) 83 2831 (va_A [(h0, .inr (6, [.null, .null, .null, .null, .null, .null, .int 0, .int 0, .int 0, .int 0, .int 0]))] sz) :=
  kM (Qc := fun A => va_Qv (fun u : va_W => ∃ q1 : Nat, ∃ q2 : Nat, ∃ q3 : Nat, ∃ q5 : Nat, ∃ q6 : Nat, ∃ q7 : Nat, u = [(h0, .inr (6, [.ref q1, .ref q2, .ref q3, .ref q5, .ref q6, .ref q7, .int 0, .int 0, .int 0, .int 0, .int 0]))]) (kB D a A) A) (by decide) (Nat.le_of_ble_eq_true rfl) (by
    intro p e s m below meth c A ls H locs E hr hlk hnm w hl
    have hx := E.1.1
    have hb := E.1.2.1
    have E : kE p m c b_Isolator_init 2 s [.ref h0].toArray "RootAlgebra$Isolator" D a A := E
    have hl : lv_has ls 2 [(0, .ref h0)] := hl
    have hnm : meth.name = "<init>" := hnm
    refine lv_aload_n hx hb d_Isolator_init_0 rfl (lv_at hl 0 rfl) ?_
    refine kx_obj E hl.1 mw_72 mw_1 mw_2 d_Isolator_init_1 (Nat.le_of_ble_eq_true rfl) (Nat.le_of_ble_eq_true rfl) (Nat.le_of_ble_eq_true rfl) ?_
    refine lv_aload_n hx hb d_Isolator_init_4 rfl (lv_at hl 0 rfl) ?_
    refine lv_bipush (v := 13) hx hb d_Isolator_init_5 (by decide) ?_
    refine kx_newq E w mw_73 E.2.1.2.1 4 rfl (N' := 13) (by decide) (by decide) (by decide) (Nat.le_of_ble_eq_true rfl) (Nat.le_of_ble_eq_true rfl) d_Isolator_init_7 (fun q1 H w => ?_)
    have w : kW D A s [(h0, .inr (6, [.null, .null, .null, .null, .null, .null, .int 0, .int 0, .int 0, .int 0, .int 0])), (q1, .inl (a 4, 13, .inr (.inr (.inr (.inr (fun _ => none))))))] H locs := w
    refine kx_putF E w zC_Isolator hnm 0 rfl 0 (by decide) mw_74 rfl rfl rfl rfl (Nat.le_of_ble_eq_true rfl) d_Isolator_init_10 (ws' := [(h0, .inr (6, [.ref q1, .null, .null, .null, .null, .null, .int 0, .int 0, .int 0, .int 0, .int 0])), (q1, .inl (a 4, 13, .inr (.inr (.inr (.inr (fun _ => none))))))]) rfl (fun H locs w => ?_)
    refine lv_aload_n hx hb d_Isolator_init_13 rfl (lv_at hl 0 rfl) ?_
    refine lv_bipush (v := 13) hx hb d_Isolator_init_14 (by decide) ?_
    refine kx_newq E w mw_73 E.2.1.2.1 4 rfl (N' := 13) (by decide) (by decide) (by decide) (Nat.le_of_ble_eq_true rfl) (Nat.le_of_ble_eq_true rfl) d_Isolator_init_16 (fun q2 H w => ?_)
    have w : kW D A s [(h0, .inr (6, [.ref q1, .null, .null, .null, .null, .null, .int 0, .int 0, .int 0, .int 0, .int 0])), (q1, .inl (a 4, 13, .inr (.inr (.inr (.inr (fun _ => none)))))), (q2, .inl (a 4, 13, .inr (.inr (.inr (.inr (fun _ => none))))))] H locs := w
    refine kx_putF E w zC_Isolator hnm 0 rfl 1 (by decide) mw_75 rfl rfl rfl rfl (Nat.le_of_ble_eq_true rfl) d_Isolator_init_19 (ws' := [(h0, .inr (6, [.ref q1, .ref q2, .null, .null, .null, .null, .int 0, .int 0, .int 0, .int 0, .int 0])), (q1, .inl (a 4, 13, .inr (.inr (.inr (.inr (fun _ => none)))))), (q2, .inl (a 4, 13, .inr (.inr (.inr (.inr (fun _ => none))))))]) rfl (fun H locs w => ?_)
    refine lv_iconst (v := 0) hx hb d_Isolator_init_22 (by decide) ?_
    refine lv_istore_n (lv' := [(1, .int 0), (0, .ref h0)]) hx hb d_Isolator_init_23 rfl hl (by decide) rfl (fun ls hl => ?_)
    refine W.widen (k := 2 + 4 * 0) (n := 26 + 198 * 0) (Nat.le_of_ble_eq_true rfl) (Nat.le_of_ble_eq_true rfl) ?_
    have loop : ∀ (n i : Nat), i + n = 13 → ∀ (f0 : Nat → Option Nat) (f1 : Nat → Option Nat) (H : Heap) (locs : List Loc) (ls : Array Slot), kW D A s [(h0, .inr (6, [.ref q1, .ref q2, .null, .null, .null, .null, .int 0, .int 0, .int 0, .int 0, .int 0])), (q1, .inl (a 4, 13, .inr (.inr (.inr (.inr f0))))), (q2, .inl (a 4, 13, .inr (.inr (.inr (.inr f1)))))] H locs → lv_has ls 2 [(0, .ref h0), (1, .int (nI i))] → W p l e ({ frames := 2, cells := 83, slots := 2831, locals := 41 } : Room) s m [.ref h0].toArray below meth c H locs (2 + 4 * i) (26 + 198 * i) (MQ below (va_Qv (fun u : va_W => ∃ q1 : Nat, ∃ q2 : Nat, ∃ q3 : Nat, ∃ q5 : Nat, ∃ q6 : Nat, ∃ q7 : Nat, u = [(h0, .inr (6, [.ref q1, .ref q2, .ref q3, .ref q5, .ref q6, .ref q7, .int 0, .int 0, .int 0, .int 0, .int 0]))]) (kB D a A) A) [.ref h0].toArray s 83 2831 A) (F0 m 24 ls [])  := by
      intro n
      induction n with
      | zero =>
        intro i hi f0 f1 H locs ls w hl
        obtain rfl : i = 13 := by omega
        have hl : lv_has ls 2 [(0, .ref h0), (1, .int 13)] := hl
        have w := kW_sub w (ws' := [(h0, .inr (6, [.ref q1, .ref q2, .null, .null, .null, .null, .int 0, .int 0, .int 0, .int 0, .int 0]))]) [0] rfl rfl
        refine lv_iload_n hx hb d_Isolator_init_24 rfl (lv_at hl 1 rfl) ?_
        refine lv_bipush (v := 12) hx hb d_Isolator_init_25 (by decide) ?_
        refine lv_icmp_gt (tgt := 66) hx hb d_Isolator_init_27 (by decide) (fun _ => ?_) (fun h => absurd (by decide) h)
        refine lv_aload_n hx hb d_Isolator_init_66 rfl (lv_at hl 0 rfl) ?_
        refine kx_new E w zC_Big mw_73 mw_8 mw_9 (fs := [.null, .int 0, .int 0]) z0_Big (Nat.le_of_ble_eq_true rfl) (Nat.le_of_ble_eq_true rfl) d_Isolator_init_67 (fun q3 H w => ?_)
        have w : kW D A s [(h0, .inr (6, [.ref q1, .ref q2, .null, .null, .null, .null, .int 0, .int 0, .int 0, .int 0, .int 0])), (q3, .inr (1, [.null, .int 0, .int 0]))] H locs := w
        refine lv_dup hx hb d_Isolator_init_70 rfl ?_
        refine lv_bipush (v := 12) hx hb d_Isolator_init_71 (by decide) ?_
        refine kx_v E w (wc := [(q3, .inr (1, [.null, .int 0, .int 0]))]) (wr := [(h0, .inr (6, [.ref q1, .ref q2, .null, .null, .null, .null, .int 0, .int 0, .int 0, .int 0, .int 0]))]) [1] [0] rfl rfl ⟨rfl, rfl, by decide⟩ (kx_rI E w hl.1 (As := [.int 12]) (wc := [(q3, .inr (1, [.null, .int 0, .int 0]))]) (c_Big_init_12 l D a q3 H.size) gc_7 gi_Big_init [1] rfl rfl rfl rfl rfl ⟨(Nat.le_of_ble_eq_true rfl), (Nat.le_of_ble_eq_true rfl)⟩ rfl (Nat.le_of_ble_eq_true rfl) d_Isolator_init_73 ⟨(Nat.le_of_ble_eq_true rfl), (Nat.le_of_ble_eq_true rfl)⟩) (fun u H locs hu w => ?_)
        obtain ⟨q4, rfl⟩ := hu
        have w : kW D A s [(h0, .inr (6, [.ref q1, .ref q2, .null, .null, .null, .null, .int 0, .int 0, .int 0, .int 0, .int 0])), (q3, .inr (1, [.ref q4, .int 0, .int 0])), (q4, .inl (a 0, 12, .inl (fun _ => 0)))] H locs := w
        refine kx_putF E w zC_Isolator hnm 0 rfl 2 (by decide) mw_77 rfl rfl rfl rfl (Nat.le_of_ble_eq_true rfl) d_Isolator_init_76 (ws' := [(h0, .inr (6, [.ref q1, .ref q2, .ref q3, .null, .null, .null, .int 0, .int 0, .int 0, .int 0, .int 0])), (q3, .inr (1, [.ref q4, .int 0, .int 0])), (q4, .inl (a 0, 12, .inl (fun _ => 0)))]) rfl (fun H locs w => ?_)
        refine lv_aload_n hx hb d_Isolator_init_79 rfl (lv_at hl 0 rfl) ?_
        refine lv_bipush (v := 12) hx hb d_Isolator_init_80 (by decide) ?_
        refine kx_newq E w mw_73 E.2.1.2.1 4 rfl (N' := 12) (by decide) (by decide) (by decide) (Nat.le_of_ble_eq_true rfl) (Nat.le_of_ble_eq_true rfl) d_Isolator_init_82 (fun q5 H w => ?_)
        have w : kW D A s [(h0, .inr (6, [.ref q1, .ref q2, .ref q3, .null, .null, .null, .int 0, .int 0, .int 0, .int 0, .int 0])), (q3, .inr (1, [.ref q4, .int 0, .int 0])), (q4, .inl (a 0, 12, .inl (fun _ => 0))), (q5, .inl (a 4, 12, .inr (.inr (.inr (.inr (fun _ => none))))))] H locs := w
        refine kx_putF E w zC_Isolator hnm 0 rfl 3 (by decide) mw_78 rfl rfl rfl rfl (Nat.le_of_ble_eq_true rfl) d_Isolator_init_85 (ws' := [(h0, .inr (6, [.ref q1, .ref q2, .ref q3, .ref q5, .null, .null, .int 0, .int 0, .int 0, .int 0, .int 0])), (q3, .inr (1, [.ref q4, .int 0, .int 0])), (q4, .inl (a 0, 12, .inl (fun _ => 0))), (q5, .inl (a 4, 12, .inr (.inr (.inr (.inr (fun _ => none))))))]) rfl (fun H locs w => ?_)
        refine lv_iconst (v := 0) hx hb d_Isolator_init_88 (by decide) ?_
        refine lv_istore_n (lv' := [(1, .int 0), (0, .ref h0)]) hx hb d_Isolator_init_89 rfl hl (by decide) rfl (fun ls hl => ?_)
        have w := kW_sub w (ws' := [(h0, .inr (6, [.ref q1, .ref q2, .ref q3, .ref q5, .null, .null, .int 0, .int 0, .int 0, .int 0, .int 0])), (q5, .inl (a 4, 12, .inr (.inr (.inr (.inr (fun _ => none))))))]) [0, 3] rfl rfl
        refine W.widen (k := 57 + 2 * 0) (n := 2627 + 15 * 0) (Nat.le_of_ble_eq_true rfl) (Nat.le_of_ble_eq_true rfl) ?_
        have loop : ∀ (n i : Nat), i + n = 12 → ∀ (f9 : Nat → Option Nat) (H : Heap) (locs : List Loc) (ls : Array Slot), kW D A s [(h0, .inr (6, [.ref q1, .ref q2, .ref q3, .ref q5, .null, .null, .int 0, .int 0, .int 0, .int 0, .int 0])), (q5, .inl (a 4, 12, .inr (.inr (.inr (.inr f9)))))] H locs → lv_has ls 2 [(0, .ref h0), (1, .int (nI i))] → W p l e ({ frames := 2, cells := 83, slots := 2831, locals := 41 } : Room) s m [.ref h0].toArray below meth c H locs (57 + 2 * i) (2627 + 15 * i) (MQ below (va_Qv (fun u : va_W => ∃ q1 : Nat, ∃ q2 : Nat, ∃ q3 : Nat, ∃ q5 : Nat, ∃ q6 : Nat, ∃ q7 : Nat, u = [(h0, .inr (6, [.ref q1, .ref q2, .ref q3, .ref q5, .ref q6, .ref q7, .int 0, .int 0, .int 0, .int 0, .int 0]))]) (kB D a A) A) [.ref h0].toArray s 83 2831 A) (F0 m 90 ls [])  := by
          intro n
          induction n with
          | zero =>
            intro i hi f9 H locs ls w hl
            obtain rfl : i = 12 := by omega
            have hl : lv_has ls 2 [(0, .ref h0), (1, .int 12)] := hl
            refine lv_iload_n hx hb d_Isolator_init_90 rfl (lv_at hl 1 rfl) ?_
            refine lv_bipush (v := 12) hx hb d_Isolator_init_91 (by decide) ?_
            refine lv_icmp_ge (tgt := 117) hx hb d_Isolator_init_93 (by decide) (fun _ => ?_) (fun h => absurd (by decide) h)
            refine lv_aload_n hx hb d_Isolator_init_117 rfl (lv_at hl 0 rfl) ?_
            refine lv_bipush (v := 12) hx hb d_Isolator_init_118 (by decide) ?_
            refine kx_newa0 E w rfl mw_3 (N' := 12) (a0 := (12, .inl (fun _ => 0))) (fun _ => rfl) (by decide) (by decide) (by decide) (Nat.le_of_ble_eq_true rfl) (Nat.le_of_ble_eq_true rfl) d_Isolator_init_120 (fun q6 H w => ?_)
            refine kx_putF E w zC_Isolator hnm 0 rfl 4 (by decide) mw_79 rfl rfl rfl rfl (Nat.le_of_ble_eq_true rfl) d_Isolator_init_122 (ws' := [(h0, .inr (6, [.ref q1, .ref q2, .ref q3, .ref q5, .ref q6, .null, .int 0, .int 0, .int 0, .int 0, .int 0])), (q5, .inl (a 4, 12, .inr (.inr (.inr (.inr f9)))))]) rfl (fun H locs w => ?_)
            refine lv_aload_n hx hb d_Isolator_init_125 rfl (lv_at hl 0 rfl) ?_
            refine lv_bipush (v := 12) hx hb d_Isolator_init_126 (by decide) ?_
            refine kx_newa0 E w rfl mw_80 (N' := 12) (a0 := (12, .inl (fun _ => 0))) (fun _ => rfl) (by decide) (by decide) (by decide) (Nat.le_of_ble_eq_true rfl) (Nat.le_of_ble_eq_true rfl) d_Isolator_init_128 (fun q7 H w => ?_)
            refine kx_putF E w zC_Isolator hnm 0 rfl 5 (by decide) mw_81 rfl rfl rfl rfl (Nat.le_of_ble_eq_true rfl) d_Isolator_init_130 (ws' := [(h0, .inr (6, [.ref q1, .ref q2, .ref q3, .ref q5, .ref q6, .ref q7, .int 0, .int 0, .int 0, .int 0, .int 0])), (q5, .inl (a 4, 12, .inr (.inr (.inr (.inr f9)))))]) rfl (fun H locs w => ?_)
            have w := kW_sub w (ws' := [(h0, .inr (6, [.ref q1, .ref q2, .ref q3, .ref q5, .ref q6, .ref q7, .int 0, .int 0, .int 0, .int 0, .int 0]))]) [0] rfl rfl
            refine W.widen (k := 83) (n := 2831) (Nat.le_of_ble_eq_true rfl) (Nat.le_of_ble_eq_true rfl) ?_
            exact kx_vret E w hr hlk d_Isolator_init_133 ⟨q1, q2, q3, q5, q6, q7, rfl⟩
          | succ n ih =>
            intro i hi f9 H locs ls w hl
            refine lv_iload_n hx hb d_Isolator_init_90 rfl (lv_at hl 1 rfl) ?_
            refine lv_bipush (v := 12) hx hb d_Isolator_init_91 (by decide) ?_
            refine lv_icmp_ge (tgt := 117) hx hb d_Isolator_init_93 (by decide) (fun h => absurd h (nI_ge (a := i) (b := 12) (by omega) (by omega))) (fun _ => ?_)
            refine lv_aload_n hx hb d_Isolator_init_96 rfl (lv_at hl 0 rfl) ?_
            refine kx_get E w zC_Isolator 0 rfl 3 (by decide) mw_78 rfl d_Isolator_init_97 ?_
            refine lv_iload_n hx hb d_Isolator_init_100 rfl (lv_at hl 1 rfl) ?_
            refine kx_new E w zC_Big mw_73 mw_8 mw_9 (fs := [.null, .int 0, .int 0]) z0_Big (show 57 + 2 * i + 1 ≤ 83 from by omega) (show 2627 + 15 * i + 3 ≤ 2831 from by omega) d_Isolator_init_101 (fun q8 H w => ?_)
            have w : kW D A s [(h0, .inr (6, [.ref q1, .ref q2, .ref q3, .ref q5, .null, .null, .int 0, .int 0, .int 0, .int 0, .int 0])), (q5, .inl (a 4, 12, .inr (.inr (.inr (.inr f9))))), (q8, .inr (1, [.null, .int 0, .int 0]))] H locs := w
            refine lv_dup hx hb d_Isolator_init_104 rfl ?_
            refine lv_bipush (v := 12) hx hb d_Isolator_init_105 (by decide) ?_
            refine kx_v E w (wc := [(q8, .inr (1, [.null, .int 0, .int 0]))]) (wr := [(h0, .inr (6, [.ref q1, .ref q2, .ref q3, .ref q5, .null, .null, .int 0, .int 0, .int 0, .int 0, .int 0])), (q5, .inl (a 4, 12, .inr (.inr (.inr (.inr f9)))))]) [2] [0, 1] rfl rfl ⟨rfl, rfl, by decide⟩ (kx_rI E w hl.1 (As := [.int 12]) (wc := [(q8, .inr (1, [.null, .int 0, .int 0]))]) (c_Big_init_12 l D a q8 H.size) gc_7 gi_Big_init [2] rfl rfl rfl rfl rfl ⟨(Nat.le_of_ble_eq_true rfl), (Nat.le_of_ble_eq_true rfl)⟩ rfl (Nat.le_of_ble_eq_true rfl) d_Isolator_init_107 ⟨(show 57 + 2 * i + 1 + 1 ≤ 83 from by omega), (show 2627 + 15 * i + 3 + 12 ≤ 2831 from by omega)⟩) (fun u H locs hu w => ?_)
            obtain ⟨q9, rfl⟩ := hu
            have w : kW D A s [(h0, .inr (6, [.ref q1, .ref q2, .ref q3, .ref q5, .null, .null, .int 0, .int 0, .int 0, .int 0, .int 0])), (q5, .inl (a 4, 12, .inr (.inr (.inr (.inr f9))))), (q8, .inr (1, [.ref q9, .int 0, .int 0])), (q9, .inl (a 0, 12, .inl (fun _ => 0)))] H locs := w
            refine kx_aast E w 1 4 2 1 rfl rfl rfl rfl (vp_in_nI (by omega) (by omega)) i (nI_clamp (by omega)) d_Isolator_init_110 (ws' := [(h0, .inr (6, [.ref q1, .ref q2, .ref q3, .ref q5, .null, .null, .int 0, .int 0, .int 0, .int 0, .int 0])), (q5, .inl (a 4, 12, .inr (.inr (.inr (.inr (va_up f9 i (some q8))))))), (q8, .inr (1, [.ref q9, .int 0, .int 0])), (q9, .inl (a 0, 12, .inl (fun _ => 0)))]) rfl (fun H locs w => ?_)
            refine lv_iinc (v := (nI (i + 1))) (lv' := [(1, .int (nI (i + 1))), (0, .ref h0)]) hx hb d_Isolator_init_111 hl (k := 1) rfl (kx_inc i) (by decide) rfl (fun ls hl => ?_)
            refine lv_goto (tgt := 90) hx hb d_Isolator_init_114 (by decide) ?_
            have w := kW_sub w (ws' := [(h0, .inr (6, [.ref q1, .ref q2, .ref q3, .ref q5, .null, .null, .int 0, .int 0, .int 0, .int 0, .int 0])), (q5, .inl (a 4, 12, .inr (.inr (.inr (.inr (va_up f9 i (some q8)))))))]) [0, 1] rfl rfl
            refine W.widen (k := 57 + 2 * (i + 1)) (n := 2627 + 15 * (i + 1)) (by omega) (by omega) ?_
            exact ih (i + 1) (by omega) _ _ _ _ w (lv_sub hl [1, 0] rfl)
        exact loop 12 0 (by omega) _ _ _ _ w (lv_sub hl [1, 0] rfl)
      | succ n ih =>
        intro i hi f0 f1 H locs ls w hl
        refine lv_iload_n hx hb d_Isolator_init_24 rfl (lv_at hl 1 rfl) ?_
        refine lv_bipush (v := 12) hx hb d_Isolator_init_25 (by decide) ?_
        refine lv_icmp_gt (tgt := 66) hx hb d_Isolator_init_27 (by decide) (fun h => absurd h (nI_nlt (a := 12) (b := i) (by omega) (by omega))) (fun _ => ?_)
        refine lv_aload_n hx hb d_Isolator_init_30 rfl (lv_at hl 0 rfl) ?_
        refine kx_get E w zC_Isolator 0 rfl 0 (by decide) mw_74 rfl d_Isolator_init_31 ?_
        refine lv_iload_n hx hb d_Isolator_init_34 rfl (lv_at hl 1 rfl) ?_
        refine kx_new E w zC_Big mw_73 mw_8 mw_9 (fs := [.null, .int 0, .int 0]) z0_Big (show 2 + 4 * i + 1 ≤ 83 from by omega) (show 26 + 198 * i + 3 ≤ 2831 from by omega) d_Isolator_init_35 (fun q10 H w => ?_)
        have w : kW D A s [(h0, .inr (6, [.ref q1, .ref q2, .null, .null, .null, .null, .int 0, .int 0, .int 0, .int 0, .int 0])), (q1, .inl (a 4, 13, .inr (.inr (.inr (.inr f0))))), (q2, .inl (a 4, 13, .inr (.inr (.inr (.inr f1))))), (q10, .inr (1, [.null, .int 0, .int 0]))] H locs := w
        refine lv_dup hx hb d_Isolator_init_38 rfl ?_
        refine lv_bipush (v := 96) hx hb d_Isolator_init_39 (by decide) ?_
        refine kx_v E w (wc := [(q10, .inr (1, [.null, .int 0, .int 0]))]) (wr := [(h0, .inr (6, [.ref q1, .ref q2, .null, .null, .null, .null, .int 0, .int 0, .int 0, .int 0, .int 0])), (q1, .inl (a 4, 13, .inr (.inr (.inr (.inr f0))))), (q2, .inl (a 4, 13, .inr (.inr (.inr (.inr f1)))))]) [3] [0, 1, 2] rfl rfl ⟨rfl, rfl, by decide⟩ (kx_rI E w hl.1 (As := [.int 96]) (wc := [(q10, .inr (1, [.null, .int 0, .int 0]))]) (c_Big_init_96 l D a q10 H.size) gc_7 gi_Big_init [3] rfl rfl rfl rfl rfl ⟨(Nat.le_of_ble_eq_true rfl), (Nat.le_of_ble_eq_true rfl)⟩ rfl (Nat.le_of_ble_eq_true rfl) d_Isolator_init_41 ⟨(show 2 + 4 * i + 1 + 1 ≤ 83 from by omega), (show 26 + 198 * i + 3 + 96 ≤ 2831 from by omega)⟩) (fun u H locs hu w => ?_)
        obtain ⟨q11, rfl⟩ := hu
        have w : kW D A s [(h0, .inr (6, [.ref q1, .ref q2, .null, .null, .null, .null, .int 0, .int 0, .int 0, .int 0, .int 0])), (q1, .inl (a 4, 13, .inr (.inr (.inr (.inr f0))))), (q2, .inl (a 4, 13, .inr (.inr (.inr (.inr f1))))), (q10, .inr (1, [.ref q11, .int 0, .int 0])), (q11, .inl (a 0, 96, .inl (fun _ => 0)))] H locs := w
        refine kx_aast E w 1 4 3 1 rfl rfl rfl rfl (vp_in_nI (by omega) (by omega)) i (nI_clamp (by omega)) d_Isolator_init_44 (ws' := [(h0, .inr (6, [.ref q1, .ref q2, .null, .null, .null, .null, .int 0, .int 0, .int 0, .int 0, .int 0])), (q1, .inl (a 4, 13, .inr (.inr (.inr (.inr (va_up f0 i (some q10))))))), (q2, .inl (a 4, 13, .inr (.inr (.inr (.inr f1))))), (q10, .inr (1, [.ref q11, .int 0, .int 0])), (q11, .inl (a 0, 96, .inl (fun _ => 0)))]) rfl (fun H locs w => ?_)
        refine lv_aload_n hx hb d_Isolator_init_45 rfl (lv_at hl 0 rfl) ?_
        refine kx_get E w zC_Isolator 0 rfl 1 (by decide) mw_75 rfl d_Isolator_init_46 ?_
        refine lv_iload_n hx hb d_Isolator_init_49 rfl (lv_at hl 1 rfl) ?_
        refine kx_new E w zC_Big mw_73 mw_8 mw_9 (fs := [.null, .int 0, .int 0]) z0_Big (show 2 + 4 * i + 1 + 1 + 1 ≤ 83 from by omega) (show 26 + 198 * i + 3 + 96 + 3 ≤ 2831 from by omega) d_Isolator_init_50 (fun q12 H w => ?_)
        have w : kW D A s [(h0, .inr (6, [.ref q1, .ref q2, .null, .null, .null, .null, .int 0, .int 0, .int 0, .int 0, .int 0])), (q1, .inl (a 4, 13, .inr (.inr (.inr (.inr (va_up f0 i (some q10))))))), (q2, .inl (a 4, 13, .inr (.inr (.inr (.inr f1))))), (q10, .inr (1, [.ref q11, .int 0, .int 0])), (q11, .inl (a 0, 96, .inl (fun _ => 0))), (q12, .inr (1, [.null, .int 0, .int 0]))] H locs := w
        refine lv_dup hx hb d_Isolator_init_53 rfl ?_
        refine lv_bipush (v := 96) hx hb d_Isolator_init_54 (by decide) ?_
        refine kx_v E w (wc := [(q12, .inr (1, [.null, .int 0, .int 0]))]) (wr := [(h0, .inr (6, [.ref q1, .ref q2, .null, .null, .null, .null, .int 0, .int 0, .int 0, .int 0, .int 0])), (q1, .inl (a 4, 13, .inr (.inr (.inr (.inr (va_up f0 i (some q10))))))), (q2, .inl (a 4, 13, .inr (.inr (.inr (.inr f1))))), (q10, .inr (1, [.ref q11, .int 0, .int 0])), (q11, .inl (a 0, 96, .inl (fun _ => 0)))]) [5] [0, 1, 2, 3, 4] rfl rfl ⟨rfl, rfl, by decide⟩ (kx_rI E w hl.1 (As := [.int 96]) (wc := [(q12, .inr (1, [.null, .int 0, .int 0]))]) (c_Big_init_96 l D a q12 H.size) gc_7 gi_Big_init [5] rfl rfl rfl rfl rfl ⟨(Nat.le_of_ble_eq_true rfl), (Nat.le_of_ble_eq_true rfl)⟩ rfl (Nat.le_of_ble_eq_true rfl) d_Isolator_init_56 ⟨(show 2 + 4 * i + 1 + 1 + 1 + 1 ≤ 83 from by omega), (show 26 + 198 * i + 3 + 96 + 3 + 96 ≤ 2831 from by omega)⟩) (fun u H locs hu w => ?_)
        obtain ⟨q13, rfl⟩ := hu
        have w : kW D A s [(h0, .inr (6, [.ref q1, .ref q2, .null, .null, .null, .null, .int 0, .int 0, .int 0, .int 0, .int 0])), (q1, .inl (a 4, 13, .inr (.inr (.inr (.inr (va_up f0 i (some q10))))))), (q2, .inl (a 4, 13, .inr (.inr (.inr (.inr f1))))), (q10, .inr (1, [.ref q11, .int 0, .int 0])), (q11, .inl (a 0, 96, .inl (fun _ => 0))), (q12, .inr (1, [.ref q13, .int 0, .int 0])), (q13, .inl (a 0, 96, .inl (fun _ => 0)))] H locs := w
        refine kx_aast E w 2 4 5 1 rfl rfl rfl rfl (vp_in_nI (by omega) (by omega)) i (nI_clamp (by omega)) d_Isolator_init_59 (ws' := [(h0, .inr (6, [.ref q1, .ref q2, .null, .null, .null, .null, .int 0, .int 0, .int 0, .int 0, .int 0])), (q1, .inl (a 4, 13, .inr (.inr (.inr (.inr (va_up f0 i (some q10))))))), (q2, .inl (a 4, 13, .inr (.inr (.inr (.inr (va_up f1 i (some q12))))))), (q10, .inr (1, [.ref q11, .int 0, .int 0])), (q11, .inl (a 0, 96, .inl (fun _ => 0))), (q12, .inr (1, [.ref q13, .int 0, .int 0])), (q13, .inl (a 0, 96, .inl (fun _ => 0)))]) rfl (fun H locs w => ?_)
        refine lv_iinc (v := (nI (i + 1))) (lv' := [(1, .int (nI (i + 1))), (0, .ref h0)]) hx hb d_Isolator_init_60 hl (k := 1) rfl (kx_inc i) (by decide) rfl (fun ls hl => ?_)
        refine lv_goto (tgt := 24) hx hb d_Isolator_init_63 (by decide) ?_
        have w := kW_sub w (ws' := [(h0, .inr (6, [.ref q1, .ref q2, .null, .null, .null, .null, .int 0, .int 0, .int 0, .int 0, .int 0])), (q1, .inl (a 4, 13, .inr (.inr (.inr (.inr (va_up f0 i (some q10))))))), (q2, .inl (a 4, 13, .inr (.inr (.inr (.inr (va_up f1 i (some q12)))))))]) [0, 1, 2] rfl rfl
        refine W.widen (k := 2 + 4 * (i + 1)) (n := 26 + 198 * (i + 1)) (by omega) (by omega) ?_
        exact ih (i + 1) (by omega) _ _ _ _ _ w (lv_sub hl [1, 0] rfl)
    exact loop 13 0 (by omega) _ _ _ _ _ w (lv_sub hl [1, 0] rfl))
