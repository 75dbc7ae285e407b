/-! laid by program (wip/gen) -/
set_option maxRecDepth 100000 in
set_option maxHeartbeats 4000000 in
theorem c_Value_set01 (l : Launch) (D : va_G) (a : Nat → ClassId) (h0 : Nat) (h1 : Nat) (h2 : Nat) (h3 : Nat) : ∀ sz : Nat, Met l y_Value_setFraction (Cond.code y_Value_setFraction b_Value_setFraction 3 none :: wA) ({ frames := 2, cells := 0, slots := 0, locals := 45 } : Room) (va_Pc [.ref h0, .int 0, .int 1] (kP D a [(h0, .inr (11, [.ref h1, .ref h2, .int 0, .int 0, .int 0, .int 0, .int 0])), (h1, .inl (a 0, 7, .inl (fun _ => 0))), (h2, .inr (1, [.ref h3, .int 0, .int 0])), (h3, .inl (a 0, 12, .inl (fun _ => 0)))] sz)) (va_Qv (fun u : va_W => u = [(h0, .inr (11, [.ref h1, .ref h2, .int 1, .int 0, .int 1, .int 0, .int 0])), (h1, .inl (a 0, 7, .inl (upd (upd (fun _ => 0) 0 0) 1 1))), (h2, .inr (1, [.ref h3, .int 0, .int 0])), (h3, .inl (a 0, 12, .inl (fun _ => 0)))]) (kB D a (va_A [(h0, .inr (11, [.ref h1, .ref h2, .int 0, .int 0, .int 0, .int 0, .int 0])), (h1, .inl (a 0, 7, .inl (fun _ => 0))), (h2, .inr (1, [.ref h3, .int 0, .int 0])), (h3, .inl (a 0, 12, .inl (fun _ => 0)))] sz)) (va_A [(h0, .inr (11, [.ref h1, .ref h2, .int 0, .int 0, .int 0, .int 0, .int 0])), (h1, .inl (a 0, 7, .inl (fun _ => 0))), (h2, .inr (1, [.ref h3, .int 0, .int 0])), (h3, .inl (a 0, 12, .inl (fun _ => 0)))] sz)) 0 0 (va_A [(h0, .inr (11, [.ref h1, .ref h2, .int 0, .int 0, .int 0, .int 0, .int 0])), (h1, .inl (a 0, 7, .inl (fun _ => 0))), (h2, .inr (1, [.ref h3, .int 0, .int 0])), (h3, .inl (a 0, 12, .inl (fun _ => 0)))] sz) :=
  kM (Qc := fun A => va_Qv (fun u : va_W => u = [(h0, .inr (11, [.ref h1, .ref h2, .int 1, .int 0, .int 1, .int 0, .int 0])), (h1, .inl (a 0, 7, .inl (upd (upd (fun _ => 0) 0 0) 1 1))), (h2, .inr (1, [.ref h3, .int 0, .int 0])), (h3, .inl (a 0, 12, .inl (fun _ => 0)))]) (kB D a A) A) (by decide) (Nat.le_of_ble_eq_true rfl) (by
    intro p e s m below meth c A ls H locs E hr hlk hnm w hl
    have hx := E.1.1
    have hb := E.1.2.1
    have E : kE p m c b_Value_setFraction 3 s [.ref h0, .int 0, .int 1].toArray "RootAlgebra$Value" D a A := E
    have hl : lv_has ls 3 [(0, .ref h0), (1, .int 0), (2, .int 1)] := hl
    refine lv_aload_n hx hb d_Value_setFraction_0 rfl (lv_at hl 0 rfl) ?_
    refine lv_iconst (v := 1) hx hb d_Value_setFraction_1 (by decide) ?_
    refine kx_put E w zC_Value 0 rfl 2 (by decide) mw_24 rfl rfl rfl (Nat.le_of_ble_eq_true rfl) d_Value_setFraction_2 (ws' := [(h0, .inr (11, [.ref h1, .ref h2, .int 1, .int 0, .int 0, .int 0, .int 0])), (h1, .inl (a 0, 7, .inl (fun _ => 0))), (h2, .inr (1, [.ref h3, .int 0, .int 0])), (h3, .inl (a 0, 12, .inl (fun _ => 0)))]) rfl (fun H locs w => ?_)
    refine lv_aload_n hx hb d_Value_setFraction_5 rfl (lv_at hl 0 rfl) ?_
    refine kx_get E w zC_Value 0 rfl 0 (by decide) mw_6 rfl d_Value_setFraction_6 ?_
    refine lv_iconst (v := 0) hx hb d_Value_setFraction_9 (by decide) ?_
    refine lv_iload_n hx hb d_Value_setFraction_10 rfl (lv_at hl 1 rfl) ?_
    refine kx_ineg (v := 0) hx hb d_Value_setFraction_11 (by decide) ?_
    refine kx_iast E w 1 rfl (by unfold vp_in; decide) 0 (by decide) d_Value_setFraction_12 (ws' := [(h0, .inr (11, [.ref h1, .ref h2, .int 1, .int 0, .int 0, .int 0, .int 0])), (h1, .inl (a 0, 7, .inl (upd (fun _ => 0) 0 0))), (h2, .inr (1, [.ref h3, .int 0, .int 0])), (h3, .inl (a 0, 12, .inl (fun _ => 0)))]) rfl (fun H locs w => ?_)
    refine lv_aload_n hx hb d_Value_setFraction_13 rfl (lv_at hl 0 rfl) ?_
    refine kx_get E w zC_Value 0 rfl 0 (by decide) mw_6 rfl d_Value_setFraction_14 ?_
    refine lv_iconst (v := 1) hx hb d_Value_setFraction_17 (by decide) ?_
    refine lv_iload_n hx hb d_Value_setFraction_18 rfl (lv_at hl 2 rfl) ?_
    refine kx_iast E w 1 rfl (by unfold vp_in; decide) 1 (by decide) d_Value_setFraction_19 (ws' := [(h0, .inr (11, [.ref h1, .ref h2, .int 1, .int 0, .int 0, .int 0, .int 0])), (h1, .inl (a 0, 7, .inl (upd (upd (fun _ => 0) 0 0) 1 1))), (h2, .inr (1, [.ref h3, .int 0, .int 0])), (h3, .inl (a 0, 12, .inl (fun _ => 0)))]) rfl (fun H locs w => ?_)
    refine lv_aload_n hx hb d_Value_setFraction_20 rfl (lv_at hl 0 rfl) ?_
    refine kx_v E w (wc := [(h0, .inr (11, [.ref h1, .ref h2, .int 1, .int 0, .int 0, .int 0, .int 0])), (h1, .inl (a 0, 7, .inl (upd (upd (fun _ => 0) 0 0) 1 1))), (h2, .inr (1, [.ref h3, .int 0, .int 0])), (h3, .inl (a 0, 12, .inl (fun _ => 0)))]) (wr := []) [0, 1, 2, 3] [] rfl rfl ⟨rfl, rfl, by decide⟩ (kx_rV E w hl.1 (As := []) (wc := [(h0, .inr (11, [.ref h1, .ref h2, .int 1, .int 0, .int 0, .int 0, .int 0])), (h1, .inl (a 0, 7, .inl (upd (upd (fun _ => 0) 0 0) 1 1))), (h2, .inr (1, [.ref h3, .int 0, .int 0])), (h3, .inl (a 0, 12, .inl (fun _ => 0)))]) (c_Value_finish0 l D a h0 h1 h2 h3 H.size) gc_2 gv_Value_finishFraction (kRecv E w 11 0 rfl rfl) [0, 1, 2, 3] rfl rfl rfl rfl rfl ⟨(Nat.le_of_ble_eq_true rfl), (Nat.le_of_ble_eq_true rfl)⟩ rfl (Nat.le_of_ble_eq_true rfl) d_Value_setFraction_21 ⟨(Nat.le_of_ble_eq_true rfl), (Nat.le_of_ble_eq_true rfl)⟩) (fun u H locs hu w => ?_)
    obtain ⟨rfl⟩ := hu
    have w : kW D A s [(h0, .inr (11, [.ref h1, .ref h2, .int 1, .int 0, .int 1, .int 0, .int 0])), (h1, .inl (a 0, 7, .inl (upd (upd (fun _ => 0) 0 0) 1 1))), (h2, .inr (1, [.ref h3, .int 0, .int 0])), (h3, .inl (a 0, 12, .inl (fun _ => 0)))] H locs := w
    refine W.widen (k := 0) (n := 0) (Nat.le_of_ble_eq_true rfl) (Nat.le_of_ble_eq_true rfl) ?_
    exact kx_vret E w hr hlk d_Value_setFraction_24 rfl)
set_option maxRecDepth 100000 in
set_option maxHeartbeats 4000000 in
theorem c_Poly_init (l : Launch) (D : va_G) (a : Nat → ClassId) (h0 : Nat) : ∀ sz : Nat, Met l y_Poly_init (Cond.code y_Poly_init b_Poly_init 2 none :: wA) ({ frames := 2, cells := 27, slots := 416, locals := 41 } : Room) (va_Pc [.ref h0] (kP D a [(h0, .inr (8, [.null, .int 0]))] sz)) (va_Qv (fun u : va_W => ∃ q1 : Nat, u = [(h0, .inr (8, [.ref q1, .int 0]))]) (kB D a (va_A [(h0, .inr (8, [.null, .int 0]))] sz)) (va_A [(h0, .inr (8, [.null, .int 0]))] sz)) 27 416 (va_A [(h0, .inr (8, [.null, .int 0]))] sz) :=
  kM (Qc := fun A => va_Qv (fun u : va_W => ∃ q1 : Nat, u = [(h0, .inr (8, [.ref q1, .int 0]))]) (kB D a A) A) (by decide) (Nat.le_of_ble_eq_true rfl) (by
    intro p e s m below meth c A ls H locs E hr hlk hnm w hl
    have hx := E.1.1
    have hb := E.1.2.1
    have E : kE p m c b_Poly_init 2 s [.ref h0].toArray "RootAlgebra$Poly" D a A := E
    have hl : lv_has ls 2 [(0, .ref h0)] := hl
    have hnm : meth.name = "<init>" := hnm
    refine lv_aload_n hx hb d_Poly_init_0 rfl (lv_at hl 0 rfl) ?_
    refine kx_obj E hl.1 mw_30 mw_1 mw_2 d_Poly_init_1 (Nat.le_of_ble_eq_true rfl) (Nat.le_of_ble_eq_true rfl) (Nat.le_of_ble_eq_true rfl) ?_
    refine lv_aload_n hx hb d_Poly_init_4 rfl (lv_at hl 0 rfl) ?_
    refine lv_bipush (v := 13) hx hb d_Poly_init_5 (by decide) ?_
    refine kx_newq E w mw_31 E.2.1.2.1 4 rfl (N' := 13) (by decide) (by decide) (by decide) (Nat.le_of_ble_eq_true rfl) (Nat.le_of_ble_eq_true rfl) d_Poly_init_7 (fun q1 H w => ?_)
    have w : kW D A s [(h0, .inr (8, [.null, .int 0])), (q1, .inl (a 4, 13, .inr (.inr (.inr (.inr (fun _ => none))))))] H locs := w
    refine kx_putF E w zC_Poly hnm 0 rfl 0 (by decide) mw_32 rfl rfl rfl rfl (Nat.le_of_ble_eq_true rfl) d_Poly_init_10 (ws' := [(h0, .inr (8, [.ref q1, .int 0])), (q1, .inl (a 4, 13, .inr (.inr (.inr (.inr (fun _ => none))))))]) rfl (fun H locs w => ?_)
    refine lv_iconst (v := 0) hx hb d_Poly_init_13 (by decide) ?_
    refine lv_istore_n (lv' := [(1, .int 0), (0, .ref h0)]) hx hb d_Poly_init_14 rfl hl (by decide) rfl (fun ls hl => ?_)
    refine W.widen (k := 1 + 2 * 0) (n := 13 + 31 * 0) (Nat.le_of_ble_eq_true rfl) (Nat.le_of_ble_eq_true rfl) ?_
    have loop : ∀ (n i : Nat), i + n = 13 → ∀ (f1 : Nat → Option Nat) (H : Heap) (locs : List Loc) (ls : Array Slot), kW D A s [(h0, .inr (8, [.ref q1, .int 0])), (q1, .inl (a 4, 13, .inr (.inr (.inr (.inr f1)))))] H locs → lv_has ls 2 [(0, .ref h0), (1, .int (nI i))] → W p l e ({ frames := 2, cells := 27, slots := 416, locals := 41 } : Room) s m [.ref h0].toArray below meth c H locs (1 + 2 * i) (13 + 31 * i) (MQ below (va_Qv (fun u : va_W => ∃ q1 : Nat, u = [(h0, .inr (8, [.ref q1, .int 0]))]) (kB D a A) A) [.ref h0].toArray s 27 416 A) (F0 m 15 ls [])  := by
      intro n
      induction n with
      | zero =>
        intro i hi f1 H locs ls w hl
        obtain rfl : i = 13 := by omega
        have hl : lv_has ls 2 [(0, .ref h0), (1, .int 13)] := hl
        refine lv_iload_n hx hb d_Poly_init_15 rfl (lv_at hl 1 rfl) ?_
        refine lv_bipush (v := 12) hx hb d_Poly_init_16 (by decide) ?_
        refine lv_icmp_gt (tgt := 42) hx hb d_Poly_init_18 (by decide) (fun _ => ?_) (fun h => absurd (by decide) h)
        have w := kW_sub w (ws' := [(h0, .inr (8, [.ref q1, .int 0]))]) [0] rfl rfl
        refine W.widen (k := 27) (n := 416) (Nat.le_of_ble_eq_true rfl) (Nat.le_of_ble_eq_true rfl) ?_
        exact kx_vret E w hr hlk d_Poly_init_42 ⟨q1, rfl⟩
      | succ n ih =>
        intro i hi f1 H locs ls w hl
        refine lv_iload_n hx hb d_Poly_init_15 rfl (lv_at hl 1 rfl) ?_
        refine lv_bipush (v := 12) hx hb d_Poly_init_16 (by decide) ?_
        refine lv_icmp_gt (tgt := 42) hx hb d_Poly_init_18 (by decide) (fun h => absurd h (nI_nlt (a := 12) (b := i) (by omega) (by omega))) (fun _ => ?_)
        refine lv_aload_n hx hb d_Poly_init_21 rfl (lv_at hl 0 rfl) ?_
        refine kx_get E w zC_Poly 0 rfl 0 (by decide) mw_32 rfl d_Poly_init_22 ?_
        refine lv_iload_n hx hb d_Poly_init_25 rfl (lv_at hl 1 rfl) ?_
        refine kx_new E w zC_Big mw_31 mw_8 mw_9 (fs := [.null, .int 0, .int 0]) z0_Big (show 1 + 2 * i + 1 ≤ 27 from by omega) (show 13 + 31 * i + 3 ≤ 416 from by omega) d_Poly_init_26 (fun q2 H w => ?_)
        have w : kW D A s [(h0, .inr (8, [.ref q1, .int 0])), (q1, .inl (a 4, 13, .inr (.inr (.inr (.inr f1))))), (q2, .inr (1, [.null, .int 0, .int 0]))] H locs := w
        refine lv_dup hx hb d_Poly_init_29 rfl ?_
        refine lv_bipush (v := 28) hx hb d_Poly_init_30 (by decide) ?_
        refine kx_v E w (wc := [(q2, .inr (1, [.null, .int 0, .int 0]))]) (wr := [(h0, .inr (8, [.ref q1, .int 0])), (q1, .inl (a 4, 13, .inr (.inr (.inr (.inr f1)))))]) [2] [0, 1] rfl rfl ⟨rfl, rfl, by decide⟩ (kx_rI E w hl.1 (As := [.int 28]) (wc := [(q2, .inr (1, [.null, .int 0, .int 0]))]) (c_Big_init_28 l D a q2 H.size) gc_3 gi_Big_init [2] rfl rfl rfl rfl rfl ⟨(Nat.le_of_ble_eq_true rfl), (Nat.le_of_ble_eq_true rfl)⟩ rfl (Nat.le_of_ble_eq_true rfl) d_Poly_init_32 ⟨(show 1 + 2 * i + 1 + 1 ≤ 27 from by omega), (show 13 + 31 * i + 3 + 28 ≤ 416 from by omega)⟩) (fun u H locs hu w => ?_)
        obtain ⟨q3, rfl⟩ := hu
        have w : kW D A s [(h0, .inr (8, [.ref q1, .int 0])), (q1, .inl (a 4, 13, .inr (.inr (.inr (.inr f1))))), (q2, .inr (1, [.ref q3, .int 0, .int 0])), (q3, .inl (a 0, 28, .inl (fun _ => 0)))] H locs := w
        refine kx_aast E w 1 4 2 1 rfl rfl rfl rfl (vp_in_nI (by omega) (by omega)) i (nI_clamp (by omega)) d_Poly_init_35 (ws' := [(h0, .inr (8, [.ref q1, .int 0])), (q1, .inl (a 4, 13, .inr (.inr (.inr (.inr (va_up f1 i (some q2))))))), (q2, .inr (1, [.ref q3, .int 0, .int 0])), (q3, .inl (a 0, 28, .inl (fun _ => 0)))]) rfl (fun H locs w => ?_)
        refine lv_iinc (v := (nI (i + 1))) (lv' := [(1, .int (nI (i + 1))), (0, .ref h0)]) hx hb d_Poly_init_36 hl (k := 1) rfl (kx_inc i) (by decide) rfl (fun ls hl => ?_)
        refine lv_goto (tgt := 15) hx hb d_Poly_init_39 (by decide) ?_
        have w := kW_sub w (ws' := [(h0, .inr (8, [.ref q1, .int 0])), (q1, .inl (a 4, 13, .inr (.inr (.inr (.inr (va_up f1 i (some q2)))))))]) [0, 1] rfl rfl
        refine W.widen (k := 1 + 2 * (i + 1)) (n := 13 + 31 * (i + 1)) (by omega) (by omega) ?_
        exact ih (i + 1) (by omega) _ _ _ _ w (lv_sub hl [1, 0] rfl)
    exact loop 13 0 (by omega) _ _ _ _ w (lv_sub hl [1, 0] rfl))
set_option maxRecDepth 100000 in
set_option maxHeartbeats 4000000 in
theorem c_Field_init (l : Launch) (D : va_G) (a : Nat → ClassId) (h0 : Nat) : ∀ sz : Nat, Met l y_Field_init (Cond.code y_Field_init b_Field_init 1 none :: wA) ({ frames := 1, cells := 6, slots := 168, locals := 20 } : Room) (va_Pc [.ref h0] (kP D a [(h0, .inr (4, [.int 0, .null, .null, .null, .null, .null, .null]))] sz)) (va_Qv (fun u : va_W => ∃ q1 : Nat, ∃ q2 : Nat, ∃ q3 : Nat, ∃ q4 : Nat, ∃ q5 : Nat, ∃ q6 : Nat, u = [(h0, .inr (4, [.int 3, .ref q1, .ref q2, .ref q3, .ref q4, .ref q5, .ref q6]))]) (kB D a (va_A [(h0, .inr (4, [.int 0, .null, .null, .null, .null, .null, .null]))] sz)) (va_A [(h0, .inr (4, [.int 0, .null, .null, .null, .null, .null, .null]))] sz)) 6 168 (va_A [(h0, .inr (4, [.int 0, .null, .null, .null, .null, .null, .null]))] sz) :=
  kM (Qc := fun A => va_Qv (fun u : va_W => ∃ q1 : Nat, ∃ q2 : Nat, ∃ q3 : Nat, ∃ q4 : Nat, ∃ q5 : Nat, ∃ q6 : Nat, u = [(h0, .inr (4, [.int 3, .ref q1, .ref q2, .ref q3, .ref q4, .ref q5, .ref q6]))]) (kB D a A) A) (by decide) (Nat.le_of_ble_eq_true rfl) (by
    intro p e s m below meth c A ls H locs E hr hlk hnm w hl
    have hx := E.1.1
    have hb := E.1.2.1
    have E : kE p m c b_Field_init 1 s [.ref h0].toArray "RootAlgebra$Field" D a A := E
    have hl : lv_has ls 1 [(0, .ref h0)] := hl
    have hnm : meth.name = "<init>" := hnm
    refine lv_aload_n hx hb d_Field_init_0 rfl (lv_at hl 0 rfl) ?_
    refine kx_obj E hl.1 mw_34 mw_1 mw_2 d_Field_init_1 (Nat.le_of_ble_eq_true rfl) (Nat.le_of_ble_eq_true rfl) (Nat.le_of_ble_eq_true rfl) ?_
    refine lv_aload_n hx hb d_Field_init_4 rfl (lv_at hl 0 rfl) ?_
    refine lv_iconst (v := 3) hx hb d_Field_init_5 (by decide) ?_
    refine kx_put E w zC_Field 0 rfl 0 (by decide) mw_35 rfl rfl rfl (Nat.le_of_ble_eq_true rfl) d_Field_init_6 (ws' := [(h0, .inr (4, [.int 3, .null, .null, .null, .null, .null, .null]))]) rfl (fun H locs w => ?_)
    refine lv_aload_n hx hb d_Field_init_9 rfl (lv_at hl 0 rfl) ?_
    refine lv_bipush (v := 28) hx hb d_Field_init_10 (by decide) ?_
    refine kx_newa0 (atype := .long) E w rfl mw_36 (N' := 28) (a0 := (28, .inr (.inl (fun _ => 0)))) (fun _ => rfl) (by decide) (by decide) (by decide) (Nat.le_of_ble_eq_true rfl) (Nat.le_of_ble_eq_true rfl) d_Field_init_12 (fun q1 H w => ?_)
    refine kx_putF E w zC_Field hnm 0 rfl 1 (by decide) mw_37 rfl rfl rfl rfl (Nat.le_of_ble_eq_true rfl) d_Field_init_14 (ws' := [(h0, .inr (4, [.int 3, .ref q1, .null, .null, .null, .null, .null]))]) rfl (fun H locs w => ?_)
    refine lv_aload_n hx hb d_Field_init_17 rfl (lv_at hl 0 rfl) ?_
    refine lv_bipush (v := 28) hx hb d_Field_init_18 (by decide) ?_
    refine kx_newa0 (atype := .long) E w rfl mw_36 (N' := 28) (a0 := (28, .inr (.inl (fun _ => 0)))) (fun _ => rfl) (by decide) (by decide) (by decide) (Nat.le_of_ble_eq_true rfl) (Nat.le_of_ble_eq_true rfl) d_Field_init_20 (fun q2 H w => ?_)
    refine kx_putF E w zC_Field hnm 0 rfl 2 (by decide) mw_38 rfl rfl rfl rfl (Nat.le_of_ble_eq_true rfl) d_Field_init_22 (ws' := [(h0, .inr (4, [.int 3, .ref q1, .ref q2, .null, .null, .null, .null]))]) rfl (fun H locs w => ?_)
    refine lv_aload_n hx hb d_Field_init_25 rfl (lv_at hl 0 rfl) ?_
    refine lv_bipush (v := 28) hx hb d_Field_init_26 (by decide) ?_
    refine kx_newa0 (atype := .long) E w rfl mw_36 (N' := 28) (a0 := (28, .inr (.inl (fun _ => 0)))) (fun _ => rfl) (by decide) (by decide) (by decide) (Nat.le_of_ble_eq_true rfl) (Nat.le_of_ble_eq_true rfl) d_Field_init_28 (fun q3 H w => ?_)
    refine kx_put E w zC_Field 0 rfl 3 (by decide) mw_39 rfl rfl rfl (Nat.le_of_ble_eq_true rfl) d_Field_init_30 (ws' := [(h0, .inr (4, [.int 3, .ref q1, .ref q2, .ref q3, .null, .null, .null]))]) rfl (fun H locs w => ?_)
    refine lv_aload_n hx hb d_Field_init_33 rfl (lv_at hl 0 rfl) ?_
    refine lv_bipush (v := 28) hx hb d_Field_init_34 (by decide) ?_
    refine kx_newa0 (atype := .long) E w rfl mw_36 (N' := 28) (a0 := (28, .inr (.inl (fun _ => 0)))) (fun _ => rfl) (by decide) (by decide) (by decide) (Nat.le_of_ble_eq_true rfl) (Nat.le_of_ble_eq_true rfl) d_Field_init_36 (fun q4 H w => ?_)
    refine kx_put E w zC_Field 0 rfl 4 (by decide) mw_40 rfl rfl rfl (Nat.le_of_ble_eq_true rfl) d_Field_init_38 (ws' := [(h0, .inr (4, [.int 3, .ref q1, .ref q2, .ref q3, .ref q4, .null, .null]))]) rfl (fun H locs w => ?_)
    refine lv_aload_n hx hb d_Field_init_41 rfl (lv_at hl 0 rfl) ?_
    refine lv_bipush (v := 28) hx hb d_Field_init_42 (by decide) ?_
    refine kx_newa0 (atype := .long) E w rfl mw_36 (N' := 28) (a0 := (28, .inr (.inl (fun _ => 0)))) (fun _ => rfl) (by decide) (by decide) (by decide) (Nat.le_of_ble_eq_true rfl) (Nat.le_of_ble_eq_true rfl) d_Field_init_44 (fun q5 H w => ?_)
    refine kx_put E w zC_Field 0 rfl 5 (by decide) mw_41 rfl rfl rfl (Nat.le_of_ble_eq_true rfl) d_Field_init_46 (ws' := [(h0, .inr (4, [.int 3, .ref q1, .ref q2, .ref q3, .ref q4, .ref q5, .null]))]) rfl (fun H locs w => ?_)
    refine lv_aload_n hx hb d_Field_init_49 rfl (lv_at hl 0 rfl) ?_
    refine lv_bipush (v := 28) hx hb d_Field_init_50 (by decide) ?_
    refine kx_newa0 (atype := .long) E w rfl mw_36 (N' := 28) (a0 := (28, .inr (.inl (fun _ => 0)))) (fun _ => rfl) (by decide) (by decide) (by decide) (Nat.le_of_ble_eq_true rfl) (Nat.le_of_ble_eq_true rfl) d_Field_init_52 (fun q6 H w => ?_)
    refine kx_put E w zC_Field 0 rfl 6 (by decide) mw_42 rfl rfl rfl (Nat.le_of_ble_eq_true rfl) d_Field_init_54 (ws' := [(h0, .inr (4, [.int 3, .ref q1, .ref q2, .ref q3, .ref q4, .ref q5, .ref q6]))]) rfl (fun H locs w => ?_)
    refine W.widen (k := 6) (n := 168) (Nat.le_of_ble_eq_true rfl) (Nat.le_of_ble_eq_true rfl) ?_
    exact kx_vret E w hr hlk d_Field_init_57 ⟨q1, q2, q3, q4, q5, q6, rfl⟩)
set_option maxRecDepth 100000 in
set_option maxHeartbeats 4000000 in
theorem c_Padic_init (l : Launch) (D : va_G) (a : Nat → ClassId) (h0 : Nat) : ∀ sz : Nat, Met l y_Padic_init (Cond.code y_Padic_init b_Padic_init 1 none :: wA) ({ frames := 2, cells := 2, slots := 31, locals := 41 } : Room) (va_Pc [.ref h0] (kP D a [(h0, .inr (7, [.int 0, .long 0, .null]))] sz)) (va_Qv (fun u : va_W => ∃ q1 : Nat, u = [(h0, .inr (7, [.int 3, .long 0, .ref q1]))]) (kB D a (va_A [(h0, .inr (7, [.int 0, .long 0, .null]))] sz)) (va_A [(h0, .inr (7, [.int 0, .long 0, .null]))] sz)) 2 31 (va_A [(h0, .inr (7, [.int 0, .long 0, .null]))] sz) :=
  kM (Qc := fun A => va_Qv (fun u : va_W => ∃ q1 : Nat, u = [(h0, .inr (7, [.int 3, .long 0, .ref q1]))]) (kB D a A) A) (by decide) (Nat.le_of_ble_eq_true rfl) (by
    intro p e s m below meth c A ls H locs E hr hlk hnm w hl
    have hx := E.1.1
    have hb := E.1.2.1
    have E : kE p m c b_Padic_init 1 s [.ref h0].toArray "RootAlgebra$Padic" D a A := E
    have hl : lv_has ls 1 [(0, .ref h0)] := hl
    have hnm : meth.name = "<init>" := hnm
    refine lv_aload_n hx hb d_Padic_init_0 rfl (lv_at hl 0 rfl) ?_
    refine kx_obj E hl.1 mw_43 mw_1 mw_2 d_Padic_init_1 (Nat.le_of_ble_eq_true rfl) (Nat.le_of_ble_eq_true rfl) (Nat.le_of_ble_eq_true rfl) ?_
    refine lv_aload_n hx hb d_Padic_init_4 rfl (lv_at hl 0 rfl) ?_
    refine lv_iconst (v := 3) hx hb d_Padic_init_5 (by decide) ?_
    refine kx_put E w zC_Padic 0 rfl 0 (by decide) mw_44 rfl rfl rfl (Nat.le_of_ble_eq_true rfl) d_Padic_init_6 (ws' := [(h0, .inr (7, [.int 3, .long 0, .null]))]) rfl (fun H locs w => ?_)
    refine lv_aload_n hx hb d_Padic_init_9 rfl (lv_at hl 0 rfl) ?_
    refine kx_new E w zC_Big mw_45 mw_8 mw_9 (fs := [.null, .int 0, .int 0]) z0_Big (Nat.le_of_ble_eq_true rfl) (Nat.le_of_ble_eq_true rfl) d_Padic_init_10 (fun q1 H w => ?_)
    have w : kW D A s [(h0, .inr (7, [.int 3, .long 0, .null])), (q1, .inr (1, [.null, .int 0, .int 0]))] H locs := w
    refine lv_dup hx hb d_Padic_init_13 rfl ?_
    refine lv_bipush (v := 28) hx hb d_Padic_init_14 (by decide) ?_
    refine kx_v E w (wc := [(q1, .inr (1, [.null, .int 0, .int 0]))]) (wr := [(h0, .inr (7, [.int 3, .long 0, .null]))]) [1] [0] rfl rfl ⟨rfl, rfl, by decide⟩ (kx_rI E w hl.1 (As := [.int 28]) (wc := [(q1, .inr (1, [.null, .int 0, .int 0]))]) (c_Big_init_28 l D a q1 H.size) gc_4 gi_Big_init [1] rfl rfl rfl rfl rfl ⟨(Nat.le_of_ble_eq_true rfl), (Nat.le_of_ble_eq_true rfl)⟩ rfl (Nat.le_of_ble_eq_true rfl) d_Padic_init_16 ⟨(Nat.le_of_ble_eq_true rfl), (Nat.le_of_ble_eq_true rfl)⟩) (fun u H locs hu w => ?_)
    obtain ⟨q2, rfl⟩ := hu
    have w : kW D A s [(h0, .inr (7, [.int 3, .long 0, .null])), (q1, .inr (1, [.ref q2, .int 0, .int 0])), (q2, .inl (a 0, 28, .inl (fun _ => 0)))] H locs := w
    refine kx_putF E w zC_Padic hnm 0 rfl 2 (by decide) mw_47 rfl rfl rfl rfl (Nat.le_of_ble_eq_true rfl) d_Padic_init_19 (ws' := [(h0, .inr (7, [.int 3, .long 0, .ref q1])), (q1, .inr (1, [.ref q2, .int 0, .int 0])), (q2, .inl (a 0, 28, .inl (fun _ => 0)))]) rfl (fun H locs w => ?_)
    have w := kW_sub w (ws' := [(h0, .inr (7, [.int 3, .long 0, .ref q1]))]) [0] rfl rfl
    refine W.widen (k := 2) (n := 31) (Nat.le_of_ble_eq_true rfl) (Nat.le_of_ble_eq_true rfl) ?_
    exact kx_vret E w hr hlk d_Padic_init_22 ⟨q1, rfl⟩)
