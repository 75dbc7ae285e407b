/-! laid by program (wip/gen) -/
set_option maxRecDepth 100000 in
set_option maxHeartbeats 4000000 in
theorem c_Md_letter (l : Launch) (D : va_G) (a : Nat → ClassId) (h0 : Nat) (r : Nat → Nat) (t0 : Int32) (t1 : Int32) (t3 : Int32) (t4 : Int32) (t5 : Int32) (t6 : Int32) (t7 : Int32) (t8 : Int32) (t9 : Int32) (b0 : Int32) (f6 : Nat → Int32) (t : Nat) (hj : t ≤ 100) : ∀ sz : Nat, Met l y_Md_letter (Cond.code y_Md_letter b_Md_letter 2 none :: wA) ({ frames := 0, cells := 0, slots := 0, locals := 0 } : Room) (va_Pc [.ref h0, .int b0] (kP D a [(h0, .inr (12, (mF r t0 t1 (nI t) t3 t4 t5 t6 t7 t8 t9))), ((r 3), .inl (a 0, 400, .inl f6))] sz)) (va_Qv (fun u : va_W => u = [(h0, .inr (12, (mF r t0 t1 (nI (t + 1)) t3 t4 t5 t6 t7 t8 t9))), ((r 3), .inl (a 0, 400, .inl (upd f6 t b0)))]) (kB D a (va_A [(h0, .inr (12, (mF r t0 t1 (nI t) t3 t4 t5 t6 t7 t8 t9))), ((r 3), .inl (a 0, 400, .inl f6))] sz)) (va_A [(h0, .inr (12, (mF r t0 t1 (nI t) t3 t4 t5 t6 t7 t8 t9))), ((r 3), .inl (a 0, 400, .inl f6))] sz)) 0 0 (va_A [(h0, .inr (12, (mF r t0 t1 (nI t) t3 t4 t5 t6 t7 t8 t9))), ((r 3), .inl (a 0, 400, .inl f6))] sz) :=
  kM (Qc := fun A => va_Qv (fun u : va_W => u = [(h0, .inr (12, (mF r t0 t1 (nI (t + 1)) t3 t4 t5 t6 t7 t8 t9))), ((r 3), .inl (a 0, 400, .inl (upd f6 t b0)))]) (kB D a A) A) (by decide) (Nat.le_of_ble_eq_true rfl) (by
    intro p e s m below meth c A ls H locs E hr hlk hnm w hl
    have hx := E.1.1
    have hb := E.1.2.1
    have E : kE p m c b_Md_letter 2 s [.ref h0, .int b0].toArray "RootAlgebraModel" D a A := E
    have hl : lv_has ls 2 [(0, .ref h0), (1, .int b0)] := hl
    refine lv_aload_n hx hb d_Md_letter_0 rfl (lv_at hl 0 rfl) ?_
    refine kx_get E w zC_Md 0 rfl 3 (by decide) mw_310 rfl d_Md_letter_1 ?_
    refine lv_aload_n hx hb d_Md_letter_4 rfl (lv_at hl 0 rfl) ?_
    refine kx_get E w zC_Md 0 rfl 4 (by decide) mw_373 rfl d_Md_letter_5 ?_
    refine lv_iload_n hx hb d_Md_letter_8 rfl (lv_at hl 1 rfl) ?_
    refine kx_iast E w 1 rfl (vp_in_nI (by omega) (by omega)) t (nI_clamp (by omega)) d_Md_letter_9 (ws' := [(h0, .inr (12, (mF r t0 t1 (nI t) t3 t4 t5 t6 t7 t8 t9))), ((r 3), .inl (a 0, 400, .inl (upd f6 t b0)))]) rfl (fun H locs w => ?_)
    refine lv_aload_n hx hb d_Md_letter_10 rfl (lv_at hl 0 rfl) ?_
    refine lv_dup hx hb d_Md_letter_11 rfl ?_
    refine kx_get E w zC_Md 0 rfl 4 (by decide) mw_373 rfl d_Md_letter_12 ?_
    refine lv_iconst (v := 1) hx hb d_Md_letter_15 (by decide) ?_
    refine kx_iadd (v := (nI (t + 1))) hx hb d_Md_letter_16 (nI_add t 1) ?_
    refine kx_put E w zC_Md 0 rfl 4 (by decide) mw_373 rfl rfl rfl (Nat.le_of_ble_eq_true rfl) d_Md_letter_17 (ws' := [(h0, .inr (12, (mF r t0 t1 (nI (t + 1)) t3 t4 t5 t6 t7 t8 t9))), ((r 3), .inl (a 0, 400, .inl (upd f6 t b0)))]) rfl (fun H locs w => ?_)
    refine W.widen (k := 0) (n := 0) (Nat.le_of_ble_eq_true rfl) (Nat.le_of_ble_eq_true rfl) ?_
    exact kx_vret E w hr hlk d_Md_letter_20 rfl)
set_option maxRecDepth 100000 in
set_option maxHeartbeats 4000000 in
theorem c_Md_says0 (l : Launch) (D : va_G) (a : Nat → ClassId) (h0 : Nat) (r : Nat → Nat) (t0 : Int32) (t1 : Int32) (t3 : Int32) (t4 : Int32) (t5 : Int32) (t6 : Int32) (t7 : Int32) (t8 : Int32) (t9 : Int32) (f0 : Nat → Int64) (f1 : Nat → Int32) (f2 : Nat → Int32) (f3 : Nat → Int64) (f4 : Nat → Int64) (f5 : Nat → Int64) (f6 : Nat → Int32) (t : Nat) (hj : t ≤ 100) (wd : Int64) (hf : f1 19 = 0 ∧ f2 19 = 0 ∧ f0 12540 = wd) : ∀ sz : Nat, Met l y_Md_says (Cond.code y_Md_says b_Md_says 6 none :: wA) ({ frames := 3, cells := 0, slots := 0, locals := 83 } : Room) (va_Pc [.ref h0] (kP D a [(h0, .inr (12, (mF r t0 t1 (nI t) t3 t4 t5 t6 t7 t8 t9))), ((r 12), .inl (a 1, 81840, .inr (.inl f0))), ((r 13), .inl (a 0, 124, .inl f1)), ((r 14), .inl (a 0, 124, .inl f2)), ((r 15), .inl (a 1, 1400, .inr (.inl f3))), ((r 16), .inl (a 1, 700, .inr (.inl f4))), ((r 17), .inl (a 1, 1400, .inr (.inl f5))), ((r 3), .inl (a 0, 400, .inl f6))] sz)) (va_Qv (fun u : va_W => ∃ fx0 : Nat → Int64, ∃ fx1 : Nat → Int64, ∃ fx2 : Nat → Int64, ∃ fx3 : Nat → Int32, ∃ fx4 : Nat → Int64, ∃ fx5 : Nat → Int32, ∃ fx6 : Nat → Int32, u = [((r 16), .inl (a 1, 700, .inr (.inl fx0))), ((r 17), .inl (a 1, 1400, .inr (.inl fx1))), ((r 15), .inl (a 1, 1400, .inr (.inl fx2))), ((r 14), .inl (a 0, 124, .inl fx3)), ((r 12), .inl (a 1, 81840, .inr (.inl fx4))), ((r 13), .inl (a 0, 124, .inl fx5)), (h0, .inr (12, (mF r t0 t1 (nI (t + 1)) t3 t4 t5 t6 t7 t8 t9))), ((r 3), .inl (a 0, 400, .inl fx6))] ∧ fx0 0 = 167772160 ∧ fx1 0 = 0 ∧ fx2 0 = 0 ∧ fx3 1 = 1 ∧ fx3 2 = 0 ∧ fx3 19 = 0 ∧ fx4 660 = 10 ∧ fx4 1320 = 0 ∧ fx4 12540 = wd ∧ fx5 1 = 1 ∧ fx5 2 = 0 ∧ fx5 19 = 0) (kB D a (va_A [(h0, .inr (12, (mF r t0 t1 (nI t) t3 t4 t5 t6 t7 t8 t9))), ((r 12), .inl (a 1, 81840, .inr (.inl f0))), ((r 13), .inl (a 0, 124, .inl f1)), ((r 14), .inl (a 0, 124, .inl f2)), ((r 15), .inl (a 1, 1400, .inr (.inl f3))), ((r 16), .inl (a 1, 700, .inr (.inl f4))), ((r 17), .inl (a 1, 1400, .inr (.inl f5))), ((r 3), .inl (a 0, 400, .inl f6))] sz)) (va_A [(h0, .inr (12, (mF r t0 t1 (nI t) t3 t4 t5 t6 t7 t8 t9))), ((r 12), .inl (a 1, 81840, .inr (.inl f0))), ((r 13), .inl (a 0, 124, .inl f1)), ((r 14), .inl (a 0, 124, .inl f2)), ((r 15), .inl (a 1, 1400, .inr (.inl f3))), ((r 16), .inl (a 1, 700, .inr (.inl f4))), ((r 17), .inl (a 1, 1400, .inr (.inl f5))), ((r 3), .inl (a 0, 400, .inl f6))] sz)) 0 0 (va_A [(h0, .inr (12, (mF r t0 t1 (nI t) t3 t4 t5 t6 t7 t8 t9))), ((r 12), .inl (a 1, 81840, .inr (.inl f0))), ((r 13), .inl (a 0, 124, .inl f1)), ((r 14), .inl (a 0, 124, .inl f2)), ((r 15), .inl (a 1, 1400, .inr (.inl f3))), ((r 16), .inl (a 1, 700, .inr (.inl f4))), ((r 17), .inl (a 1, 1400, .inr (.inl f5))), ((r 3), .inl (a 0, 400, .inl f6))] sz) :=
  kM (Qc := fun A => va_Qv (fun u : va_W => ∃ fx0 : Nat → Int64, ∃ fx1 : Nat → Int64, ∃ fx2 : Nat → Int64, ∃ fx3 : Nat → Int32, ∃ fx4 : Nat → Int64, ∃ fx5 : Nat → Int32, ∃ fx6 : Nat → Int32, u = [((r 16), .inl (a 1, 700, .inr (.inl fx0))), ((r 17), .inl (a 1, 1400, .inr (.inl fx1))), ((r 15), .inl (a 1, 1400, .inr (.inl fx2))), ((r 14), .inl (a 0, 124, .inl fx3)), ((r 12), .inl (a 1, 81840, .inr (.inl fx4))), ((r 13), .inl (a 0, 124, .inl fx5)), (h0, .inr (12, (mF r t0 t1 (nI (t + 1)) t3 t4 t5 t6 t7 t8 t9))), ((r 3), .inl (a 0, 400, .inl fx6))] ∧ fx0 0 = 167772160 ∧ fx1 0 = 0 ∧ fx2 0 = 0 ∧ fx3 1 = 1 ∧ fx3 2 = 0 ∧ fx3 19 = 0 ∧ fx4 660 = 10 ∧ fx4 1320 = 0 ∧ fx4 12540 = wd ∧ fx5 1 = 1 ∧ fx5 2 = 0 ∧ fx5 19 = 0) (kB D a A) A) (by decide) (Nat.le_of_ble_eq_true rfl) (by
    intro p e s m below meth c A ls H locs E hr hlk hnm w hl
    have hx := E.1.1
    have hb := E.1.2.1
    have E : kE p m c b_Md_says 6 s [.ref h0].toArray "RootAlgebraModel" D a A := E
    have hl : lv_has ls 6 [(0, .ref h0)] := hl
    refine lv_aload_n hx hb d_Md_says_0 rfl (lv_at hl 0 rfl) ?_
    refine kx_get E w zC_Md 0 rfl 14 (by decide) mw_315 rfl d_Md_says_1 ?_
    refine lv_bipush (v := 19) hx hb d_Md_says_4 (by decide) ?_
    refine kx_iald E w 3 rfl (by unfold vp_in; decide) (v := 0) hf.2.1 d_Md_says_6 ?_
    refine lv_if_ge (tgt := 16) hx hb d_Md_says_7 (by decide) (fun _ => ?_) (fun h => absurd (by decide) h)
    refine lv_aload_n hx hb d_Md_says_16 rfl (lv_at hl 0 rfl) ?_
    refine kx_get E w zC_Md 0 rfl 14 (by decide) mw_315 rfl d_Md_says_17 ?_
    refine lv_bipush (v := 19) hx hb d_Md_says_20 (by decide) ?_
    refine lv_aload_n hx hb d_Md_says_22 rfl (lv_at hl 0 rfl) ?_
    refine kx_get E w zC_Md 0 rfl 14 (by decide) mw_315 rfl d_Md_says_23 ?_
    refine lv_bipush (v := 19) hx hb d_Md_says_26 (by decide) ?_
    refine kx_iald E w 3 rfl (by unfold vp_in; decide) (v := 0) hf.2.1 d_Md_says_28 ?_
    refine lv_if_ne (tgt := 36) hx hb d_Md_says_29 (by decide) (fun h => absurd (by decide) h) (fun _ => ?_)
    refine lv_iconst (v := 0) hx hb d_Md_says_32 (by decide) ?_
    refine lv_goto (tgt := 37) hx hb d_Md_says_33 (by decide) ?_
    refine kx_iast E w 3 rfl (by unfold vp_in; decide) 19 (by decide) d_Md_says_37 (ws' := [(h0, .inr (12, (mF r t0 t1 (nI t) t3 t4 t5 t6 t7 t8 t9))), ((r 12), .inl (a 1, 81840, .inr (.inl f0))), ((r 13), .inl (a 0, 124, .inl f1)), ((r 14), .inl (a 0, 124, .inl (upd f2 19 0))), ((r 15), .inl (a 1, 1400, .inr (.inl f3))), ((r 16), .inl (a 1, 700, .inr (.inl f4))), ((r 17), .inl (a 1, 1400, .inr (.inl f5))), ((r 3), .inl (a 0, 400, .inl f6))]) rfl (fun H locs w => ?_)
    refine lv_aload_n hx hb d_Md_says_38 rfl (lv_at hl 0 rfl) ?_
    refine kx_get E w zC_Md 0 rfl 4 (by decide) mw_373 rfl d_Md_says_39 ?_
    refine lv_istore_n (lv' := [(1, .int (nI t)), (0, .ref h0)]) hx hb d_Md_says_42 rfl hl (by decide) rfl (fun ls hl => ?_)
    refine lv_aload_n hx hb d_Md_says_43 rfl (lv_at hl 1 rfl) ?_
    refine lv_iconst (v := 1) hx hb d_Md_says_44 (by decide) ?_
    refine lv_ldc2 (v := 10) hx hb E.1.2.2.2.1 (E.1.2.2.2.2 _ mw_418) d_Md_says_45 ?_
    refine kx_v E w (wc := [(h0, .inr (12, (mF r t0 t1 (nI t) t3 t4 t5 t6 t7 t8 t9))), ((r 12), .inl (a 1, 81840, .inr (.inl f0))), ((r 13), .inl (a 0, 124, .inl f1)), ((r 14), .inl (a 0, 124, .inl (upd f2 19 0)))]) (wr := [((r 15), .inl (a 1, 1400, .inr (.inl f3))), ((r 16), .inl (a 1, 700, .inr (.inl f4))), ((r 17), .inl (a 1, 1400, .inr (.inl f5))), ((r 3), .inl (a 0, 400, .inl f6))]) [0, 1, 2, 3] [4, 5, 6, 7] rfl rfl ⟨rfl, rfl, by decide⟩ (kx_rV E w hl.1 (As := [.int 1, .long 10]) (wc := [(h0, .inr (12, (mF r t0 t1 (nI t) t3 t4 t5 t6 t7 t8 t9))), ((r 12), .inl (a 1, 81840, .inr (.inl f0))), ((r 13), .inl (a 0, 124, .inl f1)), ((r 14), .inl (a 0, 124, .inl (upd f2 19 0)))]) (c_Md_put_1_10 l D a h0 r t0 t1 (nI t) t3 t4 t5 t6 t7 t8 t9 f0 f1 (upd f2 19 0) 0 0 wd ⟨hf.1, rfl, hf.2.2⟩ H.size) gc_58 gv_Md_put (kRecv E w 12 0 rfl rfl) [0, 1, 2, 3] rfl rfl rfl rfl rfl ⟨(Nat.le_of_ble_eq_true rfl), (Nat.le_of_ble_eq_true rfl)⟩ rfl (Nat.le_of_ble_eq_true rfl) d_Md_says_48 ⟨(Nat.le_of_ble_eq_true rfl), (Nat.le_of_ble_eq_true rfl)⟩) (fun u H locs hu w => ?_)
    obtain ⟨fz1, fz2, fz3, rfl, hf4, hf5, hf6, hf7, hf8, hf9, hf10, hf11⟩ := hu
    have w : kW D A s [((r 15), .inl (a 1, 1400, .inr (.inl f3))), ((r 16), .inl (a 1, 700, .inr (.inl f4))), ((r 17), .inl (a 1, 1400, .inr (.inl f5))), ((r 3), .inl (a 0, 400, .inl f6)), (h0, .inr (12, (mF r t0 t1 (nI t) t3 t4 t5 t6 t7 t8 t9))), ((r 12), .inl (a 1, 81840, .inr (.inl fz1))), ((r 13), .inl (a 0, 124, .inl fz2)), ((r 14), .inl (a 0, 124, .inl fz3))] H locs := w
    refine lv_iconst (v := 1) hx hb d_Md_says_51 (by decide) ?_
    refine lv_istore_n (lv' := [(2, .int 1), (1, .int (nI t)), (0, .ref h0)]) hx hb d_Md_says_52 rfl hl (by decide) rfl (fun ls hl => ?_)
    refine lv_iload_n hx hb d_Md_says_53 rfl (lv_at hl 0 rfl) ?_
    refine lv_if_eq (tgt := 100) hx hb d_Md_says_54 (by decide) (fun h => absurd h (by decide)) (fun _ => ?_)
    refine lv_aload_n hx hb d_Md_says_57 rfl (lv_at hl 2 rfl) ?_
    refine lv_bipush (v := 19) hx hb d_Md_says_58 (by decide) ?_
    refine lv_iconst (v := 2) hx hb d_Md_says_60 (by decide) ?_
    refine lv_bipush (v := 19) hx hb d_Md_says_61 (by decide) ?_
    refine lv_iconst (v := 1) hx hb d_Md_says_63 (by decide) ?_
    refine kx_v E w (wc := [(h0, .inr (12, (mF r t0 t1 (nI t) t3 t4 t5 t6 t7 t8 t9))), ((r 12), .inl (a 1, 81840, .inr (.inl fz1))), ((r 13), .inl (a 0, 124, .inl fz2)), ((r 14), .inl (a 0, 124, .inl fz3)), ((r 15), .inl (a 1, 1400, .inr (.inl f3))), ((r 16), .inl (a 1, 700, .inr (.inl f4))), ((r 17), .inl (a 1, 1400, .inr (.inl f5)))]) (wr := [((r 3), .inl (a 0, 400, .inl f6))]) [4, 5, 6, 7, 0, 1, 2] [3] rfl rfl ⟨rfl, rfl, by decide⟩ (kx_rV E w hl.1 (As := [.int 19, .int 2, .int 19, .int 1]) (wc := [(h0, .inr (12, (mF r t0 t1 (nI t) t3 t4 t5 t6 t7 t8 t9))), ((r 12), .inl (a 1, 81840, .inr (.inl fz1))), ((r 13), .inl (a 0, 124, .inl fz2)), ((r 14), .inl (a 0, 124, .inl fz3)), ((r 15), .inl (a 1, 1400, .inr (.inl f3))), ((r 16), .inl (a 1, 700, .inr (.inl f4))), ((r 17), .inl (a 1, 1400, .inr (.inl f5)))]) (c_Md_divided0_10 l D a h0 r t0 t1 (nI t) t3 t4 t5 t6 t7 t8 t9 fz1 fz2 fz3 f3 f4 f5 wd ⟨hf9, hf11, hf7, hf8, hf10, hf4⟩ H.size) gc_59 gv_Md_divided (kRecv E w 12 4 rfl rfl) [4, 5, 6, 7, 0, 1, 2] rfl rfl rfl rfl rfl ⟨(Nat.le_of_ble_eq_true rfl), (Nat.le_of_ble_eq_true rfl)⟩ rfl (Nat.le_of_ble_eq_true rfl) d_Md_says_64 ⟨(Nat.le_of_ble_eq_true rfl), (Nat.le_of_ble_eq_true rfl)⟩) (fun u H locs hu w => ?_)
    obtain ⟨fz12, fz13, fz14, fz15, fz16, fz17, rfl, hf18, hf19, hf20, hf21, hf22, hf23, hf24, hf25, hf26, hf27, hf28, hf29⟩ := hu
    have w : kW D A s [((r 3), .inl (a 0, 400, .inl f6)), ((r 16), .inl (a 1, 700, .inr (.inl fz12))), ((r 17), .inl (a 1, 1400, .inr (.inl fz13))), ((r 15), .inl (a 1, 1400, .inr (.inl fz14))), (h0, .inr (12, (mF r t0 t1 (nI t) t3 t4 t5 t6 t7 t8 t9))), ((r 12), .inl (a 1, 81840, .inr (.inl fz15))), ((r 13), .inl (a 0, 124, .inl fz16)), ((r 14), .inl (a 0, 124, .inl fz17))] H locs := w
    refine lv_aload_n hx hb d_Md_says_67 rfl (lv_at hl 2 rfl) ?_
    refine lv_bipush (v := 48) hx hb d_Md_says_68 (by decide) ?_
    refine lv_aload_n hx hb d_Md_says_70 rfl (lv_at hl 2 rfl) ?_
    refine lv_iconst (v := 2) hx hb d_Md_says_71 (by decide) ?_
    refine lv_iconst (v := 0) hx hb d_Md_says_72 (by decide) ?_
    refine kx_l E w (wc := [(h0, .inr (12, (mF r t0 t1 (nI t) t3 t4 t5 t6 t7 t8 t9))), ((r 12), .inl (a 1, 81840, .inr (.inl fz15))), ((r 13), .inl (a 0, 124, .inl fz16))]) (wr := [((r 3), .inl (a 0, 400, .inl f6)), ((r 16), .inl (a 1, 700, .inr (.inl fz12))), ((r 17), .inl (a 1, 1400, .inr (.inl fz13))), ((r 15), .inl (a 1, 1400, .inr (.inl fz14))), ((r 14), .inl (a 0, 124, .inl fz17))]) [4, 5, 6] [0, 1, 2, 3, 7] rfl rfl ⟨rfl, rfl, by decide⟩ (kx_rV E w hl.1 (As := [.int 2, .int 0]) (wc := [(h0, .inr (12, (mF r t0 t1 (nI t) t3 t4 t5 t6 t7 t8 t9))), ((r 12), .inl (a 1, 81840, .inr (.inl fz15))), ((r 13), .inl (a 0, 124, .inl fz16))]) (c_Md_digit_2_0_0 l D a h0 r t0 t1 (nI t) t3 t4 t5 t6 t7 t8 t9 fz15 fz16 hf25 H.size) gc_57 gv_Md_digit (kRecv E w 12 4 rfl rfl) [4, 5, 6] rfl rfl rfl rfl rfl ⟨(Nat.le_of_ble_eq_true rfl), (Nat.le_of_ble_eq_true rfl)⟩ rfl (Nat.le_of_ble_eq_true rfl) d_Md_says_73 ⟨(Nat.le_of_ble_eq_true rfl), (Nat.le_of_ble_eq_true rfl)⟩) (fun rr u H locs hu w => ?_)
    obtain ⟨rfl, rfl⟩ := hu
    have w : kW D A s [((r 3), .inl (a 0, 400, .inl f6)), ((r 16), .inl (a 1, 700, .inr (.inl fz12))), ((r 17), .inl (a 1, 1400, .inr (.inl fz13))), ((r 15), .inl (a 1, 1400, .inr (.inl fz14))), ((r 14), .inl (a 0, 124, .inl fz17)), (h0, .inr (12, (mF r t0 t1 (nI t) t3 t4 t5 t6 t7 t8 t9))), ((r 12), .inl (a 1, 81840, .inr (.inl fz15))), ((r 13), .inl (a 0, 124, .inl fz16))] H locs := w
    refine lv_l2i (v := 0) hx hb d_Md_says_76 (by decide) ?_
    refine kx_iadd (v := 48) hx hb d_Md_says_77 (by decide) ?_
    refine kx_v E w (wc := [(h0, .inr (12, (mF r t0 t1 (nI t) t3 t4 t5 t6 t7 t8 t9))), ((r 3), .inl (a 0, 400, .inl f6))]) (wr := [((r 16), .inl (a 1, 700, .inr (.inl fz12))), ((r 17), .inl (a 1, 1400, .inr (.inl fz13))), ((r 15), .inl (a 1, 1400, .inr (.inl fz14))), ((r 14), .inl (a 0, 124, .inl fz17)), ((r 12), .inl (a 1, 81840, .inr (.inl fz15))), ((r 13), .inl (a 0, 124, .inl fz16))]) [5, 0] [1, 2, 3, 4, 6, 7] rfl rfl ⟨rfl, rfl, by decide⟩ (kx_rV E w hl.1 (As := [.int 48]) (wc := [(h0, .inr (12, (mF r t0 t1 (nI t) t3 t4 t5 t6 t7 t8 t9))), ((r 3), .inl (a 0, 400, .inl f6))]) (c_Md_letter l D a h0 r t0 t1 t3 t4 t5 t6 t7 t8 t9 48 f6 t (by omega) H.size) gc_60 gv_Md_letter (kRecv E w 12 5 rfl rfl) [5, 0] rfl rfl rfl rfl rfl ⟨(Nat.le_of_ble_eq_true rfl), (Nat.le_of_ble_eq_true rfl)⟩ rfl (Nat.le_of_ble_eq_true rfl) d_Md_says_78 ⟨(Nat.le_of_ble_eq_true rfl), (Nat.le_of_ble_eq_true rfl)⟩) (fun u H locs hu w => ?_)
    obtain ⟨rfl⟩ := hu
    have w : kW D A s [((r 16), .inl (a 1, 700, .inr (.inl fz12))), ((r 17), .inl (a 1, 1400, .inr (.inl fz13))), ((r 15), .inl (a 1, 1400, .inr (.inl fz14))), ((r 14), .inl (a 0, 124, .inl fz17)), ((r 12), .inl (a 1, 81840, .inr (.inl fz15))), ((r 13), .inl (a 0, 124, .inl fz16)), (h0, .inr (12, (mF r t0 t1 (nI (t + 1)) t3 t4 t5 t6 t7 t8 t9))), ((r 3), .inl (a 0, 400, .inl (upd f6 t 48)))] H locs := w
    refine lv_aload_n hx hb d_Md_says_81 rfl (lv_at hl 2 rfl) ?_
    refine kx_get E w zC_Md 6 rfl 14 (by decide) mw_315 rfl d_Md_says_82 ?_
    refine lv_bipush (v := 19) hx hb d_Md_says_85 (by decide) ?_
    refine kx_iald E w 3 rfl (by unfold vp_in; decide) (v := 0) hf29 d_Md_says_87 ?_
    refine lv_if_eq (tgt := 95) hx hb d_Md_says_88 (by decide) (fun _ => ?_) (fun h => absurd (by decide) h)
    refine lv_iconst (v := 0) hx hb d_Md_says_95 (by decide) ?_
    refine lv_istore_n (lv' := [(2, .int 0), (1, .int (nI t)), (0, .ref h0)]) hx hb d_Md_says_96 rfl hl (by decide) rfl (fun ls hl => ?_)
    refine lv_goto (tgt := 53) hx hb d_Md_says_97 (by decide) ?_
    refine lv_iload_n hx hb d_Md_says_53 rfl (lv_at hl 0 rfl) ?_
    refine lv_if_eq (tgt := 100) hx hb d_Md_says_54 (by decide) (fun _ => ?_) (fun h => absurd (by decide) h)
    refine lv_iload_n hx hb d_Md_says_100 rfl (lv_at hl 1 rfl) ?_
    refine lv_istore_n (lv' := [(3, .int (nI t)), (2, .int 0), (1, .int (nI t)), (0, .ref h0)]) hx hb d_Md_says_101 rfl hl (by decide) rfl (fun ls hl => ?_)
    refine lv_aload_n hx hb d_Md_says_102 rfl (lv_at hl 3 rfl) ?_
    refine kx_get E w zC_Md 6 rfl 4 (by decide) mw_373 rfl d_Md_says_103 ?_
    refine lv_iconst (v := 1) hx hb d_Md_says_106 (by decide) ?_
    refine kx_isub (v := (nI t)) hx hb d_Md_says_107 (nI_pred t) ?_
    refine lv_istore (lv' := [(4, .int (nI t)), (3, .int (nI t)), (2, .int 0), (1, .int (nI t)), (0, .ref h0)]) hx hb d_Md_says_108 hl (by decide) rfl (fun ls hl => ?_)
    refine lv_iload_n hx hb d_Md_says_110 rfl (lv_at hl 1 rfl) ?_
    refine lv_iload hx hb d_Md_says_111 (lv_at hl 0 rfl) ?_
    refine lv_icmp_ge (tgt := 155) hx hb d_Md_says_113 (by decide) (fun _ => ?_) (fun h => absurd (nI_le (a := t) (b := t) (by omega) (by omega)) h)
    refine W.widen (k := 0) (n := 0) (Nat.le_of_ble_eq_true rfl) (Nat.le_of_ble_eq_true rfl) ?_
    exact kx_vret E w hr hlk d_Md_says_155 ⟨fz12, fz13, fz14, fz17, fz15, fz16, (upd f6 t 48), rfl, hf18, hf19, hf20, hf27, hf28, hf29, hf21, hf22, hf23, hf24, hf25, hf26⟩)
set_option maxRecDepth 100000 in
set_option maxHeartbeats 4000000 in
theorem c_Md_says1 (l : Launch) (D : va_G) (a : Nat → ClassId) (h0 : Nat) (r : Nat → Nat) (t0 : Int32) (t1 : Int32) (t3 : Int32) (t4 : Int32) (t5 : Int32) (t6 : Int32) (t7 : Int32) (t8 : Int32) (t9 : Int32) (f0 : Nat → Int64) (f1 : Nat → Int32) (f2 : Nat → Int32) (f3 : Nat → Int64) (f4 : Nat → Int64) (f5 : Nat → Int64) (f6 : Nat → Int32) (t : Nat) (hj : t ≤ 100) (hf : f1 19 = 1 ∧ f2 19 = 1 ∧ f0 12540 = 1) : ∀ sz : Nat, Met l y_Md_says (Cond.code y_Md_says b_Md_says 6 none :: wA) ({ frames := 3, cells := 0, slots := 0, locals := 83 } : Room) (va_Pc [.ref h0] (kP D a [(h0, .inr (12, (mF r t0 t1 (nI t) t3 t4 t5 t6 t7 t8 t9))), ((r 12), .inl (a 1, 81840, .inr (.inl f0))), ((r 13), .inl (a 0, 124, .inl f1)), ((r 14), .inl (a 0, 124, .inl f2)), ((r 15), .inl (a 1, 1400, .inr (.inl f3))), ((r 16), .inl (a 1, 700, .inr (.inl f4))), ((r 17), .inl (a 1, 1400, .inr (.inl f5))), ((r 3), .inl (a 0, 400, .inl f6))] sz)) (va_Qv (fun u : va_W => ∃ fx0 : Nat → Int64, ∃ fx1 : Nat → Int64, ∃ fx2 : Nat → Int64, ∃ fx3 : Nat → Int32, ∃ fx4 : Nat → Int64, ∃ fx5 : Nat → Int32, ∃ fx6 : Nat → Int32, u = [((r 16), .inl (a 1, 700, .inr (.inl fx0))), ((r 17), .inl (a 1, 1400, .inr (.inl fx1))), ((r 15), .inl (a 1, 1400, .inr (.inl fx2))), ((r 14), .inl (a 0, 124, .inl fx3)), ((r 12), .inl (a 1, 81840, .inr (.inl fx4))), ((r 13), .inl (a 0, 124, .inl fx5)), (h0, .inr (12, (mF r t0 t1 (nI (t + 1)) t3 t4 t5 t6 t7 t8 t9))), ((r 3), .inl (a 0, 400, .inl fx6))] ∧ fx0 0 = 167772160 ∧ fx1 0 = 16777216 ∧ fx1 1 = 0 ∧ fx2 0 = 1 ∧ fx3 1 = 1 ∧ fx3 2 = 1 ∧ fx3 19 = 0 ∧ fx4 660 = 10 ∧ fx4 1320 = 1 ∧ fx4 12540 = 0 ∧ fx5 1 = 1 ∧ fx5 2 = 1 ∧ fx5 19 = 0) (kB D a (va_A [(h0, .inr (12, (mF r t0 t1 (nI t) t3 t4 t5 t6 t7 t8 t9))), ((r 12), .inl (a 1, 81840, .inr (.inl f0))), ((r 13), .inl (a 0, 124, .inl f1)), ((r 14), .inl (a 0, 124, .inl f2)), ((r 15), .inl (a 1, 1400, .inr (.inl f3))), ((r 16), .inl (a 1, 700, .inr (.inl f4))), ((r 17), .inl (a 1, 1400, .inr (.inl f5))), ((r 3), .inl (a 0, 400, .inl f6))] sz)) (va_A [(h0, .inr (12, (mF r t0 t1 (nI t) t3 t4 t5 t6 t7 t8 t9))), ((r 12), .inl (a 1, 81840, .inr (.inl f0))), ((r 13), .inl (a 0, 124, .inl f1)), ((r 14), .inl (a 0, 124, .inl f2)), ((r 15), .inl (a 1, 1400, .inr (.inl f3))), ((r 16), .inl (a 1, 700, .inr (.inl f4))), ((r 17), .inl (a 1, 1400, .inr (.inl f5))), ((r 3), .inl (a 0, 400, .inl f6))] sz)) 0 0 (va_A [(h0, .inr (12, (mF r t0 t1 (nI t) t3 t4 t5 t6 t7 t8 t9))), ((r 12), .inl (a 1, 81840, .inr (.inl f0))), ((r 13), .inl (a 0, 124, .inl f1)), ((r 14), .inl (a 0, 124, .inl f2)), ((r 15), .inl (a 1, 1400, .inr (.inl f3))), ((r 16), .inl (a 1, 700, .inr (.inl f4))), ((r 17), .inl (a 1, 1400, .inr (.inl f5))), ((r 3), .inl (a 0, 400, .inl f6))] sz) :=
  kM (Qc := fun A => va_Qv (fun u : va_W => ∃ fx0 : Nat → Int64, ∃ fx1 : Nat → Int64, ∃ fx2 : Nat → Int64, ∃ fx3 : Nat → Int32, ∃ fx4 : Nat → Int64, ∃ fx5 : Nat → Int32, ∃ fx6 : Nat → Int32, u = [((r 16), .inl (a 1, 700, .inr (.inl fx0))), ((r 17), .inl (a 1, 1400, .inr (.inl fx1))), ((r 15), .inl (a 1, 1400, .inr (.inl fx2))), ((r 14), .inl (a 0, 124, .inl fx3)), ((r 12), .inl (a 1, 81840, .inr (.inl fx4))), ((r 13), .inl (a 0, 124, .inl fx5)), (h0, .inr (12, (mF r t0 t1 (nI (t + 1)) t3 t4 t5 t6 t7 t8 t9))), ((r 3), .inl (a 0, 400, .inl fx6))] ∧ fx0 0 = 167772160 ∧ fx1 0 = 16777216 ∧ fx1 1 = 0 ∧ fx2 0 = 1 ∧ fx3 1 = 1 ∧ fx3 2 = 1 ∧ fx3 19 = 0 ∧ fx4 660 = 10 ∧ fx4 1320 = 1 ∧ fx4 12540 = 0 ∧ fx5 1 = 1 ∧ fx5 2 = 1 ∧ fx5 19 = 0) (kB D a A) A) (by decide) (Nat.le_of_ble_eq_true rfl) (by
    intro p e s m below meth c A ls H locs E hr hlk hnm w hl
    have hx := E.1.1
    have hb := E.1.2.1
    have E : kE p m c b_Md_says 6 s [.ref h0].toArray "RootAlgebraModel" D a A := E
    have hl : lv_has ls 6 [(0, .ref h0)] := hl
    refine lv_aload_n hx hb d_Md_says_0 rfl (lv_at hl 0 rfl) ?_
    refine kx_get E w zC_Md 0 rfl 14 (by decide) mw_315 rfl d_Md_says_1 ?_
    refine lv_bipush (v := 19) hx hb d_Md_says_4 (by decide) ?_
    refine kx_iald E w 3 rfl (by unfold vp_in; decide) (v := 1) hf.2.1 d_Md_says_6 ?_
    refine lv_if_ge (tgt := 16) hx hb d_Md_says_7 (by decide) (fun _ => ?_) (fun h => absurd (by decide) h)
    refine lv_aload_n hx hb d_Md_says_16 rfl (lv_at hl 0 rfl) ?_
    refine kx_get E w zC_Md 0 rfl 14 (by decide) mw_315 rfl d_Md_says_17 ?_
    refine lv_bipush (v := 19) hx hb d_Md_says_20 (by decide) ?_
    refine lv_aload_n hx hb d_Md_says_22 rfl (lv_at hl 0 rfl) ?_
    refine kx_get E w zC_Md 0 rfl 14 (by decide) mw_315 rfl d_Md_says_23 ?_
    refine lv_bipush (v := 19) hx hb d_Md_says_26 (by decide) ?_
    refine kx_iald E w 3 rfl (by unfold vp_in; decide) (v := 1) hf.2.1 d_Md_says_28 ?_
    refine lv_if_ne (tgt := 36) hx hb d_Md_says_29 (by decide) (fun _ => ?_) (fun h => absurd h (by decide))
    refine lv_iconst (v := 1) hx hb d_Md_says_36 (by decide) ?_
    refine kx_iast E w 3 rfl (by unfold vp_in; decide) 19 (by decide) d_Md_says_37 (ws' := [(h0, .inr (12, (mF r t0 t1 (nI t) t3 t4 t5 t6 t7 t8 t9))), ((r 12), .inl (a 1, 81840, .inr (.inl f0))), ((r 13), .inl (a 0, 124, .inl f1)), ((r 14), .inl (a 0, 124, .inl (upd f2 19 1))), ((r 15), .inl (a 1, 1400, .inr (.inl f3))), ((r 16), .inl (a 1, 700, .inr (.inl f4))), ((r 17), .inl (a 1, 1400, .inr (.inl f5))), ((r 3), .inl (a 0, 400, .inl f6))]) rfl (fun H locs w => ?_)
    refine lv_aload_n hx hb d_Md_says_38 rfl (lv_at hl 0 rfl) ?_
    refine kx_get E w zC_Md 0 rfl 4 (by decide) mw_373 rfl d_Md_says_39 ?_
    refine lv_istore_n (lv' := [(1, .int (nI t)), (0, .ref h0)]) hx hb d_Md_says_42 rfl hl (by decide) rfl (fun ls hl => ?_)
    refine lv_aload_n hx hb d_Md_says_43 rfl (lv_at hl 1 rfl) ?_
    refine lv_iconst (v := 1) hx hb d_Md_says_44 (by decide) ?_
    refine lv_ldc2 (v := 10) hx hb E.1.2.2.2.1 (E.1.2.2.2.2 _ mw_418) d_Md_says_45 ?_
    refine kx_v E w (wc := [(h0, .inr (12, (mF r t0 t1 (nI t) t3 t4 t5 t6 t7 t8 t9))), ((r 12), .inl (a 1, 81840, .inr (.inl f0))), ((r 13), .inl (a 0, 124, .inl f1)), ((r 14), .inl (a 0, 124, .inl (upd f2 19 1)))]) (wr := [((r 15), .inl (a 1, 1400, .inr (.inl f3))), ((r 16), .inl (a 1, 700, .inr (.inl f4))), ((r 17), .inl (a 1, 1400, .inr (.inl f5))), ((r 3), .inl (a 0, 400, .inl f6))]) [0, 1, 2, 3] [4, 5, 6, 7] rfl rfl ⟨rfl, rfl, by decide⟩ (kx_rV E w hl.1 (As := [.int 1, .long 10]) (wc := [(h0, .inr (12, (mF r t0 t1 (nI t) t3 t4 t5 t6 t7 t8 t9))), ((r 12), .inl (a 1, 81840, .inr (.inl f0))), ((r 13), .inl (a 0, 124, .inl f1)), ((r 14), .inl (a 0, 124, .inl (upd f2 19 1)))]) (c_Md_put_1_10 l D a h0 r t0 t1 (nI t) t3 t4 t5 t6 t7 t8 t9 f0 f1 (upd f2 19 1) 1 1 1 ⟨hf.1, rfl, hf.2.2⟩ H.size) gc_58 gv_Md_put (kRecv E w 12 0 rfl rfl) [0, 1, 2, 3] rfl rfl rfl rfl rfl ⟨(Nat.le_of_ble_eq_true rfl), (Nat.le_of_ble_eq_true rfl)⟩ rfl (Nat.le_of_ble_eq_true rfl) d_Md_says_48 ⟨(Nat.le_of_ble_eq_true rfl), (Nat.le_of_ble_eq_true rfl)⟩) (fun u H locs hu w => ?_)
    obtain ⟨fz1, fz2, fz3, rfl, hf4, hf5, hf6, hf7, hf8, hf9, hf10, hf11⟩ := hu
    have w : kW D A s [((r 15), .inl (a 1, 1400, .inr (.inl f3))), ((r 16), .inl (a 1, 700, .inr (.inl f4))), ((r 17), .inl (a 1, 1400, .inr (.inl f5))), ((r 3), .inl (a 0, 400, .inl f6)), (h0, .inr (12, (mF r t0 t1 (nI t) t3 t4 t5 t6 t7 t8 t9))), ((r 12), .inl (a 1, 81840, .inr (.inl fz1))), ((r 13), .inl (a 0, 124, .inl fz2)), ((r 14), .inl (a 0, 124, .inl fz3))] H locs := w
    refine lv_iconst (v := 1) hx hb d_Md_says_51 (by decide) ?_
    refine lv_istore_n (lv' := [(2, .int 1), (1, .int (nI t)), (0, .ref h0)]) hx hb d_Md_says_52 rfl hl (by decide) rfl (fun ls hl => ?_)
    refine lv_iload_n hx hb d_Md_says_53 rfl (lv_at hl 0 rfl) ?_
    refine lv_if_eq (tgt := 100) hx hb d_Md_says_54 (by decide) (fun h => absurd h (by decide)) (fun _ => ?_)
    refine lv_aload_n hx hb d_Md_says_57 rfl (lv_at hl 2 rfl) ?_
    refine lv_bipush (v := 19) hx hb d_Md_says_58 (by decide) ?_
    refine lv_iconst (v := 2) hx hb d_Md_says_60 (by decide) ?_
    refine lv_bipush (v := 19) hx hb d_Md_says_61 (by decide) ?_
    refine lv_iconst (v := 1) hx hb d_Md_says_63 (by decide) ?_
    refine kx_v E w (wc := [(h0, .inr (12, (mF r t0 t1 (nI t) t3 t4 t5 t6 t7 t8 t9))), ((r 12), .inl (a 1, 81840, .inr (.inl fz1))), ((r 13), .inl (a 0, 124, .inl fz2)), ((r 14), .inl (a 0, 124, .inl fz3)), ((r 15), .inl (a 1, 1400, .inr (.inl f3))), ((r 16), .inl (a 1, 700, .inr (.inl f4))), ((r 17), .inl (a 1, 1400, .inr (.inl f5)))]) (wr := [((r 3), .inl (a 0, 400, .inl f6))]) [4, 5, 6, 7, 0, 1, 2] [3] rfl rfl ⟨rfl, rfl, by decide⟩ (kx_rV E w hl.1 (As := [.int 19, .int 2, .int 19, .int 1]) (wc := [(h0, .inr (12, (mF r t0 t1 (nI t) t3 t4 t5 t6 t7 t8 t9))), ((r 12), .inl (a 1, 81840, .inr (.inl fz1))), ((r 13), .inl (a 0, 124, .inl fz2)), ((r 14), .inl (a 0, 124, .inl fz3)), ((r 15), .inl (a 1, 1400, .inr (.inl f3))), ((r 16), .inl (a 1, 700, .inr (.inl f4))), ((r 17), .inl (a 1, 1400, .inr (.inl f5)))]) (c_Md_divided1 l D a h0 r t0 t1 (nI t) t3 t4 t5 t6 t7 t8 t9 fz1 fz2 fz3 f3 f4 f5 ⟨hf9, hf11, hf7, hf8, hf10, hf4⟩ H.size) gc_59 gv_Md_divided (kRecv E w 12 4 rfl rfl) [4, 5, 6, 7, 0, 1, 2] rfl rfl rfl rfl rfl ⟨(Nat.le_of_ble_eq_true rfl), (Nat.le_of_ble_eq_true rfl)⟩ rfl (Nat.le_of_ble_eq_true rfl) d_Md_says_64 ⟨(Nat.le_of_ble_eq_true rfl), (Nat.le_of_ble_eq_true rfl)⟩) (fun u H locs hu w => ?_)
    obtain ⟨fz12, fz13, fz14, fz15, fz16, fz17, rfl, hf18, hf19, hf20, hf21, hf22, hf23, hf24, hf25, hf26, hf27, hf28, hf29, hf30⟩ := hu
    have w : kW D A s [((r 3), .inl (a 0, 400, .inl f6)), ((r 16), .inl (a 1, 700, .inr (.inl fz12))), ((r 17), .inl (a 1, 1400, .inr (.inl fz13))), ((r 15), .inl (a 1, 1400, .inr (.inl fz14))), (h0, .inr (12, (mF r t0 t1 (nI t) t3 t4 t5 t6 t7 t8 t9))), ((r 12), .inl (a 1, 81840, .inr (.inl fz15))), ((r 13), .inl (a 0, 124, .inl fz16)), ((r 14), .inl (a 0, 124, .inl fz17))] H locs := w
    refine lv_aload_n hx hb d_Md_says_67 rfl (lv_at hl 2 rfl) ?_
    refine lv_bipush (v := 48) hx hb d_Md_says_68 (by decide) ?_
    refine lv_aload_n hx hb d_Md_says_70 rfl (lv_at hl 2 rfl) ?_
    refine lv_iconst (v := 2) hx hb d_Md_says_71 (by decide) ?_
    refine lv_iconst (v := 0) hx hb d_Md_says_72 (by decide) ?_
    refine kx_l E w (wc := [(h0, .inr (12, (mF r t0 t1 (nI t) t3 t4 t5 t6 t7 t8 t9))), ((r 12), .inl (a 1, 81840, .inr (.inl fz15))), ((r 13), .inl (a 0, 124, .inl fz16))]) (wr := [((r 3), .inl (a 0, 400, .inl f6)), ((r 16), .inl (a 1, 700, .inr (.inl fz12))), ((r 17), .inl (a 1, 1400, .inr (.inl fz13))), ((r 15), .inl (a 1, 1400, .inr (.inl fz14))), ((r 14), .inl (a 0, 124, .inl fz17))]) [4, 5, 6] [0, 1, 2, 3, 7] rfl rfl ⟨rfl, rfl, by decide⟩ (kx_rV E w hl.1 (As := [.int 2, .int 0]) (wc := [(h0, .inr (12, (mF r t0 t1 (nI t) t3 t4 t5 t6 t7 t8 t9))), ((r 12), .inl (a 1, 81840, .inr (.inl fz15))), ((r 13), .inl (a 0, 124, .inl fz16))]) (c_Md_digit_2_1_0 l D a h0 r t0 t1 (nI t) t3 t4 t5 t6 t7 t8 t9 fz15 fz16 1 ⟨hf26, hf23⟩ H.size) gc_57 gv_Md_digit (kRecv E w 12 4 rfl rfl) [4, 5, 6] rfl rfl rfl rfl rfl ⟨(Nat.le_of_ble_eq_true rfl), (Nat.le_of_ble_eq_true rfl)⟩ rfl (Nat.le_of_ble_eq_true rfl) d_Md_says_73 ⟨(Nat.le_of_ble_eq_true rfl), (Nat.le_of_ble_eq_true rfl)⟩) (fun rr u H locs hu w => ?_)
    obtain ⟨hrr, rfl⟩ := hu
    rw [hrr]
    clear hrr
    have w : kW D A s [((r 3), .inl (a 0, 400, .inl f6)), ((r 16), .inl (a 1, 700, .inr (.inl fz12))), ((r 17), .inl (a 1, 1400, .inr (.inl fz13))), ((r 15), .inl (a 1, 1400, .inr (.inl fz14))), ((r 14), .inl (a 0, 124, .inl fz17)), (h0, .inr (12, (mF r t0 t1 (nI t) t3 t4 t5 t6 t7 t8 t9))), ((r 12), .inl (a 1, 81840, .inr (.inl fz15))), ((r 13), .inl (a 0, 124, .inl fz16))] H locs := w
    refine lv_l2i (v := 1) hx hb d_Md_says_76 (by decide) ?_
    refine kx_iadd (v := 49) hx hb d_Md_says_77 (by decide) ?_
    refine kx_v E w (wc := [(h0, .inr (12, (mF r t0 t1 (nI t) t3 t4 t5 t6 t7 t8 t9))), ((r 3), .inl (a 0, 400, .inl f6))]) (wr := [((r 16), .inl (a 1, 700, .inr (.inl fz12))), ((r 17), .inl (a 1, 1400, .inr (.inl fz13))), ((r 15), .inl (a 1, 1400, .inr (.inl fz14))), ((r 14), .inl (a 0, 124, .inl fz17)), ((r 12), .inl (a 1, 81840, .inr (.inl fz15))), ((r 13), .inl (a 0, 124, .inl fz16))]) [5, 0] [1, 2, 3, 4, 6, 7] rfl rfl ⟨rfl, rfl, by decide⟩ (kx_rV E w hl.1 (As := [.int 49]) (wc := [(h0, .inr (12, (mF r t0 t1 (nI t) t3 t4 t5 t6 t7 t8 t9))), ((r 3), .inl (a 0, 400, .inl f6))]) (c_Md_letter l D a h0 r t0 t1 t3 t4 t5 t6 t7 t8 t9 49 f6 t (by omega) H.size) gc_60 gv_Md_letter (kRecv E w 12 5 rfl rfl) [5, 0] rfl rfl rfl rfl rfl ⟨(Nat.le_of_ble_eq_true rfl), (Nat.le_of_ble_eq_true rfl)⟩ rfl (Nat.le_of_ble_eq_true rfl) d_Md_says_78 ⟨(Nat.le_of_ble_eq_true rfl), (Nat.le_of_ble_eq_true rfl)⟩) (fun u H locs hu w => ?_)
    obtain ⟨rfl⟩ := hu
    have w : kW D A s [((r 16), .inl (a 1, 700, .inr (.inl fz12))), ((r 17), .inl (a 1, 1400, .inr (.inl fz13))), ((r 15), .inl (a 1, 1400, .inr (.inl fz14))), ((r 14), .inl (a 0, 124, .inl fz17)), ((r 12), .inl (a 1, 81840, .inr (.inl fz15))), ((r 13), .inl (a 0, 124, .inl fz16)), (h0, .inr (12, (mF r t0 t1 (nI (t + 1)) t3 t4 t5 t6 t7 t8 t9))), ((r 3), .inl (a 0, 400, .inl (upd f6 t 49)))] H locs := w
    refine lv_aload_n hx hb d_Md_says_81 rfl (lv_at hl 2 rfl) ?_
    refine kx_get E w zC_Md 6 rfl 14 (by decide) mw_315 rfl d_Md_says_82 ?_
    refine lv_bipush (v := 19) hx hb d_Md_says_85 (by decide) ?_
    refine kx_iald E w 3 rfl (by unfold vp_in; decide) (v := 0) hf30 d_Md_says_87 ?_
    refine lv_if_eq (tgt := 95) hx hb d_Md_says_88 (by decide) (fun _ => ?_) (fun h => absurd (by decide) h)
    refine lv_iconst (v := 0) hx hb d_Md_says_95 (by decide) ?_
    refine lv_istore_n (lv' := [(2, .int 0), (1, .int (nI t)), (0, .ref h0)]) hx hb d_Md_says_96 rfl hl (by decide) rfl (fun ls hl => ?_)
    refine lv_goto (tgt := 53) hx hb d_Md_says_97 (by decide) ?_
    refine lv_iload_n hx hb d_Md_says_53 rfl (lv_at hl 0 rfl) ?_
    refine lv_if_eq (tgt := 100) hx hb d_Md_says_54 (by decide) (fun _ => ?_) (fun h => absurd (by decide) h)
    refine lv_iload_n hx hb d_Md_says_100 rfl (lv_at hl 1 rfl) ?_
    refine lv_istore_n (lv' := [(3, .int (nI t)), (2, .int 0), (1, .int (nI t)), (0, .ref h0)]) hx hb d_Md_says_101 rfl hl (by decide) rfl (fun ls hl => ?_)
    refine lv_aload_n hx hb d_Md_says_102 rfl (lv_at hl 3 rfl) ?_
    refine kx_get E w zC_Md 6 rfl 4 (by decide) mw_373 rfl d_Md_says_103 ?_
    refine lv_iconst (v := 1) hx hb d_Md_says_106 (by decide) ?_
    refine kx_isub (v := (nI t)) hx hb d_Md_says_107 (nI_pred t) ?_
    refine lv_istore (lv' := [(4, .int (nI t)), (3, .int (nI t)), (2, .int 0), (1, .int (nI t)), (0, .ref h0)]) hx hb d_Md_says_108 hl (by decide) rfl (fun ls hl => ?_)
    refine lv_iload_n hx hb d_Md_says_110 rfl (lv_at hl 1 rfl) ?_
    refine lv_iload hx hb d_Md_says_111 (lv_at hl 0 rfl) ?_
    refine lv_icmp_ge (tgt := 155) hx hb d_Md_says_113 (by decide) (fun _ => ?_) (fun h => absurd (nI_le (a := t) (b := t) (by omega) (by omega)) h)
    refine W.widen (k := 0) (n := 0) (Nat.le_of_ble_eq_true rfl) (Nat.le_of_ble_eq_true rfl) ?_
    exact kx_vret E w hr hlk d_Md_says_155 ⟨fz12, fz13, fz14, fz17, fz15, fz16, (upd f6 t 49), rfl, hf18, hf19, hf20, hf21, hf28, hf29, hf30, hf22, hf23, hf24, hf25, hf26, hf27⟩)
