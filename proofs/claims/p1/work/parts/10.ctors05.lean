/-! laid by program (wip/gen) -/
set_option maxRecDepth 100000 in
set_option maxHeartbeats 4000000 in
theorem c_Factors_init (l : Launch) (D : va_G) (a : Nat → ClassId) (h0 : Nat) : ∀ sz : Nat, Met l y_Factors_init (Cond.code y_Factors_init b_Factors_init 1 none :: wA) ({ frames := 3, cells := 85, slots := 1804, locals := 61 } : Room) (va_Pc [.ref h0] (kP D a [(h0, .inr (3, [.null, .null, .null, .null, .null, .null, .null, .null, .null, .null, .null, .null, .null, .null, .null, .null, .int 0, .int 0, .int 0, .int 0]))] sz)) (va_Qv (fun u : va_W => ∃ q1 : Nat, ∃ q8 : Nat, ∃ q10 : Nat, ∃ q12 : Nat, ∃ q13 : Nat, ∃ q14 : Nat, ∃ q15 : Nat, ∃ q16 : Nat, ∃ q17 : Nat, ∃ q18 : Nat, ∃ q19 : Nat, ∃ q20 : Nat, ∃ q21 : Nat, ∃ q22 : Nat, ∃ q23 : Nat, ∃ q24 : Nat, u = [(h0, .inr (3, [.ref q1, .ref q8, .ref q10, .ref q12, .ref q13, .ref q14, .ref q15, .ref q16, .ref q17, .ref q18, .ref q19, .ref q20, .ref q21, .ref q22, .ref q23, .ref q24, .int 0, .int 0, .int 0, .int 0]))]) (kB D a (va_A [(h0, .inr (3, [.null, .null, .null, .null, .null, .null, .null, .null, .null, .null, .null, .null, .null, .null, .null, .null, .int 0, .int 0, .int 0, .int 0]))] sz)) (va_A [(h0, .inr (3, [.null, .null, .null, .null, .null, .null, .null, .null, .null, .null, .null, .null, .null, .null, .null, .null, .int 0, .int 0, .int 0, .int 0]))] sz)) 85 1804 (va_A [(h0, .inr (3, [.null, .null, .null, .null, .null, .null, .null, .null, .null, .null, .null, .null, .null, .null, .null, .null, .int 0, .int 0, .int 0, .int 0]))] sz) :=
  kM (Qc := fun A => va_Qv (fun u : va_W => ∃ q1 : Nat, ∃ q8 : Nat, ∃ q10 : Nat, ∃ q12 : Nat, ∃ q13 : Nat, ∃ q14 : Nat, ∃ q15 : Nat, ∃ q16 : Nat, ∃ q17 : Nat, ∃ q18 : Nat, ∃ q19 : Nat, ∃ q20 : Nat, ∃ q21 : Nat, ∃ q22 : Nat, ∃ q23 : Nat, ∃ q24 : Nat, u = [(h0, .inr (3, [.ref q1, .ref q8, .ref q10, .ref q12, .ref q13, .ref q14, .ref q15, .ref q16, .ref q17, .ref q18, .ref q19, .ref q20, .ref q21, .ref q22, .ref q23, .ref q24, .int 0, .int 0, .int 0, .int 0]))]) (kB D a A) A) (by decide) (Nat.le_of_ble_eq_true rfl) (by
    intro p e s m below meth c A ls H locs E hr hlk hnm w hl
    have hx := E.1.1
    have hb := E.1.2.1
    have E : kE p m c b_Factors_init 1 s [.ref h0].toArray "RootAlgebra$Factors" D a A := E
    have hl : lv_has ls 1 [(0, .ref h0)] := hl
    have hnm : meth.name = "<init>" := hnm
    refine lv_aload_n hx hb d_Factors_init_0 rfl (lv_at hl 0 rfl) ?_
    refine kx_obj E hl.1 mw_82 mw_1 mw_2 d_Factors_init_1 (Nat.le_of_ble_eq_true rfl) (Nat.le_of_ble_eq_true rfl) (Nat.le_of_ble_eq_true rfl) ?_
    refine lv_aload_n hx hb d_Factors_init_4 rfl (lv_at hl 0 rfl) ?_
    refine kx_new E w zC_Field mw_83 mw_84 mw_85 (fs := [.int 0, .null, .null, .null, .null, .null, .null]) z0_Field (Nat.le_of_ble_eq_true rfl) (Nat.le_of_ble_eq_true rfl) d_Factors_init_5 (fun q1 H w => ?_)
    have w : kW D A s [(h0, .inr (3, [.null, .null, .null, .null, .null, .null, .null, .null, .null, .null, .null, .null, .null, .null, .null, .null, .int 0, .int 0, .int 0, .int 0])), (q1, .inr (4, [.int 0, .null, .null, .null, .null, .null, .null]))] H locs := w
    refine lv_dup hx hb d_Factors_init_8 rfl ?_
    refine kx_v E w (wc := [(q1, .inr (4, [.int 0, .null, .null, .null, .null, .null, .null]))]) (wr := [(h0, .inr (3, [.null, .null, .null, .null, .null, .null, .null, .null, .null, .null, .null, .null, .null, .null, .null, .null, .int 0, .int 0, .int 0, .int 0]))]) [1] [0] rfl rfl ⟨rfl, rfl, by decide⟩ (kx_rI E w hl.1 (As := []) (wc := [(q1, .inr (4, [.int 0, .null, .null, .null, .null, .null, .null]))]) (c_Field_init l D a q1 H.size) gc_8 gi_Field_init [1] rfl rfl rfl rfl rfl ⟨(Nat.le_of_ble_eq_true rfl), (Nat.le_of_ble_eq_true rfl)⟩ rfl (Nat.le_of_ble_eq_true rfl) d_Factors_init_9 ⟨(Nat.le_of_ble_eq_true rfl), (Nat.le_of_ble_eq_true rfl)⟩) (fun u H locs hu w => ?_)
    obtain ⟨q2, q3, q4, q5, q6, q7, rfl⟩ := hu
    have w : kW D A s [(h0, .inr (3, [.null, .null, .null, .null, .null, .null, .null, .null, .null, .null, .null, .null, .null, .null, .null, .null, .int 0, .int 0, .int 0, .int 0])), (q1, .inr (4, [.int 3, .ref q2, .ref q3, .ref q4, .ref q5, .ref q6, .ref q7]))] H locs := w
    refine kx_putF E w zC_Factors hnm 0 rfl 0 (by decide) mw_89 rfl rfl rfl rfl (Nat.le_of_ble_eq_true rfl) d_Factors_init_12 (ws' := [(h0, .inr (3, [.ref q1, .null, .null, .null, .null, .null, .null, .null, .null, .null, .null, .null, .null, .null, .null, .null, .int 0, .int 0, .int 0, .int 0])), (q1, .inr (4, [.int 3, .ref q2, .ref q3, .ref q4, .ref q5, .ref q6, .ref q7]))]) rfl (fun H locs w => ?_)
    have w := kW_sub w (ws' := [(h0, .inr (3, [.ref q1, .null, .null, .null, .null, .null, .null, .null, .null, .null, .null, .null, .null, .null, .null, .null, .int 0, .int 0, .int 0, .int 0]))]) [0] rfl rfl
    refine lv_aload_n hx hb d_Factors_init_15 rfl (lv_at hl 0 rfl) ?_
    refine kx_new E w zC_Padic mw_90 mw_91 mw_92 (fs := [.int 0, .long 0, .null]) z0_Padic (Nat.le_of_ble_eq_true rfl) (Nat.le_of_ble_eq_true rfl) d_Factors_init_16 (fun q8 H w => ?_)
    have w : kW D A s [(h0, .inr (3, [.ref q1, .null, .null, .null, .null, .null, .null, .null, .null, .null, .null, .null, .null, .null, .null, .null, .int 0, .int 0, .int 0, .int 0])), (q8, .inr (7, [.int 0, .long 0, .null]))] H locs := w
    refine lv_dup hx hb d_Factors_init_19 rfl ?_
    refine kx_v E w (wc := [(q8, .inr (7, [.int 0, .long 0, .null]))]) (wr := [(h0, .inr (3, [.ref q1, .null, .null, .null, .null, .null, .null, .null, .null, .null, .null, .null, .null, .null, .null, .null, .int 0, .int 0, .int 0, .int 0]))]) [1] [0] rfl rfl ⟨rfl, rfl, by decide⟩ (kx_rI E w hl.1 (As := []) (wc := [(q8, .inr (7, [.int 0, .long 0, .null]))]) (c_Padic_init l D a q8 H.size) gc_9 gi_Padic_init [1] rfl rfl rfl rfl rfl ⟨(Nat.le_of_ble_eq_true rfl), (Nat.le_of_ble_eq_true rfl)⟩ rfl (Nat.le_of_ble_eq_true rfl) d_Factors_init_20 ⟨(Nat.le_of_ble_eq_true rfl), (Nat.le_of_ble_eq_true rfl)⟩) (fun u H locs hu w => ?_)
    obtain ⟨q9, rfl⟩ := hu
    have w : kW D A s [(h0, .inr (3, [.ref q1, .null, .null, .null, .null, .null, .null, .null, .null, .null, .null, .null, .null, .null, .null, .null, .int 0, .int 0, .int 0, .int 0])), (q8, .inr (7, [.int 3, .long 0, .ref q9]))] H locs := w
    refine kx_putF E w zC_Factors hnm 0 rfl 1 (by decide) mw_96 rfl rfl rfl rfl (Nat.le_of_ble_eq_true rfl) d_Factors_init_23 (ws' := [(h0, .inr (3, [.ref q1, .ref q8, .null, .null, .null, .null, .null, .null, .null, .null, .null, .null, .null, .null, .null, .null, .int 0, .int 0, .int 0, .int 0])), (q8, .inr (7, [.int 3, .long 0, .ref q9]))]) rfl (fun H locs w => ?_)
    have w := kW_sub w (ws' := [(h0, .inr (3, [.ref q1, .ref q8, .null, .null, .null, .null, .null, .null, .null, .null, .null, .null, .null, .null, .null, .null, .int 0, .int 0, .int 0, .int 0]))]) [0] rfl rfl
    refine lv_aload_n hx hb d_Factors_init_26 rfl (lv_at hl 0 rfl) ?_
    refine kx_new E w zC_Big mw_97 mw_8 mw_9 (fs := [.null, .int 0, .int 0]) z0_Big (Nat.le_of_ble_eq_true rfl) (Nat.le_of_ble_eq_true rfl) d_Factors_init_27 (fun q10 H w => ?_)
    have w : kW D A s [(h0, .inr (3, [.ref q1, .ref q8, .null, .null, .null, .null, .null, .null, .null, .null, .null, .null, .null, .null, .null, .null, .int 0, .int 0, .int 0, .int 0])), (q10, .inr (1, [.null, .int 0, .int 0]))] H locs := w
    refine lv_dup hx hb d_Factors_init_30 rfl ?_
    refine lv_bipush (v := 28) hx hb d_Factors_init_31 (by decide) ?_
    refine kx_v E w (wc := [(q10, .inr (1, [.null, .int 0, .int 0]))]) (wr := [(h0, .inr (3, [.ref q1, .ref q8, .null, .null, .null, .null, .null, .null, .null, .null, .null, .null, .null, .null, .null, .null, .int 0, .int 0, .int 0, .int 0]))]) [1] [0] rfl rfl ⟨rfl, rfl, by decide⟩ (kx_rI E w hl.1 (As := [.int 28]) (wc := [(q10, .inr (1, [.null, .int 0, .int 0]))]) (c_Big_init_28 l D a q10 H.size) gc_10 gi_Big_init [1] rfl rfl rfl rfl rfl ⟨(Nat.le_of_ble_eq_true rfl), (Nat.le_of_ble_eq_true rfl)⟩ rfl (Nat.le_of_ble_eq_true rfl) d_Factors_init_33 ⟨(Nat.le_of_ble_eq_true rfl), (Nat.le_of_ble_eq_true rfl)⟩) (fun u H locs hu w => ?_)
    obtain ⟨q11, rfl⟩ := hu
    have w : kW D A s [(h0, .inr (3, [.ref q1, .ref q8, .null, .null, .null, .null, .null, .null, .null, .null, .null, .null, .null, .null, .null, .null, .int 0, .int 0, .int 0, .int 0])), (q10, .inr (1, [.ref q11, .int 0, .int 0])), (q11, .inl (a 0, 28, .inl (fun _ => 0)))] H locs := w
    refine kx_putF E w zC_Factors hnm 0 rfl 2 (by decide) mw_99 rfl rfl rfl rfl (Nat.le_of_ble_eq_true rfl) d_Factors_init_36 (ws' := [(h0, .inr (3, [.ref q1, .ref q8, .ref q10, .null, .null, .null, .null, .null, .null, .null, .null, .null, .null, .null, .null, .null, .int 0, .int 0, .int 0, .int 0])), (q10, .inr (1, [.ref q11, .int 0, .int 0])), (q11, .inl (a 0, 28, .inl (fun _ => 0)))]) rfl (fun H locs w => ?_)
    have w := kW_sub w (ws' := [(h0, .inr (3, [.ref q1, .ref q8, .ref q10, .null, .null, .null, .null, .null, .null, .null, .null, .null, .null, .null, .null, .null, .int 0, .int 0, .int 0, .int 0]))]) [0] rfl rfl
    refine lv_aload_n hx hb d_Factors_init_39 rfl (lv_at hl 0 rfl) ?_
    refine lv_bipush (v := 52) hx hb d_Factors_init_40 (by decide) ?_
    refine kx_newa0 (atype := .long) E w rfl mw_36 (N' := 52) (a0 := (52, .inr (.inl (fun _ => 0)))) (fun _ => rfl) (by decide) (by decide) (by decide) (Nat.le_of_ble_eq_true rfl) (Nat.le_of_ble_eq_true rfl) d_Factors_init_42 (fun q12 H w => ?_)
    refine kx_putF E w zC_Factors hnm 0 rfl 3 (by decide) mw_100 rfl rfl rfl rfl (Nat.le_of_ble_eq_true rfl) d_Factors_init_44 (ws' := [(h0, .inr (3, [.ref q1, .ref q8, .ref q10, .ref q12, .null, .null, .null, .null, .null, .null, .null, .null, .null, .null, .null, .null, .int 0, .int 0, .int 0, .int 0]))]) rfl (fun H locs w => ?_)
    refine lv_aload_n hx hb d_Factors_init_47 rfl (lv_at hl 0 rfl) ?_
    refine lv_bipush (v := 52) hx hb d_Factors_init_48 (by decide) ?_
    refine kx_newa0 (atype := .long) E w rfl mw_36 (N' := 52) (a0 := (52, .inr (.inl (fun _ => 0)))) (fun _ => rfl) (by decide) (by decide) (by decide) (Nat.le_of_ble_eq_true rfl) (Nat.le_of_ble_eq_true rfl) d_Factors_init_50 (fun q13 H w => ?_)
    refine kx_putF E w zC_Factors hnm 0 rfl 4 (by decide) mw_101 rfl rfl rfl rfl (Nat.le_of_ble_eq_true rfl) d_Factors_init_52 (ws' := [(h0, .inr (3, [.ref q1, .ref q8, .ref q10, .ref q12, .ref q13, .null, .null, .null, .null, .null, .null, .null, .null, .null, .null, .null, .int 0, .int 0, .int 0, .int 0]))]) rfl (fun H locs w => ?_)
    refine lv_aload_n hx hb d_Factors_init_55 rfl (lv_at hl 0 rfl) ?_
    refine lv_bipush (v := 28) hx hb d_Factors_init_56 (by decide) ?_
    refine kx_newa0 (atype := .long) E w rfl mw_36 (N' := 28) (a0 := (28, .inr (.inl (fun _ => 0)))) (fun _ => rfl) (by decide) (by decide) (by decide) (Nat.le_of_ble_eq_true rfl) (Nat.le_of_ble_eq_true rfl) d_Factors_init_58 (fun q14 H w => ?_)
    refine kx_putF E w zC_Factors hnm 0 rfl 5 (by decide) mw_102 rfl rfl rfl rfl (Nat.le_of_ble_eq_true rfl) d_Factors_init_60 (ws' := [(h0, .inr (3, [.ref q1, .ref q8, .ref q10, .ref q12, .ref q13, .ref q14, .null, .null, .null, .null, .null, .null, .null, .null, .null, .null, .int 0, .int 0, .int 0, .int 0]))]) rfl (fun H locs w => ?_)
    refine lv_aload_n hx hb d_Factors_init_63 rfl (lv_at hl 0 rfl) ?_
    refine lv_bipush (v := 28) hx hb d_Factors_init_64 (by decide) ?_
    refine kx_newa0 (atype := .long) E w rfl mw_36 (N' := 28) (a0 := (28, .inr (.inl (fun _ => 0)))) (fun _ => rfl) (by decide) (by decide) (by decide) (Nat.le_of_ble_eq_true rfl) (Nat.le_of_ble_eq_true rfl) d_Factors_init_66 (fun q15 H w => ?_)
    refine kx_putF E w zC_Factors hnm 0 rfl 6 (by decide) mw_103 rfl rfl rfl rfl (Nat.le_of_ble_eq_true rfl) d_Factors_init_68 (ws' := [(h0, .inr (3, [.ref q1, .ref q8, .ref q10, .ref q12, .ref q13, .ref q14, .ref q15, .null, .null, .null, .null, .null, .null, .null, .null, .null, .int 0, .int 0, .int 0, .int 0]))]) rfl (fun H locs w => ?_)
    refine lv_aload_n hx hb d_Factors_init_71 rfl (lv_at hl 0 rfl) ?_
    refine lv_bipush (v := 28) hx hb d_Factors_init_72 (by decide) ?_
    refine kx_newa0 (atype := .long) E w rfl mw_36 (N' := 28) (a0 := (28, .inr (.inl (fun _ => 0)))) (fun _ => rfl) (by decide) (by decide) (by decide) (Nat.le_of_ble_eq_true rfl) (Nat.le_of_ble_eq_true rfl) d_Factors_init_74 (fun q16 H w => ?_)
    refine kx_putF E w zC_Factors hnm 0 rfl 7 (by decide) mw_104 rfl rfl rfl rfl (Nat.le_of_ble_eq_true rfl) d_Factors_init_76 (ws' := [(h0, .inr (3, [.ref q1, .ref q8, .ref q10, .ref q12, .ref q13, .ref q14, .ref q15, .ref q16, .null, .null, .null, .null, .null, .null, .null, .null, .int 0, .int 0, .int 0, .int 0]))]) rfl (fun H locs w => ?_)
    refine lv_aload_n hx hb d_Factors_init_79 rfl (lv_at hl 0 rfl) ?_
    refine lv_bipush (v := 28) hx hb d_Factors_init_80 (by decide) ?_
    refine kx_newa0 (atype := .long) E w rfl mw_36 (N' := 28) (a0 := (28, .inr (.inl (fun _ => 0)))) (fun _ => rfl) (by decide) (by decide) (by decide) (Nat.le_of_ble_eq_true rfl) (Nat.le_of_ble_eq_true rfl) d_Factors_init_82 (fun q17 H w => ?_)
    refine kx_putF E w zC_Factors hnm 0 rfl 8 (by decide) mw_105 rfl rfl rfl rfl (Nat.le_of_ble_eq_true rfl) d_Factors_init_84 (ws' := [(h0, .inr (3, [.ref q1, .ref q8, .ref q10, .ref q12, .ref q13, .ref q14, .ref q15, .ref q16, .ref q17, .null, .null, .null, .null, .null, .null, .null, .int 0, .int 0, .int 0, .int 0]))]) rfl (fun H locs w => ?_)
    refine lv_aload_n hx hb d_Factors_init_87 rfl (lv_at hl 0 rfl) ?_
    refine lv_bipush (v := 12) hx hb d_Factors_init_88 (by decide) ?_
    refine lv_bipush (v := 12) hx hb d_Factors_init_90 (by decide) ?_
    refine kx_mna E w mw_106 mw_36 (N' := 12) (K' := 12) (by decide) (by decide) (by decide) (by decide) (by decide) (by decide) (Nat.le_of_ble_eq_true rfl) (Nat.le_of_ble_eq_true rfl) d_Factors_init_92 (fun q18 H locs w => ?_)
    refine kx_putF E w zC_Factors hnm 0 rfl 9 (by decide) mw_107 rfl rfl rfl rfl (Nat.le_of_ble_eq_true rfl) d_Factors_init_96 (ws' := [(h0, .inr (3, [.ref q1, .ref q8, .ref q10, .ref q12, .ref q13, .ref q14, .ref q15, .ref q16, .ref q17, .ref q18, .null, .null, .null, .null, .null, .null, .int 0, .int 0, .int 0, .int 0]))]) rfl (fun H locs w => ?_)
    refine lv_aload_n hx hb d_Factors_init_99 rfl (lv_at hl 0 rfl) ?_
    refine lv_bipush (v := 12) hx hb d_Factors_init_100 (by decide) ?_
    refine lv_bipush (v := 12) hx hb d_Factors_init_102 (by decide) ?_
    refine kx_mna E w mw_106 mw_36 (N' := 12) (K' := 12) (by decide) (by decide) (by decide) (by decide) (by decide) (by decide) (Nat.le_of_ble_eq_true rfl) (Nat.le_of_ble_eq_true rfl) d_Factors_init_104 (fun q19 H locs w => ?_)
    refine kx_putF E w zC_Factors hnm 0 rfl 10 (by decide) mw_108 rfl rfl rfl rfl (Nat.le_of_ble_eq_true rfl) d_Factors_init_108 (ws' := [(h0, .inr (3, [.ref q1, .ref q8, .ref q10, .ref q12, .ref q13, .ref q14, .ref q15, .ref q16, .ref q17, .ref q18, .ref q19, .null, .null, .null, .null, .null, .int 0, .int 0, .int 0, .int 0]))]) rfl (fun H locs w => ?_)
    refine lv_aload_n hx hb d_Factors_init_111 rfl (lv_at hl 0 rfl) ?_
    refine lv_bipush (v := 12) hx hb d_Factors_init_112 (by decide) ?_
    refine lv_bipush (v := 13) hx hb d_Factors_init_114 (by decide) ?_
    refine kx_mna E w mw_106 mw_36 (N' := 12) (K' := 13) (by decide) (by decide) (by decide) (by decide) (by decide) (by decide) (Nat.le_of_ble_eq_true rfl) (Nat.le_of_ble_eq_true rfl) d_Factors_init_116 (fun q20 H locs w => ?_)
    refine kx_putF E w zC_Factors hnm 0 rfl 11 (by decide) mw_109 rfl rfl rfl rfl (Nat.le_of_ble_eq_true rfl) d_Factors_init_120 (ws' := [(h0, .inr (3, [.ref q1, .ref q8, .ref q10, .ref q12, .ref q13, .ref q14, .ref q15, .ref q16, .ref q17, .ref q18, .ref q19, .ref q20, .null, .null, .null, .null, .int 0, .int 0, .int 0, .int 0]))]) rfl (fun H locs w => ?_)
    refine lv_aload_n hx hb d_Factors_init_123 rfl (lv_at hl 0 rfl) ?_
    refine lv_bipush (v := 12) hx hb d_Factors_init_124 (by decide) ?_
    refine lv_bipush (v := 13) hx hb d_Factors_init_126 (by decide) ?_
    refine kx_mna E w mw_106 mw_36 (N' := 12) (K' := 13) (by decide) (by decide) (by decide) (by decide) (by decide) (by decide) (Nat.le_of_ble_eq_true rfl) (Nat.le_of_ble_eq_true rfl) d_Factors_init_128 (fun q21 H locs w => ?_)
    refine kx_putF E w zC_Factors hnm 0 rfl 12 (by decide) mw_110 rfl rfl rfl rfl (Nat.le_of_ble_eq_true rfl) d_Factors_init_132 (ws' := [(h0, .inr (3, [.ref q1, .ref q8, .ref q10, .ref q12, .ref q13, .ref q14, .ref q15, .ref q16, .ref q17, .ref q18, .ref q19, .ref q20, .ref q21, .null, .null, .null, .int 0, .int 0, .int 0, .int 0]))]) rfl (fun H locs w => ?_)
    refine lv_aload_n hx hb d_Factors_init_135 rfl (lv_at hl 0 rfl) ?_
    refine lv_bipush (v := 12) hx hb d_Factors_init_136 (by decide) ?_
    refine lv_bipush (v := 52) hx hb d_Factors_init_138 (by decide) ?_
    refine kx_mna E w mw_106 mw_36 (N' := 12) (K' := 52) (by decide) (by decide) (by decide) (by decide) (by decide) (by decide) (Nat.le_of_ble_eq_true rfl) (Nat.le_of_ble_eq_true rfl) d_Factors_init_140 (fun q22 H locs w => ?_)
    refine kx_putF E w zC_Factors hnm 0 rfl 13 (by decide) mw_111 rfl rfl rfl rfl (Nat.le_of_ble_eq_true rfl) d_Factors_init_144 (ws' := [(h0, .inr (3, [.ref q1, .ref q8, .ref q10, .ref q12, .ref q13, .ref q14, .ref q15, .ref q16, .ref q17, .ref q18, .ref q19, .ref q20, .ref q21, .ref q22, .null, .null, .int 0, .int 0, .int 0, .int 0]))]) rfl (fun H locs w => ?_)
    refine lv_aload_n hx hb d_Factors_init_147 rfl (lv_at hl 0 rfl) ?_
    refine lv_bipush (v := 52) hx hb d_Factors_init_148 (by decide) ?_
    refine kx_newa0 (atype := .long) E w rfl mw_36 (N' := 52) (a0 := (52, .inr (.inl (fun _ => 0)))) (fun _ => rfl) (by decide) (by decide) (by decide) (Nat.le_of_ble_eq_true rfl) (Nat.le_of_ble_eq_true rfl) d_Factors_init_150 (fun q23 H w => ?_)
    refine kx_putF E w zC_Factors hnm 0 rfl 14 (by decide) mw_112 rfl rfl rfl rfl (Nat.le_of_ble_eq_true rfl) d_Factors_init_152 (ws' := [(h0, .inr (3, [.ref q1, .ref q8, .ref q10, .ref q12, .ref q13, .ref q14, .ref q15, .ref q16, .ref q17, .ref q18, .ref q19, .ref q20, .ref q21, .ref q22, .ref q23, .null, .int 0, .int 0, .int 0, .int 0]))]) rfl (fun H locs w => ?_)
    refine lv_aload_n hx hb d_Factors_init_155 rfl (lv_at hl 0 rfl) ?_
    refine lv_bipush (v := 12) hx hb d_Factors_init_156 (by decide) ?_
    refine kx_newa0 (atype := .int) E w rfl mw_3 (N' := 12) (a0 := (12, .inl (fun _ => 0))) (fun _ => rfl) (by decide) (by decide) (by decide) (Nat.le_of_ble_eq_true rfl) (Nat.le_of_ble_eq_true rfl) d_Factors_init_158 (fun q24 H w => ?_)
    refine kx_putF E w zC_Factors hnm 0 rfl 15 (by decide) mw_113 rfl rfl rfl rfl (Nat.le_of_ble_eq_true rfl) d_Factors_init_160 (ws' := [(h0, .inr (3, [.ref q1, .ref q8, .ref q10, .ref q12, .ref q13, .ref q14, .ref q15, .ref q16, .ref q17, .ref q18, .ref q19, .ref q20, .ref q21, .ref q22, .ref q23, .ref q24, .int 0, .int 0, .int 0, .int 0]))]) rfl (fun H locs w => ?_)
    refine W.widen (k := 85) (n := 1804) (Nat.le_of_ble_eq_true rfl) (Nat.le_of_ble_eq_true rfl) ?_
    exact kx_vret E w hr hlk d_Factors_init_163 ⟨q1, q8, q10, q12, q13, q14, q15, q16, q17, q18, q19, q20, q21, q22, q23, q24, rfl⟩)
