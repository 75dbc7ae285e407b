/-! laid by program (wip/gen) -/
set_option maxRecDepth 100000 in
set_option maxHeartbeats 4000000 in
theorem c_Big_divide1 (l : Launch) (D : va_G) (a : Nat → ClassId) (h0 : Nat) (h1 : Nat) (f0 : Nat → Int32) (hf : f0 0 = 1) : ∀ sz : Nat, Met l y_Big_divide (Cond.code y_Big_divide b_Big_divide 7 (some .int) :: wA) ({ frames := 1, cells := 0, slots := 0, locals := 20 } : Room) (va_Pc [.ref h0, .int 1000000000] (kP D a [(h0, .inr (1, [.ref h1, .int 1, .int 1])), (h1, .inl (a 0, 8, .inl f0))] sz)) (va_Qi (fun (rr : Int32) (u : va_W) => rr = 1 ∧ u = [(h0, .inr (1, [.ref h1, .int 0, .int 0])), (h1, .inl (a 0, 8, .inl (upd f0 0 0)))]) (kB D a (va_A [(h0, .inr (1, [.ref h1, .int 1, .int 1])), (h1, .inl (a 0, 8, .inl f0))] sz)) (va_A [(h0, .inr (1, [.ref h1, .int 1, .int 1])), (h1, .inl (a 0, 8, .inl f0))] sz)) 0 0 (va_A [(h0, .inr (1, [.ref h1, .int 1, .int 1])), (h1, .inl (a 0, 8, .inl f0))] sz) :=
  kM (Qc := fun A => va_Qi (fun (rr : Int32) (u : va_W) => rr = 1 ∧ u = [(h0, .inr (1, [.ref h1, .int 0, .int 0])), (h1, .inl (a 0, 8, .inl (upd f0 0 0)))]) (kB D a A) A) (by decide) (Nat.le_of_ble_eq_true rfl) (by
    intro p e s m below meth c A ls H locs E hr hlk hnm w hl
    have hx := E.1.1
    have hb := E.1.2.1
    have E : kE p m c b_Big_divide 7 s [.ref h0, .int 1000000000].toArray "RootAlgebra$Big" D a A := E
    have hl : lv_has ls 7 [(0, .ref h0), (1, .int 1000000000)] := hl
    refine lv_iload_n hx hb d_Big_divide_0 rfl (lv_at hl 1 rfl) ?_
    refine lv_if_gt (tgt := 6) hx hb d_Big_divide_1 (by decide) (fun _ => ?_) (fun h => absurd (by decide) h)
    refine lv_lconst (v := 0) hx hb d_Big_divide_6 (by decide) ?_
    refine lv_lstore_n (lv' := [(2, .long 0), (0, .ref h0), (1, .int 1000000000)]) hx hb d_Big_divide_7 rfl hl (by decide) rfl (fun ls hl => ?_)
    refine lv_aload_n hx hb d_Big_divide_8 rfl (lv_at hl 1 rfl) ?_
    refine kx_get E w zC_Big 0 rfl 1 (by decide) mw_15 rfl d_Big_divide_9 ?_
    refine lv_iconst (v := 1) hx hb d_Big_divide_12 (by decide) ?_
    refine kx_isub (v := 0) hx hb d_Big_divide_13 (by decide) ?_
    refine lv_istore (lv' := [(4, .int 0), (2, .long 0), (0, .ref h0), (1, .int 1000000000)]) hx hb d_Big_divide_14 hl (by decide) rfl (fun ls hl => ?_)
    refine lv_iload hx hb d_Big_divide_16 (lv_at hl 0 rfl) ?_
    refine lv_if_lt (tgt := 65) hx hb d_Big_divide_18 (by decide) (fun h => absurd h (by decide)) (fun _ => ?_)
    refine lv_lload_n hx hb d_Big_divide_21 rfl (lv_at hl 1 rfl) ?_
    refine lv_bipush (v := 32) hx hb d_Big_divide_22 (by decide) ?_
    refine lv_lshl (v := 0) hx hb d_Big_divide_24 (by decide) ?_
    refine lv_aload_n hx hb d_Big_divide_25 rfl (lv_at hl 2 rfl) ?_
    refine kx_get E w zC_Big 0 rfl 0 (by decide) mw_4 rfl d_Big_divide_26 ?_
    refine lv_iload hx hb d_Big_divide_29 (lv_at hl 0 rfl) ?_
    refine kx_iald E w 1 rfl (by unfold vp_in; decide) (v := 1) hf d_Big_divide_31 ?_
    refine lv_i2l (v := 1) hx hb d_Big_divide_32 (by decide) ?_
    refine lv_ldc2 (v := 4294967295) hx hb E.1.2.2.2.1 (E.1.2.2.2.2 _ mw_251) d_Big_divide_33 ?_
    refine kx_land (v := 1) hx hb d_Big_divide_36 (by decide) ?_
    refine kx_lor (v := 1) hx hb d_Big_divide_37 (by decide) ?_
    refine lv_lstore (lv' := [(5, .long 1), (4, .int 0), (2, .long 0), (0, .ref h0), (1, .int 1000000000)]) hx hb d_Big_divide_38 hl (by decide) rfl (fun ls hl => ?_)
    refine lv_aload_n hx hb d_Big_divide_40 rfl (lv_at hl 3 rfl) ?_
    refine kx_get E w zC_Big 0 rfl 0 (by decide) mw_4 rfl d_Big_divide_41 ?_
    refine lv_iload hx hb d_Big_divide_44 (lv_at hl 1 rfl) ?_
    refine lv_lload hx hb d_Big_divide_46 (lv_at hl 0 rfl) ?_
    refine lv_iload_n hx hb d_Big_divide_48 rfl (lv_at hl 4 rfl) ?_
    refine lv_i2l (v := 1000000000) hx hb d_Big_divide_49 (by decide) ?_
    refine kx_ldiv (v := 0) hx hb d_Big_divide_50 (by decide) (by decide) ?_
    refine lv_l2i (v := 0) hx hb d_Big_divide_51 (by decide) ?_
    refine kx_iast E w 1 rfl (by unfold vp_in; decide) 0 (by decide) d_Big_divide_52 (ws' := [(h0, .inr (1, [.ref h1, .int 1, .int 1])), (h1, .inl (a 0, 8, .inl (upd f0 0 0)))]) rfl (fun H locs w => ?_)
    refine lv_lload hx hb d_Big_divide_53 (lv_at hl 0 rfl) ?_
    refine lv_iload_n hx hb d_Big_divide_55 rfl (lv_at hl 4 rfl) ?_
    refine lv_i2l (v := 1000000000) hx hb d_Big_divide_56 (by decide) ?_
    refine kx_lrem (v := 1) hx hb d_Big_divide_57 (by decide) (by decide) ?_
    refine lv_lstore_n (lv' := [(2, .long 1), (5, .long 1), (4, .int 0), (0, .ref h0), (1, .int 1000000000)]) hx hb d_Big_divide_58 rfl hl (by decide) rfl (fun ls hl => ?_)
    refine lv_iinc (v := (-1)) (lv' := [(4, .int (-1)), (2, .long 1), (5, .long 1), (0, .ref h0), (1, .int 1000000000)]) hx hb d_Big_divide_59 hl (k := 2) rfl (by decide) (by decide) rfl (fun ls hl => ?_)
    refine lv_goto (tgt := 16) hx hb d_Big_divide_62 (by decide) ?_
    refine lv_iload hx hb d_Big_divide_16 (lv_at hl 0 rfl) ?_
    refine lv_if_lt (tgt := 65) hx hb d_Big_divide_18 (by decide) (fun _ => ?_) (fun h => absurd (by decide) h)
    refine lv_aload_n hx hb d_Big_divide_65 rfl (lv_at hl 3 rfl) ?_
    refine kx_v E w (wc := [(h0, .inr (1, [.ref h1, .int 1, .int 1])), (h1, .inl (a 0, 8, .inl (upd f0 0 0)))]) (wr := []) [0, 1] [] rfl rfl ⟨rfl, rfl, by decide⟩ (kx_rV E w hl.1 (As := []) (wc := [(h0, .inr (1, [.ref h1, .int 1, .int 1])), (h1, .inl (a 0, 8, .inl (upd f0 0 0)))]) (c_Big_trim1 l D a h0 h1 (upd f0 0 0) rfl H.size) gc_30 gv_Big_trim (kRecv E w 1 0 rfl rfl) [0, 1] rfl rfl rfl rfl rfl ⟨(Nat.le_of_ble_eq_true rfl), (Nat.le_of_ble_eq_true rfl)⟩ rfl (Nat.le_of_ble_eq_true rfl) d_Big_divide_66 ⟨(Nat.le_of_ble_eq_true rfl), (Nat.le_of_ble_eq_true rfl)⟩) (fun u H locs hu w => ?_)
    obtain ⟨rfl⟩ := hu
    have w : kW D A s [(h0, .inr (1, [.ref h1, .int 0, .int 0])), (h1, .inl (a 0, 8, .inl (upd f0 0 0)))] H locs := w
    refine lv_lload_n hx hb d_Big_divide_69 rfl (lv_at hl 1 rfl) ?_
    refine lv_l2i (v := 1) hx hb d_Big_divide_70 (by decide) ?_
    refine W.widen (k := 0) (n := 0) (Nat.le_of_ble_eq_true rfl) (Nat.le_of_ble_eq_true rfl) ?_
    exact kx_iret E w hr hlk d_Big_divide_71 (v := 1) ⟨rfl, rfl⟩)
set_option maxRecDepth 100000 in
set_option maxHeartbeats 4000000 in
theorem c_Big_setLong1 (l : Launch) (D : va_G) (a : Nat → ClassId) (h0 : Nat) (h1 : Nat) (x0 : Int32) (x1 : Int32) (f0 : Nat → Int32) : ∀ sz : Nat, Met l y_Big_setLong (Cond.code y_Big_setLong b_Big_setLong 6 none :: wA) ({ frames := 0, cells := 0, slots := 0, locals := 0 } : Room) (va_Pc [.ref h0, .long 1] (kP D a [(h0, .inr (1, [.ref h1, .int x0, .int x1])), (h1, .inl (a 0, 8, .inl f0))] sz)) (va_Qv (fun u : va_W => u = [(h0, .inr (1, [.ref h1, .int 1, .int 1])), (h1, .inl (a 0, 8, .inl (upd f0 0 1)))]) (kB D a (va_A [(h0, .inr (1, [.ref h1, .int x0, .int x1])), (h1, .inl (a 0, 8, .inl f0))] sz)) (va_A [(h0, .inr (1, [.ref h1, .int x0, .int x1])), (h1, .inl (a 0, 8, .inl f0))] sz)) 0 0 (va_A [(h0, .inr (1, [.ref h1, .int x0, .int x1])), (h1, .inl (a 0, 8, .inl f0))] sz) :=
  kM (Qc := fun A => va_Qv (fun u : va_W => u = [(h0, .inr (1, [.ref h1, .int 1, .int 1])), (h1, .inl (a 0, 8, .inl (upd f0 0 1)))]) (kB D a A) A) (by decide) (Nat.le_of_ble_eq_true rfl) (by
    intro p e s m below meth c A ls H locs E hr hlk hnm w hl
    have hx := E.1.1
    have hb := E.1.2.1
    have E : kE p m c b_Big_setLong 6 s [.ref h0, .long 1].toArray "RootAlgebra$Big" D a A := E
    have hl : lv_has ls 6 [(0, .ref h0), (1, .long 1)] := hl
    refine lv_aload_n hx hb d_Big_setLong_0 rfl (lv_at hl 0 rfl) ?_
    refine lv_lload_n hx hb d_Big_setLong_1 rfl (lv_at hl 1 rfl) ?_
    refine lv_lconst (v := 0) hx hb d_Big_setLong_2 (by decide) ?_
    refine kx_lcmp (v := 1) hx hb d_Big_setLong_3 (by decide) ?_
    refine lv_if_ge (tgt := 11) hx hb d_Big_setLong_4 (by decide) (fun _ => ?_) (fun h => absurd (by decide) h)
    refine lv_lload_n hx hb d_Big_setLong_11 rfl (lv_at hl 1 rfl) ?_
    refine lv_lconst (v := 0) hx hb d_Big_setLong_12 (by decide) ?_
    refine kx_lcmp (v := 1) hx hb d_Big_setLong_13 (by decide) ?_
    refine lv_if_le (tgt := 21) hx hb d_Big_setLong_14 (by decide) (fun h => absurd h (by decide)) (fun _ => ?_)
    refine lv_iconst (v := 1) hx hb d_Big_setLong_17 (by decide) ?_
    refine lv_goto (tgt := 22) hx hb d_Big_setLong_18 (by decide) ?_
    refine kx_put E w zC_Big 0 rfl 2 (by decide) mw_14 rfl rfl rfl (Nat.le_of_ble_eq_true rfl) d_Big_setLong_22 (ws' := [(h0, .inr (1, [.ref h1, .int x0, .int 1])), (h1, .inl (a 0, 8, .inl f0))]) rfl (fun H locs w => ?_)
    refine lv_lload_n hx hb d_Big_setLong_25 rfl (lv_at hl 1 rfl) ?_
    refine lv_lconst (v := 0) hx hb d_Big_setLong_26 (by decide) ?_
    refine kx_lcmp (v := 1) hx hb d_Big_setLong_27 (by decide) ?_
    refine lv_if_ge (tgt := 36) hx hb d_Big_setLong_28 (by decide) (fun _ => ?_) (fun h => absurd (by decide) h)
    refine lv_lload_n hx hb d_Big_setLong_36 rfl (lv_at hl 1 rfl) ?_
    refine lv_lstore_n (lv' := [(3, .long 1), (0, .ref h0), (1, .long 1)]) hx hb d_Big_setLong_37 rfl hl (by decide) rfl (fun ls hl => ?_)
    refine lv_aload_n hx hb d_Big_setLong_38 rfl (lv_at hl 1 rfl) ?_
    refine lv_iconst (v := 0) hx hb d_Big_setLong_39 (by decide) ?_
    refine kx_put E w zC_Big 0 rfl 1 (by decide) mw_15 rfl rfl rfl (Nat.le_of_ble_eq_true rfl) d_Big_setLong_40 (ws' := [(h0, .inr (1, [.ref h1, .int 0, .int 1])), (h1, .inl (a 0, 8, .inl f0))]) rfl (fun H locs w => ?_)
    refine lv_iconst (v := 0) hx hb d_Big_setLong_43 (by decide) ?_
    refine lv_istore (lv' := [(5, .int 0), (3, .long 1), (0, .ref h0), (1, .long 1)]) hx hb d_Big_setLong_44 hl (by decide) rfl (fun ls hl => ?_)
    refine lv_iload hx hb d_Big_setLong_46 (lv_at hl 0 rfl) ?_
    refine lv_iconst (v := 2) hx hb d_Big_setLong_48 (by decide) ?_
    refine lv_icmp_ge (tgt := 96) hx hb d_Big_setLong_49 (by decide) (fun h => absurd h (by decide)) (fun _ => ?_)
    refine lv_iload hx hb d_Big_setLong_52 (lv_at hl 0 rfl) ?_
    refine lv_aload_n hx hb d_Big_setLong_54 rfl (lv_at hl 2 rfl) ?_
    refine kx_get E w zC_Big 0 rfl 0 (by decide) mw_4 rfl d_Big_setLong_55 ?_
    refine kx_alen E w 1 0 rfl rfl (v := 8) rfl d_Big_setLong_58 ?_
    refine lv_icmp_ge (tgt := 96) hx hb d_Big_setLong_59 (by decide) (fun h => absurd h (by decide)) (fun _ => ?_)
    refine lv_lload_n hx hb d_Big_setLong_62 rfl (lv_at hl 1 rfl) ?_
    refine lv_lconst (v := 0) hx hb d_Big_setLong_63 (by decide) ?_
    refine kx_lcmp (v := 1) hx hb d_Big_setLong_64 (by decide) ?_
    refine lv_if_eq (tgt := 96) hx hb d_Big_setLong_65 (by decide) (fun h => absurd h (by decide)) (fun _ => ?_)
    refine lv_aload_n hx hb d_Big_setLong_68 rfl (lv_at hl 2 rfl) ?_
    refine kx_get E w zC_Big 0 rfl 0 (by decide) mw_4 rfl d_Big_setLong_69 ?_
    refine lv_iload hx hb d_Big_setLong_72 (lv_at hl 0 rfl) ?_
    refine lv_lload_n hx hb d_Big_setLong_74 rfl (lv_at hl 1 rfl) ?_
    refine lv_l2i (v := 1) hx hb d_Big_setLong_75 (by decide) ?_
    refine kx_iast E w 1 rfl (by unfold vp_in; decide) 0 (by decide) d_Big_setLong_76 (ws' := [(h0, .inr (1, [.ref h1, .int 0, .int 1])), (h1, .inl (a 0, 8, .inl (upd f0 0 1)))]) rfl (fun H locs w => ?_)
    refine lv_lload_n hx hb d_Big_setLong_77 rfl (lv_at hl 1 rfl) ?_
    refine lv_bipush (v := 32) hx hb d_Big_setLong_78 (by decide) ?_
    refine lv_lushr (v := 0) hx hb d_Big_setLong_80 (by decide) ?_
    refine lv_lstore_n (lv' := [(3, .long 0), (5, .int 0), (0, .ref h0), (1, .long 1)]) hx hb d_Big_setLong_81 rfl hl (by decide) rfl (fun ls hl => ?_)
    refine lv_aload_n hx hb d_Big_setLong_82 rfl (lv_at hl 2 rfl) ?_
    refine lv_iload hx hb d_Big_setLong_83 (lv_at hl 1 rfl) ?_
    refine lv_iconst (v := 1) hx hb d_Big_setLong_85 (by decide) ?_
    refine kx_iadd (v := 1) hx hb d_Big_setLong_86 (by decide) ?_
    refine kx_put E w zC_Big 0 rfl 1 (by decide) mw_15 rfl rfl rfl (Nat.le_of_ble_eq_true rfl) d_Big_setLong_87 (ws' := [(h0, .inr (1, [.ref h1, .int 1, .int 1])), (h1, .inl (a 0, 8, .inl (upd f0 0 1)))]) rfl (fun H locs w => ?_)
    refine lv_iinc (v := 1) (lv' := [(5, .int 1), (3, .long 0), (0, .ref h0), (1, .long 1)]) hx hb d_Big_setLong_90 hl (k := 1) rfl (by decide) (by decide) rfl (fun ls hl => ?_)
    refine lv_goto (tgt := 46) hx hb d_Big_setLong_93 (by decide) ?_
    refine lv_iload hx hb d_Big_setLong_46 (lv_at hl 0 rfl) ?_
    refine lv_iconst (v := 2) hx hb d_Big_setLong_48 (by decide) ?_
    refine lv_icmp_ge (tgt := 96) hx hb d_Big_setLong_49 (by decide) (fun h => absurd h (by decide)) (fun _ => ?_)
    refine lv_iload hx hb d_Big_setLong_52 (lv_at hl 0 rfl) ?_
    refine lv_aload_n hx hb d_Big_setLong_54 rfl (lv_at hl 2 rfl) ?_
    refine kx_get E w zC_Big 0 rfl 0 (by decide) mw_4 rfl d_Big_setLong_55 ?_
    refine kx_alen E w 1 0 rfl rfl (v := 8) rfl d_Big_setLong_58 ?_
    refine lv_icmp_ge (tgt := 96) hx hb d_Big_setLong_59 (by decide) (fun h => absurd h (by decide)) (fun _ => ?_)
    refine lv_lload_n hx hb d_Big_setLong_62 rfl (lv_at hl 1 rfl) ?_
    refine lv_lconst (v := 0) hx hb d_Big_setLong_63 (by decide) ?_
    refine kx_lcmp (v := 0) hx hb d_Big_setLong_64 (by decide) ?_
    refine lv_if_eq (tgt := 96) hx hb d_Big_setLong_65 (by decide) (fun _ => ?_) (fun h => absurd (by decide) h)
    refine W.widen (k := 0) (n := 0) (Nat.le_of_ble_eq_true rfl) (Nat.le_of_ble_eq_true rfl) ?_
    exact kx_vret E w hr hlk d_Big_setLong_96 rfl)
set_option maxRecDepth 100000 in
set_option maxHeartbeats 4000000 in
theorem c_RA_put (l : Launch) (D : va_G) (a : Nat → ClassId) (h0 : Nat) (r0 : Nat) (r1 : Nat) (r2 : Nat) (r3 : Nat) (hv : Nat) (r5 : Nat) (r6 : Nat) (b0 : Int32) (f1 : Nat → Int32) (t : Nat) (hj : t ≤ 100) : ∀ sz : Nat, Met l y_RA_put (Cond.code y_RA_put b_RA_put 2 none :: wA) ({ frames := 0, cells := 0, slots := 0, locals := 0 } : Room) (va_Pc [.ref h0, .int b0] (kP D a [(h0, .inr (0, [.ref r0, .ref r1, .ref r2, .ref r3, .ref hv, .ref r5, .ref r6, .int 0, .int (nI t), .int (-1), .int 0])), (r1, .inl (a 2, 128, .inl f1))] sz)) (va_Qv (fun u : va_W => u = [(h0, .inr (0, [.ref r0, .ref r1, .ref r2, .ref r3, .ref hv, .ref r5, .ref r6, .int 0, .int (nI (t + 1)), .int (-1), .int 0])), (r1, .inl (a 2, 128, .inl (upd f1 t b0.toInt8.toInt32)))]) (kB D a (va_A [(h0, .inr (0, [.ref r0, .ref r1, .ref r2, .ref r3, .ref hv, .ref r5, .ref r6, .int 0, .int (nI t), .int (-1), .int 0])), (r1, .inl (a 2, 128, .inl f1))] sz)) (va_A [(h0, .inr (0, [.ref r0, .ref r1, .ref r2, .ref r3, .ref hv, .ref r5, .ref r6, .int 0, .int (nI t), .int (-1), .int 0])), (r1, .inl (a 2, 128, .inl f1))] sz)) 0 0 (va_A [(h0, .inr (0, [.ref r0, .ref r1, .ref r2, .ref r3, .ref hv, .ref r5, .ref r6, .int 0, .int (nI t), .int (-1), .int 0])), (r1, .inl (a 2, 128, .inl f1))] sz) :=
  kM (Qc := fun A => va_Qv (fun u : va_W => u = [(h0, .inr (0, [.ref r0, .ref r1, .ref r2, .ref r3, .ref hv, .ref r5, .ref r6, .int 0, .int (nI (t + 1)), .int (-1), .int 0])), (r1, .inl (a 2, 128, .inl (upd f1 t b0.toInt8.toInt32)))]) (kB D a A) A) (by decide) (Nat.le_of_ble_eq_true rfl) (by
    intro p e s m below meth c A ls H locs E hr hlk hnm w hl
    have hx := E.1.1
    have hb := E.1.2.1
    have E : kE p m c b_RA_put 2 s [.ref h0, .int b0].toArray "RootAlgebra" D a A := E
    have hl : lv_has ls 2 [(0, .ref h0), (1, .int b0)] := hl
    refine lv_aload_n hx hb d_RA_put_0 rfl (lv_at hl 0 rfl) ?_
    refine kx_get E w zC_RA 0 rfl 8 (by decide) mw_203 rfl d_RA_put_1 ?_
    refine lv_sipush (v := 128) hx hb d_RA_put_4 (by decide) ?_
    refine lv_icmp_ge (tgt := 31) hx hb d_RA_put_7 (by decide) (fun h => absurd h (nI_ge (a := t) (b := 128) (by omega) (by omega))) (fun _ => ?_)
    refine lv_aload_n hx hb d_RA_put_10 rfl (lv_at hl 0 rfl) ?_
    refine kx_get E w zC_RA 0 rfl 1 (by decide) mw_162 rfl d_RA_put_11 ?_
    refine lv_aload_n hx hb d_RA_put_14 rfl (lv_at hl 0 rfl) ?_
    refine kx_get E w zC_RA 0 rfl 8 (by decide) mw_203 rfl d_RA_put_15 ?_
    refine lv_iload_n hx hb d_RA_put_18 rfl (lv_at hl 1 rfl) ?_
    refine lv_i2b (v := b0.toInt8.toInt32) hx hb d_RA_put_19 rfl ?_
    refine kx_bast E w 1 rfl (z' := b0.toInt8.toInt32) (vp_in_nI (by omega) (by omega)) t (nI_clamp (by omega)) (pk_vb _) d_RA_put_20 (ws' := [(h0, .inr (0, [.ref r0, .ref r1, .ref r2, .ref r3, .ref hv, .ref r5, .ref r6, .int 0, .int (nI t), .int (-1), .int 0])), (r1, .inl (a 2, 128, .inl (upd f1 t b0.toInt8.toInt32)))]) rfl (fun H locs w => ?_)
    refine lv_aload_n hx hb d_RA_put_21 rfl (lv_at hl 0 rfl) ?_
    refine lv_dup hx hb d_RA_put_22 rfl ?_
    refine kx_get E w zC_RA 0 rfl 8 (by decide) mw_203 rfl d_RA_put_23 ?_
    refine lv_iconst (v := 1) hx hb d_RA_put_26 (by decide) ?_
    refine kx_iadd (v := (nI (t + 1))) hx hb d_RA_put_27 (nI_add t 1) ?_
    refine kx_put E w zC_RA 0 rfl 8 (by decide) mw_203 rfl rfl rfl (Nat.le_of_ble_eq_true rfl) d_RA_put_28 (ws' := [(h0, .inr (0, [.ref r0, .ref r1, .ref r2, .ref r3, .ref hv, .ref r5, .ref r6, .int 0, .int (nI (t + 1)), .int (-1), .int 0])), (r1, .inl (a 2, 128, .inl (upd f1 t b0.toInt8.toInt32)))]) rfl (fun H locs w => ?_)
    refine W.widen (k := 0) (n := 0) (Nat.le_of_ble_eq_true rfl) (Nat.le_of_ble_eq_true rfl) ?_
    exact kx_vret E w hr hlk d_RA_put_31 rfl)
set_option maxRecDepth 100000 in
set_option maxHeartbeats 4000000 in
theorem c_RA_putRest0 (l : Launch) (D : va_G) (a : Nat → ClassId) (h0 : Nat) (r0 : Nat) (r1 : Nat) (r2 : Nat) (r3 : Nat) (hv : Nat) (r5 : Nat) (r6 : Nat) (f1 : Nat → Int32) (f2 : Nat → Int32) (g1 : Nat) (f3 : Nat → Int32) (t : Nat) (hj : t ≤ 100) : ∀ sz : Nat, Met l y_RA_putRest (Cond.code y_RA_putRest b_RA_putRest 5 none :: wA) ({ frames := 2, cells := 0, slots := 0, locals := 46 } : Room) (va_Pc [.ref h0] (kP D a [(h0, .inr (0, [.ref r0, .ref r1, .ref r2, .ref r3, .ref hv, .ref r5, .ref r6, .int 0, .int (nI t), .int (-1), .int 0])), (r1, .inl (a 2, 128, .inl f1)), (r2, .inl (a 2, 128, .inl f2)), (r3, .inr (1, [.ref g1, .int 0, .int 0])), (g1, .inl (a 0, 8, .inl f3))] sz)) (va_Qv (fun u : va_W => u = [(r2, .inl (a 2, 128, .inl (upd f2 0 48))), (r3, .inr (1, [.ref g1, .int 0, .int 0])), (g1, .inl (a 0, 8, .inl f3)), (h0, .inr (0, [.ref r0, .ref r1, .ref r2, .ref r3, .ref hv, .ref r5, .ref r6, .int 0, .int (nI (t + 1)), .int (-1), .int 0])), (r1, .inl (a 2, 128, .inl (upd f1 t 48)))]) (kB D a (va_A [(h0, .inr (0, [.ref r0, .ref r1, .ref r2, .ref r3, .ref hv, .ref r5, .ref r6, .int 0, .int (nI t), .int (-1), .int 0])), (r1, .inl (a 2, 128, .inl f1)), (r2, .inl (a 2, 128, .inl f2)), (r3, .inr (1, [.ref g1, .int 0, .int 0])), (g1, .inl (a 0, 8, .inl f3))] sz)) (va_A [(h0, .inr (0, [.ref r0, .ref r1, .ref r2, .ref r3, .ref hv, .ref r5, .ref r6, .int 0, .int (nI t), .int (-1), .int 0])), (r1, .inl (a 2, 128, .inl f1)), (r2, .inl (a 2, 128, .inl f2)), (r3, .inr (1, [.ref g1, .int 0, .int 0])), (g1, .inl (a 0, 8, .inl f3))] sz)) 0 0 (va_A [(h0, .inr (0, [.ref r0, .ref r1, .ref r2, .ref r3, .ref hv, .ref r5, .ref r6, .int 0, .int (nI t), .int (-1), .int 0])), (r1, .inl (a 2, 128, .inl f1)), (r2, .inl (a 2, 128, .inl f2)), (r3, .inr (1, [.ref g1, .int 0, .int 0])), (g1, .inl (a 0, 8, .inl f3))] sz) :=
  kM (Qc := fun A => va_Qv (fun u : va_W => u = [(r2, .inl (a 2, 128, .inl (upd f2 0 48))), (r3, .inr (1, [.ref g1, .int 0, .int 0])), (g1, .inl (a 0, 8, .inl f3)), (h0, .inr (0, [.ref r0, .ref r1, .ref r2, .ref r3, .ref hv, .ref r5, .ref r6, .int 0, .int (nI (t + 1)), .int (-1), .int 0])), (r1, .inl (a 2, 128, .inl (upd f1 t 48)))]) (kB D a A) A) (by decide) (Nat.le_of_ble_eq_true rfl) (by
    intro p e s m below meth c A ls H locs E hr hlk hnm w hl
    have hx := E.1.1
    have hb := E.1.2.1
    have E : kE p m c b_RA_putRest 5 s [.ref h0].toArray "RootAlgebra" D a A := E
    have hl : lv_has ls 5 [(0, .ref h0)] := hl
    refine lv_aload_n hx hb d_RA_putRest_0 rfl (lv_at hl 0 rfl) ?_
    refine kx_get E w zC_RA 0 rfl 3 (by decide) mw_166 rfl d_RA_putRest_1 ?_
    refine kx_get E w zC_Big 3 rfl 2 (by decide) mw_252 rfl d_RA_putRest_4 ?_
    refine lv_if_ge (tgt := 16) hx hb d_RA_putRest_7 (by decide) (fun _ => ?_) (fun h => absurd (by decide) h)
    refine lv_iconst (v := 0) hx hb d_RA_putRest_16 (by decide) ?_
    refine lv_istore_n (lv' := [(1, .int 0), (0, .ref h0)]) hx hb d_RA_putRest_17 rfl hl (by decide) rfl (fun ls hl => ?_)
    refine lv_iconst (v := 0) hx hb d_RA_putRest_18 (by decide) ?_
    refine lv_istore_n (lv' := [(2, .int 0), (1, .int 0), (0, .ref h0)]) hx hb d_RA_putRest_19 rfl hl (by decide) rfl (fun ls hl => ?_)
    refine lv_iload_n hx hb d_RA_putRest_20 rfl (lv_at hl 0 rfl) ?_
    refine lv_bipush (v := 9) hx hb d_RA_putRest_21 (by decide) ?_
    refine lv_icmp_ge (tgt := 112) hx hb d_RA_putRest_23 (by decide) (fun h => absurd h (by decide)) (fun _ => ?_)
    refine lv_aload_n hx hb d_RA_putRest_26 rfl (lv_at hl 2 rfl) ?_
    refine kx_get E w zC_RA 0 rfl 3 (by decide) mw_166 rfl d_RA_putRest_27 ?_
    refine kx_get E w zC_Big 3 rfl 2 (by decide) mw_252 rfl d_RA_putRest_30 ?_
    refine lv_if_ne (tgt := 40) hx hb d_RA_putRest_33 (by decide) (fun h => absurd (by decide) h) (fun _ => ?_)
    refine lv_iload_n hx hb d_RA_putRest_36 rfl (lv_at hl 0 rfl) ?_
    refine lv_if_ne (tgt := 112) hx hb d_RA_putRest_37 (by decide) (fun h => absurd (by decide) h) (fun _ => ?_)
    refine lv_aload_n hx hb d_RA_putRest_40 rfl (lv_at hl 2 rfl) ?_
    refine kx_get E w zC_RA 0 rfl 3 (by decide) mw_166 rfl d_RA_putRest_41 ?_
    refine lv_ldc (v := 1000000000) hx hb E.1.2.2.2.1 (E.1.2.2.2.2 _ mw_253) d_RA_putRest_44 ?_
    refine kx_i E w (wc := [(r3, .inr (1, [.ref g1, .int 0, .int 0])), (g1, .inl (a 0, 8, .inl f3))]) (wr := [(h0, .inr (0, [.ref r0, .ref r1, .ref r2, .ref r3, .ref hv, .ref r5, .ref r6, .int 0, .int (nI t), .int (-1), .int 0])), (r1, .inl (a 2, 128, .inl f1)), (r2, .inl (a 2, 128, .inl f2))]) [3, 4] [0, 1, 2] rfl rfl ⟨rfl, rfl, by decide⟩ (kx_rV E w hl.1 (As := [.int 1000000000]) (wc := [(r3, .inr (1, [.ref g1, .int 0, .int 0])), (g1, .inl (a 0, 8, .inl f3))]) (c_Big_divide0_8 l D a r3 g1 f3 1000000000 (by decide) H.size) gc_32 gv_Big_divide (kRecv E w 1 3 rfl rfl) [3, 4] rfl rfl rfl rfl rfl ⟨(Nat.le_of_ble_eq_true rfl), (Nat.le_of_ble_eq_true rfl)⟩ rfl (Nat.le_of_ble_eq_true rfl) d_RA_putRest_46 ⟨(Nat.le_of_ble_eq_true rfl), (Nat.le_of_ble_eq_true rfl)⟩) (fun rr u H locs hu w => ?_)
    obtain ⟨rfl, rfl⟩ := hu
    have w : kW D A s [(h0, .inr (0, [.ref r0, .ref r1, .ref r2, .ref r3, .ref hv, .ref r5, .ref r6, .int 0, .int (nI t), .int (-1), .int 0])), (r1, .inl (a 2, 128, .inl f1)), (r2, .inl (a 2, 128, .inl f2)), (r3, .inr (1, [.ref g1, .int 0, .int 0])), (g1, .inl (a 0, 8, .inl f3))] H locs := w
    refine lv_istore_n (lv' := [(3, .int 0), (2, .int 0), (1, .int 0), (0, .ref h0)]) hx hb d_RA_putRest_49 rfl hl (by decide) rfl (fun ls hl => ?_)
    refine lv_iconst (v := 0) hx hb d_RA_putRest_50 (by decide) ?_
    refine lv_istore (lv' := [(4, .int 0), (3, .int 0), (2, .int 0), (1, .int 0), (0, .ref h0)]) hx hb d_RA_putRest_51 hl (by decide) rfl (fun ls hl => ?_)
    refine lv_iload hx hb d_RA_putRest_53 (lv_at hl 0 rfl) ?_
    refine lv_bipush (v := 9) hx hb d_RA_putRest_55 (by decide) ?_
    refine lv_icmp_ge (tgt := 106) hx hb d_RA_putRest_57 (by decide) (fun h => absurd h (by decide)) (fun _ => ?_)
    refine lv_iload_n hx hb d_RA_putRest_60 rfl (lv_at hl 1 rfl) ?_
    refine lv_if_ne (tgt := 78) hx hb d_RA_putRest_61 (by decide) (fun h => absurd (by decide) h) (fun _ => ?_)
    refine lv_aload_n hx hb d_RA_putRest_64 rfl (lv_at hl 4 rfl) ?_
    refine kx_get E w zC_RA 0 rfl 3 (by decide) mw_166 rfl d_RA_putRest_65 ?_
    refine kx_get E w zC_Big 3 rfl 2 (by decide) mw_252 rfl d_RA_putRest_68 ?_
    refine lv_if_ne (tgt := 78) hx hb d_RA_putRest_71 (by decide) (fun h => absurd (by decide) h) (fun _ => ?_)
    refine lv_iload_n hx hb d_RA_putRest_74 rfl (lv_at hl 3 rfl) ?_
    refine lv_if_ne (tgt := 106) hx hb d_RA_putRest_75 (by decide) (fun h => absurd (by decide) h) (fun _ => ?_)
    refine lv_aload_n hx hb d_RA_putRest_78 rfl (lv_at hl 4 rfl) ?_
    refine kx_get E w zC_RA 0 rfl 2 (by decide) mw_163 rfl d_RA_putRest_79 ?_
    refine lv_iload_n hx hb d_RA_putRest_82 rfl (lv_at hl 3 rfl) ?_
    refine lv_bipush (v := 48) hx hb d_RA_putRest_83 (by decide) ?_
    refine lv_iload_n hx hb d_RA_putRest_85 rfl (lv_at hl 1 rfl) ?_
    refine lv_bipush (v := 10) hx hb d_RA_putRest_86 (by decide) ?_
    refine kx_irem (v := 0) hx hb d_RA_putRest_88 (by decide) (by decide) ?_
    refine kx_iadd (v := 48) hx hb d_RA_putRest_89 (by decide) ?_
    refine lv_i2b (v := 48) hx hb d_RA_putRest_90 (by decide) ?_
    refine kx_bast E w 2 rfl (z' := 48) (by unfold vp_in; decide) 0 (by decide) (by decide) d_RA_putRest_91 (ws' := [(h0, .inr (0, [.ref r0, .ref r1, .ref r2, .ref r3, .ref hv, .ref r5, .ref r6, .int 0, .int (nI t), .int (-1), .int 0])), (r1, .inl (a 2, 128, .inl f1)), (r2, .inl (a 2, 128, .inl (upd f2 0 48))), (r3, .inr (1, [.ref g1, .int 0, .int 0])), (g1, .inl (a 0, 8, .inl f3))]) rfl (fun H locs w => ?_)
    refine lv_iload_n hx hb d_RA_putRest_92 rfl (lv_at hl 1 rfl) ?_
    refine lv_bipush (v := 10) hx hb d_RA_putRest_93 (by decide) ?_
    refine kx_idiv (v := 0) hx hb d_RA_putRest_95 (by decide) (by decide) ?_
    refine lv_istore_n (lv' := [(3, .int 0), (4, .int 0), (2, .int 0), (1, .int 0), (0, .ref h0)]) hx hb d_RA_putRest_96 rfl hl (by decide) rfl (fun ls hl => ?_)
    refine lv_iinc (v := 1) (lv' := [(1, .int 1), (3, .int 0), (4, .int 0), (2, .int 0), (0, .ref h0)]) hx hb d_RA_putRest_97 hl (k := 3) rfl (by decide) (by decide) rfl (fun ls hl => ?_)
    refine lv_iinc (v := 1) (lv' := [(4, .int 1), (1, .int 1), (3, .int 0), (2, .int 0), (0, .ref h0)]) hx hb d_RA_putRest_100 hl (k := 2) rfl (by decide) (by decide) rfl (fun ls hl => ?_)
    refine lv_goto (tgt := 53) hx hb d_RA_putRest_103 (by decide) ?_
    refine lv_iload hx hb d_RA_putRest_53 (lv_at hl 0 rfl) ?_
    refine lv_bipush (v := 9) hx hb d_RA_putRest_55 (by decide) ?_
    refine lv_icmp_ge (tgt := 106) hx hb d_RA_putRest_57 (by decide) (fun h => absurd h (by decide)) (fun _ => ?_)
    refine lv_iload_n hx hb d_RA_putRest_60 rfl (lv_at hl 2 rfl) ?_
    refine lv_if_ne (tgt := 78) hx hb d_RA_putRest_61 (by decide) (fun h => absurd (by decide) h) (fun _ => ?_)
    refine lv_aload_n hx hb d_RA_putRest_64 rfl (lv_at hl 4 rfl) ?_
    refine kx_get E w zC_RA 0 rfl 3 (by decide) mw_166 rfl d_RA_putRest_65 ?_
    refine kx_get E w zC_Big 3 rfl 2 (by decide) mw_252 rfl d_RA_putRest_68 ?_
    refine lv_if_ne (tgt := 78) hx hb d_RA_putRest_71 (by decide) (fun h => absurd (by decide) h) (fun _ => ?_)
    refine lv_iload_n hx hb d_RA_putRest_74 rfl (lv_at hl 1 rfl) ?_
    refine lv_if_ne (tgt := 106) hx hb d_RA_putRest_75 (by decide) (fun _ => ?_) (fun h => absurd h (by decide))
    refine lv_iinc (v := 1) (lv' := [(2, .int 1), (4, .int 1), (1, .int 1), (3, .int 0), (0, .ref h0)]) hx hb d_RA_putRest_106 hl (k := 3) rfl (by decide) (by decide) rfl (fun ls hl => ?_)
    refine lv_goto (tgt := 20) hx hb d_RA_putRest_109 (by decide) ?_
    refine lv_iload_n hx hb d_RA_putRest_20 rfl (lv_at hl 0 rfl) ?_
    refine lv_bipush (v := 9) hx hb d_RA_putRest_21 (by decide) ?_
    refine lv_icmp_ge (tgt := 112) hx hb d_RA_putRest_23 (by decide) (fun h => absurd h (by decide)) (fun _ => ?_)
    refine lv_aload_n hx hb d_RA_putRest_26 rfl (lv_at hl 4 rfl) ?_
    refine kx_get E w zC_RA 0 rfl 3 (by decide) mw_166 rfl d_RA_putRest_27 ?_
    refine kx_get E w zC_Big 3 rfl 2 (by decide) mw_252 rfl d_RA_putRest_30 ?_
    refine lv_if_ne (tgt := 40) hx hb d_RA_putRest_33 (by decide) (fun h => absurd (by decide) h) (fun _ => ?_)
    refine lv_iload_n hx hb d_RA_putRest_36 rfl (lv_at hl 0 rfl) ?_
    refine lv_if_ne (tgt := 112) hx hb d_RA_putRest_37 (by decide) (fun _ => ?_) (fun h => absurd h (by decide))
    refine lv_iload_n hx hb d_RA_putRest_112 rfl (lv_at hl 2 rfl) ?_
    refine lv_iconst (v := 1) hx hb d_RA_putRest_113 (by decide) ?_
    refine kx_isub (v := 0) hx hb d_RA_putRest_114 (by decide) ?_
    refine lv_istore_n (lv' := [(2, .int 0), (4, .int 1), (1, .int 1), (3, .int 0), (0, .ref h0)]) hx hb d_RA_putRest_115 rfl hl (by decide) rfl (fun ls hl => ?_)
    refine lv_iload_n hx hb d_RA_putRest_116 rfl (lv_at hl 0 rfl) ?_
    refine lv_if_lt (tgt := 136) hx hb d_RA_putRest_117 (by decide) (fun h => absurd h (by decide)) (fun _ => ?_)
    refine lv_aload_n hx hb d_RA_putRest_120 rfl (lv_at hl 4 rfl) ?_
    refine lv_aload_n hx hb d_RA_putRest_121 rfl (lv_at hl 4 rfl) ?_
    refine kx_get E w zC_RA 0 rfl 2 (by decide) mw_163 rfl d_RA_putRest_122 ?_
    refine lv_iload_n hx hb d_RA_putRest_125 rfl (lv_at hl 0 rfl) ?_
    refine kx_bald E w 2 rfl (by unfold vp_in; decide) (v := 48) rfl d_RA_putRest_126 ?_
    refine kx_v E w (wc := [(h0, .inr (0, [.ref r0, .ref r1, .ref r2, .ref r3, .ref hv, .ref r5, .ref r6, .int 0, .int (nI t), .int (-1), .int 0])), (r1, .inl (a 2, 128, .inl f1))]) (wr := [(r2, .inl (a 2, 128, .inl (upd f2 0 48))), (r3, .inr (1, [.ref g1, .int 0, .int 0])), (g1, .inl (a 0, 8, .inl f3))]) [0, 1] [2, 3, 4] rfl rfl ⟨rfl, rfl, by decide⟩ (kx_rV E w hl.1 (As := [.int 48]) (wc := [(h0, .inr (0, [.ref r0, .ref r1, .ref r2, .ref r3, .ref hv, .ref r5, .ref r6, .int 0, .int (nI t), .int (-1), .int 0])), (r1, .inl (a 2, 128, .inl f1))]) (c_RA_put l D a h0 r0 r1 r2 r3 hv r5 r6 48 f1 t (by omega) H.size) gc_33 gv_RA_put (kRecv E w 0 0 rfl rfl) [0, 1] rfl rfl rfl rfl rfl ⟨(Nat.le_of_ble_eq_true rfl), (Nat.le_of_ble_eq_true rfl)⟩ rfl (Nat.le_of_ble_eq_true rfl) d_RA_putRest_127 ⟨(Nat.le_of_ble_eq_true rfl), (Nat.le_of_ble_eq_true rfl)⟩) (fun u H locs hu w => ?_)
    obtain ⟨rfl⟩ := hu
    have w : kW D A s [(r2, .inl (a 2, 128, .inl (upd f2 0 48))), (r3, .inr (1, [.ref g1, .int 0, .int 0])), (g1, .inl (a 0, 8, .inl f3)), (h0, .inr (0, [.ref r0, .ref r1, .ref r2, .ref r3, .ref hv, .ref r5, .ref r6, .int 0, .int (nI (t + 1)), .int (-1), .int 0])), (r1, .inl (a 2, 128, .inl (upd f1 t 48)))] H locs := w
    refine lv_iinc (v := (-1)) (lv' := [(2, .int (-1)), (4, .int 1), (1, .int 1), (3, .int 0), (0, .ref h0)]) hx hb d_RA_putRest_130 hl (k := 0) rfl (by decide) (by decide) rfl (fun ls hl => ?_)
    refine lv_goto (tgt := 116) hx hb d_RA_putRest_133 (by decide) ?_
    refine lv_iload_n hx hb d_RA_putRest_116 rfl (lv_at hl 0 rfl) ?_
    refine lv_if_lt (tgt := 136) hx hb d_RA_putRest_117 (by decide) (fun _ => ?_) (fun h => absurd (by decide) h)
    refine W.widen (k := 0) (n := 0) (Nat.le_of_ble_eq_true rfl) (Nat.le_of_ble_eq_true rfl) ?_
    exact kx_vret E w hr hlk d_RA_putRest_136 rfl)
