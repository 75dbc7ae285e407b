/-! laid by program (wip/gen) -/
set_option maxRecDepth 100000 in
set_option maxHeartbeats 4000000 in
theorem c_RA_putRest1 (l : Launch) (D : va_G) (a : Nat → ClassId) (h0 : Nat) (r0 : Nat) (r1 : Nat) (r2 : Nat) (r3 : Nat) (hv : Nat) (r5 : Nat) (r6 : Nat) (f1 : Nat → Int32) (f2 : Nat → Int32) (g1 : Nat) (f3 : Nat → Int32) (t : Nat) (hj : t ≤ 100) (hf : f3 0 = 1) : ∀ sz : Nat, Met l y_RA_putRest (Cond.code y_RA_putRest b_RA_putRest 5 none :: wA) ({ frames := 2, cells := 0, slots := 0, locals := 46 } : Room) (va_Pc [.ref h0] (kP D a [(h0, .inr (0, [.ref r0, .ref r1, .ref r2, .ref r3, .ref hv, .ref r5, .ref r6, .int 0, .int (nI t), .int (-1), .int 0])), (r1, .inl (a 2, 128, .inl f1)), (r2, .inl (a 2, 128, .inl f2)), (r3, .inr (1, [.ref g1, .int 1, .int 1])), (g1, .inl (a 0, 8, .inl f3))] sz)) (va_Qv (fun u : va_W => u = [(r2, .inl (a 2, 128, .inl (upd f2 0 49))), (r3, .inr (1, [.ref g1, .int 0, .int 0])), (g1, .inl (a 0, 8, .inl (upd f3 0 0))), (h0, .inr (0, [.ref r0, .ref r1, .ref r2, .ref r3, .ref hv, .ref r5, .ref r6, .int 0, .int (nI (t + 1)), .int (-1), .int 0])), (r1, .inl (a 2, 128, .inl (upd f1 t 49)))]) (kB D a (va_A [(h0, .inr (0, [.ref r0, .ref r1, .ref r2, .ref r3, .ref hv, .ref r5, .ref r6, .int 0, .int (nI t), .int (-1), .int 0])), (r1, .inl (a 2, 128, .inl f1)), (r2, .inl (a 2, 128, .inl f2)), (r3, .inr (1, [.ref g1, .int 1, .int 1])), (g1, .inl (a 0, 8, .inl f3))] sz)) (va_A [(h0, .inr (0, [.ref r0, .ref r1, .ref r2, .ref r3, .ref hv, .ref r5, .ref r6, .int 0, .int (nI t), .int (-1), .int 0])), (r1, .inl (a 2, 128, .inl f1)), (r2, .inl (a 2, 128, .inl f2)), (r3, .inr (1, [.ref g1, .int 1, .int 1])), (g1, .inl (a 0, 8, .inl f3))] sz)) 0 0 (va_A [(h0, .inr (0, [.ref r0, .ref r1, .ref r2, .ref r3, .ref hv, .ref r5, .ref r6, .int 0, .int (nI t), .int (-1), .int 0])), (r1, .inl (a 2, 128, .inl f1)), (r2, .inl (a 2, 128, .inl f2)), (r3, .inr (1, [.ref g1, .int 1, .int 1])), (g1, .inl (a 0, 8, .inl f3))] sz) :=
  kM (Qc := fun A => va_Qv (fun u : va_W => u = [(r2, .inl (a 2, 128, .inl (upd f2 0 49))), (r3, .inr (1, [.ref g1, .int 0, .int 0])), (g1, .inl (a 0, 8, .inl (upd f3 0 0))), (h0, .inr (0, [.ref r0, .ref r1, .ref r2, .ref r3, .ref hv, .ref r5, .ref r6, .int 0, .int (nI (t + 1)), .int (-1), .int 0])), (r1, .inl (a 2, 128, .inl (upd f1 t 49)))]) (kB D a A) A) (by decide) (Nat.le_of_ble_eq_true rfl) (by
    intro p e s m below meth c A ls H locs E hr hlk hnm w hl
    have hx := E.1.1
    have hb := E.1.2.1
    have E : kE p m c b_RA_putRest 5 s [.ref h0].toArray "RootAlgebra" D a A := E
    have hl : lv_has ls 5 [(0, .ref h0)] := hl
    refine lv_aload_n hx hb d_RA_putRest_0 rfl (lv_at hl 0 rfl) ?_
    refine kx_get E w zC_RA 0 rfl 3 (by decide) mw_166 rfl d_RA_putRest_1 ?_
    refine kx_get E w zC_Big 3 rfl 2 (by decide) mw_252 rfl d_RA_putRest_4 ?_
    refine lv_if_ge (tgt := 16) hx hb d_RA_putRest_7 (by decide) (fun _ => ?_) (fun h => absurd (by decide) h)
    refine lv_iconst (v := 0) hx hb d_RA_putRest_16 (by decide) ?_
    refine lv_istore_n (lv' := [(1, .int 0), (0, .ref h0)]) hx hb d_RA_putRest_17 rfl hl (by decide) rfl (fun ls hl => ?_)
    refine lv_iconst (v := 0) hx hb d_RA_putRest_18 (by decide) ?_
    refine lv_istore_n (lv' := [(2, .int 0), (1, .int 0), (0, .ref h0)]) hx hb d_RA_putRest_19 rfl hl (by decide) rfl (fun ls hl => ?_)
    refine lv_iload_n hx hb d_RA_putRest_20 rfl (lv_at hl 0 rfl) ?_
    refine lv_bipush (v := 9) hx hb d_RA_putRest_21 (by decide) ?_
    refine lv_icmp_ge (tgt := 112) hx hb d_RA_putRest_23 (by decide) (fun h => absurd h (by decide)) (fun _ => ?_)
    refine lv_aload_n hx hb d_RA_putRest_26 rfl (lv_at hl 2 rfl) ?_
    refine kx_get E w zC_RA 0 rfl 3 (by decide) mw_166 rfl d_RA_putRest_27 ?_
    refine kx_get E w zC_Big 3 rfl 2 (by decide) mw_252 rfl d_RA_putRest_30 ?_
    refine lv_if_ne (tgt := 40) hx hb d_RA_putRest_33 (by decide) (fun _ => ?_) (fun h => absurd h (by decide))
    refine lv_aload_n hx hb d_RA_putRest_40 rfl (lv_at hl 2 rfl) ?_
    refine kx_get E w zC_RA 0 rfl 3 (by decide) mw_166 rfl d_RA_putRest_41 ?_
    refine lv_ldc (v := 1000000000) hx hb E.1.2.2.2.1 (E.1.2.2.2.2 _ mw_253) d_RA_putRest_44 ?_
    refine kx_i E w (wc := [(r3, .inr (1, [.ref g1, .int 1, .int 1])), (g1, .inl (a 0, 8, .inl f3))]) (wr := [(h0, .inr (0, [.ref r0, .ref r1, .ref r2, .ref r3, .ref hv, .ref r5, .ref r6, .int 0, .int (nI t), .int (-1), .int 0])), (r1, .inl (a 2, 128, .inl f1)), (r2, .inl (a 2, 128, .inl f2))]) [3, 4] [0, 1, 2] rfl rfl ⟨rfl, rfl, by decide⟩ (kx_rV E w hl.1 (As := [.int 1000000000]) (wc := [(r3, .inr (1, [.ref g1, .int 1, .int 1])), (g1, .inl (a 0, 8, .inl f3))]) (c_Big_divide1 l D a r3 g1 f3 hf H.size) gc_32 gv_Big_divide (kRecv E w 1 3 rfl rfl) [3, 4] rfl rfl rfl rfl rfl ⟨(Nat.le_of_ble_eq_true rfl), (Nat.le_of_ble_eq_true rfl)⟩ rfl (Nat.le_of_ble_eq_true rfl) d_RA_putRest_46 ⟨(Nat.le_of_ble_eq_true rfl), (Nat.le_of_ble_eq_true rfl)⟩) (fun rr u H locs hu w => ?_)
    obtain ⟨rfl, rfl⟩ := hu
    have w : kW D A s [(h0, .inr (0, [.ref r0, .ref r1, .ref r2, .ref r3, .ref hv, .ref r5, .ref r6, .int 0, .int (nI t), .int (-1), .int 0])), (r1, .inl (a 2, 128, .inl f1)), (r2, .inl (a 2, 128, .inl f2)), (r3, .inr (1, [.ref g1, .int 0, .int 0])), (g1, .inl (a 0, 8, .inl (upd f3 0 0)))] H locs := w
    refine lv_istore_n (lv' := [(3, .int 1), (2, .int 0), (1, .int 0), (0, .ref h0)]) hx hb d_RA_putRest_49 rfl hl (by decide) rfl (fun ls hl => ?_)
    refine lv_iconst (v := 0) hx hb d_RA_putRest_50 (by decide) ?_
    refine lv_istore (lv' := [(4, .int 0), (3, .int 1), (2, .int 0), (1, .int 0), (0, .ref h0)]) hx hb d_RA_putRest_51 hl (by decide) rfl (fun ls hl => ?_)
    refine lv_iload hx hb d_RA_putRest_53 (lv_at hl 0 rfl) ?_
    refine lv_bipush (v := 9) hx hb d_RA_putRest_55 (by decide) ?_
    refine lv_icmp_ge (tgt := 106) hx hb d_RA_putRest_57 (by decide) (fun h => absurd h (by decide)) (fun _ => ?_)
    refine lv_iload_n hx hb d_RA_putRest_60 rfl (lv_at hl 1 rfl) ?_
    refine lv_if_ne (tgt := 78) hx hb d_RA_putRest_61 (by decide) (fun _ => ?_) (fun h => absurd h (by decide))
    refine lv_aload_n hx hb d_RA_putRest_78 rfl (lv_at hl 4 rfl) ?_
    refine kx_get E w zC_RA 0 rfl 2 (by decide) mw_163 rfl d_RA_putRest_79 ?_
    refine lv_iload_n hx hb d_RA_putRest_82 rfl (lv_at hl 3 rfl) ?_
    refine lv_bipush (v := 48) hx hb d_RA_putRest_83 (by decide) ?_
    refine lv_iload_n hx hb d_RA_putRest_85 rfl (lv_at hl 1 rfl) ?_
    refine lv_bipush (v := 10) hx hb d_RA_putRest_86 (by decide) ?_
    refine kx_irem (v := 1) hx hb d_RA_putRest_88 (by decide) (by decide) ?_
    refine kx_iadd (v := 49) hx hb d_RA_putRest_89 (by decide) ?_
    refine lv_i2b (v := 49) hx hb d_RA_putRest_90 (by decide) ?_
    refine kx_bast E w 2 rfl (z' := 49) (by unfold vp_in; decide) 0 (by decide) (by decide) d_RA_putRest_91 (ws' := [(h0, .inr (0, [.ref r0, .ref r1, .ref r2, .ref r3, .ref hv, .ref r5, .ref r6, .int 0, .int (nI t), .int (-1), .int 0])), (r1, .inl (a 2, 128, .inl f1)), (r2, .inl (a 2, 128, .inl (upd f2 0 49))), (r3, .inr (1, [.ref g1, .int 0, .int 0])), (g1, .inl (a 0, 8, .inl (upd f3 0 0)))]) rfl (fun H locs w => ?_)
    refine lv_iload_n hx hb d_RA_putRest_92 rfl (lv_at hl 1 rfl) ?_
    refine lv_bipush (v := 10) hx hb d_RA_putRest_93 (by decide) ?_
    refine kx_idiv (v := 0) hx hb d_RA_putRest_95 (by decide) (by decide) ?_
    refine lv_istore_n (lv' := [(3, .int 0), (4, .int 0), (2, .int 0), (1, .int 0), (0, .ref h0)]) hx hb d_RA_putRest_96 rfl hl (by decide) rfl (fun ls hl => ?_)
    refine lv_iinc (v := 1) (lv' := [(1, .int 1), (3, .int 0), (4, .int 0), (2, .int 0), (0, .ref h0)]) hx hb d_RA_putRest_97 hl (k := 3) rfl (by decide) (by decide) rfl (fun ls hl => ?_)
    refine lv_iinc (v := 1) (lv' := [(4, .int 1), (1, .int 1), (3, .int 0), (2, .int 0), (0, .ref h0)]) hx hb d_RA_putRest_100 hl (k := 2) rfl (by decide) (by decide) rfl (fun ls hl => ?_)
    refine lv_goto (tgt := 53) hx hb d_RA_putRest_103 (by decide) ?_
    refine lv_iload hx hb d_RA_putRest_53 (lv_at hl 0 rfl) ?_
    refine lv_bipush (v := 9) hx hb d_RA_putRest_55 (by decide) ?_
    refine lv_icmp_ge (tgt := 106) hx hb d_RA_putRest_57 (by decide) (fun h => absurd h (by decide)) (fun _ => ?_)
    refine lv_iload_n hx hb d_RA_putRest_60 rfl (lv_at hl 2 rfl) ?_
    refine lv_if_ne (tgt := 78) hx hb d_RA_putRest_61 (by decide) (fun h => absurd (by decide) h) (fun _ => ?_)
    refine lv_aload_n hx hb d_RA_putRest_64 rfl (lv_at hl 4 rfl) ?_
    refine kx_get E w zC_RA 0 rfl 3 (by decide) mw_166 rfl d_RA_putRest_65 ?_
    refine kx_get E w zC_Big 3 rfl 2 (by decide) mw_252 rfl d_RA_putRest_68 ?_
    refine lv_if_ne (tgt := 78) hx hb d_RA_putRest_71 (by decide) (fun h => absurd (by decide) h) (fun _ => ?_)
    refine lv_iload_n hx hb d_RA_putRest_74 rfl (lv_at hl 1 rfl) ?_
    refine lv_if_ne (tgt := 106) hx hb d_RA_putRest_75 (by decide) (fun _ => ?_) (fun h => absurd h (by decide))
    refine lv_iinc (v := 1) (lv' := [(2, .int 1), (4, .int 1), (1, .int 1), (3, .int 0), (0, .ref h0)]) hx hb d_RA_putRest_106 hl (k := 3) rfl (by decide) (by decide) rfl (fun ls hl => ?_)
    refine lv_goto (tgt := 20) hx hb d_RA_putRest_109 (by decide) ?_
    refine lv_iload_n hx hb d_RA_putRest_20 rfl (lv_at hl 0 rfl) ?_
    refine lv_bipush (v := 9) hx hb d_RA_putRest_21 (by decide) ?_
    refine lv_icmp_ge (tgt := 112) hx hb d_RA_putRest_23 (by decide) (fun h => absurd h (by decide)) (fun _ => ?_)
    refine lv_aload_n hx hb d_RA_putRest_26 rfl (lv_at hl 4 rfl) ?_
    refine kx_get E w zC_RA 0 rfl 3 (by decide) mw_166 rfl d_RA_putRest_27 ?_
    refine kx_get E w zC_Big 3 rfl 2 (by decide) mw_252 rfl d_RA_putRest_30 ?_
    refine lv_if_ne (tgt := 40) hx hb d_RA_putRest_33 (by decide) (fun h => absurd (by decide) h) (fun _ => ?_)
    refine lv_iload_n hx hb d_RA_putRest_36 rfl (lv_at hl 0 rfl) ?_
    refine lv_if_ne (tgt := 112) hx hb d_RA_putRest_37 (by decide) (fun _ => ?_) (fun h => absurd h (by decide))
    refine lv_iload_n hx hb d_RA_putRest_112 rfl (lv_at hl 2 rfl) ?_
    refine lv_iconst (v := 1) hx hb d_RA_putRest_113 (by decide) ?_
    refine kx_isub (v := 0) hx hb d_RA_putRest_114 (by decide) ?_
    refine lv_istore_n (lv' := [(2, .int 0), (4, .int 1), (1, .int 1), (3, .int 0), (0, .ref h0)]) hx hb d_RA_putRest_115 rfl hl (by decide) rfl (fun ls hl => ?_)
    refine lv_iload_n hx hb d_RA_putRest_116 rfl (lv_at hl 0 rfl) ?_
    refine lv_if_lt (tgt := 136) hx hb d_RA_putRest_117 (by decide) (fun h => absurd h (by decide)) (fun _ => ?_)
    refine lv_aload_n hx hb d_RA_putRest_120 rfl (lv_at hl 4 rfl) ?_
    refine lv_aload_n hx hb d_RA_putRest_121 rfl (lv_at hl 4 rfl) ?_
    refine kx_get E w zC_RA 0 rfl 2 (by decide) mw_163 rfl d_RA_putRest_122 ?_
    refine lv_iload_n hx hb d_RA_putRest_125 rfl (lv_at hl 0 rfl) ?_
    refine kx_bald E w 2 rfl (by unfold vp_in; decide) (v := 49) rfl d_RA_putRest_126 ?_
    refine kx_v E w (wc := [(h0, .inr (0, [.ref r0, .ref r1, .ref r2, .ref r3, .ref hv, .ref r5, .ref r6, .int 0, .int (nI t), .int (-1), .int 0])), (r1, .inl (a 2, 128, .inl f1))]) (wr := [(r2, .inl (a 2, 128, .inl (upd f2 0 49))), (r3, .inr (1, [.ref g1, .int 0, .int 0])), (g1, .inl (a 0, 8, .inl (upd f3 0 0)))]) [0, 1] [2, 3, 4] rfl rfl ⟨rfl, rfl, by decide⟩ (kx_rV E w hl.1 (As := [.int 49]) (wc := [(h0, .inr (0, [.ref r0, .ref r1, .ref r2, .ref r3, .ref hv, .ref r5, .ref r6, .int 0, .int (nI t), .int (-1), .int 0])), (r1, .inl (a 2, 128, .inl f1))]) (c_RA_put l D a h0 r0 r1 r2 r3 hv r5 r6 49 f1 t (by omega) H.size) gc_33 gv_RA_put (kRecv E w 0 0 rfl rfl) [0, 1] rfl rfl rfl rfl rfl ⟨(Nat.le_of_ble_eq_true rfl), (Nat.le_of_ble_eq_true rfl)⟩ rfl (Nat.le_of_ble_eq_true rfl) d_RA_putRest_127 ⟨(Nat.le_of_ble_eq_true rfl), (Nat.le_of_ble_eq_true rfl)⟩) (fun u H locs hu w => ?_)
    obtain ⟨rfl⟩ := hu
    have w : kW D A s [(r2, .inl (a 2, 128, .inl (upd f2 0 49))), (r3, .inr (1, [.ref g1, .int 0, .int 0])), (g1, .inl (a 0, 8, .inl (upd f3 0 0))), (h0, .inr (0, [.ref r0, .ref r1, .ref r2, .ref r3, .ref hv, .ref r5, .ref r6, .int 0, .int (nI (t + 1)), .int (-1), .int 0])), (r1, .inl (a 2, 128, .inl (upd f1 t 49)))] H locs := w
    refine lv_iinc (v := (-1)) (lv' := [(2, .int (-1)), (4, .int 1), (1, .int 1), (3, .int 0), (0, .ref h0)]) hx hb d_RA_putRest_130 hl (k := 0) rfl (by decide) (by decide) rfl (fun ls hl => ?_)
    refine lv_goto (tgt := 116) hx hb d_RA_putRest_133 (by decide) ?_
    refine lv_iload_n hx hb d_RA_putRest_116 rfl (lv_at hl 0 rfl) ?_
    refine lv_if_lt (tgt := 136) hx hb d_RA_putRest_117 (by decide) (fun _ => ?_) (fun h => absurd (by decide) h)
    refine W.widen (k := 0) (n := 0) (Nat.le_of_ble_eq_true rfl) (Nat.le_of_ble_eq_true rfl) ?_
    exact kx_vret E w hr hlk d_RA_putRest_136 rfl)
set_option maxRecDepth 100000 in
set_option maxHeartbeats 4000000 in
theorem c_RA_write (l : Launch) (D : va_G) (a : Nat → ClassId) (h0 : Nat) (r0 : Nat) (r1 : Nat) (r2 : Nat) (r3 : Nat) (hv : Nat) (r5 : Nat) (r6 : Nat) (hy : Nat) (p0 : Nat) (p1 : Nat) (f0 : Nat → Option Nat) (f1 : Nat → Int32) (f2 : Nat → Int32) (g1 : Nat) (f3 : Nat → Int32) (hf : f0 16 = some hy) : ∀ sz : Nat, Met l y_RA_write (Cond.code y_RA_write b_RA_write 4 (some .int) :: wA) ({ frames := 3, cells := 0, slots := 0, locals := 70 } : Room) (va_Pc [.ref h0, .int 16] (kP D a [(h0, .inr (0, [.ref r0, .ref r1, .ref r2, .ref r3, .ref hv, .ref r5, .ref r6, .int 0, .int 0, .int (-1), .int 0])), (r1, .inl (a 2, 128, .inl f1)), (r2, .inl (a 2, 128, .inl f2)), (r3, .inr (1, [.ref g1, .int 0, .int 0])), (g1, .inl (a 0, 8, .inl f3)), (hv, .inl (a 5, 17, .inr (.inr (.inr (.inr f0))))), (hy, .inr (11, [.ref p0, .ref p1, .int 1, .int 0, .int 1, .int 0, .int 0])), (p0, .inl (a 0, 7, .inl (upd (upd (fun _ => 0) 0 0) 1 1)))] sz)) (va_Qi (fun (rr : Int32) (u : va_W) => rr = 7 ∧ u = [(hv, .inl (a 5, 17, .inr (.inr (.inr (.inr f0))))), (hy, .inr (11, [.ref p0, .ref p1, .int 1, .int 0, .int 1, .int 0, .int 0])), (p0, .inl (a 0, 7, .inl (upd (upd (fun _ => 0) 0 0) 1 1))), (r2, .inl (a 2, 128, .inl (upd (upd (upd f2 0 48) 0 49) 0 48))), (r3, .inr (1, [.ref g1, .int 0, .int 0])), (g1, .inl (a 0, 8, .inl (upd (upd f3 0 1) 0 0))), (h0, .inr (0, [.ref r0, .ref r1, .ref r2, .ref r3, .ref hv, .ref r5, .ref r6, .int 0, .int 7, .int (-1), .int 0])), (r1, .inl (a 2, 128, .inl (upd (upd (upd (upd (upd (upd (upd f1 0 91) 1 48) 2 44) 3 49) 4 93) 5 35) 6 48)))]) (kB D a (va_A [(h0, .inr (0, [.ref r0, .ref r1, .ref r2, .ref r3, .ref hv, .ref r5, .ref r6, .int 0, .int 0, .int (-1), .int 0])), (r1, .inl (a 2, 128, .inl f1)), (r2, .inl (a 2, 128, .inl f2)), (r3, .inr (1, [.ref g1, .int 0, .int 0])), (g1, .inl (a 0, 8, .inl f3)), (hv, .inl (a 5, 17, .inr (.inr (.inr (.inr f0))))), (hy, .inr (11, [.ref p0, .ref p1, .int 1, .int 0, .int 1, .int 0, .int 0])), (p0, .inl (a 0, 7, .inl (upd (upd (fun _ => 0) 0 0) 1 1)))] sz)) (va_A [(h0, .inr (0, [.ref r0, .ref r1, .ref r2, .ref r3, .ref hv, .ref r5, .ref r6, .int 0, .int 0, .int (-1), .int 0])), (r1, .inl (a 2, 128, .inl f1)), (r2, .inl (a 2, 128, .inl f2)), (r3, .inr (1, [.ref g1, .int 0, .int 0])), (g1, .inl (a 0, 8, .inl f3)), (hv, .inl (a 5, 17, .inr (.inr (.inr (.inr f0))))), (hy, .inr (11, [.ref p0, .ref p1, .int 1, .int 0, .int 1, .int 0, .int 0])), (p0, .inl (a 0, 7, .inl (upd (upd (fun _ => 0) 0 0) 1 1)))] sz)) 0 0 (va_A [(h0, .inr (0, [.ref r0, .ref r1, .ref r2, .ref r3, .ref hv, .ref r5, .ref r6, .int 0, .int 0, .int (-1), .int 0])), (r1, .inl (a 2, 128, .inl f1)), (r2, .inl (a 2, 128, .inl f2)), (r3, .inr (1, [.ref g1, .int 0, .int 0])), (g1, .inl (a 0, 8, .inl f3)), (hv, .inl (a 5, 17, .inr (.inr (.inr (.inr f0))))), (hy, .inr (11, [.ref p0, .ref p1, .int 1, .int 0, .int 1, .int 0, .int 0])), (p0, .inl (a 0, 7, .inl (upd (upd (fun _ => 0) 0 0) 1 1)))] sz) :=
  kM (Qc := fun A => va_Qi (fun (rr : Int32) (u : va_W) => rr = 7 ∧ u = [(hv, .inl (a 5, 17, .inr (.inr (.inr (.inr f0))))), (hy, .inr (11, [.ref p0, .ref p1, .int 1, .int 0, .int 1, .int 0, .int 0])), (p0, .inl (a 0, 7, .inl (upd (upd (fun _ => 0) 0 0) 1 1))), (r2, .inl (a 2, 128, .inl (upd (upd (upd f2 0 48) 0 49) 0 48))), (r3, .inr (1, [.ref g1, .int 0, .int 0])), (g1, .inl (a 0, 8, .inl (upd (upd f3 0 1) 0 0))), (h0, .inr (0, [.ref r0, .ref r1, .ref r2, .ref r3, .ref hv, .ref r5, .ref r6, .int 0, .int 7, .int (-1), .int 0])), (r1, .inl (a 2, 128, .inl (upd (upd (upd (upd (upd (upd (upd f1 0 91) 1 48) 2 44) 3 49) 4 93) 5 35) 6 48)))]) (kB D a A) A) (by decide) (Nat.le_of_ble_eq_true rfl) (by
    intro p e s m below meth c A ls H locs E hr hlk hnm w hl
    have hx := E.1.1
    have hb := E.1.2.1
    have E : kE p m c b_RA_write 4 s [.ref h0, .int 16].toArray "RootAlgebra" D a A := E
    have hl : lv_has ls 4 [(0, .ref h0), (1, .int 16)] := hl
    refine lv_aload_n hx hb d_RA_write_0 rfl (lv_at hl 0 rfl) ?_
    refine lv_iload_n hx hb d_RA_write_1 rfl (lv_at hl 1 rfl) ?_
    refine kx_i E w (wc := []) (wr := [(h0, .inr (0, [.ref r0, .ref r1, .ref r2, .ref r3, .ref hv, .ref r5, .ref r6, .int 0, .int 0, .int (-1), .int 0])), (r1, .inl (a 2, 128, .inl f1)), (r2, .inl (a 2, 128, .inl f2)), (r3, .inr (1, [.ref g1, .int 0, .int 0])), (g1, .inl (a 0, 8, .inl f3)), (hv, .inl (a 5, 17, .inr (.inr (.inr (.inr f0))))), (hy, .inr (11, [.ref p0, .ref p1, .int 1, .int 0, .int 1, .int 0, .int 0])), (p0, .inl (a 0, 7, .inl (upd (upd (fun _ => 0) 0 0) 1 1)))]) [] [0, 1, 2, 3, 4, 5, 6, 7] rfl rfl ⟨rfl, rfl, by decide⟩ (kx_rV E w hl.1 (As := [.int 16]) (wc := []) (c_RA_isName1 l D a h0 16 (by omega) H.size) gc_22 gv_RA_isName (kRecv E w 0 0 rfl rfl) [] rfl rfl rfl rfl rfl ⟨(Nat.le_of_ble_eq_true rfl), (Nat.le_of_ble_eq_true rfl)⟩ rfl (Nat.le_of_ble_eq_true rfl) d_RA_write_2 ⟨(Nat.le_of_ble_eq_true rfl), (Nat.le_of_ble_eq_true rfl)⟩) (fun rr u H locs hu w => ?_)
    obtain ⟨rfl, rfl⟩ := hu
    have w : kW D A s [(h0, .inr (0, [.ref r0, .ref r1, .ref r2, .ref r3, .ref hv, .ref r5, .ref r6, .int 0, .int 0, .int (-1), .int 0])), (r1, .inl (a 2, 128, .inl f1)), (r2, .inl (a 2, 128, .inl f2)), (r3, .inr (1, [.ref g1, .int 0, .int 0])), (g1, .inl (a 0, 8, .inl f3)), (hv, .inl (a 5, 17, .inr (.inr (.inr (.inr f0))))), (hy, .inr (11, [.ref p0, .ref p1, .int 1, .int 0, .int 1, .int 0, .int 0])), (p0, .inl (a 0, 7, .inl (upd (upd (fun _ => 0) 0 0) 1 1)))] H locs := w
    refine lv_if_ne (tgt := 16) hx hb d_RA_write_5 (by decide) (fun _ => ?_) (fun h => absurd h (by decide))
    refine lv_aload_n hx hb d_RA_write_16 rfl (lv_at hl 0 rfl) ?_
    refine kx_get E w zC_RA 0 rfl 4 (by decide) mw_168 rfl d_RA_write_17 ?_
    refine lv_iload_n hx hb d_RA_write_20 rfl (lv_at hl 1 rfl) ?_
    refine kx_aald E w 5 5 rfl rfl (by unfold vp_in; decide) (y := hy) hf d_RA_write_21 ?_
    refine lv_astore_n (lv' := [(2, .ref hy), (0, .ref h0), (1, .int 16)]) hx hb d_RA_write_22 rfl hl (by decide) rfl (fun ls hl => ?_)
    refine lv_aload_n hx hb d_RA_write_23 rfl (lv_at hl 0 rfl) ?_
    refine kx_get E w zC_Value 6 rfl 2 (by decide) mw_194 rfl d_RA_write_24 ?_
    refine lv_if_ne (tgt := 38) hx hb d_RA_write_27 (by decide) (fun _ => ?_) (fun h => absurd h (by decide))
    refine lv_aload_n hx hb d_RA_write_38 rfl (lv_at hl 1 rfl) ?_
    refine lv_iconst (v := 0) hx hb d_RA_write_39 (by decide) ?_
    refine kx_put E w zC_RA 0 rfl 8 (by decide) mw_203 rfl rfl rfl (Nat.le_of_ble_eq_true rfl) d_RA_write_40 (ws' := [(h0, .inr (0, [.ref r0, .ref r1, .ref r2, .ref r3, .ref hv, .ref r5, .ref r6, .int 0, .int 0, .int (-1), .int 0])), (r1, .inl (a 2, 128, .inl f1)), (r2, .inl (a 2, 128, .inl f2)), (r3, .inr (1, [.ref g1, .int 0, .int 0])), (g1, .inl (a 0, 8, .inl f3)), (hv, .inl (a 5, 17, .inr (.inr (.inr (.inr f0))))), (hy, .inr (11, [.ref p0, .ref p1, .int 1, .int 0, .int 1, .int 0, .int 0])), (p0, .inl (a 0, 7, .inl (upd (upd (fun _ => 0) 0 0) 1 1)))]) rfl (fun H locs w => ?_)
    refine lv_iconst (v := 0) hx hb d_RA_write_43 (by decide) ?_
    refine lv_istore_n (lv' := [(3, .int 0), (2, .ref hy), (0, .ref h0), (1, .int 16)]) hx hb d_RA_write_44 rfl hl (by decide) rfl (fun ls hl => ?_)
    refine lv_iload_n hx hb d_RA_write_45 rfl (lv_at hl 0 rfl) ?_
    refine lv_aload_n hx hb d_RA_write_46 rfl (lv_at hl 1 rfl) ?_
    refine kx_get E w zC_Value 6 rfl 2 (by decide) mw_194 rfl d_RA_write_47 ?_
    refine lv_icmp_gt (tgt := 92) hx hb d_RA_write_50 (by decide) (fun h => absurd h (by decide)) (fun _ => ?_)
    refine lv_aload_n hx hb d_RA_write_53 rfl (lv_at hl 2 rfl) ?_
    refine lv_iload_n hx hb d_RA_write_54 rfl (lv_at hl 0 rfl) ?_
    refine lv_if_ne (tgt := 63) hx hb d_RA_write_55 (by decide) (fun h => absurd (by decide) h) (fun _ => ?_)
    refine lv_bipush (v := 91) hx hb d_RA_write_58 (by decide) ?_
    refine lv_goto (tgt := 65) hx hb d_RA_write_60 (by decide) ?_
    refine kx_v E w (wc := [(h0, .inr (0, [.ref r0, .ref r1, .ref r2, .ref r3, .ref hv, .ref r5, .ref r6, .int 0, .int 0, .int (-1), .int 0])), (r1, .inl (a 2, 128, .inl f1))]) (wr := [(r2, .inl (a 2, 128, .inl f2)), (r3, .inr (1, [.ref g1, .int 0, .int 0])), (g1, .inl (a 0, 8, .inl f3)), (hv, .inl (a 5, 17, .inr (.inr (.inr (.inr f0))))), (hy, .inr (11, [.ref p0, .ref p1, .int 1, .int 0, .int 1, .int 0, .int 0])), (p0, .inl (a 0, 7, .inl (upd (upd (fun _ => 0) 0 0) 1 1)))]) [0, 1] [2, 3, 4, 5, 6, 7] rfl rfl ⟨rfl, rfl, by decide⟩ (kx_rV E w hl.1 (As := [.int 91]) (wc := [(h0, .inr (0, [.ref r0, .ref r1, .ref r2, .ref r3, .ref hv, .ref r5, .ref r6, .int 0, .int 0, .int (-1), .int 0])), (r1, .inl (a 2, 128, .inl f1))]) (c_RA_put l D a h0 r0 r1 r2 r3 hv r5 r6 91 f1 0 (by omega) H.size) gc_33 gv_RA_put (kRecv E w 0 0 rfl rfl) [0, 1] rfl rfl rfl rfl rfl ⟨(Nat.le_of_ble_eq_true rfl), (Nat.le_of_ble_eq_true rfl)⟩ rfl (Nat.le_of_ble_eq_true rfl) d_RA_write_65 ⟨(Nat.le_of_ble_eq_true rfl), (Nat.le_of_ble_eq_true rfl)⟩) (fun u H locs hu w => ?_)
    obtain ⟨rfl⟩ := hu
    have w : kW D A s [(r2, .inl (a 2, 128, .inl f2)), (r3, .inr (1, [.ref g1, .int 0, .int 0])), (g1, .inl (a 0, 8, .inl f3)), (hv, .inl (a 5, 17, .inr (.inr (.inr (.inr f0))))), (hy, .inr (11, [.ref p0, .ref p1, .int 1, .int 0, .int 1, .int 0, .int 0])), (p0, .inl (a 0, 7, .inl (upd (upd (fun _ => 0) 0 0) 1 1))), (h0, .inr (0, [.ref r0, .ref r1, .ref r2, .ref r3, .ref hv, .ref r5, .ref r6, .int 0, .int 1, .int (-1), .int 0])), (r1, .inl (a 2, 128, .inl (upd f1 0 91)))] H locs := w
    refine lv_aload_n hx hb d_RA_write_68 rfl (lv_at hl 2 rfl) ?_
    refine kx_get E w zC_RA 6 rfl 3 (by decide) mw_166 rfl d_RA_write_69 ?_
    refine lv_aload_n hx hb d_RA_write_72 rfl (lv_at hl 1 rfl) ?_
    refine kx_get E w zC_Value 4 rfl 0 (by decide) mw_195 rfl d_RA_write_73 ?_
    refine lv_iload_n hx hb d_RA_write_76 rfl (lv_at hl 0 rfl) ?_
    refine kx_iald E w 5 rfl (by unfold vp_in; decide) (v := 0) rfl d_RA_write_77 ?_
    refine lv_i2l (v := 0) hx hb d_RA_write_78 (by decide) ?_
    refine kx_v E w (wc := [(r3, .inr (1, [.ref g1, .int 0, .int 0])), (g1, .inl (a 0, 8, .inl f3))]) (wr := [(r2, .inl (a 2, 128, .inl f2)), (hv, .inl (a 5, 17, .inr (.inr (.inr (.inr f0))))), (hy, .inr (11, [.ref p0, .ref p1, .int 1, .int 0, .int 1, .int 0, .int 0])), (p0, .inl (a 0, 7, .inl (upd (upd (fun _ => 0) 0 0) 1 1))), (h0, .inr (0, [.ref r0, .ref r1, .ref r2, .ref r3, .ref hv, .ref r5, .ref r6, .int 0, .int 1, .int (-1), .int 0])), (r1, .inl (a 2, 128, .inl (upd f1 0 91)))]) [1, 2] [0, 3, 4, 5, 6, 7] rfl rfl ⟨rfl, rfl, by decide⟩ (kx_rV E w hl.1 (As := [.long 0]) (wc := [(r3, .inr (1, [.ref g1, .int 0, .int 0])), (g1, .inl (a 0, 8, .inl f3))]) (c_Big_setLong0_8 l D a r3 g1 0 0 f3 H.size) gc_34 gv_Big_setLong (kRecv E w 1 1 rfl rfl) [1, 2] rfl rfl rfl rfl rfl ⟨(Nat.le_of_ble_eq_true rfl), (Nat.le_of_ble_eq_true rfl)⟩ rfl (Nat.le_of_ble_eq_true rfl) d_RA_write_79 ⟨(Nat.le_of_ble_eq_true rfl), (Nat.le_of_ble_eq_true rfl)⟩) (fun u H locs hu w => ?_)
    obtain ⟨rfl⟩ := hu
    have w : kW D A s [(r2, .inl (a 2, 128, .inl f2)), (hv, .inl (a 5, 17, .inr (.inr (.inr (.inr f0))))), (hy, .inr (11, [.ref p0, .ref p1, .int 1, .int 0, .int 1, .int 0, .int 0])), (p0, .inl (a 0, 7, .inl (upd (upd (fun _ => 0) 0 0) 1 1))), (h0, .inr (0, [.ref r0, .ref r1, .ref r2, .ref r3, .ref hv, .ref r5, .ref r6, .int 0, .int 1, .int (-1), .int 0])), (r1, .inl (a 2, 128, .inl (upd f1 0 91))), (r3, .inr (1, [.ref g1, .int 0, .int 0])), (g1, .inl (a 0, 8, .inl f3))] H locs := w
    refine lv_aload_n hx hb d_RA_write_82 rfl (lv_at hl 2 rfl) ?_
    refine kx_v E w (wc := [(h0, .inr (0, [.ref r0, .ref r1, .ref r2, .ref r3, .ref hv, .ref r5, .ref r6, .int 0, .int 1, .int (-1), .int 0])), (r1, .inl (a 2, 128, .inl (upd f1 0 91))), (r2, .inl (a 2, 128, .inl f2)), (r3, .inr (1, [.ref g1, .int 0, .int 0])), (g1, .inl (a 0, 8, .inl f3))]) (wr := [(hv, .inl (a 5, 17, .inr (.inr (.inr (.inr f0))))), (hy, .inr (11, [.ref p0, .ref p1, .int 1, .int 0, .int 1, .int 0, .int 0])), (p0, .inl (a 0, 7, .inl (upd (upd (fun _ => 0) 0 0) 1 1)))]) [4, 5, 0, 6, 7] [1, 2, 3] rfl rfl ⟨rfl, rfl, by decide⟩ (kx_rV E w hl.1 (As := []) (wc := [(h0, .inr (0, [.ref r0, .ref r1, .ref r2, .ref r3, .ref hv, .ref r5, .ref r6, .int 0, .int 1, .int (-1), .int 0])), (r1, .inl (a 2, 128, .inl (upd f1 0 91))), (r2, .inl (a 2, 128, .inl f2)), (r3, .inr (1, [.ref g1, .int 0, .int 0])), (g1, .inl (a 0, 8, .inl f3))]) (c_RA_putRest0 l D a h0 r0 r1 r2 r3 hv r5 r6 (upd f1 0 91) f2 g1 f3 1 (by omega) H.size) gc_35 gv_RA_putRest (kRecv E w 0 4 rfl rfl) [4, 5, 0, 6, 7] rfl rfl rfl rfl rfl ⟨(Nat.le_of_ble_eq_true rfl), (Nat.le_of_ble_eq_true rfl)⟩ rfl (Nat.le_of_ble_eq_true rfl) d_RA_write_83 ⟨(Nat.le_of_ble_eq_true rfl), (Nat.le_of_ble_eq_true rfl)⟩) (fun u H locs hu w => ?_)
    obtain ⟨rfl⟩ := hu
    have w : kW D A s [(hv, .inl (a 5, 17, .inr (.inr (.inr (.inr f0))))), (hy, .inr (11, [.ref p0, .ref p1, .int 1, .int 0, .int 1, .int 0, .int 0])), (p0, .inl (a 0, 7, .inl (upd (upd (fun _ => 0) 0 0) 1 1))), (r2, .inl (a 2, 128, .inl (upd f2 0 48))), (r3, .inr (1, [.ref g1, .int 0, .int 0])), (g1, .inl (a 0, 8, .inl f3)), (h0, .inr (0, [.ref r0, .ref r1, .ref r2, .ref r3, .ref hv, .ref r5, .ref r6, .int 0, .int 2, .int (-1), .int 0])), (r1, .inl (a 2, 128, .inl (upd (upd f1 0 91) 1 48)))] H locs := w
    refine lv_iinc (v := 1) (lv' := [(3, .int 1), (2, .ref hy), (0, .ref h0), (1, .int 16)]) hx hb d_RA_write_86 hl (k := 0) rfl (by decide) (by decide) rfl (fun ls hl => ?_)
    refine lv_goto (tgt := 45) hx hb d_RA_write_89 (by decide) ?_
    refine lv_iload_n hx hb d_RA_write_45 rfl (lv_at hl 0 rfl) ?_
    refine lv_aload_n hx hb d_RA_write_46 rfl (lv_at hl 1 rfl) ?_
    refine kx_get E w zC_Value 1 rfl 2 (by decide) mw_194 rfl d_RA_write_47 ?_
    refine lv_icmp_gt (tgt := 92) hx hb d_RA_write_50 (by decide) (fun h => absurd h (by decide)) (fun _ => ?_)
    refine lv_aload_n hx hb d_RA_write_53 rfl (lv_at hl 2 rfl) ?_
    refine lv_iload_n hx hb d_RA_write_54 rfl (lv_at hl 0 rfl) ?_
    refine lv_if_ne (tgt := 63) hx hb d_RA_write_55 (by decide) (fun _ => ?_) (fun h => absurd h (by decide))
    refine lv_bipush (v := 44) hx hb d_RA_write_63 (by decide) ?_
    refine kx_v E w (wc := [(h0, .inr (0, [.ref r0, .ref r1, .ref r2, .ref r3, .ref hv, .ref r5, .ref r6, .int 0, .int 2, .int (-1), .int 0])), (r1, .inl (a 2, 128, .inl (upd (upd f1 0 91) 1 48)))]) (wr := [(hv, .inl (a 5, 17, .inr (.inr (.inr (.inr f0))))), (hy, .inr (11, [.ref p0, .ref p1, .int 1, .int 0, .int 1, .int 0, .int 0])), (p0, .inl (a 0, 7, .inl (upd (upd (fun _ => 0) 0 0) 1 1))), (r2, .inl (a 2, 128, .inl (upd f2 0 48))), (r3, .inr (1, [.ref g1, .int 0, .int 0])), (g1, .inl (a 0, 8, .inl f3))]) [6, 7] [0, 1, 2, 3, 4, 5] rfl rfl ⟨rfl, rfl, by decide⟩ (kx_rV E w hl.1 (As := [.int 44]) (wc := [(h0, .inr (0, [.ref r0, .ref r1, .ref r2, .ref r3, .ref hv, .ref r5, .ref r6, .int 0, .int 2, .int (-1), .int 0])), (r1, .inl (a 2, 128, .inl (upd (upd f1 0 91) 1 48)))]) (c_RA_put l D a h0 r0 r1 r2 r3 hv r5 r6 44 (upd (upd f1 0 91) 1 48) 2 (by omega) H.size) gc_33 gv_RA_put (kRecv E w 0 6 rfl rfl) [6, 7] rfl rfl rfl rfl rfl ⟨(Nat.le_of_ble_eq_true rfl), (Nat.le_of_ble_eq_true rfl)⟩ rfl (Nat.le_of_ble_eq_true rfl) d_RA_write_65 ⟨(Nat.le_of_ble_eq_true rfl), (Nat.le_of_ble_eq_true rfl)⟩) (fun u H locs hu w => ?_)
    obtain ⟨rfl⟩ := hu
    have w : kW D A s [(hv, .inl (a 5, 17, .inr (.inr (.inr (.inr f0))))), (hy, .inr (11, [.ref p0, .ref p1, .int 1, .int 0, .int 1, .int 0, .int 0])), (p0, .inl (a 0, 7, .inl (upd (upd (fun _ => 0) 0 0) 1 1))), (r2, .inl (a 2, 128, .inl (upd f2 0 48))), (r3, .inr (1, [.ref g1, .int 0, .int 0])), (g1, .inl (a 0, 8, .inl f3)), (h0, .inr (0, [.ref r0, .ref r1, .ref r2, .ref r3, .ref hv, .ref r5, .ref r6, .int 0, .int 3, .int (-1), .int 0])), (r1, .inl (a 2, 128, .inl (upd (upd (upd f1 0 91) 1 48) 2 44)))] H locs := w
    refine lv_aload_n hx hb d_RA_write_68 rfl (lv_at hl 2 rfl) ?_
    refine kx_get E w zC_RA 6 rfl 3 (by decide) mw_166 rfl d_RA_write_69 ?_
    refine lv_aload_n hx hb d_RA_write_72 rfl (lv_at hl 1 rfl) ?_
    refine kx_get E w zC_Value 1 rfl 0 (by decide) mw_195 rfl d_RA_write_73 ?_
    refine lv_iload_n hx hb d_RA_write_76 rfl (lv_at hl 0 rfl) ?_
    refine kx_iald E w 2 rfl (by unfold vp_in; decide) (v := 1) rfl d_RA_write_77 ?_
    refine lv_i2l (v := 1) hx hb d_RA_write_78 (by decide) ?_
    refine kx_v E w (wc := [(r3, .inr (1, [.ref g1, .int 0, .int 0])), (g1, .inl (a 0, 8, .inl f3))]) (wr := [(hv, .inl (a 5, 17, .inr (.inr (.inr (.inr f0))))), (hy, .inr (11, [.ref p0, .ref p1, .int 1, .int 0, .int 1, .int 0, .int 0])), (p0, .inl (a 0, 7, .inl (upd (upd (fun _ => 0) 0 0) 1 1))), (r2, .inl (a 2, 128, .inl (upd f2 0 48))), (h0, .inr (0, [.ref r0, .ref r1, .ref r2, .ref r3, .ref hv, .ref r5, .ref r6, .int 0, .int 3, .int (-1), .int 0])), (r1, .inl (a 2, 128, .inl (upd (upd (upd f1 0 91) 1 48) 2 44)))]) [4, 5] [0, 1, 2, 3, 6, 7] rfl rfl ⟨rfl, rfl, by decide⟩ (kx_rV E w hl.1 (As := [.long 1]) (wc := [(r3, .inr (1, [.ref g1, .int 0, .int 0])), (g1, .inl (a 0, 8, .inl f3))]) (c_Big_setLong1 l D a r3 g1 0 0 f3 H.size) gc_34 gv_Big_setLong (kRecv E w 1 4 rfl rfl) [4, 5] rfl rfl rfl rfl rfl ⟨(Nat.le_of_ble_eq_true rfl), (Nat.le_of_ble_eq_true rfl)⟩ rfl (Nat.le_of_ble_eq_true rfl) d_RA_write_79 ⟨(Nat.le_of_ble_eq_true rfl), (Nat.le_of_ble_eq_true rfl)⟩) (fun u H locs hu w => ?_)
    obtain ⟨rfl⟩ := hu
    have w : kW D A s [(hv, .inl (a 5, 17, .inr (.inr (.inr (.inr f0))))), (hy, .inr (11, [.ref p0, .ref p1, .int 1, .int 0, .int 1, .int 0, .int 0])), (p0, .inl (a 0, 7, .inl (upd (upd (fun _ => 0) 0 0) 1 1))), (r2, .inl (a 2, 128, .inl (upd f2 0 48))), (h0, .inr (0, [.ref r0, .ref r1, .ref r2, .ref r3, .ref hv, .ref r5, .ref r6, .int 0, .int 3, .int (-1), .int 0])), (r1, .inl (a 2, 128, .inl (upd (upd (upd f1 0 91) 1 48) 2 44))), (r3, .inr (1, [.ref g1, .int 1, .int 1])), (g1, .inl (a 0, 8, .inl (upd f3 0 1)))] H locs := w
    refine lv_aload_n hx hb d_RA_write_82 rfl (lv_at hl 2 rfl) ?_
    refine kx_v E w (wc := [(h0, .inr (0, [.ref r0, .ref r1, .ref r2, .ref r3, .ref hv, .ref r5, .ref r6, .int 0, .int 3, .int (-1), .int 0])), (r1, .inl (a 2, 128, .inl (upd (upd (upd f1 0 91) 1 48) 2 44))), (r2, .inl (a 2, 128, .inl (upd f2 0 48))), (r3, .inr (1, [.ref g1, .int 1, .int 1])), (g1, .inl (a 0, 8, .inl (upd f3 0 1)))]) (wr := [(hv, .inl (a 5, 17, .inr (.inr (.inr (.inr f0))))), (hy, .inr (11, [.ref p0, .ref p1, .int 1, .int 0, .int 1, .int 0, .int 0])), (p0, .inl (a 0, 7, .inl (upd (upd (fun _ => 0) 0 0) 1 1)))]) [4, 5, 3, 6, 7] [0, 1, 2] rfl rfl ⟨rfl, rfl, by decide⟩ (kx_rV E w hl.1 (As := []) (wc := [(h0, .inr (0, [.ref r0, .ref r1, .ref r2, .ref r3, .ref hv, .ref r5, .ref r6, .int 0, .int 3, .int (-1), .int 0])), (r1, .inl (a 2, 128, .inl (upd (upd (upd f1 0 91) 1 48) 2 44))), (r2, .inl (a 2, 128, .inl (upd f2 0 48))), (r3, .inr (1, [.ref g1, .int 1, .int 1])), (g1, .inl (a 0, 8, .inl (upd f3 0 1)))]) (c_RA_putRest1 l D a h0 r0 r1 r2 r3 hv r5 r6 (upd (upd (upd f1 0 91) 1 48) 2 44) (upd f2 0 48) g1 (upd f3 0 1) 3 (by omega) rfl H.size) gc_35 gv_RA_putRest (kRecv E w 0 4 rfl rfl) [4, 5, 3, 6, 7] rfl rfl rfl rfl rfl ⟨(Nat.le_of_ble_eq_true rfl), (Nat.le_of_ble_eq_true rfl)⟩ rfl (Nat.le_of_ble_eq_true rfl) d_RA_write_83 ⟨(Nat.le_of_ble_eq_true rfl), (Nat.le_of_ble_eq_true rfl)⟩) (fun u H locs hu w => ?_)
    obtain ⟨rfl⟩ := hu
    have w : kW D A s [(hv, .inl (a 5, 17, .inr (.inr (.inr (.inr f0))))), (hy, .inr (11, [.ref p0, .ref p1, .int 1, .int 0, .int 1, .int 0, .int 0])), (p0, .inl (a 0, 7, .inl (upd (upd (fun _ => 0) 0 0) 1 1))), (r2, .inl (a 2, 128, .inl (upd (upd f2 0 48) 0 49))), (r3, .inr (1, [.ref g1, .int 0, .int 0])), (g1, .inl (a 0, 8, .inl (upd (upd f3 0 1) 0 0))), (h0, .inr (0, [.ref r0, .ref r1, .ref r2, .ref r3, .ref hv, .ref r5, .ref r6, .int 0, .int 4, .int (-1), .int 0])), (r1, .inl (a 2, 128, .inl (upd (upd (upd (upd f1 0 91) 1 48) 2 44) 3 49)))] H locs := w
    refine lv_iinc (v := 2) (lv' := [(3, .int 2), (2, .ref hy), (0, .ref h0), (1, .int 16)]) hx hb d_RA_write_86 hl (k := 0) rfl (by decide) (by decide) rfl (fun ls hl => ?_)
    refine lv_goto (tgt := 45) hx hb d_RA_write_89 (by decide) ?_
    refine lv_iload_n hx hb d_RA_write_45 rfl (lv_at hl 0 rfl) ?_
    refine lv_aload_n hx hb d_RA_write_46 rfl (lv_at hl 1 rfl) ?_
    refine kx_get E w zC_Value 1 rfl 2 (by decide) mw_194 rfl d_RA_write_47 ?_
    refine lv_icmp_gt (tgt := 92) hx hb d_RA_write_50 (by decide) (fun _ => ?_) (fun h => absurd (by decide) h)
    refine lv_aload_n hx hb d_RA_write_92 rfl (lv_at hl 2 rfl) ?_
    refine lv_bipush (v := 93) hx hb d_RA_write_93 (by decide) ?_
    refine kx_v E w (wc := [(h0, .inr (0, [.ref r0, .ref r1, .ref r2, .ref r3, .ref hv, .ref r5, .ref r6, .int 0, .int 4, .int (-1), .int 0])), (r1, .inl (a 2, 128, .inl (upd (upd (upd (upd f1 0 91) 1 48) 2 44) 3 49)))]) (wr := [(hv, .inl (a 5, 17, .inr (.inr (.inr (.inr f0))))), (hy, .inr (11, [.ref p0, .ref p1, .int 1, .int 0, .int 1, .int 0, .int 0])), (p0, .inl (a 0, 7, .inl (upd (upd (fun _ => 0) 0 0) 1 1))), (r2, .inl (a 2, 128, .inl (upd (upd f2 0 48) 0 49))), (r3, .inr (1, [.ref g1, .int 0, .int 0])), (g1, .inl (a 0, 8, .inl (upd (upd f3 0 1) 0 0)))]) [6, 7] [0, 1, 2, 3, 4, 5] rfl rfl ⟨rfl, rfl, by decide⟩ (kx_rV E w hl.1 (As := [.int 93]) (wc := [(h0, .inr (0, [.ref r0, .ref r1, .ref r2, .ref r3, .ref hv, .ref r5, .ref r6, .int 0, .int 4, .int (-1), .int 0])), (r1, .inl (a 2, 128, .inl (upd (upd (upd (upd f1 0 91) 1 48) 2 44) 3 49)))]) (c_RA_put l D a h0 r0 r1 r2 r3 hv r5 r6 93 (upd (upd (upd (upd f1 0 91) 1 48) 2 44) 3 49) 4 (by omega) H.size) gc_33 gv_RA_put (kRecv E w 0 6 rfl rfl) [6, 7] rfl rfl rfl rfl rfl ⟨(Nat.le_of_ble_eq_true rfl), (Nat.le_of_ble_eq_true rfl)⟩ rfl (Nat.le_of_ble_eq_true rfl) d_RA_write_95 ⟨(Nat.le_of_ble_eq_true rfl), (Nat.le_of_ble_eq_true rfl)⟩) (fun u H locs hu w => ?_)
    obtain ⟨rfl⟩ := hu
    have w : kW D A s [(hv, .inl (a 5, 17, .inr (.inr (.inr (.inr f0))))), (hy, .inr (11, [.ref p0, .ref p1, .int 1, .int 0, .int 1, .int 0, .int 0])), (p0, .inl (a 0, 7, .inl (upd (upd (fun _ => 0) 0 0) 1 1))), (r2, .inl (a 2, 128, .inl (upd (upd f2 0 48) 0 49))), (r3, .inr (1, [.ref g1, .int 0, .int 0])), (g1, .inl (a 0, 8, .inl (upd (upd f3 0 1) 0 0))), (h0, .inr (0, [.ref r0, .ref r1, .ref r2, .ref r3, .ref hv, .ref r5, .ref r6, .int 0, .int 5, .int (-1), .int 0])), (r1, .inl (a 2, 128, .inl (upd (upd (upd (upd (upd f1 0 91) 1 48) 2 44) 3 49) 4 93)))] H locs := w
    refine lv_aload_n hx hb d_RA_write_98 rfl (lv_at hl 2 rfl) ?_
    refine lv_bipush (v := 35) hx hb d_RA_write_99 (by decide) ?_
    refine kx_v E w (wc := [(h0, .inr (0, [.ref r0, .ref r1, .ref r2, .ref r3, .ref hv, .ref r5, .ref r6, .int 0, .int 5, .int (-1), .int 0])), (r1, .inl (a 2, 128, .inl (upd (upd (upd (upd (upd f1 0 91) 1 48) 2 44) 3 49) 4 93)))]) (wr := [(hv, .inl (a 5, 17, .inr (.inr (.inr (.inr f0))))), (hy, .inr (11, [.ref p0, .ref p1, .int 1, .int 0, .int 1, .int 0, .int 0])), (p0, .inl (a 0, 7, .inl (upd (upd (fun _ => 0) 0 0) 1 1))), (r2, .inl (a 2, 128, .inl (upd (upd f2 0 48) 0 49))), (r3, .inr (1, [.ref g1, .int 0, .int 0])), (g1, .inl (a 0, 8, .inl (upd (upd f3 0 1) 0 0)))]) [6, 7] [0, 1, 2, 3, 4, 5] rfl rfl ⟨rfl, rfl, by decide⟩ (kx_rV E w hl.1 (As := [.int 35]) (wc := [(h0, .inr (0, [.ref r0, .ref r1, .ref r2, .ref r3, .ref hv, .ref r5, .ref r6, .int 0, .int 5, .int (-1), .int 0])), (r1, .inl (a 2, 128, .inl (upd (upd (upd (upd (upd f1 0 91) 1 48) 2 44) 3 49) 4 93)))]) (c_RA_put l D a h0 r0 r1 r2 r3 hv r5 r6 35 (upd (upd (upd (upd (upd f1 0 91) 1 48) 2 44) 3 49) 4 93) 5 (by omega) H.size) gc_33 gv_RA_put (kRecv E w 0 6 rfl rfl) [6, 7] rfl rfl rfl rfl rfl ⟨(Nat.le_of_ble_eq_true rfl), (Nat.le_of_ble_eq_true rfl)⟩ rfl (Nat.le_of_ble_eq_true rfl) d_RA_write_101 ⟨(Nat.le_of_ble_eq_true rfl), (Nat.le_of_ble_eq_true rfl)⟩) (fun u H locs hu w => ?_)
    obtain ⟨rfl⟩ := hu
    have w : kW D A s [(hv, .inl (a 5, 17, .inr (.inr (.inr (.inr f0))))), (hy, .inr (11, [.ref p0, .ref p1, .int 1, .int 0, .int 1, .int 0, .int 0])), (p0, .inl (a 0, 7, .inl (upd (upd (fun _ => 0) 0 0) 1 1))), (r2, .inl (a 2, 128, .inl (upd (upd f2 0 48) 0 49))), (r3, .inr (1, [.ref g1, .int 0, .int 0])), (g1, .inl (a 0, 8, .inl (upd (upd f3 0 1) 0 0))), (h0, .inr (0, [.ref r0, .ref r1, .ref r2, .ref r3, .ref hv, .ref r5, .ref r6, .int 0, .int 6, .int (-1), .int 0])), (r1, .inl (a 2, 128, .inl (upd (upd (upd (upd (upd (upd f1 0 91) 1 48) 2 44) 3 49) 4 93) 5 35)))] H locs := w
    refine lv_aload_n hx hb d_RA_write_104 rfl (lv_at hl 2 rfl) ?_
    refine kx_get E w zC_RA 6 rfl 3 (by decide) mw_166 rfl d_RA_write_105 ?_
    refine lv_aload_n hx hb d_RA_write_108 rfl (lv_at hl 1 rfl) ?_
    refine kx_get E w zC_Value 1 rfl 3 (by decide) mw_196 rfl d_RA_write_109 ?_
    refine lv_i2l (v := 0) hx hb d_RA_write_112 (by decide) ?_
    refine kx_v E w (wc := [(r3, .inr (1, [.ref g1, .int 0, .int 0])), (g1, .inl (a 0, 8, .inl (upd (upd f3 0 1) 0 0)))]) (wr := [(hv, .inl (a 5, 17, .inr (.inr (.inr (.inr f0))))), (hy, .inr (11, [.ref p0, .ref p1, .int 1, .int 0, .int 1, .int 0, .int 0])), (p0, .inl (a 0, 7, .inl (upd (upd (fun _ => 0) 0 0) 1 1))), (r2, .inl (a 2, 128, .inl (upd (upd f2 0 48) 0 49))), (h0, .inr (0, [.ref r0, .ref r1, .ref r2, .ref r3, .ref hv, .ref r5, .ref r6, .int 0, .int 6, .int (-1), .int 0])), (r1, .inl (a 2, 128, .inl (upd (upd (upd (upd (upd (upd f1 0 91) 1 48) 2 44) 3 49) 4 93) 5 35)))]) [4, 5] [0, 1, 2, 3, 6, 7] rfl rfl ⟨rfl, rfl, by decide⟩ (kx_rV E w hl.1 (As := [.long 0]) (wc := [(r3, .inr (1, [.ref g1, .int 0, .int 0])), (g1, .inl (a 0, 8, .inl (upd (upd f3 0 1) 0 0)))]) (c_Big_setLong0_8 l D a r3 g1 0 0 (upd (upd f3 0 1) 0 0) H.size) gc_34 gv_Big_setLong (kRecv E w 1 4 rfl rfl) [4, 5] rfl rfl rfl rfl rfl ⟨(Nat.le_of_ble_eq_true rfl), (Nat.le_of_ble_eq_true rfl)⟩ rfl (Nat.le_of_ble_eq_true rfl) d_RA_write_113 ⟨(Nat.le_of_ble_eq_true rfl), (Nat.le_of_ble_eq_true rfl)⟩) (fun u H locs hu w => ?_)
    obtain ⟨rfl⟩ := hu
    have w : kW D A s [(hv, .inl (a 5, 17, .inr (.inr (.inr (.inr f0))))), (hy, .inr (11, [.ref p0, .ref p1, .int 1, .int 0, .int 1, .int 0, .int 0])), (p0, .inl (a 0, 7, .inl (upd (upd (fun _ => 0) 0 0) 1 1))), (r2, .inl (a 2, 128, .inl (upd (upd f2 0 48) 0 49))), (h0, .inr (0, [.ref r0, .ref r1, .ref r2, .ref r3, .ref hv, .ref r5, .ref r6, .int 0, .int 6, .int (-1), .int 0])), (r1, .inl (a 2, 128, .inl (upd (upd (upd (upd (upd (upd f1 0 91) 1 48) 2 44) 3 49) 4 93) 5 35))), (r3, .inr (1, [.ref g1, .int 0, .int 0])), (g1, .inl (a 0, 8, .inl (upd (upd f3 0 1) 0 0)))] H locs := w
    refine lv_aload_n hx hb d_RA_write_116 rfl (lv_at hl 2 rfl) ?_
    refine kx_v E w (wc := [(h0, .inr (0, [.ref r0, .ref r1, .ref r2, .ref r3, .ref hv, .ref r5, .ref r6, .int 0, .int 6, .int (-1), .int 0])), (r1, .inl (a 2, 128, .inl (upd (upd (upd (upd (upd (upd f1 0 91) 1 48) 2 44) 3 49) 4 93) 5 35))), (r2, .inl (a 2, 128, .inl (upd (upd f2 0 48) 0 49))), (r3, .inr (1, [.ref g1, .int 0, .int 0])), (g1, .inl (a 0, 8, .inl (upd (upd f3 0 1) 0 0)))]) (wr := [(hv, .inl (a 5, 17, .inr (.inr (.inr (.inr f0))))), (hy, .inr (11, [.ref p0, .ref p1, .int 1, .int 0, .int 1, .int 0, .int 0])), (p0, .inl (a 0, 7, .inl (upd (upd (fun _ => 0) 0 0) 1 1)))]) [4, 5, 3, 6, 7] [0, 1, 2] rfl rfl ⟨rfl, rfl, by decide⟩ (kx_rV E w hl.1 (As := []) (wc := [(h0, .inr (0, [.ref r0, .ref r1, .ref r2, .ref r3, .ref hv, .ref r5, .ref r6, .int 0, .int 6, .int (-1), .int 0])), (r1, .inl (a 2, 128, .inl (upd (upd (upd (upd (upd (upd f1 0 91) 1 48) 2 44) 3 49) 4 93) 5 35))), (r2, .inl (a 2, 128, .inl (upd (upd f2 0 48) 0 49))), (r3, .inr (1, [.ref g1, .int 0, .int 0])), (g1, .inl (a 0, 8, .inl (upd (upd f3 0 1) 0 0)))]) (c_RA_putRest0 l D a h0 r0 r1 r2 r3 hv r5 r6 (upd (upd (upd (upd (upd (upd f1 0 91) 1 48) 2 44) 3 49) 4 93) 5 35) (upd (upd f2 0 48) 0 49) g1 (upd (upd f3 0 1) 0 0) 6 (by omega) H.size) gc_35 gv_RA_putRest (kRecv E w 0 4 rfl rfl) [4, 5, 3, 6, 7] rfl rfl rfl rfl rfl ⟨(Nat.le_of_ble_eq_true rfl), (Nat.le_of_ble_eq_true rfl)⟩ rfl (Nat.le_of_ble_eq_true rfl) d_RA_write_117 ⟨(Nat.le_of_ble_eq_true rfl), (Nat.le_of_ble_eq_true rfl)⟩) (fun u H locs hu w => ?_)
    obtain ⟨rfl⟩ := hu
    have w : kW D A s [(hv, .inl (a 5, 17, .inr (.inr (.inr (.inr f0))))), (hy, .inr (11, [.ref p0, .ref p1, .int 1, .int 0, .int 1, .int 0, .int 0])), (p0, .inl (a 0, 7, .inl (upd (upd (fun _ => 0) 0 0) 1 1))), (r2, .inl (a 2, 128, .inl (upd (upd (upd f2 0 48) 0 49) 0 48))), (r3, .inr (1, [.ref g1, .int 0, .int 0])), (g1, .inl (a 0, 8, .inl (upd (upd f3 0 1) 0 0))), (h0, .inr (0, [.ref r0, .ref r1, .ref r2, .ref r3, .ref hv, .ref r5, .ref r6, .int 0, .int 7, .int (-1), .int 0])), (r1, .inl (a 2, 128, .inl (upd (upd (upd (upd (upd (upd (upd f1 0 91) 1 48) 2 44) 3 49) 4 93) 5 35) 6 48)))] H locs := w
    refine lv_aload_n hx hb d_RA_write_120 rfl (lv_at hl 2 rfl) ?_
    refine kx_get E w zC_RA 6 rfl 8 (by decide) mw_203 rfl d_RA_write_121 ?_
    refine W.widen (k := 0) (n := 0) (Nat.le_of_ble_eq_true rfl) (Nat.le_of_ble_eq_true rfl) ?_
    exact kx_iret E w hr hlk d_RA_write_124 (v := 7) ⟨rfl, rfl⟩)
