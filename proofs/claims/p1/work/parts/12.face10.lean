/-! laid by program (wip/gen) -/
set_option maxRecDepth 100000 in
set_option maxHeartbeats 4000000 in
theorem c_RA_feed (l : Launch) (D : va_G) (a : Nat → ClassId) (h0 : Nat) (r0 : Nat) (r1 : Nat) (r2 : Nat) (r3 : Nat) (hv : Nat) (r5 : Nat) (r6 : Nat) (f0 : Nat → Int32) (k : Nat) (hj : 1 ≤ k ∧ k ≤ 8) (v : Int64) : ∀ sz : Nat, Met l y_RA_feed (Cond.code y_RA_feed b_RA_feed 5 (some .int) :: wA) ({ frames := 0, cells := 0, slots := 0, locals := 0 } : Room) (va_Pc [.ref h0, .int (nI k), .long v] (kP D a [(h0, .inr (0, [.ref r0, .ref r1, .ref r2, .ref r3, .ref hv, .ref r5, .ref r6, .int 0, .int 0, .int (-1), .int 0])), (r0, .inl (a 2, 400, .inl f0))] sz)) (va_Qi (fun (rr : Int32) (u : va_W) => ∃ f1 : Nat → Int32, rr = (nI k) ∧ u = [(h0, .inr (0, [.ref r0, .ref r1, .ref r2, .ref r3, .ref hv, .ref r5, .ref r6, .int (nI k), .int 0, .int (-1), .int 0])), (r0, .inl (a 2, 400, .inl f1))]) (kB D a (va_A [(h0, .inr (0, [.ref r0, .ref r1, .ref r2, .ref r3, .ref hv, .ref r5, .ref r6, .int 0, .int 0, .int (-1), .int 0])), (r0, .inl (a 2, 400, .inl f0))] sz)) (va_A [(h0, .inr (0, [.ref r0, .ref r1, .ref r2, .ref r3, .ref hv, .ref r5, .ref r6, .int 0, .int 0, .int (-1), .int 0])), (r0, .inl (a 2, 400, .inl f0))] sz)) 0 0 (va_A [(h0, .inr (0, [.ref r0, .ref r1, .ref r2, .ref r3, .ref hv, .ref r5, .ref r6, .int 0, .int 0, .int (-1), .int 0])), (r0, .inl (a 2, 400, .inl f0))] sz) :=
  kM (Qc := fun A => va_Qi (fun (rr : Int32) (u : va_W) => ∃ f1 : Nat → Int32, rr = (nI k) ∧ u = [(h0, .inr (0, [.ref r0, .ref r1, .ref r2, .ref r3, .ref hv, .ref r5, .ref r6, .int (nI k), .int 0, .int (-1), .int 0])), (r0, .inl (a 2, 400, .inl f1))]) (kB D a A) A) (by decide) (Nat.le_of_ble_eq_true rfl) (by
    intro p e s m below meth c A ls H locs E hr hlk hnm w hl
    have hx := E.1.1
    have hb := E.1.2.1
    have E : kE p m c b_RA_feed 5 s [.ref h0, .int (nI k), .long v].toArray "RootAlgebra" D a A := E
    have hl : lv_has ls 5 [(0, .ref h0), (1, .int (nI k)), (2, .long v)] := hl
    refine lv_iload_n hx hb d_RA_feed_0 rfl (lv_at hl 1 rfl) ?_
    refine lv_iconst (v := 1) hx hb d_RA_feed_1 (by decide) ?_
    refine lv_icmp_lt (tgt := 11) hx hb d_RA_feed_2 (by decide) (fun h => absurd h (nI_nlt (a := k) (b := 1) (by omega) (by omega))) (fun _ => ?_)
    refine lv_iload_n hx hb d_RA_feed_5 rfl (lv_at hl 1 rfl) ?_
    refine lv_bipush (v := 8) hx hb d_RA_feed_6 (by decide) ?_
    refine lv_icmp_le (tgt := 19) hx hb d_RA_feed_8 (by decide) (fun _ => ?_) (fun h => absurd (nI_le (a := k) (b := 8) (by omega) (by omega)) h)
    refine lv_aload_n hx hb d_RA_feed_19 rfl (lv_at hl 0 rfl) ?_
    refine kx_get E w zC_RA 0 rfl 7 (by decide) mw_202 rfl d_RA_feed_20 ?_
    refine lv_iload_n hx hb d_RA_feed_23 rfl (lv_at hl 1 rfl) ?_
    refine kx_iadd (v := (nI k)) hx hb d_RA_feed_24 (kx_0add _) ?_
    refine lv_sipush (v := 400) hx hb d_RA_feed_25 (by decide) ?_
    refine lv_icmp_le (tgt := 39) hx hb d_RA_feed_28 (by decide) (fun _ => ?_) (fun h => absurd (nI_le (a := k) (b := 400) (by omega) (by omega)) h)
    refine lv_iconst (v := 0) hx hb d_RA_feed_39 (by decide) ?_
    refine lv_istore (lv' := [(4, .int 0), (0, .ref h0), (1, .int (nI k)), (2, .long v)]) hx hb d_RA_feed_40 hl (by decide) rfl (fun ls hl => ?_)
    refine W.widen (k := 0) (n := 0) (Nat.le_of_ble_eq_true rfl) (Nat.le_of_ble_eq_true rfl) ?_
    have loop : ∀ (n i : Nat), i + n = k → ∀ (f1 : Nat → Int32) (H : Heap) (locs : List Loc) (ls : Array Slot), kW D A s [(h0, .inr (0, [.ref r0, .ref r1, .ref r2, .ref r3, .ref hv, .ref r5, .ref r6, .int 0, .int 0, .int (-1), .int 0])), (r0, .inl (a 2, 400, .inl f1))] H locs → lv_has ls 5 [(0, .ref h0), (1, .int (nI k)), (2, .long v), (4, .int (nI i))] → W p l e ({ frames := 0, cells := 0, slots := 0, locals := 0 } : Room) s m [.ref h0, .int (nI k), .long v].toArray below meth c H locs (0) (0) (MQ below (va_Qi (fun (rr : Int32) (u : va_W) => ∃ f1 : Nat → Int32, rr = (nI k) ∧ u = [(h0, .inr (0, [.ref r0, .ref r1, .ref r2, .ref r3, .ref hv, .ref r5, .ref r6, .int (nI k), .int 0, .int (-1), .int 0])), (r0, .inl (a 2, 400, .inl f1))]) (kB D a A) A) [.ref h0, .int (nI k), .long v].toArray s 0 0 A) (F0 m 42 ls [])  := by
      intro n
      induction n with
      | zero =>
        intro i hi f1 H locs ls w hl
        rw [show i = k from by omega] at hl
        have hl : lv_has ls 5 [(0, .ref h0), (1, .int (nI k)), (2, .long v), (4, .int (nI k))] := hl
        refine lv_iload hx hb d_RA_feed_42 (lv_at hl 3 rfl) ?_
        refine lv_iload_n hx hb d_RA_feed_44 rfl (lv_at hl 1 rfl) ?_
        refine lv_icmp_ge (tgt := 75) hx hb d_RA_feed_45 (by decide) (fun _ => ?_) (fun h => absurd (nI_le (a := k) (b := k) (by omega) (by omega)) h)
        refine lv_aload_n hx hb d_RA_feed_75 rfl (lv_at hl 0 rfl) ?_
        refine lv_dup hx hb d_RA_feed_76 rfl ?_
        refine kx_get E w zC_RA 0 rfl 7 (by decide) mw_202 rfl d_RA_feed_77 ?_
        refine lv_iload_n hx hb d_RA_feed_80 rfl (lv_at hl 1 rfl) ?_
        refine kx_iadd (v := (nI k)) hx hb d_RA_feed_81 (kx_0add _) ?_
        refine kx_put E w zC_RA 0 rfl 7 (by decide) mw_202 rfl rfl rfl (Nat.le_of_ble_eq_true rfl) d_RA_feed_82 (ws' := [(h0, .inr (0, [.ref r0, .ref r1, .ref r2, .ref r3, .ref hv, .ref r5, .ref r6, .int (nI k), .int 0, .int (-1), .int 0])), (r0, .inl (a 2, 400, .inl f1))]) rfl (fun H locs w => ?_)
        refine lv_aload_n hx hb d_RA_feed_85 rfl (lv_at hl 0 rfl) ?_
        refine kx_get E w zC_RA 0 rfl 7 (by decide) mw_202 rfl d_RA_feed_86 ?_
        refine W.widen (k := 0) (n := 0) (Nat.le_of_ble_eq_true rfl) (Nat.le_of_ble_eq_true rfl) ?_
        exact kx_iret E w hr hlk d_RA_feed_89 (v := (nI k)) ⟨f1, rfl, rfl⟩
      | succ n ih =>
        intro i hi f1 H locs ls w hl
        refine lv_iload hx hb d_RA_feed_42 (lv_at hl 3 rfl) ?_
        refine lv_iload_n hx hb d_RA_feed_44 rfl (lv_at hl 1 rfl) ?_
        refine lv_icmp_ge (tgt := 75) hx hb d_RA_feed_45 (by decide) (fun h => absurd h (nI_ge (a := i) (b := k) (by omega) (by omega))) (fun _ => ?_)
        refine lv_aload_n hx hb d_RA_feed_48 rfl (lv_at hl 0 rfl) ?_
        refine kx_get E w zC_RA 0 rfl 0 (by decide) mw_161 rfl d_RA_feed_49 ?_
        refine lv_aload_n hx hb d_RA_feed_52 rfl (lv_at hl 0 rfl) ?_
        refine kx_get E w zC_RA 0 rfl 7 (by decide) mw_202 rfl d_RA_feed_53 ?_
        refine lv_iload hx hb d_RA_feed_56 (lv_at hl 3 rfl) ?_
        refine kx_iadd (v := (nI i)) hx hb d_RA_feed_58 (kx_0add _) ?_
        refine lv_lload_n hx hb d_RA_feed_59 rfl (lv_at hl 2 rfl) ?_
        refine lv_bipush (v := 8) hx hb d_RA_feed_60 (by decide) ?_
        refine lv_iload hx hb d_RA_feed_62 (lv_at hl 3 rfl) ?_
        refine kx_imul (v := (nI (8 * i))) hx hb d_RA_feed_64 (pk_mul 8 i) ?_
        refine lv_lushr (v := ((v.toUInt64 >>> ((nI (8 * i)).toInt64.toUInt64 &&& Int64.toUInt64 63)).toInt64)) hx hb d_RA_feed_65 rfl ?_
        refine lv_l2i (v := (((v.toUInt64 >>> ((nI (8 * i)).toInt64.toUInt64 &&& Int64.toUInt64 63)).toInt64).toInt32)) hx hb d_RA_feed_66 rfl ?_
        refine lv_i2b (v := ((((v.toUInt64 >>> ((nI (8 * i)).toInt64.toUInt64 &&& Int64.toUInt64 63)).toInt64).toInt32).toInt8.toInt32)) hx hb d_RA_feed_67 rfl ?_
        refine kx_bast E w 1 rfl (z' := ((((v.toUInt64 >>> ((nI (8 * i)).toInt64.toUInt64 &&& Int64.toUInt64 63)).toInt64).toInt32).toInt8.toInt32)) (vp_in_nI (by omega) (by omega)) i (nI_clamp (by omega)) (pk_vb _) d_RA_feed_68 (ws' := [(h0, .inr (0, [.ref r0, .ref r1, .ref r2, .ref r3, .ref hv, .ref r5, .ref r6, .int 0, .int 0, .int (-1), .int 0])), (r0, .inl (a 2, 400, .inl (upd f1 i ((((v.toUInt64 >>> ((nI (8 * i)).toInt64.toUInt64 &&& Int64.toUInt64 63)).toInt64).toInt32).toInt8.toInt32))))]) rfl (fun H locs w => ?_)
        refine lv_iinc (v := (nI (i + 1))) (lv' := [(4, .int (nI (i + 1))), (0, .ref h0), (1, .int (nI k)), (2, .long v)]) hx hb d_RA_feed_69 hl (k := 3) rfl (kx_inc i) (by decide) rfl (fun ls hl => ?_)
        refine lv_goto (tgt := 42) hx hb d_RA_feed_72 (by decide) ?_
        refine W.widen (k := 0) (n := 0) (by omega) (by omega) ?_
        exact ih (i + 1) (by omega) _ _ _ _ w (lv_sub hl [1, 2, 3, 0] rfl)
    exact loop k 0 (by omega) _ _ _ _ w (lv_sub hl [1, 2, 3, 0] rfl))
