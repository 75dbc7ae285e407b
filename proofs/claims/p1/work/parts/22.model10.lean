/-! laid by program (wip/gen) -/
set_option maxRecDepth 100000 in
set_option maxHeartbeats 4000000 in
theorem c_Md_feed_bad (l : Launch) (D : va_G) (a : Nat → ClassId) (h0 : Nat) (r : Nat → Nat) (t0 : Int32) (t1 : Int32) (t2 : Int32) (t3 : Int32) (t4 : Int32) (t5 : Int32) (t6 : Int32) (t7 : Int32) (t8 : Int32) (t9 : Int32) (x : Int32) (v : Int64) (hbad : x < 1 ∨ 8 < x) : ∀ sz : Nat, Met l y_Md_feed (Cond.code y_Md_feed b_Md_feed 5 (some .int) :: wA) ({ frames := 1, cells := 0, slots := 0, locals := 25 } : Room) (va_Pc [.ref h0, .int x, .long v] (kP D a [(h0, .inr (12, (mF r t0 t1 t2 t3 t4 t5 t6 t7 t8 t9)))] sz)) (va_Qi (fun (rr : Int32) (u : va_W) => rr = 0 ∧ u = [(h0, .inr (12, (mF r 1 t1 t2 t3 t4 t5 t6 t7 t8 t9)))]) (kB D a (va_A [(h0, .inr (12, (mF r t0 t1 t2 t3 t4 t5 t6 t7 t8 t9)))] sz)) (va_A [(h0, .inr (12, (mF r t0 t1 t2 t3 t4 t5 t6 t7 t8 t9)))] sz)) 0 0 (va_A [(h0, .inr (12, (mF r t0 t1 t2 t3 t4 t5 t6 t7 t8 t9)))] sz) :=
  kM (Qc := fun A => va_Qi (fun (rr : Int32) (u : va_W) => rr = 0 ∧ u = [(h0, .inr (12, (mF r 1 t1 t2 t3 t4 t5 t6 t7 t8 t9)))]) (kB D a A) A) (by decide) (Nat.le_of_ble_eq_true rfl) (by
    intro p e s m below meth c A ls H locs E hr hlk hnm w hl
    have hx := E.1.1
    have hb := E.1.2.1
    have E : kE p m c b_Md_feed 5 s [.ref h0, .int x, .long v].toArray "RootAlgebraModel" D a A := E
    have hl : lv_has ls 5 [(0, .ref h0), (1, .int x), (2, .long v)] := hl
    refine lv_aload_n hx hb d_Md_feed_0 rfl (lv_at hl 0 rfl) ?_
    refine lv_iload_n hx hb d_Md_feed_1 rfl (lv_at hl 1 rfl) ?_
    refine lv_i2l (v := x.toInt64) hx hb d_Md_feed_2 rfl ?_
    refine lv_lconst (v := 1) hx hb d_Md_feed_3 (by decide) ?_
    refine lv_ldc2 (v := 8) hx hb E.1.2.2.2.1 (E.1.2.2.2.2 _ mw_377) d_Md_feed_4 ?_
    refine kx_i E w (wc := []) (wr := [(h0, .inr (12, (mF r t0 t1 t2 t3 t4 t5 t6 t7 t8 t9)))]) [] [0] rfl rfl ⟨rfl, rfl, by decide⟩ (kx_rS E w hl.1 (As := [.long x.toInt64, .long 1, .long 8]) (wc := []) (c_Md_in0 l D a x.toInt64 1 8 (kl_out (c := 1) (d := 8) hbad) H.size) gc_47 gs_Md_in [] rfl rfl rfl rfl rfl ⟨(Nat.le_of_ble_eq_true rfl), (Nat.le_of_ble_eq_true rfl)⟩ rfl (Nat.le_of_ble_eq_true rfl) d_Md_feed_7 ⟨(Nat.le_of_ble_eq_true rfl), (Nat.le_of_ble_eq_true rfl)⟩) (fun rr u H locs hu w => ?_)
    obtain ⟨rfl, rfl⟩ := hu
    have w : kW D A s [(h0, .inr (12, (mF r t0 t1 t2 t3 t4 t5 t6 t7 t8 t9)))] H locs := w
    refine lv_if_ne (tgt := 17) hx hb d_Md_feed_10 (by decide) (fun h => absurd (by decide) h) (fun _ => ?_)
    refine lv_iconst (v := 1) hx hb d_Md_feed_13 (by decide) ?_
    refine lv_goto (tgt := 18) hx hb d_Md_feed_14 (by decide) ?_
    refine lv_iconst (v := 1) hx hb d_Md_feed_18 (by decide) ?_
    refine kx_i E w (wc := [(h0, .inr (12, (mF r t0 t1 t2 t3 t4 t5 t6 t7 t8 t9)))]) (wr := []) [0] [] rfl rfl ⟨rfl, rfl, by decide⟩ (kx_rV E w hl.1 (As := [.int 1, .int 1]) (wc := [(h0, .inr (12, (mF r t0 t1 t2 t3 t4 t5 t6 t7 t8 t9)))]) (c_Md_fails11 l D a h0 r t0 t1 t2 t3 t4 t5 t6 t7 t8 t9 H.size) gc_49 gv_Md_fails (kRecv E w 12 0 rfl rfl) [0] rfl rfl rfl rfl rfl ⟨(Nat.le_of_ble_eq_true rfl), (Nat.le_of_ble_eq_true rfl)⟩ rfl (Nat.le_of_ble_eq_true rfl) d_Md_feed_19 ⟨(Nat.le_of_ble_eq_true rfl), (Nat.le_of_ble_eq_true rfl)⟩) (fun rr u H locs hu w => ?_)
    obtain ⟨rfl, rfl⟩ := hu
    have w : kW D A s [(h0, .inr (12, (mF r 1 t1 t2 t3 t4 t5 t6 t7 t8 t9)))] H locs := w
    refine lv_if_ne (tgt := 50) hx hb d_Md_feed_22 (by decide) (fun _ => ?_) (fun h => absurd h (by decide))
    refine lv_iconst (v := 0) hx hb d_Md_feed_50 (by decide) ?_
    refine W.widen (k := 0) (n := 0) (Nat.le_of_ble_eq_true rfl) (Nat.le_of_ble_eq_true rfl) ?_
    exact kx_iret E w hr hlk d_Md_feed_51 (v := 0) ⟨rfl, rfl⟩)
set_option maxRecDepth 100000 in
set_option maxHeartbeats 4000000 in
theorem c_Md_feed (l : Launch) (D : va_G) (a : Nat → ClassId) (h0 : Nat) (r : Nat → Nat) (t0 : Int32) (t2 : Int32) (t3 : Int32) (t4 : Int32) (t5 : Int32) (t6 : Int32) (t7 : Int32) (t8 : Int32) (t9 : Int32) (f0 : Nat → Int32) (k : Nat) (hj : 1 ≤ k ∧ k ≤ 8) (v : Int64) : ∀ sz : Nat, Met l y_Md_feed (Cond.code y_Md_feed b_Md_feed 5 (some .int) :: wA) ({ frames := 1, cells := 0, slots := 0, locals := 25 } : Room) (va_Pc [.ref h0, .int (nI k), .long v] (kP D a [(h0, .inr (12, (mF r t0 0 t2 t3 t4 t5 t6 t7 t8 t9))), ((r 1), .inl (a 0, 400, .inl f0))] sz)) (va_Qi (fun (rr : Int32) (u : va_W) => ∃ f1 : Nat → Int32, rr = (nI k) ∧ u = [((r 1), .inl (a 0, 400, .inl f1)), (h0, .inr (12, (mF r 0 (nI k) t2 t3 t4 t5 t6 t7 t8 t9)))]) (kB D a (va_A [(h0, .inr (12, (mF r t0 0 t2 t3 t4 t5 t6 t7 t8 t9))), ((r 1), .inl (a 0, 400, .inl f0))] sz)) (va_A [(h0, .inr (12, (mF r t0 0 t2 t3 t4 t5 t6 t7 t8 t9))), ((r 1), .inl (a 0, 400, .inl f0))] sz)) 0 0 (va_A [(h0, .inr (12, (mF r t0 0 t2 t3 t4 t5 t6 t7 t8 t9))), ((r 1), .inl (a 0, 400, .inl f0))] sz) :=
  kM (Qc := fun A => va_Qi (fun (rr : Int32) (u : va_W) => ∃ f1 : Nat → Int32, rr = (nI k) ∧ u = [((r 1), .inl (a 0, 400, .inl f1)), (h0, .inr (12, (mF r 0 (nI k) t2 t3 t4 t5 t6 t7 t8 t9)))]) (kB D a A) A) (by decide) (Nat.le_of_ble_eq_true rfl) (by
    intro p e s m below meth c A ls H locs E hr hlk hnm w hl
    have hx := E.1.1
    have hb := E.1.2.1
    have E : kE p m c b_Md_feed 5 s [.ref h0, .int (nI k), .long v].toArray "RootAlgebraModel" D a A := E
    have hl : lv_has ls 5 [(0, .ref h0), (1, .int (nI k)), (2, .long v)] := hl
    refine lv_aload_n hx hb d_Md_feed_0 rfl (lv_at hl 0 rfl) ?_
    refine lv_iload_n hx hb d_Md_feed_1 rfl (lv_at hl 1 rfl) ?_
    refine lv_i2l (v := ((nI k).toInt64)) hx hb d_Md_feed_2 rfl ?_
    refine lv_lconst (v := 1) hx hb d_Md_feed_3 (by decide) ?_
    refine lv_ldc2 (v := 8) hx hb E.1.2.2.2.1 (E.1.2.2.2.2 _ mw_377) d_Md_feed_4 ?_
    refine kx_i E w (wc := []) (wr := [(h0, .inr (12, (mF r t0 0 t2 t3 t4 t5 t6 t7 t8 t9))), ((r 1), .inl (a 0, 400, .inl f0))]) [] [0, 1] rfl rfl ⟨rfl, rfl, by decide⟩ (kx_rS E w hl.1 (As := [.long ((nI k).toInt64), .long 1, .long 8]) (wc := []) (c_Md_in1 l D a ((nI k).toInt64) 1 8 (kl_in (c := 1) (j := k) (d := 8) (by omega) (by omega) (by omega)) H.size) gc_47 gs_Md_in [] rfl rfl rfl rfl rfl ⟨(Nat.le_of_ble_eq_true rfl), (Nat.le_of_ble_eq_true rfl)⟩ rfl (Nat.le_of_ble_eq_true rfl) d_Md_feed_7 ⟨(Nat.le_of_ble_eq_true rfl), (Nat.le_of_ble_eq_true rfl)⟩) (fun rr u H locs hu w => ?_)
    obtain ⟨rfl, rfl⟩ := hu
    have w : kW D A s [(h0, .inr (12, (mF r t0 0 t2 t3 t4 t5 t6 t7 t8 t9))), ((r 1), .inl (a 0, 400, .inl f0))] H locs := w
    refine lv_if_ne (tgt := 17) hx hb d_Md_feed_10 (by decide) (fun _ => ?_) (fun h => absurd h (by decide))
    refine lv_iconst (v := 0) hx hb d_Md_feed_17 (by decide) ?_
    refine lv_iconst (v := 1) hx hb d_Md_feed_18 (by decide) ?_
    refine kx_i E w (wc := [(h0, .inr (12, (mF r t0 0 t2 t3 t4 t5 t6 t7 t8 t9)))]) (wr := [((r 1), .inl (a 0, 400, .inl f0))]) [0] [1] rfl rfl ⟨rfl, rfl, by decide⟩ (kx_rV E w hl.1 (As := [.int 0, .int 1]) (wc := [(h0, .inr (12, (mF r t0 0 t2 t3 t4 t5 t6 t7 t8 t9)))]) (c_Md_fails01 l D a h0 r t0 0 t2 t3 t4 t5 t6 t7 t8 t9 H.size) gc_49 gv_Md_fails (kRecv E w 12 0 rfl rfl) [0] rfl rfl rfl rfl rfl ⟨(Nat.le_of_ble_eq_true rfl), (Nat.le_of_ble_eq_true rfl)⟩ rfl (Nat.le_of_ble_eq_true rfl) d_Md_feed_19 ⟨(Nat.le_of_ble_eq_true rfl), (Nat.le_of_ble_eq_true rfl)⟩) (fun rr u H locs hu w => ?_)
    obtain ⟨rfl, rfl⟩ := hu
    have w : kW D A s [((r 1), .inl (a 0, 400, .inl f0)), (h0, .inr (12, (mF r 0 0 t2 t3 t4 t5 t6 t7 t8 t9)))] H locs := w
    refine lv_if_ne (tgt := 50) hx hb d_Md_feed_22 (by decide) (fun h => absurd (by decide) h) (fun _ => ?_)
    refine lv_aload_n hx hb d_Md_feed_25 rfl (lv_at hl 0 rfl) ?_
    refine lv_aload_n hx hb d_Md_feed_26 rfl (lv_at hl 0 rfl) ?_
    refine kx_get E w zC_Md 1 rfl 2 (by decide) mw_375 rfl d_Md_feed_27 ?_
    refine lv_iload_n hx hb d_Md_feed_30 rfl (lv_at hl 1 rfl) ?_
    refine kx_iadd (v := (nI k)) hx hb d_Md_feed_31 (kx_0add _) ?_
    refine lv_sipush (v := 400) hx hb d_Md_feed_32 (by decide) ?_
    refine lv_icmp_le (tgt := 42) hx hb d_Md_feed_35 (by decide) (fun _ => ?_) (fun h => absurd (nI_le (a := k) (b := 400) (by omega) (by omega)) h)
    refine lv_iconst (v := 0) hx hb d_Md_feed_42 (by decide) ?_
    refine lv_iconst (v := 2) hx hb d_Md_feed_43 (by decide) ?_
    refine kx_i E w (wc := [(h0, .inr (12, (mF r 0 0 t2 t3 t4 t5 t6 t7 t8 t9)))]) (wr := [((r 1), .inl (a 0, 400, .inl f0))]) [1] [0] rfl rfl ⟨rfl, rfl, by decide⟩ (kx_rV E w hl.1 (As := [.int 0, .int 2]) (wc := [(h0, .inr (12, (mF r 0 0 t2 t3 t4 t5 t6 t7 t8 t9)))]) (c_Md_fails02 l D a h0 r 0 0 t2 t3 t4 t5 t6 t7 t8 t9 H.size) gc_49 gv_Md_fails (kRecv E w 12 1 rfl rfl) [1] rfl rfl rfl rfl rfl ⟨(Nat.le_of_ble_eq_true rfl), (Nat.le_of_ble_eq_true rfl)⟩ rfl (Nat.le_of_ble_eq_true rfl) d_Md_feed_44 ⟨(Nat.le_of_ble_eq_true rfl), (Nat.le_of_ble_eq_true rfl)⟩) (fun rr u H locs hu w => ?_)
    obtain ⟨rfl, rfl⟩ := hu
    have w : kW D A s [((r 1), .inl (a 0, 400, .inl f0)), (h0, .inr (12, (mF r 0 0 t2 t3 t4 t5 t6 t7 t8 t9)))] H locs := w
    refine lv_if_eq (tgt := 52) hx hb d_Md_feed_47 (by decide) (fun _ => ?_) (fun h => absurd (by decide) h)
    refine lv_iconst (v := 0) hx hb d_Md_feed_52 (by decide) ?_
    refine lv_istore (lv' := [(4, .int 0), (0, .ref h0), (1, .int (nI k)), (2, .long v)]) hx hb d_Md_feed_53 hl (by decide) rfl (fun ls hl => ?_)
    refine W.widen (k := 0) (n := 0) (Nat.le_of_ble_eq_true rfl) (Nat.le_of_ble_eq_true rfl) ?_
    have loop : ∀ (n i : Nat), i + n = k → ∀ (f1 : Nat → Int32) (H : Heap) (locs : List Loc) (ls : Array Slot), kW D A s [((r 1), .inl (a 0, 400, .inl f1)), (h0, .inr (12, (mF r 0 0 t2 t3 t4 t5 t6 t7 t8 t9)))] H locs → lv_has ls 5 [(0, .ref h0), (1, .int (nI k)), (2, .long v), (4, .int (nI i))] → W p l e ({ frames := 1, cells := 0, slots := 0, locals := 25 } : Room) s m [.ref h0, .int (nI k), .long v].toArray below meth c H locs (0) (0) (MQ below (va_Qi (fun (rr : Int32) (u : va_W) => ∃ f1 : Nat → Int32, rr = (nI k) ∧ u = [((r 1), .inl (a 0, 400, .inl f1)), (h0, .inr (12, (mF r 0 (nI k) t2 t3 t4 t5 t6 t7 t8 t9)))]) (kB D a A) A) [.ref h0, .int (nI k), .long v].toArray s 0 0 A) (F0 m 55 ls [])  := by
      intro n
      induction n with
      | zero =>
        intro i hi f1 H locs ls w hl
        rw [show i = k from by omega] at hl
        have hl : lv_has ls 5 [(0, .ref h0), (1, .int (nI k)), (2, .long v), (4, .int (nI k))] := hl
        refine lv_iload hx hb d_Md_feed_55 (lv_at hl 3 rfl) ?_
        refine lv_iload_n hx hb d_Md_feed_57 rfl (lv_at hl 1 rfl) ?_
        refine lv_icmp_ge (tgt := 91) hx hb d_Md_feed_58 (by decide) (fun _ => ?_) (fun h => absurd (nI_le (a := k) (b := k) (by omega) (by omega)) h)
        refine lv_aload_n hx hb d_Md_feed_91 rfl (lv_at hl 0 rfl) ?_
        refine lv_dup hx hb d_Md_feed_92 rfl ?_
        refine kx_get E w zC_Md 1 rfl 2 (by decide) mw_375 rfl d_Md_feed_93 ?_
        refine lv_iload_n hx hb d_Md_feed_96 rfl (lv_at hl 1 rfl) ?_
        refine kx_iadd (v := (nI k)) hx hb d_Md_feed_97 (kx_0add _) ?_
        refine kx_put E w zC_Md 1 rfl 2 (by decide) mw_375 rfl rfl rfl (Nat.le_of_ble_eq_true rfl) d_Md_feed_98 (ws' := [((r 1), .inl (a 0, 400, .inl f1)), (h0, .inr (12, (mF r 0 (nI k) t2 t3 t4 t5 t6 t7 t8 t9)))]) rfl (fun H locs w => ?_)
        refine lv_aload_n hx hb d_Md_feed_101 rfl (lv_at hl 0 rfl) ?_
        refine kx_get E w zC_Md 1 rfl 2 (by decide) mw_375 rfl d_Md_feed_102 ?_
        refine W.widen (k := 0) (n := 0) (Nat.le_of_ble_eq_true rfl) (Nat.le_of_ble_eq_true rfl) ?_
        exact kx_iret E w hr hlk d_Md_feed_105 (v := (nI k)) ⟨f1, rfl, rfl⟩
      | succ n ih =>
        intro i hi f1 H locs ls w hl
        refine lv_iload hx hb d_Md_feed_55 (lv_at hl 3 rfl) ?_
        refine lv_iload_n hx hb d_Md_feed_57 rfl (lv_at hl 1 rfl) ?_
        refine lv_icmp_ge (tgt := 91) hx hb d_Md_feed_58 (by decide) (fun h => absurd h (nI_ge (a := i) (b := k) (by omega) (by omega))) (fun _ => ?_)
        refine lv_aload_n hx hb d_Md_feed_61 rfl (lv_at hl 0 rfl) ?_
        refine kx_get E w zC_Md 1 rfl 1 (by decide) mw_309 rfl d_Md_feed_62 ?_
        refine lv_aload_n hx hb d_Md_feed_65 rfl (lv_at hl 0 rfl) ?_
        refine kx_get E w zC_Md 1 rfl 2 (by decide) mw_375 rfl d_Md_feed_66 ?_
        refine lv_iload hx hb d_Md_feed_69 (lv_at hl 3 rfl) ?_
        refine kx_iadd (v := (nI i)) hx hb d_Md_feed_71 (kx_0add _) ?_
        refine lv_lload_n hx hb d_Md_feed_72 rfl (lv_at hl 2 rfl) ?_
        refine lv_bipush (v := 8) hx hb d_Md_feed_73 (by decide) ?_
        refine lv_iload hx hb d_Md_feed_75 (lv_at hl 3 rfl) ?_
        refine kx_imul (v := (nI (8 * i))) hx hb d_Md_feed_77 (pk_mul 8 i) ?_
        refine lv_lshr (v := (v >>> ((nI (8 * i)).toInt64 &&& 63))) hx hb d_Md_feed_78 rfl ?_
        refine lv_ldc2 (v := 255) hx hb E.1.2.2.2.1 (E.1.2.2.2.2 _ mw_378) d_Md_feed_79 ?_
        refine kx_land (v := ((v >>> ((nI (8 * i)).toInt64 &&& 63)) &&& 255)) hx hb d_Md_feed_82 rfl ?_
        refine lv_l2i (v := (((v >>> ((nI (8 * i)).toInt64 &&& 63)) &&& 255).toInt32)) hx hb d_Md_feed_83 rfl ?_
        refine kx_iast E w 0 rfl (vp_in_nI (by omega) (by omega)) i (nI_clamp (by omega)) d_Md_feed_84 (ws' := [((r 1), .inl (a 0, 400, .inl (upd f1 i (((v >>> ((nI (8 * i)).toInt64 &&& 63)) &&& 255).toInt32)))), (h0, .inr (12, (mF r 0 0 t2 t3 t4 t5 t6 t7 t8 t9)))]) rfl (fun H locs w => ?_)
        refine lv_iinc (v := (nI (i + 1))) (lv' := [(4, .int (nI (i + 1))), (0, .ref h0), (1, .int (nI k)), (2, .long v)]) hx hb d_Md_feed_85 hl (k := 3) rfl (kx_inc i) (by decide) rfl (fun ls hl => ?_)
        refine lv_goto (tgt := 55) hx hb d_Md_feed_88 (by decide) ?_
        refine W.widen (k := 0) (n := 0) (by omega) (by omega) ?_
        exact ih (i + 1) (by omega) _ _ _ _ w (lv_sub hl [1, 2, 3, 0] rfl)
    exact loop k 0 (by omega) _ _ _ _ w (lv_sub hl [1, 2, 3, 0] rfl))
set_option maxRecDepth 100000 in
set_option maxHeartbeats 4000000 in
theorem c_Md_peek (l : Launch) (D : va_G) (a : Nat → ClassId) (h0 : Nat) (r : Nat → Nat) (t0 : Int32) (t2 : Int32) (t3 : Int32) (t4 : Int32) (t5 : Int32) (t6 : Int32) (t7 : Int32) (t9 : Int32) : ∀ sz : Nat, Met l y_Md_peek (Cond.code y_Md_peek b_Md_peek 1 (some .int) :: wA) ({ frames := 0, cells := 0, slots := 0, locals := 0 } : Room) (va_Pc [.ref h0] (kP D a [(h0, .inr (12, (mF r t0 0 t2 t3 t4 t5 t6 t7 0 t9)))] sz)) (va_Qi (fun (rr : Int32) (u : va_W) => rr = (-1) ∧ u = [(h0, .inr (12, (mF r t0 0 t2 t3 t4 t5 t6 t7 0 t9)))]) (kB D a (va_A [(h0, .inr (12, (mF r t0 0 t2 t3 t4 t5 t6 t7 0 t9)))] sz)) (va_A [(h0, .inr (12, (mF r t0 0 t2 t3 t4 t5 t6 t7 0 t9)))] sz)) 0 0 (va_A [(h0, .inr (12, (mF r t0 0 t2 t3 t4 t5 t6 t7 0 t9)))] sz) :=
  kM (Qc := fun A => va_Qi (fun (rr : Int32) (u : va_W) => rr = (-1) ∧ u = [(h0, .inr (12, (mF r t0 0 t2 t3 t4 t5 t6 t7 0 t9)))]) (kB D a A) A) (by decide) (Nat.le_of_ble_eq_true rfl) (by
    intro p e s m below meth c A ls H locs E hr hlk hnm w hl
    have hx := E.1.1
    have hb := E.1.2.1
    have E : kE p m c b_Md_peek 1 s [.ref h0].toArray "RootAlgebraModel" D a A := E
    have hl : lv_has ls 1 [(0, .ref h0)] := hl
    refine lv_aload_n hx hb d_Md_peek_0 rfl (lv_at hl 0 rfl) ?_
    refine kx_get E w zC_Md 0 rfl 59 (by decide) mw_379 rfl d_Md_peek_1 ?_
    refine lv_aload_n hx hb d_Md_peek_4 rfl (lv_at hl 0 rfl) ?_
    refine kx_get E w zC_Md 0 rfl 2 (by decide) mw_375 rfl d_Md_peek_5 ?_
    refine lv_icmp_ge (tgt := 38) hx hb d_Md_peek_8 (by decide) (fun _ => ?_) (fun h => absurd (by decide) h)
    refine lv_aload_n hx hb d_Md_peek_38 rfl (lv_at hl 0 rfl) ?_
    refine kx_get E w zC_Md 0 rfl 59 (by decide) mw_379 rfl d_Md_peek_39 ?_
    refine lv_aload_n hx hb d_Md_peek_42 rfl (lv_at hl 0 rfl) ?_
    refine kx_get E w zC_Md 0 rfl 2 (by decide) mw_375 rfl d_Md_peek_43 ?_
    refine lv_icmp_ge (tgt := 61) hx hb d_Md_peek_46 (by decide) (fun _ => ?_) (fun h => absurd (by decide) h)
    refine lv_iconst (v := (-1)) hx hb d_Md_peek_61 (by decide) ?_
    refine W.widen (k := 0) (n := 0) (Nat.le_of_ble_eq_true rfl) (Nat.le_of_ble_eq_true rfl) ?_
    exact kx_iret E w hr hlk d_Md_peek_62 (v := (-1)) ⟨rfl, rfl⟩)
set_option maxRecDepth 100000 in
set_option maxHeartbeats 4000000 in
theorem c_Md_opens (l : Launch) (D : va_G) (a : Nat → ClassId) (h0 : Nat) (r : Nat → Nat) (t0 : Int32) (t2 : Int32) (t3 : Int32) (t4 : Int32) (t5 : Int32) (t6 : Int32) (t7 : Int32) (t9 : Int32) : ∀ sz : Nat, Met l y_Md_opens (Cond.code y_Md_opens b_Md_opens 4 (some .boolean) :: wA) ({ frames := 1, cells := 0, slots := 0, locals := 25 } : Room) (va_Pc [.ref h0, .int (-1)] (kP D a [(h0, .inr (12, (mF r t0 0 t2 t3 t4 t5 t6 t7 0 t9)))] sz)) (va_Qi (fun (rr : Int32) (u : va_W) => rr = 0 ∧ u = [(h0, .inr (12, (mF r t0 0 t2 t3 t4 t5 t6 t7 0 t9)))]) (kB D a (va_A [(h0, .inr (12, (mF r t0 0 t2 t3 t4 t5 t6 t7 0 t9)))] sz)) (va_A [(h0, .inr (12, (mF r t0 0 t2 t3 t4 t5 t6 t7 0 t9)))] sz)) 0 0 (va_A [(h0, .inr (12, (mF r t0 0 t2 t3 t4 t5 t6 t7 0 t9)))] sz) :=
  kM (Qc := fun A => va_Qi (fun (rr : Int32) (u : va_W) => rr = 0 ∧ u = [(h0, .inr (12, (mF r t0 0 t2 t3 t4 t5 t6 t7 0 t9)))]) (kB D a A) A) (by decide) (Nat.le_of_ble_eq_true rfl) (by
    intro p e s m below meth c A ls H locs E hr hlk hnm w hl
    have hx := E.1.1
    have hb := E.1.2.1
    have E : kE p m c b_Md_opens 4 s [.ref h0, .int (-1)].toArray "RootAlgebraModel" D a A := E
    have hl : lv_has ls 4 [(0, .ref h0), (1, .int (-1))] := hl
    refine lv_iload_n hx hb d_Md_opens_0 rfl (lv_at hl 1 rfl) ?_
    refine lv_i2l (v := (-1)) hx hb d_Md_opens_1 (by decide) ?_
    refine lv_ldc2 (v := 48) hx hb E.1.2.2.2.1 (E.1.2.2.2.2 _ mw_380) d_Md_opens_2 ?_
    refine lv_ldc2 (v := 57) hx hb E.1.2.2.2.1 (E.1.2.2.2.2 _ mw_381) d_Md_opens_5 ?_
    refine kx_i E w (wc := []) (wr := [(h0, .inr (12, (mF r t0 0 t2 t3 t4 t5 t6 t7 0 t9)))]) [] [0] rfl rfl ⟨rfl, rfl, by decide⟩ (kx_rS E w hl.1 (As := [.long (-1), .long 48, .long 57]) (wc := []) (c_Md_in0 l D a (-1) 48 57 (by decide) H.size) gc_47 gs_Md_in [] rfl rfl rfl rfl rfl ⟨(Nat.le_of_ble_eq_true rfl), (Nat.le_of_ble_eq_true rfl)⟩ rfl (Nat.le_of_ble_eq_true rfl) d_Md_opens_8 ⟨(Nat.le_of_ble_eq_true rfl), (Nat.le_of_ble_eq_true rfl)⟩) (fun rr u H locs hu w => ?_)
    obtain ⟨rfl, rfl⟩ := hu
    have w : kW D A s [(h0, .inr (12, (mF r t0 0 t2 t3 t4 t5 t6 t7 0 t9)))] H locs := w
    refine lv_if_eq (tgt := 37) hx hb d_Md_opens_11 (by decide) (fun _ => ?_) (fun h => absurd (by decide) h)
    refine lv_iload_n hx hb d_Md_opens_37 rfl (lv_at hl 1 rfl) ?_
    refine lv_i2l (v := (-1)) hx hb d_Md_opens_38 (by decide) ?_
    refine lv_ldc2 (v := 97) hx hb E.1.2.2.2.1 (E.1.2.2.2.2 _ mw_382) d_Md_opens_39 ?_
    refine lv_ldc2 (v := 112) hx hb E.1.2.2.2.1 (E.1.2.2.2.2 _ mw_383) d_Md_opens_42 ?_
    refine kx_i E w (wc := []) (wr := [(h0, .inr (12, (mF r t0 0 t2 t3 t4 t5 t6 t7 0 t9)))]) [] [0] rfl rfl ⟨rfl, rfl, by decide⟩ (kx_rS E w hl.1 (As := [.long (-1), .long 97, .long 112]) (wc := []) (c_Md_in0 l D a (-1) 97 112 (by decide) H.size) gc_47 gs_Md_in [] rfl rfl rfl rfl rfl ⟨(Nat.le_of_ble_eq_true rfl), (Nat.le_of_ble_eq_true rfl)⟩ rfl (Nat.le_of_ble_eq_true rfl) d_Md_opens_45 ⟨(Nat.le_of_ble_eq_true rfl), (Nat.le_of_ble_eq_true rfl)⟩) (fun rr u H locs hu w => ?_)
    obtain ⟨rfl, rfl⟩ := hu
    have w : kW D A s [(h0, .inr (12, (mF r t0 0 t2 t3 t4 t5 t6 t7 0 t9)))] H locs := w
    refine lv_if_eq (tgt := 73) hx hb d_Md_opens_48 (by decide) (fun _ => ?_) (fun h => absurd (by decide) h)
    refine lv_iload_n hx hb d_Md_opens_73 rfl (lv_at hl 1 rfl) ?_
    refine lv_bipush (v := 45) hx hb d_Md_opens_74 (by decide) ?_
    refine lv_icmp_ne (tgt := 98) hx hb d_Md_opens_76 (by decide) (fun _ => ?_) (fun h => absurd h (by decide))
    refine lv_iload_n hx hb d_Md_opens_98 rfl (lv_at hl 1 rfl) ?_
    refine lv_bipush (v := 35) hx hb d_Md_opens_99 (by decide) ?_
    refine lv_icmp_ne (tgt := 167) hx hb d_Md_opens_101 (by decide) (fun _ => ?_) (fun h => absurd h (by decide))
    refine lv_iload_n hx hb d_Md_opens_167 rfl (lv_at hl 1 rfl) ?_
    refine lv_bipush (v := 40) hx hb d_Md_opens_168 (by decide) ?_
    refine lv_icmp_ne (tgt := 180) hx hb d_Md_opens_170 (by decide) (fun _ => ?_) (fun h => absurd h (by decide))
    refine lv_iload_n hx hb d_Md_opens_180 rfl (lv_at hl 1 rfl) ?_
    refine lv_bipush (v := 64) hx hb d_Md_opens_181 (by decide) ?_
    refine lv_icmp_ne (tgt := 197) hx hb d_Md_opens_183 (by decide) (fun _ => ?_) (fun h => absurd h (by decide))
    refine lv_iconst (v := 0) hx hb d_Md_opens_197 (by decide) ?_
    refine W.widen (k := 0) (n := 0) (Nat.le_of_ble_eq_true rfl) (Nat.le_of_ble_eq_true rfl) ?_
    exact kx_zret E w hr hlk d_Md_opens_198 (v := 0) (by decide) ⟨rfl, rfl⟩)
