/-! laid by program (wip/gen) -/
set_option maxRecDepth 100000 in
set_option maxHeartbeats 4000000 in
theorem lf_feed_ok {p : Program} {l : Launch} {e : Env} {s : State} {m : MethodId} {below : List Frame} {meth : Method} {c : Code} {D : va_G} {a : Nat → ClassId} {A : Nat → Prop} {b : Nat} {xs : Nat → Int32} (hl9 : l.stackTraces = false) (E : kE p m c code 8 s #[Value.ref b] "RootAlgebraLaw" D a A) (hr : meth.sig.returnType = ret) (hlk : meth.locks = false) (hA0 : ∀ q, A q → s.heap.size ≤ q) (hX : va_X b 4 xs s s.heap) (hbl : b < s.heap.size) (h0 : Nat) (r0 : Nat) (r1 : Nat) (r2 : Nat) (r3 : Nat) (hv : Nat) (r5 : Nat) (r6 : Nat) (f0 : Nat → Int32) (ho : Nat) (fo : Nat → Int64) (hm : Nat) (r : Nat → Nat) (k1 : Nat → Int32) (k : Nat) (hj : 1 ≤ k ∧ k ≤ 8) (h1 : xs 1 = (nI k)) {H : Heap} {locs : List Loc} {ls : Array Slot} (w : kW D A s [(h0, .inr (0, [.ref r0, .ref r1, .ref r2, .ref r3, .ref hv, .ref r5, .ref r6, .int 0, .int 0, .int (-1), .int 0])), (r0, .inl (a 2, 400, .inl f0)), (ho, .inl (a 1, 1, .inr (.inl fo))), (hm, .inr (12, (mF r 0 0 0 (-1) 0 0 0 0 0 0))), ((r 1), .inl (a 0, 400, .inl k1))] H locs) (hl : lv_has ls 8 [(0, .ref b), (1, .ref h0), (2, .ref hm), (3, .ref ho), (4, .int 0)]) : W p l e room_1 s m #[Value.ref b] below meth c H locs 616 107719 (lw_Z below #[Value.ref b] s) (F0 m 100 ls []) := by
  have hx := E.1.1
  have hb := E.1.2.1
  have hbA : ¬ A b := fun h => absurd (hA0 b h) (Nat.not_le.mpr hbl)
  refine lv_aload_n hx hb d_Law_law_100 rfl (lv_at hl 1 rfl) ?_
  refine lv_aload_n hx hb d_Law_law_101 rfl (lv_at hl 0 rfl) ?_
  refine lv_iload hx hb d_Law_law_102 (lv_at hl 4 rfl) ?_
  refine lv_iconst (v := 1) hx hb d_Law_law_104 (by decide) ?_
  refine kx_iadd (v := 1) hx hb d_Law_law_105 (by decide) ?_
  refine kx_sld E w hX hbl hbA (by unfold vp_in; decide) (v := (nI k)) h1 d_Law_law_106 ?_
  refine lv_aload_n hx hb d_Law_law_107 rfl (lv_at hl 0 rfl) ?_
  refine lv_iload hx hb d_Law_law_108 (lv_at hl 4 rfl) ?_
  refine lv_iconst (v := 2) hx hb d_Law_law_110 (by decide) ?_
  refine kx_iadd (v := 2) hx hb d_Law_law_111 (by decide) ?_
  refine kx_sld E w hX hbl hbA (by unfold vp_in; decide) (v := (xs 2)) rfl d_Law_law_112 ?_
  refine lv_i2l (v := ((xs 2).toInt64)) hx hb d_Law_law_113 rfl ?_
  refine lv_bipush (v := 32) hx hb d_Law_law_114 (by decide) ?_
  refine lv_lshl (v := (((xs 2).toInt64) <<< ((32 : Int32).toInt64 &&& 63))) hx hb d_Law_law_116 rfl ?_
  refine lv_aload_n hx hb d_Law_law_117 rfl (lv_at hl 0 rfl) ?_
  refine lv_iload hx hb d_Law_law_118 (lv_at hl 4 rfl) ?_
  refine lv_iconst (v := 3) hx hb d_Law_law_120 (by decide) ?_
  refine kx_iadd (v := 3) hx hb d_Law_law_121 (by decide) ?_
  refine kx_sld E w hX hbl hbA (by unfold vp_in; decide) (v := (xs 3)) rfl d_Law_law_122 ?_
  refine lv_i2l (v := ((xs 3).toInt64)) hx hb d_Law_law_123 rfl ?_
  refine lv_ldc2 (v := 4294967295) hx hb E.1.2.2.2.1 (E.1.2.2.2.2 _ mw_490) d_Law_law_124 ?_
  refine kx_land (v := (((xs 3).toInt64) &&& 4294967295)) hx hb d_Law_law_127 rfl ?_
  refine kx_lor (v := ((((xs 2).toInt64) <<< ((32 : Int32).toInt64 &&& 63)) ||| (((xs 3).toInt64) &&& 4294967295))) hx hb d_Law_law_128 rfl ?_
  refine lv_aload_n hx hb d_Law_law_129 rfl (lv_at hl 3 rfl) ?_
  refine kx_i E w (wc := [(h0, .inr (0, [.ref r0, .ref r1, .ref r2, .ref r3, .ref hv, .ref r5, .ref r6, .int 0, .int 0, .int (-1), .int 0])), (r0, .inl (a 2, 400, .inl f0)), (ho, .inl (a 1, 1, .inr (.inl fo)))]) (wr := [(hm, .inr (12, (mF r 0 0 0 (-1) 0 0 0 0 0 0))), ((r 1), .inl (a 0, 400, .inl k1))]) [0, 1, 2] [3, 4] rfl rfl ⟨rfl, rfl, by decide⟩ (kx_rSW E w hl.1 (As := [.ref h0, .int (nI k), .long ((((xs 2).toInt64) <<< ((32 : Int32).toInt64 &&& 63)) ||| (((xs 3).toInt64) &&& 4294967295)), .ref ho]) (wc := [(h0, .inr (0, [.ref r0, .ref r1, .ref r2, .ref r3, .ref hv, .ref r5, .ref r6, .int 0, .int 0, .int (-1), .int 0])), (r0, .inl (a 2, 400, .inl f0)), (ho, .inl (a 1, 1, .inr (.inl fo)))]) (h_feed_ok l D a h0 r0 r1 r2 r3 hv r5 r6 f0 ho fo k (by omega) ((((xs 2).toInt64) <<< ((32 : Int32).toInt64 &&& 63)) ||| (((xs 3).toInt64) &&& 4294967295)) H.size) gc_74 gs_Law_feed [0, 1, 2] rfl rfl rfl rfl rfl ⟨(Nat.le_of_ble_eq_true rfl), (Nat.le_of_ble_eq_true rfl)⟩ rfl (Nat.le_of_ble_eq_true rfl) d_Law_law_130 ⟨(Nat.le_of_ble_eq_true rfl), (Nat.le_of_ble_eq_true rfl)⟩) (fun rr u H locs hu w => ?_)
  obtain ⟨fz1, rfl, rfl⟩ := hu
  have w : kW D A s [(hm, .inr (12, (mF r 0 0 0 (-1) 0 0 0 0 0 0))), ((r 1), .inl (a 0, 400, .inl k1)), (ho, .inl (a 1, 1, .inr (.inl (vp_updL fo 0 ((nI k).toInt64))))), (h0, .inr (0, [.ref r0, .ref r1, .ref r2, .ref r3, .ref hv, .ref r5, .ref r6, .int (nI k), .int 0, .int (-1), .int 0])), (r0, .inl (a 2, 400, .inl fz1))] H locs := w
  refine lv_istore (lv' := [(5, .int 0), (0, .ref b), (1, .ref h0), (2, .ref hm), (3, .ref ho), (4, .int 0)]) hx hb d_Law_law_133 hl (by decide) rfl (fun ls hl => ?_)
  refine lv_aload_n hx hb d_Law_law_135 rfl (lv_at hl 3 rfl) ?_
  refine lv_aload_n hx hb d_Law_law_136 rfl (lv_at hl 1 rfl) ?_
  refine lv_iload hx hb d_Law_law_137 (lv_at hl 5 rfl) ?_
  refine lv_iconst (v := 1) hx hb d_Law_law_139 (by decide) ?_
  refine kx_iadd (v := 1) hx hb d_Law_law_140 (by decide) ?_
  refine kx_sld E w hX hbl hbA (by unfold vp_in; decide) (v := (nI k)) h1 d_Law_law_141 ?_
  refine lv_aload_n hx hb d_Law_law_142 rfl (lv_at hl 1 rfl) ?_
  refine lv_iload hx hb d_Law_law_143 (lv_at hl 5 rfl) ?_
  refine lv_iconst (v := 2) hx hb d_Law_law_145 (by decide) ?_
  refine kx_iadd (v := 2) hx hb d_Law_law_146 (by decide) ?_
  refine kx_sld E w hX hbl hbA (by unfold vp_in; decide) (v := (xs 2)) rfl d_Law_law_147 ?_
  refine lv_i2l (v := ((xs 2).toInt64)) hx hb d_Law_law_148 rfl ?_
  refine lv_bipush (v := 32) hx hb d_Law_law_149 (by decide) ?_
  refine lv_lshl (v := (((xs 2).toInt64) <<< ((32 : Int32).toInt64 &&& 63))) hx hb d_Law_law_151 rfl ?_
  refine lv_aload_n hx hb d_Law_law_152 rfl (lv_at hl 1 rfl) ?_
  refine lv_iload hx hb d_Law_law_153 (lv_at hl 5 rfl) ?_
  refine lv_iconst (v := 3) hx hb d_Law_law_155 (by decide) ?_
  refine kx_iadd (v := 3) hx hb d_Law_law_156 (by decide) ?_
  refine kx_sld E w hX hbl hbA (by unfold vp_in; decide) (v := (xs 3)) rfl d_Law_law_157 ?_
  refine lv_i2l (v := ((xs 3).toInt64)) hx hb d_Law_law_158 rfl ?_
  refine lv_ldc2 (v := 4294967295) hx hb E.1.2.2.2.1 (E.1.2.2.2.2 _ mw_490) d_Law_law_159 ?_
  refine kx_land (v := (((xs 3).toInt64) &&& 4294967295)) hx hb d_Law_law_162 rfl ?_
  refine kx_lor (v := ((((xs 2).toInt64) <<< ((32 : Int32).toInt64 &&& 63)) ||| (((xs 3).toInt64) &&& 4294967295))) hx hb d_Law_law_163 rfl ?_
  refine kx_i E w (wc := [(hm, .inr (12, (mF r 0 0 0 (-1) 0 0 0 0 0 0))), ((r 1), .inl (a 0, 400, .inl k1))]) (wr := [(ho, .inl (a 1, 1, .inr (.inl (vp_updL fo 0 ((nI k).toInt64))))), (h0, .inr (0, [.ref r0, .ref r1, .ref r2, .ref r3, .ref hv, .ref r5, .ref r6, .int (nI k), .int 0, .int (-1), .int 0])), (r0, .inl (a 2, 400, .inl fz1))]) [0, 1] [2, 3, 4] rfl rfl ⟨rfl, rfl, by decide⟩ (kx_rV E w hl.1 (As := [.int (nI k), .long ((((xs 2).toInt64) <<< ((32 : Int32).toInt64 &&& 63)) ||| (((xs 3).toInt64) &&& 4294967295))]) (wc := [(hm, .inr (12, (mF r 0 0 0 (-1) 0 0 0 0 0 0))), ((r 1), .inl (a 0, 400, .inl k1))]) (c_Md_feed l D a hm r 0 0 (-1) 0 0 0 0 0 0 k1 k (by omega) ((((xs 2).toInt64) <<< ((32 : Int32).toInt64 &&& 63)) ||| (((xs 3).toInt64) &&& 4294967295)) H.size) gc_75 gv_Md_feed (kRecv E w 12 0 rfl rfl) [0, 1] rfl rfl rfl rfl rfl ⟨(Nat.le_of_ble_eq_true rfl), (Nat.le_of_ble_eq_true rfl)⟩ rfl (Nat.le_of_ble_eq_true rfl) d_Law_law_164 ⟨(Nat.le_of_ble_eq_true rfl), (Nat.le_of_ble_eq_true rfl)⟩) (fun rr u H locs hu w => ?_)
  obtain ⟨fz2, hrr, rfl⟩ := hu
  rw [hrr]
  clear hrr
  have w : kW D A s [(ho, .inl (a 1, 1, .inr (.inl (vp_updL fo 0 ((nI k).toInt64))))), (h0, .inr (0, [.ref r0, .ref r1, .ref r2, .ref r3, .ref hv, .ref r5, .ref r6, .int (nI k), .int 0, .int (-1), .int 0])), (r0, .inl (a 2, 400, .inl fz1)), ((r 1), .inl (a 0, 400, .inl fz2)), (hm, .inr (12, (mF r 0 (nI k) 0 (-1) 0 0 0 0 0 0)))] H locs := w
  refine lv_istore (lv' := [(6, .int (nI k)), (5, .int 0), (0, .ref b), (1, .ref h0), (2, .ref hm), (3, .ref ho), (4, .int 0)]) hx hb d_Law_law_167 hl (by decide) rfl (fun ls hl => ?_)
  refine lv_aload_n hx hb d_Law_law_169 rfl (lv_at hl 4 rfl) ?_
  refine kx_i E w (wc := [(hm, .inr (12, (mF r 0 (nI k) 0 (-1) 0 0 0 0 0 0)))]) (wr := [(ho, .inl (a 1, 1, .inr (.inl (vp_updL fo 0 ((nI k).toInt64))))), (h0, .inr (0, [.ref r0, .ref r1, .ref r2, .ref r3, .ref hv, .ref r5, .ref r6, .int (nI k), .int 0, .int (-1), .int 0])), (r0, .inl (a 2, 400, .inl fz1)), ((r 1), .inl (a 0, 400, .inl fz2))]) [4] [0, 1, 2, 3] rfl rfl ⟨rfl, rfl, by decide⟩ (kx_rV E w hl.1 (As := []) (wc := [(hm, .inr (12, (mF r 0 (nI k) 0 (-1) 0 0 0 0 0 0)))]) (c_Md_thrown l D a hm r 0 (nI k) 0 (-1) 0 0 0 0 0 0 H.size) gc_76 gv_Md_thrown (kRecv E w 12 4 rfl rfl) [4] rfl rfl rfl rfl rfl ⟨(Nat.le_of_ble_eq_true rfl), (Nat.le_of_ble_eq_true rfl)⟩ rfl (Nat.le_of_ble_eq_true rfl) d_Law_law_170 ⟨(Nat.le_of_ble_eq_true rfl), (Nat.le_of_ble_eq_true rfl)⟩) (fun rr u H locs hu w => ?_)
  obtain ⟨hrr, rfl⟩ := hu
  rw [hrr]
  clear hrr
  have w : kW D A s [(ho, .inl (a 1, 1, .inr (.inl (vp_updL fo 0 ((nI k).toInt64))))), (h0, .inr (0, [.ref r0, .ref r1, .ref r2, .ref r3, .ref hv, .ref r5, .ref r6, .int (nI k), .int 0, .int (-1), .int 0])), (r0, .inl (a 2, 400, .inl fz1)), ((r 1), .inl (a 0, 400, .inl fz2)), (hm, .inr (12, (mF r 0 (nI k) 0 (-1) 0 0 0 0 0 0)))] H locs := w
  refine lv_iload hx hb d_Law_law_173 (lv_at hl 1 rfl) ?_
  refine lv_icmp_eq (tgt := 180) hx hb d_Law_law_175 (by decide) (fun _ => ?_) (fun h => absurd (by decide) h)
  refine lv_iload hx hb d_Law_law_180 (lv_at hl 1 rfl) ?_
  refine lv_if_ne (tgt := 197) hx hb d_Law_law_182 (by decide) (fun h => absurd (by decide) h) (fun _ => ?_)
  refine lv_aload_n hx hb d_Law_law_185 rfl (lv_at hl 5 rfl) ?_
  refine lv_iconst (v := 0) hx hb d_Law_law_186 (by decide) ?_
  refine kx_lald E w 0 rfl (by unfold vp_in; decide) (v := ((nI k).toInt64)) rfl d_Law_law_187 ?_
  refine lv_iload hx hb d_Law_law_188 (lv_at hl 0 rfl) ?_
  refine lv_i2l (v := ((nI k).toInt64)) hx hb d_Law_law_190 rfl ?_
  refine kx_lcmp (v := 0) hx hb d_Law_law_191 (kc_self _) ?_
  refine lv_if_eq (tgt := 197) hx hb d_Law_law_192 (by decide) (fun _ => ?_) (fun h => absurd (by decide) h)
  refine lv_goto (tgt := 815) hx hb d_Law_law_197 (by decide) ?_
  refine lv_iinc (v := 4) (lv' := [(4, .int 4), (6, .int (nI k)), (5, .int 0), (0, .ref b), (1, .ref h0), (2, .ref hm), (3, .ref ho)]) hx hb d_Law_law_815 hl (k := 6) rfl (by decide) (by decide) rfl (fun ls hl => ?_)
  refine lv_goto (tgt := 23) hx hb d_Law_law_818 (by decide) ?_
  refine lv_iload hx hb d_Law_law_23 (lv_at hl 0 rfl) ?_
  refine lv_aload_n hx hb d_Law_law_25 rfl (lv_at hl 3 rfl) ?_
  refine kx_slen E w hX hbl hbA (v := 4) rfl d_Law_law_26 ?_
  refine lv_iconst (v := 4) hx hb d_Law_law_27 (by decide) ?_
  refine kx_isub (v := 0) hx hb d_Law_law_28 (by decide) ?_
  refine lv_icmp_gt (tgt := 821) hx hb d_Law_law_29 (by decide) (fun _ => ?_) (fun h => absurd (by decide) h)
  refine lv_iconst (v := 1) hx hb d_Law_law_821 (by decide) ?_
  refine va_forget (fun q hq => hA0 _ (w.2.2.2.2 q hq)) ?_
  refine W.widen (k := 600002) (n := 7302231) (Nat.le_of_ble_eq_true rfl) (Nat.le_of_ble_eq_true rfl) ?_
  exact lw_ret hx hb hr hlk d_Law_law_822
set_option maxRecDepth 100000 in
set_option maxHeartbeats 4000000 in
theorem lf_feed_bad {p : Program} {l : Launch} {e : Env} {s : State} {m : MethodId} {below : List Frame} {meth : Method} {c : Code} {D : va_G} {a : Nat → ClassId} {A : Nat → Prop} {b : Nat} {xs : Nat → Int32} (hl9 : l.stackTraces = false) (E : kE p m c code 8 s #[Value.ref b] "RootAlgebraLaw" D a A) (hr : meth.sig.returnType = ret) (hlk : meth.locks = false) (hA0 : ∀ q, A q → s.heap.size ≤ q) (hX : va_X b 4 xs s s.heap) (hbl : b < s.heap.size) (h0 : Nat) (r0 : Nat) (r1 : Nat) (r2 : Nat) (r3 : Nat) (hv : Nat) (r5 : Nat) (r6 : Nat) (ho : Nat) (fo : Nat → Int64) (hm : Nat) (r : Nat → Nat) (x : Int32) (hbad : x < 1 ∨ 8 < x) (h1 : xs 1 = x) {H : Heap} {locs : List Loc} {ls : Array Slot} (w : kW D A s [(h0, .inr (0, [.ref r0, .ref r1, .ref r2, .ref r3, .ref hv, .ref r5, .ref r6, .int 0, .int 0, .int (-1), .int 0])), (ho, .inl (a 1, 1, .inr (.inl fo))), (hm, .inr (12, (mF r 0 0 0 (-1) 0 0 0 0 0 0)))] H locs) (hl : lv_has ls 8 [(0, .ref b), (1, .ref h0), (2, .ref hm), (3, .ref ho), (4, .int 0)]) : W p l e room_1 s m #[Value.ref b] below meth c H locs 616 107719 (lw_Z below #[Value.ref b] s) (F0 m 100 ls []) := by
  have hx := E.1.1
  have hb := E.1.2.1
  have hbA : ¬ A b := fun h => absurd (hA0 b h) (Nat.not_le.mpr hbl)
  refine lv_aload_n hx hb d_Law_law_100 rfl (lv_at hl 1 rfl) ?_
  refine lv_aload_n hx hb d_Law_law_101 rfl (lv_at hl 0 rfl) ?_
  refine lv_iload hx hb d_Law_law_102 (lv_at hl 4 rfl) ?_
  refine lv_iconst (v := 1) hx hb d_Law_law_104 (by decide) ?_
  refine kx_iadd (v := 1) hx hb d_Law_law_105 (by decide) ?_
  refine kx_sld E w hX hbl hbA (by unfold vp_in; decide) (v := x) h1 d_Law_law_106 ?_
  refine lv_aload_n hx hb d_Law_law_107 rfl (lv_at hl 0 rfl) ?_
  refine lv_iload hx hb d_Law_law_108 (lv_at hl 4 rfl) ?_
  refine lv_iconst (v := 2) hx hb d_Law_law_110 (by decide) ?_
  refine kx_iadd (v := 2) hx hb d_Law_law_111 (by decide) ?_
  refine kx_sld E w hX hbl hbA (by unfold vp_in; decide) (v := (xs 2)) rfl d_Law_law_112 ?_
  refine lv_i2l (v := ((xs 2).toInt64)) hx hb d_Law_law_113 rfl ?_
  refine lv_bipush (v := 32) hx hb d_Law_law_114 (by decide) ?_
  refine lv_lshl (v := (((xs 2).toInt64) <<< ((32 : Int32).toInt64 &&& 63))) hx hb d_Law_law_116 rfl ?_
  refine lv_aload_n hx hb d_Law_law_117 rfl (lv_at hl 0 rfl) ?_
  refine lv_iload hx hb d_Law_law_118 (lv_at hl 4 rfl) ?_
  refine lv_iconst (v := 3) hx hb d_Law_law_120 (by decide) ?_
  refine kx_iadd (v := 3) hx hb d_Law_law_121 (by decide) ?_
  refine kx_sld E w hX hbl hbA (by unfold vp_in; decide) (v := (xs 3)) rfl d_Law_law_122 ?_
  refine lv_i2l (v := ((xs 3).toInt64)) hx hb d_Law_law_123 rfl ?_
  refine lv_ldc2 (v := 4294967295) hx hb E.1.2.2.2.1 (E.1.2.2.2.2 _ mw_490) d_Law_law_124 ?_
  refine kx_land (v := (((xs 3).toInt64) &&& 4294967295)) hx hb d_Law_law_127 rfl ?_
  refine kx_lor (v := ((((xs 2).toInt64) <<< ((32 : Int32).toInt64 &&& 63)) ||| (((xs 3).toInt64) &&& 4294967295))) hx hb d_Law_law_128 rfl ?_
  refine lv_aload_n hx hb d_Law_law_129 rfl (lv_at hl 3 rfl) ?_
  refine kx_i E w (wc := [(h0, .inr (0, [.ref r0, .ref r1, .ref r2, .ref r3, .ref hv, .ref r5, .ref r6, .int 0, .int 0, .int (-1), .int 0])), (ho, .inl (a 1, 1, .inr (.inl fo)))]) (wr := [(hm, .inr (12, (mF r 0 0 0 (-1) 0 0 0 0 0 0)))]) [0, 1] [2] rfl rfl ⟨rfl, rfl, by decide⟩ (kx_rSW E w hl.1 (As := [.ref h0, .int x, .long ((((xs 2).toInt64) <<< ((32 : Int32).toInt64 &&& 63)) ||| (((xs 3).toInt64) &&& 4294967295)), .ref ho]) (wc := [(h0, .inr (0, [.ref r0, .ref r1, .ref r2, .ref r3, .ref hv, .ref r5, .ref r6, .int 0, .int 0, .int (-1), .int 0])), (ho, .inl (a 1, 1, .inr (.inl fo)))]) (h_feed_bad l hl9 D a h0 r0 r1 r2 r3 hv r5 r6 ho fo x hbad ((((xs 2).toInt64) <<< ((32 : Int32).toInt64 &&& 63)) ||| (((xs 3).toInt64) &&& 4294967295)) H.size) gc_74 gs_Law_feed [0, 1] rfl rfl rfl rfl rfl ⟨(Nat.le_of_ble_eq_true rfl), (Nat.le_of_ble_eq_true rfl)⟩ rfl (Nat.le_of_ble_eq_true rfl) d_Law_law_130 ⟨(Nat.le_of_ble_eq_true rfl), (Nat.le_of_ble_eq_true rfl)⟩) (fun rr u H locs hu w => ?_)
  obtain ⟨rfl, rfl⟩ := hu
  have w : kW D A s [(hm, .inr (12, (mF r 0 0 0 (-1) 0 0 0 0 0 0))), (ho, .inl (a 1, 1, .inr (.inl fo))), (h0, .inr (0, [.ref r0, .ref r1, .ref r2, .ref r3, .ref hv, .ref r5, .ref r6, .int 0, .int 0, .int (-1), .int 0]))] H locs := w
  refine lv_istore (lv' := [(5, .int 1), (0, .ref b), (1, .ref h0), (2, .ref hm), (3, .ref ho), (4, .int 0)]) hx hb d_Law_law_133 hl (by decide) rfl (fun ls hl => ?_)
  refine lv_aload_n hx hb d_Law_law_135 rfl (lv_at hl 3 rfl) ?_
  refine lv_aload_n hx hb d_Law_law_136 rfl (lv_at hl 1 rfl) ?_
  refine lv_iload hx hb d_Law_law_137 (lv_at hl 5 rfl) ?_
  refine lv_iconst (v := 1) hx hb d_Law_law_139 (by decide) ?_
  refine kx_iadd (v := 1) hx hb d_Law_law_140 (by decide) ?_
  refine kx_sld E w hX hbl hbA (by unfold vp_in; decide) (v := x) h1 d_Law_law_141 ?_
  refine lv_aload_n hx hb d_Law_law_142 rfl (lv_at hl 1 rfl) ?_
  refine lv_iload hx hb d_Law_law_143 (lv_at hl 5 rfl) ?_
  refine lv_iconst (v := 2) hx hb d_Law_law_145 (by decide) ?_
  refine kx_iadd (v := 2) hx hb d_Law_law_146 (by decide) ?_
  refine kx_sld E w hX hbl hbA (by unfold vp_in; decide) (v := (xs 2)) rfl d_Law_law_147 ?_
  refine lv_i2l (v := ((xs 2).toInt64)) hx hb d_Law_law_148 rfl ?_
  refine lv_bipush (v := 32) hx hb d_Law_law_149 (by decide) ?_
  refine lv_lshl (v := (((xs 2).toInt64) <<< ((32 : Int32).toInt64 &&& 63))) hx hb d_Law_law_151 rfl ?_
  refine lv_aload_n hx hb d_Law_law_152 rfl (lv_at hl 1 rfl) ?_
  refine lv_iload hx hb d_Law_law_153 (lv_at hl 5 rfl) ?_
  refine lv_iconst (v := 3) hx hb d_Law_law_155 (by decide) ?_
  refine kx_iadd (v := 3) hx hb d_Law_law_156 (by decide) ?_
  refine kx_sld E w hX hbl hbA (by unfold vp_in; decide) (v := (xs 3)) rfl d_Law_law_157 ?_
  refine lv_i2l (v := ((xs 3).toInt64)) hx hb d_Law_law_158 rfl ?_
  refine lv_ldc2 (v := 4294967295) hx hb E.1.2.2.2.1 (E.1.2.2.2.2 _ mw_490) d_Law_law_159 ?_
  refine kx_land (v := (((xs 3).toInt64) &&& 4294967295)) hx hb d_Law_law_162 rfl ?_
  refine kx_lor (v := ((((xs 2).toInt64) <<< ((32 : Int32).toInt64 &&& 63)) ||| (((xs 3).toInt64) &&& 4294967295))) hx hb d_Law_law_163 rfl ?_
  refine kx_i E w (wc := [(hm, .inr (12, (mF r 0 0 0 (-1) 0 0 0 0 0 0)))]) (wr := [(ho, .inl (a 1, 1, .inr (.inl fo))), (h0, .inr (0, [.ref r0, .ref r1, .ref r2, .ref r3, .ref hv, .ref r5, .ref r6, .int 0, .int 0, .int (-1), .int 0]))]) [0] [1, 2] rfl rfl ⟨rfl, rfl, by decide⟩ (kx_rV E w hl.1 (As := [.int x, .long ((((xs 2).toInt64) <<< ((32 : Int32).toInt64 &&& 63)) ||| (((xs 3).toInt64) &&& 4294967295))]) (wc := [(hm, .inr (12, (mF r 0 0 0 (-1) 0 0 0 0 0 0)))]) (c_Md_feed_bad l D a hm r 0 0 0 (-1) 0 0 0 0 0 0 x ((((xs 2).toInt64) <<< ((32 : Int32).toInt64 &&& 63)) ||| (((xs 3).toInt64) &&& 4294967295)) hbad H.size) gc_75 gv_Md_feed (kRecv E w 12 0 rfl rfl) [0] rfl rfl rfl rfl rfl ⟨(Nat.le_of_ble_eq_true rfl), (Nat.le_of_ble_eq_true rfl)⟩ rfl (Nat.le_of_ble_eq_true rfl) d_Law_law_164 ⟨(Nat.le_of_ble_eq_true rfl), (Nat.le_of_ble_eq_true rfl)⟩) (fun rr u H locs hu w => ?_)
  obtain ⟨rfl, rfl⟩ := hu
  have w : kW D A s [(ho, .inl (a 1, 1, .inr (.inl fo))), (h0, .inr (0, [.ref r0, .ref r1, .ref r2, .ref r3, .ref hv, .ref r5, .ref r6, .int 0, .int 0, .int (-1), .int 0])), (hm, .inr (12, (mF r 1 0 0 (-1) 0 0 0 0 0 0)))] H locs := w
  refine lv_istore (lv' := [(6, .int 0), (5, .int 1), (0, .ref b), (1, .ref h0), (2, .ref hm), (3, .ref ho), (4, .int 0)]) hx hb d_Law_law_167 hl (by decide) rfl (fun ls hl => ?_)
  refine lv_aload_n hx hb d_Law_law_169 rfl (lv_at hl 4 rfl) ?_
  refine kx_i E w (wc := [(hm, .inr (12, (mF r 1 0 0 (-1) 0 0 0 0 0 0)))]) (wr := [(ho, .inl (a 1, 1, .inr (.inl fo))), (h0, .inr (0, [.ref r0, .ref r1, .ref r2, .ref r3, .ref hv, .ref r5, .ref r6, .int 0, .int 0, .int (-1), .int 0]))]) [2] [0, 1] rfl rfl ⟨rfl, rfl, by decide⟩ (kx_rV E w hl.1 (As := []) (wc := [(hm, .inr (12, (mF r 1 0 0 (-1) 0 0 0 0 0 0)))]) (c_Md_thrown l D a hm r 1 0 0 (-1) 0 0 0 0 0 0 H.size) gc_76 gv_Md_thrown (kRecv E w 12 2 rfl rfl) [2] rfl rfl rfl rfl rfl ⟨(Nat.le_of_ble_eq_true rfl), (Nat.le_of_ble_eq_true rfl)⟩ rfl (Nat.le_of_ble_eq_true rfl) d_Law_law_170 ⟨(Nat.le_of_ble_eq_true rfl), (Nat.le_of_ble_eq_true rfl)⟩) (fun rr u H locs hu w => ?_)
  obtain ⟨hrr, rfl⟩ := hu
  rw [hrr]
  clear hrr
  have w : kW D A s [(ho, .inl (a 1, 1, .inr (.inl fo))), (h0, .inr (0, [.ref r0, .ref r1, .ref r2, .ref r3, .ref hv, .ref r5, .ref r6, .int 0, .int 0, .int (-1), .int 0])), (hm, .inr (12, (mF r 1 0 0 (-1) 0 0 0 0 0 0)))] H locs := w
  refine lv_iload hx hb d_Law_law_173 (lv_at hl 1 rfl) ?_
  refine lv_icmp_eq (tgt := 180) hx hb d_Law_law_175 (by decide) (fun _ => ?_) (fun h => absurd (by decide) h)
  refine lv_iload hx hb d_Law_law_180 (lv_at hl 1 rfl) ?_
  refine lv_if_ne (tgt := 197) hx hb d_Law_law_182 (by decide) (fun _ => ?_) (fun h => absurd h (by decide))
  refine lv_goto (tgt := 815) hx hb d_Law_law_197 (by decide) ?_
  refine lv_iinc (v := 4) (lv' := [(4, .int 4), (6, .int 0), (5, .int 1), (0, .ref b), (1, .ref h0), (2, .ref hm), (3, .ref ho)]) hx hb d_Law_law_815 hl (k := 6) rfl (by decide) (by decide) rfl (fun ls hl => ?_)
  refine lv_goto (tgt := 23) hx hb d_Law_law_818 (by decide) ?_
  refine lv_iload hx hb d_Law_law_23 (lv_at hl 0 rfl) ?_
  refine lv_aload_n hx hb d_Law_law_25 rfl (lv_at hl 3 rfl) ?_
  refine kx_slen E w hX hbl hbA (v := 4) rfl d_Law_law_26 ?_
  refine lv_iconst (v := 4) hx hb d_Law_law_27 (by decide) ?_
  refine kx_isub (v := 0) hx hb d_Law_law_28 (by decide) ?_
  refine lv_icmp_gt (tgt := 821) hx hb d_Law_law_29 (by decide) (fun _ => ?_) (fun h => absurd (by decide) h)
  refine lv_iconst (v := 1) hx hb d_Law_law_821 (by decide) ?_
  refine va_forget (fun q hq => hA0 _ (w.2.2.2.2 q hq)) ?_
  refine W.widen (k := 600002) (n := 7302231) (Nat.le_of_ble_eq_true rfl) (Nat.le_of_ble_eq_true rfl) ?_
  exact lw_ret hx hb hr hlk d_Law_law_822
