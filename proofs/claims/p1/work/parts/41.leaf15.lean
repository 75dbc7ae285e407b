/-! laid by program (wip/gen) -/
set_option maxRecDepth 100000 in
set_option maxHeartbeats 4000000 in
theorem lf_line {p : Program} {l : Launch} {e : Env} {s : State} {m : MethodId} {below : List Frame} {meth : Method} {c : Code} {D : va_G} {a : Nat → ClassId} {A : Nat → Prop} {b : Nat} {xs : Nat → Int32} (hl9 : l.stackTraces = false) (E : kE p m c code 8 s #[Value.ref b] "RootAlgebraLaw" D a A) (hr : meth.sig.returnType = ret) (hlk : meth.locks = false) (hA0 : ∀ q, A q → s.heap.size ≤ q) (hX : va_X b 4 xs s s.heap) (hbl : b < s.heap.size) (h0 : Nat) (r0 : Nat) (r1 : Nat) (r2 : Nat) (r3 : Nat) (hv : Nat) (r5 : Nat) (r6 : Nat) (g0 : Nat) (f0 : Nat → Int32) (ho : Nat) (fo : Nat → Int64) (hm : Nat) (r : Nat → Nat) {H : Heap} {locs : List Loc} {ls : Array Slot} (w : kW D A s [(h0, .inr (0, [.ref r0, .ref r1, .ref r2, .ref r3, .ref hv, .ref r5, .ref r6, .int 0, .int 0, .int (-1), .int 0])), (r5, .inr (9, [.ref g0, .ref r0, .int 0, .int 0, .int 0, .int 0, .int 0])), (r0, .inl (a 2, 400, .inl f0)), (ho, .inl (a 1, 1, .inr (.inl fo))), (hm, .inr (12, (mF r 0 0 0 (-1) 0 0 0 0 0 0)))] H locs) (hl : lv_has ls 8 [(0, .ref b), (1, .ref h0), (2, .ref hm), (3, .ref ho), (4, .int 0)]) : W p l e room_1 s m #[Value.ref b] below meth c H locs 616 107719 (lw_Z below #[Value.ref b] s) (F0 m 200 ls []) := by
  have hx := E.1.1
  have hb := E.1.2.1
  have hbA : ¬ A b := fun h => absurd (hA0 b h) (Nat.not_le.mpr hbl)
  refine lv_aload_n hx hb d_Law_law_200 rfl (lv_at hl 1 rfl) ?_
  refine kx_i E w (wc := [(h0, .inr (0, [.ref r0, .ref r1, .ref r2, .ref r3, .ref hv, .ref r5, .ref r6, .int 0, .int 0, .int (-1), .int 0])), (r5, .inr (9, [.ref g0, .ref r0, .int 0, .int 0, .int 0, .int 0, .int 0])), (r0, .inl (a 2, 400, .inl f0))]) (wr := [(ho, .inl (a 1, 1, .inr (.inl fo))), (hm, .inr (12, (mF r 0 0 0 (-1) 0 0 0 0 0 0)))]) [0, 1, 2] [3, 4] rfl rfl ⟨rfl, rfl, by decide⟩ (kx_rV E w hl.1 (As := []) (wc := [(h0, .inr (0, [.ref r0, .ref r1, .ref r2, .ref r3, .ref hv, .ref r5, .ref r6, .int 0, .int 0, .int (-1), .int 0])), (r5, .inr (9, [.ref g0, .ref r0, .int 0, .int 0, .int 0, .int 0, .int 0])), (r0, .inl (a 2, 400, .inl f0))]) (c_RA_line l D a h0 r0 r1 r2 r3 hv r5 r6 g0 0 0 f0 H.size) gc_97 gv_RA_line (kRecv E w 0 0 rfl rfl) [0, 1, 2] rfl rfl rfl rfl rfl ⟨(Nat.le_of_ble_eq_true rfl), (Nat.le_of_ble_eq_true rfl)⟩ rfl (Nat.le_of_ble_eq_true rfl) d_Law_law_201 ⟨(Nat.le_of_ble_eq_true rfl), (Nat.le_of_ble_eq_true rfl)⟩) (fun rr u H locs hu w => ?_)
  obtain ⟨rfl, rfl⟩ := hu
  have w : kW D A s [(ho, .inl (a 1, 1, .inr (.inl fo))), (hm, .inr (12, (mF r 0 0 0 (-1) 0 0 0 0 0 0))), (h0, .inr (0, [.ref r0, .ref r1, .ref r2, .ref r3, .ref hv, .ref r5, .ref r6, .int 0, .int 0, .int 0, .int 0])), (r0, .inl (a 2, 400, .inl f0)), (r5, .inr (9, [.ref g0, .ref r0, .int 0, .int 0, .int 0, .int 0, .int (-1)]))] H locs := w
  refine lv_aload_n hx hb d_Law_law_204 rfl (lv_at hl 2 rfl) ?_
  refine kx_i E w (wc := [(hm, .inr (12, (mF r 0 0 0 (-1) 0 0 0 0 0 0)))]) (wr := [(ho, .inl (a 1, 1, .inr (.inl fo))), (h0, .inr (0, [.ref r0, .ref r1, .ref r2, .ref r3, .ref hv, .ref r5, .ref r6, .int 0, .int 0, .int 0, .int 0])), (r0, .inl (a 2, 400, .inl f0)), (r5, .inr (9, [.ref g0, .ref r0, .int 0, .int 0, .int 0, .int 0, .int (-1)]))]) [1] [0, 2, 3, 4] rfl rfl ⟨rfl, rfl, by decide⟩ (kx_rV E w hl.1 (As := []) (wc := [(hm, .inr (12, (mF r 0 0 0 (-1) 0 0 0 0 0 0)))]) (c_Md_line l D a hm r 0 0 (-1) 0 0 0 0 0 0 H.size) gc_98 gv_Md_line (kRecv E w 12 1 rfl rfl) [1] rfl rfl rfl rfl rfl ⟨(Nat.le_of_ble_eq_true rfl), (Nat.le_of_ble_eq_true rfl)⟩ rfl (Nat.le_of_ble_eq_true rfl) d_Law_law_205 ⟨(Nat.le_of_ble_eq_true rfl), (Nat.le_of_ble_eq_true rfl)⟩) (fun rr u H locs hu w => ?_)
  obtain ⟨rfl, rfl⟩ := hu
  have w : kW D A s [(ho, .inl (a 1, 1, .inr (.inl fo))), (h0, .inr (0, [.ref r0, .ref r1, .ref r2, .ref r3, .ref hv, .ref r5, .ref r6, .int 0, .int 0, .int 0, .int 0])), (r0, .inl (a 2, 400, .inl f0)), (r5, .inr (9, [.ref g0, .ref r0, .int 0, .int 0, .int 0, .int 0, .int (-1)])), (hm, .inr (12, (mF r 0 0 0 0 0 0 0 (-1) 0 0)))] H locs := w
  refine lv_icmp_eq (tgt := 815) hx hb d_Law_law_208 (by decide) (fun _ => ?_) (fun h => absurd (by decide) h)
  refine lv_iinc (v := 4) (lv' := [(4, .int 4), (0, .ref b), (1, .ref h0), (2, .ref hm), (3, .ref ho)]) hx hb d_Law_law_815 hl (k := 4) rfl (by decide) (by decide) rfl (fun ls hl => ?_)
  refine lv_goto (tgt := 23) hx hb d_Law_law_818 (by decide) ?_
  refine lv_iload hx hb d_Law_law_23 (lv_at hl 0 rfl) ?_
  refine lv_aload_n hx hb d_Law_law_25 rfl (lv_at hl 1 rfl) ?_
  refine kx_slen E w hX hbl hbA (v := 4) rfl d_Law_law_26 ?_
  refine lv_iconst (v := 4) hx hb d_Law_law_27 (by decide) ?_
  refine kx_isub (v := 0) hx hb d_Law_law_28 (by decide) ?_
  refine lv_icmp_gt (tgt := 821) hx hb d_Law_law_29 (by decide) (fun _ => ?_) (fun h => absurd (by decide) h)
  refine lv_iconst (v := 1) hx hb d_Law_law_821 (by decide) ?_
  refine va_forget (fun q hq => hA0 _ (w.2.2.2.2 q hq)) ?_
  refine W.widen (k := 600002) (n := 7302231) (Nat.le_of_ble_eq_true rfl) (Nat.le_of_ble_eq_true rfl) ?_
  exact lw_ret hx hb hr hlk d_Law_law_822
set_option maxRecDepth 100000 in
set_option maxHeartbeats 4000000 in
theorem lf_rest {p : Program} {l : Launch} {e : Env} {s : State} {m : MethodId} {below : List Frame} {meth : Method} {c : Code} {D : va_G} {a : Nat → ClassId} {A : Nat → Prop} {b : Nat} {xs : Nat → Int32} (hl9 : l.stackTraces = false) (E : kE p m c code 8 s #[Value.ref b] "RootAlgebraLaw" D a A) (hr : meth.sig.returnType = ret) (hlk : meth.locks = false) (hA0 : ∀ q, A q → s.heap.size ≤ q) (hX : va_X b 4 xs s s.heap) (hbl : b < s.heap.size) (h0 : Nat) (hm : Nat) (ho : Nat) {H : Heap} {locs : List Loc} {ls : Array Slot} (w : kW D A s [] H locs) (hl : lv_has ls 8 [(0, .ref b), (1, .ref h0), (2, .ref hm), (3, .ref ho), (4, .int 0)]) : W p l e room_1 s m #[Value.ref b] below meth c H locs 616 107719 (lw_Z below #[Value.ref b] s) (F0 m 815 ls []) := by
  have hx := E.1.1
  have hb := E.1.2.1
  have hbA : ¬ A b := fun h => absurd (hA0 b h) (Nat.not_le.mpr hbl)
  refine lv_iinc (v := 4) (lv' := [(4, .int 4), (0, .ref b), (1, .ref h0), (2, .ref hm), (3, .ref ho)]) hx hb d_Law_law_815 hl (k := 4) rfl (by decide) (by decide) rfl (fun ls hl => ?_)
  refine lv_goto (tgt := 23) hx hb d_Law_law_818 (by decide) ?_
  refine lv_iload hx hb d_Law_law_23 (lv_at hl 0 rfl) ?_
  refine lv_aload_n hx hb d_Law_law_25 rfl (lv_at hl 1 rfl) ?_
  refine kx_slen E w hX hbl hbA (v := 4) rfl d_Law_law_26 ?_
  refine lv_iconst (v := 4) hx hb d_Law_law_27 (by decide) ?_
  refine kx_isub (v := 0) hx hb d_Law_law_28 (by decide) ?_
  refine lv_icmp_gt (tgt := 821) hx hb d_Law_law_29 (by decide) (fun _ => ?_) (fun h => absurd (by decide) h)
  refine lv_iconst (v := 1) hx hb d_Law_law_821 (by decide) ?_
  refine va_forget (fun q hq => hA0 _ (w.2.2.2.2 q hq)) ?_
  refine W.widen (k := 600002) (n := 7302231) (Nat.le_of_ble_eq_true rfl) (Nat.le_of_ble_eq_true rfl) ?_
  exact lw_ret hx hb hr hlk d_Law_law_822
