/-! laid by program (wip/gen) -/
set_option maxRecDepth 100000 in
set_option maxHeartbeats 4000000 in
theorem lf_degree_none {p : Program} {l : Launch} {e : Env} {s : State} {m : MethodId} {below : List Frame} {meth : Method} {c : Code} {D : va_G} {a : Nat → ClassId} {A : Nat → Prop} {b : Nat} {xs : Nat → Int32} (hl9 : l.stackTraces = false) (E : kE p m c code 8 s #[Value.ref b] "RootAlgebraLaw" D a A) (hr : meth.sig.returnType = ret) (hlk : meth.locks = false) (hA0 : ∀ q, A q → s.heap.size ≤ q) (hX : va_X b 4 xs s s.heap) (hbl : b < s.heap.size) (h0 : Nat) (r0 : Nat) (r1 : Nat) (r2 : Nat) (r3 : Nat) (hv : Nat) (r5 : Nat) (r6 : Nat) (fv : Nat → Option Nat) (hy : Nat) (p0 : Nat) (p1 : Nat) (ho : Nat) (fo : Nat → Int64) (hm : Nat) (r : Nat → Nat) (j : Nat) (hj : j ≤ 15) (hf0 : fv j = some hy) (h1 : xs 1 = (nI j)) {H : Heap} {locs : List Loc} {ls : Array Slot} (w : kW D A s [(h0, .inr (0, [.ref r0, .ref r1, .ref r2, .ref r3, .ref hv, .ref r5, .ref r6, .int 0, .int 0, .int (-1), .int 0])), (hv, .inl (a 5, 17, .inr (.inr (.inr (.inr fv))))), (hy, .inr (11, [.ref p0, .ref p1, .int 0, .int 0, .int 0, .int 0, .int 0])), (ho, .inl (a 1, 1, .inr (.inl fo))), (hm, .inr (12, (mF r 0 0 0 (-1) 0 0 0 0 0 0))), ((r 7), .inl (a 3, 80, .inl (upd (fun _ => 0) 16 1)))] H locs) (hl : lv_has ls 8 [(0, .ref b), (1, .ref h0), (2, .ref hm), (3, .ref ho), (4, .int 0)]) : W p l e room_1 s m #[Value.ref b] below meth c H locs 616 107719 (lw_Z below #[Value.ref b] s) (F0 m 269 ls []) := by
  have hx := E.1.1
  have hb := E.1.2.1
  have hbA : ¬ A b := fun h => absurd (hA0 b h) (Nat.not_le.mpr hbl)
  refine lv_aload_n hx hb d_Law_law_269 rfl (lv_at hl 1 rfl) ?_
  refine lv_aload_n hx hb d_Law_law_270 rfl (lv_at hl 0 rfl) ?_
  refine lv_iload hx hb d_Law_law_271 (lv_at hl 4 rfl) ?_
  refine lv_iconst (v := 1) hx hb d_Law_law_273 (by decide) ?_
  refine kx_iadd (v := 1) hx hb d_Law_law_274 (by decide) ?_
  refine kx_sld E w hX hbl hbA (by unfold vp_in; decide) (v := (nI j)) h1 d_Law_law_275 ?_
  refine lv_aload_n hx hb d_Law_law_276 rfl (lv_at hl 3 rfl) ?_
  refine kx_i E w (wc := [(h0, .inr (0, [.ref r0, .ref r1, .ref r2, .ref r3, .ref hv, .ref r5, .ref r6, .int 0, .int 0, .int (-1), .int 0])), (hv, .inl (a 5, 17, .inr (.inr (.inr (.inr fv))))), (hy, .inr (11, [.ref p0, .ref p1, .int 0, .int 0, .int 0, .int 0, .int 0])), (ho, .inl (a 1, 1, .inr (.inl fo)))]) (wr := [(hm, .inr (12, (mF r 0 0 0 (-1) 0 0 0 0 0 0))), ((r 7), .inl (a 3, 80, .inl (upd (fun _ => 0) 16 1)))]) [0, 1, 2, 3] [4, 5] rfl rfl ⟨rfl, rfl, by decide⟩ (kx_rSW E w hl.1 (As := [.ref h0, .int (nI j), .ref ho]) (wc := [(h0, .inr (0, [.ref r0, .ref r1, .ref r2, .ref r3, .ref hv, .ref r5, .ref r6, .int 0, .int 0, .int (-1), .int 0])), (hv, .inl (a 5, 17, .inr (.inr (.inr (.inr fv))))), (hy, .inr (11, [.ref p0, .ref p1, .int 0, .int 0, .int 0, .int 0, .int 0])), (ho, .inl (a 1, 1, .inr (.inl fo)))]) (h_degree_none l D a h0 r0 r1 r2 r3 hv r5 r6 fv hy p0 p1 ho fo j (by omega) hf0 H.size) gc_79 gs_Law_degree [0, 1, 2, 3] rfl rfl rfl rfl rfl ⟨(Nat.le_of_ble_eq_true rfl), (Nat.le_of_ble_eq_true rfl)⟩ rfl (Nat.le_of_ble_eq_true rfl) d_Law_law_277 ⟨(Nat.le_of_ble_eq_true rfl), (Nat.le_of_ble_eq_true rfl)⟩) (fun rr u H locs hu w => ?_)
  obtain ⟨rfl, rfl⟩ := hu
  have w : kW D A s [(hm, .inr (12, (mF r 0 0 0 (-1) 0 0 0 0 0 0))), ((r 7), .inl (a 3, 80, .inl (upd (fun _ => 0) 16 1))), (ho, .inl (a 1, 1, .inr (.inl (vp_updL fo 0 0)))), (h0, .inr (0, [.ref r0, .ref r1, .ref r2, .ref r3, .ref hv, .ref r5, .ref r6, .int 0, .int 0, .int (-1), .int 0])), (hv, .inl (a 5, 17, .inr (.inr (.inr (.inr fv))))), (hy, .inr (11, [.ref p0, .ref p1, .int 0, .int 0, .int 0, .int 0, .int 0]))] H locs := w
  refine lv_istore (lv' := [(5, .int 0), (0, .ref b), (1, .ref h0), (2, .ref hm), (3, .ref ho), (4, .int 0)]) hx hb d_Law_law_280 hl (by decide) rfl (fun ls hl => ?_)
  refine lv_aload_n hx hb d_Law_law_282 rfl (lv_at hl 3 rfl) ?_
  refine lv_aload_n hx hb d_Law_law_283 rfl (lv_at hl 1 rfl) ?_
  refine lv_iload hx hb d_Law_law_284 (lv_at hl 5 rfl) ?_
  refine lv_iconst (v := 1) hx hb d_Law_law_286 (by decide) ?_
  refine kx_iadd (v := 1) hx hb d_Law_law_287 (by decide) ?_
  refine kx_sld E w hX hbl hbA (by unfold vp_in; decide) (v := (nI j)) h1 d_Law_law_288 ?_
  refine kx_i E w (wc := [(hm, .inr (12, (mF r 0 0 0 (-1) 0 0 0 0 0 0))), ((r 7), .inl (a 3, 80, .inl (upd (fun _ => 0) 16 1)))]) (wr := [(ho, .inl (a 1, 1, .inr (.inl (vp_updL fo 0 0)))), (h0, .inr (0, [.ref r0, .ref r1, .ref r2, .ref r3, .ref hv, .ref r5, .ref r6, .int 0, .int 0, .int (-1), .int 0])), (hv, .inl (a 5, 17, .inr (.inr (.inr (.inr fv))))), (hy, .inr (11, [.ref p0, .ref p1, .int 0, .int 0, .int 0, .int 0, .int 0]))]) [0, 1] [2, 3, 4, 5] rfl rfl ⟨rfl, rfl, by decide⟩ (kx_rV E w hl.1 (As := [.int (nI j)]) (wc := [(hm, .inr (12, (mF r 0 0 0 (-1) 0 0 0 0 0 0))), ((r 7), .inl (a 3, 80, .inl (upd (fun _ => 0) 16 1)))]) (c_Md_degree_none l D a hm r 0 0 0 (-1) 0 0 0 0 0 0 j (by omega) H.size) gc_80 gv_Md_degree (kRecv E w 12 0 rfl rfl) [0, 1] rfl rfl rfl rfl rfl ⟨(Nat.le_of_ble_eq_true rfl), (Nat.le_of_ble_eq_true rfl)⟩ rfl (Nat.le_of_ble_eq_true rfl) d_Law_law_289 ⟨(Nat.le_of_ble_eq_true rfl), (Nat.le_of_ble_eq_true rfl)⟩) (fun rr u H locs hu w => ?_)
  obtain ⟨rfl, rfl⟩ := hu
  have w : kW D A s [(ho, .inl (a 1, 1, .inr (.inl (vp_updL fo 0 0)))), (h0, .inr (0, [.ref r0, .ref r1, .ref r2, .ref r3, .ref hv, .ref r5, .ref r6, .int 0, .int 0, .int (-1), .int 0])), (hv, .inl (a 5, 17, .inr (.inr (.inr (.inr fv))))), (hy, .inr (11, [.ref p0, .ref p1, .int 0, .int 0, .int 0, .int 0, .int 0])), ((r 7), .inl (a 3, 80, .inl (upd (fun _ => 0) 16 1))), (hm, .inr (12, (mF r 0 0 0 (-1) 0 0 0 0 0 0)))] H locs := w
  refine lv_istore (lv' := [(6, .int 0), (5, .int 0), (0, .ref b), (1, .ref h0), (2, .ref hm), (3, .ref ho), (4, .int 0)]) hx hb d_Law_law_292 hl (by decide) rfl (fun ls hl => ?_)
  refine lv_aload_n hx hb d_Law_law_294 rfl (lv_at hl 4 rfl) ?_
  refine kx_i E w (wc := [(hm, .inr (12, (mF r 0 0 0 (-1) 0 0 0 0 0 0)))]) (wr := [(ho, .inl (a 1, 1, .inr (.inl (vp_updL fo 0 0)))), (h0, .inr (0, [.ref r0, .ref r1, .ref r2, .ref r3, .ref hv, .ref r5, .ref r6, .int 0, .int 0, .int (-1), .int 0])), (hv, .inl (a 5, 17, .inr (.inr (.inr (.inr fv))))), (hy, .inr (11, [.ref p0, .ref p1, .int 0, .int 0, .int 0, .int 0, .int 0])), ((r 7), .inl (a 3, 80, .inl (upd (fun _ => 0) 16 1)))]) [5] [0, 1, 2, 3, 4] rfl rfl ⟨rfl, rfl, by decide⟩ (kx_rV E w hl.1 (As := []) (wc := [(hm, .inr (12, (mF r 0 0 0 (-1) 0 0 0 0 0 0)))]) (c_Md_thrown l D a hm r 0 0 0 (-1) 0 0 0 0 0 0 H.size) gc_76 gv_Md_thrown (kRecv E w 12 5 rfl rfl) [5] rfl rfl rfl rfl rfl ⟨(Nat.le_of_ble_eq_true rfl), (Nat.le_of_ble_eq_true rfl)⟩ rfl (Nat.le_of_ble_eq_true rfl) d_Law_law_295 ⟨(Nat.le_of_ble_eq_true rfl), (Nat.le_of_ble_eq_true rfl)⟩) (fun rr u H locs hu w => ?_)
  obtain ⟨hrr, rfl⟩ := hu
  rw [hrr]
  clear hrr
  have w : kW D A s [(ho, .inl (a 1, 1, .inr (.inl (vp_updL fo 0 0)))), (h0, .inr (0, [.ref r0, .ref r1, .ref r2, .ref r3, .ref hv, .ref r5, .ref r6, .int 0, .int 0, .int (-1), .int 0])), (hv, .inl (a 5, 17, .inr (.inr (.inr (.inr fv))))), (hy, .inr (11, [.ref p0, .ref p1, .int 0, .int 0, .int 0, .int 0, .int 0])), ((r 7), .inl (a 3, 80, .inl (upd (fun _ => 0) 16 1))), (hm, .inr (12, (mF r 0 0 0 (-1) 0 0 0 0 0 0)))] H locs := w
  refine lv_iload hx hb d_Law_law_298 (lv_at hl 1 rfl) ?_
  refine lv_icmp_eq (tgt := 305) hx hb d_Law_law_300 (by decide) (fun _ => ?_) (fun h => absurd (by decide) h)
  refine lv_iload hx hb d_Law_law_305 (lv_at hl 1 rfl) ?_
  refine lv_if_ne (tgt := 322) hx hb d_Law_law_307 (by decide) (fun h => absurd (by decide) h) (fun _ => ?_)
  refine lv_aload_n hx hb d_Law_law_310 rfl (lv_at hl 5 rfl) ?_
  refine lv_iconst (v := 0) hx hb d_Law_law_311 (by decide) ?_
  refine kx_lald E w 0 rfl (by unfold vp_in; decide) (v := 0) rfl d_Law_law_312 ?_
  refine lv_iload hx hb d_Law_law_313 (lv_at hl 0 rfl) ?_
  refine lv_i2l (v := 0) hx hb d_Law_law_315 (by decide) ?_
  refine kx_lcmp (v := 0) hx hb d_Law_law_316 (by decide) ?_
  refine lv_if_eq (tgt := 322) hx hb d_Law_law_317 (by decide) (fun _ => ?_) (fun h => absurd (by decide) h)
  refine lv_goto (tgt := 815) hx hb d_Law_law_322 (by decide) ?_
  refine lv_iinc (v := 4) (lv' := [(4, .int 4), (6, .int 0), (5, .int 0), (0, .ref b), (1, .ref h0), (2, .ref hm), (3, .ref ho)]) hx hb d_Law_law_815 hl (k := 6) rfl (by decide) (by decide) rfl (fun ls hl => ?_)
  refine lv_goto (tgt := 23) hx hb d_Law_law_818 (by decide) ?_
  refine lv_iload hx hb d_Law_law_23 (lv_at hl 0 rfl) ?_
  refine lv_aload_n hx hb d_Law_law_25 rfl (lv_at hl 3 rfl) ?_
  refine kx_slen E w hX hbl hbA (v := 4) rfl d_Law_law_26 ?_
  refine lv_iconst (v := 4) hx hb d_Law_law_27 (by decide) ?_
  refine kx_isub (v := 0) hx hb d_Law_law_28 (by decide) ?_
  refine lv_icmp_gt (tgt := 821) hx hb d_Law_law_29 (by decide) (fun _ => ?_) (fun h => absurd (by decide) h)
  refine lv_iconst (v := 1) hx hb d_Law_law_821 (by decide) ?_
  refine va_forget (fun q hq => hA0 _ (w.2.2.2.2 q hq)) ?_
  refine W.widen (k := 600002) (n := 7302231) (Nat.le_of_ble_eq_true rfl) (Nat.le_of_ble_eq_true rfl) ?_
  exact lw_ret hx hb hr hlk d_Law_law_822
set_option maxRecDepth 100000 in
set_option maxHeartbeats 4000000 in
theorem lf_degree_it {p : Program} {l : Launch} {e : Env} {s : State} {m : MethodId} {below : List Frame} {meth : Method} {c : Code} {D : va_G} {a : Nat → ClassId} {A : Nat → Prop} {b : Nat} {xs : Nat → Int32} (hl9 : l.stackTraces = false) (E : kE p m c code 8 s #[Value.ref b] "RootAlgebraLaw" D a A) (hr : meth.sig.returnType = ret) (hlk : meth.locks = false) (hA0 : ∀ q, A q → s.heap.size ≤ q) (hX : va_X b 4 xs s s.heap) (hbl : b < s.heap.size) (h0 : Nat) (r0 : Nat) (r1 : Nat) (r2 : Nat) (r3 : Nat) (hv : Nat) (r5 : Nat) (r6 : Nat) (fv : Nat → Option Nat) (hy : Nat) (p0 : Nat) (p1 : Nat) (ho : Nat) (fo : Nat → Int64) (hm : Nat) (r : Nat → Nat) (h16 : fv 16 = some hy) (h1 : xs 1 = 16) {H : Heap} {locs : List Loc} {ls : Array Slot} (w : kW D A s [(h0, .inr (0, [.ref r0, .ref r1, .ref r2, .ref r3, .ref hv, .ref r5, .ref r6, .int 0, .int 0, .int (-1), .int 0])), (hv, .inl (a 5, 17, .inr (.inr (.inr (.inr fv))))), (hy, .inr (11, [.ref p0, .ref p1, .int 1, .int 0, .int 1, .int 0, .int 0])), (ho, .inl (a 1, 1, .inr (.inl fo))), (hm, .inr (12, (mF r 0 0 0 (-1) 0 0 0 0 0 0))), ((r 7), .inl (a 3, 80, .inl (upd (fun _ => 0) 16 1))), ((r 8), .inl (a 0, 80, .inl (upd (fun _ => 0) 16 1)))] H locs) (hl : lv_has ls 8 [(0, .ref b), (1, .ref h0), (2, .ref hm), (3, .ref ho), (4, .int 0)]) : W p l e room_1 s m #[Value.ref b] below meth c H locs 616 107719 (lw_Z below #[Value.ref b] s) (F0 m 269 ls []) := by
  have hx := E.1.1
  have hb := E.1.2.1
  have hbA : ¬ A b := fun h => absurd (hA0 b h) (Nat.not_le.mpr hbl)
  refine lv_aload_n hx hb d_Law_law_269 rfl (lv_at hl 1 rfl) ?_
  refine lv_aload_n hx hb d_Law_law_270 rfl (lv_at hl 0 rfl) ?_
  refine lv_iload hx hb d_Law_law_271 (lv_at hl 4 rfl) ?_
  refine lv_iconst (v := 1) hx hb d_Law_law_273 (by decide) ?_
  refine kx_iadd (v := 1) hx hb d_Law_law_274 (by decide) ?_
  refine kx_sld E w hX hbl hbA (by unfold vp_in; decide) (v := 16) h1 d_Law_law_275 ?_
  refine lv_aload_n hx hb d_Law_law_276 rfl (lv_at hl 3 rfl) ?_
  refine kx_i E w (wc := [(h0, .inr (0, [.ref r0, .ref r1, .ref r2, .ref r3, .ref hv, .ref r5, .ref r6, .int 0, .int 0, .int (-1), .int 0])), (hv, .inl (a 5, 17, .inr (.inr (.inr (.inr fv))))), (hy, .inr (11, [.ref p0, .ref p1, .int 1, .int 0, .int 1, .int 0, .int 0])), (ho, .inl (a 1, 1, .inr (.inl fo)))]) (wr := [(hm, .inr (12, (mF r 0 0 0 (-1) 0 0 0 0 0 0))), ((r 7), .inl (a 3, 80, .inl (upd (fun _ => 0) 16 1))), ((r 8), .inl (a 0, 80, .inl (upd (fun _ => 0) 16 1)))]) [0, 1, 2, 3] [4, 5, 6] rfl rfl ⟨rfl, rfl, by decide⟩ (kx_rSW E w hl.1 (As := [.ref h0, .int 16, .ref ho]) (wc := [(h0, .inr (0, [.ref r0, .ref r1, .ref r2, .ref r3, .ref hv, .ref r5, .ref r6, .int 0, .int 0, .int (-1), .int 0])), (hv, .inl (a 5, 17, .inr (.inr (.inr (.inr fv))))), (hy, .inr (11, [.ref p0, .ref p1, .int 1, .int 0, .int 1, .int 0, .int 0])), (ho, .inl (a 1, 1, .inr (.inl fo)))]) (h_degree_it l D a h0 r0 r1 r2 r3 hv r5 r6 fv hy p0 p1 ho fo h16 H.size) gc_79 gs_Law_degree [0, 1, 2, 3] rfl rfl rfl rfl rfl ⟨(Nat.le_of_ble_eq_true rfl), (Nat.le_of_ble_eq_true rfl)⟩ rfl (Nat.le_of_ble_eq_true rfl) d_Law_law_277 ⟨(Nat.le_of_ble_eq_true rfl), (Nat.le_of_ble_eq_true rfl)⟩) (fun rr u H locs hu w => ?_)
  obtain ⟨rfl, rfl⟩ := hu
  have w : kW D A s [(hm, .inr (12, (mF r 0 0 0 (-1) 0 0 0 0 0 0))), ((r 7), .inl (a 3, 80, .inl (upd (fun _ => 0) 16 1))), ((r 8), .inl (a 0, 80, .inl (upd (fun _ => 0) 16 1))), (ho, .inl (a 1, 1, .inr (.inl (vp_updL fo 0 1)))), (h0, .inr (0, [.ref r0, .ref r1, .ref r2, .ref r3, .ref hv, .ref r5, .ref r6, .int 0, .int 0, .int (-1), .int 0])), (hv, .inl (a 5, 17, .inr (.inr (.inr (.inr fv))))), (hy, .inr (11, [.ref p0, .ref p1, .int 1, .int 0, .int 1, .int 0, .int 0]))] H locs := w
  refine lv_istore (lv' := [(5, .int 0), (0, .ref b), (1, .ref h0), (2, .ref hm), (3, .ref ho), (4, .int 0)]) hx hb d_Law_law_280 hl (by decide) rfl (fun ls hl => ?_)
  refine lv_aload_n hx hb d_Law_law_282 rfl (lv_at hl 3 rfl) ?_
  refine lv_aload_n hx hb d_Law_law_283 rfl (lv_at hl 1 rfl) ?_
  refine lv_iload hx hb d_Law_law_284 (lv_at hl 5 rfl) ?_
  refine lv_iconst (v := 1) hx hb d_Law_law_286 (by decide) ?_
  refine kx_iadd (v := 1) hx hb d_Law_law_287 (by decide) ?_
  refine kx_sld E w hX hbl hbA (by unfold vp_in; decide) (v := 16) h1 d_Law_law_288 ?_
  refine kx_i E w (wc := [(hm, .inr (12, (mF r 0 0 0 (-1) 0 0 0 0 0 0))), ((r 7), .inl (a 3, 80, .inl (upd (fun _ => 0) 16 1))), ((r 8), .inl (a 0, 80, .inl (upd (fun _ => 0) 16 1)))]) (wr := [(ho, .inl (a 1, 1, .inr (.inl (vp_updL fo 0 1)))), (h0, .inr (0, [.ref r0, .ref r1, .ref r2, .ref r3, .ref hv, .ref r5, .ref r6, .int 0, .int 0, .int (-1), .int 0])), (hv, .inl (a 5, 17, .inr (.inr (.inr (.inr fv))))), (hy, .inr (11, [.ref p0, .ref p1, .int 1, .int 0, .int 1, .int 0, .int 0]))]) [0, 1, 2] [3, 4, 5, 6] rfl rfl ⟨rfl, rfl, by decide⟩ (kx_rV E w hl.1 (As := [.int 16]) (wc := [(hm, .inr (12, (mF r 0 0 0 (-1) 0 0 0 0 0 0))), ((r 7), .inl (a 3, 80, .inl (upd (fun _ => 0) 16 1))), ((r 8), .inl (a 0, 80, .inl (upd (fun _ => 0) 16 1)))]) (c_Md_degree_it l D a hm r 0 0 0 (-1) 0 0 0 0 0 0 H.size) gc_80 gv_Md_degree (kRecv E w 12 0 rfl rfl) [0, 1, 2] rfl rfl rfl rfl rfl ⟨(Nat.le_of_ble_eq_true rfl), (Nat.le_of_ble_eq_true rfl)⟩ rfl (Nat.le_of_ble_eq_true rfl) d_Law_law_289 ⟨(Nat.le_of_ble_eq_true rfl), (Nat.le_of_ble_eq_true rfl)⟩) (fun rr u H locs hu w => ?_)
  obtain ⟨rfl, rfl⟩ := hu
  have w : kW D A s [(ho, .inl (a 1, 1, .inr (.inl (vp_updL fo 0 1)))), (h0, .inr (0, [.ref r0, .ref r1, .ref r2, .ref r3, .ref hv, .ref r5, .ref r6, .int 0, .int 0, .int (-1), .int 0])), (hv, .inl (a 5, 17, .inr (.inr (.inr (.inr fv))))), (hy, .inr (11, [.ref p0, .ref p1, .int 1, .int 0, .int 1, .int 0, .int 0])), ((r 7), .inl (a 3, 80, .inl (upd (fun _ => 0) 16 1))), ((r 8), .inl (a 0, 80, .inl (upd (fun _ => 0) 16 1))), (hm, .inr (12, (mF r 0 0 0 (-1) 0 0 0 0 0 0)))] H locs := w
  refine lv_istore (lv' := [(6, .int 1), (5, .int 0), (0, .ref b), (1, .ref h0), (2, .ref hm), (3, .ref ho), (4, .int 0)]) hx hb d_Law_law_292 hl (by decide) rfl (fun ls hl => ?_)
  refine lv_aload_n hx hb d_Law_law_294 rfl (lv_at hl 4 rfl) ?_
  refine kx_i E w (wc := [(hm, .inr (12, (mF r 0 0 0 (-1) 0 0 0 0 0 0)))]) (wr := [(ho, .inl (a 1, 1, .inr (.inl (vp_updL fo 0 1)))), (h0, .inr (0, [.ref r0, .ref r1, .ref r2, .ref r3, .ref hv, .ref r5, .ref r6, .int 0, .int 0, .int (-1), .int 0])), (hv, .inl (a 5, 17, .inr (.inr (.inr (.inr fv))))), (hy, .inr (11, [.ref p0, .ref p1, .int 1, .int 0, .int 1, .int 0, .int 0])), ((r 7), .inl (a 3, 80, .inl (upd (fun _ => 0) 16 1))), ((r 8), .inl (a 0, 80, .inl (upd (fun _ => 0) 16 1)))]) [6] [0, 1, 2, 3, 4, 5] rfl rfl ⟨rfl, rfl, by decide⟩ (kx_rV E w hl.1 (As := []) (wc := [(hm, .inr (12, (mF r 0 0 0 (-1) 0 0 0 0 0 0)))]) (c_Md_thrown l D a hm r 0 0 0 (-1) 0 0 0 0 0 0 H.size) gc_76 gv_Md_thrown (kRecv E w 12 6 rfl rfl) [6] rfl rfl rfl rfl rfl ⟨(Nat.le_of_ble_eq_true rfl), (Nat.le_of_ble_eq_true rfl)⟩ rfl (Nat.le_of_ble_eq_true rfl) d_Law_law_295 ⟨(Nat.le_of_ble_eq_true rfl), (Nat.le_of_ble_eq_true rfl)⟩) (fun rr u H locs hu w => ?_)
  obtain ⟨hrr, rfl⟩ := hu
  rw [hrr]
  clear hrr
  have w : kW D A s [(ho, .inl (a 1, 1, .inr (.inl (vp_updL fo 0 1)))), (h0, .inr (0, [.ref r0, .ref r1, .ref r2, .ref r3, .ref hv, .ref r5, .ref r6, .int 0, .int 0, .int (-1), .int 0])), (hv, .inl (a 5, 17, .inr (.inr (.inr (.inr fv))))), (hy, .inr (11, [.ref p0, .ref p1, .int 1, .int 0, .int 1, .int 0, .int 0])), ((r 7), .inl (a 3, 80, .inl (upd (fun _ => 0) 16 1))), ((r 8), .inl (a 0, 80, .inl (upd (fun _ => 0) 16 1))), (hm, .inr (12, (mF r 0 0 0 (-1) 0 0 0 0 0 0)))] H locs := w
  refine lv_iload hx hb d_Law_law_298 (lv_at hl 1 rfl) ?_
  refine lv_icmp_eq (tgt := 305) hx hb d_Law_law_300 (by decide) (fun _ => ?_) (fun h => absurd (by decide) h)
  refine lv_iload hx hb d_Law_law_305 (lv_at hl 1 rfl) ?_
  refine lv_if_ne (tgt := 322) hx hb d_Law_law_307 (by decide) (fun h => absurd (by decide) h) (fun _ => ?_)
  refine lv_aload_n hx hb d_Law_law_310 rfl (lv_at hl 5 rfl) ?_
  refine lv_iconst (v := 0) hx hb d_Law_law_311 (by decide) ?_
  refine kx_lald E w 0 rfl (by unfold vp_in; decide) (v := 1) rfl d_Law_law_312 ?_
  refine lv_iload hx hb d_Law_law_313 (lv_at hl 0 rfl) ?_
  refine lv_i2l (v := 1) hx hb d_Law_law_315 (by decide) ?_
  refine kx_lcmp (v := 0) hx hb d_Law_law_316 (by decide) ?_
  refine lv_if_eq (tgt := 322) hx hb d_Law_law_317 (by decide) (fun _ => ?_) (fun h => absurd (by decide) h)
  refine lv_goto (tgt := 815) hx hb d_Law_law_322 (by decide) ?_
  refine lv_iinc (v := 4) (lv' := [(4, .int 4), (6, .int 1), (5, .int 0), (0, .ref b), (1, .ref h0), (2, .ref hm), (3, .ref ho)]) hx hb d_Law_law_815 hl (k := 6) rfl (by decide) (by decide) rfl (fun ls hl => ?_)
  refine lv_goto (tgt := 23) hx hb d_Law_law_818 (by decide) ?_
  refine lv_iload hx hb d_Law_law_23 (lv_at hl 0 rfl) ?_
  refine lv_aload_n hx hb d_Law_law_25 rfl (lv_at hl 3 rfl) ?_
  refine kx_slen E w hX hbl hbA (v := 4) rfl d_Law_law_26 ?_
  refine lv_iconst (v := 4) hx hb d_Law_law_27 (by decide) ?_
  refine kx_isub (v := 0) hx hb d_Law_law_28 (by decide) ?_
  refine lv_icmp_gt (tgt := 821) hx hb d_Law_law_29 (by decide) (fun _ => ?_) (fun h => absurd (by decide) h)
  refine lv_iconst (v := 1) hx hb d_Law_law_821 (by decide) ?_
  refine va_forget (fun q hq => hA0 _ (w.2.2.2.2 q hq)) ?_
  refine W.widen (k := 600002) (n := 7302231) (Nat.le_of_ble_eq_true rfl) (Nat.le_of_ble_eq_true rfl) ?_
  exact lw_ret hx hb hr hlk d_Law_law_822
