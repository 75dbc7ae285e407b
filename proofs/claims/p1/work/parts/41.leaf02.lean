/-! laid by program (wip/gen) -/
set_option maxRecDepth 100000 in
set_option maxHeartbeats 4000000 in
theorem lf_look1 {p : Program} {l : Launch} {e : Env} {s : State} {m : MethodId} {below : List Frame} {meth : Method} {c : Code} {D : va_G} {a : Nat → ClassId} {A : Nat → Prop} {b : Nat} {xs : Nat → Int32} (hl9 : l.stackTraces = false) (E : kE p m c code 8 s #[Value.ref b] "RootAlgebraLaw" D a A) (hr : meth.sig.returnType = ret) (hlk : meth.locks = false) (hA0 : ∀ q, A q → s.heap.size ≤ q) (hX : va_X b 4 xs s s.heap) (hbl : b < s.heap.size) (h0 : Nat) (r0 : Nat) (r1 : Nat) (r2 : Nat) (r3 : Nat) (hv : Nat) (r5 : Nat) (r6 : Nat) (ho : Nat) (fo : Nat → Int64) (hm : Nat) (r : Nat → Nat) (h1 : xs 1 = 1) {H : Heap} {locs : List Loc} {ls : Array Slot} (w : kW D A s [(h0, .inr (0, [.ref r0, .ref r1, .ref r2, .ref r3, .ref hv, .ref r5, .ref r6, .int 0, .int 0, .int (-1), .int 0])), (ho, .inl (a 1, 1, .inr (.inl fo))), (hm, .inr (12, (mF r 0 0 0 (-1) 0 0 0 0 0 0))), ((r 7), .inl (a 3, 80, .inl (upd (fun _ => 0) 16 1)))] H locs) (hl : lv_has ls 8 [(0, .ref b), (1, .ref h0), (2, .ref hm), (3, .ref ho), (4, .int 0)]) : W p l e room_1 s m #[Value.ref b] below meth c H locs 616 107719 (lw_Z below #[Value.ref b] s) (F0 m 213 ls []) := by
  have hx := E.1.1
  have hb := E.1.2.1
  have hbA : ¬ A b := fun h => absurd (hA0 b h) (Nat.not_le.mpr hbl)
  refine lv_aload_n hx hb d_Law_law_213 rfl (lv_at hl 1 rfl) ?_
  refine lv_aload_n hx hb d_Law_law_214 rfl (lv_at hl 0 rfl) ?_
  refine lv_iload hx hb d_Law_law_215 (lv_at hl 4 rfl) ?_
  refine lv_iconst (v := 1) hx hb d_Law_law_217 (by decide) ?_
  refine kx_iadd (v := 1) hx hb d_Law_law_218 (by decide) ?_
  refine kx_sld E w hX hbl hbA (by unfold vp_in; decide) (v := 1) h1 d_Law_law_219 ?_
  refine lv_aload_n hx hb d_Law_law_220 rfl (lv_at hl 3 rfl) ?_
  refine kx_i E w (wc := [(h0, .inr (0, [.ref r0, .ref r1, .ref r2, .ref r3, .ref hv, .ref r5, .ref r6, .int 0, .int 0, .int (-1), .int 0])), (ho, .inl (a 1, 1, .inr (.inl fo)))]) (wr := [(hm, .inr (12, (mF r 0 0 0 (-1) 0 0 0 0 0 0))), ((r 7), .inl (a 3, 80, .inl (upd (fun _ => 0) 16 1)))]) [0, 1] [2, 3] rfl rfl ⟨rfl, rfl, by decide⟩ (kx_rSW E w hl.1 (As := [.ref h0, .int 1, .ref ho]) (wc := [(h0, .inr (0, [.ref r0, .ref r1, .ref r2, .ref r3, .ref hv, .ref r5, .ref r6, .int 0, .int 0, .int (-1), .int 0])), (ho, .inl (a 1, 1, .inr (.inl fo)))]) (h_look1 l D a h0 r0 r1 r2 r3 hv r5 r6 ho fo H.size) gc_77 gs_Law_look [0, 1] rfl rfl rfl rfl rfl ⟨(Nat.le_of_ble_eq_true rfl), (Nat.le_of_ble_eq_true rfl)⟩ rfl (Nat.le_of_ble_eq_true rfl) d_Law_law_221 ⟨(Nat.le_of_ble_eq_true rfl), (Nat.le_of_ble_eq_true rfl)⟩) (fun rr u H locs hu w => ?_)
  obtain ⟨rfl, rfl⟩ := hu
  have w : kW D A s [(hm, .inr (12, (mF r 0 0 0 (-1) 0 0 0 0 0 0))), ((r 7), .inl (a 3, 80, .inl (upd (fun _ => 0) 16 1))), (ho, .inl (a 1, 1, .inr (.inl (vp_updL fo 0 (-1))))), (h0, .inr (0, [.ref r0, .ref r1, .ref r2, .ref r3, .ref hv, .ref r5, .ref r6, .int 0, .int 0, .int (-1), .int 0]))] H locs := w
  refine lv_istore (lv' := [(5, .int 0), (0, .ref b), (1, .ref h0), (2, .ref hm), (3, .ref ho), (4, .int 0)]) hx hb d_Law_law_224 hl (by decide) rfl (fun ls hl => ?_)
  refine lv_aload_n hx hb d_Law_law_226 rfl (lv_at hl 3 rfl) ?_
  refine lv_aload_n hx hb d_Law_law_227 rfl (lv_at hl 1 rfl) ?_
  refine lv_iload hx hb d_Law_law_228 (lv_at hl 5 rfl) ?_
  refine lv_iconst (v := 1) hx hb d_Law_law_230 (by decide) ?_
  refine kx_iadd (v := 1) hx hb d_Law_law_231 (by decide) ?_
  refine kx_sld E w hX hbl hbA (by unfold vp_in; decide) (v := 1) h1 d_Law_law_232 ?_
  refine kx_i E w (wc := [(hm, .inr (12, (mF r 0 0 0 (-1) 0 0 0 0 0 0))), ((r 7), .inl (a 3, 80, .inl (upd (fun _ => 0) 16 1)))]) (wr := [(ho, .inl (a 1, 1, .inr (.inl (vp_updL fo 0 (-1))))), (h0, .inr (0, [.ref r0, .ref r1, .ref r2, .ref r3, .ref hv, .ref r5, .ref r6, .int 0, .int 0, .int (-1), .int 0]))]) [0, 1] [2, 3] rfl rfl ⟨rfl, rfl, by decide⟩ (kx_rV E w hl.1 (As := [.int 1]) (wc := [(hm, .inr (12, (mF r 0 0 0 (-1) 0 0 0 0 0 0))), ((r 7), .inl (a 3, 80, .inl (upd (fun _ => 0) 16 1)))]) (c_Md_look1 l D a hm r 0 0 0 0 0 0 H.size) gc_78 gv_Md_look (kRecv E w 12 0 rfl rfl) [0, 1] rfl rfl rfl rfl rfl ⟨(Nat.le_of_ble_eq_true rfl), (Nat.le_of_ble_eq_true rfl)⟩ rfl (Nat.le_of_ble_eq_true rfl) d_Law_law_233 ⟨(Nat.le_of_ble_eq_true rfl), (Nat.le_of_ble_eq_true rfl)⟩) (fun rr u H locs hu w => ?_)
  obtain ⟨rfl, rfl⟩ := hu
  have w : kW D A s [(ho, .inl (a 1, 1, .inr (.inl (vp_updL fo 0 (-1))))), (h0, .inr (0, [.ref r0, .ref r1, .ref r2, .ref r3, .ref hv, .ref r5, .ref r6, .int 0, .int 0, .int (-1), .int 0])), ((r 7), .inl (a 3, 80, .inl (upd (fun _ => 0) 16 1))), (hm, .inr (12, (mF r 0 0 0 (-1) 0 0 0 0 0 0)))] H locs := w
  refine lv_istore (lv' := [(6, .int (-1)), (5, .int 0), (0, .ref b), (1, .ref h0), (2, .ref hm), (3, .ref ho), (4, .int 0)]) hx hb d_Law_law_236 hl (by decide) rfl (fun ls hl => ?_)
  refine lv_aload_n hx hb d_Law_law_238 rfl (lv_at hl 4 rfl) ?_
  refine kx_i E w (wc := [(hm, .inr (12, (mF r 0 0 0 (-1) 0 0 0 0 0 0)))]) (wr := [(ho, .inl (a 1, 1, .inr (.inl (vp_updL fo 0 (-1))))), (h0, .inr (0, [.ref r0, .ref r1, .ref r2, .ref r3, .ref hv, .ref r5, .ref r6, .int 0, .int 0, .int (-1), .int 0])), ((r 7), .inl (a 3, 80, .inl (upd (fun _ => 0) 16 1)))]) [3] [0, 1, 2] rfl rfl ⟨rfl, rfl, by decide⟩ (kx_rV E w hl.1 (As := []) (wc := [(hm, .inr (12, (mF r 0 0 0 (-1) 0 0 0 0 0 0)))]) (c_Md_thrown l D a hm r 0 0 0 (-1) 0 0 0 0 0 0 H.size) gc_76 gv_Md_thrown (kRecv E w 12 3 rfl rfl) [3] rfl rfl rfl rfl rfl ⟨(Nat.le_of_ble_eq_true rfl), (Nat.le_of_ble_eq_true rfl)⟩ rfl (Nat.le_of_ble_eq_true rfl) d_Law_law_239 ⟨(Nat.le_of_ble_eq_true rfl), (Nat.le_of_ble_eq_true rfl)⟩) (fun rr u H locs hu w => ?_)
  obtain ⟨hrr, rfl⟩ := hu
  rw [hrr]
  clear hrr
  have w : kW D A s [(ho, .inl (a 1, 1, .inr (.inl (vp_updL fo 0 (-1))))), (h0, .inr (0, [.ref r0, .ref r1, .ref r2, .ref r3, .ref hv, .ref r5, .ref r6, .int 0, .int 0, .int (-1), .int 0])), ((r 7), .inl (a 3, 80, .inl (upd (fun _ => 0) 16 1))), (hm, .inr (12, (mF r 0 0 0 (-1) 0 0 0 0 0 0)))] H locs := w
  refine lv_iload hx hb d_Law_law_242 (lv_at hl 1 rfl) ?_
  refine lv_icmp_eq (tgt := 249) hx hb d_Law_law_244 (by decide) (fun _ => ?_) (fun h => absurd (by decide) h)
  refine lv_iload hx hb d_Law_law_249 (lv_at hl 1 rfl) ?_
  refine lv_if_ne (tgt := 266) hx hb d_Law_law_251 (by decide) (fun h => absurd (by decide) h) (fun _ => ?_)
  refine lv_aload_n hx hb d_Law_law_254 rfl (lv_at hl 5 rfl) ?_
  refine lv_iconst (v := 0) hx hb d_Law_law_255 (by decide) ?_
  refine kx_lald E w 0 rfl (by unfold vp_in; decide) (v := (-1)) rfl d_Law_law_256 ?_
  refine lv_iload hx hb d_Law_law_257 (lv_at hl 0 rfl) ?_
  refine lv_i2l (v := (-1)) hx hb d_Law_law_259 (by decide) ?_
  refine kx_lcmp (v := 0) hx hb d_Law_law_260 (by decide) ?_
  refine lv_if_eq (tgt := 266) hx hb d_Law_law_261 (by decide) (fun _ => ?_) (fun h => absurd (by decide) h)
  refine lv_goto (tgt := 815) hx hb d_Law_law_266 (by decide) ?_
  refine lv_iinc (v := 4) (lv' := [(4, .int 4), (6, .int (-1)), (5, .int 0), (0, .ref b), (1, .ref h0), (2, .ref hm), (3, .ref ho)]) hx hb d_Law_law_815 hl (k := 6) rfl (by decide) (by decide) rfl (fun ls hl => ?_)
  refine lv_goto (tgt := 23) hx hb d_Law_law_818 (by decide) ?_
  refine lv_iload hx hb d_Law_law_23 (lv_at hl 0 rfl) ?_
  refine lv_aload_n hx hb d_Law_law_25 rfl (lv_at hl 3 rfl) ?_
  refine kx_slen E w hX hbl hbA (v := 4) rfl d_Law_law_26 ?_
  refine lv_iconst (v := 4) hx hb d_Law_law_27 (by decide) ?_
  refine kx_isub (v := 0) hx hb d_Law_law_28 (by decide) ?_
  refine lv_icmp_gt (tgt := 821) hx hb d_Law_law_29 (by decide) (fun _ => ?_) (fun h => absurd (by decide) h)
  refine lv_iconst (v := 1) hx hb d_Law_law_821 (by decide) ?_
  refine va_forget (fun q hq => hA0 _ (w.2.2.2.2 q hq)) ?_
  refine W.widen (k := 600002) (n := 7302231) (Nat.le_of_ble_eq_true rfl) (Nat.le_of_ble_eq_true rfl) ?_
  exact lw_ret hx hb hr hlk d_Law_law_822
set_option maxRecDepth 100000 in
set_option maxHeartbeats 4000000 in
theorem lf_look2 {p : Program} {l : Launch} {e : Env} {s : State} {m : MethodId} {below : List Frame} {meth : Method} {c : Code} {D : va_G} {a : Nat → ClassId} {A : Nat → Prop} {b : Nat} {xs : Nat → Int32} (hl9 : l.stackTraces = false) (E : kE p m c code 8 s #[Value.ref b] "RootAlgebraLaw" D a A) (hr : meth.sig.returnType = ret) (hlk : meth.locks = false) (hA0 : ∀ q, A q → s.heap.size ≤ q) (hX : va_X b 4 xs s s.heap) (hbl : b < s.heap.size) (h0 : Nat) (r0 : Nat) (r1 : Nat) (r2 : Nat) (r3 : Nat) (hv : Nat) (r5 : Nat) (r6 : Nat) (ho : Nat) (fo : Nat → Int64) (hm : Nat) (r : Nat → Nat) (h1 : xs 1 = 2) {H : Heap} {locs : List Loc} {ls : Array Slot} (w : kW D A s [(h0, .inr (0, [.ref r0, .ref r1, .ref r2, .ref r3, .ref hv, .ref r5, .ref r6, .int 0, .int 0, .int (-1), .int 0])), (ho, .inl (a 1, 1, .inr (.inl fo))), (hm, .inr (12, (mF r 0 0 0 (-1) 0 0 0 0 0 0))), ((r 7), .inl (a 3, 80, .inl (upd (fun _ => 0) 16 1)))] H locs) (hl : lv_has ls 8 [(0, .ref b), (1, .ref h0), (2, .ref hm), (3, .ref ho), (4, .int 0)]) : W p l e room_1 s m #[Value.ref b] below meth c H locs 616 107719 (lw_Z below #[Value.ref b] s) (F0 m 213 ls []) := by
  have hx := E.1.1
  have hb := E.1.2.1
  have hbA : ¬ A b := fun h => absurd (hA0 b h) (Nat.not_le.mpr hbl)
  refine lv_aload_n hx hb d_Law_law_213 rfl (lv_at hl 1 rfl) ?_
  refine lv_aload_n hx hb d_Law_law_214 rfl (lv_at hl 0 rfl) ?_
  refine lv_iload hx hb d_Law_law_215 (lv_at hl 4 rfl) ?_
  refine lv_iconst (v := 1) hx hb d_Law_law_217 (by decide) ?_
  refine kx_iadd (v := 1) hx hb d_Law_law_218 (by decide) ?_
  refine kx_sld E w hX hbl hbA (by unfold vp_in; decide) (v := 2) h1 d_Law_law_219 ?_
  refine lv_aload_n hx hb d_Law_law_220 rfl (lv_at hl 3 rfl) ?_
  refine kx_i E w (wc := [(h0, .inr (0, [.ref r0, .ref r1, .ref r2, .ref r3, .ref hv, .ref r5, .ref r6, .int 0, .int 0, .int (-1), .int 0])), (ho, .inl (a 1, 1, .inr (.inl fo)))]) (wr := [(hm, .inr (12, (mF r 0 0 0 (-1) 0 0 0 0 0 0))), ((r 7), .inl (a 3, 80, .inl (upd (fun _ => 0) 16 1)))]) [0, 1] [2, 3] rfl rfl ⟨rfl, rfl, by decide⟩ (kx_rSW E w hl.1 (As := [.ref h0, .int 2, .ref ho]) (wc := [(h0, .inr (0, [.ref r0, .ref r1, .ref r2, .ref r3, .ref hv, .ref r5, .ref r6, .int 0, .int 0, .int (-1), .int 0])), (ho, .inl (a 1, 1, .inr (.inl fo)))]) (h_look2 l D a h0 r0 r1 r2 r3 hv r5 r6 ho fo H.size) gc_77 gs_Law_look [0, 1] rfl rfl rfl rfl rfl ⟨(Nat.le_of_ble_eq_true rfl), (Nat.le_of_ble_eq_true rfl)⟩ rfl (Nat.le_of_ble_eq_true rfl) d_Law_law_221 ⟨(Nat.le_of_ble_eq_true rfl), (Nat.le_of_ble_eq_true rfl)⟩) (fun rr u H locs hu w => ?_)
  obtain ⟨rfl, rfl⟩ := hu
  have w : kW D A s [(hm, .inr (12, (mF r 0 0 0 (-1) 0 0 0 0 0 0))), ((r 7), .inl (a 3, 80, .inl (upd (fun _ => 0) 16 1))), (ho, .inl (a 1, 1, .inr (.inl (vp_updL fo 0 0)))), (h0, .inr (0, [.ref r0, .ref r1, .ref r2, .ref r3, .ref hv, .ref r5, .ref r6, .int 0, .int 0, .int (-1), .int 0]))] H locs := w
  refine lv_istore (lv' := [(5, .int 0), (0, .ref b), (1, .ref h0), (2, .ref hm), (3, .ref ho), (4, .int 0)]) hx hb d_Law_law_224 hl (by decide) rfl (fun ls hl => ?_)
  refine lv_aload_n hx hb d_Law_law_226 rfl (lv_at hl 3 rfl) ?_
  refine lv_aload_n hx hb d_Law_law_227 rfl (lv_at hl 1 rfl) ?_
  refine lv_iload hx hb d_Law_law_228 (lv_at hl 5 rfl) ?_
  refine lv_iconst (v := 1) hx hb d_Law_law_230 (by decide) ?_
  refine kx_iadd (v := 1) hx hb d_Law_law_231 (by decide) ?_
  refine kx_sld E w hX hbl hbA (by unfold vp_in; decide) (v := 2) h1 d_Law_law_232 ?_
  refine kx_i E w (wc := [(hm, .inr (12, (mF r 0 0 0 (-1) 0 0 0 0 0 0))), ((r 7), .inl (a 3, 80, .inl (upd (fun _ => 0) 16 1)))]) (wr := [(ho, .inl (a 1, 1, .inr (.inl (vp_updL fo 0 0)))), (h0, .inr (0, [.ref r0, .ref r1, .ref r2, .ref r3, .ref hv, .ref r5, .ref r6, .int 0, .int 0, .int (-1), .int 0]))]) [0, 1] [2, 3] rfl rfl ⟨rfl, rfl, by decide⟩ (kx_rV E w hl.1 (As := [.int 2]) (wc := [(hm, .inr (12, (mF r 0 0 0 (-1) 0 0 0 0 0 0))), ((r 7), .inl (a 3, 80, .inl (upd (fun _ => 0) 16 1)))]) (c_Md_look2 l D a hm r 0 0 0 0 0 0 H.size) gc_78 gv_Md_look (kRecv E w 12 0 rfl rfl) [0, 1] rfl rfl rfl rfl rfl ⟨(Nat.le_of_ble_eq_true rfl), (Nat.le_of_ble_eq_true rfl)⟩ rfl (Nat.le_of_ble_eq_true rfl) d_Law_law_233 ⟨(Nat.le_of_ble_eq_true rfl), (Nat.le_of_ble_eq_true rfl)⟩) (fun rr u H locs hu w => ?_)
  obtain ⟨rfl, rfl⟩ := hu
  have w : kW D A s [(ho, .inl (a 1, 1, .inr (.inl (vp_updL fo 0 0)))), (h0, .inr (0, [.ref r0, .ref r1, .ref r2, .ref r3, .ref hv, .ref r5, .ref r6, .int 0, .int 0, .int (-1), .int 0])), ((r 7), .inl (a 3, 80, .inl (upd (fun _ => 0) 16 1))), (hm, .inr (12, (mF r 0 0 0 (-1) 0 0 0 0 0 0)))] H locs := w
  refine lv_istore (lv' := [(6, .int 0), (5, .int 0), (0, .ref b), (1, .ref h0), (2, .ref hm), (3, .ref ho), (4, .int 0)]) hx hb d_Law_law_236 hl (by decide) rfl (fun ls hl => ?_)
  refine lv_aload_n hx hb d_Law_law_238 rfl (lv_at hl 4 rfl) ?_
  refine kx_i E w (wc := [(hm, .inr (12, (mF r 0 0 0 (-1) 0 0 0 0 0 0)))]) (wr := [(ho, .inl (a 1, 1, .inr (.inl (vp_updL fo 0 0)))), (h0, .inr (0, [.ref r0, .ref r1, .ref r2, .ref r3, .ref hv, .ref r5, .ref r6, .int 0, .int 0, .int (-1), .int 0])), ((r 7), .inl (a 3, 80, .inl (upd (fun _ => 0) 16 1)))]) [3] [0, 1, 2] rfl rfl ⟨rfl, rfl, by decide⟩ (kx_rV E w hl.1 (As := []) (wc := [(hm, .inr (12, (mF r 0 0 0 (-1) 0 0 0 0 0 0)))]) (c_Md_thrown l D a hm r 0 0 0 (-1) 0 0 0 0 0 0 H.size) gc_76 gv_Md_thrown (kRecv E w 12 3 rfl rfl) [3] rfl rfl rfl rfl rfl ⟨(Nat.le_of_ble_eq_true rfl), (Nat.le_of_ble_eq_true rfl)⟩ rfl (Nat.le_of_ble_eq_true rfl) d_Law_law_239 ⟨(Nat.le_of_ble_eq_true rfl), (Nat.le_of_ble_eq_true rfl)⟩) (fun rr u H locs hu w => ?_)
  obtain ⟨hrr, rfl⟩ := hu
  rw [hrr]
  clear hrr
  have w : kW D A s [(ho, .inl (a 1, 1, .inr (.inl (vp_updL fo 0 0)))), (h0, .inr (0, [.ref r0, .ref r1, .ref r2, .ref r3, .ref hv, .ref r5, .ref r6, .int 0, .int 0, .int (-1), .int 0])), ((r 7), .inl (a 3, 80, .inl (upd (fun _ => 0) 16 1))), (hm, .inr (12, (mF r 0 0 0 (-1) 0 0 0 0 0 0)))] H locs := w
  refine lv_iload hx hb d_Law_law_242 (lv_at hl 1 rfl) ?_
  refine lv_icmp_eq (tgt := 249) hx hb d_Law_law_244 (by decide) (fun _ => ?_) (fun h => absurd (by decide) h)
  refine lv_iload hx hb d_Law_law_249 (lv_at hl 1 rfl) ?_
  refine lv_if_ne (tgt := 266) hx hb d_Law_law_251 (by decide) (fun h => absurd (by decide) h) (fun _ => ?_)
  refine lv_aload_n hx hb d_Law_law_254 rfl (lv_at hl 5 rfl) ?_
  refine lv_iconst (v := 0) hx hb d_Law_law_255 (by decide) ?_
  refine kx_lald E w 0 rfl (by unfold vp_in; decide) (v := 0) rfl d_Law_law_256 ?_
  refine lv_iload hx hb d_Law_law_257 (lv_at hl 0 rfl) ?_
  refine lv_i2l (v := 0) hx hb d_Law_law_259 (by decide) ?_
  refine kx_lcmp (v := 0) hx hb d_Law_law_260 (by decide) ?_
  refine lv_if_eq (tgt := 266) hx hb d_Law_law_261 (by decide) (fun _ => ?_) (fun h => absurd (by decide) h)
  refine lv_goto (tgt := 815) hx hb d_Law_law_266 (by decide) ?_
  refine lv_iinc (v := 4) (lv' := [(4, .int 4), (6, .int 0), (5, .int 0), (0, .ref b), (1, .ref h0), (2, .ref hm), (3, .ref ho)]) hx hb d_Law_law_815 hl (k := 6) rfl (by decide) (by decide) rfl (fun ls hl => ?_)
  refine lv_goto (tgt := 23) hx hb d_Law_law_818 (by decide) ?_
  refine lv_iload hx hb d_Law_law_23 (lv_at hl 0 rfl) ?_
  refine lv_aload_n hx hb d_Law_law_25 rfl (lv_at hl 3 rfl) ?_
  refine kx_slen E w hX hbl hbA (v := 4) rfl d_Law_law_26 ?_
  refine lv_iconst (v := 4) hx hb d_Law_law_27 (by decide) ?_
  refine kx_isub (v := 0) hx hb d_Law_law_28 (by decide) ?_
  refine lv_icmp_gt (tgt := 821) hx hb d_Law_law_29 (by decide) (fun _ => ?_) (fun h => absurd (by decide) h)
  refine lv_iconst (v := 1) hx hb d_Law_law_821 (by decide) ?_
  refine va_forget (fun q hq => hA0 _ (w.2.2.2.2 q hq)) ?_
  refine W.widen (k := 600002) (n := 7302231) (Nat.le_of_ble_eq_true rfl) (Nat.le_of_ble_eq_true rfl) ?_
  exact lw_ret hx hb hr hlk d_Law_law_822
set_option maxRecDepth 100000 in
set_option maxHeartbeats 4000000 in
theorem lf_look3 {p : Program} {l : Launch} {e : Env} {s : State} {m : MethodId} {below : List Frame} {meth : Method} {c : Code} {D : va_G} {a : Nat → ClassId} {A : Nat → Prop} {b : Nat} {xs : Nat → Int32} (hl9 : l.stackTraces = false) (E : kE p m c code 8 s #[Value.ref b] "RootAlgebraLaw" D a A) (hr : meth.sig.returnType = ret) (hlk : meth.locks = false) (hA0 : ∀ q, A q → s.heap.size ≤ q) (hX : va_X b 4 xs s s.heap) (hbl : b < s.heap.size) (h0 : Nat) (r0 : Nat) (r1 : Nat) (r2 : Nat) (r3 : Nat) (hv : Nat) (r5 : Nat) (r6 : Nat) (ho : Nat) (fo : Nat → Int64) (hm : Nat) (r : Nat → Nat) (h1 : xs 1 = 3) {H : Heap} {locs : List Loc} {ls : Array Slot} (w : kW D A s [(h0, .inr (0, [.ref r0, .ref r1, .ref r2, .ref r3, .ref hv, .ref r5, .ref r6, .int 0, .int 0, .int (-1), .int 0])), (ho, .inl (a 1, 1, .inr (.inl fo))), (hm, .inr (12, (mF r 0 0 0 (-1) 0 0 0 0 0 0))), ((r 7), .inl (a 3, 80, .inl (upd (fun _ => 0) 16 1)))] H locs) (hl : lv_has ls 8 [(0, .ref b), (1, .ref h0), (2, .ref hm), (3, .ref ho), (4, .int 0)]) : W p l e room_1 s m #[Value.ref b] below meth c H locs 616 107719 (lw_Z below #[Value.ref b] s) (F0 m 213 ls []) := by
  have hx := E.1.1
  have hb := E.1.2.1
  have hbA : ¬ A b := fun h => absurd (hA0 b h) (Nat.not_le.mpr hbl)
  refine lv_aload_n hx hb d_Law_law_213 rfl (lv_at hl 1 rfl) ?_
  refine lv_aload_n hx hb d_Law_law_214 rfl (lv_at hl 0 rfl) ?_
  refine lv_iload hx hb d_Law_law_215 (lv_at hl 4 rfl) ?_
  refine lv_iconst (v := 1) hx hb d_Law_law_217 (by decide) ?_
  refine kx_iadd (v := 1) hx hb d_Law_law_218 (by decide) ?_
  refine kx_sld E w hX hbl hbA (by unfold vp_in; decide) (v := 3) h1 d_Law_law_219 ?_
  refine lv_aload_n hx hb d_Law_law_220 rfl (lv_at hl 3 rfl) ?_
  refine kx_i E w (wc := [(h0, .inr (0, [.ref r0, .ref r1, .ref r2, .ref r3, .ref hv, .ref r5, .ref r6, .int 0, .int 0, .int (-1), .int 0])), (ho, .inl (a 1, 1, .inr (.inl fo)))]) (wr := [(hm, .inr (12, (mF r 0 0 0 (-1) 0 0 0 0 0 0))), ((r 7), .inl (a 3, 80, .inl (upd (fun _ => 0) 16 1)))]) [0, 1] [2, 3] rfl rfl ⟨rfl, rfl, by decide⟩ (kx_rSW E w hl.1 (As := [.ref h0, .int 3, .ref ho]) (wc := [(h0, .inr (0, [.ref r0, .ref r1, .ref r2, .ref r3, .ref hv, .ref r5, .ref r6, .int 0, .int 0, .int (-1), .int 0])), (ho, .inl (a 1, 1, .inr (.inl fo)))]) (h_look3 l D a h0 r0 r1 r2 r3 hv r5 r6 ho fo H.size) gc_77 gs_Law_look [0, 1] rfl rfl rfl rfl rfl ⟨(Nat.le_of_ble_eq_true rfl), (Nat.le_of_ble_eq_true rfl)⟩ rfl (Nat.le_of_ble_eq_true rfl) d_Law_law_221 ⟨(Nat.le_of_ble_eq_true rfl), (Nat.le_of_ble_eq_true rfl)⟩) (fun rr u H locs hu w => ?_)
  obtain ⟨rfl, rfl⟩ := hu
  have w : kW D A s [(hm, .inr (12, (mF r 0 0 0 (-1) 0 0 0 0 0 0))), ((r 7), .inl (a 3, 80, .inl (upd (fun _ => 0) 16 1))), (ho, .inl (a 1, 1, .inr (.inl (vp_updL fo 0 0)))), (h0, .inr (0, [.ref r0, .ref r1, .ref r2, .ref r3, .ref hv, .ref r5, .ref r6, .int 0, .int 0, .int (-1), .int 0]))] H locs := w
  refine lv_istore (lv' := [(5, .int 0), (0, .ref b), (1, .ref h0), (2, .ref hm), (3, .ref ho), (4, .int 0)]) hx hb d_Law_law_224 hl (by decide) rfl (fun ls hl => ?_)
  refine lv_aload_n hx hb d_Law_law_226 rfl (lv_at hl 3 rfl) ?_
  refine lv_aload_n hx hb d_Law_law_227 rfl (lv_at hl 1 rfl) ?_
  refine lv_iload hx hb d_Law_law_228 (lv_at hl 5 rfl) ?_
  refine lv_iconst (v := 1) hx hb d_Law_law_230 (by decide) ?_
  refine kx_iadd (v := 1) hx hb d_Law_law_231 (by decide) ?_
  refine kx_sld E w hX hbl hbA (by unfold vp_in; decide) (v := 3) h1 d_Law_law_232 ?_
  refine kx_i E w (wc := [(hm, .inr (12, (mF r 0 0 0 (-1) 0 0 0 0 0 0))), ((r 7), .inl (a 3, 80, .inl (upd (fun _ => 0) 16 1)))]) (wr := [(ho, .inl (a 1, 1, .inr (.inl (vp_updL fo 0 0)))), (h0, .inr (0, [.ref r0, .ref r1, .ref r2, .ref r3, .ref hv, .ref r5, .ref r6, .int 0, .int 0, .int (-1), .int 0]))]) [0, 1] [2, 3] rfl rfl ⟨rfl, rfl, by decide⟩ (kx_rV E w hl.1 (As := [.int 3]) (wc := [(hm, .inr (12, (mF r 0 0 0 (-1) 0 0 0 0 0 0))), ((r 7), .inl (a 3, 80, .inl (upd (fun _ => 0) 16 1)))]) (c_Md_look3 l D a hm r 0 0 0 0 0 0 H.size) gc_78 gv_Md_look (kRecv E w 12 0 rfl rfl) [0, 1] rfl rfl rfl rfl rfl ⟨(Nat.le_of_ble_eq_true rfl), (Nat.le_of_ble_eq_true rfl)⟩ rfl (Nat.le_of_ble_eq_true rfl) d_Law_law_233 ⟨(Nat.le_of_ble_eq_true rfl), (Nat.le_of_ble_eq_true rfl)⟩) (fun rr u H locs hu w => ?_)
  obtain ⟨rfl, rfl⟩ := hu
  have w : kW D A s [(ho, .inl (a 1, 1, .inr (.inl (vp_updL fo 0 0)))), (h0, .inr (0, [.ref r0, .ref r1, .ref r2, .ref r3, .ref hv, .ref r5, .ref r6, .int 0, .int 0, .int (-1), .int 0])), ((r 7), .inl (a 3, 80, .inl (upd (fun _ => 0) 16 1))), (hm, .inr (12, (mF r 0 0 0 (-1) 0 0 0 0 0 0)))] H locs := w
  refine lv_istore (lv' := [(6, .int 0), (5, .int 0), (0, .ref b), (1, .ref h0), (2, .ref hm), (3, .ref ho), (4, .int 0)]) hx hb d_Law_law_236 hl (by decide) rfl (fun ls hl => ?_)
  refine lv_aload_n hx hb d_Law_law_238 rfl (lv_at hl 4 rfl) ?_
  refine kx_i E w (wc := [(hm, .inr (12, (mF r 0 0 0 (-1) 0 0 0 0 0 0)))]) (wr := [(ho, .inl (a 1, 1, .inr (.inl (vp_updL fo 0 0)))), (h0, .inr (0, [.ref r0, .ref r1, .ref r2, .ref r3, .ref hv, .ref r5, .ref r6, .int 0, .int 0, .int (-1), .int 0])), ((r 7), .inl (a 3, 80, .inl (upd (fun _ => 0) 16 1)))]) [3] [0, 1, 2] rfl rfl ⟨rfl, rfl, by decide⟩ (kx_rV E w hl.1 (As := []) (wc := [(hm, .inr (12, (mF r 0 0 0 (-1) 0 0 0 0 0 0)))]) (c_Md_thrown l D a hm r 0 0 0 (-1) 0 0 0 0 0 0 H.size) gc_76 gv_Md_thrown (kRecv E w 12 3 rfl rfl) [3] rfl rfl rfl rfl rfl ⟨(Nat.le_of_ble_eq_true rfl), (Nat.le_of_ble_eq_true rfl)⟩ rfl (Nat.le_of_ble_eq_true rfl) d_Law_law_239 ⟨(Nat.le_of_ble_eq_true rfl), (Nat.le_of_ble_eq_true rfl)⟩) (fun rr u H locs hu w => ?_)
  obtain ⟨hrr, rfl⟩ := hu
  rw [hrr]
  clear hrr
  have w : kW D A s [(ho, .inl (a 1, 1, .inr (.inl (vp_updL fo 0 0)))), (h0, .inr (0, [.ref r0, .ref r1, .ref r2, .ref r3, .ref hv, .ref r5, .ref r6, .int 0, .int 0, .int (-1), .int 0])), ((r 7), .inl (a 3, 80, .inl (upd (fun _ => 0) 16 1))), (hm, .inr (12, (mF r 0 0 0 (-1) 0 0 0 0 0 0)))] H locs := w
  refine lv_iload hx hb d_Law_law_242 (lv_at hl 1 rfl) ?_
  refine lv_icmp_eq (tgt := 249) hx hb d_Law_law_244 (by decide) (fun _ => ?_) (fun h => absurd (by decide) h)
  refine lv_iload hx hb d_Law_law_249 (lv_at hl 1 rfl) ?_
  refine lv_if_ne (tgt := 266) hx hb d_Law_law_251 (by decide) (fun h => absurd (by decide) h) (fun _ => ?_)
  refine lv_aload_n hx hb d_Law_law_254 rfl (lv_at hl 5 rfl) ?_
  refine lv_iconst (v := 0) hx hb d_Law_law_255 (by decide) ?_
  refine kx_lald E w 0 rfl (by unfold vp_in; decide) (v := 0) rfl d_Law_law_256 ?_
  refine lv_iload hx hb d_Law_law_257 (lv_at hl 0 rfl) ?_
  refine lv_i2l (v := 0) hx hb d_Law_law_259 (by decide) ?_
  refine kx_lcmp (v := 0) hx hb d_Law_law_260 (by decide) ?_
  refine lv_if_eq (tgt := 266) hx hb d_Law_law_261 (by decide) (fun _ => ?_) (fun h => absurd (by decide) h)
  refine lv_goto (tgt := 815) hx hb d_Law_law_266 (by decide) ?_
  refine lv_iinc (v := 4) (lv' := [(4, .int 4), (6, .int 0), (5, .int 0), (0, .ref b), (1, .ref h0), (2, .ref hm), (3, .ref ho)]) hx hb d_Law_law_815 hl (k := 6) rfl (by decide) (by decide) rfl (fun ls hl => ?_)
  refine lv_goto (tgt := 23) hx hb d_Law_law_818 (by decide) ?_
  refine lv_iload hx hb d_Law_law_23 (lv_at hl 0 rfl) ?_
  refine lv_aload_n hx hb d_Law_law_25 rfl (lv_at hl 3 rfl) ?_
  refine kx_slen E w hX hbl hbA (v := 4) rfl d_Law_law_26 ?_
  refine lv_iconst (v := 4) hx hb d_Law_law_27 (by decide) ?_
  refine kx_isub (v := 0) hx hb d_Law_law_28 (by decide) ?_
  refine lv_icmp_gt (tgt := 821) hx hb d_Law_law_29 (by decide) (fun _ => ?_) (fun h => absurd (by decide) h)
  refine lv_iconst (v := 1) hx hb d_Law_law_821 (by decide) ?_
  refine va_forget (fun q hq => hA0 _ (w.2.2.2.2 q hq)) ?_
  refine W.widen (k := 600002) (n := 7302231) (Nat.le_of_ble_eq_true rfl) (Nat.le_of_ble_eq_true rfl) ?_
  exact lw_ret hx hb hr hlk d_Law_law_822
