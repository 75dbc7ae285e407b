/-! laid by program (wip/gen) -/
set_option maxRecDepth 100000 in
set_option maxHeartbeats 4000000 in
theorem lf_compare_none2 {p : Program} {l : Launch} {e : Env} {s : State} {m : MethodId} {below : List Frame} {meth : Method} {c : Code} {D : va_G} {a : Nat → ClassId} {A : Nat → Prop} {b : Nat} {xs : Nat → Int32} (hl9 : l.stackTraces = false) (E : kE p m c code 8 s #[Value.ref b] "RootAlgebraLaw" D a A) (hr : meth.sig.returnType = ret) (hlk : meth.locks = false) (hA0 : ∀ q, A q → s.heap.size ≤ q) (hX : va_X b 4 xs s s.heap) (hbl : b < s.heap.size) (h0 : Nat) (r0 : Nat) (r1 : Nat) (r2 : Nat) (r3 : Nat) (hv : Nat) (r5 : Nat) (r6 : Nat) (fv : Nat → Option Nat) (hy : Nat) (p0 : Nat) (p1 : Nat) (hz : Nat) (p2 : Nat) (p3 : Nat) (ho : Nat) (fo : Nat → Int64) (hm : Nat) (r : Nat → Nat) (j : Nat) (hj : j ≤ 15) (hf0 : fv j = some hz) (h16 : fv 16 = some hy) (h1 : xs 1 = 16) (h2 : xs 2 = (nI j)) {H : Heap} {locs : List Loc} {ls : Array Slot} (w : kW D A s [(h0, .inr (0, [.ref r0, .ref r1, .ref r2, .ref r3, .ref hv, .ref r5, .ref r6, .int 0, .int 0, .int (-1), .int 0])), (hv, .inl (a 5, 17, .inr (.inr (.inr (.inr fv))))), (hy, .inr (11, [.ref p0, .ref p1, .int 1, .int 0, .int 1, .int 0, .int 0])), (hz, .inr (11, [.ref p2, .ref p3, .int 0, .int 0, .int 0, .int 0, .int 0])), (ho, .inl (a 1, 1, .inr (.inl fo))), (hm, .inr (12, (mF r 0 0 0 (-1) 0 0 0 0 0 0))), ((r 7), .inl (a 3, 80, .inl (upd (fun _ => 0) 16 1)))] H locs) (hl : lv_has ls 8 [(0, .ref b), (1, .ref h0), (2, .ref hm), (3, .ref ho), (4, .int 0)]) : W p l e room_1 s m #[Value.ref b] below meth c H locs 616 107719 (lw_Z below #[Value.ref b] s) (F0 m 505 ls []) := by
  have hx := E.1.1
  have hb := E.1.2.1
  have hbA : ¬ A b := fun h => absurd (hA0 b h) (Nat.not_le.mpr hbl)
  refine lv_aload_n hx hb d_Law_law_505 rfl (lv_at hl 1 rfl) ?_
  refine lv_aload_n hx hb d_Law_law_506 rfl (lv_at hl 0 rfl) ?_
  refine lv_iload hx hb d_Law_law_507 (lv_at hl 4 rfl) ?_
  refine lv_iconst (v := 1) hx hb d_Law_law_509 (by decide) ?_
  refine kx_iadd (v := 1) hx hb d_Law_law_510 (by decide) ?_
  refine kx_sld E w hX hbl hbA (by unfold vp_in; decide) (v := 16) h1 d_Law_law_511 ?_
  refine lv_aload_n hx hb d_Law_law_512 rfl (lv_at hl 0 rfl) ?_
  refine lv_iload hx hb d_Law_law_513 (lv_at hl 4 rfl) ?_
  refine lv_iconst (v := 2) hx hb d_Law_law_515 (by decide) ?_
  refine kx_iadd (v := 2) hx hb d_Law_law_516 (by decide) ?_
  refine kx_sld E w hX hbl hbA (by unfold vp_in; decide) (v := (nI j)) h2 d_Law_law_517 ?_
  refine lv_aload_n hx hb d_Law_law_518 rfl (lv_at hl 3 rfl) ?_
  refine kx_i E w (wc := [(h0, .inr (0, [.ref r0, .ref r1, .ref r2, .ref r3, .ref hv, .ref r5, .ref r6, .int 0, .int 0, .int (-1), .int 0])), (hv, .inl (a 5, 17, .inr (.inr (.inr (.inr fv))))), (hy, .inr (11, [.ref p0, .ref p1, .int 1, .int 0, .int 1, .int 0, .int 0])), (hz, .inr (11, [.ref p2, .ref p3, .int 0, .int 0, .int 0, .int 0, .int 0])), (ho, .inl (a 1, 1, .inr (.inl fo)))]) (wr := [(hm, .inr (12, (mF r 0 0 0 (-1) 0 0 0 0 0 0))), ((r 7), .inl (a 3, 80, .inl (upd (fun _ => 0) 16 1)))]) [0, 1, 2, 3, 4] [5, 6] rfl rfl ⟨rfl, rfl, by decide⟩ (kx_rSW E w hl.1 (As := [.ref h0, .int 16, .int (nI j), .ref ho]) (wc := [(h0, .inr (0, [.ref r0, .ref r1, .ref r2, .ref r3, .ref hv, .ref r5, .ref r6, .int 0, .int 0, .int (-1), .int 0])), (hv, .inl (a 5, 17, .inr (.inr (.inr (.inr fv))))), (hy, .inr (11, [.ref p0, .ref p1, .int 1, .int 0, .int 1, .int 0, .int 0])), (hz, .inr (11, [.ref p2, .ref p3, .int 0, .int 0, .int 0, .int 0, .int 0])), (ho, .inl (a 1, 1, .inr (.inl fo)))]) (h_compare_none2 l hl9 D a h0 r0 r1 r2 r3 hv r5 r6 fv hy p0 p1 hz p2 p3 ho fo j (by omega) hf0 h16 H.size) gc_87 gs_Law_compare [0, 1, 2, 3, 4] rfl rfl rfl rfl rfl ⟨(Nat.le_of_ble_eq_true rfl), (Nat.le_of_ble_eq_true rfl)⟩ rfl (Nat.le_of_ble_eq_true rfl) d_Law_law_519 ⟨(Nat.le_of_ble_eq_true rfl), (Nat.le_of_ble_eq_true rfl)⟩) (fun rr u H locs hu w => ?_)
  obtain ⟨rfl, rfl⟩ := hu
  have w : kW D A s [(hm, .inr (12, (mF r 0 0 0 (-1) 0 0 0 0 0 0))), ((r 7), .inl (a 3, 80, .inl (upd (fun _ => 0) 16 1))), (ho, .inl (a 1, 1, .inr (.inl fo))), (h0, .inr (0, [.ref r0, .ref r1, .ref r2, .ref r3, .ref hv, .ref r5, .ref r6, .int 0, .int 0, .int (-1), .int 0])), (hv, .inl (a 5, 17, .inr (.inr (.inr (.inr fv))))), (hy, .inr (11, [.ref p0, .ref p1, .int 1, .int 0, .int 1, .int 0, .int 0])), (hz, .inr (11, [.ref p2, .ref p3, .int 0, .int 0, .int 0, .int 0, .int 0]))] H locs := w
  refine lv_istore (lv' := [(5, .int 2), (0, .ref b), (1, .ref h0), (2, .ref hm), (3, .ref ho), (4, .int 0)]) hx hb d_Law_law_522 hl (by decide) rfl (fun ls hl => ?_)
  refine lv_aload_n hx hb d_Law_law_524 rfl (lv_at hl 3 rfl) ?_
  refine lv_aload_n hx hb d_Law_law_525 rfl (lv_at hl 1 rfl) ?_
  refine lv_iload hx hb d_Law_law_526 (lv_at hl 5 rfl) ?_
  refine lv_iconst (v := 1) hx hb d_Law_law_528 (by decide) ?_
  refine kx_iadd (v := 1) hx hb d_Law_law_529 (by decide) ?_
  refine kx_sld E w hX hbl hbA (by unfold vp_in; decide) (v := 16) h1 d_Law_law_530 ?_
  refine lv_aload_n hx hb d_Law_law_531 rfl (lv_at hl 1 rfl) ?_
  refine lv_iload hx hb d_Law_law_532 (lv_at hl 5 rfl) ?_
  refine lv_iconst (v := 2) hx hb d_Law_law_534 (by decide) ?_
  refine kx_iadd (v := 2) hx hb d_Law_law_535 (by decide) ?_
  refine kx_sld E w hX hbl hbA (by unfold vp_in; decide) (v := (nI j)) h2 d_Law_law_536 ?_
  refine kx_i E w (wc := [(hm, .inr (12, (mF r 0 0 0 (-1) 0 0 0 0 0 0))), ((r 7), .inl (a 3, 80, .inl (upd (fun _ => 0) 16 1)))]) (wr := [(ho, .inl (a 1, 1, .inr (.inl fo))), (h0, .inr (0, [.ref r0, .ref r1, .ref r2, .ref r3, .ref hv, .ref r5, .ref r6, .int 0, .int 0, .int (-1), .int 0])), (hv, .inl (a 5, 17, .inr (.inr (.inr (.inr fv))))), (hy, .inr (11, [.ref p0, .ref p1, .int 1, .int 0, .int 1, .int 0, .int 0])), (hz, .inr (11, [.ref p2, .ref p3, .int 0, .int 0, .int 0, .int 0, .int 0]))]) [0, 1] [2, 3, 4, 5, 6] rfl rfl ⟨rfl, rfl, by decide⟩ (kx_rV E w hl.1 (As := [.int 16, .int (nI j)]) (wc := [(hm, .inr (12, (mF r 0 0 0 (-1) 0 0 0 0 0 0))), ((r 7), .inl (a 3, 80, .inl (upd (fun _ => 0) 16 1)))]) (c_Md_compare_none2 l D a hm r 0 0 0 (-1) 0 0 0 0 0 0 j (by omega) H.size) gc_88 gv_Md_compare (kRecv E w 12 0 rfl rfl) [0, 1] rfl rfl rfl rfl rfl ⟨(Nat.le_of_ble_eq_true rfl), (Nat.le_of_ble_eq_true rfl)⟩ rfl (Nat.le_of_ble_eq_true rfl) d_Law_law_537 ⟨(Nat.le_of_ble_eq_true rfl), (Nat.le_of_ble_eq_true rfl)⟩) (fun rr u H locs hu w => ?_)
  obtain ⟨rfl, rfl⟩ := hu
  have w : kW D A s [(ho, .inl (a 1, 1, .inr (.inl fo))), (h0, .inr (0, [.ref r0, .ref r1, .ref r2, .ref r3, .ref hv, .ref r5, .ref r6, .int 0, .int 0, .int (-1), .int 0])), (hv, .inl (a 5, 17, .inr (.inr (.inr (.inr fv))))), (hy, .inr (11, [.ref p0, .ref p1, .int 1, .int 0, .int 1, .int 0, .int 0])), (hz, .inr (11, [.ref p2, .ref p3, .int 0, .int 0, .int 0, .int 0, .int 0])), ((r 7), .inl (a 3, 80, .inl (upd (fun _ => 0) 16 1))), (hm, .inr (12, (mF r 2 0 0 (-1) 0 0 0 0 0 0)))] H locs := w
  refine lv_istore (lv' := [(6, .int 0), (5, .int 2), (0, .ref b), (1, .ref h0), (2, .ref hm), (3, .ref ho), (4, .int 0)]) hx hb d_Law_law_540 hl (by decide) rfl (fun ls hl => ?_)
  refine lv_aload_n hx hb d_Law_law_542 rfl (lv_at hl 4 rfl) ?_
  refine kx_i E w (wc := [(hm, .inr (12, (mF r 2 0 0 (-1) 0 0 0 0 0 0)))]) (wr := [(ho, .inl (a 1, 1, .inr (.inl fo))), (h0, .inr (0, [.ref r0, .ref r1, .ref r2, .ref r3, .ref hv, .ref r5, .ref r6, .int 0, .int 0, .int (-1), .int 0])), (hv, .inl (a 5, 17, .inr (.inr (.inr (.inr fv))))), (hy, .inr (11, [.ref p0, .ref p1, .int 1, .int 0, .int 1, .int 0, .int 0])), (hz, .inr (11, [.ref p2, .ref p3, .int 0, .int 0, .int 0, .int 0, .int 0])), ((r 7), .inl (a 3, 80, .inl (upd (fun _ => 0) 16 1)))]) [6] [0, 1, 2, 3, 4, 5] rfl rfl ⟨rfl, rfl, by decide⟩ (kx_rV E w hl.1 (As := []) (wc := [(hm, .inr (12, (mF r 2 0 0 (-1) 0 0 0 0 0 0)))]) (c_Md_thrown l D a hm r 2 0 0 (-1) 0 0 0 0 0 0 H.size) gc_76 gv_Md_thrown (kRecv E w 12 6 rfl rfl) [6] rfl rfl rfl rfl rfl ⟨(Nat.le_of_ble_eq_true rfl), (Nat.le_of_ble_eq_true rfl)⟩ rfl (Nat.le_of_ble_eq_true rfl) d_Law_law_543 ⟨(Nat.le_of_ble_eq_true rfl), (Nat.le_of_ble_eq_true rfl)⟩) (fun rr u H locs hu w => ?_)
  obtain ⟨hrr, rfl⟩ := hu
  rw [hrr]
  clear hrr
  have w : kW D A s [(ho, .inl (a 1, 1, .inr (.inl fo))), (h0, .inr (0, [.ref r0, .ref r1, .ref r2, .ref r3, .ref hv, .ref r5, .ref r6, .int 0, .int 0, .int (-1), .int 0])), (hv, .inl (a 5, 17, .inr (.inr (.inr (.inr fv))))), (hy, .inr (11, [.ref p0, .ref p1, .int 1, .int 0, .int 1, .int 0, .int 0])), (hz, .inr (11, [.ref p2, .ref p3, .int 0, .int 0, .int 0, .int 0, .int 0])), ((r 7), .inl (a 3, 80, .inl (upd (fun _ => 0) 16 1))), (hm, .inr (12, (mF r 2 0 0 (-1) 0 0 0 0 0 0)))] H locs := w
  refine lv_iload hx hb d_Law_law_546 (lv_at hl 1 rfl) ?_
  refine lv_icmp_eq (tgt := 553) hx hb d_Law_law_548 (by decide) (fun _ => ?_) (fun h => absurd (by decide) h)
  refine lv_iload hx hb d_Law_law_553 (lv_at hl 1 rfl) ?_
  refine lv_if_ne (tgt := 570) hx hb d_Law_law_555 (by decide) (fun _ => ?_) (fun h => absurd h (by decide))
  refine lv_goto (tgt := 815) hx hb d_Law_law_570 (by decide) ?_
  refine lv_iinc (v := 4) (lv' := [(4, .int 4), (6, .int 0), (5, .int 2), (0, .ref b), (1, .ref h0), (2, .ref hm), (3, .ref ho)]) hx hb d_Law_law_815 hl (k := 6) rfl (by decide) (by decide) rfl (fun ls hl => ?_)
  refine lv_goto (tgt := 23) hx hb d_Law_law_818 (by decide) ?_
  refine lv_iload hx hb d_Law_law_23 (lv_at hl 0 rfl) ?_
  refine lv_aload_n hx hb d_Law_law_25 rfl (lv_at hl 3 rfl) ?_
  refine kx_slen E w hX hbl hbA (v := 4) rfl d_Law_law_26 ?_
  refine lv_iconst (v := 4) hx hb d_Law_law_27 (by decide) ?_
  refine kx_isub (v := 0) hx hb d_Law_law_28 (by decide) ?_
  refine lv_icmp_gt (tgt := 821) hx hb d_Law_law_29 (by decide) (fun _ => ?_) (fun h => absurd (by decide) h)
  refine lv_iconst (v := 1) hx hb d_Law_law_821 (by decide) ?_
  refine va_forget (fun q hq => hA0 _ (w.2.2.2.2 q hq)) ?_
  refine W.widen (k := 600002) (n := 7302231) (Nat.le_of_ble_eq_true rfl) (Nat.le_of_ble_eq_true rfl) ?_
  exact lw_ret hx hb hr hlk d_Law_law_822
set_option maxRecDepth 100000 in
set_option maxHeartbeats 4000000 in
theorem lf_compare_it {p : Program} {l : Launch} {e : Env} {s : State} {m : MethodId} {below : List Frame} {meth : Method} {c : Code} {D : va_G} {a : Nat → ClassId} {A : Nat → Prop} {b : Nat} {xs : Nat → Int32} (hl9 : l.stackTraces = false) (E : kE p m c code 8 s #[Value.ref b] "RootAlgebraLaw" D a A) (hr : meth.sig.returnType = ret) (hlk : meth.locks = false) (hA0 : ∀ q, A q → s.heap.size ≤ q) (hX : va_X b 4 xs s s.heap) (hbl : b < s.heap.size) (h0 : Nat) (r0 : Nat) (r1 : Nat) (r2 : Nat) (r3 : Nat) (hv : Nat) (r5 : Nat) (r6 : Nat) (fv : Nat → Option Nat) (hy : Nat) (p0 : Nat) (p1 : Nat) (e0 : Nat) (e1 : Nat) (e2 : Nat) (e3 : Nat) (e4 : Nat) (e5 : Nat) (e6 : Nat) (e7 : Nat) (hg : Nat) (o0 : Nat) (o1 : Nat) (o2 : Nat) (o3 : Nat) (o4 : Nat) (o5 : Nat) (o6 : Nat) (o7 : Nat) (o8 : Nat) (o9 : Nat) (o10 : Nat) (ho : Nat) (fo : Nat → Int64) (hm : Nat) (r : Nat → Nat) (h16 : fv 16 = some hy) (h1 : xs 1 = 16) (h2 : xs 2 = 16) {H : Heap} {locs : List Loc} {ls : Array Slot} (w : kW D A s [(h0, .inr (0, [.ref r0, .ref r1, .ref r2, .ref r3, .ref hv, .ref r5, .ref r6, .int 0, .int 0, .int (-1), .int 0])), (hv, .inl (a 5, 17, .inr (.inr (.inr (.inr fv))))), (hy, .inr (11, [.ref p0, .ref p1, .int 1, .int 0, .int 1, .int 0, .int 0])), (p0, .inl (a 0, 7, .inl (upd (upd (fun _ => 0) 0 0) 1 1))), (r6, .inr (2, [.ref e0, .ref e1, .ref e2, .ref e3, .ref e4, .ref e5, .ref e6, .ref e7, .ref hg, .int 0, .int 0, .int 0])), (hg, .inr (5, [.ref o0, .ref o1, .ref o2, .ref o3, .ref o4, .ref o5, .ref o6, .ref o7, .ref o8, .ref o9, .ref o10, .null, .null, .int 0, .int 0, .int 0, .int 0])), (ho, .inl (a 1, 1, .inr (.inl fo))), (hm, .inr (12, (mF r 0 0 0 (-1) 0 0 0 0 0 0))), ((r 7), .inl (a 3, 80, .inl (upd (fun _ => 0) 16 1))), ((r 8), .inl (a 0, 80, .inl (upd (fun _ => 0) 16 1))), ((r 9), .inl (a 1, 560, .inr (.inl (vp_updL (vp_updL (fun _ => 0) 112 0) 113 1)))), ((r 10), .inl (a 0, 80, .inl (upd (fun _ => 0) 16 0)))] H locs) (hl : lv_has ls 8 [(0, .ref b), (1, .ref h0), (2, .ref hm), (3, .ref ho), (4, .int 0)]) : W p l e room_1 s m #[Value.ref b] below meth c H locs 616 107719 (lw_Z below #[Value.ref b] s) (F0 m 505 ls []) := by
  have hx := E.1.1
  have hb := E.1.2.1
  have hbA : ¬ A b := fun h => absurd (hA0 b h) (Nat.not_le.mpr hbl)
  refine lv_aload_n hx hb d_Law_law_505 rfl (lv_at hl 1 rfl) ?_
  refine lv_aload_n hx hb d_Law_law_506 rfl (lv_at hl 0 rfl) ?_
  refine lv_iload hx hb d_Law_law_507 (lv_at hl 4 rfl) ?_
  refine lv_iconst (v := 1) hx hb d_Law_law_509 (by decide) ?_
  refine kx_iadd (v := 1) hx hb d_Law_law_510 (by decide) ?_
  refine kx_sld E w hX hbl hbA (by unfold vp_in; decide) (v := 16) h1 d_Law_law_511 ?_
  refine lv_aload_n hx hb d_Law_law_512 rfl (lv_at hl 0 rfl) ?_
  refine lv_iload hx hb d_Law_law_513 (lv_at hl 4 rfl) ?_
  refine lv_iconst (v := 2) hx hb d_Law_law_515 (by decide) ?_
  refine kx_iadd (v := 2) hx hb d_Law_law_516 (by decide) ?_
  refine kx_sld E w hX hbl hbA (by unfold vp_in; decide) (v := 16) h2 d_Law_law_517 ?_
  refine lv_aload_n hx hb d_Law_law_518 rfl (lv_at hl 3 rfl) ?_
  refine kx_i E w (wc := [(h0, .inr (0, [.ref r0, .ref r1, .ref r2, .ref r3, .ref hv, .ref r5, .ref r6, .int 0, .int 0, .int (-1), .int 0])), (hv, .inl (a 5, 17, .inr (.inr (.inr (.inr fv))))), (hy, .inr (11, [.ref p0, .ref p1, .int 1, .int 0, .int 1, .int 0, .int 0])), (p0, .inl (a 0, 7, .inl (upd (upd (fun _ => 0) 0 0) 1 1))), (r6, .inr (2, [.ref e0, .ref e1, .ref e2, .ref e3, .ref e4, .ref e5, .ref e6, .ref e7, .ref hg, .int 0, .int 0, .int 0])), (hg, .inr (5, [.ref o0, .ref o1, .ref o2, .ref o3, .ref o4, .ref o5, .ref o6, .ref o7, .ref o8, .ref o9, .ref o10, .null, .null, .int 0, .int 0, .int 0, .int 0])), (ho, .inl (a 1, 1, .inr (.inl fo)))]) (wr := [(hm, .inr (12, (mF r 0 0 0 (-1) 0 0 0 0 0 0))), ((r 7), .inl (a 3, 80, .inl (upd (fun _ => 0) 16 1))), ((r 8), .inl (a 0, 80, .inl (upd (fun _ => 0) 16 1))), ((r 9), .inl (a 1, 560, .inr (.inl (vp_updL (vp_updL (fun _ => 0) 112 0) 113 1)))), ((r 10), .inl (a 0, 80, .inl (upd (fun _ => 0) 16 0)))]) [0, 1, 2, 3, 4, 5, 6] [7, 8, 9, 10, 11] rfl rfl ⟨rfl, rfl, by decide⟩ (kx_rSW E w hl.1 (As := [.ref h0, .int 16, .int 16, .ref ho]) (wc := [(h0, .inr (0, [.ref r0, .ref r1, .ref r2, .ref r3, .ref hv, .ref r5, .ref r6, .int 0, .int 0, .int (-1), .int 0])), (hv, .inl (a 5, 17, .inr (.inr (.inr (.inr fv))))), (hy, .inr (11, [.ref p0, .ref p1, .int 1, .int 0, .int 1, .int 0, .int 0])), (p0, .inl (a 0, 7, .inl (upd (upd (fun _ => 0) 0 0) 1 1))), (r6, .inr (2, [.ref e0, .ref e1, .ref e2, .ref e3, .ref e4, .ref e5, .ref e6, .ref e7, .ref hg, .int 0, .int 0, .int 0])), (hg, .inr (5, [.ref o0, .ref o1, .ref o2, .ref o3, .ref o4, .ref o5, .ref o6, .ref o7, .ref o8, .ref o9, .ref o10, .null, .null, .int 0, .int 0, .int 0, .int 0])), (ho, .inl (a 1, 1, .inr (.inl fo)))]) (h_compare_it l D a h0 r0 r1 r2 r3 hv r5 r6 fv hy p0 p1 e0 e1 e2 e3 e4 e5 e6 e7 hg o0 o1 o2 o3 o4 o5 o6 o7 o8 o9 o10 ho fo h16 H.size) gc_87 gs_Law_compare [0, 1, 2, 3, 4, 5, 6] rfl rfl rfl rfl rfl ⟨(Nat.le_of_ble_eq_true rfl), (Nat.le_of_ble_eq_true rfl)⟩ rfl (Nat.le_of_ble_eq_true rfl) d_Law_law_519 ⟨(Nat.le_of_ble_eq_true rfl), (Nat.le_of_ble_eq_true rfl)⟩) (fun rr u H locs hu w => ?_)
  obtain ⟨rfl, rfl⟩ := hu
  have w : kW D A s [(hm, .inr (12, (mF r 0 0 0 (-1) 0 0 0 0 0 0))), ((r 7), .inl (a 3, 80, .inl (upd (fun _ => 0) 16 1))), ((r 8), .inl (a 0, 80, .inl (upd (fun _ => 0) 16 1))), ((r 9), .inl (a 1, 560, .inr (.inl (vp_updL (vp_updL (fun _ => 0) 112 0) 113 1)))), ((r 10), .inl (a 0, 80, .inl (upd (fun _ => 0) 16 0))), (ho, .inl (a 1, 1, .inr (.inl (vp_updL fo 0 0)))), (h0, .inr (0, [.ref r0, .ref r1, .ref r2, .ref r3, .ref hv, .ref r5, .ref r6, .int 0, .int 0, .int (-1), .int 0])), (hv, .inl (a 5, 17, .inr (.inr (.inr (.inr fv))))), (r6, .inr (2, [.ref e0, .ref e1, .ref e2, .ref e3, .ref e4, .ref e5, .ref e6, .ref e7, .ref hg, .int 0, .int 0, .int 0])), (hg, .inr (5, [.ref o0, .ref o1, .ref o2, .ref o3, .ref o4, .ref o5, .ref o6, .ref o7, .ref o8, .ref o9, .ref o10, .null, .null, .int 0, .int 0, .int 0, .int 0])), (hy, .inr (11, [.ref p0, .ref p1, .int 1, .int 0, .int 1, .int 0, .int 0])), (p0, .inl (a 0, 7, .inl (upd (upd (fun _ => 0) 0 0) 1 1)))] H locs := w
  refine lv_istore (lv' := [(5, .int 0), (0, .ref b), (1, .ref h0), (2, .ref hm), (3, .ref ho), (4, .int 0)]) hx hb d_Law_law_522 hl (by decide) rfl (fun ls hl => ?_)
  refine lv_aload_n hx hb d_Law_law_524 rfl (lv_at hl 3 rfl) ?_
  refine lv_aload_n hx hb d_Law_law_525 rfl (lv_at hl 1 rfl) ?_
  refine lv_iload hx hb d_Law_law_526 (lv_at hl 5 rfl) ?_
  refine lv_iconst (v := 1) hx hb d_Law_law_528 (by decide) ?_
  refine kx_iadd (v := 1) hx hb d_Law_law_529 (by decide) ?_
  refine kx_sld E w hX hbl hbA (by unfold vp_in; decide) (v := 16) h1 d_Law_law_530 ?_
  refine lv_aload_n hx hb d_Law_law_531 rfl (lv_at hl 1 rfl) ?_
  refine lv_iload hx hb d_Law_law_532 (lv_at hl 5 rfl) ?_
  refine lv_iconst (v := 2) hx hb d_Law_law_534 (by decide) ?_
  refine kx_iadd (v := 2) hx hb d_Law_law_535 (by decide) ?_
  refine kx_sld E w hX hbl hbA (by unfold vp_in; decide) (v := 16) h2 d_Law_law_536 ?_
  refine kx_i E w (wc := [(hm, .inr (12, (mF r 0 0 0 (-1) 0 0 0 0 0 0))), ((r 7), .inl (a 3, 80, .inl (upd (fun _ => 0) 16 1))), ((r 8), .inl (a 0, 80, .inl (upd (fun _ => 0) 16 1))), ((r 9), .inl (a 1, 560, .inr (.inl (vp_updL (vp_updL (fun _ => 0) 112 0) 113 1)))), ((r 10), .inl (a 0, 80, .inl (upd (fun _ => 0) 16 0)))]) (wr := [(ho, .inl (a 1, 1, .inr (.inl (vp_updL fo 0 0)))), (h0, .inr (0, [.ref r0, .ref r1, .ref r2, .ref r3, .ref hv, .ref r5, .ref r6, .int 0, .int 0, .int (-1), .int 0])), (hv, .inl (a 5, 17, .inr (.inr (.inr (.inr fv))))), (r6, .inr (2, [.ref e0, .ref e1, .ref e2, .ref e3, .ref e4, .ref e5, .ref e6, .ref e7, .ref hg, .int 0, .int 0, .int 0])), (hg, .inr (5, [.ref o0, .ref o1, .ref o2, .ref o3, .ref o4, .ref o5, .ref o6, .ref o7, .ref o8, .ref o9, .ref o10, .null, .null, .int 0, .int 0, .int 0, .int 0])), (hy, .inr (11, [.ref p0, .ref p1, .int 1, .int 0, .int 1, .int 0, .int 0])), (p0, .inl (a 0, 7, .inl (upd (upd (fun _ => 0) 0 0) 1 1)))]) [0, 1, 2, 3, 4] [5, 6, 7, 8, 9, 10, 11] rfl rfl ⟨rfl, rfl, by decide⟩ (kx_rV E w hl.1 (As := [.int 16, .int 16]) (wc := [(hm, .inr (12, (mF r 0 0 0 (-1) 0 0 0 0 0 0))), ((r 7), .inl (a 3, 80, .inl (upd (fun _ => 0) 16 1))), ((r 8), .inl (a 0, 80, .inl (upd (fun _ => 0) 16 1))), ((r 9), .inl (a 1, 560, .inr (.inl (vp_updL (vp_updL (fun _ => 0) 112 0) 113 1)))), ((r 10), .inl (a 0, 80, .inl (upd (fun _ => 0) 16 0)))]) (c_Md_compare_it l D a hm r 0 0 0 (-1) 0 0 0 0 0 0 H.size) gc_88 gv_Md_compare (kRecv E w 12 0 rfl rfl) [0, 1, 2, 3, 4] rfl rfl rfl rfl rfl ⟨(Nat.le_of_ble_eq_true rfl), (Nat.le_of_ble_eq_true rfl)⟩ rfl (Nat.le_of_ble_eq_true rfl) d_Law_law_537 ⟨(Nat.le_of_ble_eq_true rfl), (Nat.le_of_ble_eq_true rfl)⟩) (fun rr u H locs hu w => ?_)
  obtain ⟨rfl, rfl⟩ := hu
  have w : kW D A s [(ho, .inl (a 1, 1, .inr (.inl (vp_updL fo 0 0)))), (h0, .inr (0, [.ref r0, .ref r1, .ref r2, .ref r3, .ref hv, .ref r5, .ref r6, .int 0, .int 0, .int (-1), .int 0])), (hv, .inl (a 5, 17, .inr (.inr (.inr (.inr fv))))), (r6, .inr (2, [.ref e0, .ref e1, .ref e2, .ref e3, .ref e4, .ref e5, .ref e6, .ref e7, .ref hg, .int 0, .int 0, .int 0])), (hg, .inr (5, [.ref o0, .ref o1, .ref o2, .ref o3, .ref o4, .ref o5, .ref o6, .ref o7, .ref o8, .ref o9, .ref o10, .null, .null, .int 0, .int 0, .int 0, .int 0])), (hy, .inr (11, [.ref p0, .ref p1, .int 1, .int 0, .int 1, .int 0, .int 0])), (p0, .inl (a 0, 7, .inl (upd (upd (fun _ => 0) 0 0) 1 1))), ((r 7), .inl (a 3, 80, .inl (upd (fun _ => 0) 16 1))), (hm, .inr (12, (mF r 0 0 0 (-1) 0 0 0 0 0 0))), ((r 8), .inl (a 0, 80, .inl (upd (fun _ => 0) 16 1))), ((r 9), .inl (a 1, 560, .inr (.inl (vp_updL (vp_updL (fun _ => 0) 112 0) 113 1)))), ((r 10), .inl (a 0, 80, .inl (upd (fun _ => 0) 16 0)))] H locs := w
  refine lv_istore (lv' := [(6, .int 0), (5, .int 0), (0, .ref b), (1, .ref h0), (2, .ref hm), (3, .ref ho), (4, .int 0)]) hx hb d_Law_law_540 hl (by decide) rfl (fun ls hl => ?_)
  refine lv_aload_n hx hb d_Law_law_542 rfl (lv_at hl 4 rfl) ?_
  refine kx_i E w (wc := [(hm, .inr (12, (mF r 0 0 0 (-1) 0 0 0 0 0 0)))]) (wr := [(ho, .inl (a 1, 1, .inr (.inl (vp_updL fo 0 0)))), (h0, .inr (0, [.ref r0, .ref r1, .ref r2, .ref r3, .ref hv, .ref r5, .ref r6, .int 0, .int 0, .int (-1), .int 0])), (hv, .inl (a 5, 17, .inr (.inr (.inr (.inr fv))))), (r6, .inr (2, [.ref e0, .ref e1, .ref e2, .ref e3, .ref e4, .ref e5, .ref e6, .ref e7, .ref hg, .int 0, .int 0, .int 0])), (hg, .inr (5, [.ref o0, .ref o1, .ref o2, .ref o3, .ref o4, .ref o5, .ref o6, .ref o7, .ref o8, .ref o9, .ref o10, .null, .null, .int 0, .int 0, .int 0, .int 0])), (hy, .inr (11, [.ref p0, .ref p1, .int 1, .int 0, .int 1, .int 0, .int 0])), (p0, .inl (a 0, 7, .inl (upd (upd (fun _ => 0) 0 0) 1 1))), ((r 7), .inl (a 3, 80, .inl (upd (fun _ => 0) 16 1))), ((r 8), .inl (a 0, 80, .inl (upd (fun _ => 0) 16 1))), ((r 9), .inl (a 1, 560, .inr (.inl (vp_updL (vp_updL (fun _ => 0) 112 0) 113 1)))), ((r 10), .inl (a 0, 80, .inl (upd (fun _ => 0) 16 0)))]) [8] [0, 1, 2, 3, 4, 5, 6, 7, 9, 10, 11] rfl rfl ⟨rfl, rfl, by decide⟩ (kx_rV E w hl.1 (As := []) (wc := [(hm, .inr (12, (mF r 0 0 0 (-1) 0 0 0 0 0 0)))]) (c_Md_thrown l D a hm r 0 0 0 (-1) 0 0 0 0 0 0 H.size) gc_76 gv_Md_thrown (kRecv E w 12 8 rfl rfl) [8] rfl rfl rfl rfl rfl ⟨(Nat.le_of_ble_eq_true rfl), (Nat.le_of_ble_eq_true rfl)⟩ rfl (Nat.le_of_ble_eq_true rfl) d_Law_law_543 ⟨(Nat.le_of_ble_eq_true rfl), (Nat.le_of_ble_eq_true rfl)⟩) (fun rr u H locs hu w => ?_)
  obtain ⟨hrr, rfl⟩ := hu
  rw [hrr]
  clear hrr
  have w : kW D A s [(ho, .inl (a 1, 1, .inr (.inl (vp_updL fo 0 0)))), (h0, .inr (0, [.ref r0, .ref r1, .ref r2, .ref r3, .ref hv, .ref r5, .ref r6, .int 0, .int 0, .int (-1), .int 0])), (hv, .inl (a 5, 17, .inr (.inr (.inr (.inr fv))))), (r6, .inr (2, [.ref e0, .ref e1, .ref e2, .ref e3, .ref e4, .ref e5, .ref e6, .ref e7, .ref hg, .int 0, .int 0, .int 0])), (hg, .inr (5, [.ref o0, .ref o1, .ref o2, .ref o3, .ref o4, .ref o5, .ref o6, .ref o7, .ref o8, .ref o9, .ref o10, .null, .null, .int 0, .int 0, .int 0, .int 0])), (hy, .inr (11, [.ref p0, .ref p1, .int 1, .int 0, .int 1, .int 0, .int 0])), (p0, .inl (a 0, 7, .inl (upd (upd (fun _ => 0) 0 0) 1 1))), ((r 7), .inl (a 3, 80, .inl (upd (fun _ => 0) 16 1))), ((r 8), .inl (a 0, 80, .inl (upd (fun _ => 0) 16 1))), ((r 9), .inl (a 1, 560, .inr (.inl (vp_updL (vp_updL (fun _ => 0) 112 0) 113 1)))), ((r 10), .inl (a 0, 80, .inl (upd (fun _ => 0) 16 0))), (hm, .inr (12, (mF r 0 0 0 (-1) 0 0 0 0 0 0)))] H locs := w
  refine lv_iload hx hb d_Law_law_546 (lv_at hl 1 rfl) ?_
  refine lv_icmp_eq (tgt := 553) hx hb d_Law_law_548 (by decide) (fun _ => ?_) (fun h => absurd (by decide) h)
  refine lv_iload hx hb d_Law_law_553 (lv_at hl 1 rfl) ?_
  refine lv_if_ne (tgt := 570) hx hb d_Law_law_555 (by decide) (fun h => absurd (by decide) h) (fun _ => ?_)
  refine lv_aload_n hx hb d_Law_law_558 rfl (lv_at hl 5 rfl) ?_
  refine lv_iconst (v := 0) hx hb d_Law_law_559 (by decide) ?_
  refine kx_lald E w 0 rfl (by unfold vp_in; decide) (v := 0) rfl d_Law_law_560 ?_
  refine lv_iload hx hb d_Law_law_561 (lv_at hl 0 rfl) ?_
  refine lv_i2l (v := 0) hx hb d_Law_law_563 (by decide) ?_
  refine kx_lcmp (v := 0) hx hb d_Law_law_564 (by decide) ?_
  refine lv_if_eq (tgt := 570) hx hb d_Law_law_565 (by decide) (fun _ => ?_) (fun h => absurd (by decide) h)
  refine lv_goto (tgt := 815) hx hb d_Law_law_570 (by decide) ?_
  refine lv_iinc (v := 4) (lv' := [(4, .int 4), (6, .int 0), (5, .int 0), (0, .ref b), (1, .ref h0), (2, .ref hm), (3, .ref ho)]) hx hb d_Law_law_815 hl (k := 6) rfl (by decide) (by decide) rfl (fun ls hl => ?_)
  refine lv_goto (tgt := 23) hx hb d_Law_law_818 (by decide) ?_
  refine lv_iload hx hb d_Law_law_23 (lv_at hl 0 rfl) ?_
  refine lv_aload_n hx hb d_Law_law_25 rfl (lv_at hl 3 rfl) ?_
  refine kx_slen E w hX hbl hbA (v := 4) rfl d_Law_law_26 ?_
  refine lv_iconst (v := 4) hx hb d_Law_law_27 (by decide) ?_
  refine kx_isub (v := 0) hx hb d_Law_law_28 (by decide) ?_
  refine lv_icmp_gt (tgt := 821) hx hb d_Law_law_29 (by decide) (fun _ => ?_) (fun h => absurd (by decide) h)
  refine lv_iconst (v := 1) hx hb d_Law_law_821 (by decide) ?_
  refine va_forget (fun q hq => hA0 _ (w.2.2.2.2 q hq)) ?_
  refine W.widen (k := 600002) (n := 7302231) (Nat.le_of_ble_eq_true rfl) (Nat.le_of_ble_eq_true rfl) ?_
  exact lw_ret hx hb hr hlk d_Law_law_822
