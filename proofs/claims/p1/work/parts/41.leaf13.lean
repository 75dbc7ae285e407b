/-! laid by program (wip/gen) -/
set_option maxRecDepth 100000 in
set_option maxHeartbeats 4000000 in
theorem lf_write_bad {p : Program} {l : Launch} {e : Env} {s : State} {m : MethodId} {below : List Frame} {meth : Method} {c : Code} {D : va_G} {a : Nat → ClassId} {A : Nat → Prop} {b : Nat} {xs : Nat → Int32} (hl9 : l.stackTraces = false) (E : kE p m c code 8 s #[Value.ref b] "RootAlgebraLaw" D a A) (hr : meth.sig.returnType = ret) (hlk : meth.locks = false) (hA0 : ∀ q, A q → s.heap.size ≤ q) (hX : va_X b 4 xs s s.heap) (hbl : b < s.heap.size) (h0 : Nat) (r0 : Nat) (r1 : Nat) (r2 : Nat) (r3 : Nat) (hv : Nat) (r5 : Nat) (r6 : Nat) (ho : Nat) (fo : Nat → Int64) (hm : Nat) (r : Nat → Nat) (x : Int32) (hbad : x < 0 ∨ 16 < x) (h1 : xs 1 = x) {H : Heap} {locs : List Loc} {ls : Array Slot} (w : kW D A s [(h0, .inr (0, [.ref r0, .ref r1, .ref r2, .ref r3, .ref hv, .ref r5, .ref r6, .int 0, .int 0, .int (-1), .int 0])), (ho, .inl (a 1, 1, .inr (.inl fo))), (hm, .inr (12, (mF r 0 0 0 (-1) 0 0 0 0 0 0)))] H locs) (hl : lv_has ls 8 [(0, .ref b), (1, .ref h0), (2, .ref hm), (3, .ref ho), (4, .int 0)]) : W p l e room_1 s m #[Value.ref b] below meth c H locs 616 107719 (lw_Z below #[Value.ref b] s) (F0 m 641 ls []) := by
  have hx := E.1.1
  have hb := E.1.2.1
  have hbA : ¬ A b := fun h => absurd (hA0 b h) (Nat.not_le.mpr hbl)
  refine lv_aload_n hx hb d_Law_law_641 rfl (lv_at hl 1 rfl) ?_
  refine lv_aload_n hx hb d_Law_law_642 rfl (lv_at hl 0 rfl) ?_
  refine lv_iload hx hb d_Law_law_643 (lv_at hl 4 rfl) ?_
  refine lv_iconst (v := 1) hx hb d_Law_law_645 (by decide) ?_
  refine kx_iadd (v := 1) hx hb d_Law_law_646 (by decide) ?_
  refine kx_sld E w hX hbl hbA (by unfold vp_in; decide) (v := x) h1 d_Law_law_647 ?_
  refine lv_aload_n hx hb d_Law_law_648 rfl (lv_at hl 3 rfl) ?_
  refine kx_i E w (wc := [(h0, .inr (0, [.ref r0, .ref r1, .ref r2, .ref r3, .ref hv, .ref r5, .ref r6, .int 0, .int 0, .int (-1), .int 0])), (ho, .inl (a 1, 1, .inr (.inl fo)))]) (wr := [(hm, .inr (12, (mF r 0 0 0 (-1) 0 0 0 0 0 0)))]) [0, 1] [2] rfl rfl ⟨rfl, rfl, by decide⟩ (kx_rSW E w hl.1 (As := [.ref h0, .int x, .ref ho]) (wc := [(h0, .inr (0, [.ref r0, .ref r1, .ref r2, .ref r3, .ref hv, .ref r5, .ref r6, .int 0, .int 0, .int (-1), .int 0])), (ho, .inl (a 1, 1, .inr (.inl fo)))]) (h_write_bad l hl9 D a h0 r0 r1 r2 r3 hv r5 r6 ho fo x hbad H.size) gc_91 gs_Law_write [0, 1] rfl rfl rfl rfl rfl ⟨(Nat.le_of_ble_eq_true rfl), (Nat.le_of_ble_eq_true rfl)⟩ rfl (Nat.le_of_ble_eq_true rfl) d_Law_law_649 ⟨(Nat.le_of_ble_eq_true rfl), (Nat.le_of_ble_eq_true rfl)⟩) (fun rr u H locs hu w => ?_)
  obtain ⟨rfl, rfl⟩ := hu
  have w : kW D A s [(hm, .inr (12, (mF r 0 0 0 (-1) 0 0 0 0 0 0))), (ho, .inl (a 1, 1, .inr (.inl fo))), (h0, .inr (0, [.ref r0, .ref r1, .ref r2, .ref r3, .ref hv, .ref r5, .ref r6, .int 0, .int 0, .int (-1), .int 0]))] H locs := w
  refine lv_istore (lv' := [(5, .int 1), (0, .ref b), (1, .ref h0), (2, .ref hm), (3, .ref ho), (4, .int 0)]) hx hb d_Law_law_652 hl (by decide) rfl (fun ls hl => ?_)
  refine lv_aload_n hx hb d_Law_law_654 rfl (lv_at hl 3 rfl) ?_
  refine lv_aload_n hx hb d_Law_law_655 rfl (lv_at hl 1 rfl) ?_
  refine lv_iload hx hb d_Law_law_656 (lv_at hl 5 rfl) ?_
  refine lv_iconst (v := 1) hx hb d_Law_law_658 (by decide) ?_
  refine kx_iadd (v := 1) hx hb d_Law_law_659 (by decide) ?_
  refine kx_sld E w hX hbl hbA (by unfold vp_in; decide) (v := x) h1 d_Law_law_660 ?_
  refine kx_i E w (wc := [(hm, .inr (12, (mF r 0 0 0 (-1) 0 0 0 0 0 0)))]) (wr := [(ho, .inl (a 1, 1, .inr (.inl fo))), (h0, .inr (0, [.ref r0, .ref r1, .ref r2, .ref r3, .ref hv, .ref r5, .ref r6, .int 0, .int 0, .int (-1), .int 0]))]) [0] [1, 2] rfl rfl ⟨rfl, rfl, by decide⟩ (kx_rV E w hl.1 (As := [.int x]) (wc := [(hm, .inr (12, (mF r 0 0 0 (-1) 0 0 0 0 0 0)))]) (c_Md_write_bad l D a hm r 0 0 0 (-1) 0 0 0 0 0 0 x hbad H.size) gc_92 gv_Md_write (kRecv E w 12 0 rfl rfl) [0] rfl rfl rfl rfl rfl ⟨(Nat.le_of_ble_eq_true rfl), (Nat.le_of_ble_eq_true rfl)⟩ rfl (Nat.le_of_ble_eq_true rfl) d_Law_law_661 ⟨(Nat.le_of_ble_eq_true rfl), (Nat.le_of_ble_eq_true rfl)⟩) (fun rr u H locs hu w => ?_)
  obtain ⟨rfl, rfl⟩ := hu
  have w : kW D A s [(ho, .inl (a 1, 1, .inr (.inl fo))), (h0, .inr (0, [.ref r0, .ref r1, .ref r2, .ref r3, .ref hv, .ref r5, .ref r6, .int 0, .int 0, .int (-1), .int 0])), (hm, .inr (12, (mF r 1 0 0 (-1) 0 0 0 0 0 0)))] H locs := w
  refine lv_istore (lv' := [(6, .int 0), (5, .int 1), (0, .ref b), (1, .ref h0), (2, .ref hm), (3, .ref ho), (4, .int 0)]) hx hb d_Law_law_664 hl (by decide) rfl (fun ls hl => ?_)
  refine lv_aload_n hx hb d_Law_law_666 rfl (lv_at hl 4 rfl) ?_
  refine kx_i E w (wc := [(hm, .inr (12, (mF r 1 0 0 (-1) 0 0 0 0 0 0)))]) (wr := [(ho, .inl (a 1, 1, .inr (.inl fo))), (h0, .inr (0, [.ref r0, .ref r1, .ref r2, .ref r3, .ref hv, .ref r5, .ref r6, .int 0, .int 0, .int (-1), .int 0]))]) [2] [0, 1] rfl rfl ⟨rfl, rfl, by decide⟩ (kx_rV E w hl.1 (As := []) (wc := [(hm, .inr (12, (mF r 1 0 0 (-1) 0 0 0 0 0 0)))]) (c_Md_thrown l D a hm r 1 0 0 (-1) 0 0 0 0 0 0 H.size) gc_76 gv_Md_thrown (kRecv E w 12 2 rfl rfl) [2] rfl rfl rfl rfl rfl ⟨(Nat.le_of_ble_eq_true rfl), (Nat.le_of_ble_eq_true rfl)⟩ rfl (Nat.le_of_ble_eq_true rfl) d_Law_law_667 ⟨(Nat.le_of_ble_eq_true rfl), (Nat.le_of_ble_eq_true rfl)⟩) (fun rr u H locs hu w => ?_)
  obtain ⟨hrr, rfl⟩ := hu
  rw [hrr]
  clear hrr
  have w : kW D A s [(ho, .inl (a 1, 1, .inr (.inl fo))), (h0, .inr (0, [.ref r0, .ref r1, .ref r2, .ref r3, .ref hv, .ref r5, .ref r6, .int 0, .int 0, .int (-1), .int 0])), (hm, .inr (12, (mF r 1 0 0 (-1) 0 0 0 0 0 0)))] H locs := w
  refine lv_iload hx hb d_Law_law_670 (lv_at hl 1 rfl) ?_
  refine lv_icmp_eq (tgt := 677) hx hb d_Law_law_672 (by decide) (fun _ => ?_) (fun h => absurd (by decide) h)
  refine lv_iload hx hb d_Law_law_677 (lv_at hl 1 rfl) ?_
  refine lv_if_ne (tgt := 694) hx hb d_Law_law_679 (by decide) (fun _ => ?_) (fun h => absurd h (by decide))
  refine lv_goto (tgt := 815) hx hb d_Law_law_694 (by decide) ?_
  refine lv_iinc (v := 4) (lv' := [(4, .int 4), (6, .int 0), (5, .int 1), (0, .ref b), (1, .ref h0), (2, .ref hm), (3, .ref ho)]) hx hb d_Law_law_815 hl (k := 6) rfl (by decide) (by decide) rfl (fun ls hl => ?_)
  refine lv_goto (tgt := 23) hx hb d_Law_law_818 (by decide) ?_
  refine lv_iload hx hb d_Law_law_23 (lv_at hl 0 rfl) ?_
  refine lv_aload_n hx hb d_Law_law_25 rfl (lv_at hl 3 rfl) ?_
  refine kx_slen E w hX hbl hbA (v := 4) rfl d_Law_law_26 ?_
  refine lv_iconst (v := 4) hx hb d_Law_law_27 (by decide) ?_
  refine kx_isub (v := 0) hx hb d_Law_law_28 (by decide) ?_
  refine lv_icmp_gt (tgt := 821) hx hb d_Law_law_29 (by decide) (fun _ => ?_) (fun h => absurd (by decide) h)
  refine lv_iconst (v := 1) hx hb d_Law_law_821 (by decide) ?_
  refine va_forget (fun q hq => hA0 _ (w.2.2.2.2 q hq)) ?_
  refine W.widen (k := 600002) (n := 7302231) (Nat.le_of_ble_eq_true rfl) (Nat.le_of_ble_eq_true rfl) ?_
  exact lw_ret hx hb hr hlk d_Law_law_822
set_option maxRecDepth 100000 in
set_option maxHeartbeats 4000000 in
theorem lf_write_none {p : Program} {l : Launch} {e : Env} {s : State} {m : MethodId} {below : List Frame} {meth : Method} {c : Code} {D : va_G} {a : Nat → ClassId} {A : Nat → Prop} {b : Nat} {xs : Nat → Int32} (hl9 : l.stackTraces = false) (E : kE p m c code 8 s #[Value.ref b] "RootAlgebraLaw" D a A) (hr : meth.sig.returnType = ret) (hlk : meth.locks = false) (hA0 : ∀ q, A q → s.heap.size ≤ q) (hX : va_X b 4 xs s s.heap) (hbl : b < s.heap.size) (h0 : Nat) (r0 : Nat) (r1 : Nat) (r2 : Nat) (r3 : Nat) (hv : Nat) (r5 : Nat) (r6 : Nat) (fv : Nat → Option Nat) (hy : Nat) (p0 : Nat) (p1 : Nat) (ho : Nat) (fo : Nat → Int64) (hm : Nat) (r : Nat → Nat) (j : Nat) (hj : j ≤ 15) (hf0 : fv j = some hy) (h1 : xs 1 = (nI j)) {H : Heap} {locs : List Loc} {ls : Array Slot} (w : kW D A s [(h0, .inr (0, [.ref r0, .ref r1, .ref r2, .ref r3, .ref hv, .ref r5, .ref r6, .int 0, .int 0, .int (-1), .int 0])), (hv, .inl (a 5, 17, .inr (.inr (.inr (.inr fv))))), (hy, .inr (11, [.ref p0, .ref p1, .int 0, .int 0, .int 0, .int 0, .int 0])), (ho, .inl (a 1, 1, .inr (.inl fo))), (hm, .inr (12, (mF r 0 0 0 (-1) 0 0 0 0 0 0))), ((r 7), .inl (a 3, 80, .inl (upd (fun _ => 0) 16 1)))] H locs) (hl : lv_has ls 8 [(0, .ref b), (1, .ref h0), (2, .ref hm), (3, .ref ho), (4, .int 0)]) : W p l e room_1 s m #[Value.ref b] below meth c H locs 616 107719 (lw_Z below #[Value.ref b] s) (F0 m 641 ls []) := by
  have hx := E.1.1
  have hb := E.1.2.1
  have hbA : ¬ A b := fun h => absurd (hA0 b h) (Nat.not_le.mpr hbl)
  refine lv_aload_n hx hb d_Law_law_641 rfl (lv_at hl 1 rfl) ?_
  refine lv_aload_n hx hb d_Law_law_642 rfl (lv_at hl 0 rfl) ?_
  refine lv_iload hx hb d_Law_law_643 (lv_at hl 4 rfl) ?_
  refine lv_iconst (v := 1) hx hb d_Law_law_645 (by decide) ?_
  refine kx_iadd (v := 1) hx hb d_Law_law_646 (by decide) ?_
  refine kx_sld E w hX hbl hbA (by unfold vp_in; decide) (v := (nI j)) h1 d_Law_law_647 ?_
  refine lv_aload_n hx hb d_Law_law_648 rfl (lv_at hl 3 rfl) ?_
  refine kx_i E w (wc := [(h0, .inr (0, [.ref r0, .ref r1, .ref r2, .ref r3, .ref hv, .ref r5, .ref r6, .int 0, .int 0, .int (-1), .int 0])), (hv, .inl (a 5, 17, .inr (.inr (.inr (.inr fv))))), (hy, .inr (11, [.ref p0, .ref p1, .int 0, .int 0, .int 0, .int 0, .int 0])), (ho, .inl (a 1, 1, .inr (.inl fo)))]) (wr := [(hm, .inr (12, (mF r 0 0 0 (-1) 0 0 0 0 0 0))), ((r 7), .inl (a 3, 80, .inl (upd (fun _ => 0) 16 1)))]) [0, 1, 2, 3] [4, 5] rfl rfl ⟨rfl, rfl, by decide⟩ (kx_rSW E w hl.1 (As := [.ref h0, .int (nI j), .ref ho]) (wc := [(h0, .inr (0, [.ref r0, .ref r1, .ref r2, .ref r3, .ref hv, .ref r5, .ref r6, .int 0, .int 0, .int (-1), .int 0])), (hv, .inl (a 5, 17, .inr (.inr (.inr (.inr fv))))), (hy, .inr (11, [.ref p0, .ref p1, .int 0, .int 0, .int 0, .int 0, .int 0])), (ho, .inl (a 1, 1, .inr (.inl fo)))]) (h_write_none l hl9 D a h0 r0 r1 r2 r3 hv r5 r6 fv hy p0 p1 ho fo j (by omega) hf0 H.size) gc_91 gs_Law_write [0, 1, 2, 3] rfl rfl rfl rfl rfl ⟨(Nat.le_of_ble_eq_true rfl), (Nat.le_of_ble_eq_true rfl)⟩ rfl (Nat.le_of_ble_eq_true rfl) d_Law_law_649 ⟨(Nat.le_of_ble_eq_true rfl), (Nat.le_of_ble_eq_true rfl)⟩) (fun rr u H locs hu w => ?_)
  obtain ⟨rfl, rfl⟩ := hu
  have w : kW D A s [(hm, .inr (12, (mF r 0 0 0 (-1) 0 0 0 0 0 0))), ((r 7), .inl (a 3, 80, .inl (upd (fun _ => 0) 16 1))), (ho, .inl (a 1, 1, .inr (.inl fo))), (h0, .inr (0, [.ref r0, .ref r1, .ref r2, .ref r3, .ref hv, .ref r5, .ref r6, .int 0, .int 0, .int (-1), .int 0])), (hv, .inl (a 5, 17, .inr (.inr (.inr (.inr fv))))), (hy, .inr (11, [.ref p0, .ref p1, .int 0, .int 0, .int 0, .int 0, .int 0]))] H locs := w
  refine lv_istore (lv' := [(5, .int 2), (0, .ref b), (1, .ref h0), (2, .ref hm), (3, .ref ho), (4, .int 0)]) hx hb d_Law_law_652 hl (by decide) rfl (fun ls hl => ?_)
  refine lv_aload_n hx hb d_Law_law_654 rfl (lv_at hl 3 rfl) ?_
  refine lv_aload_n hx hb d_Law_law_655 rfl (lv_at hl 1 rfl) ?_
  refine lv_iload hx hb d_Law_law_656 (lv_at hl 5 rfl) ?_
  refine lv_iconst (v := 1) hx hb d_Law_law_658 (by decide) ?_
  refine kx_iadd (v := 1) hx hb d_Law_law_659 (by decide) ?_
  refine kx_sld E w hX hbl hbA (by unfold vp_in; decide) (v := (nI j)) h1 d_Law_law_660 ?_
  refine kx_i E w (wc := [(hm, .inr (12, (mF r 0 0 0 (-1) 0 0 0 0 0 0))), ((r 7), .inl (a 3, 80, .inl (upd (fun _ => 0) 16 1)))]) (wr := [(ho, .inl (a 1, 1, .inr (.inl fo))), (h0, .inr (0, [.ref r0, .ref r1, .ref r2, .ref r3, .ref hv, .ref r5, .ref r6, .int 0, .int 0, .int (-1), .int 0])), (hv, .inl (a 5, 17, .inr (.inr (.inr (.inr fv))))), (hy, .inr (11, [.ref p0, .ref p1, .int 0, .int 0, .int 0, .int 0, .int 0]))]) [0, 1] [2, 3, 4, 5] rfl rfl ⟨rfl, rfl, by decide⟩ (kx_rV E w hl.1 (As := [.int (nI j)]) (wc := [(hm, .inr (12, (mF r 0 0 0 (-1) 0 0 0 0 0 0))), ((r 7), .inl (a 3, 80, .inl (upd (fun _ => 0) 16 1)))]) (c_Md_write_none l D a hm r 0 0 0 (-1) 0 0 0 0 0 0 j (by omega) H.size) gc_92 gv_Md_write (kRecv E w 12 0 rfl rfl) [0, 1] rfl rfl rfl rfl rfl ⟨(Nat.le_of_ble_eq_true rfl), (Nat.le_of_ble_eq_true rfl)⟩ rfl (Nat.le_of_ble_eq_true rfl) d_Law_law_661 ⟨(Nat.le_of_ble_eq_true rfl), (Nat.le_of_ble_eq_true rfl)⟩) (fun rr u H locs hu w => ?_)
  obtain ⟨rfl, rfl⟩ := hu
  have w : kW D A s [(ho, .inl (a 1, 1, .inr (.inl fo))), (h0, .inr (0, [.ref r0, .ref r1, .ref r2, .ref r3, .ref hv, .ref r5, .ref r6, .int 0, .int 0, .int (-1), .int 0])), (hv, .inl (a 5, 17, .inr (.inr (.inr (.inr fv))))), (hy, .inr (11, [.ref p0, .ref p1, .int 0, .int 0, .int 0, .int 0, .int 0])), ((r 7), .inl (a 3, 80, .inl (upd (fun _ => 0) 16 1))), (hm, .inr (12, (mF r 2 0 0 (-1) 0 0 0 0 0 0)))] H locs := w
  refine lv_istore (lv' := [(6, .int 0), (5, .int 2), (0, .ref b), (1, .ref h0), (2, .ref hm), (3, .ref ho), (4, .int 0)]) hx hb d_Law_law_664 hl (by decide) rfl (fun ls hl => ?_)
  refine lv_aload_n hx hb d_Law_law_666 rfl (lv_at hl 4 rfl) ?_
  refine kx_i E w (wc := [(hm, .inr (12, (mF r 2 0 0 (-1) 0 0 0 0 0 0)))]) (wr := [(ho, .inl (a 1, 1, .inr (.inl fo))), (h0, .inr (0, [.ref r0, .ref r1, .ref r2, .ref r3, .ref hv, .ref r5, .ref r6, .int 0, .int 0, .int (-1), .int 0])), (hv, .inl (a 5, 17, .inr (.inr (.inr (.inr fv))))), (hy, .inr (11, [.ref p0, .ref p1, .int 0, .int 0, .int 0, .int 0, .int 0])), ((r 7), .inl (a 3, 80, .inl (upd (fun _ => 0) 16 1)))]) [5] [0, 1, 2, 3, 4] rfl rfl ⟨rfl, rfl, by decide⟩ (kx_rV E w hl.1 (As := []) (wc := [(hm, .inr (12, (mF r 2 0 0 (-1) 0 0 0 0 0 0)))]) (c_Md_thrown l D a hm r 2 0 0 (-1) 0 0 0 0 0 0 H.size) gc_76 gv_Md_thrown (kRecv E w 12 5 rfl rfl) [5] rfl rfl rfl rfl rfl ⟨(Nat.le_of_ble_eq_true rfl), (Nat.le_of_ble_eq_true rfl)⟩ rfl (Nat.le_of_ble_eq_true rfl) d_Law_law_667 ⟨(Nat.le_of_ble_eq_true rfl), (Nat.le_of_ble_eq_true rfl)⟩) (fun rr u H locs hu w => ?_)
  obtain ⟨hrr, rfl⟩ := hu
  rw [hrr]
  clear hrr
  have w : kW D A s [(ho, .inl (a 1, 1, .inr (.inl fo))), (h0, .inr (0, [.ref r0, .ref r1, .ref r2, .ref r3, .ref hv, .ref r5, .ref r6, .int 0, .int 0, .int (-1), .int 0])), (hv, .inl (a 5, 17, .inr (.inr (.inr (.inr fv))))), (hy, .inr (11, [.ref p0, .ref p1, .int 0, .int 0, .int 0, .int 0, .int 0])), ((r 7), .inl (a 3, 80, .inl (upd (fun _ => 0) 16 1))), (hm, .inr (12, (mF r 2 0 0 (-1) 0 0 0 0 0 0)))] H locs := w
  refine lv_iload hx hb d_Law_law_670 (lv_at hl 1 rfl) ?_
  refine lv_icmp_eq (tgt := 677) hx hb d_Law_law_672 (by decide) (fun _ => ?_) (fun h => absurd (by decide) h)
  refine lv_iload hx hb d_Law_law_677 (lv_at hl 1 rfl) ?_
  refine lv_if_ne (tgt := 694) hx hb d_Law_law_679 (by decide) (fun _ => ?_) (fun h => absurd h (by decide))
  refine lv_goto (tgt := 815) hx hb d_Law_law_694 (by decide) ?_
  refine lv_iinc (v := 4) (lv' := [(4, .int 4), (6, .int 0), (5, .int 2), (0, .ref b), (1, .ref h0), (2, .ref hm), (3, .ref ho)]) hx hb d_Law_law_815 hl (k := 6) rfl (by decide) (by decide) rfl (fun ls hl => ?_)
  refine lv_goto (tgt := 23) hx hb d_Law_law_818 (by decide) ?_
  refine lv_iload hx hb d_Law_law_23 (lv_at hl 0 rfl) ?_
  refine lv_aload_n hx hb d_Law_law_25 rfl (lv_at hl 3 rfl) ?_
  refine kx_slen E w hX hbl hbA (v := 4) rfl d_Law_law_26 ?_
  refine lv_iconst (v := 4) hx hb d_Law_law_27 (by decide) ?_
  refine kx_isub (v := 0) hx hb d_Law_law_28 (by decide) ?_
  refine lv_icmp_gt (tgt := 821) hx hb d_Law_law_29 (by decide) (fun _ => ?_) (fun h => absurd (by decide) h)
  refine lv_iconst (v := 1) hx hb d_Law_law_821 (by decide) ?_
  refine va_forget (fun q hq => hA0 _ (w.2.2.2.2 q hq)) ?_
  refine W.widen (k := 600002) (n := 7302231) (Nat.le_of_ble_eq_true rfl) (Nat.le_of_ble_eq_true rfl) ?_
  exact lw_ret hx hb hr hlk d_Law_law_822
set_option maxRecDepth 100000 in
set_option maxHeartbeats 4000000 in
theorem lf_write_it {p : Program} {l : Launch} {e : Env} {s : State} {m : MethodId} {below : List Frame} {meth : Method} {c : Code} {D : va_G} {a : Nat → ClassId} {A : Nat → Prop} {b : Nat} {xs : Nat → Int32} (hl9 : l.stackTraces = false) (E : kE p m c code 8 s #[Value.ref b] "RootAlgebraLaw" D a A) (hr : meth.sig.returnType = ret) (hlk : meth.locks = false) (hA0 : ∀ q, A q → s.heap.size ≤ q) (hX : va_X b 4 xs s s.heap) (hbl : b < s.heap.size) (h0 : Nat) (r0 : Nat) (r1 : Nat) (r2 : Nat) (r3 : Nat) (hv : Nat) (r5 : Nat) (r6 : Nat) (f1 : Nat → Int32) (f2 : Nat → Int32) (g1 : Nat) (f3 : Nat → Int32) (fv : Nat → Option Nat) (hy : Nat) (p0 : Nat) (p1 : Nat) (ho : Nat) (fo : Nat → Int64) (hm : Nat) (r : Nat → Nat) (k2 : Nat → Int64) (k3 : Nat → Int32) (k4 : Nat → Int32) (k5 : Nat → Int64) (k6 : Nat → Int64) (k7 : Nat → Int64) (k8 : Nat → Int32) (h16 : fv 16 = some hy) (h1 : xs 1 = 16) {H : Heap} {locs : List Loc} {ls : Array Slot} (w : kW D A s [(h0, .inr (0, [.ref r0, .ref r1, .ref r2, .ref r3, .ref hv, .ref r5, .ref r6, .int 0, .int 0, .int (-1), .int 0])), (r1, .inl (a 2, 128, .inl f1)), (r2, .inl (a 2, 128, .inl f2)), (r3, .inr (1, [.ref g1, .int 0, .int 0])), (g1, .inl (a 0, 8, .inl f3)), (hv, .inl (a 5, 17, .inr (.inr (.inr (.inr fv))))), (hy, .inr (11, [.ref p0, .ref p1, .int 1, .int 0, .int 1, .int 0, .int 0])), (p0, .inl (a 0, 7, .inl (upd (upd (fun _ => 0) 0 0) 1 1))), (ho, .inl (a 1, 1, .inr (.inl fo))), (hm, .inr (12, (mF r 0 0 0 (-1) 0 0 0 0 0 0))), ((r 7), .inl (a 3, 80, .inl (upd (fun _ => 0) 16 1))), ((r 8), .inl (a 0, 80, .inl (upd (fun _ => 0) 16 1))), ((r 9), .inl (a 1, 560, .inr (.inl (vp_updL (vp_updL (fun _ => 0) 112 0) 113 1)))), ((r 10), .inl (a 0, 80, .inl (upd (fun _ => 0) 16 0))), ((r 12), .inl (a 1, 81840, .inr (.inl k2))), ((r 13), .inl (a 0, 124, .inl k3)), ((r 14), .inl (a 0, 124, .inl k4)), ((r 15), .inl (a 1, 1400, .inr (.inl k5))), ((r 16), .inl (a 1, 700, .inr (.inl k6))), ((r 17), .inl (a 1, 1400, .inr (.inl k7))), ((r 3), .inl (a 0, 400, .inl k8))] H locs) (hl : lv_has ls 8 [(0, .ref b), (1, .ref h0), (2, .ref hm), (3, .ref ho), (4, .int 0)]) : W p l e room_1 s m #[Value.ref b] below meth c H locs 616 107719 (lw_Z below #[Value.ref b] s) (F0 m 641 ls []) := by
  have hx := E.1.1
  have hb := E.1.2.1
  have hbA : ¬ A b := fun h => absurd (hA0 b h) (Nat.not_le.mpr hbl)
  refine lv_aload_n hx hb d_Law_law_641 rfl (lv_at hl 1 rfl) ?_
  refine lv_aload_n hx hb d_Law_law_642 rfl (lv_at hl 0 rfl) ?_
  refine lv_iload hx hb d_Law_law_643 (lv_at hl 4 rfl) ?_
  refine lv_iconst (v := 1) hx hb d_Law_law_645 (by decide) ?_
  refine kx_iadd (v := 1) hx hb d_Law_law_646 (by decide) ?_
  refine kx_sld E w hX hbl hbA (by unfold vp_in; decide) (v := 16) h1 d_Law_law_647 ?_
  refine lv_aload_n hx hb d_Law_law_648 rfl (lv_at hl 3 rfl) ?_
  refine kx_i E w (wc := [(h0, .inr (0, [.ref r0, .ref r1, .ref r2, .ref r3, .ref hv, .ref r5, .ref r6, .int 0, .int 0, .int (-1), .int 0])), (r1, .inl (a 2, 128, .inl f1)), (r2, .inl (a 2, 128, .inl f2)), (r3, .inr (1, [.ref g1, .int 0, .int 0])), (g1, .inl (a 0, 8, .inl f3)), (hv, .inl (a 5, 17, .inr (.inr (.inr (.inr fv))))), (hy, .inr (11, [.ref p0, .ref p1, .int 1, .int 0, .int 1, .int 0, .int 0])), (p0, .inl (a 0, 7, .inl (upd (upd (fun _ => 0) 0 0) 1 1))), (ho, .inl (a 1, 1, .inr (.inl fo)))]) (wr := [(hm, .inr (12, (mF r 0 0 0 (-1) 0 0 0 0 0 0))), ((r 7), .inl (a 3, 80, .inl (upd (fun _ => 0) 16 1))), ((r 8), .inl (a 0, 80, .inl (upd (fun _ => 0) 16 1))), ((r 9), .inl (a 1, 560, .inr (.inl (vp_updL (vp_updL (fun _ => 0) 112 0) 113 1)))), ((r 10), .inl (a 0, 80, .inl (upd (fun _ => 0) 16 0))), ((r 12), .inl (a 1, 81840, .inr (.inl k2))), ((r 13), .inl (a 0, 124, .inl k3)), ((r 14), .inl (a 0, 124, .inl k4)), ((r 15), .inl (a 1, 1400, .inr (.inl k5))), ((r 16), .inl (a 1, 700, .inr (.inl k6))), ((r 17), .inl (a 1, 1400, .inr (.inl k7))), ((r 3), .inl (a 0, 400, .inl k8))]) [0, 1, 2, 3, 4, 5, 6, 7, 8] [9, 10, 11, 12, 13, 14, 15, 16, 17, 18, 19, 20] rfl rfl ⟨rfl, rfl, by decide⟩ (kx_rSW E w hl.1 (As := [.ref h0, .int 16, .ref ho]) (wc := [(h0, .inr (0, [.ref r0, .ref r1, .ref r2, .ref r3, .ref hv, .ref r5, .ref r6, .int 0, .int 0, .int (-1), .int 0])), (r1, .inl (a 2, 128, .inl f1)), (r2, .inl (a 2, 128, .inl f2)), (r3, .inr (1, [.ref g1, .int 0, .int 0])), (g1, .inl (a 0, 8, .inl f3)), (hv, .inl (a 5, 17, .inr (.inr (.inr (.inr fv))))), (hy, .inr (11, [.ref p0, .ref p1, .int 1, .int 0, .int 1, .int 0, .int 0])), (p0, .inl (a 0, 7, .inl (upd (upd (fun _ => 0) 0 0) 1 1))), (ho, .inl (a 1, 1, .inr (.inl fo)))]) (h_write_it l D a h0 r0 r1 r2 r3 hv r5 r6 f1 f2 g1 f3 fv hy p0 p1 ho fo h16 H.size) gc_91 gs_Law_write [0, 1, 2, 3, 4, 5, 6, 7, 8] rfl rfl rfl rfl rfl ⟨(Nat.le_of_ble_eq_true rfl), (Nat.le_of_ble_eq_true rfl)⟩ rfl (Nat.le_of_ble_eq_true rfl) d_Law_law_649 ⟨(Nat.le_of_ble_eq_true rfl), (Nat.le_of_ble_eq_true rfl)⟩) (fun rr u H locs hu w => ?_)
  obtain ⟨rfl, rfl⟩ := hu
  have w : kW D A s [(hm, .inr (12, (mF r 0 0 0 (-1) 0 0 0 0 0 0))), ((r 7), .inl (a 3, 80, .inl (upd (fun _ => 0) 16 1))), ((r 8), .inl (a 0, 80, .inl (upd (fun _ => 0) 16 1))), ((r 9), .inl (a 1, 560, .inr (.inl (vp_updL (vp_updL (fun _ => 0) 112 0) 113 1)))), ((r 10), .inl (a 0, 80, .inl (upd (fun _ => 0) 16 0))), ((r 12), .inl (a 1, 81840, .inr (.inl k2))), ((r 13), .inl (a 0, 124, .inl k3)), ((r 14), .inl (a 0, 124, .inl k4)), ((r 15), .inl (a 1, 1400, .inr (.inl k5))), ((r 16), .inl (a 1, 700, .inr (.inl k6))), ((r 17), .inl (a 1, 1400, .inr (.inl k7))), ((r 3), .inl (a 0, 400, .inl k8)), (ho, .inl (a 1, 1, .inr (.inl (vp_updL fo 0 7)))), (hv, .inl (a 5, 17, .inr (.inr (.inr (.inr fv))))), (hy, .inr (11, [.ref p0, .ref p1, .int 1, .int 0, .int 1, .int 0, .int 0])), (p0, .inl (a 0, 7, .inl (upd (upd (fun _ => 0) 0 0) 1 1))), (r2, .inl (a 2, 128, .inl (upd (upd (upd f2 0 48) 0 49) 0 48))), (r3, .inr (1, [.ref g1, .int 0, .int 0])), (g1, .inl (a 0, 8, .inl (upd (upd f3 0 1) 0 0))), (h0, .inr (0, [.ref r0, .ref r1, .ref r2, .ref r3, .ref hv, .ref r5, .ref r6, .int 0, .int 7, .int (-1), .int 0])), (r1, .inl (a 2, 128, .inl (upd (upd (upd (upd (upd (upd (upd f1 0 91) 1 48) 2 44) 3 49) 4 93) 5 35) 6 48)))] H locs := w
  refine lv_istore (lv' := [(5, .int 0), (0, .ref b), (1, .ref h0), (2, .ref hm), (3, .ref ho), (4, .int 0)]) hx hb d_Law_law_652 hl (by decide) rfl (fun ls hl => ?_)
  refine lv_aload_n hx hb d_Law_law_654 rfl (lv_at hl 3 rfl) ?_
  refine lv_aload_n hx hb d_Law_law_655 rfl (lv_at hl 1 rfl) ?_
  refine lv_iload hx hb d_Law_law_656 (lv_at hl 5 rfl) ?_
  refine lv_iconst (v := 1) hx hb d_Law_law_658 (by decide) ?_
  refine kx_iadd (v := 1) hx hb d_Law_law_659 (by decide) ?_
  refine kx_sld E w hX hbl hbA (by unfold vp_in; decide) (v := 16) h1 d_Law_law_660 ?_
  refine kx_i E w (wc := [(hm, .inr (12, (mF r 0 0 0 (-1) 0 0 0 0 0 0))), ((r 7), .inl (a 3, 80, .inl (upd (fun _ => 0) 16 1))), ((r 8), .inl (a 0, 80, .inl (upd (fun _ => 0) 16 1))), ((r 9), .inl (a 1, 560, .inr (.inl (vp_updL (vp_updL (fun _ => 0) 112 0) 113 1)))), ((r 10), .inl (a 0, 80, .inl (upd (fun _ => 0) 16 0))), ((r 12), .inl (a 1, 81840, .inr (.inl k2))), ((r 13), .inl (a 0, 124, .inl k3)), ((r 14), .inl (a 0, 124, .inl k4)), ((r 15), .inl (a 1, 1400, .inr (.inl k5))), ((r 16), .inl (a 1, 700, .inr (.inl k6))), ((r 17), .inl (a 1, 1400, .inr (.inl k7))), ((r 3), .inl (a 0, 400, .inl k8))]) (wr := [(ho, .inl (a 1, 1, .inr (.inl (vp_updL fo 0 7)))), (hv, .inl (a 5, 17, .inr (.inr (.inr (.inr fv))))), (hy, .inr (11, [.ref p0, .ref p1, .int 1, .int 0, .int 1, .int 0, .int 0])), (p0, .inl (a 0, 7, .inl (upd (upd (fun _ => 0) 0 0) 1 1))), (r2, .inl (a 2, 128, .inl (upd (upd (upd f2 0 48) 0 49) 0 48))), (r3, .inr (1, [.ref g1, .int 0, .int 0])), (g1, .inl (a 0, 8, .inl (upd (upd f3 0 1) 0 0))), (h0, .inr (0, [.ref r0, .ref r1, .ref r2, .ref r3, .ref hv, .ref r5, .ref r6, .int 0, .int 7, .int (-1), .int 0])), (r1, .inl (a 2, 128, .inl (upd (upd (upd (upd (upd (upd (upd f1 0 91) 1 48) 2 44) 3 49) 4 93) 5 35) 6 48)))]) [0, 1, 2, 3, 4, 5, 6, 7, 8, 9, 10, 11] [12, 13, 14, 15, 16, 17, 18, 19, 20] rfl rfl ⟨rfl, rfl, by decide⟩ (kx_rV E w hl.1 (As := [.int 16]) (wc := [(hm, .inr (12, (mF r 0 0 0 (-1) 0 0 0 0 0 0))), ((r 7), .inl (a 3, 80, .inl (upd (fun _ => 0) 16 1))), ((r 8), .inl (a 0, 80, .inl (upd (fun _ => 0) 16 1))), ((r 9), .inl (a 1, 560, .inr (.inl (vp_updL (vp_updL (fun _ => 0) 112 0) 113 1)))), ((r 10), .inl (a 0, 80, .inl (upd (fun _ => 0) 16 0))), ((r 12), .inl (a 1, 81840, .inr (.inl k2))), ((r 13), .inl (a 0, 124, .inl k3)), ((r 14), .inl (a 0, 124, .inl k4)), ((r 15), .inl (a 1, 1400, .inr (.inl k5))), ((r 16), .inl (a 1, 700, .inr (.inl k6))), ((r 17), .inl (a 1, 1400, .inr (.inl k7))), ((r 3), .inl (a 0, 400, .inl k8))]) (c_Md_write_it l D a hm r 0 0 0 (-1) 0 0 0 0 0 0 k2 k3 k4 k5 k6 k7 k8 H.size) gc_92 gv_Md_write (kRecv E w 12 0 rfl rfl) [0, 1, 2, 3, 4, 5, 6, 7, 8, 9, 10, 11] rfl rfl rfl rfl rfl ⟨(Nat.le_of_ble_eq_true rfl), (Nat.le_of_ble_eq_true rfl)⟩ rfl (Nat.le_of_ble_eq_true rfl) d_Law_law_661 ⟨(Nat.le_of_ble_eq_true rfl), (Nat.le_of_ble_eq_true rfl)⟩) (fun rr u H locs hu w => ?_)
  obtain ⟨fz1, fz2, fz3, fz4, fz5, fz6, fz7, rfl, rfl, hf8, hf9, hf10, hf11, hf12, hf13, hf14, hf15, hf16, hf17, hf18, hf19⟩ := hu
  have w : kW D A s [(ho, .inl (a 1, 1, .inr (.inl (vp_updL fo 0 7)))), (hv, .inl (a 5, 17, .inr (.inr (.inr (.inr fv))))), (hy, .inr (11, [.ref p0, .ref p1, .int 1, .int 0, .int 1, .int 0, .int 0])), (p0, .inl (a 0, 7, .inl (upd (upd (fun _ => 0) 0 0) 1 1))), (r2, .inl (a 2, 128, .inl (upd (upd (upd f2 0 48) 0 49) 0 48))), (r3, .inr (1, [.ref g1, .int 0, .int 0])), (g1, .inl (a 0, 8, .inl (upd (upd f3 0 1) 0 0))), (h0, .inr (0, [.ref r0, .ref r1, .ref r2, .ref r3, .ref hv, .ref r5, .ref r6, .int 0, .int 7, .int (-1), .int 0])), (r1, .inl (a 2, 128, .inl (upd (upd (upd (upd (upd (upd (upd f1 0 91) 1 48) 2 44) 3 49) 4 93) 5 35) 6 48))), ((r 8), .inl (a 0, 80, .inl (upd (fun _ => 0) 16 1))), ((r 9), .inl (a 1, 560, .inr (.inl (vp_updL (vp_updL (fun _ => 0) 112 0) 113 1)))), ((r 10), .inl (a 0, 80, .inl (upd (fun _ => 0) 16 0))), ((r 7), .inl (a 3, 80, .inl (upd (fun _ => 0) 16 1))), ((r 16), .inl (a 1, 700, .inr (.inl fz1))), ((r 17), .inl (a 1, 1400, .inr (.inl fz2))), ((r 15), .inl (a 1, 1400, .inr (.inl fz3))), ((r 14), .inl (a 0, 124, .inl fz4)), ((r 12), .inl (a 1, 81840, .inr (.inl fz5))), ((r 13), .inl (a 0, 124, .inl fz6)), (hm, .inr (12, (mF r 0 0 7 (-1) 0 0 0 0 0 0))), ((r 3), .inl (a 0, 400, .inl fz7))] H locs := w
  refine lv_istore (lv' := [(6, .int 7), (5, .int 0), (0, .ref b), (1, .ref h0), (2, .ref hm), (3, .ref ho), (4, .int 0)]) hx hb d_Law_law_664 hl (by decide) rfl (fun ls hl => ?_)
  refine lv_aload_n hx hb d_Law_law_666 rfl (lv_at hl 4 rfl) ?_
  refine kx_i E w (wc := [(hm, .inr (12, (mF r 0 0 7 (-1) 0 0 0 0 0 0)))]) (wr := [(ho, .inl (a 1, 1, .inr (.inl (vp_updL fo 0 7)))), (hv, .inl (a 5, 17, .inr (.inr (.inr (.inr fv))))), (hy, .inr (11, [.ref p0, .ref p1, .int 1, .int 0, .int 1, .int 0, .int 0])), (p0, .inl (a 0, 7, .inl (upd (upd (fun _ => 0) 0 0) 1 1))), (r2, .inl (a 2, 128, .inl (upd (upd (upd f2 0 48) 0 49) 0 48))), (r3, .inr (1, [.ref g1, .int 0, .int 0])), (g1, .inl (a 0, 8, .inl (upd (upd f3 0 1) 0 0))), (h0, .inr (0, [.ref r0, .ref r1, .ref r2, .ref r3, .ref hv, .ref r5, .ref r6, .int 0, .int 7, .int (-1), .int 0])), (r1, .inl (a 2, 128, .inl (upd (upd (upd (upd (upd (upd (upd f1 0 91) 1 48) 2 44) 3 49) 4 93) 5 35) 6 48))), ((r 8), .inl (a 0, 80, .inl (upd (fun _ => 0) 16 1))), ((r 9), .inl (a 1, 560, .inr (.inl (vp_updL (vp_updL (fun _ => 0) 112 0) 113 1)))), ((r 10), .inl (a 0, 80, .inl (upd (fun _ => 0) 16 0))), ((r 7), .inl (a 3, 80, .inl (upd (fun _ => 0) 16 1))), ((r 16), .inl (a 1, 700, .inr (.inl fz1))), ((r 17), .inl (a 1, 1400, .inr (.inl fz2))), ((r 15), .inl (a 1, 1400, .inr (.inl fz3))), ((r 14), .inl (a 0, 124, .inl fz4)), ((r 12), .inl (a 1, 81840, .inr (.inl fz5))), ((r 13), .inl (a 0, 124, .inl fz6)), ((r 3), .inl (a 0, 400, .inl fz7))]) [19] [0, 1, 2, 3, 4, 5, 6, 7, 8, 9, 10, 11, 12, 13, 14, 15, 16, 17, 18, 20] rfl rfl ⟨rfl, rfl, by decide⟩ (kx_rV E w hl.1 (As := []) (wc := [(hm, .inr (12, (mF r 0 0 7 (-1) 0 0 0 0 0 0)))]) (c_Md_thrown l D a hm r 0 0 7 (-1) 0 0 0 0 0 0 H.size) gc_76 gv_Md_thrown (kRecv E w 12 19 rfl rfl) [19] rfl rfl rfl rfl rfl ⟨(Nat.le_of_ble_eq_true rfl), (Nat.le_of_ble_eq_true rfl)⟩ rfl (Nat.le_of_ble_eq_true rfl) d_Law_law_667 ⟨(Nat.le_of_ble_eq_true rfl), (Nat.le_of_ble_eq_true rfl)⟩) (fun rr u H locs hu w => ?_)
  obtain ⟨hrr, rfl⟩ := hu
  rw [hrr]
  clear hrr
  have w : kW D A s [(ho, .inl (a 1, 1, .inr (.inl (vp_updL fo 0 7)))), (hv, .inl (a 5, 17, .inr (.inr (.inr (.inr fv))))), (hy, .inr (11, [.ref p0, .ref p1, .int 1, .int 0, .int 1, .int 0, .int 0])), (p0, .inl (a 0, 7, .inl (upd (upd (fun _ => 0) 0 0) 1 1))), (r2, .inl (a 2, 128, .inl (upd (upd (upd f2 0 48) 0 49) 0 48))), (r3, .inr (1, [.ref g1, .int 0, .int 0])), (g1, .inl (a 0, 8, .inl (upd (upd f3 0 1) 0 0))), (h0, .inr (0, [.ref r0, .ref r1, .ref r2, .ref r3, .ref hv, .ref r5, .ref r6, .int 0, .int 7, .int (-1), .int 0])), (r1, .inl (a 2, 128, .inl (upd (upd (upd (upd (upd (upd (upd f1 0 91) 1 48) 2 44) 3 49) 4 93) 5 35) 6 48))), ((r 8), .inl (a 0, 80, .inl (upd (fun _ => 0) 16 1))), ((r 9), .inl (a 1, 560, .inr (.inl (vp_updL (vp_updL (fun _ => 0) 112 0) 113 1)))), ((r 10), .inl (a 0, 80, .inl (upd (fun _ => 0) 16 0))), ((r 7), .inl (a 3, 80, .inl (upd (fun _ => 0) 16 1))), ((r 16), .inl (a 1, 700, .inr (.inl fz1))), ((r 17), .inl (a 1, 1400, .inr (.inl fz2))), ((r 15), .inl (a 1, 1400, .inr (.inl fz3))), ((r 14), .inl (a 0, 124, .inl fz4)), ((r 12), .inl (a 1, 81840, .inr (.inl fz5))), ((r 13), .inl (a 0, 124, .inl fz6)), ((r 3), .inl (a 0, 400, .inl fz7)), (hm, .inr (12, (mF r 0 0 7 (-1) 0 0 0 0 0 0)))] H locs := w
  refine lv_iload hx hb d_Law_law_670 (lv_at hl 1 rfl) ?_
  refine lv_icmp_eq (tgt := 677) hx hb d_Law_law_672 (by decide) (fun _ => ?_) (fun h => absurd (by decide) h)
  refine lv_iload hx hb d_Law_law_677 (lv_at hl 1 rfl) ?_
  refine lv_if_ne (tgt := 694) hx hb d_Law_law_679 (by decide) (fun h => absurd (by decide) h) (fun _ => ?_)
  refine lv_aload_n hx hb d_Law_law_682 rfl (lv_at hl 5 rfl) ?_
  refine lv_iconst (v := 0) hx hb d_Law_law_683 (by decide) ?_
  refine kx_lald E w 0 rfl (by unfold vp_in; decide) (v := 7) rfl d_Law_law_684 ?_
  refine lv_iload hx hb d_Law_law_685 (lv_at hl 0 rfl) ?_
  refine lv_i2l (v := 7) hx hb d_Law_law_687 (by decide) ?_
  refine kx_lcmp (v := 0) hx hb d_Law_law_688 (by decide) ?_
  refine lv_if_eq (tgt := 694) hx hb d_Law_law_689 (by decide) (fun _ => ?_) (fun h => absurd (by decide) h)
  refine lv_goto (tgt := 815) hx hb d_Law_law_694 (by decide) ?_
  refine lv_iinc (v := 4) (lv' := [(4, .int 4), (6, .int 7), (5, .int 0), (0, .ref b), (1, .ref h0), (2, .ref hm), (3, .ref ho)]) hx hb d_Law_law_815 hl (k := 6) rfl (by decide) (by decide) rfl (fun ls hl => ?_)
  refine lv_goto (tgt := 23) hx hb d_Law_law_818 (by decide) ?_
  refine lv_iload hx hb d_Law_law_23 (lv_at hl 0 rfl) ?_
  refine lv_aload_n hx hb d_Law_law_25 rfl (lv_at hl 3 rfl) ?_
  refine kx_slen E w hX hbl hbA (v := 4) rfl d_Law_law_26 ?_
  refine lv_iconst (v := 4) hx hb d_Law_law_27 (by decide) ?_
  refine kx_isub (v := 0) hx hb d_Law_law_28 (by decide) ?_
  refine lv_icmp_gt (tgt := 821) hx hb d_Law_law_29 (by decide) (fun _ => ?_) (fun h => absurd (by decide) h)
  refine lv_iconst (v := 1) hx hb d_Law_law_821 (by decide) ?_
  refine va_forget (fun q hq => hA0 _ (w.2.2.2.2 q hq)) ?_
  refine W.widen (k := 600002) (n := 7302231) (Nat.le_of_ble_eq_true rfl) (Nat.le_of_ble_eq_true rfl) ?_
  exact lw_ret hx hb hr hlk d_Law_law_822
