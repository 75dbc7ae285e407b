/-! laid by program (wip/gen) -/
set_option maxRecDepth 100000 in
set_option maxHeartbeats 4000000 in
theorem c_Reader_sum (l : Launch) (D : va_G) (a : Nat → ClassId) (h0 : Nat) (g0 : Nat) (g1 : Nat) (va : Int32) (tg : Int32) : ∀ sz : Nat, Met l y_Reader_sum (Cond.code y_Reader_sum b_Reader_sum 4 (some .boolean) :: wA) ({ frames := 3, cells := 0, slots := 0, locals := 67 } : Room) (va_Pc [.ref h0, .int 0] (kP D a [(h0, .inr (9, [.ref g0, .ref g1, .int 0, .int va, .int 0, .int 0, .int tg]))] sz)) (va_Qi (fun (rr : Int32) (u : va_W) => rr = 0 ∧ u = [(h0, .inr (9, [.ref g0, .ref g1, .int 0, .int va, .int 0, .int 0, .int tg]))]) (kB D a (va_A [(h0, .inr (9, [.ref g0, .ref g1, .int 0, .int va, .int 0, .int 0, .int tg]))] sz)) (va_A [(h0, .inr (9, [.ref g0, .ref g1, .int 0, .int va, .int 0, .int 0, .int tg]))] sz)) 0 0 (va_A [(h0, .inr (9, [.ref g0, .ref g1, .int 0, .int va, .int 0, .int 0, .int tg]))] sz) :=
  kM (Qc := fun A => va_Qi (fun (rr : Int32) (u : va_W) => rr = 0 ∧ u = [(h0, .inr (9, [.ref g0, .ref g1, .int 0, .int va, .int 0, .int 0, .int tg]))]) (kB D a A) A) (by decide) (Nat.le_of_ble_eq_true rfl) (by
    intro p e s m below meth c A ls H locs E hr hlk hnm w hl
    have hx := E.1.1
    have hb := E.1.2.1
    have E : kE p m c b_Reader_sum 4 s [.ref h0, .int 0].toArray "RootAlgebra$Reader" D a A := E
    have hl : lv_has ls 4 [(0, .ref h0), (1, .int 0)] := hl
    refine lv_aload_n hx hb d_Reader_sum_0 rfl (lv_at hl 0 rfl) ?_
    refine lv_iload_n hx hb d_Reader_sum_1 rfl (lv_at hl 1 rfl) ?_
    refine kx_i E w (wc := [(h0, .inr (9, [.ref g0, .ref g1, .int 0, .int va, .int 0, .int 0, .int tg]))]) (wr := []) [0] [] rfl rfl ⟨rfl, rfl, by decide⟩ (kx_rV E w hl.1 (As := [.int 0]) (wc := [(h0, .inr (9, [.ref g0, .ref g1, .int 0, .int va, .int 0, .int 0, .int tg]))]) (c_Reader_product l D a h0 g0 g1 va tg H.size) gc_26 gv_Reader_product (kRecv E w 9 0 rfl rfl) [0] rfl rfl rfl rfl rfl ⟨(Nat.le_of_ble_eq_true rfl), (Nat.le_of_ble_eq_true rfl)⟩ rfl (Nat.le_of_ble_eq_true rfl) d_Reader_sum_2 ⟨(Nat.le_of_ble_eq_true rfl), (Nat.le_of_ble_eq_true rfl)⟩) (fun rr u H locs hu w => ?_)
    obtain ⟨rfl, rfl⟩ := hu
    have w : kW D A s [(h0, .inr (9, [.ref g0, .ref g1, .int 0, .int va, .int 0, .int 0, .int tg]))] H locs := w
    refine lv_if_ne (tgt := 10) hx hb d_Reader_sum_5 (by decide) (fun h => absurd (by decide) h) (fun _ => ?_)
    refine lv_iconst (v := 0) hx hb d_Reader_sum_8 (by decide) ?_
    refine W.widen (k := 0) (n := 0) (Nat.le_of_ble_eq_true rfl) (Nat.le_of_ble_eq_true rfl) ?_
    exact kx_zret E w hr hlk d_Reader_sum_9 (v := 0) (by decide) ⟨rfl, rfl⟩)
set_option maxRecDepth 100000 in
set_option maxHeartbeats 4000000 in
theorem c_Reader_reads (l : Launch) (D : va_G) (a : Nat → ClassId) (h0 : Nat) (g0 : Nat) (g1 : Nat) (va : Int32) (tg : Int32) (f0 : Nat → Int32) : ∀ sz : Nat, Met l y_Reader_reads (Cond.code y_Reader_reads b_Reader_reads 2 (some .boolean) :: wA) ({ frames := 4, cells := 0, slots := 0, locals := 90 } : Room) (va_Pc [.ref h0, .int 0] (kP D a [(h0, .inr (9, [.ref g0, .ref g1, .int 0, .int va, .int 0, .int 0, .int tg])), (g1, .inl (a 2, 400, .inl f0))] sz)) (va_Qi (fun (rr : Int32) (u : va_W) => rr = 0 ∧ u = [(g1, .inl (a 2, 400, .inl f0)), (h0, .inr (9, [.ref g0, .ref g1, .int 0, .int va, .int 0, .int 0, .int (-1)]))]) (kB D a (va_A [(h0, .inr (9, [.ref g0, .ref g1, .int 0, .int va, .int 0, .int 0, .int tg])), (g1, .inl (a 2, 400, .inl f0))] sz)) (va_A [(h0, .inr (9, [.ref g0, .ref g1, .int 0, .int va, .int 0, .int 0, .int tg])), (g1, .inl (a 2, 400, .inl f0))] sz)) 0 0 (va_A [(h0, .inr (9, [.ref g0, .ref g1, .int 0, .int va, .int 0, .int 0, .int tg])), (g1, .inl (a 2, 400, .inl f0))] sz) :=
  kM (Qc := fun A => va_Qi (fun (rr : Int32) (u : va_W) => rr = 0 ∧ u = [(g1, .inl (a 2, 400, .inl f0)), (h0, .inr (9, [.ref g0, .ref g1, .int 0, .int va, .int 0, .int 0, .int (-1)]))]) (kB D a A) A) (by decide) (Nat.le_of_ble_eq_true rfl) (by
    intro p e s m below meth c A ls H locs E hr hlk hnm w hl
    have hx := E.1.1
    have hb := E.1.2.1
    have E : kE p m c b_Reader_reads 2 s [.ref h0, .int 0].toArray "RootAlgebra$Reader" D a A := E
    have hl : lv_has ls 2 [(0, .ref h0), (1, .int 0)] := hl
    refine lv_aload_n hx hb d_Reader_reads_0 rfl (lv_at hl 0 rfl) ?_
    refine lv_iload_n hx hb d_Reader_reads_1 rfl (lv_at hl 1 rfl) ?_
    refine lv_aload_n hx hb d_Reader_reads_2 rfl (lv_at hl 0 rfl) ?_
    refine kx_get E w zC_Reader 0 rfl 1 (by decide) mw_49 rfl d_Reader_reads_3 ?_
    refine kx_alen E w 1 2 rfl rfl (v := 400) rfl d_Reader_reads_6 ?_
    refine kx_mmin E hl.1 (v := 0) mw_220 mw_221 mw_222 mw_223 (Nat.le_of_ble_eq_true rfl) (Nat.le_of_ble_eq_true rfl) ⟨(Nat.le_of_ble_eq_true rfl), (Nat.le_of_ble_eq_true rfl)⟩ d_Reader_reads_7 (by decide) ?_
    refine kx_put E w zC_Reader 0 rfl 2 (by decide) mw_206 rfl rfl rfl (Nat.le_of_ble_eq_true rfl) d_Reader_reads_10 (ws' := [(h0, .inr (9, [.ref g0, .ref g1, .int 0, .int va, .int 0, .int 0, .int tg])), (g1, .inl (a 2, 400, .inl f0))]) rfl (fun H locs w => ?_)
    refine lv_aload_n hx hb d_Reader_reads_13 rfl (lv_at hl 0 rfl) ?_
    refine lv_iconst (v := 0) hx hb d_Reader_reads_14 (by decide) ?_
    refine kx_put E w zC_Reader 0 rfl 4 (by decide) mw_205 rfl rfl rfl (Nat.le_of_ble_eq_true rfl) d_Reader_reads_15 (ws' := [(h0, .inr (9, [.ref g0, .ref g1, .int 0, .int va, .int 0, .int 0, .int tg])), (g1, .inl (a 2, 400, .inl f0))]) rfl (fun H locs w => ?_)
    refine lv_aload_n hx hb d_Reader_reads_18 rfl (lv_at hl 0 rfl) ?_
    refine lv_iconst (v := 0) hx hb d_Reader_reads_19 (by decide) ?_
    refine kx_put E w zC_Reader 0 rfl 5 (by decide) mw_224 rfl rfl rfl (Nat.le_of_ble_eq_true rfl) d_Reader_reads_20 (ws' := [(h0, .inr (9, [.ref g0, .ref g1, .int 0, .int va, .int 0, .int 0, .int tg])), (g1, .inl (a 2, 400, .inl f0))]) rfl (fun H locs w => ?_)
    refine lv_aload_n hx hb d_Reader_reads_23 rfl (lv_at hl 0 rfl) ?_
    refine kx_v E w (wc := [(h0, .inr (9, [.ref g0, .ref g1, .int 0, .int va, .int 0, .int 0, .int tg]))]) (wr := [(g1, .inl (a 2, 400, .inl f0))]) [0] [1] rfl rfl ⟨rfl, rfl, by decide⟩ (kx_rV E w hl.1 (As := []) (wc := [(h0, .inr (9, [.ref g0, .ref g1, .int 0, .int va, .int 0, .int 0, .int tg]))]) (c_Reader_readTarget l D a h0 g0 g1 va tg H.size) gc_27 gv_Reader_readTarget (kRecv E w 9 0 rfl rfl) [0] rfl rfl rfl rfl rfl ⟨(Nat.le_of_ble_eq_true rfl), (Nat.le_of_ble_eq_true rfl)⟩ rfl (Nat.le_of_ble_eq_true rfl) d_Reader_reads_24 ⟨(Nat.le_of_ble_eq_true rfl), (Nat.le_of_ble_eq_true rfl)⟩) (fun u H locs hu w => ?_)
    obtain ⟨rfl⟩ := hu
    have w : kW D A s [(g1, .inl (a 2, 400, .inl f0)), (h0, .inr (9, [.ref g0, .ref g1, .int 0, .int va, .int 0, .int 0, .int (-1)]))] H locs := w
    refine lv_aload_n hx hb d_Reader_reads_27 rfl (lv_at hl 0 rfl) ?_
    refine lv_iconst (v := 0) hx hb d_Reader_reads_28 (by decide) ?_
    refine kx_i E w (wc := [(h0, .inr (9, [.ref g0, .ref g1, .int 0, .int va, .int 0, .int 0, .int (-1)]))]) (wr := [(g1, .inl (a 2, 400, .inl f0))]) [1] [0] rfl rfl ⟨rfl, rfl, by decide⟩ (kx_rV E w hl.1 (As := [.int 0]) (wc := [(h0, .inr (9, [.ref g0, .ref g1, .int 0, .int va, .int 0, .int 0, .int (-1)]))]) (c_Reader_sum l D a h0 g0 g1 va (-1) H.size) gc_28 gv_Reader_sum (kRecv E w 9 1 rfl rfl) [1] rfl rfl rfl rfl rfl ⟨(Nat.le_of_ble_eq_true rfl), (Nat.le_of_ble_eq_true rfl)⟩ rfl (Nat.le_of_ble_eq_true rfl) d_Reader_reads_29 ⟨(Nat.le_of_ble_eq_true rfl), (Nat.le_of_ble_eq_true rfl)⟩) (fun rr u H locs hu w => ?_)
    obtain ⟨rfl, rfl⟩ := hu
    have w : kW D A s [(g1, .inl (a 2, 400, .inl f0)), (h0, .inr (9, [.ref g0, .ref g1, .int 0, .int va, .int 0, .int 0, .int (-1)]))] H locs := w
    refine lv_if_ne (tgt := 37) hx hb d_Reader_reads_32 (by decide) (fun h => absurd (by decide) h) (fun _ => ?_)
    refine lv_iconst (v := 0) hx hb d_Reader_reads_35 (by decide) ?_
    refine W.widen (k := 0) (n := 0) (Nat.le_of_ble_eq_true rfl) (Nat.le_of_ble_eq_true rfl) ?_
    exact kx_zret E w hr hlk d_Reader_reads_36 (v := 0) (by decide) ⟨rfl, rfl⟩)
set_option maxRecDepth 100000 in
set_option maxHeartbeats 4000000 in
theorem c_RA_line (l : Launch) (D : va_G) (a : Nat → ClassId) (h0 : Nat) (g1 : Nat) (r1 : Nat) (r2 : Nat) (r3 : Nat) (hv : Nat) (r5 : Nat) (r6 : Nat) (g0 : Nat) (va : Int32) (tg : Int32) (f0 : Nat → Int32) : ∀ sz : Nat, Met l y_RA_line (Cond.code y_RA_line b_RA_line 4 (some .int) :: wA) ({ frames := 5, cells := 0, slots := 0, locals := 111 } : Room) (va_Pc [.ref h0] (kP D a [(h0, .inr (0, [.ref g1, .ref r1, .ref r2, .ref r3, .ref hv, .ref r5, .ref r6, .int 0, .int 0, .int (-1), .int 0])), (r5, .inr (9, [.ref g0, .ref g1, .int 0, .int va, .int 0, .int 0, .int tg])), (g1, .inl (a 2, 400, .inl f0))] sz)) (va_Qi (fun (rr : Int32) (u : va_W) => rr = (-1) ∧ u = [(h0, .inr (0, [.ref g1, .ref r1, .ref r2, .ref r3, .ref hv, .ref r5, .ref r6, .int 0, .int 0, .int 0, .int 0])), (g1, .inl (a 2, 400, .inl f0)), (r5, .inr (9, [.ref g0, .ref g1, .int 0, .int va, .int 0, .int 0, .int (-1)]))]) (kB D a (va_A [(h0, .inr (0, [.ref g1, .ref r1, .ref r2, .ref r3, .ref hv, .ref r5, .ref r6, .int 0, .int 0, .int (-1), .int 0])), (r5, .inr (9, [.ref g0, .ref g1, .int 0, .int va, .int 0, .int 0, .int tg])), (g1, .inl (a 2, 400, .inl f0))] sz)) (va_A [(h0, .inr (0, [.ref g1, .ref r1, .ref r2, .ref r3, .ref hv, .ref r5, .ref r6, .int 0, .int 0, .int (-1), .int 0])), (r5, .inr (9, [.ref g0, .ref g1, .int 0, .int va, .int 0, .int 0, .int tg])), (g1, .inl (a 2, 400, .inl f0))] sz)) 0 0 (va_A [(h0, .inr (0, [.ref g1, .ref r1, .ref r2, .ref r3, .ref hv, .ref r5, .ref r6, .int 0, .int 0, .int (-1), .int 0])), (r5, .inr (9, [.ref g0, .ref g1, .int 0, .int va, .int 0, .int 0, .int tg])), (g1, .inl (a 2, 400, .inl f0))] sz) :=
  kM (Qc := fun A => va_Qi (fun (rr : Int32) (u : va_W) => rr = (-1) ∧ u = [(h0, .inr (0, [.ref g1, .ref r1, .ref r2, .ref r3, .ref hv, .ref r5, .ref r6, .int 0, .int 0, .int 0, .int 0])), (g1, .inl (a 2, 400, .inl f0)), (r5, .inr (9, [.ref g0, .ref g1, .int 0, .int va, .int 0, .int 0, .int (-1)]))]) (kB D a A) A) (by decide) (Nat.le_of_ble_eq_true rfl) (by
    intro p e s m below meth c A ls H locs E hr hlk hnm w hl
    have hx := E.1.1
    have hb := E.1.2.1
    have E : kE p m c b_RA_line 4 s [.ref h0].toArray "RootAlgebra" D a A := E
    have hl : lv_has ls 4 [(0, .ref h0)] := hl
    refine lv_aload_n hx hb d_RA_line_0 rfl (lv_at hl 0 rfl) ?_
    refine kx_get E w zC_RA 0 rfl 7 (by decide) mw_202 rfl d_RA_line_1 ?_
    refine lv_istore_n (lv' := [(1, .int 0), (0, .ref h0)]) hx hb d_RA_line_4 rfl hl (by decide) rfl (fun ls hl => ?_)
    refine lv_aload_n hx hb d_RA_line_5 rfl (lv_at hl 1 rfl) ?_
    refine lv_iconst (v := 0) hx hb d_RA_line_6 (by decide) ?_
    refine kx_put E w zC_RA 0 rfl 7 (by decide) mw_202 rfl rfl rfl (Nat.le_of_ble_eq_true rfl) d_RA_line_7 (ws' := [(h0, .inr (0, [.ref g1, .ref r1, .ref r2, .ref r3, .ref hv, .ref r5, .ref r6, .int 0, .int 0, .int (-1), .int 0])), (r5, .inr (9, [.ref g0, .ref g1, .int 0, .int va, .int 0, .int 0, .int tg])), (g1, .inl (a 2, 400, .inl f0))]) rfl (fun H locs w => ?_)
    refine lv_aload_n hx hb d_RA_line_10 rfl (lv_at hl 1 rfl) ?_
    refine kx_get E w zC_RA 0 rfl 5 (by decide) mw_180 rfl d_RA_line_11 ?_
    refine lv_iload_n hx hb d_RA_line_14 rfl (lv_at hl 0 rfl) ?_
    refine kx_i E w (wc := [(r5, .inr (9, [.ref g0, .ref g1, .int 0, .int va, .int 0, .int 0, .int tg])), (g1, .inl (a 2, 400, .inl f0))]) (wr := [(h0, .inr (0, [.ref g1, .ref r1, .ref r2, .ref r3, .ref hv, .ref r5, .ref r6, .int 0, .int 0, .int (-1), .int 0]))]) [1, 2] [0] rfl rfl ⟨rfl, rfl, by decide⟩ (kx_rV E w hl.1 (As := [.int 0]) (wc := [(r5, .inr (9, [.ref g0, .ref g1, .int 0, .int va, .int 0, .int 0, .int tg])), (g1, .inl (a 2, 400, .inl f0))]) (c_Reader_reads l D a r5 g0 g1 va tg f0 H.size) gc_29 gv_Reader_reads (kRecv E w 9 1 rfl rfl) [1, 2] rfl rfl rfl rfl rfl ⟨(Nat.le_of_ble_eq_true rfl), (Nat.le_of_ble_eq_true rfl)⟩ rfl (Nat.le_of_ble_eq_true rfl) d_RA_line_15 ⟨(Nat.le_of_ble_eq_true rfl), (Nat.le_of_ble_eq_true rfl)⟩) (fun rr u H locs hu w => ?_)
    obtain ⟨rfl, rfl⟩ := hu
    have w : kW D A s [(h0, .inr (0, [.ref g1, .ref r1, .ref r2, .ref r3, .ref hv, .ref r5, .ref r6, .int 0, .int 0, .int (-1), .int 0])), (g1, .inl (a 2, 400, .inl f0)), (r5, .inr (9, [.ref g0, .ref g1, .int 0, .int va, .int 0, .int 0, .int (-1)]))] H locs := w
    refine lv_if_ne (tgt := 34) hx hb d_RA_line_18 (by decide) (fun h => absurd (by decide) h) (fun _ => ?_)
    refine lv_aload_n hx hb d_RA_line_21 rfl (lv_at hl 1 rfl) ?_
    refine lv_aload_n hx hb d_RA_line_22 rfl (lv_at hl 1 rfl) ?_
    refine kx_get E w zC_RA 0 rfl 5 (by decide) mw_180 rfl d_RA_line_23 ?_
    refine kx_get E w zC_Reader 2 rfl 4 (by decide) mw_237 rfl d_RA_line_26 ?_
    refine kx_put E w zC_RA 0 rfl 9 (by decide) mw_188 rfl rfl rfl (Nat.le_of_ble_eq_true rfl) d_RA_line_29 (ws' := [(h0, .inr (0, [.ref g1, .ref r1, .ref r2, .ref r3, .ref hv, .ref r5, .ref r6, .int 0, .int 0, .int 0, .int 0])), (g1, .inl (a 2, 400, .inl f0)), (r5, .inr (9, [.ref g0, .ref g1, .int 0, .int va, .int 0, .int 0, .int (-1)]))]) rfl (fun H locs w => ?_)
    refine lv_iconst (v := (-1)) hx hb d_RA_line_32 (by decide) ?_
    refine W.widen (k := 0) (n := 0) (Nat.le_of_ble_eq_true rfl) (Nat.le_of_ble_eq_true rfl) ?_
    exact kx_iret E w hr hlk d_RA_line_33 (v := (-1)) ⟨rfl, rfl⟩)
set_option maxRecDepth 100000 in
set_option maxHeartbeats 4000000 in
theorem c_Big_trim0_8 (l : Launch) (D : va_G) (a : Nat → ClassId) (h0 : Nat) (h1 : Nat) (f0 : Nat → Int32) : ∀ sz : Nat, Met l y_Big_trim (Cond.code y_Big_trim b_Big_trim 1 none :: wA) ({ frames := 0, cells := 0, slots := 0, locals := 0 } : Room) (va_Pc [.ref h0] (kP D a [(h0, .inr (1, [.ref h1, .int 0, .int 0])), (h1, .inl (a 0, 8, .inl f0))] sz)) (va_Qv (fun u : va_W => u = [(h0, .inr (1, [.ref h1, .int 0, .int 0])), (h1, .inl (a 0, 8, .inl f0))]) (kB D a (va_A [(h0, .inr (1, [.ref h1, .int 0, .int 0])), (h1, .inl (a 0, 8, .inl f0))] sz)) (va_A [(h0, .inr (1, [.ref h1, .int 0, .int 0])), (h1, .inl (a 0, 8, .inl f0))] sz)) 0 0 (va_A [(h0, .inr (1, [.ref h1, .int 0, .int 0])), (h1, .inl (a 0, 8, .inl f0))] sz) :=
  kM (Qc := fun A => va_Qv (fun u : va_W => u = [(h0, .inr (1, [.ref h1, .int 0, .int 0])), (h1, .inl (a 0, 8, .inl f0))]) (kB D a A) A) (by decide) (Nat.le_of_ble_eq_true rfl) (by
    intro p e s m below meth c A ls H locs E hr hlk hnm w hl
    have hx := E.1.1
    have hb := E.1.2.1
    have E : kE p m c b_Big_trim 1 s [.ref h0].toArray "RootAlgebra$Big" D a A := E
    have hl : lv_has ls 1 [(0, .ref h0)] := hl
    refine lv_aload_n hx hb d_Big_trim_0 rfl (lv_at hl 0 rfl) ?_
    refine kx_get E w zC_Big 0 rfl 1 (by decide) mw_15 rfl d_Big_trim_1 ?_
    refine lv_if_le (tgt := 34) hx hb d_Big_trim_4 (by decide) (fun _ => ?_) (fun h => absurd (by decide) h)
    refine lv_aload_n hx hb d_Big_trim_34 rfl (lv_at hl 0 rfl) ?_
    refine kx_get E w zC_Big 0 rfl 1 (by decide) mw_15 rfl d_Big_trim_35 ?_
    refine lv_if_ne (tgt := 46) hx hb d_Big_trim_38 (by decide) (fun h => absurd (by decide) h) (fun _ => ?_)
    refine lv_aload_n hx hb d_Big_trim_41 rfl (lv_at hl 0 rfl) ?_
    refine lv_iconst (v := 0) hx hb d_Big_trim_42 (by decide) ?_
    refine kx_put E w zC_Big 0 rfl 2 (by decide) mw_14 rfl rfl rfl (Nat.le_of_ble_eq_true rfl) d_Big_trim_43 (ws' := [(h0, .inr (1, [.ref h1, .int 0, .int 0])), (h1, .inl (a 0, 8, .inl f0))]) rfl (fun H locs w => ?_)
    refine W.widen (k := 0) (n := 0) (Nat.le_of_ble_eq_true rfl) (Nat.le_of_ble_eq_true rfl) ?_
    exact kx_vret E w hr hlk d_Big_trim_46 rfl)
set_option maxRecDepth 100000 in
set_option maxHeartbeats 4000000 in
theorem c_Big_divide0_8 (l : Launch) (D : va_G) (a : Nat → ClassId) (h0 : Nat) (h1 : Nat) (f0 : Nat → Int32) (dd : Int32) (hd : 0 < dd) : ∀ sz : Nat, Met l y_Big_divide (Cond.code y_Big_divide b_Big_divide 7 (some .int) :: wA) ({ frames := 1, cells := 0, slots := 0, locals := 20 } : Room) (va_Pc [.ref h0, .int dd] (kP D a [(h0, .inr (1, [.ref h1, .int 0, .int 0])), (h1, .inl (a 0, 8, .inl f0))] sz)) (va_Qi (fun (rr : Int32) (u : va_W) => rr = 0 ∧ u = [(h0, .inr (1, [.ref h1, .int 0, .int 0])), (h1, .inl (a 0, 8, .inl f0))]) (kB D a (va_A [(h0, .inr (1, [.ref h1, .int 0, .int 0])), (h1, .inl (a 0, 8, .inl f0))] sz)) (va_A [(h0, .inr (1, [.ref h1, .int 0, .int 0])), (h1, .inl (a 0, 8, .inl f0))] sz)) 0 0 (va_A [(h0, .inr (1, [.ref h1, .int 0, .int 0])), (h1, .inl (a 0, 8, .inl f0))] sz) :=
  kM (Qc := fun A => va_Qi (fun (rr : Int32) (u : va_W) => rr = 0 ∧ u = [(h0, .inr (1, [.ref h1, .int 0, .int 0])), (h1, .inl (a 0, 8, .inl f0))]) (kB D a A) A) (by decide) (Nat.le_of_ble_eq_true rfl) (by
    intro p e s m below meth c A ls H locs E hr hlk hnm w hl
    have hx := E.1.1
    have hb := E.1.2.1
    have E : kE p m c b_Big_divide 7 s [.ref h0, .int dd].toArray "RootAlgebra$Big" D a A := E
    have hl : lv_has ls 7 [(0, .ref h0), (1, .int dd)] := hl
    refine lv_iload_n hx hb d_Big_divide_0 rfl (lv_at hl 1 rfl) ?_
    refine lv_if_gt (tgt := 6) hx hb d_Big_divide_1 (by decide) (fun _ => ?_) (fun h => absurd hd h)
    refine lv_lconst (v := 0) hx hb d_Big_divide_6 (by decide) ?_
    refine lv_lstore_n (lv' := [(2, .long 0), (0, .ref h0), (1, .int dd)]) hx hb d_Big_divide_7 rfl hl (by decide) rfl (fun ls hl => ?_)
    refine lv_aload_n hx hb d_Big_divide_8 rfl (lv_at hl 1 rfl) ?_
    refine kx_get E w zC_Big 0 rfl 1 (by decide) mw_15 rfl d_Big_divide_9 ?_
    refine lv_iconst (v := 1) hx hb d_Big_divide_12 (by decide) ?_
    refine kx_isub (v := (-1)) hx hb d_Big_divide_13 (by decide) ?_
    refine lv_istore (lv' := [(4, .int (-1)), (2, .long 0), (0, .ref h0), (1, .int dd)]) hx hb d_Big_divide_14 hl (by decide) rfl (fun ls hl => ?_)
    refine lv_iload hx hb d_Big_divide_16 (lv_at hl 0 rfl) ?_
    refine lv_if_lt (tgt := 65) hx hb d_Big_divide_18 (by decide) (fun _ => ?_) (fun h => absurd (by decide) h)
    refine lv_aload_n hx hb d_Big_divide_65 rfl (lv_at hl 2 rfl) ?_
    refine kx_v E w (wc := [(h0, .inr (1, [.ref h1, .int 0, .int 0])), (h1, .inl (a 0, 8, .inl f0))]) (wr := []) [0, 1] [] rfl rfl ⟨rfl, rfl, by decide⟩ (kx_rV E w hl.1 (As := []) (wc := [(h0, .inr (1, [.ref h1, .int 0, .int 0])), (h1, .inl (a 0, 8, .inl f0))]) (c_Big_trim0_8 l D a h0 h1 f0 H.size) gc_30 gv_Big_trim (kRecv E w 1 0 rfl rfl) [0, 1] rfl rfl rfl rfl rfl ⟨(Nat.le_of_ble_eq_true rfl), (Nat.le_of_ble_eq_true rfl)⟩ rfl (Nat.le_of_ble_eq_true rfl) d_Big_divide_66 ⟨(Nat.le_of_ble_eq_true rfl), (Nat.le_of_ble_eq_true rfl)⟩) (fun u H locs hu w => ?_)
    obtain ⟨rfl⟩ := hu
    have w : kW D A s [(h0, .inr (1, [.ref h1, .int 0, .int 0])), (h1, .inl (a 0, 8, .inl f0))] H locs := w
    refine lv_lload_n hx hb d_Big_divide_69 rfl (lv_at hl 1 rfl) ?_
    refine lv_l2i (v := 0) hx hb d_Big_divide_70 (by decide) ?_
    refine W.widen (k := 0) (n := 0) (Nat.le_of_ble_eq_true rfl) (Nat.le_of_ble_eq_true rfl) ?_
    exact kx_iret E w hr hlk d_Big_divide_71 (v := 0) ⟨rfl, rfl⟩)
