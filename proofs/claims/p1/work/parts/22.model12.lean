/-! laid by program (wip/gen) -/
set_option maxRecDepth 100000 in
set_option maxHeartbeats 4000000 in
theorem c_Md_compare_none1 (l : Launch) (D : va_G) (a : Nat → ClassId) (h0 : Nat) (r : Nat → Nat) (t0 : Int32) (t1 : Int32) (t2 : Int32) (t3 : Int32) (t4 : Int32) (t5 : Int32) (t6 : Int32) (t7 : Int32) (t8 : Int32) (t9 : Int32) (j : Nat) (hj : j ≤ 15) (i : Nat) (hj2 : i ≤ 16) : ∀ sz : Nat, Met l y_Md_compare (Cond.code y_Md_compare b_Md_compare 3 (some .int) :: wA) ({ frames := 2, cells := 0, slots := 0, locals := 45 } : Room) (va_Pc [.ref h0, .int (nI j), .int (nI i)] (kP D a [(h0, .inr (12, (mF r t0 t1 t2 t3 t4 t5 t6 t7 t8 t9))), ((r 7), .inl (a 3, 80, .inl (upd (fun _ => 0) 16 1)))] sz)) (va_Qi (fun (rr : Int32) (u : va_W) => rr = 0 ∧ u = [((r 7), .inl (a 3, 80, .inl (upd (fun _ => 0) 16 1))), (h0, .inr (12, (mF r 2 t1 t2 t3 t4 t5 t6 t7 t8 t9)))]) (kB D a (va_A [(h0, .inr (12, (mF r t0 t1 t2 t3 t4 t5 t6 t7 t8 t9))), ((r 7), .inl (a 3, 80, .inl (upd (fun _ => 0) 16 1)))] sz)) (va_A [(h0, .inr (12, (mF r t0 t1 t2 t3 t4 t5 t6 t7 t8 t9))), ((r 7), .inl (a 3, 80, .inl (upd (fun _ => 0) 16 1)))] sz)) 0 0 (va_A [(h0, .inr (12, (mF r t0 t1 t2 t3 t4 t5 t6 t7 t8 t9))), ((r 7), .inl (a 3, 80, .inl (upd (fun _ => 0) 16 1)))] sz) :=
  kM (Qc := fun A => va_Qi (fun (rr : Int32) (u : va_W) => rr = 0 ∧ u = [((r 7), .inl (a 3, 80, .inl (upd (fun _ => 0) 16 1))), (h0, .inr (12, (mF r 2 t1 t2 t3 t4 t5 t6 t7 t8 t9)))]) (kB D a A) A) (by decide) (Nat.le_of_ble_eq_true rfl) (by
    intro p e s m below meth c A ls H locs E hr hlk hnm w hl
    have hx := E.1.1
    have hb := E.1.2.1
    have E : kE p m c b_Md_compare 3 s [.ref h0, .int (nI j), .int (nI i)].toArray "RootAlgebraModel" D a A := E
    have hl : lv_has ls 3 [(0, .ref h0), (1, .int (nI j)), (2, .int (nI i))] := hl
    refine lv_aload_n hx hb d_Md_compare_0 rfl (lv_at hl 0 rfl) ?_
    refine lv_iload_n hx hb d_Md_compare_1 rfl (lv_at hl 1 rfl) ?_
    refine kx_i E w (wc := []) (wr := [(h0, .inr (12, (mF r t0 t1 t2 t3 t4 t5 t6 t7 t8 t9))), ((r 7), .inl (a 3, 80, .inl (upd (fun _ => 0) 16 1)))]) [] [0, 1] rfl rfl ⟨rfl, rfl, by decide⟩ (kx_rS E w hl.1 (As := [.int (nI j)]) (wc := []) (c_Md_isName1 l D a j (by omega) H.size) gc_48 gs_Md_isName [] rfl rfl rfl rfl rfl ⟨(Nat.le_of_ble_eq_true rfl), (Nat.le_of_ble_eq_true rfl)⟩ rfl (Nat.le_of_ble_eq_true rfl) d_Md_compare_2 ⟨(Nat.le_of_ble_eq_true rfl), (Nat.le_of_ble_eq_true rfl)⟩) (fun rr u H locs hu w => ?_)
    obtain ⟨rfl, rfl⟩ := hu
    have w : kW D A s [(h0, .inr (12, (mF r t0 t1 t2 t3 t4 t5 t6 t7 t8 t9))), ((r 7), .inl (a 3, 80, .inl (upd (fun _ => 0) 16 1)))] H locs := w
    refine lv_if_eq (tgt := 15) hx hb d_Md_compare_5 (by decide) (fun h => absurd h (by decide)) (fun _ => ?_)
    refine lv_iload_n hx hb d_Md_compare_8 rfl (lv_at hl 2 rfl) ?_
    refine kx_i E w (wc := []) (wr := [(h0, .inr (12, (mF r t0 t1 t2 t3 t4 t5 t6 t7 t8 t9))), ((r 7), .inl (a 3, 80, .inl (upd (fun _ => 0) 16 1)))]) [] [0, 1] rfl rfl ⟨rfl, rfl, by decide⟩ (kx_rS E w hl.1 (As := [.int (nI i)]) (wc := []) (c_Md_isName1 l D a i (by omega) H.size) gc_48 gs_Md_isName [] rfl rfl rfl rfl rfl ⟨(Nat.le_of_ble_eq_true rfl), (Nat.le_of_ble_eq_true rfl)⟩ rfl (Nat.le_of_ble_eq_true rfl) d_Md_compare_9 ⟨(Nat.le_of_ble_eq_true rfl), (Nat.le_of_ble_eq_true rfl)⟩) (fun rr u H locs hu w => ?_)
    obtain ⟨rfl, rfl⟩ := hu
    have w : kW D A s [(h0, .inr (12, (mF r t0 t1 t2 t3 t4 t5 t6 t7 t8 t9))), ((r 7), .inl (a 3, 80, .inl (upd (fun _ => 0) 16 1)))] H locs := w
    refine lv_if_ne (tgt := 19) hx hb d_Md_compare_12 (by decide) (fun _ => ?_) (fun h => absurd h (by decide))
    refine lv_iconst (v := 0) hx hb d_Md_compare_19 (by decide) ?_
    refine lv_iconst (v := 1) hx hb d_Md_compare_20 (by decide) ?_
    refine kx_i E w (wc := [(h0, .inr (12, (mF r t0 t1 t2 t3 t4 t5 t6 t7 t8 t9)))]) (wr := [((r 7), .inl (a 3, 80, .inl (upd (fun _ => 0) 16 1)))]) [0] [1] rfl rfl ⟨rfl, rfl, by decide⟩ (kx_rV E w hl.1 (As := [.int 0, .int 1]) (wc := [(h0, .inr (12, (mF r t0 t1 t2 t3 t4 t5 t6 t7 t8 t9)))]) (c_Md_fails01 l D a h0 r t0 t1 t2 t3 t4 t5 t6 t7 t8 t9 H.size) gc_49 gv_Md_fails (kRecv E w 12 0 rfl rfl) [0] rfl rfl rfl rfl rfl ⟨(Nat.le_of_ble_eq_true rfl), (Nat.le_of_ble_eq_true rfl)⟩ rfl (Nat.le_of_ble_eq_true rfl) d_Md_compare_21 ⟨(Nat.le_of_ble_eq_true rfl), (Nat.le_of_ble_eq_true rfl)⟩) (fun rr u H locs hu w => ?_)
    obtain ⟨rfl, rfl⟩ := hu
    have w : kW D A s [((r 7), .inl (a 3, 80, .inl (upd (fun _ => 0) 16 1))), (h0, .inr (12, (mF r 0 t1 t2 t3 t4 t5 t6 t7 t8 t9)))] H locs := w
    refine lv_if_ne (tgt := 58) hx hb d_Md_compare_24 (by decide) (fun h => absurd (by decide) h) (fun _ => ?_)
    refine lv_aload_n hx hb d_Md_compare_27 rfl (lv_at hl 0 rfl) ?_
    refine lv_aload_n hx hb d_Md_compare_28 rfl (lv_at hl 0 rfl) ?_
    refine kx_get E w zC_Md 1 rfl 7 (by decide) mw_301 rfl d_Md_compare_29 ?_
    refine lv_iload_n hx hb d_Md_compare_32 rfl (lv_at hl 1 rfl) ?_
    refine kx_zald E w 0 rfl (vp_in_nI (by omega) (by omega)) (v := 0) (by rw [nI_clamp (by omega)]; exact kf_ne (by omega)) d_Md_compare_33 ?_
    refine lv_if_eq (tgt := 46) hx hb d_Md_compare_34 (by decide) (fun _ => ?_) (fun h => absurd (by decide) h)
    refine lv_iconst (v := 1) hx hb d_Md_compare_46 (by decide) ?_
    refine lv_goto (tgt := 51) hx hb d_Md_compare_47 (by decide) ?_
    refine lv_iconst (v := 2) hx hb d_Md_compare_51 (by decide) ?_
    refine kx_i E w (wc := [(h0, .inr (12, (mF r 0 t1 t2 t3 t4 t5 t6 t7 t8 t9)))]) (wr := [((r 7), .inl (a 3, 80, .inl (upd (fun _ => 0) 16 1)))]) [1] [0] rfl rfl ⟨rfl, rfl, by decide⟩ (kx_rV E w hl.1 (As := [.int 1, .int 2]) (wc := [(h0, .inr (12, (mF r 0 t1 t2 t3 t4 t5 t6 t7 t8 t9)))]) (c_Md_fails12 l D a h0 r 0 t1 t2 t3 t4 t5 t6 t7 t8 t9 H.size) gc_49 gv_Md_fails (kRecv E w 12 1 rfl rfl) [1] rfl rfl rfl rfl rfl ⟨(Nat.le_of_ble_eq_true rfl), (Nat.le_of_ble_eq_true rfl)⟩ rfl (Nat.le_of_ble_eq_true rfl) d_Md_compare_52 ⟨(Nat.le_of_ble_eq_true rfl), (Nat.le_of_ble_eq_true rfl)⟩) (fun rr u H locs hu w => ?_)
    obtain ⟨rfl, rfl⟩ := hu
    have w : kW D A s [((r 7), .inl (a 3, 80, .inl (upd (fun _ => 0) 16 1))), (h0, .inr (12, (mF r 2 t1 t2 t3 t4 t5 t6 t7 t8 t9)))] H locs := w
    refine lv_if_eq (tgt := 60) hx hb d_Md_compare_55 (by decide) (fun h => absurd h (by decide)) (fun _ => ?_)
    refine lv_iconst (v := 0) hx hb d_Md_compare_58 (by decide) ?_
    refine W.widen (k := 0) (n := 0) (Nat.le_of_ble_eq_true rfl) (Nat.le_of_ble_eq_true rfl) ?_
    exact kx_iret E w hr hlk d_Md_compare_59 (v := 0) ⟨rfl, rfl⟩)
set_option maxRecDepth 100000 in
set_option maxHeartbeats 4000000 in
theorem c_Md_compare_none2 (l : Launch) (D : va_G) (a : Nat → ClassId) (h0 : Nat) (r : Nat → Nat) (t0 : Int32) (t1 : Int32) (t2 : Int32) (t3 : Int32) (t4 : Int32) (t5 : Int32) (t6 : Int32) (t7 : Int32) (t8 : Int32) (t9 : Int32) (j : Nat) (hj : j ≤ 15) : ∀ sz : Nat, Met l y_Md_compare (Cond.code y_Md_compare b_Md_compare 3 (some .int) :: wA) ({ frames := 2, cells := 0, slots := 0, locals := 45 } : Room) (va_Pc [.ref h0, .int 16, .int (nI j)] (kP D a [(h0, .inr (12, (mF r t0 t1 t2 t3 t4 t5 t6 t7 t8 t9))), ((r 7), .inl (a 3, 80, .inl (upd (fun _ => 0) 16 1)))] sz)) (va_Qi (fun (rr : Int32) (u : va_W) => rr = 0 ∧ u = [((r 7), .inl (a 3, 80, .inl (upd (fun _ => 0) 16 1))), (h0, .inr (12, (mF r 2 t1 t2 t3 t4 t5 t6 t7 t8 t9)))]) (kB D a (va_A [(h0, .inr (12, (mF r t0 t1 t2 t3 t4 t5 t6 t7 t8 t9))), ((r 7), .inl (a 3, 80, .inl (upd (fun _ => 0) 16 1)))] sz)) (va_A [(h0, .inr (12, (mF r t0 t1 t2 t3 t4 t5 t6 t7 t8 t9))), ((r 7), .inl (a 3, 80, .inl (upd (fun _ => 0) 16 1)))] sz)) 0 0 (va_A [(h0, .inr (12, (mF r t0 t1 t2 t3 t4 t5 t6 t7 t8 t9))), ((r 7), .inl (a 3, 80, .inl (upd (fun _ => 0) 16 1)))] sz) :=
  kM (Qc := fun A => va_Qi (fun (rr : Int32) (u : va_W) => rr = 0 ∧ u = [((r 7), .inl (a 3, 80, .inl (upd (fun _ => 0) 16 1))), (h0, .inr (12, (mF r 2 t1 t2 t3 t4 t5 t6 t7 t8 t9)))]) (kB D a A) A) (by decide) (Nat.le_of_ble_eq_true rfl) (by
    intro p e s m below meth c A ls H locs E hr hlk hnm w hl
    have hx := E.1.1
    have hb := E.1.2.1
    have E : kE p m c b_Md_compare 3 s [.ref h0, .int 16, .int (nI j)].toArray "RootAlgebraModel" D a A := E
    have hl : lv_has ls 3 [(0, .ref h0), (1, .int 16), (2, .int (nI j))] := hl
    refine lv_aload_n hx hb d_Md_compare_0 rfl (lv_at hl 0 rfl) ?_
    refine lv_iload_n hx hb d_Md_compare_1 rfl (lv_at hl 1 rfl) ?_
    refine kx_i E w (wc := []) (wr := [(h0, .inr (12, (mF r t0 t1 t2 t3 t4 t5 t6 t7 t8 t9))), ((r 7), .inl (a 3, 80, .inl (upd (fun _ => 0) 16 1)))]) [] [0, 1] rfl rfl ⟨rfl, rfl, by decide⟩ (kx_rS E w hl.1 (As := [.int 16]) (wc := []) (c_Md_isName1 l D a 16 (by omega) H.size) gc_48 gs_Md_isName [] rfl rfl rfl rfl rfl ⟨(Nat.le_of_ble_eq_true rfl), (Nat.le_of_ble_eq_true rfl)⟩ rfl (Nat.le_of_ble_eq_true rfl) d_Md_compare_2 ⟨(Nat.le_of_ble_eq_true rfl), (Nat.le_of_ble_eq_true rfl)⟩) (fun rr u H locs hu w => ?_)
    obtain ⟨rfl, rfl⟩ := hu
    have w : kW D A s [(h0, .inr (12, (mF r t0 t1 t2 t3 t4 t5 t6 t7 t8 t9))), ((r 7), .inl (a 3, 80, .inl (upd (fun _ => 0) 16 1)))] H locs := w
    refine lv_if_eq (tgt := 15) hx hb d_Md_compare_5 (by decide) (fun h => absurd h (by decide)) (fun _ => ?_)
    refine lv_iload_n hx hb d_Md_compare_8 rfl (lv_at hl 2 rfl) ?_
    refine kx_i E w (wc := []) (wr := [(h0, .inr (12, (mF r t0 t1 t2 t3 t4 t5 t6 t7 t8 t9))), ((r 7), .inl (a 3, 80, .inl (upd (fun _ => 0) 16 1)))]) [] [0, 1] rfl rfl ⟨rfl, rfl, by decide⟩ (kx_rS E w hl.1 (As := [.int (nI j)]) (wc := []) (c_Md_isName1 l D a j (by omega) H.size) gc_48 gs_Md_isName [] rfl rfl rfl rfl rfl ⟨(Nat.le_of_ble_eq_true rfl), (Nat.le_of_ble_eq_true rfl)⟩ rfl (Nat.le_of_ble_eq_true rfl) d_Md_compare_9 ⟨(Nat.le_of_ble_eq_true rfl), (Nat.le_of_ble_eq_true rfl)⟩) (fun rr u H locs hu w => ?_)
    obtain ⟨rfl, rfl⟩ := hu
    have w : kW D A s [(h0, .inr (12, (mF r t0 t1 t2 t3 t4 t5 t6 t7 t8 t9))), ((r 7), .inl (a 3, 80, .inl (upd (fun _ => 0) 16 1)))] H locs := w
    refine lv_if_ne (tgt := 19) hx hb d_Md_compare_12 (by decide) (fun _ => ?_) (fun h => absurd h (by decide))
    refine lv_iconst (v := 0) hx hb d_Md_compare_19 (by decide) ?_
    refine lv_iconst (v := 1) hx hb d_Md_compare_20 (by decide) ?_
    refine kx_i E w (wc := [(h0, .inr (12, (mF r t0 t1 t2 t3 t4 t5 t6 t7 t8 t9)))]) (wr := [((r 7), .inl (a 3, 80, .inl (upd (fun _ => 0) 16 1)))]) [0] [1] rfl rfl ⟨rfl, rfl, by decide⟩ (kx_rV E w hl.1 (As := [.int 0, .int 1]) (wc := [(h0, .inr (12, (mF r t0 t1 t2 t3 t4 t5 t6 t7 t8 t9)))]) (c_Md_fails01 l D a h0 r t0 t1 t2 t3 t4 t5 t6 t7 t8 t9 H.size) gc_49 gv_Md_fails (kRecv E w 12 0 rfl rfl) [0] rfl rfl rfl rfl rfl ⟨(Nat.le_of_ble_eq_true rfl), (Nat.le_of_ble_eq_true rfl)⟩ rfl (Nat.le_of_ble_eq_true rfl) d_Md_compare_21 ⟨(Nat.le_of_ble_eq_true rfl), (Nat.le_of_ble_eq_true rfl)⟩) (fun rr u H locs hu w => ?_)
    obtain ⟨rfl, rfl⟩ := hu
    have w : kW D A s [((r 7), .inl (a 3, 80, .inl (upd (fun _ => 0) 16 1))), (h0, .inr (12, (mF r 0 t1 t2 t3 t4 t5 t6 t7 t8 t9)))] H locs := w
    refine lv_if_ne (tgt := 58) hx hb d_Md_compare_24 (by decide) (fun h => absurd (by decide) h) (fun _ => ?_)
    refine lv_aload_n hx hb d_Md_compare_27 rfl (lv_at hl 0 rfl) ?_
    refine lv_aload_n hx hb d_Md_compare_28 rfl (lv_at hl 0 rfl) ?_
    refine kx_get E w zC_Md 1 rfl 7 (by decide) mw_301 rfl d_Md_compare_29 ?_
    refine lv_iload_n hx hb d_Md_compare_32 rfl (lv_at hl 1 rfl) ?_
    refine kx_zald E w 0 rfl (by unfold vp_in; decide) (v := 1) rfl d_Md_compare_33 ?_
    refine lv_if_eq (tgt := 46) hx hb d_Md_compare_34 (by decide) (fun h => absurd h (by decide)) (fun _ => ?_)
    refine lv_aload_n hx hb d_Md_compare_37 rfl (lv_at hl 0 rfl) ?_
    refine kx_get E w zC_Md 1 rfl 7 (by decide) mw_301 rfl d_Md_compare_38 ?_
    refine lv_iload_n hx hb d_Md_compare_41 rfl (lv_at hl 2 rfl) ?_
    refine kx_zald E w 0 rfl (vp_in_nI (by omega) (by omega)) (v := 0) (by rw [nI_clamp (by omega)]; exact kf_ne (by omega)) d_Md_compare_42 ?_
    refine lv_if_ne (tgt := 50) hx hb d_Md_compare_43 (by decide) (fun h => absurd (by decide) h) (fun _ => ?_)
    refine lv_iconst (v := 1) hx hb d_Md_compare_46 (by decide) ?_
    refine lv_goto (tgt := 51) hx hb d_Md_compare_47 (by decide) ?_
    refine lv_iconst (v := 2) hx hb d_Md_compare_51 (by decide) ?_
    refine kx_i E w (wc := [(h0, .inr (12, (mF r 0 t1 t2 t3 t4 t5 t6 t7 t8 t9)))]) (wr := [((r 7), .inl (a 3, 80, .inl (upd (fun _ => 0) 16 1)))]) [1] [0] rfl rfl ⟨rfl, rfl, by decide⟩ (kx_rV E w hl.1 (As := [.int 1, .int 2]) (wc := [(h0, .inr (12, (mF r 0 t1 t2 t3 t4 t5 t6 t7 t8 t9)))]) (c_Md_fails12 l D a h0 r 0 t1 t2 t3 t4 t5 t6 t7 t8 t9 H.size) gc_49 gv_Md_fails (kRecv E w 12 1 rfl rfl) [1] rfl rfl rfl rfl rfl ⟨(Nat.le_of_ble_eq_true rfl), (Nat.le_of_ble_eq_true rfl)⟩ rfl (Nat.le_of_ble_eq_true rfl) d_Md_compare_52 ⟨(Nat.le_of_ble_eq_true rfl), (Nat.le_of_ble_eq_true rfl)⟩) (fun rr u H locs hu w => ?_)
    obtain ⟨rfl, rfl⟩ := hu
    have w : kW D A s [((r 7), .inl (a 3, 80, .inl (upd (fun _ => 0) 16 1))), (h0, .inr (12, (mF r 2 t1 t2 t3 t4 t5 t6 t7 t8 t9)))] H locs := w
    refine lv_if_eq (tgt := 60) hx hb d_Md_compare_55 (by decide) (fun h => absurd h (by decide)) (fun _ => ?_)
    refine lv_iconst (v := 0) hx hb d_Md_compare_58 (by decide) ?_
    refine W.widen (k := 0) (n := 0) (Nat.le_of_ble_eq_true rfl) (Nat.le_of_ble_eq_true rfl) ?_
    exact kx_iret E w hr hlk d_Md_compare_59 (v := 0) ⟨rfl, rfl⟩)
set_option maxRecDepth 100000 in
set_option maxHeartbeats 4000000 in
theorem c_Md_against (l : Launch) (D : va_G) (a : Nat → ClassId) (h0 : Nat) (r : Nat → Nat) (t0 : Int32) (t1 : Int32) (t2 : Int32) (t3 : Int32) (t4 : Int32) (t5 : Int32) (t6 : Int32) (t7 : Int32) (t8 : Int32) (t9 : Int32) : ∀ sz : Nat, Met l y_Md_against (Cond.code y_Md_against b_Md_against 6 (some .int) :: wA) ({ frames := 0, cells := 0, slots := 0, locals := 0 } : Room) (va_Pc [.ref h0, .int 16, .int 16] (kP D a [(h0, .inr (12, (mF r t0 t1 t2 t3 t4 t5 t6 t7 t8 t9))), ((r 8), .inl (a 0, 80, .inl (upd (fun _ => 0) 16 1))), ((r 9), .inl (a 1, 560, .inr (.inl (vp_updL (vp_updL (fun _ => 0) 112 0) 113 1)))), ((r 10), .inl (a 0, 80, .inl (upd (fun _ => 0) 16 0)))] sz)) (va_Qi (fun (rr : Int32) (u : va_W) => rr = 0 ∧ u = [(h0, .inr (12, (mF r t0 t1 t2 t3 t4 t5 t6 t7 t8 t9))), ((r 8), .inl (a 0, 80, .inl (upd (fun _ => 0) 16 1))), ((r 9), .inl (a 1, 560, .inr (.inl (vp_updL (vp_updL (fun _ => 0) 112 0) 113 1)))), ((r 10), .inl (a 0, 80, .inl (upd (fun _ => 0) 16 0)))]) (kB D a (va_A [(h0, .inr (12, (mF r t0 t1 t2 t3 t4 t5 t6 t7 t8 t9))), ((r 8), .inl (a 0, 80, .inl (upd (fun _ => 0) 16 1))), ((r 9), .inl (a 1, 560, .inr (.inl (vp_updL (vp_updL (fun _ => 0) 112 0) 113 1)))), ((r 10), .inl (a 0, 80, .inl (upd (fun _ => 0) 16 0)))] sz)) (va_A [(h0, .inr (12, (mF r t0 t1 t2 t3 t4 t5 t6 t7 t8 t9))), ((r 8), .inl (a 0, 80, .inl (upd (fun _ => 0) 16 1))), ((r 9), .inl (a 1, 560, .inr (.inl (vp_updL (vp_updL (fun _ => 0) 112 0) 113 1)))), ((r 10), .inl (a 0, 80, .inl (upd (fun _ => 0) 16 0)))] sz)) 0 0 (va_A [(h0, .inr (12, (mF r t0 t1 t2 t3 t4 t5 t6 t7 t8 t9))), ((r 8), .inl (a 0, 80, .inl (upd (fun _ => 0) 16 1))), ((r 9), .inl (a 1, 560, .inr (.inl (vp_updL (vp_updL (fun _ => 0) 112 0) 113 1)))), ((r 10), .inl (a 0, 80, .inl (upd (fun _ => 0) 16 0)))] sz) :=
  kM (Qc := fun A => va_Qi (fun (rr : Int32) (u : va_W) => rr = 0 ∧ u = [(h0, .inr (12, (mF r t0 t1 t2 t3 t4 t5 t6 t7 t8 t9))), ((r 8), .inl (a 0, 80, .inl (upd (fun _ => 0) 16 1))), ((r 9), .inl (a 1, 560, .inr (.inl (vp_updL (vp_updL (fun _ => 0) 112 0) 113 1)))), ((r 10), .inl (a 0, 80, .inl (upd (fun _ => 0) 16 0)))]) (kB D a A) A) (by decide) (Nat.le_of_ble_eq_true rfl) (by
    intro p e s m below meth c A ls H locs E hr hlk hnm w hl
    have hx := E.1.1
    have hb := E.1.2.1
    have E : kE p m c b_Md_against 6 s [.ref h0, .int 16, .int 16].toArray "RootAlgebraModel" D a A := E
    have hl : lv_has ls 6 [(0, .ref h0), (1, .int 16), (2, .int 16)] := hl
    refine lv_aload_n hx hb d_Md_against_0 rfl (lv_at hl 0 rfl) ?_
    refine kx_get E w zC_Md 0 rfl 8 (by decide) mw_302 rfl d_Md_against_1 ?_
    refine lv_iload_n hx hb d_Md_against_4 rfl (lv_at hl 1 rfl) ?_
    refine kx_iald E w 1 rfl (by unfold vp_in; decide) (v := 1) rfl d_Md_against_5 ?_
    refine lv_aload_n hx hb d_Md_against_6 rfl (lv_at hl 0 rfl) ?_
    refine kx_get E w zC_Md 0 rfl 8 (by decide) mw_302 rfl d_Md_against_7 ?_
    refine lv_iload_n hx hb d_Md_against_10 rfl (lv_at hl 2 rfl) ?_
    refine kx_iald E w 1 rfl (by unfold vp_in; decide) (v := 1) rfl d_Md_against_11 ?_
    refine lv_icmp_ne (tgt := 19) hx hb d_Md_against_12 (by decide) (fun h => absurd (by decide) h) (fun _ => ?_)
    refine lv_iconst (v := 1) hx hb d_Md_against_15 (by decide) ?_
    refine lv_goto (tgt := 20) hx hb d_Md_against_16 (by decide) ?_
    refine lv_istore_n (lv' := [(3, .int 1), (0, .ref h0), (1, .int 16), (2, .int 16)]) hx hb d_Md_against_20 rfl hl (by decide) rfl (fun ls hl => ?_)
    refine lv_iconst (v := 0) hx hb d_Md_against_21 (by decide) ?_
    refine lv_istore (lv' := [(4, .int 0), (3, .int 1), (0, .ref h0), (1, .int 16), (2, .int 16)]) hx hb d_Md_against_22 hl (by decide) rfl (fun ls hl => ?_)
    refine lv_iload hx hb d_Md_against_24 (lv_at hl 0 rfl) ?_
    refine lv_bipush (v := 7) hx hb d_Md_against_26 (by decide) ?_
    refine lv_icmp_ge (tgt := 86) hx hb d_Md_against_28 (by decide) (fun h => absurd h (by decide)) (fun _ => ?_)
    refine lv_iload_n hx hb d_Md_against_31 rfl (lv_at hl 1 rfl) ?_
    refine lv_if_eq (tgt := 78) hx hb d_Md_against_32 (by decide) (fun h => absurd h (by decide)) (fun _ => ?_)
    refine lv_iload hx hb d_Md_against_35 (lv_at hl 0 rfl) ?_
    refine lv_aload_n hx hb d_Md_against_37 rfl (lv_at hl 2 rfl) ?_
    refine kx_get E w zC_Md 0 rfl 8 (by decide) mw_302 rfl d_Md_against_38 ?_
    refine lv_iload_n hx hb d_Md_against_41 rfl (lv_at hl 3 rfl) ?_
    refine kx_iald E w 1 rfl (by unfold vp_in; decide) (v := 1) rfl d_Md_against_42 ?_
    refine lv_icmp_gt (tgt := 74) hx hb d_Md_against_43 (by decide) (fun h => absurd h (by decide)) (fun _ => ?_)
    refine lv_aload_n hx hb d_Md_against_46 rfl (lv_at hl 2 rfl) ?_
    refine kx_get E w zC_Md 0 rfl 9 (by decide) mw_303 rfl d_Md_against_47 ?_
    refine lv_bipush (v := 7) hx hb d_Md_against_50 (by decide) ?_
    refine lv_iload_n hx hb d_Md_against_52 rfl (lv_at hl 3 rfl) ?_
    refine kx_imul (v := 112) hx hb d_Md_against_53 (by decide) ?_
    refine lv_iload hx hb d_Md_against_54 (lv_at hl 0 rfl) ?_
    refine kx_iadd (v := 112) hx hb d_Md_against_56 (by decide) ?_
    refine kx_lald E w 2 rfl (by unfold vp_in; decide) (v := 0) rfl d_Md_against_57 ?_
    refine lv_aload_n hx hb d_Md_against_58 rfl (lv_at hl 2 rfl) ?_
    refine kx_get E w zC_Md 0 rfl 9 (by decide) mw_303 rfl d_Md_against_59 ?_
    refine lv_bipush (v := 7) hx hb d_Md_against_62 (by decide) ?_
    refine lv_iload_n hx hb d_Md_against_64 rfl (lv_at hl 4 rfl) ?_
    refine kx_imul (v := 112) hx hb d_Md_against_65 (by decide) ?_
    refine lv_iload hx hb d_Md_against_66 (lv_at hl 0 rfl) ?_
    refine kx_iadd (v := 112) hx hb d_Md_against_68 (by decide) ?_
    refine kx_lald E w 2 rfl (by unfold vp_in; decide) (v := 0) rfl d_Md_against_69 ?_
    refine kx_lcmp (v := 0) hx hb d_Md_against_70 (by decide) ?_
    refine lv_if_ne (tgt := 78) hx hb d_Md_against_71 (by decide) (fun h => absurd (by decide) h) (fun _ => ?_)
    refine lv_iconst (v := 1) hx hb d_Md_against_74 (by decide) ?_
    refine lv_goto (tgt := 79) hx hb d_Md_against_75 (by decide) ?_
    refine lv_istore_n (lv' := [(3, .int 1), (4, .int 0), (0, .ref h0), (1, .int 16), (2, .int 16)]) hx hb d_Md_against_79 rfl hl (by decide) rfl (fun ls hl => ?_)
    refine lv_iinc (v := 1) (lv' := [(4, .int 1), (3, .int 1), (0, .ref h0), (1, .int 16), (2, .int 16)]) hx hb d_Md_against_80 hl (k := 1) rfl (by decide) (by decide) rfl (fun ls hl => ?_)
    refine lv_goto (tgt := 24) hx hb d_Md_against_83 (by decide) ?_
    refine lv_iload hx hb d_Md_against_24 (lv_at hl 0 rfl) ?_
    refine lv_bipush (v := 7) hx hb d_Md_against_26 (by decide) ?_
    refine lv_icmp_ge (tgt := 86) hx hb d_Md_against_28 (by decide) (fun h => absurd h (by decide)) (fun _ => ?_)
    refine lv_iload_n hx hb d_Md_against_31 rfl (lv_at hl 1 rfl) ?_
    refine lv_if_eq (tgt := 78) hx hb d_Md_against_32 (by decide) (fun h => absurd h (by decide)) (fun _ => ?_)
    refine lv_iload hx hb d_Md_against_35 (lv_at hl 0 rfl) ?_
    refine lv_aload_n hx hb d_Md_against_37 rfl (lv_at hl 2 rfl) ?_
    refine kx_get E w zC_Md 0 rfl 8 (by decide) mw_302 rfl d_Md_against_38 ?_
    refine lv_iload_n hx hb d_Md_against_41 rfl (lv_at hl 3 rfl) ?_
    refine kx_iald E w 1 rfl (by unfold vp_in; decide) (v := 1) rfl d_Md_against_42 ?_
    refine lv_icmp_gt (tgt := 74) hx hb d_Md_against_43 (by decide) (fun h => absurd h (by decide)) (fun _ => ?_)
    refine lv_aload_n hx hb d_Md_against_46 rfl (lv_at hl 2 rfl) ?_
    refine kx_get E w zC_Md 0 rfl 9 (by decide) mw_303 rfl d_Md_against_47 ?_
    refine lv_bipush (v := 7) hx hb d_Md_against_50 (by decide) ?_
    refine lv_iload_n hx hb d_Md_against_52 rfl (lv_at hl 3 rfl) ?_
    refine kx_imul (v := 112) hx hb d_Md_against_53 (by decide) ?_
    refine lv_iload hx hb d_Md_against_54 (lv_at hl 0 rfl) ?_
    refine kx_iadd (v := 113) hx hb d_Md_against_56 (by decide) ?_
    refine kx_lald E w 2 rfl (by unfold vp_in; decide) (v := 1) rfl d_Md_against_57 ?_
    refine lv_aload_n hx hb d_Md_against_58 rfl (lv_at hl 2 rfl) ?_
    refine kx_get E w zC_Md 0 rfl 9 (by decide) mw_303 rfl d_Md_against_59 ?_
    refine lv_bipush (v := 7) hx hb d_Md_against_62 (by decide) ?_
    refine lv_iload_n hx hb d_Md_against_64 rfl (lv_at hl 4 rfl) ?_
    refine kx_imul (v := 112) hx hb d_Md_against_65 (by decide) ?_
    refine lv_iload hx hb d_Md_against_66 (lv_at hl 0 rfl) ?_
    refine kx_iadd (v := 113) hx hb d_Md_against_68 (by decide) ?_
    refine kx_lald E w 2 rfl (by unfold vp_in; decide) (v := 1) rfl d_Md_against_69 ?_
    refine kx_lcmp (v := 0) hx hb d_Md_against_70 (by decide) ?_
    refine lv_if_ne (tgt := 78) hx hb d_Md_against_71 (by decide) (fun h => absurd (by decide) h) (fun _ => ?_)
    refine lv_iconst (v := 1) hx hb d_Md_against_74 (by decide) ?_
    refine lv_goto (tgt := 79) hx hb d_Md_against_75 (by decide) ?_
    refine lv_istore_n (lv' := [(3, .int 1), (4, .int 1), (0, .ref h0), (1, .int 16), (2, .int 16)]) hx hb d_Md_against_79 rfl hl (by decide) rfl (fun ls hl => ?_)
    refine lv_iinc (v := 2) (lv' := [(4, .int 2), (3, .int 1), (0, .ref h0), (1, .int 16), (2, .int 16)]) hx hb d_Md_against_80 hl (k := 1) rfl (by decide) (by decide) rfl (fun ls hl => ?_)
    refine lv_goto (tgt := 24) hx hb d_Md_against_83 (by decide) ?_
    refine lv_iload hx hb d_Md_against_24 (lv_at hl 0 rfl) ?_
    refine lv_bipush (v := 7) hx hb d_Md_against_26 (by decide) ?_
    refine lv_icmp_ge (tgt := 86) hx hb d_Md_against_28 (by decide) (fun h => absurd h (by decide)) (fun _ => ?_)
    refine lv_iload_n hx hb d_Md_against_31 rfl (lv_at hl 1 rfl) ?_
    refine lv_if_eq (tgt := 78) hx hb d_Md_against_32 (by decide) (fun h => absurd h (by decide)) (fun _ => ?_)
    refine lv_iload hx hb d_Md_against_35 (lv_at hl 0 rfl) ?_
    refine lv_aload_n hx hb d_Md_against_37 rfl (lv_at hl 2 rfl) ?_
    refine kx_get E w zC_Md 0 rfl 8 (by decide) mw_302 rfl d_Md_against_38 ?_
    refine lv_iload_n hx hb d_Md_against_41 rfl (lv_at hl 3 rfl) ?_
    refine kx_iald E w 1 rfl (by unfold vp_in; decide) (v := 1) rfl d_Md_against_42 ?_
    refine lv_icmp_gt (tgt := 74) hx hb d_Md_against_43 (by decide) (fun _ => ?_) (fun h => absurd (by decide) h)
    refine lv_iconst (v := 1) hx hb d_Md_against_74 (by decide) ?_
    refine lv_goto (tgt := 79) hx hb d_Md_against_75 (by decide) ?_
    refine lv_istore_n (lv' := [(3, .int 1), (4, .int 2), (0, .ref h0), (1, .int 16), (2, .int 16)]) hx hb d_Md_against_79 rfl hl (by decide) rfl (fun ls hl => ?_)
    refine lv_iinc (v := 3) (lv' := [(4, .int 3), (3, .int 1), (0, .ref h0), (1, .int 16), (2, .int 16)]) hx hb d_Md_against_80 hl (k := 1) rfl (by decide) (by decide) rfl (fun ls hl => ?_)
    refine lv_goto (tgt := 24) hx hb d_Md_against_83 (by decide) ?_
    refine lv_iload hx hb d_Md_against_24 (lv_at hl 0 rfl) ?_
    refine lv_bipush (v := 7) hx hb d_Md_against_26 (by decide) ?_
    refine lv_icmp_ge (tgt := 86) hx hb d_Md_against_28 (by decide) (fun h => absurd h (by decide)) (fun _ => ?_)
    refine lv_iload_n hx hb d_Md_against_31 rfl (lv_at hl 1 rfl) ?_
    refine lv_if_eq (tgt := 78) hx hb d_Md_against_32 (by decide) (fun h => absurd h (by decide)) (fun _ => ?_)
    refine lv_iload hx hb d_Md_against_35 (lv_at hl 0 rfl) ?_
    refine lv_aload_n hx hb d_Md_against_37 rfl (lv_at hl 2 rfl) ?_
    refine kx_get E w zC_Md 0 rfl 8 (by decide) mw_302 rfl d_Md_against_38 ?_
    refine lv_iload_n hx hb d_Md_against_41 rfl (lv_at hl 3 rfl) ?_
    refine kx_iald E w 1 rfl (by unfold vp_in; decide) (v := 1) rfl d_Md_against_42 ?_
    refine lv_icmp_gt (tgt := 74) hx hb d_Md_against_43 (by decide) (fun _ => ?_) (fun h => absurd (by decide) h)
    refine lv_iconst (v := 1) hx hb d_Md_against_74 (by decide) ?_
    refine lv_goto (tgt := 79) hx hb d_Md_against_75 (by decide) ?_
    refine lv_istore_n (lv' := [(3, .int 1), (4, .int 3), (0, .ref h0), (1, .int 16), (2, .int 16)]) hx hb d_Md_against_79 rfl hl (by decide) rfl (fun ls hl => ?_)
    refine lv_iinc (v := 4) (lv' := [(4, .int 4), (3, .int 1), (0, .ref h0), (1, .int 16), (2, .int 16)]) hx hb d_Md_against_80 hl (k := 1) rfl (by decide) (by decide) rfl (fun ls hl => ?_)
    refine lv_goto (tgt := 24) hx hb d_Md_against_83 (by decide) ?_
    refine lv_iload hx hb d_Md_against_24 (lv_at hl 0 rfl) ?_
    refine lv_bipush (v := 7) hx hb d_Md_against_26 (by decide) ?_
    refine lv_icmp_ge (tgt := 86) hx hb d_Md_against_28 (by decide) (fun h => absurd h (by decide)) (fun _ => ?_)
    refine lv_iload_n hx hb d_Md_against_31 rfl (lv_at hl 1 rfl) ?_
    refine lv_if_eq (tgt := 78) hx hb d_Md_against_32 (by decide) (fun h => absurd h (by decide)) (fun _ => ?_)
    refine lv_iload hx hb d_Md_against_35 (lv_at hl 0 rfl) ?_
    refine lv_aload_n hx hb d_Md_against_37 rfl (lv_at hl 2 rfl) ?_
    refine kx_get E w zC_Md 0 rfl 8 (by decide) mw_302 rfl d_Md_against_38 ?_
    refine lv_iload_n hx hb d_Md_against_41 rfl (lv_at hl 3 rfl) ?_
    refine kx_iald E w 1 rfl (by unfold vp_in; decide) (v := 1) rfl d_Md_against_42 ?_
    refine lv_icmp_gt (tgt := 74) hx hb d_Md_against_43 (by decide) (fun _ => ?_) (fun h => absurd (by decide) h)
    refine lv_iconst (v := 1) hx hb d_Md_against_74 (by decide) ?_
    refine lv_goto (tgt := 79) hx hb d_Md_against_75 (by decide) ?_
    refine lv_istore_n (lv' := [(3, .int 1), (4, .int 4), (0, .ref h0), (1, .int 16), (2, .int 16)]) hx hb d_Md_against_79 rfl hl (by decide) rfl (fun ls hl => ?_)
    refine lv_iinc (v := 5) (lv' := [(4, .int 5), (3, .int 1), (0, .ref h0), (1, .int 16), (2, .int 16)]) hx hb d_Md_against_80 hl (k := 1) rfl (by decide) (by decide) rfl (fun ls hl => ?_)
    refine lv_goto (tgt := 24) hx hb d_Md_against_83 (by decide) ?_
    refine lv_iload hx hb d_Md_against_24 (lv_at hl 0 rfl) ?_
    refine lv_bipush (v := 7) hx hb d_Md_against_26 (by decide) ?_
    refine lv_icmp_ge (tgt := 86) hx hb d_Md_against_28 (by decide) (fun h => absurd h (by decide)) (fun _ => ?_)
    refine lv_iload_n hx hb d_Md_against_31 rfl (lv_at hl 1 rfl) ?_
    refine lv_if_eq (tgt := 78) hx hb d_Md_against_32 (by decide) (fun h => absurd h (by decide)) (fun _ => ?_)
    refine lv_iload hx hb d_Md_against_35 (lv_at hl 0 rfl) ?_
    refine lv_aload_n hx hb d_Md_against_37 rfl (lv_at hl 2 rfl) ?_
    refine kx_get E w zC_Md 0 rfl 8 (by decide) mw_302 rfl d_Md_against_38 ?_
    refine lv_iload_n hx hb d_Md_against_41 rfl (lv_at hl 3 rfl) ?_
    refine kx_iald E w 1 rfl (by unfold vp_in; decide) (v := 1) rfl d_Md_against_42 ?_
    refine lv_icmp_gt (tgt := 74) hx hb d_Md_against_43 (by decide) (fun _ => ?_) (fun h => absurd (by decide) h)
    refine lv_iconst (v := 1) hx hb d_Md_against_74 (by decide) ?_
    refine lv_goto (tgt := 79) hx hb d_Md_against_75 (by decide) ?_
    refine lv_istore_n (lv' := [(3, .int 1), (4, .int 5), (0, .ref h0), (1, .int 16), (2, .int 16)]) hx hb d_Md_against_79 rfl hl (by decide) rfl (fun ls hl => ?_)
    refine lv_iinc (v := 6) (lv' := [(4, .int 6), (3, .int 1), (0, .ref h0), (1, .int 16), (2, .int 16)]) hx hb d_Md_against_80 hl (k := 1) rfl (by decide) (by decide) rfl (fun ls hl => ?_)
    refine lv_goto (tgt := 24) hx hb d_Md_against_83 (by decide) ?_
    refine lv_iload hx hb d_Md_against_24 (lv_at hl 0 rfl) ?_
    refine lv_bipush (v := 7) hx hb d_Md_against_26 (by decide) ?_
    refine lv_icmp_ge (tgt := 86) hx hb d_Md_against_28 (by decide) (fun h => absurd h (by decide)) (fun _ => ?_)
    refine lv_iload_n hx hb d_Md_against_31 rfl (lv_at hl 1 rfl) ?_
    refine lv_if_eq (tgt := 78) hx hb d_Md_against_32 (by decide) (fun h => absurd h (by decide)) (fun _ => ?_)
    refine lv_iload hx hb d_Md_against_35 (lv_at hl 0 rfl) ?_
    refine lv_aload_n hx hb d_Md_against_37 rfl (lv_at hl 2 rfl) ?_
    refine kx_get E w zC_Md 0 rfl 8 (by decide) mw_302 rfl d_Md_against_38 ?_
    refine lv_iload_n hx hb d_Md_against_41 rfl (lv_at hl 3 rfl) ?_
    refine kx_iald E w 1 rfl (by unfold vp_in; decide) (v := 1) rfl d_Md_against_42 ?_
    refine lv_icmp_gt (tgt := 74) hx hb d_Md_against_43 (by decide) (fun _ => ?_) (fun h => absurd (by decide) h)
    refine lv_iconst (v := 1) hx hb d_Md_against_74 (by decide) ?_
    refine lv_goto (tgt := 79) hx hb d_Md_against_75 (by decide) ?_
    refine lv_istore_n (lv' := [(3, .int 1), (4, .int 6), (0, .ref h0), (1, .int 16), (2, .int 16)]) hx hb d_Md_against_79 rfl hl (by decide) rfl (fun ls hl => ?_)
    refine lv_iinc (v := 7) (lv' := [(4, .int 7), (3, .int 1), (0, .ref h0), (1, .int 16), (2, .int 16)]) hx hb d_Md_against_80 hl (k := 1) rfl (by decide) (by decide) rfl (fun ls hl => ?_)
    refine lv_goto (tgt := 24) hx hb d_Md_against_83 (by decide) ?_
    refine lv_iload hx hb d_Md_against_24 (lv_at hl 0 rfl) ?_
    refine lv_bipush (v := 7) hx hb d_Md_against_26 (by decide) ?_
    refine lv_icmp_ge (tgt := 86) hx hb d_Md_against_28 (by decide) (fun _ => ?_) (fun h => absurd (by decide) h)
    refine lv_iload_n hx hb d_Md_against_86 rfl (lv_at hl 1 rfl) ?_
    refine lv_if_eq (tgt := 130) hx hb d_Md_against_87 (by decide) (fun h => absurd h (by decide)) (fun _ => ?_)
    refine lv_aload_n hx hb d_Md_against_90 rfl (lv_at hl 2 rfl) ?_
    refine kx_get E w zC_Md 0 rfl 10 (by decide) mw_304 rfl d_Md_against_91 ?_
    refine lv_iload_n hx hb d_Md_against_94 rfl (lv_at hl 3 rfl) ?_
    refine kx_iald E w 3 rfl (by unfold vp_in; decide) (v := 0) rfl d_Md_against_95 ?_
    refine lv_aload_n hx hb d_Md_against_96 rfl (lv_at hl 2 rfl) ?_
    refine kx_get E w zC_Md 0 rfl 10 (by decide) mw_304 rfl d_Md_against_97 ?_
    refine lv_iload_n hx hb d_Md_against_100 rfl (lv_at hl 4 rfl) ?_
    refine kx_iald E w 3 rfl (by unfold vp_in; decide) (v := 0) rfl d_Md_against_101 ?_
    refine lv_icmp_ge (tgt := 109) hx hb d_Md_against_102 (by decide) (fun _ => ?_) (fun h => absurd (by decide) h)
    refine lv_aload_n hx hb d_Md_against_109 rfl (lv_at hl 2 rfl) ?_
    refine kx_get E w zC_Md 0 rfl 10 (by decide) mw_304 rfl d_Md_against_110 ?_
    refine lv_iload_n hx hb d_Md_against_113 rfl (lv_at hl 3 rfl) ?_
    refine kx_iald E w 3 rfl (by unfold vp_in; decide) (v := 0) rfl d_Md_against_114 ?_
    refine lv_aload_n hx hb d_Md_against_115 rfl (lv_at hl 2 rfl) ?_
    refine kx_get E w zC_Md 0 rfl 10 (by decide) mw_304 rfl d_Md_against_116 ?_
    refine lv_iload_n hx hb d_Md_against_119 rfl (lv_at hl 4 rfl) ?_
    refine kx_iald E w 3 rfl (by unfold vp_in; decide) (v := 0) rfl d_Md_against_120 ?_
    refine lv_icmp_le (tgt := 128) hx hb d_Md_against_121 (by decide) (fun _ => ?_) (fun h => absurd (by decide) h)
    refine lv_iconst (v := 0) hx hb d_Md_against_128 (by decide) ?_
    refine W.widen (k := 0) (n := 0) (Nat.le_of_ble_eq_true rfl) (Nat.le_of_ble_eq_true rfl) ?_
    exact kx_iret E w hr hlk d_Md_against_129 (v := 0) ⟨rfl, rfl⟩)
