/-! laid by program (wip/gen) -/
set_option maxRecDepth 100000 in
set_option maxHeartbeats 4000000 in
theorem c_RA_look2 (l : Launch) (D : va_G) (a : Nat → ClassId) (h0 : Nat) (r0 : Nat) (r1 : Nat) (r2 : Nat) (r3 : Nat) (hv : Nat) (r5 : Nat) (r6 : Nat) : ∀ sz : Nat, Met l y_RA_look (Cond.code y_RA_look b_RA_look 2 (some .int) :: wA) ({ frames := 0, cells := 0, slots := 0, locals := 0 } : Room) (va_Pc [.ref h0, .int 2] (kP D a [(h0, .inr (0, [.ref r0, .ref r1, .ref r2, .ref r3, .ref hv, .ref r5, .ref r6, .int 0, .int 0, .int (-1), .int 0]))] sz)) (va_Qi (fun (rr : Int32) (u : va_W) => rr = 0 ∧ u = [(h0, .inr (0, [.ref r0, .ref r1, .ref r2, .ref r3, .ref hv, .ref r5, .ref r6, .int 0, .int 0, .int (-1), .int 0]))]) (kB D a (va_A [(h0, .inr (0, [.ref r0, .ref r1, .ref r2, .ref r3, .ref hv, .ref r5, .ref r6, .int 0, .int 0, .int (-1), .int 0]))] sz)) (va_A [(h0, .inr (0, [.ref r0, .ref r1, .ref r2, .ref r3, .ref hv, .ref r5, .ref r6, .int 0, .int 0, .int (-1), .int 0]))] sz)) 0 0 (va_A [(h0, .inr (0, [.ref r0, .ref r1, .ref r2, .ref r3, .ref hv, .ref r5, .ref r6, .int 0, .int 0, .int (-1), .int 0]))] sz) :=
  kM (Qc := fun A => va_Qi (fun (rr : Int32) (u : va_W) => rr = 0 ∧ u = [(h0, .inr (0, [.ref r0, .ref r1, .ref r2, .ref r3, .ref hv, .ref r5, .ref r6, .int 0, .int 0, .int (-1), .int 0]))]) (kB D a A) A) (by decide) (Nat.le_of_ble_eq_true rfl) (by
    intro p e s m below meth c A ls H locs E hr hlk hnm w hl
    have hx := E.1.1
    have hb := E.1.2.1
    have E : kE p m c b_RA_look 2 s [.ref h0, .int 2].toArray "RootAlgebra" D a A := E
    have hl : lv_has ls 2 [(0, .ref h0), (1, .int 2)] := hl
    refine lv_iload_n hx hb d_RA_look_0 rfl (lv_at hl 1 rfl) ?_
    refine lv_tableIn (tgt := 46) hx hb d_RA_look_1 (by decide) (by decide) rfl (by decide) ?_
    refine lv_aload_n hx hb d_RA_look_46 rfl (lv_at hl 0 rfl) ?_
    refine kx_get E w zC_RA 0 rfl 7 (by decide) mw_202 rfl d_RA_look_47 ?_
    refine W.widen (k := 0) (n := 0) (Nat.le_of_ble_eq_true rfl) (Nat.le_of_ble_eq_true rfl) ?_
    exact kx_iret E w hr hlk d_RA_look_50 (v := 0) ⟨rfl, rfl⟩)
set_option maxRecDepth 100000 in
set_option maxHeartbeats 4000000 in
theorem c_RA_look3 (l : Launch) (D : va_G) (a : Nat → ClassId) (h0 : Nat) (r0 : Nat) (r1 : Nat) (r2 : Nat) (r3 : Nat) (hv : Nat) (r5 : Nat) (r6 : Nat) : ∀ sz : Nat, Met l y_RA_look (Cond.code y_RA_look b_RA_look 2 (some .int) :: wA) ({ frames := 0, cells := 0, slots := 0, locals := 0 } : Room) (va_Pc [.ref h0, .int 3] (kP D a [(h0, .inr (0, [.ref r0, .ref r1, .ref r2, .ref r3, .ref hv, .ref r5, .ref r6, .int 0, .int 0, .int (-1), .int 0]))] sz)) (va_Qi (fun (rr : Int32) (u : va_W) => rr = 0 ∧ u = [(h0, .inr (0, [.ref r0, .ref r1, .ref r2, .ref r3, .ref hv, .ref r5, .ref r6, .int 0, .int 0, .int (-1), .int 0]))]) (kB D a (va_A [(h0, .inr (0, [.ref r0, .ref r1, .ref r2, .ref r3, .ref hv, .ref r5, .ref r6, .int 0, .int 0, .int (-1), .int 0]))] sz)) (va_A [(h0, .inr (0, [.ref r0, .ref r1, .ref r2, .ref r3, .ref hv, .ref r5, .ref r6, .int 0, .int 0, .int (-1), .int 0]))] sz)) 0 0 (va_A [(h0, .inr (0, [.ref r0, .ref r1, .ref r2, .ref r3, .ref hv, .ref r5, .ref r6, .int 0, .int 0, .int (-1), .int 0]))] sz) :=
  kM (Qc := fun A => va_Qi (fun (rr : Int32) (u : va_W) => rr = 0 ∧ u = [(h0, .inr (0, [.ref r0, .ref r1, .ref r2, .ref r3, .ref hv, .ref r5, .ref r6, .int 0, .int 0, .int (-1), .int 0]))]) (kB D a A) A) (by decide) (Nat.le_of_ble_eq_true rfl) (by
    intro p e s m below meth c A ls H locs E hr hlk hnm w hl
    have hx := E.1.1
    have hb := E.1.2.1
    have E : kE p m c b_RA_look 2 s [.ref h0, .int 3].toArray "RootAlgebra" D a A := E
    have hl : lv_has ls 2 [(0, .ref h0), (1, .int 3)] := hl
    refine lv_iload_n hx hb d_RA_look_0 rfl (lv_at hl 1 rfl) ?_
    refine lv_tableIn (tgt := 51) hx hb d_RA_look_1 (by decide) (by decide) rfl (by decide) ?_
    refine lv_aload_n hx hb d_RA_look_51 rfl (lv_at hl 0 rfl) ?_
    refine kx_get E w zC_RA 0 rfl 8 (by decide) mw_203 rfl d_RA_look_52 ?_
    refine W.widen (k := 0) (n := 0) (Nat.le_of_ble_eq_true rfl) (Nat.le_of_ble_eq_true rfl) ?_
    exact kx_iret E w hr hlk d_RA_look_55 (v := 0) ⟨rfl, rfl⟩)
set_option maxRecDepth 100000 in
set_option maxHeartbeats 4000000 in
theorem c_RA_look4 (l : Launch) (D : va_G) (a : Nat → ClassId) (h0 : Nat) (r0 : Nat) (r1 : Nat) (r2 : Nat) (r3 : Nat) (hv : Nat) (r5 : Nat) (r6 : Nat) : ∀ sz : Nat, Met l y_RA_look (Cond.code y_RA_look b_RA_look 2 (some .int) :: wA) ({ frames := 0, cells := 0, slots := 0, locals := 0 } : Room) (va_Pc [.ref h0, .int 4] (kP D a [(h0, .inr (0, [.ref r0, .ref r1, .ref r2, .ref r3, .ref hv, .ref r5, .ref r6, .int 0, .int 0, .int (-1), .int 0]))] sz)) (va_Qi (fun (rr : Int32) (u : va_W) => rr = 0 ∧ u = [(h0, .inr (0, [.ref r0, .ref r1, .ref r2, .ref r3, .ref hv, .ref r5, .ref r6, .int 0, .int 0, .int (-1), .int 0]))]) (kB D a (va_A [(h0, .inr (0, [.ref r0, .ref r1, .ref r2, .ref r3, .ref hv, .ref r5, .ref r6, .int 0, .int 0, .int (-1), .int 0]))] sz)) (va_A [(h0, .inr (0, [.ref r0, .ref r1, .ref r2, .ref r3, .ref hv, .ref r5, .ref r6, .int 0, .int 0, .int (-1), .int 0]))] sz)) 0 0 (va_A [(h0, .inr (0, [.ref r0, .ref r1, .ref r2, .ref r3, .ref hv, .ref r5, .ref r6, .int 0, .int 0, .int (-1), .int 0]))] sz) :=
  kM (Qc := fun A => va_Qi (fun (rr : Int32) (u : va_W) => rr = 0 ∧ u = [(h0, .inr (0, [.ref r0, .ref r1, .ref r2, .ref r3, .ref hv, .ref r5, .ref r6, .int 0, .int 0, .int (-1), .int 0]))]) (kB D a A) A) (by decide) (Nat.le_of_ble_eq_true rfl) (by
    intro p e s m below meth c A ls H locs E hr hlk hnm w hl
    have hx := E.1.1
    have hb := E.1.2.1
    have E : kE p m c b_RA_look 2 s [.ref h0, .int 4].toArray "RootAlgebra" D a A := E
    have hl : lv_has ls 2 [(0, .ref h0), (1, .int 4)] := hl
    refine lv_iload_n hx hb d_RA_look_0 rfl (lv_at hl 1 rfl) ?_
    refine lv_tableIn (tgt := 56) hx hb d_RA_look_1 (by decide) (by decide) rfl (by decide) ?_
    refine lv_aload_n hx hb d_RA_look_56 rfl (lv_at hl 0 rfl) ?_
    refine kx_get E w zC_RA 0 rfl 10 (by decide) mw_204 rfl d_RA_look_57 ?_
    refine W.widen (k := 0) (n := 0) (Nat.le_of_ble_eq_true rfl) (Nat.le_of_ble_eq_true rfl) ?_
    exact kx_iret E w hr hlk d_RA_look_60 (v := 0) ⟨rfl, rfl⟩)
set_option maxRecDepth 100000 in
set_option maxHeartbeats 4000000 in
theorem c_Reader_next (l : Launch) (D : va_G) (a : Nat → ClassId) (h0 : Nat) (g0 : Nat) (g1 : Nat) (va : Int32) (tg : Int32) : ∀ sz : Nat, Met l y_Reader_next (Cond.code y_Reader_next b_Reader_next 1 (some .int) :: wA) ({ frames := 0, cells := 0, slots := 0, locals := 0 } : Room) (va_Pc [.ref h0] (kP D a [(h0, .inr (9, [.ref g0, .ref g1, .int 0, .int va, .int 0, .int 0, .int tg]))] sz)) (va_Qi (fun (rr : Int32) (u : va_W) => rr = (-1) ∧ u = [(h0, .inr (9, [.ref g0, .ref g1, .int 0, .int va, .int 0, .int 0, .int tg]))]) (kB D a (va_A [(h0, .inr (9, [.ref g0, .ref g1, .int 0, .int va, .int 0, .int 0, .int tg]))] sz)) (va_A [(h0, .inr (9, [.ref g0, .ref g1, .int 0, .int va, .int 0, .int 0, .int tg]))] sz)) 0 0 (va_A [(h0, .inr (9, [.ref g0, .ref g1, .int 0, .int va, .int 0, .int 0, .int tg]))] sz) :=
  kM (Qc := fun A => va_Qi (fun (rr : Int32) (u : va_W) => rr = (-1) ∧ u = [(h0, .inr (9, [.ref g0, .ref g1, .int 0, .int va, .int 0, .int 0, .int tg]))]) (kB D a A) A) (by decide) (Nat.le_of_ble_eq_true rfl) (by
    intro p e s m below meth c A ls H locs E hr hlk hnm w hl
    have hx := E.1.1
    have hb := E.1.2.1
    have E : kE p m c b_Reader_next 1 s [.ref h0].toArray "RootAlgebra$Reader" D a A := E
    have hl : lv_has ls 1 [(0, .ref h0)] := hl
    refine lv_aload_n hx hb d_Reader_next_0 rfl (lv_at hl 0 rfl) ?_
    refine kx_get E w zC_Reader 0 rfl 4 (by decide) mw_205 rfl d_Reader_next_1 ?_
    refine lv_aload_n hx hb d_Reader_next_4 rfl (lv_at hl 0 rfl) ?_
    refine kx_get E w zC_Reader 0 rfl 2 (by decide) mw_206 rfl d_Reader_next_5 ?_
    refine lv_icmp_ge (tgt := 38) hx hb d_Reader_next_8 (by decide) (fun _ => ?_) (fun h => absurd (by decide) h)
    refine lv_aload_n hx hb d_Reader_next_38 rfl (lv_at hl 0 rfl) ?_
    refine kx_get E w zC_Reader 0 rfl 4 (by decide) mw_205 rfl d_Reader_next_39 ?_
    refine lv_aload_n hx hb d_Reader_next_42 rfl (lv_at hl 0 rfl) ?_
    refine kx_get E w zC_Reader 0 rfl 2 (by decide) mw_206 rfl d_Reader_next_43 ?_
    refine lv_icmp_ge (tgt := 65) hx hb d_Reader_next_46 (by decide) (fun _ => ?_) (fun h => absurd (by decide) h)
    refine lv_iconst (v := (-1)) hx hb d_Reader_next_65 (by decide) ?_
    refine W.widen (k := 0) (n := 0) (Nat.le_of_ble_eq_true rfl) (Nat.le_of_ble_eq_true rfl) ?_
    exact kx_iret E w hr hlk d_Reader_next_66 (v := (-1)) ⟨rfl, rfl⟩)
set_option maxRecDepth 100000 in
set_option maxHeartbeats 4000000 in
theorem c_Reader_readTarget (l : Launch) (D : va_G) (a : Nat → ClassId) (h0 : Nat) (g0 : Nat) (g1 : Nat) (va : Int32) (tg : Int32) : ∀ sz : Nat, Met l y_Reader_readTarget (Cond.code y_Reader_readTarget b_Reader_readTarget 3 none :: wA) ({ frames := 1, cells := 0, slots := 0, locals := 20 } : Room) (va_Pc [.ref h0] (kP D a [(h0, .inr (9, [.ref g0, .ref g1, .int 0, .int va, .int 0, .int 0, .int tg]))] sz)) (va_Qv (fun u : va_W => u = [(h0, .inr (9, [.ref g0, .ref g1, .int 0, .int va, .int 0, .int 0, .int (-1)]))]) (kB D a (va_A [(h0, .inr (9, [.ref g0, .ref g1, .int 0, .int va, .int 0, .int 0, .int tg]))] sz)) (va_A [(h0, .inr (9, [.ref g0, .ref g1, .int 0, .int va, .int 0, .int 0, .int tg]))] sz)) 0 0 (va_A [(h0, .inr (9, [.ref g0, .ref g1, .int 0, .int va, .int 0, .int 0, .int tg]))] sz) :=
  kM (Qc := fun A => va_Qv (fun u : va_W => u = [(h0, .inr (9, [.ref g0, .ref g1, .int 0, .int va, .int 0, .int 0, .int (-1)]))]) (kB D a A) A) (by decide) (Nat.le_of_ble_eq_true rfl) (by
    intro p e s m below meth c A ls H locs E hr hlk hnm w hl
    have hx := E.1.1
    have hb := E.1.2.1
    have E : kE p m c b_Reader_readTarget 3 s [.ref h0].toArray "RootAlgebra$Reader" D a A := E
    have hl : lv_has ls 3 [(0, .ref h0)] := hl
    refine lv_aload_n hx hb d_Reader_readTarget_0 rfl (lv_at hl 0 rfl) ?_
    refine lv_iconst (v := (-1)) hx hb d_Reader_readTarget_1 (by decide) ?_
    refine kx_put E w zC_Reader 0 rfl 6 (by decide) mw_207 rfl rfl rfl (Nat.le_of_ble_eq_true rfl) d_Reader_readTarget_2 (ws' := [(h0, .inr (9, [.ref g0, .ref g1, .int 0, .int va, .int 0, .int 0, .int (-1)]))]) rfl (fun H locs w => ?_)
    refine lv_aload_n hx hb d_Reader_readTarget_5 rfl (lv_at hl 0 rfl) ?_
    refine kx_i E w (wc := [(h0, .inr (9, [.ref g0, .ref g1, .int 0, .int va, .int 0, .int 0, .int (-1)]))]) (wr := []) [0] [] rfl rfl ⟨rfl, rfl, by decide⟩ (kx_rV E w hl.1 (As := []) (wc := [(h0, .inr (9, [.ref g0, .ref g1, .int 0, .int va, .int 0, .int 0, .int (-1)]))]) (c_Reader_next l D a h0 g0 g1 va (-1) H.size) gc_24 gv_Reader_next (kRecv E w 9 0 rfl rfl) [0] rfl rfl rfl rfl rfl ⟨(Nat.le_of_ble_eq_true rfl), (Nat.le_of_ble_eq_true rfl)⟩ rfl (Nat.le_of_ble_eq_true rfl) d_Reader_readTarget_6 ⟨(Nat.le_of_ble_eq_true rfl), (Nat.le_of_ble_eq_true rfl)⟩) (fun rr u H locs hu w => ?_)
    obtain ⟨rfl, rfl⟩ := hu
    have w : kW D A s [(h0, .inr (9, [.ref g0, .ref g1, .int 0, .int va, .int 0, .int 0, .int (-1)]))] H locs := w
    refine lv_istore_n (lv' := [(1, .int (-1)), (0, .ref h0)]) hx hb d_Reader_readTarget_9 rfl hl (by decide) rfl (fun ls hl => ?_)
    refine lv_iload_n hx hb d_Reader_readTarget_10 rfl (lv_at hl 0 rfl) ?_
    refine lv_bipush (v := 97) hx hb d_Reader_readTarget_11 (by decide) ?_
    refine lv_icmp_lt (tgt := 22) hx hb d_Reader_readTarget_13 (by decide) (fun _ => ?_) (fun h => absurd (by decide) h)
    refine W.widen (k := 0) (n := 0) (Nat.le_of_ble_eq_true rfl) (Nat.le_of_ble_eq_true rfl) ?_
    exact kx_vret E w hr hlk d_Reader_readTarget_22 rfl)
set_option maxRecDepth 100000 in
set_option maxHeartbeats 4000000 in
theorem c_Reader_factor (l : Launch) (D : va_G) (a : Nat → ClassId) (h0 : Nat) (g0 : Nat) (g1 : Nat) (va : Int32) (tg : Int32) : ∀ sz : Nat, Met l y_Reader_factor (Cond.code y_Reader_factor b_Reader_factor 5 (some .boolean) :: wA) ({ frames := 1, cells := 0, slots := 0, locals := 20 } : Room) (va_Pc [.ref h0, .int 0] (kP D a [(h0, .inr (9, [.ref g0, .ref g1, .int 0, .int va, .int 0, .int 0, .int tg]))] sz)) (va_Qi (fun (rr : Int32) (u : va_W) => rr = 0 ∧ u = [(h0, .inr (9, [.ref g0, .ref g1, .int 0, .int va, .int 0, .int 0, .int tg]))]) (kB D a (va_A [(h0, .inr (9, [.ref g0, .ref g1, .int 0, .int va, .int 0, .int 0, .int tg]))] sz)) (va_A [(h0, .inr (9, [.ref g0, .ref g1, .int 0, .int va, .int 0, .int 0, .int tg]))] sz)) 0 0 (va_A [(h0, .inr (9, [.ref g0, .ref g1, .int 0, .int va, .int 0, .int 0, .int tg]))] sz) :=
  kM (Qc := fun A => va_Qi (fun (rr : Int32) (u : va_W) => rr = 0 ∧ u = [(h0, .inr (9, [.ref g0, .ref g1, .int 0, .int va, .int 0, .int 0, .int tg]))]) (kB D a A) A) (by decide) (Nat.le_of_ble_eq_true rfl) (by
    intro p e s m below meth c A ls H locs E hr hlk hnm w hl
    have hx := E.1.1
    have hb := E.1.2.1
    have E : kE p m c b_Reader_factor 5 s [.ref h0, .int 0].toArray "RootAlgebra$Reader" D a A := E
    have hl : lv_has ls 5 [(0, .ref h0), (1, .int 0)] := hl
    refine lv_iconst (v := 0) hx hb d_Reader_factor_0 (by decide) ?_
    refine lv_istore_n (lv' := [(2, .int 0), (0, .ref h0), (1, .int 0)]) hx hb d_Reader_factor_1 rfl hl (by decide) rfl (fun ls hl => ?_)
    refine lv_aload_n hx hb d_Reader_factor_2 rfl (lv_at hl 1 rfl) ?_
    refine kx_i E w (wc := [(h0, .inr (9, [.ref g0, .ref g1, .int 0, .int va, .int 0, .int 0, .int tg]))]) (wr := []) [0] [] rfl rfl ⟨rfl, rfl, by decide⟩ (kx_rV E w hl.1 (As := []) (wc := [(h0, .inr (9, [.ref g0, .ref g1, .int 0, .int va, .int 0, .int 0, .int tg]))]) (c_Reader_next l D a h0 g0 g1 va tg H.size) gc_24 gv_Reader_next (kRecv E w 9 0 rfl rfl) [0] rfl rfl rfl rfl rfl ⟨(Nat.le_of_ble_eq_true rfl), (Nat.le_of_ble_eq_true rfl)⟩ rfl (Nat.le_of_ble_eq_true rfl) d_Reader_factor_3 ⟨(Nat.le_of_ble_eq_true rfl), (Nat.le_of_ble_eq_true rfl)⟩) (fun rr u H locs hu w => ?_)
    obtain ⟨rfl, rfl⟩ := hu
    have w : kW D A s [(h0, .inr (9, [.ref g0, .ref g1, .int 0, .int va, .int 0, .int 0, .int tg]))] H locs := w
    refine lv_istore_n (lv' := [(3, .int (-1)), (2, .int 0), (0, .ref h0), (1, .int 0)]) hx hb d_Reader_factor_6 rfl hl (by decide) rfl (fun ls hl => ?_)
    refine lv_iconst (v := 0) hx hb d_Reader_factor_7 (by decide) ?_
    refine lv_istore (lv' := [(4, .int 0), (3, .int (-1)), (2, .int 0), (0, .ref h0), (1, .int 0)]) hx hb d_Reader_factor_8 hl (by decide) rfl (fun ls hl => ?_)
    refine lv_iload hx hb d_Reader_factor_10 (lv_at hl 0 rfl) ?_
    refine lv_sipush (v := 400) hx hb d_Reader_factor_12 (by decide) ?_
    refine lv_icmp_ge (tgt := 55) hx hb d_Reader_factor_15 (by decide) (fun h => absurd h (by decide)) (fun _ => ?_)
    refine lv_iload_n hx hb d_Reader_factor_18 rfl (lv_at hl 1 rfl) ?_
    refine lv_bipush (v := 45) hx hb d_Reader_factor_19 (by decide) ?_
    refine lv_icmp_ne (tgt := 55) hx hb d_Reader_factor_21 (by decide) (fun _ => ?_) (fun h => absurd h (by decide))
    refine lv_iconst (v := 0) hx hb d_Reader_factor_55 (by decide) ?_
    refine lv_istore (lv' := [(4, .int 0), (3, .int (-1)), (2, .int 0), (0, .ref h0), (1, .int 0)]) hx hb d_Reader_factor_56 hl (by decide) rfl (fun ls hl => ?_)
    refine lv_iload_n hx hb d_Reader_factor_58 rfl (lv_at hl 1 rfl) ?_
    refine lv_bipush (v := 48) hx hb d_Reader_factor_59 (by decide) ?_
    refine lv_icmp_lt (tgt := 92) hx hb d_Reader_factor_61 (by decide) (fun _ => ?_) (fun h => absurd (by decide) h)
    refine lv_iload_n hx hb d_Reader_factor_92 rfl (lv_at hl 1 rfl) ?_
    refine lv_bipush (v := 97) hx hb d_Reader_factor_93 (by decide) ?_
    refine lv_icmp_lt (tgt := 133) hx hb d_Reader_factor_95 (by decide) (fun _ => ?_) (fun h => absurd (by decide) h)
    refine lv_iload_n hx hb d_Reader_factor_133 rfl (lv_at hl 1 rfl) ?_
    refine lv_bipush (v := 40) hx hb d_Reader_factor_134 (by decide) ?_
    refine lv_icmp_ne (tgt := 149) hx hb d_Reader_factor_136 (by decide) (fun _ => ?_) (fun h => absurd h (by decide))
    refine lv_iload_n hx hb d_Reader_factor_149 rfl (lv_at hl 1 rfl) ?_
    refine lv_bipush (v := 35) hx hb d_Reader_factor_150 (by decide) ?_
    refine lv_icmp_ne (tgt := 165) hx hb d_Reader_factor_152 (by decide) (fun _ => ?_) (fun h => absurd h (by decide))
    refine lv_iload_n hx hb d_Reader_factor_165 rfl (lv_at hl 1 rfl) ?_
    refine lv_bipush (v := 64) hx hb d_Reader_factor_166 (by decide) ?_
    refine lv_icmp_ne (tgt := 178) hx hb d_Reader_factor_168 (by decide) (fun _ => ?_) (fun h => absurd h (by decide))
    refine lv_iload_n hx hb d_Reader_factor_178 rfl (lv_at hl 2 rfl) ?_
    refine lv_if_eq (tgt := 187) hx hb d_Reader_factor_179 (by decide) (fun _ => ?_) (fun h => absurd (by decide) h)
    refine lv_iload hx hb d_Reader_factor_187 (lv_at hl 0 rfl) ?_
    refine W.widen (k := 0) (n := 0) (Nat.le_of_ble_eq_true rfl) (Nat.le_of_ble_eq_true rfl) ?_
    exact kx_zret E w hr hlk d_Reader_factor_189 (v := 0) (by decide) ⟨rfl, rfl⟩)
set_option maxRecDepth 100000 in
set_option maxHeartbeats 4000000 in
theorem c_Reader_product (l : Launch) (D : va_G) (a : Nat → ClassId) (h0 : Nat) (g0 : Nat) (g1 : Nat) (va : Int32) (tg : Int32) : ∀ sz : Nat, Met l y_Reader_product (Cond.code y_Reader_product b_Reader_product 4 (some .boolean) :: wA) ({ frames := 2, cells := 0, slots := 0, locals := 44 } : Room) (va_Pc [.ref h0, .int 0] (kP D a [(h0, .inr (9, [.ref g0, .ref g1, .int 0, .int va, .int 0, .int 0, .int tg]))] sz)) (va_Qi (fun (rr : Int32) (u : va_W) => rr = 0 ∧ u = [(h0, .inr (9, [.ref g0, .ref g1, .int 0, .int va, .int 0, .int 0, .int tg]))]) (kB D a (va_A [(h0, .inr (9, [.ref g0, .ref g1, .int 0, .int va, .int 0, .int 0, .int tg]))] sz)) (va_A [(h0, .inr (9, [.ref g0, .ref g1, .int 0, .int va, .int 0, .int 0, .int tg]))] sz)) 0 0 (va_A [(h0, .inr (9, [.ref g0, .ref g1, .int 0, .int va, .int 0, .int 0, .int tg]))] sz) :=
  kM (Qc := fun A => va_Qi (fun (rr : Int32) (u : va_W) => rr = 0 ∧ u = [(h0, .inr (9, [.ref g0, .ref g1, .int 0, .int va, .int 0, .int 0, .int tg]))]) (kB D a A) A) (by decide) (Nat.le_of_ble_eq_true rfl) (by
    intro p e s m below meth c A ls H locs E hr hlk hnm w hl
    have hx := E.1.1
    have hb := E.1.2.1
    have E : kE p m c b_Reader_product 4 s [.ref h0, .int 0].toArray "RootAlgebra$Reader" D a A := E
    have hl : lv_has ls 4 [(0, .ref h0), (1, .int 0)] := hl
    refine lv_aload_n hx hb d_Reader_product_0 rfl (lv_at hl 0 rfl) ?_
    refine lv_iload_n hx hb d_Reader_product_1 rfl (lv_at hl 1 rfl) ?_
    refine kx_i E w (wc := [(h0, .inr (9, [.ref g0, .ref g1, .int 0, .int va, .int 0, .int 0, .int tg]))]) (wr := []) [0] [] rfl rfl ⟨rfl, rfl, by decide⟩ (kx_rV E w hl.1 (As := [.int 0]) (wc := [(h0, .inr (9, [.ref g0, .ref g1, .int 0, .int va, .int 0, .int 0, .int tg]))]) (c_Reader_factor l D a h0 g0 g1 va tg H.size) gc_25 gv_Reader_factor (kRecv E w 9 0 rfl rfl) [0] rfl rfl rfl rfl rfl ⟨(Nat.le_of_ble_eq_true rfl), (Nat.le_of_ble_eq_true rfl)⟩ rfl (Nat.le_of_ble_eq_true rfl) d_Reader_product_2 ⟨(Nat.le_of_ble_eq_true rfl), (Nat.le_of_ble_eq_true rfl)⟩) (fun rr u H locs hu w => ?_)
    obtain ⟨rfl, rfl⟩ := hu
    have w : kW D A s [(h0, .inr (9, [.ref g0, .ref g1, .int 0, .int va, .int 0, .int 0, .int tg]))] H locs := w
    refine lv_if_ne (tgt := 10) hx hb d_Reader_product_5 (by decide) (fun h => absurd (by decide) h) (fun _ => ?_)
    refine lv_iconst (v := 0) hx hb d_Reader_product_8 (by decide) ?_
    refine W.widen (k := 0) (n := 0) (Nat.le_of_ble_eq_true rfl) (Nat.le_of_ble_eq_true rfl) ?_
    exact kx_zret E w hr hlk d_Reader_product_9 (v := 0) (by decide) ⟨rfl, rfl⟩)
