/-! laid by program (wip/gen) -/
set_option maxRecDepth 100000 in
set_option maxHeartbeats 4000000 in
theorem c_Sums_init (l : Launch) (D : va_G) (a : Nat → ClassId) (h0 : Nat) : ∀ sz : Nat, Met l y_Sums_init (Cond.code y_Sums_init b_Sums_init 2 none :: wA) ({ frames := 2, cells := 83, slots := 1307, locals := 41 } : Room) (va_Pc [.ref h0] (kP D a [(h0, .inr (10, [.null, .null, .null, .null]))] sz)) (va_Qv (fun u : va_W => ∃ q1 : Nat, ∃ q2 : Nat, ∃ q3 : Nat, ∃ q4 : Nat, u = [(h0, .inr (10, [.ref q1, .ref q2, .ref q3, .ref q4]))]) (kB D a (va_A [(h0, .inr (10, [.null, .null, .null, .null]))] sz)) (va_A [(h0, .inr (10, [.null, .null, .null, .null]))] sz)) 83 1307 (va_A [(h0, .inr (10, [.null, .null, .null, .null]))] sz) :=
  kM (Qc := fun A => va_Qv (fun u : va_W => ∃ q1 : Nat, ∃ q2 : Nat, ∃ q3 : Nat, ∃ q4 : Nat, u = [(h0, .inr (10, [.ref q1, .ref q2, .ref q3, .ref q4]))]) (kB D a A) A) (by decide) (Nat.le_of_ble_eq_true rfl) (by
    intro p e s m below meth c A ls H locs E hr hlk hnm w hl
    have hx := E.1.1
    have hb := E.1.2.1
    have E : kE p m c b_Sums_init 2 s [.ref h0].toArray "RootAlgebra$Sums" D a A := E
    have hl : lv_has ls 2 [(0, .ref h0)] := hl
    have hnm : meth.name = "<init>" := hnm
    refine lv_aload_n hx hb d_Sums_init_0 rfl (lv_at hl 0 rfl) ?_
    refine kx_obj E hl.1 mw_65 mw_1 mw_2 d_Sums_init_1 (Nat.le_of_ble_eq_true rfl) (Nat.le_of_ble_eq_true rfl) (Nat.le_of_ble_eq_true rfl) ?_
    refine lv_aload_n hx hb d_Sums_init_4 rfl (lv_at hl 0 rfl) ?_
    refine lv_bipush (v := 13) hx hb d_Sums_init_5 (by decide) ?_
    refine kx_newq E w mw_66 E.2.1.2.1 4 rfl (N' := 13) (by decide) (by decide) (by decide) (Nat.le_of_ble_eq_true rfl) (Nat.le_of_ble_eq_true rfl) d_Sums_init_7 (fun q1 H w => ?_)
    have w : kW D A s [(h0, .inr (10, [.null, .null, .null, .null])), (q1, .inl (a 4, 13, .inr (.inr (.inr (.inr (fun _ => none))))))] H locs := w
    refine kx_putF E w zC_Sums hnm 0 rfl 0 (by decide) mw_67 rfl rfl rfl rfl (Nat.le_of_ble_eq_true rfl) d_Sums_init_10 (ws' := [(h0, .inr (10, [.ref q1, .null, .null, .null])), (q1, .inl (a 4, 13, .inr (.inr (.inr (.inr (fun _ => none))))))]) rfl (fun H locs w => ?_)
    refine lv_aload_n hx hb d_Sums_init_13 rfl (lv_at hl 0 rfl) ?_
    refine lv_bipush (v := 13) hx hb d_Sums_init_14 (by decide) ?_
    refine kx_newq E w mw_66 E.2.1.2.1 4 rfl (N' := 13) (by decide) (by decide) (by decide) (Nat.le_of_ble_eq_true rfl) (Nat.le_of_ble_eq_true rfl) d_Sums_init_16 (fun q2 H w => ?_)
    have w : kW D A s [(h0, .inr (10, [.ref q1, .null, .null, .null])), (q1, .inl (a 4, 13, .inr (.inr (.inr (.inr (fun _ => none)))))), (q2, .inl (a 4, 13, .inr (.inr (.inr (.inr (fun _ => none))))))] H locs := w
    refine kx_putF E w zC_Sums hnm 0 rfl 1 (by decide) mw_68 rfl rfl rfl rfl (Nat.le_of_ble_eq_true rfl) d_Sums_init_19 (ws' := [(h0, .inr (10, [.ref q1, .ref q2, .null, .null])), (q1, .inl (a 4, 13, .inr (.inr (.inr (.inr (fun _ => none)))))), (q2, .inl (a 4, 13, .inr (.inr (.inr (.inr (fun _ => none))))))]) rfl (fun H locs w => ?_)
    refine lv_aload_n hx hb d_Sums_init_22 rfl (lv_at hl 0 rfl) ?_
    refine lv_bipush (v := 13) hx hb d_Sums_init_23 (by decide) ?_
    refine kx_newq E w mw_66 E.2.1.2.1 4 rfl (N' := 13) (by decide) (by decide) (by decide) (Nat.le_of_ble_eq_true rfl) (Nat.le_of_ble_eq_true rfl) d_Sums_init_25 (fun q3 H w => ?_)
    have w : kW D A s [(h0, .inr (10, [.ref q1, .ref q2, .null, .null])), (q1, .inl (a 4, 13, .inr (.inr (.inr (.inr (fun _ => none)))))), (q2, .inl (a 4, 13, .inr (.inr (.inr (.inr (fun _ => none)))))), (q3, .inl (a 4, 13, .inr (.inr (.inr (.inr (fun _ => none))))))] H locs := w
    refine kx_putF E w zC_Sums hnm 0 rfl 2 (by decide) mw_69 rfl rfl rfl rfl (Nat.le_of_ble_eq_true rfl) d_Sums_init_28 (ws' := [(h0, .inr (10, [.ref q1, .ref q2, .ref q3, .null])), (q1, .inl (a 4, 13, .inr (.inr (.inr (.inr (fun _ => none)))))), (q2, .inl (a 4, 13, .inr (.inr (.inr (.inr (fun _ => none)))))), (q3, .inl (a 4, 13, .inr (.inr (.inr (.inr (fun _ => none))))))]) rfl (fun H locs w => ?_)
    refine lv_iconst (v := 0) hx hb d_Sums_init_31 (by decide) ?_
    refine lv_istore_n (lv' := [(1, .int 0), (0, .ref h0)]) hx hb d_Sums_init_32 rfl hl (by decide) rfl (fun ls hl => ?_)
    refine W.widen (k := 3 + 6 * 0) (n := 39 + 93 * 0) (Nat.le_of_ble_eq_true rfl) (Nat.le_of_ble_eq_true rfl) ?_
    have loop : ∀ (n i : Nat), i + n = 13 → ∀ (f0 : Nat → Option Nat) (f1 : Nat → Option Nat) (f2 : Nat → Option Nat) (H : Heap) (locs : List Loc) (ls : Array Slot), kW D A s [(h0, .inr (10, [.ref q1, .ref q2, .ref q3, .null])), (q1, .inl (a 4, 13, .inr (.inr (.inr (.inr f0))))), (q2, .inl (a 4, 13, .inr (.inr (.inr (.inr f1))))), (q3, .inl (a 4, 13, .inr (.inr (.inr (.inr f2)))))] H locs → lv_has ls 2 [(0, .ref h0), (1, .int (nI i))] → W p l e ({ frames := 2, cells := 83, slots := 1307, locals := 41 } : Room) s m [.ref h0].toArray below meth c H locs (3 + 6 * i) (39 + 93 * i) (MQ below (va_Qv (fun u : va_W => ∃ q1 : Nat, ∃ q2 : Nat, ∃ q3 : Nat, ∃ q4 : Nat, u = [(h0, .inr (10, [.ref q1, .ref q2, .ref q3, .ref q4]))]) (kB D a A) A) [.ref h0].toArray s 83 1307 A) (F0 m 33 ls [])  := by
      intro n
      induction n with
      | zero =>
        intro i hi f0 f1 f2 H locs ls w hl
        obtain rfl : i = 13 := by omega
        have hl : lv_has ls 2 [(0, .ref h0), (1, .int 13)] := hl
        refine lv_iload_n hx hb d_Sums_init_33 rfl (lv_at hl 1 rfl) ?_
        refine lv_bipush (v := 12) hx hb d_Sums_init_34 (by decide) ?_
        refine lv_icmp_gt (tgt := 90) hx hb d_Sums_init_36 (by decide) (fun _ => ?_) (fun h => absurd (by decide) h)
        refine lv_aload_n hx hb d_Sums_init_90 rfl (lv_at hl 0 rfl) ?_
        refine kx_new E w zC_Big mw_66 mw_8 mw_9 (fs := [.null, .int 0, .int 0]) z0_Big (Nat.le_of_ble_eq_true rfl) (Nat.le_of_ble_eq_true rfl) d_Sums_init_91 (fun q4 H w => ?_)
        have w : kW D A s [(h0, .inr (10, [.ref q1, .ref q2, .ref q3, .null])), (q1, .inl (a 4, 13, .inr (.inr (.inr (.inr f0))))), (q2, .inl (a 4, 13, .inr (.inr (.inr (.inr f1))))), (q3, .inl (a 4, 13, .inr (.inr (.inr (.inr f2))))), (q4, .inr (1, [.null, .int 0, .int 0]))] H locs := w
        refine lv_dup hx hb d_Sums_init_94 rfl ?_
        refine lv_bipush (v := 56) hx hb d_Sums_init_95 (by decide) ?_
        refine kx_v E w (wc := [(q4, .inr (1, [.null, .int 0, .int 0]))]) (wr := [(h0, .inr (10, [.ref q1, .ref q2, .ref q3, .null])), (q1, .inl (a 4, 13, .inr (.inr (.inr (.inr f0))))), (q2, .inl (a 4, 13, .inr (.inr (.inr (.inr f1))))), (q3, .inl (a 4, 13, .inr (.inr (.inr (.inr f2)))))]) [4] [0, 1, 2, 3] rfl rfl ⟨rfl, rfl, by decide⟩ (kx_rI E w hl.1 (As := [.int 56]) (wc := [(q4, .inr (1, [.null, .int 0, .int 0]))]) (c_Big_init_56 l D a q4 H.size) gc_6 gi_Big_init [4] rfl rfl rfl rfl rfl ⟨(Nat.le_of_ble_eq_true rfl), (Nat.le_of_ble_eq_true rfl)⟩ rfl (Nat.le_of_ble_eq_true rfl) d_Sums_init_97 ⟨(Nat.le_of_ble_eq_true rfl), (Nat.le_of_ble_eq_true rfl)⟩) (fun u H locs hu w => ?_)
        obtain ⟨q5, rfl⟩ := hu
        have w : kW D A s [(h0, .inr (10, [.ref q1, .ref q2, .ref q3, .null])), (q1, .inl (a 4, 13, .inr (.inr (.inr (.inr f0))))), (q2, .inl (a 4, 13, .inr (.inr (.inr (.inr f1))))), (q3, .inl (a 4, 13, .inr (.inr (.inr (.inr f2))))), (q4, .inr (1, [.ref q5, .int 0, .int 0])), (q5, .inl (a 0, 56, .inl (fun _ => 0)))] H locs := w
        refine kx_putF E w zC_Sums hnm 0 rfl 3 (by decide) mw_71 rfl rfl rfl rfl (Nat.le_of_ble_eq_true rfl) d_Sums_init_100 (ws' := [(h0, .inr (10, [.ref q1, .ref q2, .ref q3, .ref q4])), (q1, .inl (a 4, 13, .inr (.inr (.inr (.inr f0))))), (q2, .inl (a 4, 13, .inr (.inr (.inr (.inr f1))))), (q3, .inl (a 4, 13, .inr (.inr (.inr (.inr f2))))), (q4, .inr (1, [.ref q5, .int 0, .int 0])), (q5, .inl (a 0, 56, .inl (fun _ => 0)))]) rfl (fun H locs w => ?_)
        have w := kW_sub w (ws' := [(h0, .inr (10, [.ref q1, .ref q2, .ref q3, .ref q4]))]) [0] rfl rfl
        refine W.widen (k := 83) (n := 1307) (Nat.le_of_ble_eq_true rfl) (Nat.le_of_ble_eq_true rfl) ?_
        exact kx_vret E w hr hlk d_Sums_init_103 ⟨q1, q2, q3, q4, rfl⟩
      | succ n ih =>
        intro i hi f0 f1 f2 H locs ls w hl
        refine lv_iload_n hx hb d_Sums_init_33 rfl (lv_at hl 1 rfl) ?_
        refine lv_bipush (v := 12) hx hb d_Sums_init_34 (by decide) ?_
        refine lv_icmp_gt (tgt := 90) hx hb d_Sums_init_36 (by decide) (fun h => absurd h (nI_nlt (a := 12) (b := i) (by omega) (by omega))) (fun _ => ?_)
        refine lv_aload_n hx hb d_Sums_init_39 rfl (lv_at hl 0 rfl) ?_
        refine kx_get E w zC_Sums 0 rfl 0 (by decide) mw_67 rfl d_Sums_init_40 ?_
        refine lv_iload_n hx hb d_Sums_init_43 rfl (lv_at hl 1 rfl) ?_
        refine kx_new E w zC_Big mw_66 mw_8 mw_9 (fs := [.null, .int 0, .int 0]) z0_Big (show 3 + 6 * i + 1 ≤ 83 from by omega) (show 39 + 93 * i + 3 ≤ 1307 from by omega) d_Sums_init_44 (fun q6 H w => ?_)
        have w : kW D A s [(h0, .inr (10, [.ref q1, .ref q2, .ref q3, .null])), (q1, .inl (a 4, 13, .inr (.inr (.inr (.inr f0))))), (q2, .inl (a 4, 13, .inr (.inr (.inr (.inr f1))))), (q3, .inl (a 4, 13, .inr (.inr (.inr (.inr f2))))), (q6, .inr (1, [.null, .int 0, .int 0]))] H locs := w
        refine lv_dup hx hb d_Sums_init_47 rfl ?_
        refine lv_bipush (v := 28) hx hb d_Sums_init_48 (by decide) ?_
        refine kx_v E w (wc := [(q6, .inr (1, [.null, .int 0, .int 0]))]) (wr := [(h0, .inr (10, [.ref q1, .ref q2, .ref q3, .null])), (q1, .inl (a 4, 13, .inr (.inr (.inr (.inr f0))))), (q2, .inl (a 4, 13, .inr (.inr (.inr (.inr f1))))), (q3, .inl (a 4, 13, .inr (.inr (.inr (.inr f2)))))]) [4] [0, 1, 2, 3] rfl rfl ⟨rfl, rfl, by decide⟩ (kx_rI E w hl.1 (As := [.int 28]) (wc := [(q6, .inr (1, [.null, .int 0, .int 0]))]) (c_Big_init_28 l D a q6 H.size) gc_6 gi_Big_init [4] rfl rfl rfl rfl rfl ⟨(Nat.le_of_ble_eq_true rfl), (Nat.le_of_ble_eq_true rfl)⟩ rfl (Nat.le_of_ble_eq_true rfl) d_Sums_init_50 ⟨(show 3 + 6 * i + 1 + 1 ≤ 83 from by omega), (show 39 + 93 * i + 3 + 28 ≤ 1307 from by omega)⟩) (fun u H locs hu w => ?_)
        obtain ⟨q7, rfl⟩ := hu
        have w : kW D A s [(h0, .inr (10, [.ref q1, .ref q2, .ref q3, .null])), (q1, .inl (a 4, 13, .inr (.inr (.inr (.inr f0))))), (q2, .inl (a 4, 13, .inr (.inr (.inr (.inr f1))))), (q3, .inl (a 4, 13, .inr (.inr (.inr (.inr f2))))), (q6, .inr (1, [.ref q7, .int 0, .int 0])), (q7, .inl (a 0, 28, .inl (fun _ => 0)))] H locs := w
        refine kx_aast E w 1 4 4 1 rfl rfl rfl rfl (vp_in_nI (by omega) (by omega)) i (nI_clamp (by omega)) d_Sums_init_53 (ws' := [(h0, .inr (10, [.ref q1, .ref q2, .ref q3, .null])), (q1, .inl (a 4, 13, .inr (.inr (.inr (.inr (va_up f0 i (some q6))))))), (q2, .inl (a 4, 13, .inr (.inr (.inr (.inr f1))))), (q3, .inl (a 4, 13, .inr (.inr (.inr (.inr f2))))), (q6, .inr (1, [.ref q7, .int 0, .int 0])), (q7, .inl (a 0, 28, .inl (fun _ => 0)))]) rfl (fun H locs w => ?_)
        refine lv_aload_n hx hb d_Sums_init_54 rfl (lv_at hl 0 rfl) ?_
        refine kx_get E w zC_Sums 0 rfl 1 (by decide) mw_68 rfl d_Sums_init_55 ?_
        refine lv_iload_n hx hb d_Sums_init_58 rfl (lv_at hl 1 rfl) ?_
        refine kx_new E w zC_Big mw_66 mw_8 mw_9 (fs := [.null, .int 0, .int 0]) z0_Big (show 3 + 6 * i + 1 + 1 + 1 ≤ 83 from by omega) (show 39 + 93 * i + 3 + 28 + 3 ≤ 1307 from by omega) d_Sums_init_59 (fun q8 H w => ?_)
        have w : kW D A s [(h0, .inr (10, [.ref q1, .ref q2, .ref q3, .null])), (q1, .inl (a 4, 13, .inr (.inr (.inr (.inr (va_up f0 i (some q6))))))), (q2, .inl (a 4, 13, .inr (.inr (.inr (.inr f1))))), (q3, .inl (a 4, 13, .inr (.inr (.inr (.inr f2))))), (q6, .inr (1, [.ref q7, .int 0, .int 0])), (q7, .inl (a 0, 28, .inl (fun _ => 0))), (q8, .inr (1, [.null, .int 0, .int 0]))] H locs := w
        refine lv_dup hx hb d_Sums_init_62 rfl ?_
        refine lv_bipush (v := 28) hx hb d_Sums_init_63 (by decide) ?_
        refine kx_v E w (wc := [(q8, .inr (1, [.null, .int 0, .int 0]))]) (wr := [(h0, .inr (10, [.ref q1, .ref q2, .ref q3, .null])), (q1, .inl (a 4, 13, .inr (.inr (.inr (.inr (va_up f0 i (some q6))))))), (q2, .inl (a 4, 13, .inr (.inr (.inr (.inr f1))))), (q3, .inl (a 4, 13, .inr (.inr (.inr (.inr f2))))), (q6, .inr (1, [.ref q7, .int 0, .int 0])), (q7, .inl (a 0, 28, .inl (fun _ => 0)))]) [6] [0, 1, 2, 3, 4, 5] rfl rfl ⟨rfl, rfl, by decide⟩ (kx_rI E w hl.1 (As := [.int 28]) (wc := [(q8, .inr (1, [.null, .int 0, .int 0]))]) (c_Big_init_28 l D a q8 H.size) gc_6 gi_Big_init [6] rfl rfl rfl rfl rfl ⟨(Nat.le_of_ble_eq_true rfl), (Nat.le_of_ble_eq_true rfl)⟩ rfl (Nat.le_of_ble_eq_true rfl) d_Sums_init_65 ⟨(show 3 + 6 * i + 1 + 1 + 1 + 1 ≤ 83 from by omega), (show 39 + 93 * i + 3 + 28 + 3 + 28 ≤ 1307 from by omega)⟩) (fun u H locs hu w => ?_)
        obtain ⟨q9, rfl⟩ := hu
        have w : kW D A s [(h0, .inr (10, [.ref q1, .ref q2, .ref q3, .null])), (q1, .inl (a 4, 13, .inr (.inr (.inr (.inr (va_up f0 i (some q6))))))), (q2, .inl (a 4, 13, .inr (.inr (.inr (.inr f1))))), (q3, .inl (a 4, 13, .inr (.inr (.inr (.inr f2))))), (q6, .inr (1, [.ref q7, .int 0, .int 0])), (q7, .inl (a 0, 28, .inl (fun _ => 0))), (q8, .inr (1, [.ref q9, .int 0, .int 0])), (q9, .inl (a 0, 28, .inl (fun _ => 0)))] H locs := w
        refine kx_aast E w 2 4 6 1 rfl rfl rfl rfl (vp_in_nI (by omega) (by omega)) i (nI_clamp (by omega)) d_Sums_init_68 (ws' := [(h0, .inr (10, [.ref q1, .ref q2, .ref q3, .null])), (q1, .inl (a 4, 13, .inr (.inr (.inr (.inr (va_up f0 i (some q6))))))), (q2, .inl (a 4, 13, .inr (.inr (.inr (.inr (va_up f1 i (some q8))))))), (q3, .inl (a 4, 13, .inr (.inr (.inr (.inr f2))))), (q6, .inr (1, [.ref q7, .int 0, .int 0])), (q7, .inl (a 0, 28, .inl (fun _ => 0))), (q8, .inr (1, [.ref q9, .int 0, .int 0])), (q9, .inl (a 0, 28, .inl (fun _ => 0)))]) rfl (fun H locs w => ?_)
        refine lv_aload_n hx hb d_Sums_init_69 rfl (lv_at hl 0 rfl) ?_
        refine kx_get E w zC_Sums 0 rfl 2 (by decide) mw_69 rfl d_Sums_init_70 ?_
        refine lv_iload_n hx hb d_Sums_init_73 rfl (lv_at hl 1 rfl) ?_
        refine kx_new E w zC_Big mw_66 mw_8 mw_9 (fs := [.null, .int 0, .int 0]) z0_Big (show 3 + 6 * i + 1 + 1 + 1 + 1 + 1 ≤ 83 from by omega) (show 39 + 93 * i + 3 + 28 + 3 + 28 + 3 ≤ 1307 from by omega) d_Sums_init_74 (fun q10 H w => ?_)
        have w : kW D A s [(h0, .inr (10, [.ref q1, .ref q2, .ref q3, .null])), (q1, .inl (a 4, 13, .inr (.inr (.inr (.inr (va_up f0 i (some q6))))))), (q2, .inl (a 4, 13, .inr (.inr (.inr (.inr (va_up f1 i (some q8))))))), (q3, .inl (a 4, 13, .inr (.inr (.inr (.inr f2))))), (q6, .inr (1, [.ref q7, .int 0, .int 0])), (q7, .inl (a 0, 28, .inl (fun _ => 0))), (q8, .inr (1, [.ref q9, .int 0, .int 0])), (q9, .inl (a 0, 28, .inl (fun _ => 0))), (q10, .inr (1, [.null, .int 0, .int 0]))] H locs := w
        refine lv_dup hx hb d_Sums_init_77 rfl ?_
        refine lv_bipush (v := 28) hx hb d_Sums_init_78 (by decide) ?_
        refine kx_v E w (wc := [(q10, .inr (1, [.null, .int 0, .int 0]))]) (wr := [(h0, .inr (10, [.ref q1, .ref q2, .ref q3, .null])), (q1, .inl (a 4, 13, .inr (.inr (.inr (.inr (va_up f0 i (some q6))))))), (q2, .inl (a 4, 13, .inr (.inr (.inr (.inr (va_up f1 i (some q8))))))), (q3, .inl (a 4, 13, .inr (.inr (.inr (.inr f2))))), (q6, .inr (1, [.ref q7, .int 0, .int 0])), (q7, .inl (a 0, 28, .inl (fun _ => 0))), (q8, .inr (1, [.ref q9, .int 0, .int 0])), (q9, .inl (a 0, 28, .inl (fun _ => 0)))]) [8] [0, 1, 2, 3, 4, 5, 6, 7] rfl rfl ⟨rfl, rfl, by decide⟩ (kx_rI E w hl.1 (As := [.int 28]) (wc := [(q10, .inr (1, [.null, .int 0, .int 0]))]) (c_Big_init_28 l D a q10 H.size) gc_6 gi_Big_init [8] rfl rfl rfl rfl rfl ⟨(Nat.le_of_ble_eq_true rfl), (Nat.le_of_ble_eq_true rfl)⟩ rfl (Nat.le_of_ble_eq_true rfl) d_Sums_init_80 ⟨(show 3 + 6 * i + 1 + 1 + 1 + 1 + 1 + 1 ≤ 83 from by omega), (show 39 + 93 * i + 3 + 28 + 3 + 28 + 3 + 28 ≤ 1307 from by omega)⟩) (fun u H locs hu w => ?_)
        obtain ⟨q11, rfl⟩ := hu
        have w : kW D A s [(h0, .inr (10, [.ref q1, .ref q2, .ref q3, .null])), (q1, .inl (a 4, 13, .inr (.inr (.inr (.inr (va_up f0 i (some q6))))))), (q2, .inl (a 4, 13, .inr (.inr (.inr (.inr (va_up f1 i (some q8))))))), (q3, .inl (a 4, 13, .inr (.inr (.inr (.inr f2))))), (q6, .inr (1, [.ref q7, .int 0, .int 0])), (q7, .inl (a 0, 28, .inl (fun _ => 0))), (q8, .inr (1, [.ref q9, .int 0, .int 0])), (q9, .inl (a 0, 28, .inl (fun _ => 0))), (q10, .inr (1, [.ref q11, .int 0, .int 0])), (q11, .inl (a 0, 28, .inl (fun _ => 0)))] H locs := w
        refine kx_aast E w 3 4 8 1 rfl rfl rfl rfl (vp_in_nI (by omega) (by omega)) i (nI_clamp (by omega)) d_Sums_init_83 (ws' := [(h0, .inr (10, [.ref q1, .ref q2, .ref q3, .null])), (q1, .inl (a 4, 13, .inr (.inr (.inr (.inr (va_up f0 i (some q6))))))), (q2, .inl (a 4, 13, .inr (.inr (.inr (.inr (va_up f1 i (some q8))))))), (q3, .inl (a 4, 13, .inr (.inr (.inr (.inr (va_up f2 i (some q10))))))), (q6, .inr (1, [.ref q7, .int 0, .int 0])), (q7, .inl (a 0, 28, .inl (fun _ => 0))), (q8, .inr (1, [.ref q9, .int 0, .int 0])), (q9, .inl (a 0, 28, .inl (fun _ => 0))), (q10, .inr (1, [.ref q11, .int 0, .int 0])), (q11, .inl (a 0, 28, .inl (fun _ => 0)))]) rfl (fun H locs w => ?_)
        refine lv_iinc (v := (nI (i + 1))) (lv' := [(1, .int (nI (i + 1))), (0, .ref h0)]) hx hb d_Sums_init_84 hl (k := 1) rfl (kx_inc i) (by decide) rfl (fun ls hl => ?_)
        refine lv_goto (tgt := 33) hx hb d_Sums_init_87 (by decide) ?_
        have w := kW_sub w (ws' := [(h0, .inr (10, [.ref q1, .ref q2, .ref q3, .null])), (q1, .inl (a 4, 13, .inr (.inr (.inr (.inr (va_up f0 i (some q6))))))), (q2, .inl (a 4, 13, .inr (.inr (.inr (.inr (va_up f1 i (some q8))))))), (q3, .inl (a 4, 13, .inr (.inr (.inr (.inr (va_up f2 i (some q10)))))))]) [0, 1, 2, 3] rfl rfl
        refine W.widen (k := 3 + 6 * (i + 1)) (n := 39 + 93 * (i + 1)) (by omega) (by omega) ?_
        exact ih (i + 1) (by omega) _ _ _ _ _ _ w (lv_sub hl [1, 0] rfl)
    exact loop 13 0 (by omega) _ _ _ _ _ _ w (lv_sub hl [1, 0] rfl))
set_option maxRecDepth 100000 in
set_option maxHeartbeats 4000000 in
theorem c_Isolator_init (l : Launch) (D : va_G) (a : Nat → ClassId) (h0 : Nat) : ∀ sz : Nat, Met l y_Isolator_init (Cond.code y_Isolator_init b_Isolator_init 2 none :: wA) ({ frames := 2, cells := 83, slots := 2831, locals := 41 } : Room) (va_Pc [.ref h0] (kP D a [(h0, .inr (6, [.null, .null, .null, .null, .null, .null, .int 0, .int 0, .int 0, .int 0, .int 0]))] sz)) (va_Qv (fun u : va_W => ∃ q1 : Nat, ∃ q2 : Nat, ∃ q3 : Nat, ∃ q5 : Nat, ∃ q6 : Nat, ∃ q7 : Nat, u = [(h0, .inr (6, [.ref q1, .ref q2, .ref q3, .ref q5, .ref q6, .ref q7, .int 0, .int 0, .int 0, .int 0, .int 0]))]) (kB D a (va_A [(h0, .inr (6, [.null, .null, .null, .null, .null, .null, .int 0, .int 0, .int 0, .int 0, .int 0]))] sz)) (va_A [(h0, .inr (6, [.null, .null, .null, .null, .null, .null, .int 0, .int 0, .int 0, .int 0, .int 0]))] sz)) 83 2831 (va_A [(h0, .inr (6, [.null, .null, .null, .null, .null, .null, .int 0, .int 0, .int 0, .int 0, .int 0]))] sz) :=
  kM (Qc := fun A => va_Qv (fun u : va_W => ∃ q1 : Nat, ∃ q2 : Nat, ∃ q3 : Nat, ∃ q5 : Nat, ∃ q6 : Nat, ∃ q7 : Nat, u = [(h0, .inr (6, [.ref q1, .ref q2, .ref q3, .ref q5, .ref q6, .ref q7, .int 0, .int 0, .int 0, .int 0, .int 0]))]) (kB D a A) A) (by decide) (Nat.le_of_ble_eq_true rfl) (by
    intro p e s m below meth c A ls H locs E hr hlk hnm w hl
    have hx := E.1.1
    have hb := E.1.2.1
    have E : kE p m c b_Isolator_init 2 s [.ref h0].toArray "RootAlgebra$Isolator" D a A := E
    have hl : lv_has ls 2 [(0, .ref h0)] := hl
    have hnm : meth.name = "<init>" := hnm
    refine lv_aload_n hx hb d_Isolator_init_0 rfl (lv_at hl 0 rfl) ?_
    refine kx_obj E hl.1 mw_72 mw_1 mw_2 d_Isolator_init_1 (Nat.le_of_ble_eq_true rfl) (Nat.le_of_ble_eq_true rfl) (Nat.le_of_ble_eq_true rfl) ?_
    refine lv_aload_n hx hb d_Isolator_init_4 rfl (lv_at hl 0 rfl) ?_
    refine lv_bipush (v := 13) hx hb d_Isolator_init_5 (by decide) ?_
    refine kx_newq E w mw_73 E.2.1.2.1 4 rfl (N' := 13) (by decide) (by decide) (by decide) (Nat.le_of_ble_eq_true rfl) (Nat.le_of_ble_eq_true rfl) d_Isolator_init_7 (fun q1 H w => ?_)
    have w : kW D A s [(h0, .inr (6, [.null, .null, .null, .null, .null, .null, .int 0, .int 0, .int 0, .int 0, .int 0])), (q1, .inl (a 4, 13, .inr (.inr (.inr (.inr (fun _ => none))))))] H locs := w
    refine kx_putF E w zC_Isolator hnm 0 rfl 0 (by decide) mw_74 rfl rfl rfl rfl (Nat.le_of_ble_eq_true rfl) d_Isolator_init_10 (ws' := [(h0, .inr (6, [.ref q1, .null, .null, .null, .null, .null, .int 0, .int 0, .int 0, .int 0, .int 0])), (q1, .inl (a 4, 13, .inr (.inr (.inr (.inr (fun _ => none))))))]) rfl (fun H locs w => ?_)
    refine lv_aload_n hx hb d_Isolator_init_13 rfl (lv_at hl 0 rfl) ?_
    refine lv_bipush (v := 13) hx hb d_Isolator_init_14 (by decide) ?_
    refine kx_newq E w mw_73 E.2.1.2.1 4 rfl (N' := 13) (by decide) (by decide) (by decide) (Nat.le_of_ble_eq_true rfl) (Nat.le_of_ble_eq_true rfl) d_Isolator_init_16 (fun q2 H w => ?_)
    have w : kW D A s [(h0, .inr (6, [.ref q1, .null, .null, .null, .null, .null, .int 0, .int 0, .int 0, .int 0, .int 0])), (q1, .inl (a 4, 13, .inr (.inr (.inr (.inr (fun _ => none)))))), (q2, .inl (a 4, 13, .inr (.inr (.inr (.inr (fun _ => none))))))] H locs := w
    refine kx_putF E w zC_Isolator hnm 0 rfl 1 (by decide) mw_75 rfl rfl rfl rfl (Nat.le_of_ble_eq_true rfl) d_Isolator_init_19 (ws' := [(h0, .inr (6, [.ref q1, .ref q2, .null, .null, .null, .null, .int 0, .int 0, .int 0, .int 0, .int 0])), (q1, .inl (a 4, 13, .inr (.inr (.inr (.inr (fun _ => none)))))), (q2, .inl (a 4, 13, .inr (.inr (.inr (.inr (fun _ => none))))))]) rfl (fun H locs w => ?_)
    refine lv_iconst (v := 0) hx hb d_Isolator_init_22 (by decide) ?_
    refine lv_istore_n (lv' := [(1, .int 0), (0, .ref h0)]) hx hb d_Isolator_init_23 rfl hl (by decide) rfl (fun ls hl => ?_)
    refine W.widen (k := 2 + 4 * 0) (n := 26 + 198 * 0) (Nat.le_of_ble_eq_true rfl) (Nat.le_of_ble_eq_true rfl) ?_
    have loop : ∀ (n i : Nat), i + n = 13 → ∀ (f0 : Nat → Option Nat) (f1 : Nat → Option Nat) (H : Heap) (locs : List Loc) (ls : Array Slot), kW D A s [(h0, .inr (6, [.ref q1, .ref q2, .null, .null, .null, .null, .int 0, .int 0, .int 0, .int 0, .int 0])), (q1, .inl (a 4, 13, .inr (.inr (.inr (.inr f0))))), (q2, .inl (a 4, 13, .inr (.inr (.inr (.inr f1)))))] H locs → lv_has ls 2 [(0, .ref h0), (1, .int (nI i))] → W p l e ({ frames := 2, cells := 83, slots := 2831, locals := 41 } : Room) s m [.ref h0].toArray below meth c H locs (2 + 4 * i) (26 + 198 * i) (MQ below (va_Qv (fun u : va_W => ∃ q1 : Nat, ∃ q2 : Nat, ∃ q3 : Nat, ∃ q5 : Nat, ∃ q6 : Nat, ∃ q7 : Nat, u = [(h0, .inr (6, [.ref q1, .ref q2, .ref q3, .ref q5, .ref q6, .ref q7, .int 0, .int 0, .int 0, .int 0, .int 0]))]) (kB D a A) A) [.ref h0].toArray s 83 2831 A) (F0 m 24 ls [])  := by
      intro n
      induction n with
      | zero =>
        intro i hi f0 f1 H locs ls w hl
        obtain rfl : i = 13 := by omega
        have hl : lv_has ls 2 [(0, .ref h0), (1, .int 13)] := hl
        have w := kW_sub w (ws' := [(h0, .inr (6, [.ref q1, .ref q2, .null, .null, .null, .null, .int 0, .int 0, .int 0, .int 0, .int 0]))]) [0] rfl rfl
        refine lv_iload_n hx hb d_Isolator_init_24 rfl (lv_at hl 1 rfl) ?_
        refine lv_bipush (v := 12) hx hb d_Isolator_init_25 (by decide) ?_
        refine lv_icmp_gt (tgt := 66) hx hb d_Isolator_init_27 (by decide) (fun _ => ?_) (fun h => absurd (by decide) h)
        refine lv_aload_n hx hb d_Isolator_init_66 rfl (lv_at hl 0 rfl) ?_
        refine kx_new E w zC_Big mw_73 mw_8 mw_9 (fs := [.null, .int 0, .int 0]) z0_Big (Nat.le_of_ble_eq_true rfl) (Nat.le_of_ble_eq_true rfl) d_Isolator_init_67 (fun q3 H w => ?_)
        have w : kW D A s [(h0, .inr (6, [.ref q1, .ref q2, .null, .null, .null, .null, .int 0, .int 0, .int 0, .int 0, .int 0])), (q3, .inr (1, [.null, .int 0, .int 0]))] H locs := w
        refine lv_dup hx hb d_Isolator_init_70 rfl ?_
        refine lv_bipush (v := 12) hx hb d_Isolator_init_71 (by decide) ?_
        refine kx_v E w (wc := [(q3, .inr (1, [.null, .int 0, .int 0]))]) (wr := [(h0, .inr (6, [.ref q1, .ref q2, .null, .null, .null, .null, .int 0, .int 0, .int 0, .int 0, .int 0]))]) [1] [0] rfl rfl ⟨rfl, rfl, by decide⟩ (kx_rI E w hl.1 (As := [.int 12]) (wc := [(q3, .inr (1, [.null, .int 0, .int 0]))]) (c_Big_init_12 l D a q3 H.size) gc_7 gi_Big_init [1] rfl rfl rfl rfl rfl ⟨(Nat.le_of_ble_eq_true rfl), (Nat.le_of_ble_eq_true rfl)⟩ rfl (Nat.le_of_ble_eq_true rfl) d_Isolator_init_73 ⟨(Nat.le_of_ble_eq_true rfl), (Nat.le_of_ble_eq_true rfl)⟩) (fun u H locs hu w => ?_)
        obtain ⟨q4, rfl⟩ := hu
        have w : kW D A s [(h0, .inr (6, [.ref q1, .ref q2, .null, .null, .null, .null, .int 0, .int 0, .int 0, .int 0, .int 0])), (q3, .inr (1, [.ref q4, .int 0, .int 0])), (q4, .inl (a 0, 12, .inl (fun _ => 0)))] H locs := w
        refine kx_putF E w zC_Isolator hnm 0 rfl 2 (by decide) mw_77 rfl rfl rfl rfl (Nat.le_of_ble_eq_true rfl) d_Isolator_init_76 (ws' := [(h0, .inr (6, [.ref q1, .ref q2, .ref q3, .null, .null, .null, .int 0, .int 0, .int 0, .int 0, .int 0])), (q3, .inr (1, [.ref q4, .int 0, .int 0])), (q4, .inl (a 0, 12, .inl (fun _ => 0)))]) rfl (fun H locs w => ?_)
        refine lv_aload_n hx hb d_Isolator_init_79 rfl (lv_at hl 0 rfl) ?_
        refine lv_bipush (v := 12) hx hb d_Isolator_init_80 (by decide) ?_
        refine kx_newq E w mw_73 E.2.1.2.1 4 rfl (N' := 12) (by decide) (by decide) (by decide) (Nat.le_of_ble_eq_true rfl) (Nat.le_of_ble_eq_true rfl) d_Isolator_init_82 (fun q5 H w => ?_)
        have w : kW D A s [(h0, .inr (6, [.ref q1, .ref q2, .ref q3, .null, .null, .null, .int 0, .int 0, .int 0, .int 0, .int 0])), (q3, .inr (1, [.ref q4, .int 0, .int 0])), (q4, .inl (a 0, 12, .inl (fun _ => 0))), (q5, .inl (a 4, 12, .inr (.inr (.inr (.inr (fun _ => none))))))] H locs := w
        refine kx_putF E w zC_Isolator hnm 0 rfl 3 (by decide) mw_78 rfl rfl rfl rfl (Nat.le_of_ble_eq_true rfl) d_Isolator_init_85 (ws' := [(h0, .inr (6, [.ref q1, .ref q2, .ref q3, .ref q5, .null, .null, .int 0, .int 0, .int 0, .int 0, .int 0])), (q3, .inr (1, [.ref q4, .int 0, .int 0])), (q4, .inl (a 0, 12, .inl (fun _ => 0))), (q5, .inl (a 4, 12, .inr (.inr (.inr (.inr (fun _ => none))))))]) rfl (fun H locs w => ?_)
        refine lv_iconst (v := 0) hx hb d_Isolator_init_88 (by decide) ?_
        refine lv_istore_n (lv' := [(1, .int 0), (0, .ref h0)]) hx hb d_Isolator_init_89 rfl hl (by decide) rfl (fun ls hl => ?_)
        have w := kW_sub w (ws' := [(h0, .inr (6, [.ref q1, .ref q2, .ref q3, .ref q5, .null, .null, .int 0, .int 0, .int 0, .int 0, .int 0])), (q5, .inl (a 4, 12, .inr (.inr (.inr (.inr (fun _ => none))))))]) [0, 3] rfl rfl
        refine W.widen (k := 57 + 2 * 0) (n := 2627 + 15 * 0) (Nat.le_of_ble_eq_true rfl) (Nat.le_of_ble_eq_true rfl) ?_
        have loop : ∀ (n i : Nat), i + n = 12 → ∀ (f9 : Nat → Option Nat) (H : Heap) (locs : List Loc) (ls : Array Slot), kW D A s [(h0, .inr (6, [.ref q1, .ref q2, .ref q3, .ref q5, .null, .null, .int 0, .int 0, .int 0, .int 0, .int 0])), (q5, .inl (a 4, 12, .inr (.inr (.inr (.inr f9)))))] H locs → lv_has ls 2 [(0, .ref h0), (1, .int (nI i))] → W p l e ({ frames := 2, cells := 83, slots := 2831, locals := 41 } : Room) s m [.ref h0].toArray below meth c H locs (57 + 2 * i) (2627 + 15 * i) (MQ below (va_Qv (fun u : va_W => ∃ q1 : Nat, ∃ q2 : Nat, ∃ q3 : Nat, ∃ q5 : Nat, ∃ q6 : Nat, ∃ q7 : Nat, u = [(h0, .inr (6, [.ref q1, .ref q2, .ref q3, .ref q5, .ref q6, .ref q7, .int 0, .int 0, .int 0, .int 0, .int 0]))]) (kB D a A) A) [.ref h0].toArray s 83 2831 A) (F0 m 90 ls [])  := by
          intro n
          induction n with
          | zero =>
            intro i hi f9 H locs ls w hl
            obtain rfl : i = 12 := by omega
            have hl : lv_has ls 2 [(0, .ref h0), (1, .int 12)] := hl
            refine lv_iload_n hx hb d_Isolator_init_90 rfl (lv_at hl 1 rfl) ?_
            refine lv_bipush (v := 12) hx hb d_Isolator_init_91 (by decide) ?_
            refine lv_icmp_ge (tgt := 117) hx hb d_Isolator_init_93 (by decide) (fun _ => ?_) (fun h => absurd (by decide) h)
            refine lv_aload_n hx hb d_Isolator_init_117 rfl (lv_at hl 0 rfl) ?_
            refine lv_bipush (v := 12) hx hb d_Isolator_init_118 (by decide) ?_
            refine kx_newa0 (atype := .int) E w rfl mw_3 (N' := 12) (a0 := (12, .inl (fun _ => 0))) (fun _ => rfl) (by decide) (by decide) (by decide) (Nat.le_of_ble_eq_true rfl) (Nat.le_of_ble_eq_true rfl) d_Isolator_init_120 (fun q6 H w => ?_)
            refine kx_putF E w zC_Isolator hnm 0 rfl 4 (by decide) mw_79 rfl rfl rfl rfl (Nat.le_of_ble_eq_true rfl) d_Isolator_init_122 (ws' := [(h0, .inr (6, [.ref q1, .ref q2, .ref q3, .ref q5, .ref q6, .null, .int 0, .int 0, .int 0, .int 0, .int 0])), (q5, .inl (a 4, 12, .inr (.inr (.inr (.inr f9)))))]) rfl (fun H locs w => ?_)
            refine lv_aload_n hx hb d_Isolator_init_125 rfl (lv_at hl 0 rfl) ?_
            refine lv_bipush (v := 12) hx hb d_Isolator_init_126 (by decide) ?_
            refine kx_newa0 (atype := .boolean) E w rfl mw_80 (N' := 12) (a0 := (12, .inl (fun _ => 0))) (fun _ => rfl) (by decide) (by decide) (by decide) (Nat.le_of_ble_eq_true rfl) (Nat.le_of_ble_eq_true rfl) d_Isolator_init_128 (fun q7 H w => ?_)
            refine kx_putF E w zC_Isolator hnm 0 rfl 5 (by decide) mw_81 rfl rfl rfl rfl (Nat.le_of_ble_eq_true rfl) d_Isolator_init_130 (ws' := [(h0, .inr (6, [.ref q1, .ref q2, .ref q3, .ref q5, .ref q6, .ref q7, .int 0, .int 0, .int 0, .int 0, .int 0])), (q5, .inl (a 4, 12, .inr (.inr (.inr (.inr f9)))))]) rfl (fun H locs w => ?_)
            have w := kW_sub w (ws' := [(h0, .inr (6, [.ref q1, .ref q2, .ref q3, .ref q5, .ref q6, .ref q7, .int 0, .int 0, .int 0, .int 0, .int 0]))]) [0] rfl rfl
            refine W.widen (k := 83) (n := 2831) (Nat.le_of_ble_eq_true rfl) (Nat.le_of_ble_eq_true rfl) ?_
            exact kx_vret E w hr hlk d_Isolator_init_133 ⟨q1, q2, q3, q5, q6, q7, rfl⟩
          | succ n ih =>
            intro i hi f9 H locs ls w hl
            refine lv_iload_n hx hb d_Isolator_init_90 rfl (lv_at hl 1 rfl) ?_
            refine lv_bipush (v := 12) hx hb d_Isolator_init_91 (by decide) ?_
            refine lv_icmp_ge (tgt := 117) hx hb d_Isolator_init_93 (by decide) (fun h => absurd h (nI_ge (a := i) (b := 12) (by omega) (by omega))) (fun _ => ?_)
            refine lv_aload_n hx hb d_Isolator_init_96 rfl (lv_at hl 0 rfl) ?_
            refine kx_get E w zC_Isolator 0 rfl 3 (by decide) mw_78 rfl d_Isolator_init_97 ?_
            refine lv_iload_n hx hb d_Isolator_init_100 rfl (lv_at hl 1 rfl) ?_
            refine kx_new E w zC_Big mw_73 mw_8 mw_9 (fs := [.null, .int 0, .int 0]) z0_Big (show 57 + 2 * i + 1 ≤ 83 from by omega) (show 2627 + 15 * i + 3 ≤ 2831 from by omega) d_Isolator_init_101 (fun q8 H w => ?_)
            have w : kW D A s [(h0, .inr (6, [.ref q1, .ref q2, .ref q3, .ref q5, .null, .null, .int 0, .int 0, .int 0, .int 0, .int 0])), (q5, .inl (a 4, 12, .inr (.inr (.inr (.inr f9))))), (q8, .inr (1, [.null, .int 0, .int 0]))] H locs := w
            refine lv_dup hx hb d_Isolator_init_104 rfl ?_
            refine lv_bipush (v := 12) hx hb d_Isolator_init_105 (by decide) ?_
            refine kx_v E w (wc := [(q8, .inr (1, [.null, .int 0, .int 0]))]) (wr := [(h0, .inr (6, [.ref q1, .ref q2, .ref q3, .ref q5, .null, .null, .int 0, .int 0, .int 0, .int 0, .int 0])), (q5, .inl (a 4, 12, .inr (.inr (.inr (.inr f9)))))]) [2] [0, 1] rfl rfl ⟨rfl, rfl, by decide⟩ (kx_rI E w hl.1 (As := [.int 12]) (wc := [(q8, .inr (1, [.null, .int 0, .int 0]))]) (c_Big_init_12 l D a q8 H.size) gc_7 gi_Big_init [2] rfl rfl rfl rfl rfl ⟨(Nat.le_of_ble_eq_true rfl), (Nat.le_of_ble_eq_true rfl)⟩ rfl (Nat.le_of_ble_eq_true rfl) d_Isolator_init_107 ⟨(show 57 + 2 * i + 1 + 1 ≤ 83 from by omega), (show 2627 + 15 * i + 3 + 12 ≤ 2831 from by omega)⟩) (fun u H locs hu w => ?_)
            obtain ⟨q9, rfl⟩ := hu
            have w : kW D A s [(h0, .inr (6, [.ref q1, .ref q2, .ref q3, .ref q5, .null, .null, .int 0, .int 0, .int 0, .int 0, .int 0])), (q5, .inl (a 4, 12, .inr (.inr (.inr (.inr f9))))), (q8, .inr (1, [.ref q9, .int 0, .int 0])), (q9, .inl (a 0, 12, .inl (fun _ => 0)))] H locs := w
            refine kx_aast E w 1 4 2 1 rfl rfl rfl rfl (vp_in_nI (by omega) (by omega)) i (nI_clamp (by omega)) d_Isolator_init_110 (ws' := [(h0, .inr (6, [.ref q1, .ref q2, .ref q3, .ref q5, .null, .null, .int 0, .int 0, .int 0, .int 0, .int 0])), (q5, .inl (a 4, 12, .inr (.inr (.inr (.inr (va_up f9 i (some q8))))))), (q8, .inr (1, [.ref q9, .int 0, .int 0])), (q9, .inl (a 0, 12, .inl (fun _ => 0)))]) rfl (fun H locs w => ?_)
            refine lv_iinc (v := (nI (i + 1))) (lv' := [(1, .int (nI (i + 1))), (0, .ref h0)]) hx hb d_Isolator_init_111 hl (k := 1) rfl (kx_inc i) (by decide) rfl (fun ls hl => ?_)
            refine lv_goto (tgt := 90) hx hb d_Isolator_init_114 (by decide) ?_
            have w := kW_sub w (ws' := [(h0, .inr (6, [.ref q1, .ref q2, .ref q3, .ref q5, .null, .null, .int 0, .int 0, .int 0, .int 0, .int 0])), (q5, .inl (a 4, 12, .inr (.inr (.inr (.inr (va_up f9 i (some q8)))))))]) [0, 1] rfl rfl
            refine W.widen (k := 57 + 2 * (i + 1)) (n := 2627 + 15 * (i + 1)) (by omega) (by omega) ?_
            exact ih (i + 1) (by omega) _ _ _ _ w (lv_sub hl [1, 0] rfl)
        exact loop 12 0 (by omega) _ _ _ _ w (lv_sub hl [1, 0] rfl)
      | succ n ih =>
        intro i hi f0 f1 H locs ls w hl
        refine lv_iload_n hx hb d_Isolator_init_24 rfl (lv_at hl 1 rfl) ?_
        refine lv_bipush (v := 12) hx hb d_Isolator_init_25 (by decide) ?_
        refine lv_icmp_gt (tgt := 66) hx hb d_Isolator_init_27 (by decide) (fun h => absurd h (nI_nlt (a := 12) (b := i) (by omega) (by omega))) (fun _ => ?_)
        refine lv_aload_n hx hb d_Isolator_init_30 rfl (lv_at hl 0 rfl) ?_
        refine kx_get E w zC_Isolator 0 rfl 0 (by decide) mw_74 rfl d_Isolator_init_31 ?_
        refine lv_iload_n hx hb d_Isolator_init_34 rfl (lv_at hl 1 rfl) ?_
        refine kx_new E w zC_Big mw_73 mw_8 mw_9 (fs := [.null, .int 0, .int 0]) z0_Big (show 2 + 4 * i + 1 ≤ 83 from by omega) (show 26 + 198 * i + 3 ≤ 2831 from by omega) d_Isolator_init_35 (fun q10 H w => ?_)
        have w : kW D A s [(h0, .inr (6, [.ref q1, .ref q2, .null, .null, .null, .null, .int 0, .int 0, .int 0, .int 0, .int 0])), (q1, .inl (a 4, 13, .inr (.inr (.inr (.inr f0))))), (q2, .inl (a 4, 13, .inr (.inr (.inr (.inr f1))))), (q10, .inr (1, [.null, .int 0, .int 0]))] H locs := w
        refine lv_dup hx hb d_Isolator_init_38 rfl ?_
        refine lv_bipush (v := 96) hx hb d_Isolator_init_39 (by decide) ?_
        refine kx_v E w (wc := [(q10, .inr (1, [.null, .int 0, .int 0]))]) (wr := [(h0, .inr (6, [.ref q1, .ref q2, .null, .null, .null, .null, .int 0, .int 0, .int 0, .int 0, .int 0])), (q1, .inl (a 4, 13, .inr (.inr (.inr (.inr f0))))), (q2, .inl (a 4, 13, .inr (.inr (.inr (.inr f1)))))]) [3] [0, 1, 2] rfl rfl ⟨rfl, rfl, by decide⟩ (kx_rI E w hl.1 (As := [.int 96]) (wc := [(q10, .inr (1, [.null, .int 0, .int 0]))]) (c_Big_init_96 l D a q10 H.size) gc_7 gi_Big_init [3] rfl rfl rfl rfl rfl ⟨(Nat.le_of_ble_eq_true rfl), (Nat.le_of_ble_eq_true rfl)⟩ rfl (Nat.le_of_ble_eq_true rfl) d_Isolator_init_41 ⟨(show 2 + 4 * i + 1 + 1 ≤ 83 from by omega), (show 26 + 198 * i + 3 + 96 ≤ 2831 from by omega)⟩) (fun u H locs hu w => ?_)
        obtain ⟨q11, rfl⟩ := hu
        have w : kW D A s [(h0, .inr (6, [.ref q1, .ref q2, .null, .null, .null, .null, .int 0, .int 0, .int 0, .int 0, .int 0])), (q1, .inl (a 4, 13, .inr (.inr (.inr (.inr f0))))), (q2, .inl (a 4, 13, .inr (.inr (.inr (.inr f1))))), (q10, .inr (1, [.ref q11, .int 0, .int 0])), (q11, .inl (a 0, 96, .inl (fun _ => 0)))] H locs := w
        refine kx_aast E w 1 4 3 1 rfl rfl rfl rfl (vp_in_nI (by omega) (by omega)) i (nI_clamp (by omega)) d_Isolator_init_44 (ws' := [(h0, .inr (6, [.ref q1, .ref q2, .null, .null, .null, .null, .int 0, .int 0, .int 0, .int 0, .int 0])), (q1, .inl (a 4, 13, .inr (.inr (.inr (.inr (va_up f0 i (some q10))))))), (q2, .inl (a 4, 13, .inr (.inr (.inr (.inr f1))))), (q10, .inr (1, [.ref q11, .int 0, .int 0])), (q11, .inl (a 0, 96, .inl (fun _ => 0)))]) rfl (fun H locs w => ?_)
        refine lv_aload_n hx hb d_Isolator_init_45 rfl (lv_at hl 0 rfl) ?_
        refine kx_get E w zC_Isolator 0 rfl 1 (by decide) mw_75 rfl d_Isolator_init_46 ?_
        refine lv_iload_n hx hb d_Isolator_init_49 rfl (lv_at hl 1 rfl) ?_
        refine kx_new E w zC_Big mw_73 mw_8 mw_9 (fs := [.null, .int 0, .int 0]) z0_Big (show 2 + 4 * i + 1 + 1 + 1 ≤ 83 from by omega) (show 26 + 198 * i + 3 + 96 + 3 ≤ 2831 from by omega) d_Isolator_init_50 (fun q12 H w => ?_)
        have w : kW D A s [(h0, .inr (6, [.ref q1, .ref q2, .null, .null, .null, .null, .int 0, .int 0, .int 0, .int 0, .int 0])), (q1, .inl (a 4, 13, .inr (.inr (.inr (.inr (va_up f0 i (some q10))))))), (q2, .inl (a 4, 13, .inr (.inr (.inr (.inr f1))))), (q10, .inr (1, [.ref q11, .int 0, .int 0])), (q11, .inl (a 0, 96, .inl (fun _ => 0))), (q12, .inr (1, [.null, .int 0, .int 0]))] H locs := w
        refine lv_dup hx hb d_Isolator_init_53 rfl ?_
        refine lv_bipush (v := 96) hx hb d_Isolator_init_54 (by decide) ?_
        refine kx_v E w (wc := [(q12, .inr (1, [.null, .int 0, .int 0]))]) (wr := [(h0, .inr (6, [.ref q1, .ref q2, .null, .null, .null, .null, .int 0, .int 0, .int 0, .int 0, .int 0])), (q1, .inl (a 4, 13, .inr (.inr (.inr (.inr (va_up f0 i (some q10))))))), (q2, .inl (a 4, 13, .inr (.inr (.inr (.inr f1))))), (q10, .inr (1, [.ref q11, .int 0, .int 0])), (q11, .inl (a 0, 96, .inl (fun _ => 0)))]) [5] [0, 1, 2, 3, 4] rfl rfl ⟨rfl, rfl, by decide⟩ (kx_rI E w hl.1 (As := [.int 96]) (wc := [(q12, .inr (1, [.null, .int 0, .int 0]))]) (c_Big_init_96 l D a q12 H.size) gc_7 gi_Big_init [5] rfl rfl rfl rfl rfl ⟨(Nat.le_of_ble_eq_true rfl), (Nat.le_of_ble_eq_true rfl)⟩ rfl (Nat.le_of_ble_eq_true rfl) d_Isolator_init_56 ⟨(show 2 + 4 * i + 1 + 1 + 1 + 1 ≤ 83 from by omega), (show 26 + 198 * i + 3 + 96 + 3 + 96 ≤ 2831 from by omega)⟩) (fun u H locs hu w => ?_)
        obtain ⟨q13, rfl⟩ := hu
        have w : kW D A s [(h0, .inr (6, [.ref q1, .ref q2, .null, .null, .null, .null, .int 0, .int 0, .int 0, .int 0, .int 0])), (q1, .inl (a 4, 13, .inr (.inr (.inr (.inr (va_up f0 i (some q10))))))), (q2, .inl (a 4, 13, .inr (.inr (.inr (.inr f1))))), (q10, .inr (1, [.ref q11, .int 0, .int 0])), (q11, .inl (a 0, 96, .inl (fun _ => 0))), (q12, .inr (1, [.ref q13, .int 0, .int 0])), (q13, .inl (a 0, 96, .inl (fun _ => 0)))] H locs := w
        refine kx_aast E w 2 4 5 1 rfl rfl rfl rfl (vp_in_nI (by omega) (by omega)) i (nI_clamp (by omega)) d_Isolator_init_59 (ws' := [(h0, .inr (6, [.ref q1, .ref q2, .null, .null, .null, .null, .int 0, .int 0, .int 0, .int 0, .int 0])), (q1, .inl (a 4, 13, .inr (.inr (.inr (.inr (va_up f0 i (some q10))))))), (q2, .inl (a 4, 13, .inr (.inr (.inr (.inr (va_up f1 i (some q12))))))), (q10, .inr (1, [.ref q11, .int 0, .int 0])), (q11, .inl (a 0, 96, .inl (fun _ => 0))), (q12, .inr (1, [.ref q13, .int 0, .int 0])), (q13, .inl (a 0, 96, .inl (fun _ => 0)))]) rfl (fun H locs w => ?_)
        refine lv_iinc (v := (nI (i + 1))) (lv' := [(1, .int (nI (i + 1))), (0, .ref h0)]) hx hb d_Isolator_init_60 hl (k := 1) rfl (kx_inc i) (by decide) rfl (fun ls hl => ?_)
        refine lv_goto (tgt := 24) hx hb d_Isolator_init_63 (by decide) ?_
        have w := kW_sub w (ws' := [(h0, .inr (6, [.ref q1, .ref q2, .null, .null, .null, .null, .int 0, .int 0, .int 0, .int 0, .int 0])), (q1, .inl (a 4, 13, .inr (.inr (.inr (.inr (va_up f0 i (some q10))))))), (q2, .inl (a 4, 13, .inr (.inr (.inr (.inr (va_up f1 i (some q12)))))))]) [0, 1, 2] rfl rfl
        refine W.widen (k := 2 + 4 * (i + 1)) (n := 26 + 198 * (i + 1)) (by omega) (by omega) ?_
        exact ih (i + 1) (by omega) _ _ _ _ _ w (lv_sub hl [1, 0] rfl)
    exact loop 13 0 (by omega) _ _ _ _ _ w (lv_sub hl [1, 0] rfl))
