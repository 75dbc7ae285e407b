/-! own rows: what holds at the law's entry, said over kE -/
theorem kJJ.of {args : Array Value} {s : State} (h : (Cond.arrayOver (.array .long)).before args s = true) : kJJ s := by
  simp only [Cond.before, Cond.holds, Cond.value, beq_iff_eq] at h
  obtain ⟨comp, h1, h⟩ := Option.bind_eq_some_iff.mp h
  obtain ⟨cA, h2, h⟩ := Option.bind_eq_some_iff.mp h
  obtain ⟨kA, h3, h⟩ := Option.map_eq_some_iff.mp h
  have hi := (Array.findIdx?_eq_some_iff_getElem.mp h2)
  obtain ⟨hlt, hp, -⟩ := hi
  have hk : s.vm.classes[cA] = kA := Option.some.inj ((Array.getElem?_eq_getElem hlt).symm.trans h3)
  rw [hk] at hp
  cases hkind : kA.kind with
  | array c1 ty =>
    rw [hkind] at hp h
    have e1 : c1 = comp := by simpa using hp
    simp only [Bool.and_eq_true, decide_eq_true_eq] at h
    exact ⟨comp, cA, kA, h1, h3, by rw [hkind, e1, h.1], h.2⟩
  | _ => rw [hkind] at hp; simp at hp
theorem kAr.of {args : Array Value} {s : State} {ty : FieldType} (h : (Cond.arrayClass ty).before args s = true) (ht : ∀ C : String, ty ≠ .object C) : ∃ cA : ClassId, ArrOfT s cA ty ∧ va_RA s cA ty := by
  obtain ⟨cA, kA, comp, h1, h2, h3⟩ := Cond.arrayClass_spec h
  refine ⟨cA, fun n z => ⟨fun k h => (by cases h), kA, h2, comp, h3⟩, ?_⟩
  cases ty with
  | object C => exact absurd rfl (ht C)
  | _ => exact h1
theorem kAo.of {args : Array Value} {s : State} {C : String} (h : (Cond.arrayOver (.object C)).before args s = true) : ∃ cA : ClassId, ArrOfT s cA (.object C) ∧ va_RA s cA (.object C) := by
  obtain ⟨comp, cA, kA, h1, -, h2, h3, h4⟩ := Cond.arrayOver_spec h
  exact ⟨cA, fun n z => ⟨fun k h => (by cases h), kA, h2, comp, h3⟩, kA, comp, h2, h3, h1, h4⟩
set_option maxRecDepth 100000 in
set_option maxHeartbeats 4000000 in
theorem lx_E {p : Program} {s : State} {m : MethodId} {meth : Method} {c : Code} {b L : Nat} {xs : Nat → Int32} (C0 : lw_At p s m meth c b L xs) : ∃ (D : va_G) (a : Nat → ClassId), kE p m c code 8 s #[Value.ref b] "RootAlgebraLaw" D a (fun q : Nat => s.heap.size ≤ q) := by
  obtain ⟨hx, hb, hr, hml, hown, hts, hX, hbl, hlocks, hgv⟩ := C0
  have hs := flat_of_before _ hgv
  have hA : ∀ q : Nat, q < s.heap.size → ¬ (fun q : Nat => s.heap.size ≤ q) q := fun q hq => Nat.not_le.mpr hq
  obtain ⟨c0, i0, k0⟩ := u_known hts zin_RA (hts (.instantiable "RootAlgebra" 11) (zt_1 _ (List.mem_of_getElem? (i := 24) rfl)))
  obtain ⟨c1, i1, k1⟩ := u_known hts zin_Big (hts (.instantiable "RootAlgebra$Big" 3) (zt_1 _ (List.mem_of_getElem? (i := 32) rfl)))
  obtain ⟨c2, i2, k2⟩ := u_known hts zin_Desk (hts (.instantiable "RootAlgebra$Desk" 12) (zt_1 _ (List.mem_of_getElem? (i := 151) rfl)))
  obtain ⟨c3, i3, k3⟩ := u_known hts zin_Factors (hts (.instantiable "RootAlgebra$Factors" 20) (zt_1 _ (List.mem_of_getElem? (i := 206) rfl)))
  obtain ⟨c4, i4, k4⟩ := u_known hts zin_Field (hts (.instantiable "RootAlgebra$Field" 7) (zt_1 _ (List.mem_of_getElem? (i := 212) rfl)))
  obtain ⟨c5, i5, k5⟩ := u_known hts zin_Gauge (hts (.instantiable "RootAlgebra$Gauge" 17) (zt_2 _ (List.mem_of_getElem? (i := 141) rfl)))
  obtain ⟨c6, i6, k6⟩ := u_known hts zin_Isolator (hts (.instantiable "RootAlgebra$Isolator" 11) (zt_2 _ (List.mem_of_getElem? (i := 87) rfl)))
  obtain ⟨c7, i7, k7⟩ := u_known hts zin_Padic (hts (.instantiable "RootAlgebra$Padic" 3) (zt_2 _ (List.mem_of_getElem? (i := 4) rfl)))
  obtain ⟨c8, i8, k8⟩ := u_known hts zin_Poly (hts (.instantiable "RootAlgebra$Poly" 2) (zt_1 _ (List.mem_of_getElem? (i := 159) rfl)))
  obtain ⟨c9, i9, k9⟩ := u_known hts zin_Reader (hts (.instantiable "RootAlgebra$Reader" 7) (zt_1 _ (List.mem_of_getElem? (i := 119) rfl)))
  obtain ⟨c10, i10, k10⟩ := u_known hts zin_Sums (hts (.instantiable "RootAlgebra$Sums" 4) (zt_1 _ (List.mem_of_getElem? (i := 185) rfl)))
  obtain ⟨c11, i11, k11⟩ := u_known hts zin_Value (hts (.instantiable "RootAlgebra$Value" 7) (zt_1 _ (List.mem_of_getElem? (i := 57) rfl)))
  obtain ⟨c12, i12, k12⟩ := u_known hts zin_Md (hts (.instantiable "RootAlgebraModel" 65) (zt_6 _ (List.mem_of_getElem? (i := 145) rfl)))
  obtain ⟨a0, x0, y0⟩ := kAr.of (hts (.arrayClass .int) (zt_1 _ (List.mem_of_getElem? (i := 54) rfl))) (fun C h => by cases h)
  obtain ⟨a1, x1, y1⟩ := kAr.of (hts (.arrayClass .long) (zt_2 _ (List.mem_of_getElem? (i := 2) rfl))) (fun C h => by cases h)
  obtain ⟨a2, x2, y2⟩ := kAr.of (hts (.arrayClass .byte) (zt_1 _ (List.mem_of_getElem? (i := 53) rfl))) (fun C h => by cases h)
  obtain ⟨a3, x3, y3⟩ := kAr.of (hts (.arrayClass .boolean) (zt_2 _ (List.mem_of_getElem? (i := 139) rfl))) (fun C h => by cases h)
  have o4 := hts (.arrayOver (.object "RootAlgebra$Big")) (zt_1 _ (List.mem_of_getElem? (i := 165) rfl))
  obtain ⟨a4, x4, y4⟩ := kAo.of o4
  have o5 := hts (.arrayOver (.object "RootAlgebra$Value")) (zt_1 _ (List.mem_of_getElem? (i := 56) rfl))
  obtain ⟨a5, x5, y5⟩ := kAo.of o5
  have hjj := kJJ.of (hts (.arrayOver (.array .long)) (zt_2 _ (List.mem_of_getElem? (i := 24) rfl)))
  have hhs : kHs s := ⟨va_Nw.of rfl (hts (.castable "java/lang/IllegalArgumentException" "java/lang/IllegalArgumentException") (zt_5 _ (List.mem_of_getElem? (i := 192) rfl))), va_Nw.of rfl (hts (.castable "java/lang/IllegalStateException" "java/lang/IllegalStateException") (zt_6 _ (List.mem_of_getElem? (i := 15) rfl))), va_Nw.of rfl (hts (.castable "java/util/NoSuchElementException" "java/util/NoSuchElementException") (zt_6 _ (List.mem_of_getElem? (i := 60) rfl))), va_Nc.of (hs (.not (.castable "java/lang/IllegalStateException" "java/lang/IllegalArgumentException")) (by decide +kernel)), va_Nc.of (hs (.not (.castable "java/util/NoSuchElementException" "java/lang/IllegalArgumentException")) (by decide +kernel)), va_Nw.of rfl (hts (.declares ⟨"java/lang/RuntimeException", "<init>", "()V"⟩) (zt_5 _ (List.mem_of_getElem? (i := 193) rfl))), va_Nw.of rfl (hts (.declares ⟨"java/lang/Exception", "<init>", "()V"⟩) (zt_5 _ (List.mem_of_getElem? (i := 195) rfl))), va_Nw.of rfl (hts (.declares ⟨"java/lang/Throwable", "<init>", "()V"⟩) (zt_5 _ (List.mem_of_getElem? (i := 197) rfl)))⟩
  have hz : kZ (fun q : Nat => s.heap.size ≤ q) s s.heap := ⟨zS.of (hts (.laysStatic "java/lang/Throwable" "UNASSIGNED_STACK" "[Ljava/lang/StackTraceElement;") (zt_5 _ (List.mem_of_getElem? (i := 217) rfl))) (hs (.isRef (.static "java/lang/Throwable" "UNASSIGNED_STACK" "[Ljava/lang/StackTraceElement;")) (by decide +kernel)) hA, zS.of (hts (.laysStatic "java/lang/Throwable" "SUPPRESSED_SENTINEL" "Ljava/util/List;") (zt_5 _ (List.mem_of_getElem? (i := 219) rfl))) (hs (.isRef (.static "java/lang/Throwable" "SUPPRESSED_SENTINEL" "Ljava/util/List;")) (by decide +kernel)) hA⟩
  refine ⟨(fun k => match k with | 0 => c0 | 1 => c1 | 2 => c2 | 3 => c3 | 4 => c4 | 5 => c5 | 6 => c6 | 7 => c7 | 8 => c8 | 9 => c9 | 10 => c10 | 11 => c11 | _ => c12, fun k => match k with | 0 => i0 | 1 => i1 | 2 => i2 | 3 => i3 | 4 => i4 | 5 => i5 | 6 => i6 | 7 => i7 | 8 => i8 | 9 => i9 | 10 => i10 | 11 => i11 | _ => i12), fun k => match k with | 0 => a0 | 1 => a1 | 2 => a2 | 3 => a3 | 4 => a4 | _ => a5, ⟨hx, hb, hml, hown, fun w hw => hts w (wA_sub w hw)⟩, ⟨⟨?_, ?_⟩, va_AO.of o4, va_AO.of o5, hjj, hhs⟩, fun _ h => h, hz⟩
  · intro k q hq
    match k, hq with
    | 0, hq => cases hq; exact k0
    | 1, hq => cases hq; exact k1
    | 2, hq => cases hq; exact k2
    | 3, hq => cases hq; exact k3
    | 4, hq => cases hq; exact k4
    | 5, hq => cases hq; exact k5
    | 6, hq => cases hq; exact k6
    | 7, hq => cases hq; exact k7
    | 8, hq => cases hq; exact k8
    | 9, hq => cases hq; exact k9
    | 10, hq => cases hq; exact k10
    | 11, hq => cases hq; exact k11
    | 12, hq => cases hq; exact k12
    | k + 13, hq => exact absurd hq (by simp [zCl])
  · intro k q hq
    match k, hq with
    | 0, hq => cases hq; exact ⟨x0, y0⟩
    | 1, hq => cases hq; exact ⟨x1, y1⟩
    | 2, hq => cases hq; exact ⟨x2, y2⟩
    | 3, hq => cases hq; exact ⟨x3, y3⟩
    | 4, hq => cases hq; exact ⟨x4, y4⟩
    | 5, hq => cases hq; exact ⟨x5, y5⟩
    | k + 6, hq => exact absurd hq (by simp [kT])
