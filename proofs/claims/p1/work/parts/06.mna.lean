/-! own rows: new long[n][k], whose rows nobody looks at here -/
def kzI (comp : ClassId) (K : Nat) : Cell := { cls := comp, slots := Array.replicate K (.long 0), vm := .none }
def kzF (s : State) (cA comp : ClassId) (N K : Nat) : Nat → State × Cell
  | 0 => (s.pushCell { cls := cA, slots := Array.replicate N .null, vm := .none }, { cls := cA, slots := Array.replicate N .null, vm := .none })
  | i + 1 => (((kzF s cA comp N K i).1.pushCell (kzI comp K)).setCell s.heap.size ((kzF s cA comp N K i).2.setSlot i (.ref (kzF s cA comp N K i).1.heap.size)), (kzF s cA comp N K i).2.setSlot i (.ref (kzF s cA comp N K i).1.heap.size))
theorem kzF_at (s : State) (cA comp : ClassId) (N K : Nat) : ∀ i : Nat, (kzF s cA comp N K i).1.heap.size = s.heap.size + 1 + i ∧ (kzF s cA comp N K i).1.heap[s.heap.size]? = some (kzF s cA comp N K i).2 ∧ (kzF s cA comp N K i).2.cls = cA ∧ (kzF s cA comp N K i).2.vm = .none ∧ (kzF s cA comp N K i).2.slots.size = N ∧ (kzF s cA comp N K i).1.vm = s.vm ∧ (kzF s cA comp N K i).1.slotsUsed = s.slotsUsed + N + i * K ∧ ∀ x : Nat, x < s.heap.size → (kzF s cA comp N K i).1.heap[x]? = s.heap[x]? := by
  intro i
  induction i with
  | zero =>
    refine ⟨by simp [kzF], by simp [kzF], rfl, rfl, by simp [kzF], rfl, by simp [kzF], fun x hx => ?_⟩
    exact State.heap_pushCell_of_lt _ _ hx
  | succ i ih =>
    obtain ⟨h1, h2, h3, h4, h5, h6, h7, h8⟩ := ih
    have hlt : s.heap.size < (kzF s cA comp N K i).1.heap.size := by omega
    have hb : ((kzF s cA comp N K i).1.pushCell (kzI comp K)).heap[s.heap.size]? = some (kzF s cA comp N K i).2 := by rw [State.heap_pushCell_of_lt (h := hlt)]; exact h2
    refine ⟨?_, State.heap_setCell_self hb, h3, h4, ?_, h6, ?_, fun x hx => ?_⟩
    · simp [kzF, State.setCell, h1]; omega
    · simp [kzF, Cell.setSlot, h5]
    · simp [kzF, h7, kzI, Nat.succ_mul]; omega
    · show (((kzF s cA comp N K i).1.pushCell (kzI comp K)).setCell s.heap.size _).heap[x]? = _
      rw [State.heap_setCell_other (Nat.ne_of_gt hx), State.heap_pushCell_of_lt (h := (by rw [h1]; omega : x < (kzF s cA comp N K i).1.heap.size))]
      exact h8 x hx
theorem kzF_top (s : State) (f : JFrame) (cA comp : ClassId) (N K : Nat) : ∀ i : Nat, (kzF (s.setTop f) cA comp N K i).1 = (kzF s cA comp N K i).1.setTop f ∧ (kzF (s.setTop f) cA comp N K i).2 = (kzF s cA comp N K i).2 := by
  intro i
  induction i with
  | zero => exact ⟨rfl, rfl⟩
  | succ i ih =>
    obtain ⟨h1, h2⟩ := ih
    constructor
    · simp only [kzF, h1, h2, State.heap_setTop, State.pushCell_setTop, State.setCell_setTop]
    · simp only [kzF, h1, h2, State.heap_setTop]
section KZ
variable {p : Program} {l : Launch} {e : Env} {R : Room} {s : State} {m : MethodId} {args : Array Value} {below : List Frame} {meth : Method} {c : Code} {T : State} {locs : List Loc} {cells slots : Nat}
theorem kzF_stand (X : Stand p l e R s m args below meth c T locs cells slots) (cA comp : ClassId) (N K : Nat) : ∀ i : Nat, ∃ L : List Loc, (∀ z ∈ L, z.base = T.heap.size) ∧ Stand p l e R s m args below meth c (kzF T cA comp N K i).1 (locs ++ L) (cells + 1 + i) (slots + N + i * K) := by
  intro i
  induction i with
  | zero =>
    have h := X.pushed ({ cls := cA, slots := Array.replicate N .null, vm := .none } : Cell)
    refine ⟨[], fun _ hz => (nomatch hz), ?_⟩
    simpa [kzF] using h
  | succ i ih =>
    obtain ⟨L, hL, Xi⟩ := ih
    obtain ⟨h1, h2, h3, h4, h5, h6, h7, h8⟩ := kzF_at T cA comp N K i
    have hlt : T.heap.size < (kzF T cA comp N K i).1.heap.size := by omega
    have hb : ((kzF T cA comp N K i).1.pushCell (kzI comp K)).heap[T.heap.size]? = some (kzF T cA comp N K i).2 := by rw [State.heap_pushCell_of_lt (h := hlt)]; exact h2
    have h := (Xi.pushed (kzI comp K)).stored hb i (.ref (kzF T cA comp N K i).1.heap.size)
    have e1 : (kzI comp K).slots.size = K := by simp [kzI]
    rw [e1] at h
    refine ⟨L ++ [⟨T.heap.size, i⟩], fun z hz => ?_, ?_⟩
    · rcases List.mem_append.mp hz with h9 | h9
      · exact hL z h9
      · rw [List.mem_singleton.mp h9]
    · have e3 : slots + N + (i + 1) * K = slots + N + i * K + K := by rw [Nat.succ_mul]; omega
      rw [← List.append_assoc, e3]
      exact h
end KZ
section KZW
variable {E : CtlPost} {e : Env} {d : Bool} {acts : List Action} {s : State}
/-- an array of default values, at the heap's end -/
theorem kz_array {cA comp : ClassId} {k : Class} {ty : FieldType} {n : Nat} {v : Value} (hk : s.vm.classes[cA]? = some k) (hkind : k.kind = .array comp ty) (h1 : ¬ n > e.platform.arrayLengthLimit) (h2 : ¬ n * componentBytes ty > e.platform.maxHeapBytes) (hf : fits ty v = true) (hd : v.isDefault = true) (h3 : s.heap.size < e.platform.maxCells) (h4 : s.slotsUsed + n ≤ e.platform.maxSlots)
    {Q : Addr → Pre} (hq : Q s.heap.size d acts (s.pushCell { cls := cA, slots := Array.replicate n v, vm := .none })) : wp (Jvm.newArray cA n v) Q E e d acts s := by
  have g1 : ∀ i x, (Array.replicate n v)[i]? = some x → s.fitsSlot cA .none i x = true := by
    intro i x hx
    rw [Array.getElem?_replicate] at hx
    split at hx
    · cases hx
      simp [State.fitsSlot, State.slotType?, hk, hkind, hf]
    · cases hx
  have g2 : allocActs (Array.replicate n v) s.heap.size acts = acts := by
    unfold allocActs
    rw [if_pos]
    rw [Array.all_replicate]
    split <;> simp [hd]
  simp only [Jvm.newArray, Jvm.arrayFits, wp_bind', W.ask, W.ite, h1, if_false, wp_pure', W.theClass, hk, hkind, h2, W.alloc, W.stop, Option.some.injEq, exists_eq_left', Array.size_replicate, g2]
  rw [if_neg (by omega)]
  exact ⟨h3, h4, g1, hq⟩
theorem kz_make {cA comp cc : ClassId} {k kc : Class} {n m : Int32} (hk : s.vm.classes[cA]? = some k) (hkind : k.kind = .array comp (.array .long)) (hkc : s.vm.classes[comp]? = some kc) (hkindc : kc.kind = .array cc .long) (hn : ¬ n < 0) (hm : ¬ m < 0)
    (l1 : ¬ n.toNatClampNeg > e.platform.arrayLengthLimit) (b1 : ¬ n.toNatClampNeg * componentBytes (.array .long) > e.platform.maxHeapBytes) (l2 : ¬ m.toNatClampNeg > e.platform.arrayLengthLimit) (b2 : ¬ m.toNatClampNeg * componentBytes .long > e.platform.maxHeapBytes)
    (hc : s.heap.size + 1 + n.toNatClampNeg ≤ e.platform.maxCells) (hs : s.slotsUsed + n.toNatClampNeg + n.toNatClampNeg * m.toNatClampNeg ≤ e.platform.maxSlots)
    {Q : Addr → Pre} (hq : ∀ d' acts', Q s.heap.size d' acts' (kzF s cA comp n.toNatClampNeg m.toNatClampNeg n.toNatClampNeg).1) : wp (multianewarray.make cA [n, m]) Q E e d acts s := by
  have hfind : ([m].find? (· < 0)) = none := by simp [hm]
  rw [multianewarray.make]
  simp only [wp_bind', W.ite, hn, if_false, wp_pure', W.theClass, hk, hkind, Option.some.injEq, exists_eq_left']
  refine kz_array hk hkind l1 b1 rfl rfl (by omega) (by have := Nat.zero_le (n.toNatClampNeg * m.toNatClampNeg); omega) ?_
  simp only [hfind]
  rw [ite_self, wp_bind', Std.Legacy.Range.forIn_eq_forIn_range']
  rw [show ([:n.toNatClampNeg] : Std.Legacy.Range).size = n.toNatClampNeg by simp [Std.Legacy.Range.size]]
  show wp (forIn (List.range' 0 n.toNatClampNeg 1) PUnit.unit _) _ E e d acts _
  refine wp_forIn_inv (fun rest s' => ∃ i, i ≤ n.toNatClampNeg ∧ rest = List.range' i (n.toNatClampNeg - i) ∧ s' = (kzF s cA comp n.toNatClampNeg m.toNatClampNeg i).1) _ _ ⟨0, Nat.zero_le _, rfl, rfl⟩ ?_ ?_
  · intro x rest s' d' acts' Q' hI hnext
    obtain ⟨i, hi, hl, rfl⟩ := hI
    have hlt : i < n.toNatClampNeg := by
      rcases Nat.lt_or_ge i n.toNatClampNeg with h | h
      · exact h
      · rw [show n.toNatClampNeg - i = 0 by omega] at hl
        cases hl
    rw [show n.toNatClampNeg - i = (n.toNatClampNeg - (i + 1)) + 1 by omega, List.range'_succ] at hl
    obtain ⟨rfl, hrest⟩ := List.cons.inj hl
    obtain ⟨f1, f2, f3, f4, f5, f6, f7, f8⟩ := kzF_at s cA comp n.toNatClampNeg m.toNatClampNeg x
    have hmul : x * m.toNatClampNeg + m.toNatClampNeg ≤ n.toNatClampNeg * m.toNatClampNeg := by
      have := Nat.mul_le_mul_right m.toNatClampNeg (show x + 1 ≤ n.toNatClampNeg from hlt)
      rw [Nat.succ_mul] at this
      exact this
    simp only [wp_bind']
    rw [multianewarray.make]
    simp only [wp_bind', W.ite, hm, if_false, wp_pure', W.theClass, f6, hkc, hkindc, Option.some.injEq, exists_eq_left']
    refine kz_array (by rw [f6]; exact hkc) hkindc l2 b2 rfl rfl (by rw [f1]; omega) (by rw [f7]; omega) ?_
    have hlt0 : s.heap.size < (kzF s cA comp n.toNatClampNeg m.toNatClampNeg x).1.heap.size := by rw [f1]; omega
    simp only [wp_bind', W.writeLoc, wp_pure']
    refine ⟨(kzF s cA comp n.toNatClampNeg m.toNatClampNeg x).2, by rw [State.heap_pushCell_of_lt (h := hlt0)]; exact f2, by rw [f4]; simp, by rw [f5]; exact hlt, ?_, hnext _ _ _ ⟨x + 1, hlt, hrest, rfl⟩⟩
    rw [f3, f4]
    simp [State.fitsSlot, State.slotType?, f6, hk, hkind, fits]
  · intro s' d' acts' hI
    obtain ⟨i, hi, hl, rfl⟩ := hI
    have hin : i = n.toNatClampNeg := by
      rcases Nat.lt_or_ge i n.toNatClampNeg with h | h
      · rw [show n.toNatClampNeg - i = (n.toNatClampNeg - (i + 1)) + 1 by omega, List.range'_succ] at hl
        cases hl
      · omega
    subst hin
    simp only [wp_pure']
    exact hq _ _
end KZW
section KZX
variable {p : Program} {l : Launch} {e : Env} {R : Room} {s : State} {m : MethodId} {args : Array Value} {below : List Frame} {meth : Method} {c : Code} {H : Heap} {locs : List Loc} {cells slots : Nat} {Q : State → Prop}
variable {cc : ByteArray} {pc : Nat} {ls : Array Slot} {rest : List Value} {D : va_G} {a : Nat → ClassId} {A : Nat → Prop} {nL : Nat} {own : String} {ws : va_W}
theorem kx_mna (E : kE p m c cc nL s args own D a A) (w : kW D A s ws H locs) {index : Nat} (hcl : Cond.classLink own index "[[J" ∈ wA) (harr : Cond.arrayClass .long ∈ wA) {n k : Int32} {N' K' : Nat} (hn : ¬ n < 0) (hk : ¬ k < 0) (hN : n.toNatClampNeg = N') (hM : k.toNatClampNeg = K') (hb1 : N' * 4 ≤ 536870912) (hb2 : K' * 8 ≤ 536870912) (hcells : cells + (1 + N') ≤ R.cells) (hslots : slots + (N' + N' * K') ≤ R.slots) (hdg : decode cc pc = .ok (.multianewarray index 2, 4))
    (kk : ∀ (q : Nat) (H1 : Heap) (locs1 : List Loc), kW D A s ws H1 locs1 → W p l e R s m args below meth c H1 locs1 (cells + (1 + N')) (slots + (N' + N' * K')) Q (F0 m (pc + 4) ls (.ref q :: rest))) : W p l e R s m args below meth c H locs cells slots Q (F0 m pc ls (.int k :: .int n :: rest)) := by
  subst hN
  subst hM
  intro T hT X
  have hpl : e.platform.magicAccessors = ({} : Platform).magicAccessors := by rw [X.admits.platform]
  obtain ⟨comp, cA, kA, hcomp, hkA, hkindA, hnameA⟩ := E.2.1.2.2.2.1
  obtain ⟨comp', kC, cc', hcomp', hkC, hkindC⟩ := Cond.arrayClass_spec (E.1.2.2.2.2 _ harr)
  have ec : comp' = comp := Option.some.inj (hcomp'.symm.trans hcomp)
  subst ec
  obtain ⟨c0, hfc0, hcl0⟩ := Cond.classLink_spec E.1.2.2.2.1 (E.1.2.2.2.2 _ hcl) e.platform hpl
  cases hnameA.symm.trans hfc0
  obtain ⟨hg₁, hwarm₁, hready₁⟩ := State.classEntry (e := e) X.warmed hcl0
  generalize T.vm.noted m.cls index (.cls cA) = vm₁ at hg₁ hwarm₁ hready₁
  have hal : s.vm.Alike vm₁ := hwarm₁.alike
  obtain ⟨kA₁, hkA₁, heA⟩ := hal.2.2 _ _ hkA
  obtain ⟨kC₁, hkC₁, heC⟩ := hal.2.2 _ _ hkC
  have hkindA₁ : kA₁.kind = .array comp' (.array .long) := by rw [heA]; exact hkindA
  have hkindC₁ : kC₁.kind = .array cc' .long := by rw [heC]; exact hkindC
  have X₁ := X.noted hwarm₁
  obtain ⟨hr1, hr2⟩ := X.roomAbove hcells hslots
  obtain ⟨L, hL, XF⟩ := kzF_stand X₁ cA comp' n.toNatClampNeg k.toNatClampNeg n.toNatClampNeg
  obtain ⟨f1, f2, f3, f4, f5, f6, f7, f8⟩ := kzF_at (T.setVm vm₁) cA comp' n.toNatClampNeg k.toNatClampNeg n.toNatClampNeg
  have hTh : (T.setVm vm₁).heap = H := hT
  rw [hTh] at f1 f8
  have e1 : cells + (1 + n.toNatClampNeg) = cells + 1 + n.toNatClampNeg := by omega
  have e2 : slots + (n.toNatClampNeg + n.toNatClampNeg * k.toNatClampNeg) = slots + n.toNatClampNeg + n.toNatClampNeg * k.toNatClampNeg := by omega
  have w1 : kW D A s ws (kzF (T.setVm vm₁) cA comp' n.toNatClampNeg k.toNatClampNeg n.toNatClampNeg).1.heap (locs ++ L) := by
    refine ⟨w.1.kept (fun i q hq => f8 q.1 ((w.1 i q hq).lt)), w.2.1, by rw [f1]; exact Nat.le_trans w.2.2.1 (by omega), fun q h1 h2 => (f8 q (Nat.lt_of_lt_of_le h1 w.2.2.1)).trans (w.2.2.2.1 q h1 h2), fun z hz => ?_⟩
    rcases List.mem_append.mp hz with h9 | h9
    · exact w.2.2.2.2 z h9
    · rw [hL z h9]
      show A T.heap.size
      rw [hT]
      exact E.2.2.1 _ w.2.2.1
  obtain ⟨t, a1, b1⟩ := kk T.heap.size _ _ w1 _ rfl (by rw [e1, e2]; exact XF)
  refine ⟨t, ?_, b1⟩
  have hx := E.1.1
  have hb := E.1.2.1
  have hl1 : ¬ n.toNatClampNeg > e.platform.arrayLengthLimit := by rw [Launch.admits_arrayLengthLimit X.admits]; omega
  have hh1 : ¬ n.toNatClampNeg * componentBytes (.array .long) > e.platform.maxHeapBytes := by
    rw [Launch.admits_maxHeapBytes X.admits]; show ¬ n.toNatClampNeg * 4 > 536870912; omega
  have hl2 : ¬ k.toNatClampNeg > e.platform.arrayLengthLimit := by rw [Launch.admits_arrayLengthLimit X.admits]; omega
  have hh2 : ¬ k.toNatClampNeg * componentBytes .long > e.platform.maxHeapBytes := by
    rw [Launch.admits_maxHeapBytes X.admits]; show ¬ k.toNatClampNeg * 8 > 536870912; omega
  have hdg' : decode c.code pc = .ok (.multianewarray index 2, 4) := by rw [hb]; exact hdg
  jvm_step X.here [hx, hdg']
  simp only [multianewarray.sem, wp_bind', W.resolveClassAt_links (State.method?_setTop (F0 m pc ls (.int k :: .int n :: rest)) X.here.top) hg₁]
  rw [W.popN, if_neg (by decide)]
  refine ⟨F0 m pc ls (.int k :: .int n :: rest), State.topJava?_setTop' (s := T.setVm vm₁) _ X.here.top, [.int n, .int k], rest, rfl, rfl, ?_⟩
  simp only [List.mapM_cons, List.mapM_nil, wp_bind', wp_pure']
  refine kz_make (k := kA₁) (kc := kC₁) (comp := comp') (cc := cc') hkA₁ hkindA₁ hkC₁ hkindC₁ hn hk hl1 hh1 hl2 hh2 (by show T.heap.size + 1 + _ ≤ _; omega) (by show T.slotsUsed + _ + _ ≤ _; omega) (fun d' acts' => ?_)
  have eS : ((T.setTop (F0 m pc ls (.int k :: .int n :: rest))).setVm vm₁).setTop (F0 m pc ls rest) = (T.setVm vm₁).setTop (F0 m pc ls rest) := by
    show ((T.setVm vm₁).setTop _).setTop _ = _
    rw [State.setTop_setTop]
  rw [eS, (kzF_top _ _ _ _ _ _ _).1]
  simp only [wp_bind', W.mark, W.pushRef, State.topJava?_setTop' _ XF.here.top, Option.some.injEq, exists_eq_left', State.setTop_setTop, State.heap_setTop]
  intro acts
  simp [jvm, XF.here.top]
  exact a1
end KZX
