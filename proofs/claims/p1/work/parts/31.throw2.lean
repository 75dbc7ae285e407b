/-! own rows: 'throw new X()', a contract of a road that throws, a call of such a method -/
section KTA
variable {p : Program} {l : Launch} {e : Env} {R : Room} {s : State} {m : MethodId} {args : Array Value} {below : List Frame} {meth : Method} {c : Code} {T : State} {H : Heap} {locs : List Loc} {cells slots : Nat} {Q : State → Prop}
/-- the same frame, as if it had been begun in this heap -/
theorem kt_again (X : Stand p l e R s m args below meth c T locs cells slots) (hc : cells + 1 ≤ R.cells) (hs : slots + 6 ≤ R.slots) :
    Stand p l e { frames := R.frames, locals := R.locals, cells := 1, slots := 6 } ((T.setVm s.vm).setFrames (.invoking m args :: below)) m args below meth c T [] 0 0 := by
  have htop : (T.setVm s.vm).topJava?.isSome := X.here.top
  have hF : ((T.setVm s.vm).setFrames (.invoking m args :: below)).frames = .invoking m args :: below := State.frames_setFrames _ (State.cur_lt_of_top htop)
  obtain ⟨g₀, hg0⟩ := Option.isSome_iff_exists.mp htop
  obtain ⟨r, hr⟩ := State.topJava?_eq_some.mp hg0
  have z1 : e.platform.stackLimits (T.setVm s.vm).me = e.platform.stackLimits s.me := X.limits
  have z2 : (T.setVm s.vm).me.stackBytes = s.me.stackBytes := X.bytes
  have z3 : ((T.setVm s.vm).setFrames (.invoking m args :: below)).localsInUse = s.localsInUse := by
    rw [State.localsInUse_invoking hF (meth := meth) (c := c) X.method X.code, State.localsInUse_invoking X.frames X.method X.code]
  have z4 := X.heapSize
  have z5 := X.used
  refine ⟨X.admits, X.cas, X.clock, hF, ?_, X.hears, X.method, X.code, X.here, X.tail, X.warmed, by rw [State.stackLimits_setFrames]; rfl, by rw [State.stackBytes_setFrames]; rfl, ?_⟩
  · have h := X.room
    simp only [State.hasRoom, Bool.and_eq_true, decide_eq_true_eq] at h ⊢
    obtain ⟨⟨⟨⟨h1, h2, h3, h4, h5, h6⟩, h7⟩, h8⟩, h9⟩ := h
    rw [X.frames, List.length_cons] at h2 h3
    simp only [hF, z3, List.length_cons, State.stackLimits_setFrames, State.stackBytes_setFrames, z1, z2]
    refine ⟨⟨⟨⟨by omega, by omega, by omega, by omega, by omega, h6⟩, ?_⟩, ?_⟩, X.book⟩
    · show T.heap.size + 1 ≤ e.platform.maxCells
      omega
    · show T.slotsUsed + 6 ≤ e.platform.maxSlots
      omega
  · refine ⟨?_, Nat.le_refl _, Nat.le_refl _, ?_, ?_, fun b c9 h9 => ⟨c9, h9, rfl, rfl, fun _ _ => rfl⟩⟩
    · obtain ⟨t, ht, -⟩ := State.frames_cons hr
      show T.setVm s.vm = { ((T.setVm s.vm).setFrames (.invoking m args :: below)).setFrames (T.setVm s.vm).frames with heap := T.heap, slotsUsed := T.slotsUsed }
      rw [State.setFrames_setFrames, State.setFrames_self ht]
      rfl
    · show T.slotsUsed = T.slotsUsed + ((T.heap.toList.drop T.heap.size).map (·.slots.size)).sum
      rw [List.drop_eq_nil_of_le (Nat.le_of_eq Array.length_toList)]
      rfl
    · show ((T.heap.toList.drop T.heap.size).map (·.slots.size)).sum ≤ 0
      rw [List.drop_eq_nil_of_le (Nat.le_of_eq Array.length_toList)]
      exact Nat.le_refl _
/-- what sameButNew says of cells that nobody wrote -/
theorem kt_same {U : State} {k n : Nat} (h : s.sameButNew ({ U with vm := s.vm } : State) [] k n) : s.heap.size ≤ U.heap.size ∧ ∀ q : Nat, q < s.heap.size → U.heap[q]? = s.heap[q]? := by
  obtain ⟨-, h2, -, -, -, h6⟩ := h
  refine ⟨h2, fun q hq => ?_⟩
  obtain ⟨c9, e1, e2, e3, e4⟩ := h6 q _ (Array.getElem?_eq_getElem hq)
  have hs : c9.slots = (s.heap[q]).slots := Array.ext_getElem? fun i => e4 i (by simp)
  have h9 : c9 = s.heap[q] := by
    rw [hs] at e2
    exact e2
  have e5 : U.heap[q]? = some c9 := e1
  rw [e5, h9, Array.getElem?_eq_getElem hq]
variable {cc : ByteArray} {pc : Nat} {ls : Array Slot} {rest st0 : List Value} {D : va_G} {a : Nat → ClassId} {A : Nat → Prop} {nL : Nat} {own : String} {ws : va_W}
/-- a word that a throw asks: one of ours, the class's own cast, or one of the four on Throwable's statics -/
abbrev zTW (X : String) (w : Cond) : Prop := w ∈ wA ∨ w = .castable X X ∨ w = .declares ⟨"java/lang/RuntimeException", "<init>", "()V"⟩ ∨ w = .declares ⟨"java/lang/Exception", "<init>", "()V"⟩ ∨ w = .declares ⟨"java/lang/Throwable", "<init>", "()V"⟩ ∨ w = .isRef (.static zTh "UNASSIGNED_STACK" "[Ljava/lang/StackTraceElement;") ∨ w = .isRef (.static zTh "SUPPRESSED_SENTINEL" "Ljava/util/List;") ∨ w = .laysStatic zTh "UNASSIGNED_STACK" "[Ljava/lang/StackTraceElement;" ∨ w = .laysStatic zTh "SUPPRESSED_SENTINEL" "Ljava/util/List;"
theorem kt_throw (E : kE p m c cc nL s args own D a A) (w : kW D A s ws H locs) (hl0 : ls.size = nL) (hl9 : l.stackTraces = false) (htab : ∀ x ∈ c.exceptionTable.toList, False) (hlk : meth.locks = false) {cls : String} {names : List String} {ik ic mc ms : Nat}
    (hf1 : Bundle.fit cls = true ∧ ∀ n ∈ names, Bundle.fit n = true) (hk : Cond.classLink own ik cls ∈ wA) (hini : Cond.initialized cls ∈ wA) (hat : ∀ w ∈ Bundle.ownAtoms0 own ic cls names, zTW cls w) (hcast : kCT cls cls s)
    (d0 : decode cc pc = .ok (.new ik, 3)) (d3 : decode cc (pc + 3) = .ok (.dup, 1)) (d4 : decode cc (pc + 4) = .ok (.invokespecial ic, 3)) (d7 : decode cc (pc + 7) = .ok (.athrow, 1))
    (hRf : names.length + 3 < R.frames) (hRl : (rest.map fun v => v.category).sum + (13 * (names.length + 1) + 42) ≤ R.locals) (hRc : cells + 1 ≤ R.cells) (hRs : slots + 6 ≤ R.slots) (hc : cells + 1 ≤ mc) (hs : slots + 6 ≤ ms) :
    W p l e R s m args below meth c H locs cells slots (kTZ D a cls ws A mc ms below args s) (F0 m pc ls rest) := by
  intro T hT X
  have hx := E.1.1
  have hb := E.1.2.1
  have htr : e.platform.stackTraces = false := (show e.platform.stackTraces = l.stackTraces by rw [X.admits.platform]).trans hl9
  have Y := kt_again X hRc hRs
  obtain ⟨s', hA⟩ : ∃ z, z = (T.setVm s.vm).setFrames (.invoking m args :: below) := ⟨_, rfl⟩
  rw [← hA] at Y
  have hvm : s'.vm = s.vm := by rw [hA]; rfl
  have hhp : s'.heap = H := by rw [hA]; exact hT
  have hW0 : s.WarmedH s'.vm := by rw [hvm]; exact State.WarmedH.refl s
  have hZ : kZ A s' s'.heap := by rw [hhp]; exact (E.2.2.2.kept w.2.2.2.1).moved hW0.alike
  have good : ∀ w0 ∈ wA, w0.before args s' = true := fun w0 h0 => word_at hW0 (good_of_word (wA_good _ h0)) (E.1.2.2.2.2 _ h0)
  have h : ∀ w0 ∈ Bundle.ownAtoms0 own ic cls names, w0.before args s' = true := by
    intro w0 hw0
    have hD := E.2.1.2.2.2.2.2.2.2.2.2
    rcases hat w0 hw0 with h1 | rfl | rfl | rfl | rfl | rfl | rfl | rfl | rfl
    · exact good _ h1
    · exact va_Nw.use rfl (hcast.moved hW0.alike)
    · exact va_Nw.use rfl (hD.1.moved hW0.alike)
    · exact va_Nw.use rfl (hD.2.1.moved hW0.alike)
    · exact va_Nw.use rfl (hD.2.2.moved hW0.alike)
    · exact hZ.1.refs
    · exact hZ.2.refs
    · exact hZ.1.lays
    · exact hZ.2.lays
  have hown' : s'.vm.findClass own = some m.cls := by rw [hvm]; exact E.1.2.2.2.1
  have hins : (Cond.instantiable cls 6).before args s' = true := h _ (by simp [Bundle.ownAtoms0])
  obtain ⟨vm₁, cX, kX, hfX, hkX, -, -, X₁, st1⟩ := Y.newCold hx (own := own) (C := cls) (index := ik) (n := 6) hown' (good _ hk) hins (good _ hini)
    (g := F0 m pc ls rest) rfl (by rw [hb]; exact d0) (Nat.le_refl _) (Nat.le_refl _)
  generalize hT1 : (T.setVm vm₁).pushCell { cls := cX, slots := kX.instanceTypes.map defaultValue, vm := .none } = T1 at X₁ st1
  have hcat : (Value.ref T.heap.size).category = 1 := rfl
  have hcellA : T1.heap[T.heap.size]? = some (freshCell cX kX) := by rw [← hT1]; exact State.heap_pushCell_size _ _
  have d3' : decode c.code (pc + 3) = .ok (.dup, 1) := by rw [hb]; exact d3
  obtain ⟨U, hsteps, hrun, hend, hW, hsame, ce, hce, hO⟩ := X₁.ctorThrow0 hx htr (own := own) (cls := cls) (names := names) (ic := ic) hown' hf1.1 hf1.2 h (fun x hx => nomatch hx) hfX hkX hcellA (by rw [hhp, hT]; exact Nat.le_refl _)
    (g := { method := m, pc := pc + 4, locals := ls, stack := .ref T.heap.size :: .ref T.heap.size :: rest, locked := none }) rfl (hl0.trans E.1.2.2.1.symm) rfl rfl (rest := rest) rfl
    (by rw [hb]; exact d4) (by rw [hb]; exact d7) (fun x hx => (htab x hx).elim) hRf (by simp only [List.map_cons, List.sum_cons, hcat]; show 2 * 0 + _ + _ ≤ _; omega) hlk
  obtain ⟨f1, f2⟩ := kt_same hsame
  rw [hhp] at f1 f2
  have hWs : s.WarmedH U.vm := State.WarmedH.trans hW0 hW
  have hcl : s.vm.findClass cls = some ce.cls := by
    have h9 := hO.cls
    rw [hvm] at h9
    exact h9
  have hall : s.sameButNew ({ U with vm := s.vm } : State) locs mc ms := by
    subst hA
    obtain ⟨e1, e2⟩ := hsame
    rw [State.setFrames_setFrames] at e1
    have h2 : (T.setVm s.vm).sameButNew ({ U with vm := s.vm } : State) [] (0 + 1) (0 + 6) := ⟨e1, e2⟩
    have h3 := X.same.trans h2
    rw [List.append_nil] at h3
    exact h3.mono hc hs
  refine ⟨U, ?_, .threw T.heap.size, hrun, hend, T.heap.size, ce, locs, rfl, hce, hO.vm, hcl, hWs, hall, w.2.2.2.2, ⟨w.1.kept (fun k q hq => f2 q.1 ((w.1 k q hq).lt)), kK.moved hWs.alike E.2.1, w.2.1⟩, Nat.le_trans w.2.2.1 f1, fun q h1 h2 => (f2 q (Nat.lt_of_lt_of_le h1 w.2.2.1)).trans (w.2.2.2.1 q h1 h2)⟩
  refine st1 _ ?_
  show Steps p.tables e below (T1.setTop { method := m, pc := pc + 3, locals := ls, stack := .ref T.heap.size :: rest, locked := none }) _
  jvm_step X₁.here [X₁.here.top, hx, d3', Value.category]
  exact hsteps
variable {y : MethodName} {bytes : ByteArray} {maxL mc ms n index : Nat} {ret : Option FieldType} {rm : Room} {wc wr : va_W}
theorem kTM_begin {w0 w1 : va_W} {av : List Value} {X : String} (hy : plainName y.cls = true) (hlen : (lg_sl av).length ≤ maxL)
    (body : ∀ (p : Program) (e : Env) (s : State) (m : MethodId) (below : List Frame) (meth : Method) (c : Code) (A : Nat → Prop) (ls : Array Slot) (H : Heap) (locs : List Loc), kE p m c cc maxL s av.toArray y.cls D a A → meth.locks = false → (∀ x ∈ c.exceptionTable.toList, False) → kW D A s w0 H locs → lv_has ls maxL (lv_args 0 av) →
      W p l e rm s m av.toArray below meth c H locs 0 0 (kTZ D a X w1 A mc ms below av.toArray s) (F0 m 0 ls [])) :
    ∀ sz : Nat, kTM l y (Cond.code y cc maxL ret :: wA) rm (va_Pc av (kP D a w0 sz)) D a X w1 (va_A w0 sz) mc ms := by
  intro sz
  refine MetFree.of_bodyS (code := cc) (maxLocals := maxL) (ret := ret) hy ?_ ?_
  · intro args s m h hn
    obtain ⟨meth, c, h1, h2, h3, h4, h5, h6, -, -⟩ := Cond.code_spec hn (atoms_spec (ws := Cond.code y cc maxL ret :: wA) h _ List.mem_cons_self)
    exact ⟨meth, c, h1, h2, h3, h4, h5, h6⟩
  · intro p e s m args below meth c s₁ B hml hv _
    have hh0 : s₁.heap = s.heap := by rw [B.state]; rfl
    have hts := atoms_spec (ws := Cond.code y cc maxL ret :: wA) B.pre
    have ht : ∀ x ∈ c.exceptionTable.toList, False := by
      obtain ⟨meth9, c9, h1, h2, -, -, -, -, h7, -⟩ := Cond.code_spec B.named (hts _ List.mem_cons_self)
      cases Option.some.inj (h1.symm.trans B.method)
      cases Option.some.inj (h2.symm.trans (Stand.of_body B).code)
      intro x hx
      rw [Array.isEmpty_iff.mp h7] at hx
      cases hx
    obtain ⟨rfl, hsz, hP, hK, hD0, hZ0⟩ := hv
    subst hsz
    have hl := lv_entry av (n := maxL) hlen
    have K := body p e s m below meth c (va_A w0 s.heap.size) _ s.heap [] ⟨⟨B.exec, B.bytes, hml, findClass_of_methodNamed B.named, fun w hw => hts w (List.mem_cons_of_mem _ hw)⟩, hK, fun q h => Or.inr h, hZ0⟩ B.notSynchronized ht ⟨hP, hD0.self (sz := s.heap.size), va_S.rf⟩ hl
    rw [← lg_entry_eq] at K
    obtain ⟨t, a1, o, b1, b2, b3⟩ := K s₁ hh0 (Stand.of_body B)
    exact ⟨t, o, a1, b1, b2, b3⟩
end KTA
