/-! own rows: methods that throw on a road, and handlers that take what they throw -/
/-- the end of a road that throws: an object of class X; the cells w1 are there; nothing outside A was written -/
def kTQ (D : va_G) (a : Nat → ClassId) (X : String) (w1 : va_W) (A : Nat → Prop) (mc ms : Nat) : Array Value → State → Outcome → State → Prop := fun _ st o t =>
  ∃ (q : Addr) (ce : Cell) (L : List Loc), o = .threw q ∧ t.heap[q]? = some ce ∧ ce.vm = .none ∧ st.vm.findClass X = some ce.cls ∧ st.WarmedH t.vm ∧ st.sameButNew ({ t with vm := st.vm } : State) L mc ms ∧ (∀ z ∈ L, A z.base) ∧ kB D a A w1 t ∧ va_F A st t
def kTM (l : Launch) (y : MethodName) (ws : List Cond) (rm : Room) (Pc : Array Value → State → Prop) (D : va_G) (a : Nat → ClassId) (X : String) (w1 : va_W) (A : Nat → Prop) (mc ms : Nat) : Prop :=
  MetFree l y (headSpec ws rm) Pc (fun _ _ _ _ _ => True) (kTQ D a X w1 A mc ms)
def kTZ (D : va_G) (a : Nat → ClassId) (X : String) (w1 : va_W) (A : Nat → Prop) (mc ms : Nat) (below : List Frame) (args : Array Value) (s : State) : State → Prop := fun t => ∃ o, t.status = .running ∧ Ended t below o ∧ kTQ D a X w1 A mc ms args s o t
/-- the frame g with q thrown over it -/
def kTW (p : Program) (l : Launch) (e : Env) (R : Room) (s : State) (m : MethodId) (args : Array Value) (below : List Frame) (meth : Method) (c : Code) (H : Heap) (locs : List Loc) (cells slots : Nat) (Q : State → Prop) (g : JFrame) (q : Addr) : Prop :=
  ∀ T : State, T.heap = H → Stand p l e R s m args below meth c T locs cells slots → ∃ t, Steps p.tables e below ((T.setTop g).pushFrame (.throwing q)) t ∧ Q t
/-! the search for a handler; the catch type may be resolved on the way -/
theorem kt_go {Q : Handler → Pre} {E : CtlPost} {e : Env} {d : Bool} {acts : List Action} {S : State} {f : JFrame} {q : Addr} {x : ExceptionTableEntry} {t : List ExceptionTableEntry} {c : ClassId} {cell : Cell}
    (hx : covers x f.pc = true) (h0 : x.catchType ≠ 0) (hg : (Jvm.resolveClass f.method.cls x.catchType).Gives e.toSetting S.vm (.ok c) (S.vm.noted f.method.cls x.catchType (.cls c))) (hcell : S.heap[q]? = some cell) (hobj : ∀ k, cell.vm ≠ .statics k) (hk : ∃ k, S.vm.classes[cell.cls]? = some k) (hc : ∃ k, S.vm.classes[c]? = some k) :
    wp (findHandler.go f q (x :: t)) Q E e d acts S ↔ if S.vm.assignable cell.cls c = true then Q (.found x.handlerPc) d acts (S.setVm (S.vm.noted f.method.cls x.catchType (.cls c))) else wp (findHandler.go f q t) Q E e d acts (S.setVm (S.vm.noted f.method.cls x.catchType (.cls c))) := by
  simp only [covers] at hx
  obtain ⟨ha, ht⟩ := hg.op (op := VmOp.resolveClass f.method.cls x.catchType) rfl
  have hal : S.vm.Alike (S.vm.noted f.method.cls x.catchType (.cls c)) := (Vm.Alike.refl S.vm).noted _ _ _
  obtain ⟨k1, hk1⟩ := hk
  obtain ⟨k2, hk2⟩ := hc
  obtain ⟨k1', hk1', -⟩ := hal.2.2 _ _ hk1
  obtain ⟨k2', hk2', -⟩ := hal.2.2 _ _ hk2
  cases hfit : S.vm.assignable cell.cls c with
  | true =>
    have hfit' : (S.vm.noted f.method.cls x.catchType (.cls c)).assignable cell.cls c = true := by rw [hal.assignable]; exact hfit
    simp [findHandler.go, hx, h0, ha, ht, hcell, hobj, hk1', hk2', hfit', VmOp.dirties, VmOp.acts]
  | false =>
    have hfit' : (S.vm.noted f.method.cls x.catchType (.cls c)).assignable cell.cls c = false := by rw [hal.assignable]; exact hfit
    simp [findHandler.go, hx, h0, ha, ht, hcell, hobj, hk1', hk2', hfit', VmOp.dirties, VmOp.acts]
theorem kt_step {tb : Tables} {e : Env} {s target : State} {g : JFrame} {c : Code} {below : List Frame} {q : Addr} (h : At s g.method c below) {pc : Nat} {vm' : Vm}
    (hfind : ∀ (Q : Handler → Pre) (E : CtlPost) (d : Bool) (acts : List Action), wp (findHandler g q) Q E e d acts ((s.setTop g).pushFrame (.throwing q)) ↔ Q (.found pc) d acts (((s.setTop g).pushFrame (.throwing q)).setVm vm'))
    (hrest : Steps tb e below ((s.setVm vm').setTop { g with pc := pc, stack := [.ref q] }) target) : Steps tb e below ((s.setTop g).pushFrame (.throwing q)) target := by
  have key : ∀ r : List Frame, (stepThrowing e ((s.setTop g).pushFrame (.throwing q)) q (.java g :: r)).Is ((((s.setTop g).pushFrame (.throwing q)).setVm vm').setFrames (.java { g with pc := pc, stack := [.ref q] } :: r)) [] := by
    intro r
    simp only [stepThrowing, searchFrame, vmDo]
    generalize hr : Sem.go _ e false [] _ = res
    obtain ⟨as, rfl, ha⟩ := Sem.eq_ok_of hr (a := Handler.found pc) (s' := ((s.setTop g).pushFrame (.throwing q)).setVm vm') (acts' := []) (by simp [hfind _ _ _ _])
    exact ⟨rfl, ha⟩
  obtain ⟨hgo, hw⟩ := h.throwing q
  refine Steps.head hgo hw ?_
  rw [stepThread_throwing (frames_entered h.top _), (key _).1]
  obtain ⟨g₀, hg⟩ := Option.isSome_iff_exists.mp h.top
  obtain ⟨r, hr⟩ := State.topJava?_eq_some.mp hg
  have hr' : (s.setVm vm').frames = .java g₀ :: r := hr
  have sw : ∀ (u : State) (F G : List Frame), ((u.setFrames F).setVm vm').setFrames G = (u.setVm vm').setFrames G := fun u F G => by
    show ((u.setVm vm').setFrames F).setFrames G = _
    rw [State.setFrames_setFrames]
  rw [State.setTop_of_frames _ hr'] at hrest
  rw [hr, List.tail_cons, State.pushFrame, sw, State.setTop_of_frames _ hr, sw]
  exact hrest
section KTC
variable {p : Program} {l : Launch} {e : Env} {R : Room} {s : State} {m : MethodId} {args : Array Value} {below : List Frame} {meth : Method} {c : Code} {H : Heap} {locs : List Loc} {cells slots : Nat} {Q : State → Prop}
variable {cc : ByteArray} {pc : Nat} {ls : Array Slot} {rest st0 : List Value} {D : va_G} {a : Nat → ClassId} {A : Nat → Prop} {nL : Nat} {own : String} {ws : va_W}
/-- taken by the first row of the table -/
theorem kt_catch1 (E : kE p m c cc nL s args own D a A) {X nm : String} {ce : Cell} {q : Addr} (x : ExceptionTableEntry) (suf : List ExceptionTableEntry) (htab : c.exceptionTable.toList = x :: suf) (hx : covers x pc = true) (h0 : x.catchType ≠ 0) (hlink : Cond.classLink own x.catchType nm ∈ wA) (hcast : kCT X nm s) (hce : H[q]? = some ce) (hcv : ce.vm = .none) (hcl : s.vm.findClass X = some ce.cls)
    (kk : W p l e R s m args below meth c H locs cells slots Q (F0 m x.handlerPc ls [.ref q])) : kTW p l e R s m args below meth c H locs cells slots Q (F0 m pc ls rest) q := by
  intro T hT Z
  have hpl : e.platform.magicAccessors = ({} : Platform).magicAccessors := by rw [Z.admits.platform]
  obtain ⟨c3, c4, hc3, hc4, hasg⟩ := Cond.castable_spec (va_Nw.use (A := args) rfl hcast)
  cases Option.some.inj (hc3.symm.trans hcl)
  obtain ⟨c5, hc5, hcl5⟩ := Cond.classLink_spec E.1.2.2.2.1 (E.1.2.2.2.2 _ hlink) e.platform hpl
  cases Option.some.inj (hc4.symm.trans hc5)
  obtain ⟨hg, hwarm, -⟩ := State.classEntry (e := e) Z.warmed hcl5
  obtain ⟨k9, hk9, -⟩ := Vm.findClass_spec hcl
  obtain ⟨k8, hk8, -⟩ := Vm.findClass_spec hc4
  have hTa : s.vm.Alike T.vm := Z.warmed.alike
  obtain ⟨k9', hk9', -⟩ := hTa.2.2 _ _ hk9
  obtain ⟨k8', hk8', -⟩ := hTa.2.2 _ _ hk8
  obtain ⟨t, a1, b1⟩ := kk (T.setVm (T.vm.noted m.cls x.catchType (.cls c4))) hT (Z.noted hwarm)
  refine ⟨t, kt_step (pc := x.handlerPc) (vm' := T.vm.noted m.cls x.catchType (.cls c4)) Z.here (fun Q' E' d' acts' => ?_) a1, b1⟩
  rw [W.findHandler_eq (meth := meth) (code := c) Z.method' Z.code, htab]
  rw [kt_go (S := (T.setTop (F0 m pc ls rest)).pushFrame (.throwing q)) (f := F0 m pc ls rest) (c := c4) (cell := ce) hx h0 hg (by show T.heap[q]? = some ce; rw [hT]; exact hce) (fun k => by rw [hcv]; simp) ⟨k9', hk9'⟩ ⟨k8', hk8'⟩]
  rw [if_pos (by show T.vm.assignable ce.cls c4 = true; rw [hTa.assignable]; exact hasg)]
  exact Iff.rfl
/-- .. by the second, behind one that names another class -/
theorem kt_catch2 (E : kE p m c cc nL s args own D a A) {X nm n0 : String} {ce : Cell} {q : Addr} (x0 x : ExceptionTableEntry) (suf : List ExceptionTableEntry) (htab : c.exceptionTable.toList = x0 :: x :: suf) (hx0 : covers x0 pc = true) (h00 : x0.catchType ≠ 0) (hlink0 : Cond.classLink own x0.catchType n0 ∈ wA) (hno : va_Nc X n0 s) (hx : covers x pc = true) (h0 : x.catchType ≠ 0) (hlink : Cond.classLink own x.catchType nm ∈ wA) (hcast : kCT X nm s) (hce : H[q]? = some ce) (hcv : ce.vm = .none) (hcl : s.vm.findClass X = some ce.cls)
    (kk : W p l e R s m args below meth c H locs cells slots Q (F0 m x.handlerPc ls [.ref q])) : kTW p l e R s m args below meth c H locs cells slots Q (F0 m pc ls rest) q := by
  intro T hT Z
  have hpl : e.platform.magicAccessors = ({} : Platform).magicAccessors := by rw [Z.admits.platform]
  obtain ⟨c3, c4, hc3, hc4, hasg⟩ := Cond.castable_spec (va_Nw.use (A := args) rfl hcast)
  cases Option.some.inj (hc3.symm.trans hcl)
  obtain ⟨c5, hc5, hcl5⟩ := Cond.classLink_spec E.1.2.2.2.1 (E.1.2.2.2.2 _ hlink) e.platform hpl
  cases Option.some.inj (hc4.symm.trans hc5)
  obtain ⟨d1, d2, e1, e2, e3⟩ := hno
  cases Option.some.inj (e1.symm.trans hcl)
  obtain ⟨d3, hd3, hcl3⟩ := Cond.classLink_spec E.1.2.2.2.1 (E.1.2.2.2.2 _ hlink0) e.platform hpl
  cases Option.some.inj (e2.symm.trans hd3)
  obtain ⟨hgA, hwarmA, -⟩ := State.classEntry (e := e) Z.warmed hcl3
  obtain ⟨vmA, hvmA⟩ : ∃ v, v = T.vm.noted m.cls x0.catchType (.cls d2) := ⟨_, rfl⟩
  rw [← hvmA] at hwarmA
  have ZA := Z.noted hwarmA
  obtain ⟨hg, hwarm, -⟩ := State.classEntry (e := e) ZA.warmed hcl5
  obtain ⟨k9, hk9, -⟩ := Vm.findClass_spec hcl
  obtain ⟨k8, hk8, -⟩ := Vm.findClass_spec hc4
  obtain ⟨k7, hk7, -⟩ := Vm.findClass_spec e2
  have hTa : s.vm.Alike T.vm := Z.warmed.alike
  have hTA : s.vm.Alike vmA := hwarmA.alike
  obtain ⟨k9', hk9', -⟩ := hTa.2.2 _ _ hk9
  obtain ⟨k7', hk7', -⟩ := hTa.2.2 _ _ hk7
  obtain ⟨k9A, hk9A, -⟩ := hTA.2.2 _ _ hk9
  obtain ⟨k8A, hk8A, -⟩ := hTA.2.2 _ _ hk8
  obtain ⟨t, a1, b1⟩ := kk (T.setVm (vmA.noted m.cls x.catchType (.cls c4))) hT (Z.noted hwarm)
  refine ⟨t, kt_step (pc := x.handlerPc) (vm' := vmA.noted m.cls x.catchType (.cls c4)) Z.here (fun Q' E' d' acts' => ?_) a1, b1⟩
  rw [W.findHandler_eq (meth := meth) (code := c) Z.method' Z.code, htab]
  rw [kt_go (S := (T.setTop (F0 m pc ls rest)).pushFrame (.throwing q)) (f := F0 m pc ls rest) (c := d2) (cell := ce) hx0 h00 hgA (by show T.heap[q]? = some ce; rw [hT]; exact hce) (fun k => by rw [hcv]; simp) ⟨k9', hk9'⟩ ⟨k7', hk7'⟩]
  rw [if_neg (by show ¬ T.vm.assignable ce.cls d2 = true; rw [hTa.assignable, e3]; decide)]
  show wp _ _ _ _ _ _ (((T.setTop (F0 m pc ls rest)).pushFrame (.throwing q)).setVm (T.vm.noted m.cls x0.catchType (.cls d2))) ↔ _
  rw [← hvmA]
  rw [kt_go (S := ((T.setTop (F0 m pc ls rest)).pushFrame (.throwing q)).setVm vmA) (f := F0 m pc ls rest) (c := c4) (cell := ce) hx h0 hg (by show T.heap[q]? = some ce; rw [hT]; exact hce) (fun k => by rw [hcv]; simp) ⟨k9A, hk9A⟩ ⟨k8A, hk8A⟩]
  rw [if_pos (by show vmA.assignable ce.cls c4 = true; rw [hTA.assignable]; exact hasg)]
  exact Iff.rfl
end KTC
