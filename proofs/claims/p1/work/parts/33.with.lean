/-! own rows: methods with handlers of their own -/
def kCIW (own : String) (index : Nat) (y : MethodName) (bytes : ByteArray) (maxL : Nat) (ret : Option FieldType) (hh : List (Nat × Nat × Nat × Nat)) (n : Nat) : Prop :=
  Cond.codeWith y bytes maxL ret hh ∈ wA ∧ Cond.initialized y.cls ∈ wA ∧ Cond.methodLink own index y ∈ wA ∧ (y.cls ≠ "java/lang/invoke/MethodHandle" ∧ y.cls ≠ "java/lang/invoke/VarHandle" ∧ (parseMethodDescriptor y.desc).map (fun d => d.parameters.length) = some n)
abbrev zEN : List String := ["java/lang/RuntimeException", "java/lang/Exception"]
section KH
variable {p : Program} {l : Launch} {e : Env} {R : Room} {s : State} {m : MethodId} {args : Array Value} {below : List Frame} {meth : Method} {c : Code} {H : Heap} {locs : List Loc} {cells slots : Nat} {Q : State → Prop}
variable {cc : ByteArray} {pc : Nat} {ls : Array Slot} {rest st0 : List Value} {D : va_G} {a : Nat → ClassId} {A : Nat → Prop} {nL : Nat} {own : String} {ws : va_W}
variable {y : MethodName} {bytes : ByteArray} {maxL mc ms n index : Nat} {ret : Option FieldType} {hh : List (Nat × Nat × Nat × Nat)} {rm : Room} {wc wr : va_W}
theorem kx_rSW (E : kE p m c cc nL s args own D a A) (w : kW D A s ws H locs) (hl0 : ls.size = nL) {As : List Value} {Qc : Array Value → State → Outcome → State → Prop}
    (hM : Met l y (Cond.codeWith y bytes maxL ret hh :: wA) rm (va_Pc As (kP D a wc H.size)) Qc mc ms (va_A wc H.size)) (g1 : kCIW own index y bytes maxL ret hh n) (g2 : kS y) (isC : List Nat) (hC : isC.map (fun i => ws[i]?) = wc.map some) (hnd : va_nd isC = true) (hn : As.length = n) (hrc : rm.cells = mc) (hrs : rm.slots = ms) (hR : rm.frames + 1 ≤ R.frames ∧ 8 + (maxL + 11) + rm.locals ≤ R.locals) (hst : st0 = As.reverse ++ rest) (hro : (rest.map fun v => v.category).sum ≤ 8) (hdg : decode cc pc = .ok (.invokestatic index, 3)) (hf : cells + mc ≤ R.cells ∧ slots + ms ≤ R.slots) :
    va_Run p l e R s m args below meth c H locs cells slots mc ms (F0 m pc ls st0) rest (Qc As.toArray) (va_A wc H.size) := by
  have hK : Back l R p e below s args y 3 8 (PreOf R mc ms (va_Pc As (kP D a wc H.size))) (PostOf Qc mc ms (va_A wc H.size)) :=
    va_backW (hh := hh) (bytes := bytes) (maxL := maxL) (ret := ret) hM kP_blind hrc hrs hR.1 hR.2 (pay_in E.1.2.2.2.2 (wA_GI g1.1)) List.mem_cons_self (fun a' U hW => word_at hW (good_of_word (wA_good _ g1.2.1)) (E.1.2.2.2.2 _ g1.2.1))
  have hdg' : decode c.code pc = .ok (.invokestatic index, 3) := by rw [E.1.2.1]; exact hdg
  have hy : y.cls ≠ "java/lang/invoke/MethodHandle" ∧ y.cls ≠ "java/lang/invoke/VarHandle" := ⟨g1.2.2.2.1, g1.2.2.2.2.1⟩
  intro T hT Z
  obtain ⟨mk, methM, cM, hnamed, hmethM, -, -, -, -, -, -, hsigM⟩ := Cond.codeWith_spec (E.1.2.2.2.2 _ g1.1)
  have hlen : As.length = (methM.sig).parameters.length := by
    have h2 := g1.2.2.2.2.2
    rw [hsigM] at h2
    exact hn.trans (Option.some.inj h2).symm
  have hstatic : methM.isStatic = true := Cond.static_spec hnamed hmethM (E.1.2.2.2.2 _ g2)
  obtain ⟨kP9, hkP, -⟩ := className_of_methodNamed hnamed
  have hinitP : kP9.init = .initialized := Cond.initialized_spec (findClass_of_methodNamed hnamed) hkP (E.1.2.2.2.2 _ g1.2.1)
  obtain ⟨vm₁, Z₁, hstep₁⟩ := Z.invokestatic E.1.1 E.1.2.2.2.1 (E.1.2.2.2.2 _ g1.2.2.1) hnamed hmethM hstatic hkP hinitP hy (g := F0 m pc ls st0) rfl (argsL := As) (rest := rest) hlen hst hdg'
  obtain ⟨v, ⟨U', l2, c2, s2⟩, Z', ⟨g', mk', t, L, e1, e2, hq, h1, hL, h2, h3⟩, hsteps⟩ := hK m meth c ⟨T.setVm vm₁, locs, cells, slots⟩ (F0 m pc ls rest) (.invokestatic index) mk As.toArray Z₁ rfl (hl0.trans E.1.2.2.1.symm) hdg' (lv_room hro) (Z₁.named hnamed) ⟨hf.1, hf.2, kPc E w isC hC hnd (T.setVm vm₁) hT Z₁.warmed⟩
  dsimp only [Pt.U, Pt.locs, Pt.cells, Pt.slots] at Z' e1 e2 h1 h2 h3 hsteps
  subst h1; subst h2; subst h3
  exact ⟨v, (T.setVm vm₁).calling g' mk' As.toArray, t, U', L, hT, Z', hL, e1, e2, hq, fun target h => hstep₁ _ fun acts => by rw [doInvoke_state]; exact hsteps.trans h⟩
theorem kMW {w0 : va_W} {av : List Value} {Qc : (Nat → Prop) → Array Value → State → Outcome → State → Prop} (hy : plainName y.cls = true) (hlen : (lg_sl av).length ≤ maxL)
    (body : ∀ (p : Program) (e : Env) (s : State) (m : MethodId) (below : List Frame) (meth : Method) (c : Code) (A : Nat → Prop) (ls : Array Slot) (H : Heap) (locs : List Loc), kE p m c cc maxL s av.toArray y.cls D a A → meth.sig.returnType = ret → meth.locks = false → c.exceptionTable.toList = tableOf hh → kW D A s w0 H locs → lv_has ls maxL (lv_args 0 av) →
      W p l e rm s m av.toArray below meth c H locs 0 0 (MQ below (Qc A) av.toArray s mc ms A) (F0 m 0 ls [])) :
    ∀ sz : Nat, Met l y (Cond.codeWith y cc maxL ret hh :: wA) rm (va_Pc av (kP D a w0 sz)) (Qc (va_A w0 sz)) mc ms (va_A w0 sz) := by
  intro sz
  refine va_MetW (cc := cc) (maxL := maxL) (ret := ret) (hh := hh) hy rfl ?_
  intro p e s m args below meth c s₁ B hml hv
  obtain ⟨rfl, hsz, hP, hK, hD0, hZ0⟩ := hv
  subst hsz
  have hts := atoms_spec (ws := Cond.codeWith y cc maxL ret hh :: wA) B.pre
  have htab : c.exceptionTable.toList = tableOf hh := by
    obtain ⟨m9, meth9, c9, hn9, h1, h2, -, -, h6, -⟩ := Cond.codeWith_spec (hts _ List.mem_cons_self)
    cases Option.some.inj (hn9.symm.trans B.named)
    cases Option.some.inj (h1.symm.trans B.method)
    cases Option.some.inj (h2.symm.trans (Stand.of_body B).code)
    rw [← h6, table_eq]
  have hl := lv_entry av (n := maxL) hlen
  rw [lg_entry_eq]
  exact body p e s m below meth c (va_A w0 s.heap.size) _ s.heap [] ⟨⟨B.exec, B.bytes, hml, findClass_of_methodNamed B.named, fun w hw => hts w (List.mem_cons_of_mem _ hw)⟩, hK, fun q h => Or.inr h, hZ0⟩ B.returns B.notSynchronized htab ⟨hP, hD0.self (sz := s.heap.size), va_S.rf⟩ hl
end KH
