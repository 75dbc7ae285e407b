/-! own rows: a method's contract begun, ended, used -/
def kCI (own : String) (index : Nat) (y : MethodName) (bytes : ByteArray) (maxL : Nat) (ret : Option FieldType) (n : Nat) : Prop :=
  Cond.code y bytes maxL ret ∈ wA ∧ Cond.initialized y.cls ∈ wA ∧ Cond.methodLink own index y ∈ wA ∧ (y.cls ≠ "java/lang/invoke/MethodHandle" ∧ y.cls ≠ "java/lang/invoke/VarHandle" ∧ (parseMethodDescriptor y.desc).map (fun d => d.parameters.length) = some n)
def kI (y : MethodName) : Prop := y.name = "<init>" ∧ Cond.instanceMethod y ∈ wA
def kV (C : String) (y : MethodName) : Prop := Cond.instanceMethod y ∈ wA ∧ Cond.selects C y y ∈ wA
def kS (y : MethodName) : Prop := Cond.static y ∈ wA
def kNd (isC isR : List Nat) : Prop := va_nd isC = true ∧ va_nd isR = true ∧ ∀ i ∈ isR, i ∉ isC
section KM
variable {p : Program} {l : Launch} {e : Env} {R : Room} {s : State} {m : MethodId} {args : Array Value} {below : List Frame} {meth : Method} {c : Code} {H : Heap} {locs : List Loc} {cells slots : Nat} {Q : State → Prop}
variable {cc : ByteArray} {pc : Nat} {ls : Array Slot} {rest st0 : List Value} {D : va_G} {a : Nat → ClassId} {A : Nat → Prop} {nL : Nat} {own : String} {ws : va_W}
variable {y : MethodName} {bytes : ByteArray} {maxL mc ms n index : Nat} {ret : Option FieldType} {rm : Room} {wc wr : va_W}
theorem kCI.b (E : kE p m c cc nL s args own D a A) (h : kCI own index y bytes maxL ret n) (hrc : rm.cells = mc) (hrs : rm.slots = ms) (hR : rm.frames + 1 ≤ R.frames ∧ 8 + (maxL + 11) + rm.locals ≤ R.locals) : CallB R s args own index y bytes maxL ret (Cond.code y bytes maxL ret :: wA) rm mc ms n :=
  callB_of n E.1.2.2.2.2 (wA_GI h.1) rfl hrc hrs (E.1.2.2.2.2 _ h.2.1) (E.1.2.2.2.2 _ h.2.2.1) h.2.2.2 hR
theorem kPc (E : kE p m c cc nL s args own D a A) (w : kW D A s ws H locs) {av : List Value} (isC : List Nat) (hC : isC.map (fun i => ws[i]?) = wc.map some) (hn : va_nd isC = true) : ∀ U : State, U.heap = H → s.WarmedH U.vm → va_Pc av (kP D a wc H.size) av.toArray U := fun U hU hW =>
  ⟨rfl, by rw [hU], by rw [hU]; exact fun k q hk => by obtain ⟨i, _, hi⟩ := va_in_of isC hC hk; exact w.1 i q hi, kK.moved hW.alike E.2.1, (w.2.1.sub isC hn hC).weaken (fun _ _ _ _ => trivial), by rw [hU]; exact ((E.2.2.2.kept w.2.2.2.1).moved hW.alike).narrow (va_free (wc := wc) w.2.1 w.2.2 E.2.2.1 isC hC)⟩
theorem kRecv (E : kE p m c cc nL s args own D a A) (w : kW D A s ws H locs) (ci q0 : Nat) {r : vw_C} {x : Nat} {fs : List Value} (hc : zCl[ci]? = some r) (he : ws[q0]? = some (x, .inr (ci, fs))) : ∃ cell : Cell, H[x]? = some cell ∧ cell.vm.isStatics = false ∧ s.vm.findClass r.1 = some cell.cls := va_recv E.2.1.1 w.1 hc he
/-! the call runs -/
theorem kx_rI (E : kE p m c cc nL s args own D a A) (w : kW D A s ws H locs) (hl0 : ls.size = nL) {b : Nat} {As : List Value} {Qc : Array Value → State → Outcome → State → Prop}
    (hM : Met l y (Cond.code y bytes maxL none :: wA) rm (va_Pc (.ref b :: As) (kP D a wc H.size)) Qc mc ms (va_A wc H.size)) (g1 : kCI own index y bytes maxL none n) (g2 : kI y) (isC : List Nat) (hC : isC.map (fun i => ws[i]?) = wc.map some) (hnd : va_nd isC = true) (hn : As.length = n) (hrc : rm.cells = mc) (hrs : rm.slots = ms) (hR : rm.frames + 1 ≤ R.frames ∧ 8 + (maxL + 11) + rm.locals ≤ R.locals) (hst : st0 = As.reverse ++ .ref b :: rest) (hro : (rest.map fun v => v.category).sum ≤ 8) (hdg : decode cc pc = .ok (.invokespecial index, 3)) (hf : cells + mc ≤ R.cells ∧ slots + ms ≤ R.slots) :
    va_Run p l e R s m args below meth c H locs cells slots mc ms (F0 m pc ls st0) rest (Qc (Value.ref b :: As).toArray) (va_A wc H.size) :=
  va_runI (As := As) (rest := rest) E.1 hM ⟨g1.b E hrc hrs hR, g2.1, E.1.2.2.2.2 _ g2.2⟩ ⟨kP_blind, kPc E w isC hC hnd⟩ rfl hn hl0 hst (lv_room hro) hdg hf
theorem kx_rV (E : kE p m c cc nL s args own D a A) (w : kW D A s ws H locs) (hl0 : ls.size = nL) {b : Nat} {As : List Value} {Qc : Array Value → State → Outcome → State → Prop}
    (hM : Met l y (Cond.code y bytes maxL ret :: wA) rm (va_Pc (.ref b :: As) (kP D a wc H.size)) Qc mc ms (va_A wc H.size)) {C : String} (g1 : kCI own index y bytes maxL ret n) (g2 : kV C y) (hre : ∃ cell : Cell, H[b]? = some cell ∧ cell.vm.isStatics = false ∧ s.vm.findClass C = some cell.cls) (isC : List Nat) (hC : isC.map (fun i => ws[i]?) = wc.map some) (hnd : va_nd isC = true) (hn : As.length = n) (hrc : rm.cells = mc) (hrs : rm.slots = ms) (hR : rm.frames + 1 ≤ R.frames ∧ 8 + (maxL + 11) + rm.locals ≤ R.locals) (hst : st0 = As.reverse ++ .ref b :: rest) (hro : (rest.map fun v => v.category).sum ≤ 8) (hdg : decode cc pc = .ok (.invokevirtual index, 3)) (hf : cells + mc ≤ R.cells ∧ slots + ms ≤ R.slots) :
    va_Run p l e R s m args below meth c H locs cells slots mc ms (F0 m pc ls st0) rest (Qc (Value.ref b :: As).toArray) (va_A wc H.size) :=
  va_runV (As := As) (rest := rest) E.1 hM ⟨g1.b E hrc hrs hR, E.1.2.2.2.2 _ g2.1, E.1.2.2.2.2 _ g2.2⟩ ⟨kP_blind, hre, kPc E w isC hC hnd⟩ rfl hn hl0 hst (lv_room hro) hdg hf
theorem kx_rS (E : kE p m c cc nL s args own D a A) (w : kW D A s ws H locs) (hl0 : ls.size = nL) {As : List Value} {Qc : Array Value → State → Outcome → State → Prop}
    (hM : Met l y (Cond.code y bytes maxL ret :: wA) rm (va_Pc As (kP D a wc H.size)) Qc mc ms (va_A wc H.size)) (g1 : kCI own index y bytes maxL ret n) (g2 : kS y) (isC : List Nat) (hC : isC.map (fun i => ws[i]?) = wc.map some) (hnd : va_nd isC = true) (hn : As.length = n) (hrc : rm.cells = mc) (hrs : rm.slots = ms) (hR : rm.frames + 1 ≤ R.frames ∧ 8 + (maxL + 11) + rm.locals ≤ R.locals) (hst : st0 = As.reverse ++ rest) (hro : (rest.map fun v => v.category).sum ≤ 8) (hdg : decode cc pc = .ok (.invokestatic index, 3)) (hf : cells + mc ≤ R.cells ∧ slots + ms ≤ R.slots) :
    va_Run p l e R s m args below meth c H locs cells slots mc ms (F0 m pc ls st0) rest (Qc As.toArray) (va_A wc H.size) :=
  va_runS (As := As) (rest := rest) E.1 hM ⟨g1.b E hrc hrs hR, E.1.2.2.2.2 _ g2⟩ ⟨kP_blind, kPc E w isC hC hnd⟩ rfl hn hl0 hst (lv_room hro) hdg hf
/-! behind it -/
theorem kx_v (E : kE p m c cc nL s args own D a A) (w : kW D A s ws H locs) {av : Array Value} {post : va_W → Prop} (isC isR : List Nat) (hC : isC.map (fun i => ws[i]?) = wc.map some) (hR : isR.map (fun i => ws[i]?) = wr.map some) (hnd : kNd isC isR)
    (hr : va_Run p l e R s m args below meth c H locs cells slots mc ms (F0 m pc ls st0) rest (va_Qv post (kB D a (va_A wc H.size)) (va_A wc H.size) av) (va_A wc H.size))
    (kk : ∀ (u : va_W) (H1 : Heap) (locs1 : List Loc), post u → kW D A s (wr ++ u) H1 locs1 → W p l e R s m args below meth c H1 locs1 (cells + mc) (slots + ms) Q (F0 m (pc + 3) ls rest)) : W p l e R s m args below meth c H locs cells slots Q (F0 m pc ls st0) := by
  have hFc := va_free (wc := wc) w.2.1 w.2.2 E.2.2.1 isC hC
  refine va_callv hr w.2.2 (fun q _ h => hFc q h) hFc (fun u t H1 locs1 ht hvm hw hB hz1 hk1 hS => ?_)
  obtain ⟨hP1, hK1, hD1⟩ := hB
  rw [ht] at hP1
  obtain ⟨hP', hD'⟩ := va_join (wr := wr) (w1 := u) w.1 w.2.1 isC isR hC hR hnd.2.1 hnd.2.2 hk1 hFc hP1 hD1
  exact kk u H1 locs1 hw ⟨hP', hD', hS⟩
theorem kx_i (E : kE p m c cc nL s args own D a A) (w : kW D A s ws H locs) {av : Array Value} {post : Int32 → va_W → Prop} (isC isR : List Nat) (hC : isC.map (fun i => ws[i]?) = wc.map some) (hR : isR.map (fun i => ws[i]?) = wr.map some) (hnd : kNd isC isR)
    (hr : va_Run p l e R s m args below meth c H locs cells slots mc ms (F0 m pc ls st0) rest (va_Qi post (kB D a (va_A wc H.size)) (va_A wc H.size) av) (va_A wc H.size))
    (kk : ∀ (r : Int32) (u : va_W) (H1 : Heap) (locs1 : List Loc), post r u → kW D A s (wr ++ u) H1 locs1 → W p l e R s m args below meth c H1 locs1 (cells + mc) (slots + ms) Q (F0 m (pc + 3) ls (.int r :: rest))) : W p l e R s m args below meth c H locs cells slots Q (F0 m pc ls st0) := by
  have hFc := va_free (wc := wc) w.2.1 w.2.2 E.2.2.1 isC hC
  refine va_calli hr w.2.2 (fun q _ h => hFc q h) hFc (fun r u t H1 locs1 ht hvm hw hB hz1 hk1 hS => ?_)
  obtain ⟨hP1, hK1, hD1⟩ := hB
  rw [ht] at hP1
  obtain ⟨hP', hD'⟩ := va_join (wr := wr) (w1 := u) w.1 w.2.1 isC isR hC hR hnd.2.1 hnd.2.2 hk1 hFc hP1 hD1
  exact kk r u H1 locs1 hw ⟨hP', hD', hS⟩
theorem kx_l (E : kE p m c cc nL s args own D a A) (w : kW D A s ws H locs) {av : Array Value} {post : Int64 → va_W → Prop} (isC isR : List Nat) (hC : isC.map (fun i => ws[i]?) = wc.map some) (hR : isR.map (fun i => ws[i]?) = wr.map some) (hnd : kNd isC isR)
    (hr : va_Run p l e R s m args below meth c H locs cells slots mc ms (F0 m pc ls st0) rest (va_Ql post (kB D a (va_A wc H.size)) (va_A wc H.size) av) (va_A wc H.size))
    (kk : ∀ (r : Int64) (u : va_W) (H1 : Heap) (locs1 : List Loc), post r u → kW D A s (wr ++ u) H1 locs1 → W p l e R s m args below meth c H1 locs1 (cells + mc) (slots + ms) Q (F0 m (pc + 3) ls (.long r :: rest))) : W p l e R s m args below meth c H locs cells slots Q (F0 m pc ls st0) := by
  have hFc := va_free (wc := wc) w.2.1 w.2.2 E.2.2.1 isC hC
  refine va_calll hr w.2.2 (fun q _ h => hFc q h) hFc (fun r u t H1 locs1 ht hvm hw hB hz1 hk1 hS => ?_)
  obtain ⟨hP1, hK1, hD1⟩ := hB
  rw [ht] at hP1
  obtain ⟨hP', hD'⟩ := va_join (wr := wr) (w1 := u) w.1 w.2.1 isC isR hC hR hnd.2.1 hnd.2.2 hk1 hFc hP1 hD1
  exact kk r u H1 locs1 hw ⟨hP', hD', hS⟩
/-- an answer that is a cell: post has its address -/
theorem kx_r (E : kE p m c cc nL s args own D a A) (w : kW D A s ws H locs) {av : Array Value} {post : Nat → va_W → Prop} (isC isR : List Nat) (hC : isC.map (fun i => ws[i]?) = wc.map some) (hR : isR.map (fun i => ws[i]?) = wr.map some) (hnd : kNd isC isR)
    (hr : va_Run p l e R s m args below meth c H locs cells slots mc ms (F0 m pc ls st0) rest (va_Qr (fun u : Nat × va_W => post u.1 u.2) (fun u x t => u.1 = x ∧ kB D a (va_A wc H.size) u.2 t) (va_A wc H.size) av) (va_A wc H.size))
    (kk : ∀ (r : Nat) (u : va_W) (H1 : Heap) (locs1 : List Loc), post r u → kW D A s (wr ++ u) H1 locs1 → W p l e R s m args below meth c H1 locs1 (cells + mc) (slots + ms) Q (F0 m (pc + 3) ls (.ref r :: rest))) : W p l e R s m args below meth c H locs cells slots Q (F0 m pc ls st0) := by
  have hFc := va_free (wc := wc) w.2.1 w.2.2 E.2.2.1 isC hC
  refine va_callr hr w.2.2 (fun q _ h => hFc q h) hFc (fun u ra t H1 locs1 ht hvm hw hB hz1 hk1 hS => ?_)
  obtain ⟨e0, hP1, hK1, hD1⟩ := hB
  subst e0
  rw [ht] at hP1
  obtain ⟨hP', hD'⟩ := va_join (wr := wr) (w1 := u.2) w.1 w.2.1 isC isR hC hR hnd.2.1 hnd.2.2 hk1 hFc hP1 hD1
  exact kk u.1 u.2 H1 locs1 hw ⟨hP', hD', hS⟩
/-! a contract's beginning -/
theorem kM {w0 : va_W} {av : List Value} {Qc : (Nat → Prop) → Array Value → State → Outcome → State → Prop} (hy : plainName y.cls = true) (hlen : (lg_sl av).length ≤ maxL)
    (body : ∀ (p : Program) (e : Env) (s : State) (m : MethodId) (below : List Frame) (meth : Method) (c : Code) (A : Nat → Prop) (ls : Array Slot) (H : Heap) (locs : List Loc), kE p m c cc maxL s av.toArray y.cls D a A → meth.sig.returnType = ret → meth.locks = false → meth.name = y.name → kW D A s w0 H locs → lv_has ls maxL (lv_args 0 av) →
      W p l e rm s m av.toArray below meth c H locs 0 0 (MQ below (Qc A) av.toArray s mc ms A) (F0 m 0 ls [])) :
    ∀ sz : Nat, Met l y (Cond.code y cc maxL ret :: wA) rm (va_Pc av (kP D a w0 sz)) (Qc (va_A w0 sz)) mc ms (va_A w0 sz) := by
  intro sz
  refine Met.ofW (cc := cc) (maxL := maxL) (ret := ret) hy rfl ?_
  intro p e s m args below meth c s₁ B hml hv
  obtain ⟨rfl, hsz, hP, hK, hD0, hZ0⟩ := hv
  subst hsz
  have hts := atoms_spec (ws := Cond.code y cc maxL ret :: wA) B.pre
  have hl := lv_entry av (n := maxL) hlen
  rw [lg_entry_eq]
  exact body p e s m below meth c (va_A w0 s.heap.size) _ s.heap [] ⟨⟨B.exec, B.bytes, hml, findClass_of_methodNamed B.named, fun w hw => hts w (List.mem_cons_of_mem _ hw)⟩, hK, fun q h => Or.inr h, hZ0⟩ B.returns B.notSynchronized (name_of_methodNamed B.named B.method).1 ⟨hP, hD0.self (sz := s.heap.size), va_S.rf⟩ hl
/-! a contract's end -/
theorem kx_vret (E : kE p m c cc nL s args own D a A) (w : kW D A s ws H locs) (hr : meth.sig.returnType = none) (hlk : meth.locks = false) {post : va_W → Prop} (hdg : decode cc pc = .ok (.return_, 1)) (hp : post ws) : W p l e R s m args below meth c H locs cells slots (MQ below (va_Qv post (kB D a A) A) args s cells slots A) (F0 m pc ls []) :=
  W.vret E.1.1 E.1.2.1 hr (fun t ht hW => ⟨⟨ws, rfl, hp, by rw [ht]; exact w.1, kK.moved hW.alike E.2.1, w.2.1⟩, w.2.2.F ht⟩) w.2.2.2.2 hdg hlk
theorem kx_iret (E : kE p m c cc nL s args own D a A) (w : kW D A s ws H locs) (hr : meth.sig.returnType = some .int) (hlk : meth.locks = false) {post : Int32 → va_W → Prop} (hdg : decode cc pc = .ok (.ireturn, 1)) {v : Int32} (hp : post v ws) : W p l e R s m args below meth c H locs cells slots (MQ below (va_Qi post (kB D a A) A) args s cells slots A) (F0 m pc ls [.int v]) :=
  W.iret E.1.1 E.1.2.1 hr (fun t ht hW => ⟨⟨v, ws, rfl, hp, by rw [ht]; exact w.1, kK.moved hW.alike E.2.1, w.2.1⟩, w.2.2.F ht⟩) w.2.2.2.2 hdg hlk
theorem kx_zret (E : kE p m c cc nL s args own D a A) (w : kW D A s ws H locs) (hr : meth.sig.returnType = some .boolean) (hlk : meth.locks = false) {post : Int32 → va_W → Prop} (hdg : decode cc pc = .ok (.ireturn, 1)) {v : Int32} (hn : narrow .boolean (.int v) = .int v) (hp : post v ws) : W p l e R s m args below meth c H locs cells slots (MQ below (va_Qi post (kB D a A) A) args s cells slots A) (F0 m pc ls [.int v]) :=
  W.zret E.1.1 E.1.2.1 hr hn (fun t ht hW => ⟨⟨v, ws, rfl, hp, by rw [ht]; exact w.1, kK.moved hW.alike E.2.1, w.2.1⟩, w.2.2.F ht⟩) w.2.2.2.2 hdg hlk
theorem kx_lret (E : kE p m c cc nL s args own D a A) (w : kW D A s ws H locs) (hr : meth.sig.returnType = some .long) (hlk : meth.locks = false) {post : Int64 → va_W → Prop} (hdg : decode cc pc = .ok (.lreturn, 1)) {v : Int64} (hp : post v ws) : W p l e R s m args below meth c H locs cells slots (MQ below (va_Ql post (kB D a A) A) args s cells slots A) (F0 m pc ls [.long v]) :=
  W.lret E.1.1 E.1.2.1 hr (fun t ht hW => ⟨⟨v, ws, rfl, hp, by rw [ht]; exact w.1, kK.moved hW.alike E.2.1, w.2.1⟩, w.2.2.F ht⟩) w.2.2.2.2 hdg hlk
theorem kx_aret (E : kE p m c cc nL s args own D a A) (w : kW D A s ws H locs) {C : String} (hr : meth.sig.returnType = some (.object C)) (hlk : meth.locks = false) {post : Nat → va_W → Prop} (hdg : decode cc pc = .ok (.areturn, 1)) {v : Nat} (hp : post v ws) : W p l e R s m args below meth c H locs cells slots (MQ below (va_Qr (fun u : Nat × va_W => post u.1 u.2) (fun u x t => u.1 = x ∧ kB D a A u.2 t) A) args s cells slots A) (F0 m pc ls [.ref v]) :=
  W.aret E.1.1 E.1.2.1 hr (Or.inl ⟨_, rfl⟩) (Or.inr ⟨_, rfl⟩) (fun t ht hW => ⟨⟨(v, ws), v, rfl, hp, rfl, by rw [ht]; exact w.1, kK.moved hW.alike E.2.1, w.2.1⟩, w.2.2.F ht⟩) w.2.2.2.2 hdg hlk
end KM
section KJ
variable {p : Program} {l : Launch} {e : Env} {R : Room} {s : State} {m : MethodId} {args : Array Value} {below : List Frame} {meth : Method} {c : Code} {H : Heap} {locs : List Loc} {cells slots : Nat} {Q : State → Prop}
variable {cc : ByteArray} {pc : Nat} {ls : Array Slot} {rest : List Value} {D : va_G} {a : Nat → ClassId} {A : Nat → Prop} {nL : Nat} {own : String} {ws : va_W}
theorem kx_mmin (E : kE p m c cc nL s args own D a A) (hl0 : ls.size = nL) {index : Nat} {x y v : Int32} (h1 : Cond.methodLink own index Lib.Math.min.name ∈ wA) (h2 : Cond.static Lib.Math.min.name ∈ wA) (h3 : Cond.initialized "java/lang/Math" ∈ wA) (h4 : Cond.code Lib.Math.min.name Lib.Math.min.code 2 (some .int) ∈ wA) (hf : 1 ≤ R.frames) (hlo : (rest.map fun v => v.category).sum + 13 ≤ R.locals) (hc : cells ≤ R.cells ∧ slots ≤ R.slots) (hdg : decode cc pc = .ok (.invokestatic index, 3)) (hv : (if y < x then y else x) = v)
    (kk : W p l e R s m args below meth c H locs cells slots Q (F0 m (pc + 3) ls (.int v :: rest))) : W p l e R s m args below meth c H locs cells slots Q (F0 m pc ls (.int y :: .int x :: rest)) := by
  subst hv; exact va_mmin E.1.1 E.1.2.1 (E.1.2.2.1.trans hl0.symm) E.1.2.2.2.1 (E.1.2.2.2.2 _ h1) (E.1.2.2.2.2 _ h2) (E.1.2.2.2.2 _ h3) (E.1.2.2.2.2 _ h4) hf hlo hc.1 hc.2 hdg kk
theorem kx_mmax (E : kE p m c cc nL s args own D a A) (hl0 : ls.size = nL) {index : Nat} {x y v : Int32} (h1 : Cond.methodLink own index Lib.Math.max.name ∈ wA) (h2 : Cond.static Lib.Math.max.name ∈ wA) (h3 : Cond.initialized "java/lang/Math" ∈ wA) (h4 : Cond.code Lib.Math.max.name Lib.Math.max.code 2 (some .int) ∈ wA) (hf : 1 ≤ R.frames) (hlo : (rest.map fun v => v.category).sum + 13 ≤ R.locals) (hc : cells ≤ R.cells ∧ slots ≤ R.slots) (hdg : decode cc pc = .ok (.invokestatic index, 3)) (hv : (if x < y then y else x) = v)
    (kk : W p l e R s m args below meth c H locs cells slots Q (F0 m (pc + 3) ls (.int v :: rest))) : W p l e R s m args below meth c H locs cells slots Q (F0 m pc ls (.int y :: .int x :: rest)) := by
  subst hv; exact va_mmax E.1.1 E.1.2.1 (E.1.2.2.1.trans hl0.symm) E.1.2.2.2.1 (E.1.2.2.2.2 _ h1) (E.1.2.2.2.2 _ h2) (E.1.2.2.2.2 _ h3) (E.1.2.2.2.2 _ h4) hf hlo hc.1 hc.2 hdg kk
end KJ
section KY
variable {p : Program} {l : Launch} {e : Env} {R : Room} {s : State} {m : MethodId} {args : Array Value} {below : List Frame} {meth : Method} {c : Code} {H : Heap} {locs : List Loc} {cells slots : Nat} {Q : State → Prop}
variable {cc : ByteArray} {pc : Nat} {ls : Array Slot} {rest : List Value} {D : va_G} {a : Nat → ClassId} {A : Nat → Prop} {nL : Nat} {own : String} {ws : va_W}
/-- System.arraycopy of no ints -/
theorem kx_copy0 (E : kE p m c cc nL s args own D a A) (w : kW D A s ws H locs) (hl0 : ls.size = nL) {index : Nat} (h1 : Cond.methodLink own index arraycopyName ∈ wA) (h2 : Cond.native arraycopyName ∈ wA) (h3 : Cond.static arraycopyName ∈ wA) (h4 : Cond.initialized "java/lang/System" ∈ wA) (q0 q1 : Nat) {x x0 n0 n1 : Nat} {f g : Nat → Int32} (ha0 : ws[q0]? = some (x0, .inl (a 0, n0, .inl f))) (ha1 : ws[q1]? = some (x, .inl (a 0, n1, .inl g))) (hf : 1 ≤ R.frames) (hlo : (rest.map fun v => v.category).sum + (nativeFrameWords "java/lang/System" "arraycopy" 5 + 11) ≤ R.locals) (hdg : decode cc pc = .ok (.invokestatic index, 3)) {ws' : va_W} (hws : ws.set q1 (x, .inl (a 0, n1, .inl (va_cpy f g 0 0 0))) = ws')
    (kk : ∀ (H1 : Heap) (locs1 : List Loc), kW D A s ws' H1 locs1 → W p l e R s m args below meth c H1 locs1 cells slots Q (F0 m (pc + 3) ls rest)) : W p l e R s m args below meth c H locs cells slots Q (F0 m pc ls (.int 0 :: .int 0 :: .ref x :: .int 0 :: .ref x0 :: rest)) := by
  subst hws
  exact va_copyi E.1.1 E.1.2.1 (E.1.2.2.1.trans hl0.symm) E.1.2.2.2.1 (E.1.2.2.2.2 _ h1) (E.1.2.2.2.2 _ h2) (E.1.2.2.2.2 _ h3) (E.1.2.2.2.2 _ h4) E.2.1.1 w.1 w.2.1 w.2.2 q0 q1 0 0 ha0 ha1 rfl rfl rfl (by decide) (by decide) (by decide) (Nat.zero_le _) (Nat.zero_le _) (fun i hi => absurd hi (Nat.not_lt_zero i)) hf hlo hdg (fun H1 l1 hP hD hS => kk H1 l1 ⟨hP, hD, hS⟩)
end KY
