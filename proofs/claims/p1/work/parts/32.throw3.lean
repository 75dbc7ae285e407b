/-! own rows: a call of a method that throws; a static call of a method with handlers of its own -/
section KTB
variable {p : Program} {l : Launch} {e : Env} {R : Room} {s : State} {m : MethodId} {args : Array Value} {below : List Frame} {meth : Method} {c : Code} {H : Heap} {locs : List Loc} {cells slots : Nat} {Q : State → Prop}
variable {cc : ByteArray} {pc : Nat} {ls : Array Slot} {rest st0 : List Value} {D : va_G} {a : Nat → ClassId} {A : Nat → Prop} {nL : Nat} {own : String} {ws : va_W}
variable {y : MethodName} {bytes : ByteArray} {maxL mc ms n index : Nat} {ret : Option FieldType} {rm : Room} {wc wr : va_W}
theorem kt_call (E : kE p m c cc nL s args own D a A) (w : kW D A s ws H locs) (hl0 : ls.size = nL) {b : Nat} {As : List Value} {X : String} {w1 : va_W}
    (hM : kTM l y (Cond.code y bytes maxL ret :: wA) rm (va_Pc (.ref b :: As) (kP D a wc H.size)) D a X w1 (va_A wc H.size) mc ms) {C : String} (g1 : kCI own index y bytes maxL ret n) (g2 : kV C y) (hre : ∃ cell : Cell, H[b]? = some cell ∧ cell.vm.isStatics = false ∧ s.vm.findClass C = some cell.cls) (isC isR : List Nat) (hC : isC.map (fun i => ws[i]?) = wc.map some) (hRr : isR.map (fun i => ws[i]?) = wr.map some) (hnd : kNd isC isR) (hn : As.length = n) (hrc : rm.cells = mc) (hrs : rm.slots = ms) (hR : rm.frames + 1 ≤ R.frames ∧ 8 + (maxL + 11) + rm.locals ≤ R.locals) (hst : st0 = As.reverse ++ .ref b :: rest) (hro : (rest.map fun v => v.category).sum ≤ 8) (hdg : decode cc pc = .ok (.invokevirtual index, 3)) (hf : cells + mc ≤ R.cells ∧ slots + ms ≤ R.slots)
    (kk : ∀ (ce : Cell) (q9 : Nat) (H1 : Heap) (locs1 : List Loc), kW D A s (wr ++ w1) H1 locs1 → H1[q9]? = some ce → ce.vm = .none → s.vm.findClass X = some ce.cls → kTW p l e R s m args below meth c H1 locs1 (cells + mc) (slots + ms) Q (F0 m pc ls rest) q9) : W p l e R s m args below meth c H locs cells slots Q (F0 m pc ls st0) := by
  intro T hT Z
  have hFc := va_free (wc := wc) w.2.1 w.2.2 E.2.2.1 isC hC
  have hdg' : decode c.code pc = .ok (.invokevirtual index, 3) := by rw [E.1.2.1]; exact hdg
  obtain ⟨cellB, hcB, hoB, hclB⟩ := hre
  obtain ⟨mk, methM, hnamed, hmethM, hstM, habM⟩ := Cond.instanceMethod_spec (E.1.2.2.2.2 _ g2.1)
  obtain ⟨methM', cM, hmethM', -, -, hlM, -, -, -, hsigM⟩ := Cond.code_spec hnamed (E.1.2.2.2.2 _ g1.1)
  cases hmethM.symm.trans hmethM'
  have hy : y.cls ≠ "java/lang/invoke/MethodHandle" ∧ y.cls ≠ "java/lang/invoke/VarHandle" := ⟨g1.2.2.2.1, g1.2.2.2.2.1⟩
  have hlen : As.length = (methM.sig).parameters.length := by
    have h2 := g1.2.2.2.2.2
    rw [hsigM] at h2
    exact hn.trans (Option.some.inj h2).symm
  obtain ⟨c2, r2, m2, q1, q2, q3, q4, kQ9, hkP, hkPi⟩ := Cond.selects_spec (E.1.2.2.2.2 _ g2.2)
  cases hclB.symm.trans q1
  cases (State.methodFound?_of_named hnamed hy).symm.trans q2
  cases hnamed.symm.trans q3
  have hselP : selectMethod e.platform s.vm cellB.cls mk = .method mk := by rw [Launch.admits_selectMethod Z.admits]; exact q4
  obtain ⟨vm₁, Z₁, hstep₁⟩ := Z.invokevirtual E.1.1 E.1.2.2.2.1 (E.1.2.2.2.2 _ g1.2.2.1) hnamed hmethM hstM hkP hkPi hy (a := b) (cell := cellB) (by rw [hT]; exact hcB)
    (fun z h => by rw [h] at hoB; cases hoB) hselP hmethM habM hkP hkPi (g := F0 m pc ls st0) rfl (argsL := As) (rest := rest) hlen hst hdg'
  -- the callee
  obtain ⟨U, hU⟩ : ∃ z, z = T.setVm vm₁ := ⟨_, rfl⟩
  rw [← hU] at Z₁ hstep₁
  have hUh : U.heap = H := by rw [hU]; exact hT
  obtain ⟨g, hg⟩ : ∃ z : JFrame, z = F0 m pc ls rest := ⟨_, rfl⟩
  have hgm : g.method = m := by rw [hg]
  have hpcw : va_Pc (.ref b :: As) (kP D a wc H.size) (Value.ref b :: As).toArray (U.calling g mk (Value.ref b :: As).toArray) := kP_blind _ _ _ _ (kPc E w isC hC hnd.1 U hUh Z₁.warmed)
  have ok : ∀ w0 ∈ wA, ∀ a' : Array Value, w0.before a' U = true := fun w0 h0 a' => word_at Z₁.warmed (good_of_word (wA_good _ h0)) (E.1.2.2.2.2 _ h0)
  have h1 : (headSpec (Cond.code y bytes maxL ret :: wA) rm).pre.before (Value.ref b :: As).toArray U = true := atoms_intro fun w0 hw0 => by
    rcases List.mem_cons.mp hw0 with rfl | hw0
    · exact ok _ g1.1 _
    · exact ok _ hw0 _
  have hnU : U.methodNamed? y = some mk := Z₁.named hnamed
  obtain ⟨methY, cY, hmY, hcY, -, hlY, -, -, -, -⟩ := Cond.code_spec hnU (ok _ g1.1 (Value.ref b :: As).toArray)
  obtain ⟨kY, hkY, -⟩ := className_of_methodNamed hnU
  have hinitY : kY.init = .initialized := Cond.initialized_spec (findClass_of_methodNamed hnU) hkY (ok _ g1.2.1 #[])
  have hat : At U g.method c below := by rw [hgm]; exact Z₁.here
  have happ : (headSpec (Cond.code y bytes maxL ret :: wA) rm).appliesLoose y e.platform (U.calling g mk (Value.ref b :: As).toArray) = true :=
    Spec.appliesLoose_calling (g := g) (ig := .invokevirtual index) (len := 3) hat (by rw [hg]; exact hdg') hnU hkY hinitY
      (Z₁.room_calling (g := g) (R' := rm) (by rw [hg]; exact hl0.trans E.1.2.2.1.symm) hmY hcY hR.1 (by rw [hlY, hg]; have h9 := lv_room (m := m) (pc := pc) (ls := ls) (rest := rest) hro; have h8 : ((F0 m pc ls rest).stack.map fun v => v.category).sum = (rest.map fun v => v.category).sum := rfl; omega) (by rw [hrc]; exact hf.1) (by rw [hrs]; exact hf.2)) h1
  obtain ⟨mid, hmid⟩ := hat.above
  have hfr : (U.setTop g).frames = (.java g :: mid) ++ below := by rw [State.frames_setTop' g hat.top, hmid]; rfl
  obtain ⟨o, s₂, hsteps, -, hend, hq⟩ := Steps.callFree hM p Z₁.admits Z₁.cas Z₁.clock (acts := []) hfr happ hpcw trivial
  have hq' : kTQ D a X w1 (va_A wc H.size) mc ms (Value.ref b :: As).toArray (U.calling g mk (Value.ref b :: As).toArray) o s₂ := hq
  obtain ⟨q, ce, L, rfl, hce, hcv, hcl, hW₂, hsm, hL, hB, hF⟩ := hq'
  rw [State.frames_setTop' g hat.top] at hend
  obtain ⟨g₀, hg0⟩ := Option.isSome_iff_exists.mp hat.top
  obtain ⟨r, hr⟩ := State.topJava?_eq_some.mp hg0
  have hr' : (({ U with heap := s₂.heap, slotsUsed := s₂.slotsUsed } : State).setVm s₂.vm).frames = .java g₀ :: r := hr
  obtain ⟨e2, q2, q3, q4, q5, q6⟩ := id hsm
  have e3 : s₂ = ({ (U.calling g mk (Value.ref b :: As).toArray).setFrames s₂.frames with heap := s₂.heap, slotsUsed := s₂.slotsUsed } : State).setVm s₂.vm := by
    have h9 : s₂ = ({ s₂ with vm := (U.calling g mk (Value.ref b :: As).toArray).vm } : State).setVm s₂.vm := rfl
    rw [e2] at h9
    exact h9
  have hf₂ : s₂.frames = .throwing q :: .java g :: U.frames.tail := hend
  have hs₂ : s₂ = ((({ U with heap := s₂.heap, slotsUsed := s₂.slotsUsed } : State).setVm s₂.vm).setTop g).pushFrame (.throwing q) := by
    refine e3.trans ?_
    rw [hf₂, State.calling_eq hat.top, State.setFrames_setFrames, State.pushFrame, State.frames_setTop _ hr', State.setTop_of_frames _ hr', State.setFrames_setFrames, hr]
    rfl
  have hW' : U.WarmedH s₂.vm := hW₂
  have hsame : U.sameButNew ({ U with heap := s₂.heap, slotsUsed := s₂.slotsUsed } : State) L mc ms := by
    refine ⟨?_, q2, q3, q4, q5, q6⟩
    obtain ⟨t, ht, -⟩ := State.frames_cons hr
    show ({ U with heap := s₂.heap, slotsUsed := s₂.slotsUsed } : State) = { U.setFrames U.frames with heap := s₂.heap, slotsUsed := s₂.slotsUsed }
    rw [State.setFrames_self ht]
  have Z₂ : Stand p l e R s m args below meth c (({ U with heap := s₂.heap, slotsUsed := s₂.slotsUsed } : State).setVm s₂.vm) (locs ++ L) (cells + mc) (slots + ms) :=
    ⟨Z₁.admits, Z₁.cas, Z₁.clock, Z₁.frames, Z₁.room, Z₁.hears, Z₁.method, Z₁.code, (Z₁.here.setHeapUsed s₂.heap s₂.slotsUsed).setVm hW'.alike, Z₁.tail, State.WarmedH.trans Z₁.warmed hW', Z₁.limits, Z₁.bytes, Z₁.same.trans (hsame.setVm s.vm)⟩
  -- behind it
  obtain ⟨hP1, hK1, hD1⟩ := hB
  obtain ⟨hz, hk1⟩ := hF
  have hst0 : (U.calling g mk (Value.ref b :: As).toArray).heap = H := hUh
  rw [hst0] at hz hk1
  obtain ⟨hP', hD'⟩ := va_join (wr := wr) (w1 := w1) w.1 w.2.1 isC isR hC hRr hnd.2.1 hnd.2.2 hk1 hFc hP1 hD1
  have hS' : va_S A s.heap s₂.heap (locs ++ L) := ⟨Nat.le_trans w.2.2.1 hz, fun x h1 h2 => (hk1 x (Nat.lt_of_lt_of_le h1 w.2.2.1) (fun z => h2 (hFc x z))).trans (w.2.2.2.1 x h1 h2), fun z hz => (List.mem_append.mp hz).elim (fun h => w.2.2.2.2 z h) (fun h => hFc _ (hL z h))⟩
  have hcls : s.vm.findClass X = some ce.cls := by
    have h9 : U.vm.findClass X = some ce.cls := hcl
    rw [Z₁.warmed.alike.findClass] at h9
    exact h9
  obtain ⟨t, a1, b1⟩ := kk ce q s₂.heap (locs ++ L) ⟨hP', hD', hS'⟩ hce hcv hcls (({ U with heap := s₂.heap, slotsUsed := s₂.slotsUsed } : State).setVm s₂.vm) rfl Z₂
  refine ⟨t, ?_, b1⟩
  refine hstep₁ _ fun acts => ?_
  rw [doInvoke_state]
  show Steps p.tables e below (doInvoke e (U.setTop (F0 m pc ls rest)) [] mk (Value.ref b :: As).toArray).1 t
  rw [← hg]
  refine hsteps.trans ?_
  rw [hs₂]
  rw [← hg] at a1
  exact a1
end KTB
