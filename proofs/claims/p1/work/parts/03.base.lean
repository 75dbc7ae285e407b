/-! own rows: one list of words for every method, one picture of a method's surroundings (kE), one of its world (kW); the kit's rows said over them -/
def wA : List Cond := lw_tbl.filter goodWord
theorem wA_in {w : Cond} (h : w ∈ lw_tbl) (hg : goodWord w = true) : w ∈ wA := List.mem_filter.mpr ⟨h, hg⟩
theorem wA_good : ∀ w ∈ wA, goodWord w = true := fun _ h => (List.mem_filter.mp h).2
theorem wA_sub : ∀ w ∈ wA, w ∈ lw_tbl := fun _ h => (List.mem_filter.mp h).1
theorem wA_GI {c0 : Cond} (h : c0 ∈ wA) : GoodIn wA (c0 :: wA) := fun w hw => by
  rcases List.mem_cons.mp hw with rfl | hw
  · exact ⟨h, good_of_word (wA_good _ h)⟩
  · exact ⟨hw, good_of_word (wA_good _ hw)⟩
abbrev kT (a : Nat → ClassId) : List (ClassId × FieldType) := [(a 0, .int), (a 1, .long), (a 2, .byte), (a 3, .boolean), (a 4, .object "RootAlgebra$Big"), (a 5, .object "RootAlgebra$Value")]
/-- arrays of rows of longs can be made -/
def kJJ (U : State) : Prop := ∃ (comp cA : ClassId) (kA : Class), U.vm.findClass "[J" = some comp ∧ U.vm.classes[cA]? = some kA ∧ kA.kind = .array comp (.array .long) ∧ U.vm.findClass "[[J" = some cA
theorem kJJ.moved {u U : State} (hvm : u.vm.Alike U.vm) (h : kJJ u) : kJJ U := by
  obtain ⟨comp, cA, kA, h1, h2, h3, h4⟩ := h
  obtain ⟨k', hk', he⟩ := hvm.2.2 _ _ h2
  exact ⟨comp, cA, k', by rw [hvm.findClass]; exact h1, hk', by rw [he]; exact h3, by rw [hvm.findClass]; exact h4⟩
/-- which handlers take which exceptions -/
def kCT (E T : String) (U : State) : Prop := va_Nw (.castable E T) U
theorem kCT.moved {E T : String} {u U : State} (hvm : u.vm.Alike U.vm) (h : kCT E T u) : kCT E T U := va_tabs rfl (rfl : (u.setVm U.vm).vm = U.vm) (by rw [Cond.castable_setVm hvm]; exact h)
def kHs (U : State) : Prop := kCT "java/lang/IllegalArgumentException" "java/lang/IllegalArgumentException" U ∧ kCT "java/lang/IllegalStateException" "java/lang/IllegalStateException" U ∧ kCT "java/util/NoSuchElementException" "java/util/NoSuchElementException" U ∧ va_Nc "java/lang/IllegalStateException" "java/lang/IllegalArgumentException" U ∧ va_Nc "java/util/NoSuchElementException" "java/lang/IllegalArgumentException" U
theorem kHs.moved {u U : State} (hvm : u.vm.Alike U.vm) (h : kHs u) : kHs U := ⟨h.1.moved hvm, h.2.1.moved hvm, h.2.2.1.moved hvm, h.2.2.2.1.moved hvm, h.2.2.2.2.moved hvm⟩
def kK (D : va_G) (a : Nat → ClassId) (U : State) : Prop := va_K D zCl (kT a) U ∧ va_AO "RootAlgebra$Big" U ∧ va_AO "RootAlgebra$Value" U ∧ kJJ U ∧ kHs U
theorem kK.moved {D : va_G} {a : Nat → ClassId} {u U : State} (h : u.vm.Alike U.vm) (k : kK D a u) : kK D a U := ⟨va_K.moved h k.1, va_AO.moved h k.2.1, va_AO.moved h k.2.2.1, k.2.2.2.1.moved h, k.2.2.2.2.moved h⟩
/-- the two statics of Throwable that a throw reads; their class's cell isn't ours -/
def kZ (A : Nat → Prop) (U : State) (H : Heap) : Prop := zS "UNASSIGNED_STACK" "[Ljava/lang/StackTraceElement;" A U H ∧ zS "SUPPRESSED_SENTINEL" "Ljava/util/List;" A U H
theorem kZ.moved {A : Nat → Prop} {u U : State} {H : Heap} (hvm : u.vm.Alike U.vm) (h : kZ A u H) : kZ A U H := ⟨h.1.moved hvm, h.2.moved hvm⟩
theorem kZ.kept {A : Nat → Prop} {U : State} {H H1 : Heap} (h : kZ A U H) (hq : ∀ a : Nat, a < H.size → ¬ A a → H1[a]? = H[a]?) : kZ A U H1 := ⟨h.1.kept hq, h.2.kept hq⟩
theorem kZ.narrow {A B : Nat → Prop} {U : State} {H : Heap} (h : kZ A U H) (hAB : ∀ q, B q → A q) : kZ B U H := ⟨h.1.narrow hAB, h.2.narrow hAB⟩
def kE (p : Program) (m : MethodId) (c : Code) (cc : ByteArray) (nL : Nat) (s : State) (args : Array Value) (own : String) (D : va_G) (a : Nat → ClassId) (A : Nat → Prop) : Prop :=
  CallFix p m c cc nL s args wA own ∧ kK D a s ∧ (∀ q : Nat, s.heap.size ≤ q → A q) ∧ kZ A s s.heap
def kW (D : va_G) (A : Nat → Prop) (s : State) (ws : va_W) (H : Heap) (locs : List Loc) : Prop := va_P D zCl ws H ∧ va_D A ws ∧ va_S A s.heap H locs
def kP (D : va_G) (a : Nat → ClassId) (ws : va_W) (sz : Nat) : State → Prop := fun U => U.heap.size = sz ∧ va_P D zCl ws U.heap ∧ kK D a U ∧ va_D (fun _ => True) ws ∧ kZ (va_A ws sz) U U.heap
def kB (D : va_G) (a : Nat → ClassId) (A : Nat → Prop) : va_W → State → Prop := fun ws t => va_P D zCl ws t.heap ∧ kK D a t ∧ va_D A ws
theorem kP_blind {av : List Value} {D : va_G} {a : Nat → ClassId} {ws : va_W} {sz : Nat} : FrameBlind (va_Pc av (kP D a ws sz)) := fun _ U g mk q => ⟨q.1, q.2.1, q.2.2.1, kK.moved (u := U) (U := U.calling g mk _) (Vm.Alike.refl U.vm) q.2.2.2.1, q.2.2.2.2.1, kZ.moved (u := U) (U := U.calling g mk _) (Vm.Alike.refl U.vm) q.2.2.2.2.2⟩
theorem kRA_inj {U : State} {c1 c2 : ClassId} {ty : FieldType} (h1 : va_RA U c1 ty) (h2 : va_RA U c2 ty) : c1 = c2 := by
  cases ty with
  | object C =>
    obtain ⟨_, _, _, _, _, e1⟩ := h1
    obtain ⟨_, _, _, _, _, e2⟩ := h2
    exact Option.some.inj (e1.symm.trans e2)
  | _ =>
    have e1 : U.vm.findClass _ = some c1 := h1
    have e2 : U.vm.findClass _ = some c2 := h2
    exact Option.some.inj (e1.symm.trans e2)
/-! worlds: fewer cells, in any order -/
theorem kW_sub {D : va_G} {A : Nat → Prop} {s : State} {ws ws' : va_W} {H : Heap} {locs : List Loc} (w : kW D A s ws H locs) (is : List Nat) (hn : va_nd is = true) (hs : is.map (fun i => ws[i]?) = ws'.map some) : kW D A s ws' H locs :=
  ⟨fun k q hk => by obtain ⟨i, _, hi⟩ := va_in_of is hs hk; exact w.1 i q hi, w.2.1.sub is hn hs, w.2.2⟩
theorem kW_drop {D : va_G} {A : Nat → Prop} {s : State} {ws x : va_W} {H : Heap} {locs : List Loc} (w : kW D A s (ws ++ x) H locs) : kW D A s ws H locs := by
  have key : ∀ (k : Nat) (q : Nat × va_E), ws[k]? = some q → (ws ++ x)[k]? = some q := fun k q hk => by
    rw [List.getElem?_append_left (List.getElem?_eq_some_iff.mp hk).1]; exact hk
  exact ⟨fun k q hk => w.1 k q (key k q hk), ⟨fun i j p q hi hj => w.2.1.1 i j p q (key i p hi) (key j q hj), fun k q hk => w.2.1.2 k q (key k q hk)⟩, w.2.2⟩
/-- what is known of a class of ours -/
def kCl (ci : Nat) (C : String) (T : u_T) (N : Nat) (ty : Nat → FieldType) : Prop := zCl[ci]? = some (C, T, N) ∧ (∀ w ∈ u_ws C T N, w ∈ wA) ∧ (∀ k, k < N → parseFieldDescriptor (T k).2.2.1 = some (ty k)) ∧ ∀ a, a < N → ∀ b, b < N → a ≠ b → (T a).2.1 ≠ (T b).2.1
section KX
variable {p : Program} {l : Launch} {e : Env} {R : Room} {s : State} {m : MethodId} {args : Array Value} {below : List Frame} {meth : Method} {c : Code} {H : Heap} {locs : List Loc} {cells slots : Nat} {Q : State → Prop}
variable {cc : ByteArray} {pc : Nat} {ls : Array Slot} {rest : List Value} {D : va_G} {a : Nat → ClassId} {A : Nat → Prop} {nL : Nat} {own : String} {ws : va_W}
/-! numbers -/
theorem kx_iadd (hx : p.tables.exec = Jvm.exec) (hb : c.code = cc) {x y v : Int32} (hdg : decode cc pc = .ok (.iadd, 1)) (hv : x + y = v) (k : W p l e R s m args below meth c H locs cells slots Q (F0 m (pc + 1) ls (.int v :: rest))) : W p l e R s m args below meth c H locs cells slots Q (F0 m pc ls (.int y :: .int x :: rest)) := by subst hv; exact lv_iadd hx hb hdg k
theorem kx_isub (hx : p.tables.exec = Jvm.exec) (hb : c.code = cc) {x y v : Int32} (hdg : decode cc pc = .ok (.isub, 1)) (hv : x - y = v) (k : W p l e R s m args below meth c H locs cells slots Q (F0 m (pc + 1) ls (.int v :: rest))) : W p l e R s m args below meth c H locs cells slots Q (F0 m pc ls (.int y :: .int x :: rest)) := by subst hv; exact lv_isub hx hb hdg k
theorem kx_imul (hx : p.tables.exec = Jvm.exec) (hb : c.code = cc) {x y v : Int32} (hdg : decode cc pc = .ok (.imul, 1)) (hv : x * y = v) (k : W p l e R s m args below meth c H locs cells slots Q (F0 m (pc + 1) ls (.int v :: rest))) : W p l e R s m args below meth c H locs cells slots Q (F0 m pc ls (.int y :: .int x :: rest)) := by subst hv; exact lv_imul hx hb hdg k
theorem kx_iand (hx : p.tables.exec = Jvm.exec) (hb : c.code = cc) {x y v : Int32} (hdg : decode cc pc = .ok (.iand, 1)) (hv : x &&& y = v) (k : W p l e R s m args below meth c H locs cells slots Q (F0 m (pc + 1) ls (.int v :: rest))) : W p l e R s m args below meth c H locs cells slots Q (F0 m pc ls (.int y :: .int x :: rest)) := by subst hv; exact lv_iand hx hb hdg k
theorem kx_idiv (hx : p.tables.exec = Jvm.exec) (hb : c.code = cc) {x y v : Int32} (hdg : decode cc pc = .ok (.idiv, 1)) (hne : ¬ y = 0) (hv : x / y = v) (k : W p l e R s m args below meth c H locs cells slots Q (F0 m (pc + 1) ls (.int v :: rest))) : W p l e R s m args below meth c H locs cells slots Q (F0 m pc ls (.int y :: .int x :: rest)) := by subst hv; exact lv_idiv hx hb hdg hne k
theorem kx_irem (hx : p.tables.exec = Jvm.exec) (hb : c.code = cc) {x y v : Int32} (hdg : decode cc pc = .ok (.irem, 1)) (hne : ¬ y = 0) (hv : x - x / y * y = v) (k : W p l e R s m args below meth c H locs cells slots Q (F0 m (pc + 1) ls (.int v :: rest))) : W p l e R s m args below meth c H locs cells slots Q (F0 m pc ls (.int y :: .int x :: rest)) := by subst hv; exact lv_irem hx hb hdg hne k
theorem kx_ineg (hx : p.tables.exec = Jvm.exec) (hb : c.code = cc) {x v : Int32} (hdg : decode cc pc = .ok (.ineg, 1)) (hv : -x = v) (k : W p l e R s m args below meth c H locs cells slots Q (F0 m (pc + 1) ls (.int v :: rest))) : W p l e R s m args below meth c H locs cells slots Q (F0 m pc ls (.int x :: rest)) := by subst hv; exact lv_ineg hx hb hdg k
theorem kx_ladd (hx : p.tables.exec = Jvm.exec) (hb : c.code = cc) {x y v : Int64} (hdg : decode cc pc = .ok (.ladd, 1)) (hv : x + y = v) (k : W p l e R s m args below meth c H locs cells slots Q (F0 m (pc + 1) ls (.long v :: rest))) : W p l e R s m args below meth c H locs cells slots Q (F0 m pc ls (.long y :: .long x :: rest)) := by subst hv; exact lv_ladd hx hb hdg k
theorem kx_lsub (hx : p.tables.exec = Jvm.exec) (hb : c.code = cc) {x y v : Int64} (hdg : decode cc pc = .ok (.lsub, 1)) (hv : x - y = v) (k : W p l e R s m args below meth c H locs cells slots Q (F0 m (pc + 1) ls (.long v :: rest))) : W p l e R s m args below meth c H locs cells slots Q (F0 m pc ls (.long y :: .long x :: rest)) := by subst hv; exact lv_lsub hx hb hdg k
theorem kx_lmul (hx : p.tables.exec = Jvm.exec) (hb : c.code = cc) {x y v : Int64} (hdg : decode cc pc = .ok (.lmul, 1)) (hv : x * y = v) (k : W p l e R s m args below meth c H locs cells slots Q (F0 m (pc + 1) ls (.long v :: rest))) : W p l e R s m args below meth c H locs cells slots Q (F0 m pc ls (.long y :: .long x :: rest)) := by subst hv; exact lv_lmul hx hb hdg k
theorem kx_land (hx : p.tables.exec = Jvm.exec) (hb : c.code = cc) {x y v : Int64} (hdg : decode cc pc = .ok (.land, 1)) (hv : x &&& y = v) (k : W p l e R s m args below meth c H locs cells slots Q (F0 m (pc + 1) ls (.long v :: rest))) : W p l e R s m args below meth c H locs cells slots Q (F0 m pc ls (.long y :: .long x :: rest)) := by subst hv; exact lv_land hx hb hdg k
theorem kx_lor (hx : p.tables.exec = Jvm.exec) (hb : c.code = cc) {x y v : Int64} (hdg : decode cc pc = .ok (.lor, 1)) (hv : x ||| y = v) (k : W p l e R s m args below meth c H locs cells slots Q (F0 m (pc + 1) ls (.long v :: rest))) : W p l e R s m args below meth c H locs cells slots Q (F0 m pc ls (.long y :: .long x :: rest)) := by subst hv; exact lv_lor hx hb hdg k
theorem kx_ldiv (hx : p.tables.exec = Jvm.exec) (hb : c.code = cc) {x y v : Int64} (hdg : decode cc pc = .ok (.ldiv, 1)) (hne : ¬ y = 0) (hv : x / y = v) (k : W p l e R s m args below meth c H locs cells slots Q (F0 m (pc + 1) ls (.long v :: rest))) : W p l e R s m args below meth c H locs cells slots Q (F0 m pc ls (.long y :: .long x :: rest)) := by subst hv; exact lv_ldiv hx hb hdg hne k
theorem kx_lrem (hx : p.tables.exec = Jvm.exec) (hb : c.code = cc) {x y v : Int64} (hdg : decode cc pc = .ok (.lrem, 1)) (hne : ¬ y = 0) (hv : x - x / y * y = v) (k : W p l e R s m args below meth c H locs cells slots Q (F0 m (pc + 1) ls (.long v :: rest))) : W p l e R s m args below meth c H locs cells slots Q (F0 m pc ls (.long y :: .long x :: rest)) := by subst hv; exact lv_lrem hx hb hdg hne k
theorem kx_lneg (hx : p.tables.exec = Jvm.exec) (hb : c.code = cc) {x v : Int64} (hdg : decode cc pc = .ok (.lneg, 1)) (hv : -x = v) (k : W p l e R s m args below meth c H locs cells slots Q (F0 m (pc + 1) ls (.long v :: rest))) : W p l e R s m args below meth c H locs cells slots Q (F0 m pc ls (.long x :: rest)) := by subst hv; exact lv_lneg hx hb hdg k
theorem kx_ishl (hx : p.tables.exec = Jvm.exec) (hb : c.code = cc) {x y v : Int32} (hdg : decode cc pc = .ok (.ishl, 1)) (hv : x <<< (y &&& 31) = v) (k : W p l e R s m args below meth c H locs cells slots Q (F0 m (pc + 1) ls (.int v :: rest))) : W p l e R s m args below meth c H locs cells slots Q (F0 m pc ls (.int y :: .int x :: rest)) := by subst hv; exact lv_ishl hx hb hdg k
theorem kx_ishr (hx : p.tables.exec = Jvm.exec) (hb : c.code = cc) {x y v : Int32} (hdg : decode cc pc = .ok (.ishr, 1)) (hv : x >>> (y &&& 31) = v) (k : W p l e R s m args below meth c H locs cells slots Q (F0 m (pc + 1) ls (.int v :: rest))) : W p l e R s m args below meth c H locs cells slots Q (F0 m pc ls (.int y :: .int x :: rest)) := by subst hv; exact lv_ishr hx hb hdg k
theorem kx_lcmp (hx : p.tables.exec = Jvm.exec) (hb : c.code = cc) {x y : Int64} {v : Int32} (hdg : decode cc pc = .ok (.lcmp, 1)) (hv : lg_cmp x y = v) (k : W p l e R s m args below meth c H locs cells slots Q (F0 m (pc + 1) ls (.int v :: rest))) : W p l e R s m args below meth c H locs cells slots Q (F0 m pc ls (.long y :: .long x :: rest)) := by subst hv; exact W.lcmp hx hb hdg k
/-! fields -/
theorem kx_get (E : kE p m c cc nL s args own D a A) (w : kW D A s ws H locs) {ci : Nat} {C : String} {T : u_T} {N : Nat} {ty : Nat → FieldType} (F : kCl ci C T N ty) (q0 : Nat) {x : Nat} {fs : List Value} (he : ws[q0]? = some (x, .inr (ci, fs))) (k : Nat) (hk : k < N) {index : Nat} (hl : Cond.fieldLink own index (T k).1 (T k).2.1 (T k).2.2.1 ∈ wA) {v : Value} (hv : fs[k]? = some v) (hdg : decode cc pc = .ok (.getfield index, 3))
    (kk : W p l e R s m args below meth c H locs cells slots Q (F0 m (pc + 3) ls (v :: rest))) : W p l e R s m args below meth c H locs cells slots Q (F0 m pc ls (.ref x :: rest)) :=
  va_get E.1.1 E.1.2.1 E.1.2.2.2.2 F.2.1 E.1.2.2.2.1 E.2.1.1 w.1 q0 he F.1 k hk (E.1.2.2.2.2 _ hl) (fun _ h => h) hv hdg kk
theorem kx_put (E : kE p m c cc nL s args own D a A) (w : kW D A s ws H locs) {ci : Nat} {C : String} {T : u_T} {N : Nat} {ty : Nat → FieldType} (F : kCl ci C T N ty) (q0 : Nat) {x : Nat} {fs : List Value} (he : ws[q0]? = some (x, .inr (ci, fs))) (k : Nat) (hk : k < N) {index : Nat} (hl : Cond.fieldLink own index (T k).1 (T k).2.1 (T k).2.2.1 ∈ wA) (hfin : (T k).2.2.2 = false) {v : Value} (hn : narrow (ty k) v = v) (hfit : fits (ty k) v = true) (hlen : k < fs.length) (hdg : decode cc pc = .ok (.putfield index, 3)) {ws' : va_W} (hws : ws.set q0 (x, .inr (ci, fs.set k v)) = ws')
    (kk : ∀ (H1 : Heap) (locs1 : List Loc), kW D A s ws' H1 locs1 → W p l e R s m args below meth c H1 locs1 cells slots Q (F0 m (pc + 3) ls rest)) : W p l e R s m args below meth c H locs cells slots Q (F0 m pc ls (v :: .ref x :: rest)) := by
  subst hws
  exact va_put E.1.1 E.1.2.1 E.1.2.2.2.2 F.2.1 ty F.2.2.1 F.2.2.2 E.1.2.2.2.1 E.2.1.1 w.1 w.2.1 w.2.2 q0 he F.1 k hk (E.1.2.2.2.2 _ hl) (fun _ h => h) hfin (F.2.2.1 k hk) hn hfit hlen hdg (fun H1 l1 hP hD hS => kk H1 l1 ⟨hP, hD, hS⟩)
theorem kx_putF (E : kE p m c cc nL s args own D a A) (w : kW D A s ws H locs) {ci : Nat} {C : String} {T : u_T} {N : Nat} {ty : Nat → FieldType} (F : kCl ci C T N ty) (hin2 : meth.name = "<init>") (q0 : Nat) {x : Nat} {fs : List Value} (he : ws[q0]? = some (x, .inr (ci, fs))) (k : Nat) (hk : k < N) {index : Nat} (hl : Cond.fieldLink own index (T k).1 (T k).2.1 (T k).2.2.1 ∈ wA) (hfin : (T k).2.2.2 = true) (hdecl : (T k).1 = own) {v : Value} (hn : narrow (ty k) v = v) (hfit : fits (ty k) v = true) (hlen : k < fs.length) (hdg : decode cc pc = .ok (.putfield index, 3)) {ws' : va_W} (hws : ws.set q0 (x, .inr (ci, fs.set k v)) = ws')
    (kk : ∀ (H1 : Heap) (locs1 : List Loc), kW D A s ws' H1 locs1 → W p l e R s m args below meth c H1 locs1 cells slots Q (F0 m (pc + 3) ls rest)) : W p l e R s m args below meth c H locs cells slots Q (F0 m pc ls (v :: .ref x :: rest)) := by
  subst hws
  exact va_putF E.1.1 E.1.2.1 E.1.2.2.2.2 F.2.1 ty F.2.2.1 F.2.2.2 E.1.2.2.2.1 E.2.1.1 w.1 w.2.1 w.2.2 q0 he F.1 k hk (E.1.2.2.2.2 _ hl) (fun _ h => h) hfin hin2 hdecl (F.2.2.1 k hk) hn hfit hlen hdg (fun H1 l1 hP hD hS => kk H1 l1 ⟨hP, hD, hS⟩)
/-! making -/
theorem kx_new (E : kE p m c cc nL s args own D a A) (w : kW D A s ws H locs) {ci : Nat} {C : String} {T : u_T} {N : Nat} {ty : Nat → FieldType} (F : kCl ci C T N ty) {index : Nat} (hcl : Cond.classLink own index C ∈ wA) (hinst : Cond.instantiable C N ∈ wA) (hini : Cond.initialized C ∈ wA) {fs : List Value} (hfs : ∀ j, j < N → defaultValue (ty j) = vp_V fs j) (hcells : cells + 1 ≤ R.cells) (hslots : slots + N ≤ R.slots) (hdg : decode cc pc = .ok (.new index, 3))
    (kk : ∀ (q : Nat) (H1 : Heap), kW D A s (ws ++ [(q, .inr (ci, fs))]) H1 locs → W p l e R s m args below meth c H1 locs (cells + 1) (slots + N) Q (F0 m (pc + 3) ls (.ref q :: rest))) : W p l e R s m args below meth c H locs cells slots Q (F0 m pc ls rest) :=
  va_new E.1.1 E.1.2.1 E.1.2.2.2.2 F.2.1 ty F.2.2.1 E.1.2.2.2.1 (E.1.2.2.2.2 _ hcl) (E.1.2.2.2.2 _ hinst) (E.1.2.2.2.2 _ hini) E.2.1.1 w.1 w.2.1 w.2.2 E.2.2.1 F.1 hfs hcells hslots hdg (fun q H1 hP hD hS => kk q H1 ⟨hP, hD, hS⟩)
theorem kx_newa (E : kE p m c cc nL s args own D a A) (w : kW D A s ws H locs) {atype : ArrayType} {ty : FieldType} (hty : newarray.typeOf atype = ty) (harr : Cond.arrayClass (newarray.typeOf atype) ∈ wA) (t0 : Nat) {cA : ClassId} (ht : (kT a)[t0]? = some (cA, ty)) {n : Int32} {N' : Nat} {a0 : vp_A} (ha : ∀ cA : ClassId, vp_cell cA a0 = arrV cA N' (fun _ => defaultValue ty)) (hn : ¬ n < 0) (hN : n.toNatClampNeg = N') (hbytes : N' * componentBytes ty ≤ 536870912) (hcells : cells + 1 ≤ R.cells) (hslots : slots + N' ≤ R.slots) (hdg : decode cc pc = .ok (.newarray atype, 2))
    (kk : ∀ (q : Nat) (H1 : Heap), kW D A s (ws ++ [(q, .inl (cA, a0))]) H1 locs → W p l e R s m args below meth c H1 locs (cells + 1) (slots + N') Q (F0 m (pc + 2) ls (.ref q :: rest))) : W p l e R s m args below meth c H locs cells slots Q (F0 m pc ls (.int n :: rest)) :=
  va_newa E.1.1 E.1.2.1 (E.1.2.2.2.2 _ harr) hty E.2.1.1 w.1 w.2.1 w.2.2 E.2.2.1 ha hn hN hbytes hcells hslots hdg (fun q c1 H1 hK hP hD hS => by
    have h1 : va_RA s c1 ty := (hK.2 6 (c1, ty) rfl).2
    have h2 : va_RA s cA ty := (E.2.1.1.2 t0 _ ht).2
    have e1 := kRA_inj h1 h2
    subst e1
    exact kk q H1 ⟨hP, hD, hS⟩)
/-- .. that nobody reads -/
theorem kx_newa0 (E : kE p m c cc nL s args own D a A) (w : kW D A s ws H locs) {atype : ArrayType} {ty : FieldType} (hty : newarray.typeOf atype = ty) (harr : Cond.arrayClass (newarray.typeOf atype) ∈ wA) {n : Int32} {N' : Nat} {a0 : vp_A} (ha : ∀ cA : ClassId, vp_cell cA a0 = arrV cA N' (fun _ => defaultValue ty)) (hn : ¬ n < 0) (hN : n.toNatClampNeg = N') (hbytes : N' * componentBytes ty ≤ 536870912) (hcells : cells + 1 ≤ R.cells) (hslots : slots + N' ≤ R.slots) (hdg : decode cc pc = .ok (.newarray atype, 2))
    (kk : ∀ (q : Nat) (H1 : Heap), kW D A s ws H1 locs → W p l e R s m args below meth c H1 locs (cells + 1) (slots + N') Q (F0 m (pc + 2) ls (.ref q :: rest))) : W p l e R s m args below meth c H locs cells slots Q (F0 m pc ls (.int n :: rest)) :=
  va_newa E.1.1 E.1.2.1 (E.1.2.2.2.2 _ harr) hty E.2.1.1 w.1 w.2.1 w.2.2 E.2.2.1 ha hn hN hbytes hcells hslots hdg (fun q c1 H1 hK hP hD hS => kk q H1 (kW_drop (x := [(q, .inl (c1, a0))]) ⟨hP, hD, hS⟩))
theorem kx_newq (E : kE p m c cc nL s args own D a A) (w : kW D A s ws H locs) {C : String} {index : Nat} (hcl : Cond.classLink own index C ∈ wA) (hover : va_AO C s) (t0 : Nat) {cA : ClassId} (ht : (kT a)[t0]? = some (cA, .object C)) {n : Int32} {N' : Nat} (hn : ¬ n < 0) (hN : n.toNatClampNeg = N') (hbytes : N' * 4 ≤ 536870912) (hcells : cells + 1 ≤ R.cells) (hslots : slots + N' ≤ R.slots) (hdg : decode cc pc = .ok (.anewarray index, 3))
    (kk : ∀ (q : Nat) (H1 : Heap), kW D A s (ws ++ [(q, .inl (cA, N', .inr (.inr (.inr (.inr (fun _ => none))))))]) H1 locs → W p l e R s m args below meth c H1 locs (cells + 1) (slots + N') Q (F0 m (pc + 3) ls (.ref q :: rest))) : W p l e R s m args below meth c H locs cells slots Q (F0 m pc ls (.int n :: rest)) :=
  va_newq E.1.1 E.1.2.1 E.1.2.2.2.1 (E.1.2.2.2.2 _ hcl) hover E.2.1.1 w.1 w.2.1 w.2.2 E.2.2.1 hn hN hbytes hcells hslots hdg (fun q c1 H1 hK hP hD hS => by
    have h1 : va_RA s c1 (.object C) := (hK.2 6 (c1, .object C) rfl).2
    have h2 : va_RA s cA (.object C) := (E.2.1.1.2 t0 _ ht).2
    have e1 := kRA_inj h1 h2
    subst e1
    exact kk q H1 ⟨hP, hD, hS⟩)
theorem kx_obj (E : kE p m c cc nL s args own D a A) (hl0 : ls.size = nL) {idx : Nat} (h1 : Cond.methodLink own idx Lib.objectInit ∈ wA) (h2 : Cond.instanceMethod Lib.objectInit ∈ wA) (h3 : Cond.code Lib.objectInit ⟨#[0xb1]⟩ 1 none ∈ wA) {x : Nat} (hdg : decode cc pc = .ok (.invokespecial idx, 3)) (hf : 1 ≤ R.frames) (hlo : 20 ≤ R.locals) (hr : (rest.map fun v => v.category).sum ≤ 8)
    (kk : W p l e R s m args below meth c H locs cells slots Q (F0 m (pc + 3) ls rest)) : W p l e R s m args below meth c H locs cells slots Q (F0 m pc ls (.ref x :: rest)) :=
  W.objInit E.1.1 E.1.2.1 E.1.2.2.2.1 (E.1.2.2.2.2 _ h1) (E.1.2.2.2.2 _ h2) (E.1.2.2.2.2 _ h3) rfl (hl0.trans E.1.2.2.1.symm) rfl hdg hf (by have := lv_room (m := m) (pc := pc) (ls := ls) (rest := .ref x :: rest) hr; omega) kk
/-! arrays -/
theorem kx_iald (E : kE p m c cc nL s args own D a A) (w : kW D A s ws H locs) (q0 : Nat) {x n : Nat} {f : Nat → Int32} (ha : ws[q0]? = some (x, .inl (a 0, n, .inl f))) {i : Int32} (hin : vp_in i n) {v : Int32} (hv : f i.toNatClampNeg = v) (hdg : decode cc pc = .ok (.iaload, 1)) (kk : W p l e R s m args below meth c H locs cells slots Q (F0 m (pc + 1) ls (.int v :: rest))) : W p l e R s m args below meth c H locs cells slots Q (F0 m pc ls (.int i :: .ref x :: rest)) := by
  subst hv; exact va_iald E.1.1 E.1.2.1 E.2.1.1 w.1 q0 0 ha rfl hin hdg kk
theorem kx_bald (E : kE p m c cc nL s args own D a A) (w : kW D A s ws H locs) (q0 : Nat) {x n : Nat} {f : Nat → Int32} (ha : ws[q0]? = some (x, .inl (a 2, n, .inl f))) {i : Int32} (hin : vp_in i n) {v : Int32} (hv : f i.toNatClampNeg = v) (hdg : decode cc pc = .ok (.baload, 1)) (kk : W p l e R s m args below meth c H locs cells slots Q (F0 m (pc + 1) ls (.int v :: rest))) : W p l e R s m args below meth c H locs cells slots Q (F0 m pc ls (.int i :: .ref x :: rest)) := by
  subst hv; exact va_bald E.1.1 E.1.2.1 E.2.1.1 w.1 q0 2 ha rfl hin hdg kk
theorem kx_zald (E : kE p m c cc nL s args own D a A) (w : kW D A s ws H locs) (q0 : Nat) {x n : Nat} {f : Nat → Int32} (ha : ws[q0]? = some (x, .inl (a 3, n, .inl f))) {i : Int32} (hin : vp_in i n) {v : Int32} (hv : f i.toNatClampNeg = v) (hdg : decode cc pc = .ok (.baload, 1)) (kk : W p l e R s m args below meth c H locs cells slots Q (F0 m (pc + 1) ls (.int v :: rest))) : W p l e R s m args below meth c H locs cells slots Q (F0 m pc ls (.int i :: .ref x :: rest)) := by
  subst hv; exact va_zald E.1.1 E.1.2.1 E.2.1.1 w.1 q0 3 ha rfl hin hdg kk
theorem kx_lald (E : kE p m c cc nL s args own D a A) (w : kW D A s ws H locs) (q0 : Nat) {x n : Nat} {f : Nat → Int64} (ha : ws[q0]? = some (x, .inl (a 1, n, .inr (.inl f)))) {i : Int32} (hin : vp_in i n) {v : Int64} (hv : f i.toNatClampNeg = v) (hdg : decode cc pc = .ok (.laload, 1)) (kk : W p l e R s m args below meth c H locs cells slots Q (F0 m (pc + 1) ls (.long v :: rest))) : W p l e R s m args below meth c H locs cells slots Q (F0 m pc ls (.int i :: .ref x :: rest)) := by
  subst hv; exact va_lald E.1.1 E.1.2.1 E.2.1.1 w.1 q0 1 ha rfl hin hdg kk
theorem kx_iast (E : kE p m c cc nL s args own D a A) (w : kW D A s ws H locs) (q0 : Nat) {x n : Nat} {f : Nat → Int32} (ha : ws[q0]? = some (x, .inl (a 0, n, .inl f))) {i z : Int32} (hin : vp_in i n) (k : Nat) (hk : i.toNatClampNeg = k) (hdg : decode cc pc = .ok (.iastore, 1)) {ws' : va_W} (hws : ws.set q0 (x, .inl (a 0, n, .inl (upd f k z))) = ws')
    (kk : ∀ (H1 : Heap) (locs1 : List Loc), kW D A s ws' H1 locs1 → W p l e R s m args below meth c H1 locs1 cells slots Q (F0 m (pc + 1) ls rest)) : W p l e R s m args below meth c H locs cells slots Q (F0 m pc ls (.int z :: .int i :: .ref x :: rest)) := by
  subst hk; subst hws; exact va_iast E.1.1 E.1.2.1 E.2.1.1 w.1 w.2.1 w.2.2 q0 0 ha rfl hin hdg (fun H1 l1 hP hD hS => kk H1 l1 ⟨hP, hD, hS⟩)
theorem kx_bast (E : kE p m c cc nL s args own D a A) (w : kW D A s ws H locs) (q0 : Nat) {x n : Nat} {f : Nat → Int32} (ha : ws[q0]? = some (x, .inl (a 2, n, .inl f))) {i z z' : Int32} (hin : vp_in i n) (k : Nat) (hk : i.toNatClampNeg = k) (hz : vp_nar .byte z = z') (hdg : decode cc pc = .ok (.bastore, 1)) {ws' : va_W} (hws : ws.set q0 (x, .inl (a 2, n, .inl (upd f k z'))) = ws')
    (kk : ∀ (H1 : Heap) (locs1 : List Loc), kW D A s ws' H1 locs1 → W p l e R s m args below meth c H1 locs1 cells slots Q (F0 m (pc + 1) ls rest)) : W p l e R s m args below meth c H locs cells slots Q (F0 m pc ls (.int z :: .int i :: .ref x :: rest)) := by
  subst hk; subst hz; subst hws; exact va_bast E.1.1 E.1.2.1 E.2.1.1 w.1 w.2.1 w.2.2 q0 2 ha rfl hin hdg (fun H1 l1 hP hD hS => kk H1 l1 ⟨hP, hD, hS⟩)
theorem kx_zast (E : kE p m c cc nL s args own D a A) (w : kW D A s ws H locs) (q0 : Nat) {x n : Nat} {f : Nat → Int32} (ha : ws[q0]? = some (x, .inl (a 3, n, .inl f))) {i z z' : Int32} (hin : vp_in i n) (k : Nat) (hk : i.toNatClampNeg = k) (hz : vp_nar .boolean z = z') (hdg : decode cc pc = .ok (.bastore, 1)) {ws' : va_W} (hws : ws.set q0 (x, .inl (a 3, n, .inl (upd f k z'))) = ws')
    (kk : ∀ (H1 : Heap) (locs1 : List Loc), kW D A s ws' H1 locs1 → W p l e R s m args below meth c H1 locs1 cells slots Q (F0 m (pc + 1) ls rest)) : W p l e R s m args below meth c H locs cells slots Q (F0 m pc ls (.int z :: .int i :: .ref x :: rest)) := by
  subst hk; subst hz; subst hws; exact va_zast E.1.1 E.1.2.1 E.2.1.1 w.1 w.2.1 w.2.2 q0 3 ha rfl hin hdg (fun H1 l1 hP hD hS => kk H1 l1 ⟨hP, hD, hS⟩)
theorem kx_last (E : kE p m c cc nL s args own D a A) (w : kW D A s ws H locs) (q0 : Nat) {x n : Nat} {f : Nat → Int64} (ha : ws[q0]? = some (x, .inl (a 1, n, .inr (.inl f)))) {i : Int32} {z : Int64} (hin : vp_in i n) (k : Nat) (hk : i.toNatClampNeg = k) (hdg : decode cc pc = .ok (.lastore, 1)) {ws' : va_W} (hws : ws.set q0 (x, .inl (a 1, n, .inr (.inl (vp_updL f k z)))) = ws')
    (kk : ∀ (H1 : Heap) (locs1 : List Loc), kW D A s ws' H1 locs1 → W p l e R s m args below meth c H1 locs1 cells slots Q (F0 m (pc + 1) ls rest)) : W p l e R s m args below meth c H locs cells slots Q (F0 m pc ls (.long z :: .int i :: .ref x :: rest)) := by
  subst hk; subst hws; exact va_last E.1.1 E.1.2.1 E.2.1.1 w.1 w.2.1 w.2.2 q0 1 ha rfl hin hdg (fun H1 l1 hP hD hS => kk H1 l1 ⟨hP, hD, hS⟩)
theorem kx_alen (E : kE p m c cc nL s args own D a A) (w : kW D A s ws H locs) (q0 t0 : Nat) {x : Nat} {cA : ClassId} {ar : vp_A} (ha : ws[q0]? = some (x, .inl (cA, ar))) {ty : FieldType} (ht : (kT a)[t0]? = some (cA, ty)) {v : Int32} (hv : Int32.ofNat ar.1 = v) (hdg : decode cc pc = .ok (.arraylength, 1)) (kk : W p l e R s m args below meth c H locs cells slots Q (F0 m (pc + 1) ls (.int v :: rest))) : W p l e R s m args below meth c H locs cells slots Q (F0 m pc ls (.ref x :: rest)) :=
  va_alen E.1.1 E.1.2.1 E.2.1.1 w.1 q0 t0 ha ht hv hdg kk
theorem kx_aald (E : kE p m c cc nL s args own D a A) (w : kW D A s ws H locs) (q0 t0 : Nat) {x n : Nat} {cA : ClassId} {C : String} {f : Nat → Option Nat} (ha : ws[q0]? = some (x, .inl (cA, n, .inr (.inr (.inr (.inr f)))))) (ht : (kT a)[t0]? = some (cA, .object C)) {i : Int32} (hin : vp_in i n) {y : Nat} (hv : f i.toNatClampNeg = some y) (hdg : decode cc pc = .ok (.aaload, 1)) (kk : W p l e R s m args below meth c H locs cells slots Q (F0 m (pc + 1) ls (.ref y :: rest))) : W p l e R s m args below meth c H locs cells slots Q (F0 m pc ls (.int i :: .ref x :: rest)) :=
  va_aldq E.1.1 E.1.2.1 E.2.1.1 w.1 q0 t0 ha ht hin hdg (by rw [hv]; exact kk)
theorem kx_aast (E : kE p m c cc nL s args own D a A) (w : kW D A s ws H locs) (q0 t0 qk ci : Nat) {x n : Nat} {cA : ClassId} {r : vw_C} {v : Nat} {vs : List Value} {f : Nat → Option Nat} (ha : ws[q0]? = some (x, .inl (cA, n, .inr (.inr (.inr (.inr f)))))) (ht : (kT a)[t0]? = some (cA, .object r.1)) (hv : ws[qk]? = some (v, .inr (ci, vs))) (hc : zCl[ci]? = some r) {i : Int32} (hin : vp_in i n) (k : Nat) (hk : i.toNatClampNeg = k) (hdg : decode cc pc = .ok (.aastore, 1)) {ws' : va_W} (hws : ws.set q0 (x, .inl (cA, n, .inr (.inr (.inr (.inr (va_up f k (some v))))))) = ws')
    (kk : ∀ (H1 : Heap) (locs1 : List Loc), kW D A s ws' H1 locs1 → W p l e R s m args below meth c H1 locs1 cells slots Q (F0 m (pc + 1) ls rest)) : W p l e R s m args below meth c H locs cells slots Q (F0 m pc ls (.ref v :: .int i :: .ref x :: rest)) := by
  subst hk; subst hws; exact va_astq E.1.1 E.1.2.1 E.2.1.1 w.1 w.2.1 w.2.2 q0 t0 qk ci ha ht hv hc hin hdg (fun H1 l1 hP hD hS => kk H1 l1 ⟨hP, hD, hS⟩)
end KX
theorem kx_inc (i : Nat) : nI i + Int32.ofInt 1 = nI (i + 1) := nI_1 i
theorem kx_0add (x : Int32) : 0 + x = x := Int32.zero_add x
