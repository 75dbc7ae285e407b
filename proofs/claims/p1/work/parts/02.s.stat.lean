/-! own rows: the two statics of Throwable that a throw reads -/
def zTh : String := "java/lang/Throwable"
def zS (n d : String) (A : Nat → Prop) (U : State) (H : Heap) : Prop := ∃ (c : ClassId) (k : Class) (i : Nat) (f : Field) (x : Nat) (cell : Cell) (v : Value), U.vm.findClass zTh = some c ∧ U.fieldFound? zTh n d = some (c, k, i, f) ∧ f.isStatic = true ∧ k.statics = some x ∧ H[x]? = some cell ∧ cell.vm.isStatics = true ∧ cell.cls = c ∧ f.slot < cell.slots.size ∧ k.staticTypes[f.slot]? = some f.type ∧ cell.slots[f.slot]? = some v ∧ v.isRef = true ∧ ¬ A x
theorem zS.moved {n d : String} {A : Nat → Prop} {u U : State} {H : Heap} (hvm : u.vm.Alike U.vm) (h : zS n d A u H) : zS n d A U H := by
  obtain ⟨c, k, i, f, x, cell, v, h1, h2, h3, h4, h5, h6, h7, h8, h9, h10⟩ := h
  obtain ⟨k', hi', he⟩ := State.fieldFound?_setVm hvm h2
  exact ⟨c, k', i, f, x, cell, v, by rw [hvm.findClass]; exact h1, hi', h3, by rw [he]; exact h4, h5, h6, h7, h8, by rw [he]; exact h9, h10⟩
theorem zS.kept {n d : String} {A : Nat → Prop} {U : State} {H H1 : Heap} (h : zS n d A U H) (hq : ∀ a : Nat, a < H.size → ¬ A a → H1[a]? = H[a]?) : zS n d A U H1 := by
  obtain ⟨c, k, i, f, x, cell, v, h1, h2, h3, h4, h5, h6, h7, h8, h9, h10, h11, h12⟩ := h
  exact ⟨c, k, i, f, x, cell, v, h1, h2, h3, h4, by rw [hq x (Array.getElem?_eq_some_iff.mp h5).1 h12]; exact h5, h6, h7, h8, h9, h10, h11, h12⟩
theorem zS.narrow {n d : String} {A B : Nat → Prop} {U : State} {H : Heap} (h : zS n d A U H) (hAB : ∀ q, B q → A q) : zS n d B U H := by
  obtain ⟨c, k, i, f, x, cell, v, h1, h2, h3, h4, h5, h6, h7, h8, h9, h10, h11, h12⟩ := h
  exact ⟨c, k, i, f, x, cell, v, h1, h2, h3, h4, h5, h6, h7, h8, h9, h10, h11, fun z => h12 (hAB x z)⟩
theorem zS.lays {n d : String} {A : Nat → Prop} {s : State} {args : Array Value} (h : zS n d A s s.heap) : (Cond.laysStatic zTh n d).before args s = true := by
  obtain ⟨c, k, i, f, x, cell, v, h1, h2, h3, h4, h5, h6, h7, h8, h9, -⟩ := h
  show (Cond.laysStatic zTh n d).holds args s none s [] = true
  exact Cond.laysStatic_of h1 h2 h3 h4 h5 h6 h7 h8 h9
theorem zS.refs {n d : String} {A : Nat → Prop} {s : State} {args : Array Value} (h : zS n d A s s.heap) : (Cond.isRef (.static zTh n d)).before args s = true := by
  obtain ⟨c, k, i, f, x, cell, v, h1, h2, h3, h4, h5, h6, h7, h8, h9, h10, h11, -⟩ := h
  have he : (Term.static zTh n d).eval args s none [] s = some v := by
    simp [Term.eval, State.fieldNamed?, h2, h3, h4, h5, h6, h10]
  simp only [Cond.before, Cond.holds, Cond.value, he]
  cases v <;> simp_all [Value.isRef]
theorem zS.of {n d : String} {A : Nat → Prop} {s : State} {args : Array Value} (hl : (Cond.laysStatic zTh n d).before args s = true) (hr : (Cond.isRef (.static zTh n d)).before args s = true) (hA : ∀ a : Nat, a < s.heap.size → ¬ A a) : zS n d A s s.heap := by
  obtain ⟨c, k, i, f, x, cell, h1, h2, h3, h4, h5, h6, h7, h8, h9⟩ := Cond.laysStatic_spec hl
  simp only [Cond.before, Cond.holds, Cond.value] at hr
  cases he : (Term.static zTh n d).eval args s none [] s with
  | none => simp [he] at hr
  | some v =>
    obtain ⟨-, x', cell', g1, g2, -, g3⟩ := Term.static_spec h2 he
    cases h4.symm.trans g1
    cases h5.symm.trans g2
    refine ⟨c, k, i, f, x, cell, v, h1, h2, h3, h4, h5, h6, h7, h8, h9, g3, ?_, hA x (Array.getElem?_eq_some_iff.mp h5).1⟩
    rw [he] at hr
    cases v <;> simp_all [Value.isRef]
