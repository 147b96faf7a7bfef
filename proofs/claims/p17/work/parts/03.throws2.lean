/-! THROWABLE'S OWN STATICS, which nobody writes -/
/-- the static reference field n of Throwable: laid, in its own cell, outside of A -/
def tx_S (n d : String) (A : Nat → Prop) (U : State) (H : Heap) : Prop :=
  ∃ (k : ClassId) (kc : Class) (i : Nat) (f : Field) (a : Nat) (cell : Cell) (v : Value), U.vm.findClass Bundle.tN = some k ∧ U.fieldFound? Bundle.tN n d = some (k, kc, i, f) ∧ f.isStatic = true ∧ kc.statics = some a ∧ H[a]? = some cell ∧ cell.vm.isStatics = true ∧ cell.cls = k ∧
    f.slot < cell.slots.size ∧ kc.staticTypes[f.slot]? = some f.type ∧ cell.slots[f.slot]? = some v ∧ (v = .null ∨ ∃ r, v = .ref r) ∧ ¬ A a
theorem tx_S.moved {n d : String} {A : Nat → Prop} {u U : State} {H : Heap} (hvm : u.vm.Alike U.vm) (h : tx_S n d A u H) : tx_S n d A U H := by
  obtain ⟨k, kc, i, f, a, cell, v, h1, h2, h3, h4, h5, h6, h7, h8, h9, h10⟩ := h
  obtain ⟨k', hi', he⟩ := State.fieldFound?_setVm hvm h2
  exact ⟨k, k', i, f, a, cell, v, by rw [hvm.findClass]; exact h1, hi', h3, by rw [he]; exact h4, h5, h6, h7, h8, by rw [he]; exact h9, h10⟩
theorem tx_S.kept {n d : String} {A : Nat → Prop} {U : State} {H H1 : Heap} (h : tx_S n d A U H) (hq : ∀ a : Nat, a < H.size → ¬ A a → H1[a]? = H[a]?) : tx_S n d A U H1 := by
  obtain ⟨k, kc, i, f, a, cell, v, h1, h2, h3, h4, h5, h6, h7, h8, h9, h10, h11, h12⟩ := h
  exact ⟨k, kc, i, f, a, cell, v, h1, h2, h3, h4, by rw [hq a (Array.getElem?_eq_some_iff.mp h5).1 h12]; exact h5, h6, h7, h8, h9, h10, h11, h12⟩
theorem tx_S.narrow {n d : String} {A B : Nat → Prop} {U : State} {H : Heap} (h : tx_S n d A U H) (hAB : ∀ q : Nat, q < H.size → B q → A q) : tx_S n d B U H := by
  obtain ⟨k, kc, i, f, a, cell, v, h1, h2, h3, h4, h5, h6, h7, h8, h9, h10, h11, h12⟩ := h
  exact ⟨k, kc, i, f, a, cell, v, h1, h2, h3, h4, h5, h6, h7, h8, h9, h10, h11, fun z => h12 (hAB a (Array.getElem?_eq_some_iff.mp h5).1 z)⟩
theorem tx_S.lay {n d : String} {A : Nat → Prop} {U : State} {args : Array Value} (h : tx_S n d A U U.heap) : (Cond.laysStatic Bundle.tN n d).before args U = true := by
  obtain ⟨k, kc, i, f, a, cell, v, h1, h2, h3, h4, h5, h6, h7, h8, h9, h10, h11, h12⟩ := h
  simp [Cond.before, Cond.holds, Cond.value, h1, h2, h3, h4, h5, h6, h7, h8, h9]
theorem tx_S.isRef {n d : String} {A : Nat → Prop} {U : State} {args : Array Value} (h : tx_S n d A U U.heap) : (Cond.isRef (.static Bundle.tN n d)).before args U = true := by
  obtain ⟨k, kc, i, f, a, cell, v, h1, h2, h3, h4, h5, h6, h7, h8, h9, h10, h11, h12⟩ := h
  have he : (Term.static Bundle.tN n d).eval args U none [] U = some v := by
    simp [Term.eval, State.fieldNamed?, h2, h3, h4, h5, h6, h10]
  rcases h11 with rfl | ⟨r, rfl⟩ <;> simp [Cond.before, Cond.holds, Cond.value, he]
theorem tx_S.of {n d : String} {A : Nat → Prop} {s : State} {args : Array Value} (hl : (Cond.laysStatic Bundle.tN n d).before args s = true) (hr : (Cond.isRef (.static Bundle.tN n d)).before args s = true) (hA : ∀ a : Nat, a < s.heap.size → ¬ A a) : tx_S n d A s s.heap := by
  obtain ⟨k, kc, i, f, a, cell, h1, h2, h3, h4, h5, h6, h7, h8, h9⟩ := Cond.laysStatic_spec hl
  cases hv : (Term.static Bundle.tN n d).eval args s none [] s with
  | none => simp [Cond.before, Cond.holds, Cond.value, hv] at hr
  | some v =>
    obtain ⟨-, a', cell', ha', hcell', -, hslot⟩ := Term.static_spec h2 hv
    cases h4.symm.trans ha'
    cases h5.symm.trans hcell'
    refine ⟨k, kc, i, f, a, cell, v, h1, h2, h3, h4, h5, h6, h7, h8, h9, hslot, ?_, hA a (Array.getElem?_eq_some_iff.mp h5).1⟩
    cases v <;> simp [Cond.before, Cond.holds, Cond.value, hv] at hr ⊢
/-- both of them -/
def tx_Z (A : Nat → Prop) (U : State) (H : Heap) : Prop := tx_S "UNASSIGNED_STACK" Bundle.steD A U H ∧ tx_S "SUPPRESSED_SENTINEL" Bundle.listD A U H
theorem tx_Z.moved {A : Nat → Prop} {u U : State} {H : Heap} (hvm : u.vm.Alike U.vm) (h : tx_Z A u H) : tx_Z A U H := ⟨h.1.moved hvm, h.2.moved hvm⟩
theorem tx_Z.kept {A : Nat → Prop} {U : State} {H H1 : Heap} (h : tx_Z A U H) (hq : ∀ a : Nat, a < H.size → ¬ A a → H1[a]? = H[a]?) : tx_Z A U H1 := ⟨h.1.kept hq, h.2.kept hq⟩
theorem tx_Z.narrow {A B : Nat → Prop} {U : State} {H : Heap} (h : tx_Z A U H) (hAB : ∀ q : Nat, q < H.size → B q → A q) : tx_Z B U H := ⟨h.1.narrow hAB, h.2.narrow hAB⟩
/-- the words of 'new E(); throw' that the tables alone say -/
def tx_tab (w : Cond) : Bool := decide (w ≠ .isRef (.static Bundle.tN "UNASSIGNED_STACK" Bundle.steD)) && decide (w ≠ .isRef (.static Bundle.tN "SUPPRESSED_SENTINEL" Bundle.listD)) && decide (w ≠ .laysStatic Bundle.tN "UNASSIGNED_STACK" Bundle.steD) && decide (w ≠ .laysStatic Bundle.tN "SUPPRESSED_SENTINEL" Bundle.listD)
theorem tx_words {own cls : String} {names : List String} {ic : Nat} {A : Nat → Prop} {s : State} {args : Array Value} (hZ : tx_Z A s s.heap) (h : ∀ w ∈ (Bundle.ownAtoms0 own ic cls names).filter tx_tab, w.before args s = true) :
    ∀ w ∈ Bundle.ownAtoms0 own ic cls names, w.before args s = true := by
  intro w hw
  by_cases h1 : w = .isRef (.static Bundle.tN "UNASSIGNED_STACK" Bundle.steD)
  · rw [h1]; exact hZ.1.isRef
  by_cases h2 : w = .isRef (.static Bundle.tN "SUPPRESSED_SENTINEL" Bundle.listD)
  · rw [h2]; exact hZ.2.isRef
  by_cases h3 : w = .laysStatic Bundle.tN "UNASSIGNED_STACK" Bundle.steD
  · rw [h3]; exact hZ.1.lay
  by_cases h4 : w = .laysStatic Bundle.tN "SUPPRESSED_SENTINEL" Bundle.listD
  · rw [h4]; exact hZ.2.lay
  exact h w (List.mem_filter.mpr ⟨hw, by simp [tx_tab, h1, h2, h3, h4]⟩)
section TXC
variable {l : Launch} {p : Program} {e : Env} {R : Room} {s : State} {m : MethodId} {args : Array Value} {below : List Frame} {meth : Method} {c : Code} {H : Heap} {locs : List Loc} {cells slots : Nat}
/-- what is kept by a frame: cells that were there and that it doesn't name -/
theorem tx_frame {t : State} {k n : Nat} (h : s.sameButNew ({ t with vm := s.vm } : State) locs k n) : s.heap.size ≤ t.heap.size ∧ ∀ q : Nat, q < s.heap.size → (∀ z ∈ locs, z.base ≠ q) → t.heap[q]? = s.heap[q]? := by
  obtain ⟨-, h2, -, -, -, h6⟩ := h
  refine ⟨h2, fun q hq hz => ?_⟩
  have hc : s.heap[q]? = some s.heap[q] := Array.getElem?_eq_getElem hq
  obtain ⟨c', g1, g2, g3, g4⟩ := h6 q _ hc
  have g1 : t.heap[q]? = some c' := g1
  rw [g1, hc]
  have hs : c'.slots = s.heap[q].slots := by
    refine Array.ext_getElem? fun i => ?_
    exact g4 i (fun hm => hz _ hm rfl)
  rw [g2, hs]
/-- 'throw new E()' where nothing catches it: new; dup; invokespecial; athrow -/
theorem tx_throw {cc : ByteArray} {pc : Nat} {ls : Array Slot} {rest : List Value} {Qc : Array Value → State → Outcome → State → Prop} {free : Addr → Prop} {mc ms : Nat} {A : Nat → Prop} (hexec : p.tables.exec = Jvm.exec) (hb : c.code = cc) (hfl : l.flags = pinnedFlags ++ [noTraceFlag]) {own cls : String} {names : List String} {ik ic : Nat}
    (hown : s.vm.findClass own = some m.cls) (hcls : Bundle.fit cls = true) (hnames : ∀ n ∈ names, Bundle.fit n = true) (hZ : tx_Z A s s.heap)
    (hat : ∀ w ∈ (Bundle.ownAtoms0 own ic cls names).filter tx_tab, w.before args s = true) (hk : (Cond.classLink own ik cls).before args s = true) (hini : (Cond.initialized cls).before args s = true)
    (hS : va_S A s.heap H locs) (hlocs : ∀ q : Nat, A q → ∀ cell, s.heap[q]? = some cell → cell.vm.isStatics = false) (hsize : ls.size = c.maxLocals) (hout : c.exceptionTable.toList = []) (hlocks : meth.locks = false)
    (hRf : names.length + 3 < R.frames) (hRl : (rest.map fun v => v.category).sum + (13 * (names.length + 1) + 42) ≤ R.locals) (hRc : cells + 1 ≤ R.cells) (hRs : slots + 6 ≤ R.slots) (hmc : cells + 1 ≤ mc) (hms : slots + 6 ≤ ms)
    (d0 : decode cc pc = .ok (.new ik, 3)) (d3 : decode cc (pc + 3) = .ok (.dup, 1)) (d4 : decode cc (pc + 4) = .ok (.invokespecial ic, 3)) (d7 : decode cc (pc + 7) = .ok (.athrow, 1)) (hf : ∀ q ∈ locs, free q.base)
    (hq : ∀ (q : Addr) (ce : Cell) (t : State), s.WarmedH t.vm → H.size ≤ q → t.heap[q]? = some ce → ce.vm = .none → s.vm.findClass cls = some ce.cls → va_F A s t → Qc args s (.threw q) t) :
    W p l e R s m args below meth c H locs cells slots (tx_Q below Qc args s mc ms free) (F0 m pc ls rest) := by
  intro T hT X
  have htr : e.platform.stackTraces = false := Launch.traces_off hfl X.admits
  have hw := tx_words hZ hat
  have hins : (Cond.instantiable cls 6).before args s = true := hw _ (by simp [Bundle.ownAtoms0])
  obtain ⟨vm₁, cX, kX, hfX, hkX, -, -, X₁, st1⟩ := X.newCold hexec (own := own) (C := cls) (index := ik) (n := 6) hown hk hins hini (g := F0 m pc ls rest) rfl (by rw [hb]; exact d0) hRc hRs
  generalize hT1 : (T.setVm vm₁).pushCell { cls := cX, slots := kX.instanceTypes.map defaultValue, vm := .none } = T1 at X₁ st1
  have hcellA : T1.heap[T.heap.size]? = some (freshCell cX kX) := by rw [← hT1]; exact State.heap_pushCell_size _ _
  have d3' : decode c.code (pc + 3) = .ok (.dup, 1) := by rw [hb]; exact d3
  have hcat : (Value.ref T.heap.size).category = 1 := rfl
  obtain ⟨U, hsteps, hrun, hend, hW, hsame, ce, hce, hO⟩ := X₁.ctorThrow0 hexec htr (own := own) (cls := cls) (names := names) (ic := ic) hown hcls hnames hw (fun x hx cell hc => hlocs _ (hS.2.2 x hx) cell hc) hfX hkX hcellA (by rw [hT]; exact hS.1)
    (g := { method := m, pc := pc + 4, locals := ls, stack := .ref T.heap.size :: .ref T.heap.size :: rest, locked := none }) rfl hsize rfl rfl (rest := rest) rfl
    (by rw [hb]; exact d4) (by rw [hb]; exact d7) (by rw [hout]; intro y hy; cases hy) hRf (by simp only [List.map_cons, List.sum_cons, hcat]; show 2 * 0 + _ + _ ≤ _; omega) hlocks
  obtain ⟨f1, f2⟩ := tx_frame hsame
  refine ⟨U, ?_, .threw T.heap.size, hrun, hend, hq T.heap.size ce U hW (by rw [hT]; exact Nat.le_refl _) hce hO.vm hO.cls ⟨f1, fun q h1 h2 => f2 q h1 (fun z hz e9 => h2 (by rw [← e9]; exact hS.2.2 z hz))⟩, locs, ⟨hW, hsame.mono hmc hms⟩, hf⟩
  refine st1 _ ?_
  show Steps p.tables e below (T1.setTop { method := m, pc := pc + 3, locals := ls, stack := .ref T.heap.size :: rest, locked := none }) _
  jvm_step X₁.here [X₁.here.top, hexec, d3', Value.category]
  exact hsteps
end TXC
