/-! THROWS THAT GIVE THE WORLD BACK: the Stand is taken anew at the place of the throw -/
section RBA
variable {l : Launch} {p : Program} {e : Env} {R : Room} {s : State} {m : MethodId} {args : Array Value} {below : List Frame} {meth : Method} {c : Code} {T : State} {locs : List Loc} {cells slots : Nat}
def rb_s (s T : State) : State := { s with heap := T.heap, slotsUsed := T.slotsUsed }
def rb_R (R : Room) (cells slots : Nat) : Room := { R with cells := R.cells - cells, slots := R.slots - slots }
theorem rb_stand (X : Stand p l e R s m args below meth c T locs cells slots) (hc : cells ≤ R.cells) (hn : slots ≤ R.slots) : Stand p l e (rb_R R cells slots) (rb_s s T) m args below meth c T [] 0 0 := by
  have hz := X.heapSize
  have hu := X.used
  have hroom := X.room
  refine ⟨X.admits, X.cas, X.clock, X.frames, ?_, X.hears, X.method, X.code, X.here, X.tail, X.warmed, X.limits, X.bytes, ?_⟩
  · simp only [State.hasRoom, Bool.and_eq_true, decide_eq_true_eq] at hroom ⊢
    obtain ⟨⟨⟨⟨h1, h2⟩, h3⟩, h4⟩, h5⟩ := hroom
    refine ⟨⟨⟨⟨h1, h2⟩, ?_⟩, ?_⟩, X.book⟩
    · show T.heap.size + (R.cells - cells) ≤ _
      omega
    · show T.slotsUsed + (R.slots - slots) ≤ _
      omega
  · refine ⟨?_, Nat.le_refl _, Nat.le_refl _, ?_, ?_, fun a c hc => ⟨c, hc, rfl, rfl, fun _ _ => rfl⟩⟩
    · exact X.same.1
    · show T.slotsUsed = T.slotsUsed + ((T.heap.toList.drop T.heap.size).map (·.slots.size)).sum
      rw [List.drop_of_length_le (by simp)]; rfl
    · show ((T.heap.toList.drop T.heap.size).map (·.slots.size)).sum ≤ 0
      rw [List.drop_of_length_le (by simp)]; exact Nat.le_refl _
theorem rb_same {U : State} {k n : Nat} (X : Stand p l e R s m args below meth c T locs cells slots) (h : (rb_s s T).sameButNew ({ U with vm := (rb_s s T).vm } : State) [] k n) : s.sameButNew ({ U with vm := s.vm } : State) locs (cells + k) (slots + n) := by
  obtain ⟨a1, a2, a3, a4, a5, a6⟩ := X.same
  have b0 := fun (a : Addr) (c : Cell) (hc : (rb_s s T).heap[a]? = some c) => State.sameButNew.old_cell h hc
  obtain ⟨b1, b2, b3, b4, b5, b6⟩ := h
  have a2 : s.heap.size ≤ T.heap.size := a2
  have a3 : T.heap.size ≤ s.heap.size + cells := a3
  have a4 : T.slotsUsed = s.slotsUsed + ((T.heap.toList.drop s.heap.size).map (·.slots.size)).sum := a4
  have a5 : ((T.heap.toList.drop s.heap.size).map (·.slots.size)).sum ≤ slots := a5
  have b2 : T.heap.size ≤ U.heap.size := b2
  have b3 : U.heap.size ≤ T.heap.size + k := b3
  have b4 : U.slotsUsed = T.slotsUsed + ((U.heap.toList.drop T.heap.size).map (·.slots.size)).sum := b4
  have b5 : ((U.heap.toList.drop T.heap.size).map (·.slots.size)).sum ≤ n := b5
  have b0 : ∀ (a : Addr) (c : Cell), T.heap[a]? = some c → U.heap[a]? = some c := b0
  have hl : U.heap.toList = T.heap.toList ++ U.heap.toList.drop T.heap.size := by
    conv => lhs; rw [← List.take_append_drop T.heap.size U.heap.toList]
    congr 1
    apply List.ext_getElem?
    intro i
    by_cases hi : i < T.heap.size
    · rw [List.getElem?_take_of_lt hi]
      have h1 := b0 i _ (Array.getElem?_eq_getElem hi)
      rw [Array.getElem?_toList, Array.getElem?_toList, h1, Array.getElem?_eq_getElem hi]
    · rw [List.getElem?_eq_none (by rw [List.length_take]; simp; omega), List.getElem?_eq_none (by simp; omega)]
  have hd : U.heap.toList.drop s.heap.size = T.heap.toList.drop s.heap.size ++ U.heap.toList.drop T.heap.size := by
    conv => lhs; rw [hl]
    rw [List.drop_append_of_le_length (by simpa using a2)]
  have hsum : ((U.heap.toList.drop s.heap.size).map (·.slots.size)).sum = ((T.heap.toList.drop s.heap.size).map (·.slots.size)).sum + ((U.heap.toList.drop T.heap.size).map (·.slots.size)).sum := by
    rw [hd, List.map_append, List.sum_append]
  refine ⟨b1, Nat.le_trans a2 b2, ?_, ?_, ?_, ?_⟩
  · show U.heap.size ≤ s.heap.size + (cells + k)
    omega
  · show U.slotsUsed = s.slotsUsed + _
    rw [hsum]; omega
  · show ((U.heap.toList.drop s.heap.size).map (·.slots.size)).sum ≤ _
    rw [hsum]; omega
  · intro a c hc
    obtain ⟨c', g1, g2⟩ := a6 a c hc
    exact ⟨c', b0 a c' g1, g2⟩
end RBA
section RBB
variable {l : Launch} {p : Program} {e : Env} {R : Room} {s : State} {m : MethodId} {args : Array Value} {below : List Frame} {meth : Method} {c : Code} {H : Heap} {locs : List Loc} {cells slots : Nat}
/-- 'throw new E()' where nothing catches it: what was there stays as it is -/
theorem rb_throw {cc : ByteArray} {pc : Nat} {ls : Array Slot} {rest : List Value} {Qc : Array Value → State → Outcome → State → Prop} {free : Addr → Prop} {mc ms : Nat} {A : Nat → Prop} (hexec : p.tables.exec = Jvm.exec) (hb : c.code = cc) (hfl : l.flags = pinnedFlags ++ [noTraceFlag]) {own cls : String} {names : List String} {ik ic : Nat}
    (hown : s.vm.findClass own = some m.cls) (hcls : Bundle.fit cls = true) (hnames : ∀ n ∈ names, Bundle.fit n = true) (hZ : tx_Z A s s.heap)
    (hat : ∀ w ∈ (Bundle.ownAtoms0 own ic cls names).filter tx_tab, ∀ U : State, s.WarmedH U.vm → w.before args U = true) (hk : ∀ U : State, s.WarmedH U.vm → (Cond.classLink own ik cls).before args U = true) (hini : ∀ U : State, s.WarmedH U.vm → (Cond.initialized cls).before args U = true)
    (hS : va_S A s.heap H locs) (hsize : ls.size = c.maxLocals) (hout : c.exceptionTable.toList = []) (hlocks : meth.locks = false)
    (hRf : names.length + 3 < R.frames) (hRl : (rest.map fun v => v.category).sum + (13 * (names.length + 1) + 42) ≤ R.locals) (hRc : cells + 1 ≤ R.cells) (hRs : slots + 6 ≤ R.slots) (hmc : cells + 1 ≤ mc) (hms : slots + 6 ≤ ms)
    (d0 : decode cc pc = .ok (.new ik, 3)) (d3 : decode cc (pc + 3) = .ok (.dup, 1)) (d4 : decode cc (pc + 4) = .ok (.invokespecial ic, 3)) (d7 : decode cc (pc + 7) = .ok (.athrow, 1)) (hf : ∀ q ∈ locs, free q.base)
    (hq : ∀ (q : Addr) (ce : Cell) (t : State), s.WarmedH t.vm → H.size ≤ q → t.heap[q]? = some ce → ce.vm = .none → s.vm.findClass cls = some ce.cls → (∀ a : Nat, a < H.size → t.heap[a]? = H[a]?) → va_F A s t → Qc args s (.threw q) t) :
    W p l e R s m args below meth c H locs cells slots (tx_Q below Qc args s mc ms free) (F0 m pc ls rest) := by
  intro T hT X0
  have X := rb_stand X0 (by omega) (by omega)
  have htr : e.platform.stackTraces = false := Launch.traces_off hfl X.admits
  have hW0 : s.WarmedH (rb_s s T).vm := State.WarmedH.refl s
  have hZ2 : tx_Z A (rb_s s T) (rb_s s T).heap := (hZ.kept (H1 := (rb_s s T).heap) (fun a h1 h2 => by show T.heap[a]? = _; rw [hT]; exact hS.2.1 a h1 h2)).moved (Vm.Alike.refl s.vm)
  have hw := tx_words (args := args) hZ2 (fun w hw => hat w hw (rb_s s T) hW0)
  have hins : (Cond.instantiable cls 6).before args (rb_s s T) = true := hw _ (by simp [Bundle.ownAtoms0])
  obtain ⟨vm₁, cX, kX, hfX, hkX, -, -, X₁, st1⟩ := X.newCold hexec (own := own) (C := cls) (index := ik) (n := 6) hown (hk _ hW0) hins (hini _ hW0) (g := F0 m pc ls rest) rfl (by rw [hb]; exact d0) (by show 0 + 1 ≤ R.cells - cells; omega) (by show 0 + 6 ≤ R.slots - slots; omega)
  generalize hT1 : (T.setVm vm₁).pushCell { cls := cX, slots := kX.instanceTypes.map defaultValue, vm := .none } = T1 at X₁ st1
  have hcellA : T1.heap[T.heap.size]? = some (freshCell cX kX) := by rw [← hT1]; exact State.heap_pushCell_size _ _
  have d3' : decode c.code (pc + 3) = .ok (.dup, 1) := by rw [hb]; exact d3
  have hcat : (Value.ref T.heap.size).category = 1 := rfl
  obtain ⟨U, hsteps, hrun, hend, hW, hsame, ce, hce, hO⟩ := X₁.ctorThrow0 hexec htr (own := own) (cls := cls) (names := names) (ic := ic) hown hcls hnames hw (fun x hx => by cases hx) hfX hkX hcellA (Nat.le_refl _)
    (g := { method := m, pc := pc + 4, locals := ls, stack := .ref T.heap.size :: .ref T.heap.size :: rest, locked := none }) rfl hsize rfl rfl (rest := rest) rfl
    (by rw [hb]; exact d4) (by rw [hb]; exact d7) (by rw [hout]; intro y hy; cases hy) hRf (by simp only [List.map_cons, List.sum_cons, hcat]; show 2 * 0 + _ + _ ≤ R.locals; omega) hlocks
  have hold : ∀ a : Nat, a < H.size → U.heap[a]? = H[a]? := fun a ha => by
    have h1 : H[a]? = some H[a] := Array.getElem?_eq_getElem ha
    rw [h1]
    exact State.sameButNew.old_cell hsame (show T.heap[a]? = some H[a] by rw [hT]; exact h1)
  have hz : H.size ≤ U.heap.size := by rw [← hT]; exact hsame.2.1
  refine ⟨U, ?_, .threw T.heap.size, hrun, hend, hq T.heap.size ce U hW (by rw [hT]; exact Nat.le_refl _) hce hO.vm hO.cls hold ⟨Nat.le_trans hS.1 hz, fun q h1 h2 => by rw [hold q (Nat.lt_of_lt_of_le h1 hS.1)]; exact hS.2.1 q h1 h2⟩, locs, ⟨hW, (rb_same X0 hsame).mono hmc hms⟩, hf⟩
  refine st1 _ ?_
  show Steps p.tables e below (T1.setTop { method := m, pc := pc + 3, locals := ls, stack := .ref T.heap.size :: rest, locked := none }) _
  jvm_step X₁.here [X₁.here.top, hexec, d3', Value.category]
  exact hsteps
end RBB
